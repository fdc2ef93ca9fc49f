set_option maxRecDepth 20000 in
theorem ggX3_init_X3_firstHalf : GoodIn wsX3_init wsX3_firstHalf := goodIn_r _ [31, 12, 32, 33, 34, 35, 36, 37, 38, 39, 40, 41, 42, 43, 44, 45, 46, 47, 48, 49, 50, 51, 52, 53, 54, 55, 56, 57, 58, 59, 60, 61, 62, 63, 100, 101, 102, 103, 104, 105, 106, 107, 108, 109, 110, 111, 112, 113, 114, 115, 116, 117, 118] (by decide +kernel) (by decide +kernel)
set_option maxRecDepth 20000 in
theorem gX3_init_X3_firstHalf : GoodIn wsX3_init (wsV RX3 59 RX3 yX3_firstHalf wsX3_firstHalf) := goodIn_app (goodIn_of _ (by decide +kernel)) ggX3_init_X3_firstHalf
set_option maxRecDepth 20000 in
theorem ggX3_init_X3_secondHalf : GoodIn wsX3_init wsX3_secondHalf := goodIn_r _ [67, 12, 68, 69, 70, 71, 72, 73, 74, 75, 76, 77, 78, 79, 80, 81, 82, 83, 84, 85, 86, 87, 88, 89, 90, 91, 92, 93, 94, 95, 96, 97, 98, 99, 100, 101, 102, 103, 104, 105, 106, 107, 108, 109, 110, 111, 112, 113, 114, 115, 116, 117, 118] (by decide +kernel) (by decide +kernel)
set_option maxRecDepth 20000 in
theorem gX3_init_X3_secondHalf : GoodIn wsX3_init (wsV RX3 62 RX3 yX3_secondHalf wsX3_secondHalf) := goodIn_app (goodIn_of _ (by decide +kernel)) ggX3_init_X3_secondHalf
theorem dX3_init_0 : decode cX3_init 0 = .ok (.aload_n 0, 1) := by decide +kernel
theorem dX3_init_1 : decode cX3_init 1 = .ok (.invokespecial 1, 3) := by decide +kernel
theorem dX3_init_4 : decode cX3_init 4 = .ok (.aload_n 0, 1) := by decide +kernel
theorem dX3_init_5 : decode cX3_init 5 = .ok (.sipush 2040, 3) := by decide +kernel
theorem dX3_init_8 : decode cX3_init 8 = .ok (.newarray .int, 2) := by decide +kernel
theorem dX3_init_10 : decode cX3_init 10 = .ok (.putfield 7, 3) := by decide +kernel
theorem dX3_init_13 : decode cX3_init 13 = .ok (.aload_n 0, 1) := by decide +kernel
theorem dX3_init_14 : decode cX3_init 14 = .ok (.bipush 8, 2) := by decide +kernel
theorem dX3_init_16 : decode cX3_init 16 = .ok (.newarray .int, 2) := by decide +kernel
theorem dX3_init_18 : decode cX3_init 18 = .ok (.putfield 13, 3) := by decide +kernel
theorem dX3_init_21 : decode cX3_init 21 = .ok (.aload_n 0, 1) := by decide +kernel
theorem dX3_init_22 : decode cX3_init 22 = .ok (.bipush 8, 2) := by decide +kernel
theorem dX3_init_24 : decode cX3_init 24 = .ok (.newarray .int, 2) := by decide +kernel
theorem dX3_init_26 : decode cX3_init 26 = .ok (.putfield 16, 3) := by decide +kernel
theorem dX3_init_29 : decode cX3_init 29 = .ok (.aload_n 0, 1) := by decide +kernel
theorem dX3_init_30 : decode cX3_init 30 = .ok (.iconst (-1), 1) := by decide +kernel
theorem dX3_init_31 : decode cX3_init 31 = .ok (.putfield 19, 3) := by decide +kernel
theorem dX3_init_34 : decode cX3_init 34 = .ok (.aload_n 0, 1) := by decide +kernel
theorem dX3_init_35 : decode cX3_init 35 = .ok (.sipush 1024, 3) := by decide +kernel
theorem dX3_init_38 : decode cX3_init 38 = .ok (.newarray .boolean, 2) := by decide +kernel
theorem dX3_init_40 : decode cX3_init 40 = .ok (.putfield 23, 3) := by decide +kernel
theorem dX3_init_43 : decode cX3_init 43 = .ok (.aload_n 0, 1) := by decide +kernel
theorem dX3_init_44 : decode cX3_init 44 = .ok (.sipush 1600, 3) := by decide +kernel
theorem dX3_init_47 : decode cX3_init 47 = .ok (.newarray .int, 2) := by decide +kernel
theorem dX3_init_49 : decode cX3_init 49 = .ok (.putfield 27, 3) := by decide +kernel
theorem dX3_init_52 : decode cX3_init 52 = .ok (.aload_n 0, 1) := by decide +kernel
theorem dX3_init_53 : decode cX3_init 53 = .ok (.bipush 64, 2) := by decide +kernel
theorem dX3_init_55 : decode cX3_init 55 = .ok (.newarray .int, 2) := by decide +kernel
theorem dX3_init_57 : decode cX3_init 57 = .ok (.putfield 30, 3) := by decide +kernel
theorem dX3_init_60 : decode cX3_init 60 = .ok (.aload_n 0, 1) := by decide +kernel
theorem dX3_init_61 : decode cX3_init 61 = .ok (.bipush 8, 2) := by decide +kernel
theorem dX3_init_63 : decode cX3_init 63 = .ok (.newarray .int, 2) := by decide +kernel
theorem dX3_init_65 : decode cX3_init 65 = .ok (.putfield 33, 3) := by decide +kernel
theorem dX3_init_68 : decode cX3_init 68 = .ok (.aload_n 0, 1) := by decide +kernel
theorem dX3_init_69 : decode cX3_init 69 = .ok (.bipush 8, 2) := by decide +kernel
theorem dX3_init_71 : decode cX3_init 71 = .ok (.newarray .int, 2) := by decide +kernel
theorem dX3_init_73 : decode cX3_init 73 = .ok (.putfield 36, 3) := by decide +kernel
theorem dX3_init_76 : decode cX3_init 76 = .ok (.aload_n 0, 1) := by decide +kernel
theorem dX3_init_77 : decode cX3_init 77 = .ok (.bipush 8, 2) := by decide +kernel
theorem dX3_init_79 : decode cX3_init 79 = .ok (.newarray .int, 2) := by decide +kernel
theorem dX3_init_81 : decode cX3_init 81 = .ok (.putfield 39, 3) := by decide +kernel
theorem dX3_init_84 : decode cX3_init 84 = .ok (.aload_n 0, 1) := by decide +kernel
theorem dX3_init_85 : decode cX3_init 85 = .ok (.bipush 64, 2) := by decide +kernel
theorem dX3_init_87 : decode cX3_init 87 = .ok (.newarray .int, 2) := by decide +kernel
theorem dX3_init_89 : decode cX3_init 89 = .ok (.putfield 42, 3) := by decide +kernel
theorem dX3_init_92 : decode cX3_init 92 = .ok (.aload_n 0, 1) := by decide +kernel
theorem dX3_init_93 : decode cX3_init 93 = .ok (.bipush 26, 2) := by decide +kernel
theorem dX3_init_95 : decode cX3_init 95 = .ok (.newarray .int, 2) := by decide +kernel
theorem dX3_init_97 : decode cX3_init 97 = .ok (.putfield 45, 3) := by decide +kernel
theorem dX3_init_100 : decode cX3_init 100 = .ok (.aload_n 0, 1) := by decide +kernel
theorem dX3_init_101 : decode cX3_init 101 = .ok (.iload_n 1, 1) := by decide +kernel
theorem dX3_init_102 : decode cX3_init 102 = .ok (.ifCond .ge 7, 3) := by decide +kernel
theorem dX3_init_105 : decode cX3_init 105 = .ok (.iconst 0, 1) := by decide +kernel
theorem dX3_init_106 : decode cX3_init 106 = .ok (.goto 15, 3) := by decide +kernel
theorem dX3_init_109 : decode cX3_init 109 = .ok (.iload_n 1, 1) := by decide +kernel
theorem dX3_init_110 : decode cX3_init 110 = .ok (.bipush 20, 2) := by decide +kernel
theorem dX3_init_112 : decode cX3_init 112 = .ok (.if_icmp .le 8, 3) := by decide +kernel
theorem dX3_init_115 : decode cX3_init 115 = .ok (.bipush 20, 2) := by decide +kernel
theorem dX3_init_117 : decode cX3_init 117 = .ok (.goto 4, 3) := by decide +kernel
theorem dX3_init_120 : decode cX3_init 120 = .ok (.iload_n 1, 1) := by decide +kernel
theorem dX3_init_121 : decode cX3_init 121 = .ok (.putfield 48, 3) := by decide +kernel
theorem dX3_init_124 : decode cX3_init 124 = .ok (.aload_n 0, 1) := by decide +kernel
theorem dX3_init_125 : decode cX3_init 125 = .ok (.getfield 33, 3) := by decide +kernel
theorem dX3_init_128 : decode cX3_init 128 = .ok (.iconst 0, 1) := by decide +kernel
theorem dX3_init_129 : decode cX3_init 129 = .ok (.ldc 51, 2) := by decide +kernel
theorem dX3_init_131 : decode cX3_init 131 = .ok (.iastore, 1) := by decide +kernel
theorem dX3_init_132 : decode cX3_init 132 = .ok (.aload_n 0, 1) := by decide +kernel
theorem dX3_init_133 : decode cX3_init 133 = .ok (.getfield 33, 3) := by decide +kernel
theorem dX3_init_136 : decode cX3_init 136 = .ok (.iconst 1, 1) := by decide +kernel
theorem dX3_init_137 : decode cX3_init 137 = .ok (.ldc 52, 2) := by decide +kernel
theorem dX3_init_139 : decode cX3_init 139 = .ok (.iastore, 1) := by decide +kernel
theorem dX3_init_140 : decode cX3_init 140 = .ok (.aload_n 0, 1) := by decide +kernel
theorem dX3_init_141 : decode cX3_init 141 = .ok (.getfield 33, 3) := by decide +kernel
theorem dX3_init_144 : decode cX3_init 144 = .ok (.iconst 2, 1) := by decide +kernel
theorem dX3_init_145 : decode cX3_init 145 = .ok (.ldc 53, 2) := by decide +kernel
theorem dX3_init_147 : decode cX3_init 147 = .ok (.iastore, 1) := by decide +kernel
theorem dX3_init_148 : decode cX3_init 148 = .ok (.aload_n 0, 1) := by decide +kernel
theorem dX3_init_149 : decode cX3_init 149 = .ok (.getfield 33, 3) := by decide +kernel
theorem dX3_init_152 : decode cX3_init 152 = .ok (.iconst 3, 1) := by decide +kernel
theorem dX3_init_153 : decode cX3_init 153 = .ok (.ldc 54, 2) := by decide +kernel
theorem dX3_init_155 : decode cX3_init 155 = .ok (.iastore, 1) := by decide +kernel
theorem dX3_init_156 : decode cX3_init 156 = .ok (.aload_n 0, 1) := by decide +kernel
theorem dX3_init_157 : decode cX3_init 157 = .ok (.getfield 33, 3) := by decide +kernel
theorem dX3_init_160 : decode cX3_init 160 = .ok (.iconst 4, 1) := by decide +kernel
theorem dX3_init_161 : decode cX3_init 161 = .ok (.ldc 55, 2) := by decide +kernel
theorem dX3_init_163 : decode cX3_init 163 = .ok (.iastore, 1) := by decide +kernel
theorem dX3_init_164 : decode cX3_init 164 = .ok (.aload_n 0, 1) := by decide +kernel
theorem dX3_init_165 : decode cX3_init 165 = .ok (.getfield 33, 3) := by decide +kernel
theorem dX3_init_168 : decode cX3_init 168 = .ok (.iconst 5, 1) := by decide +kernel
theorem dX3_init_169 : decode cX3_init 169 = .ok (.ldc 56, 2) := by decide +kernel
theorem dX3_init_171 : decode cX3_init 171 = .ok (.iastore, 1) := by decide +kernel
theorem dX3_init_172 : decode cX3_init 172 = .ok (.aload_n 0, 1) := by decide +kernel
theorem dX3_init_173 : decode cX3_init 173 = .ok (.getfield 33, 3) := by decide +kernel
theorem dX3_init_176 : decode cX3_init 176 = .ok (.bipush 6, 2) := by decide +kernel
theorem dX3_init_178 : decode cX3_init 178 = .ok (.ldc 57, 2) := by decide +kernel
theorem dX3_init_180 : decode cX3_init 180 = .ok (.iastore, 1) := by decide +kernel
theorem dX3_init_181 : decode cX3_init 181 = .ok (.aload_n 0, 1) := by decide +kernel
theorem dX3_init_182 : decode cX3_init 182 = .ok (.getfield 33, 3) := by decide +kernel
theorem dX3_init_185 : decode cX3_init 185 = .ok (.bipush 7, 2) := by decide +kernel
theorem dX3_init_187 : decode cX3_init 187 = .ok (.ldc 58, 2) := by decide +kernel
theorem dX3_init_189 : decode cX3_init 189 = .ok (.iastore, 1) := by decide +kernel
theorem dX3_init_190 : decode cX3_init 190 = .ok (.aload_n 0, 1) := by decide +kernel
theorem dX3_init_191 : decode cX3_init 191 = .ok (.invokevirtual 59, 3) := by decide +kernel
theorem dX3_init_194 : decode cX3_init 194 = .ok (.aload_n 0, 1) := by decide +kernel
theorem dX3_init_195 : decode cX3_init 195 = .ok (.invokevirtual 62, 3) := by decide +kernel
theorem dX3_init_198 : decode cX3_init 198 = .ok (.return_, 1) := by decide +kernel
theorem dX3_firstHalf_0 : decode cX3_firstHalf 0 = .ok (.aload_n 0, 1) := by decide +kernel
theorem dX3_firstHalf_1 : decode cX3_firstHalf 1 = .ok (.getfield 30, 3) := by decide +kernel
theorem dX3_firstHalf_4 : decode cX3_firstHalf 4 = .ok (.iconst 0, 1) := by decide +kernel
theorem dX3_firstHalf_5 : decode cX3_firstHalf 5 = .ok (.ldc 65, 2) := by decide +kernel
theorem dX3_firstHalf_7 : decode cX3_firstHalf 7 = .ok (.iastore, 1) := by decide +kernel
theorem dX3_firstHalf_8 : decode cX3_firstHalf 8 = .ok (.aload_n 0, 1) := by decide +kernel
theorem dX3_firstHalf_9 : decode cX3_firstHalf 9 = .ok (.getfield 30, 3) := by decide +kernel
theorem dX3_firstHalf_12 : decode cX3_firstHalf 12 = .ok (.iconst 1, 1) := by decide +kernel
theorem dX3_firstHalf_13 : decode cX3_firstHalf 13 = .ok (.ldc 66, 2) := by decide +kernel
theorem dX3_firstHalf_15 : decode cX3_firstHalf 15 = .ok (.iastore, 1) := by decide +kernel
theorem dX3_firstHalf_16 : decode cX3_firstHalf 16 = .ok (.aload_n 0, 1) := by decide +kernel
theorem dX3_firstHalf_17 : decode cX3_firstHalf 17 = .ok (.getfield 30, 3) := by decide +kernel
theorem dX3_firstHalf_20 : decode cX3_firstHalf 20 = .ok (.iconst 2, 1) := by decide +kernel
theorem dX3_firstHalf_21 : decode cX3_firstHalf 21 = .ok (.ldc 67, 2) := by decide +kernel
theorem dX3_firstHalf_23 : decode cX3_firstHalf 23 = .ok (.iastore, 1) := by decide +kernel
theorem dX3_firstHalf_24 : decode cX3_firstHalf 24 = .ok (.aload_n 0, 1) := by decide +kernel
theorem dX3_firstHalf_25 : decode cX3_firstHalf 25 = .ok (.getfield 30, 3) := by decide +kernel
theorem dX3_firstHalf_28 : decode cX3_firstHalf 28 = .ok (.iconst 3, 1) := by decide +kernel
theorem dX3_firstHalf_29 : decode cX3_firstHalf 29 = .ok (.ldc 68, 2) := by decide +kernel
theorem dX3_firstHalf_31 : decode cX3_firstHalf 31 = .ok (.iastore, 1) := by decide +kernel
theorem dX3_firstHalf_32 : decode cX3_firstHalf 32 = .ok (.aload_n 0, 1) := by decide +kernel
theorem dX3_firstHalf_33 : decode cX3_firstHalf 33 = .ok (.getfield 30, 3) := by decide +kernel
theorem dX3_firstHalf_36 : decode cX3_firstHalf 36 = .ok (.iconst 4, 1) := by decide +kernel
theorem dX3_firstHalf_37 : decode cX3_firstHalf 37 = .ok (.ldc 69, 2) := by decide +kernel
theorem dX3_firstHalf_39 : decode cX3_firstHalf 39 = .ok (.iastore, 1) := by decide +kernel
theorem dX3_firstHalf_40 : decode cX3_firstHalf 40 = .ok (.aload_n 0, 1) := by decide +kernel
theorem dX3_firstHalf_41 : decode cX3_firstHalf 41 = .ok (.getfield 30, 3) := by decide +kernel
theorem dX3_firstHalf_44 : decode cX3_firstHalf 44 = .ok (.iconst 5, 1) := by decide +kernel
theorem dX3_firstHalf_45 : decode cX3_firstHalf 45 = .ok (.ldc 70, 2) := by decide +kernel
theorem dX3_firstHalf_47 : decode cX3_firstHalf 47 = .ok (.iastore, 1) := by decide +kernel
theorem dX3_firstHalf_48 : decode cX3_firstHalf 48 = .ok (.aload_n 0, 1) := by decide +kernel
theorem dX3_firstHalf_49 : decode cX3_firstHalf 49 = .ok (.getfield 30, 3) := by decide +kernel
theorem dX3_firstHalf_52 : decode cX3_firstHalf 52 = .ok (.bipush 6, 2) := by decide +kernel
theorem dX3_firstHalf_54 : decode cX3_firstHalf 54 = .ok (.ldc 71, 2) := by decide +kernel
theorem dX3_firstHalf_56 : decode cX3_firstHalf 56 = .ok (.iastore, 1) := by decide +kernel
theorem dX3_firstHalf_57 : decode cX3_firstHalf 57 = .ok (.aload_n 0, 1) := by decide +kernel
theorem dX3_firstHalf_58 : decode cX3_firstHalf 58 = .ok (.getfield 30, 3) := by decide +kernel
theorem dX3_firstHalf_61 : decode cX3_firstHalf 61 = .ok (.bipush 7, 2) := by decide +kernel
theorem dX3_firstHalf_63 : decode cX3_firstHalf 63 = .ok (.ldc 72, 2) := by decide +kernel
theorem dX3_firstHalf_65 : decode cX3_firstHalf 65 = .ok (.iastore, 1) := by decide +kernel
theorem dX3_firstHalf_66 : decode cX3_firstHalf 66 = .ok (.aload_n 0, 1) := by decide +kernel
theorem dX3_firstHalf_67 : decode cX3_firstHalf 67 = .ok (.getfield 30, 3) := by decide +kernel
theorem dX3_firstHalf_70 : decode cX3_firstHalf 70 = .ok (.bipush 8, 2) := by decide +kernel
theorem dX3_firstHalf_72 : decode cX3_firstHalf 72 = .ok (.ldc 73, 2) := by decide +kernel
theorem dX3_firstHalf_74 : decode cX3_firstHalf 74 = .ok (.iastore, 1) := by decide +kernel
theorem dX3_firstHalf_75 : decode cX3_firstHalf 75 = .ok (.aload_n 0, 1) := by decide +kernel
theorem dX3_firstHalf_76 : decode cX3_firstHalf 76 = .ok (.getfield 30, 3) := by decide +kernel
theorem dX3_firstHalf_79 : decode cX3_firstHalf 79 = .ok (.bipush 9, 2) := by decide +kernel
theorem dX3_firstHalf_81 : decode cX3_firstHalf 81 = .ok (.ldc 74, 2) := by decide +kernel
theorem dX3_firstHalf_83 : decode cX3_firstHalf 83 = .ok (.iastore, 1) := by decide +kernel
theorem dX3_firstHalf_84 : decode cX3_firstHalf 84 = .ok (.aload_n 0, 1) := by decide +kernel
theorem dX3_firstHalf_85 : decode cX3_firstHalf 85 = .ok (.getfield 30, 3) := by decide +kernel
theorem dX3_firstHalf_88 : decode cX3_firstHalf 88 = .ok (.bipush 10, 2) := by decide +kernel
theorem dX3_firstHalf_90 : decode cX3_firstHalf 90 = .ok (.ldc 75, 2) := by decide +kernel
theorem dX3_firstHalf_92 : decode cX3_firstHalf 92 = .ok (.iastore, 1) := by decide +kernel
theorem dX3_firstHalf_93 : decode cX3_firstHalf 93 = .ok (.aload_n 0, 1) := by decide +kernel
theorem dX3_firstHalf_94 : decode cX3_firstHalf 94 = .ok (.getfield 30, 3) := by decide +kernel
theorem dX3_firstHalf_97 : decode cX3_firstHalf 97 = .ok (.bipush 11, 2) := by decide +kernel
theorem dX3_firstHalf_99 : decode cX3_firstHalf 99 = .ok (.ldc 76, 2) := by decide +kernel
theorem dX3_firstHalf_101 : decode cX3_firstHalf 101 = .ok (.iastore, 1) := by decide +kernel
theorem dX3_firstHalf_102 : decode cX3_firstHalf 102 = .ok (.aload_n 0, 1) := by decide +kernel
theorem dX3_firstHalf_103 : decode cX3_firstHalf 103 = .ok (.getfield 30, 3) := by decide +kernel
theorem dX3_firstHalf_106 : decode cX3_firstHalf 106 = .ok (.bipush 12, 2) := by decide +kernel
theorem dX3_firstHalf_108 : decode cX3_firstHalf 108 = .ok (.ldc 77, 2) := by decide +kernel
theorem dX3_firstHalf_110 : decode cX3_firstHalf 110 = .ok (.iastore, 1) := by decide +kernel
theorem dX3_firstHalf_111 : decode cX3_firstHalf 111 = .ok (.aload_n 0, 1) := by decide +kernel
theorem dX3_firstHalf_112 : decode cX3_firstHalf 112 = .ok (.getfield 30, 3) := by decide +kernel
theorem dX3_firstHalf_115 : decode cX3_firstHalf 115 = .ok (.bipush 13, 2) := by decide +kernel
theorem dX3_firstHalf_117 : decode cX3_firstHalf 117 = .ok (.ldc 78, 2) := by decide +kernel
theorem dX3_firstHalf_119 : decode cX3_firstHalf 119 = .ok (.iastore, 1) := by decide +kernel
theorem dX3_firstHalf_120 : decode cX3_firstHalf 120 = .ok (.aload_n 0, 1) := by decide +kernel
theorem dX3_firstHalf_121 : decode cX3_firstHalf 121 = .ok (.getfield 30, 3) := by decide +kernel
theorem dX3_firstHalf_124 : decode cX3_firstHalf 124 = .ok (.bipush 14, 2) := by decide +kernel
theorem dX3_firstHalf_126 : decode cX3_firstHalf 126 = .ok (.ldc 79, 2) := by decide +kernel
theorem dX3_firstHalf_128 : decode cX3_firstHalf 128 = .ok (.iastore, 1) := by decide +kernel
theorem dX3_firstHalf_129 : decode cX3_firstHalf 129 = .ok (.aload_n 0, 1) := by decide +kernel
theorem dX3_firstHalf_130 : decode cX3_firstHalf 130 = .ok (.getfield 30, 3) := by decide +kernel
theorem dX3_firstHalf_133 : decode cX3_firstHalf 133 = .ok (.bipush 15, 2) := by decide +kernel
theorem dX3_firstHalf_135 : decode cX3_firstHalf 135 = .ok (.ldc 80, 2) := by decide +kernel
theorem dX3_firstHalf_137 : decode cX3_firstHalf 137 = .ok (.iastore, 1) := by decide +kernel
theorem dX3_firstHalf_138 : decode cX3_firstHalf 138 = .ok (.aload_n 0, 1) := by decide +kernel
theorem dX3_firstHalf_139 : decode cX3_firstHalf 139 = .ok (.getfield 30, 3) := by decide +kernel
theorem dX3_firstHalf_142 : decode cX3_firstHalf 142 = .ok (.bipush 16, 2) := by decide +kernel
theorem dX3_firstHalf_144 : decode cX3_firstHalf 144 = .ok (.ldc 81, 2) := by decide +kernel
theorem dX3_firstHalf_146 : decode cX3_firstHalf 146 = .ok (.iastore, 1) := by decide +kernel
theorem dX3_firstHalf_147 : decode cX3_firstHalf 147 = .ok (.aload_n 0, 1) := by decide +kernel
theorem dX3_firstHalf_148 : decode cX3_firstHalf 148 = .ok (.getfield 30, 3) := by decide +kernel
theorem dX3_firstHalf_151 : decode cX3_firstHalf 151 = .ok (.bipush 17, 2) := by decide +kernel
theorem dX3_firstHalf_153 : decode cX3_firstHalf 153 = .ok (.ldc 82, 2) := by decide +kernel
theorem dX3_firstHalf_155 : decode cX3_firstHalf 155 = .ok (.iastore, 1) := by decide +kernel
theorem dX3_firstHalf_156 : decode cX3_firstHalf 156 = .ok (.aload_n 0, 1) := by decide +kernel
theorem dX3_firstHalf_157 : decode cX3_firstHalf 157 = .ok (.getfield 30, 3) := by decide +kernel
theorem dX3_firstHalf_160 : decode cX3_firstHalf 160 = .ok (.bipush 18, 2) := by decide +kernel
theorem dX3_firstHalf_162 : decode cX3_firstHalf 162 = .ok (.ldc 83, 2) := by decide +kernel
theorem dX3_firstHalf_164 : decode cX3_firstHalf 164 = .ok (.iastore, 1) := by decide +kernel
theorem dX3_firstHalf_165 : decode cX3_firstHalf 165 = .ok (.aload_n 0, 1) := by decide +kernel
theorem dX3_firstHalf_166 : decode cX3_firstHalf 166 = .ok (.getfield 30, 3) := by decide +kernel
theorem dX3_firstHalf_169 : decode cX3_firstHalf 169 = .ok (.bipush 19, 2) := by decide +kernel
theorem dX3_firstHalf_171 : decode cX3_firstHalf 171 = .ok (.ldc 84, 2) := by decide +kernel
theorem dX3_firstHalf_173 : decode cX3_firstHalf 173 = .ok (.iastore, 1) := by decide +kernel
theorem dX3_firstHalf_174 : decode cX3_firstHalf 174 = .ok (.aload_n 0, 1) := by decide +kernel
theorem dX3_firstHalf_175 : decode cX3_firstHalf 175 = .ok (.getfield 30, 3) := by decide +kernel
theorem dX3_firstHalf_178 : decode cX3_firstHalf 178 = .ok (.bipush 20, 2) := by decide +kernel
theorem dX3_firstHalf_180 : decode cX3_firstHalf 180 = .ok (.ldc 85, 2) := by decide +kernel
theorem dX3_firstHalf_182 : decode cX3_firstHalf 182 = .ok (.iastore, 1) := by decide +kernel
theorem dX3_firstHalf_183 : decode cX3_firstHalf 183 = .ok (.aload_n 0, 1) := by decide +kernel
theorem dX3_firstHalf_184 : decode cX3_firstHalf 184 = .ok (.getfield 30, 3) := by decide +kernel
theorem dX3_firstHalf_187 : decode cX3_firstHalf 187 = .ok (.bipush 21, 2) := by decide +kernel
theorem dX3_firstHalf_189 : decode cX3_firstHalf 189 = .ok (.ldc 86, 2) := by decide +kernel
theorem dX3_firstHalf_191 : decode cX3_firstHalf 191 = .ok (.iastore, 1) := by decide +kernel
theorem dX3_firstHalf_192 : decode cX3_firstHalf 192 = .ok (.aload_n 0, 1) := by decide +kernel
theorem dX3_firstHalf_193 : decode cX3_firstHalf 193 = .ok (.getfield 30, 3) := by decide +kernel
theorem dX3_firstHalf_196 : decode cX3_firstHalf 196 = .ok (.bipush 22, 2) := by decide +kernel
theorem dX3_firstHalf_198 : decode cX3_firstHalf 198 = .ok (.ldc 87, 2) := by decide +kernel
theorem dX3_firstHalf_200 : decode cX3_firstHalf 200 = .ok (.iastore, 1) := by decide +kernel
theorem dX3_firstHalf_201 : decode cX3_firstHalf 201 = .ok (.aload_n 0, 1) := by decide +kernel
theorem dX3_firstHalf_202 : decode cX3_firstHalf 202 = .ok (.getfield 30, 3) := by decide +kernel
theorem dX3_firstHalf_205 : decode cX3_firstHalf 205 = .ok (.bipush 23, 2) := by decide +kernel
theorem dX3_firstHalf_207 : decode cX3_firstHalf 207 = .ok (.ldc 88, 2) := by decide +kernel
theorem dX3_firstHalf_209 : decode cX3_firstHalf 209 = .ok (.iastore, 1) := by decide +kernel
theorem dX3_firstHalf_210 : decode cX3_firstHalf 210 = .ok (.aload_n 0, 1) := by decide +kernel
theorem dX3_firstHalf_211 : decode cX3_firstHalf 211 = .ok (.getfield 30, 3) := by decide +kernel
theorem dX3_firstHalf_214 : decode cX3_firstHalf 214 = .ok (.bipush 24, 2) := by decide +kernel
theorem dX3_firstHalf_216 : decode cX3_firstHalf 216 = .ok (.ldc 89, 2) := by decide +kernel
theorem dX3_firstHalf_218 : decode cX3_firstHalf 218 = .ok (.iastore, 1) := by decide +kernel
theorem dX3_firstHalf_219 : decode cX3_firstHalf 219 = .ok (.aload_n 0, 1) := by decide +kernel
theorem dX3_firstHalf_220 : decode cX3_firstHalf 220 = .ok (.getfield 30, 3) := by decide +kernel
theorem dX3_firstHalf_223 : decode cX3_firstHalf 223 = .ok (.bipush 25, 2) := by decide +kernel
theorem dX3_firstHalf_225 : decode cX3_firstHalf 225 = .ok (.ldc 90, 2) := by decide +kernel
theorem dX3_firstHalf_227 : decode cX3_firstHalf 227 = .ok (.iastore, 1) := by decide +kernel
theorem dX3_firstHalf_228 : decode cX3_firstHalf 228 = .ok (.aload_n 0, 1) := by decide +kernel
theorem dX3_firstHalf_229 : decode cX3_firstHalf 229 = .ok (.getfield 30, 3) := by decide +kernel
theorem dX3_firstHalf_232 : decode cX3_firstHalf 232 = .ok (.bipush 26, 2) := by decide +kernel
theorem dX3_firstHalf_234 : decode cX3_firstHalf 234 = .ok (.ldc 91, 2) := by decide +kernel
theorem dX3_firstHalf_236 : decode cX3_firstHalf 236 = .ok (.iastore, 1) := by decide +kernel
theorem dX3_firstHalf_237 : decode cX3_firstHalf 237 = .ok (.aload_n 0, 1) := by decide +kernel
theorem dX3_firstHalf_238 : decode cX3_firstHalf 238 = .ok (.getfield 30, 3) := by decide +kernel
theorem dX3_firstHalf_241 : decode cX3_firstHalf 241 = .ok (.bipush 27, 2) := by decide +kernel
theorem dX3_firstHalf_243 : decode cX3_firstHalf 243 = .ok (.ldc 92, 2) := by decide +kernel
theorem dX3_firstHalf_245 : decode cX3_firstHalf 245 = .ok (.iastore, 1) := by decide +kernel
theorem dX3_firstHalf_246 : decode cX3_firstHalf 246 = .ok (.aload_n 0, 1) := by decide +kernel
theorem dX3_firstHalf_247 : decode cX3_firstHalf 247 = .ok (.getfield 30, 3) := by decide +kernel
theorem dX3_firstHalf_250 : decode cX3_firstHalf 250 = .ok (.bipush 28, 2) := by decide +kernel
theorem dX3_firstHalf_252 : decode cX3_firstHalf 252 = .ok (.ldc 93, 2) := by decide +kernel
theorem dX3_firstHalf_254 : decode cX3_firstHalf 254 = .ok (.iastore, 1) := by decide +kernel
theorem dX3_firstHalf_255 : decode cX3_firstHalf 255 = .ok (.aload_n 0, 1) := by decide +kernel
theorem dX3_firstHalf_256 : decode cX3_firstHalf 256 = .ok (.getfield 30, 3) := by decide +kernel
theorem dX3_firstHalf_259 : decode cX3_firstHalf 259 = .ok (.bipush 29, 2) := by decide +kernel
theorem dX3_firstHalf_261 : decode cX3_firstHalf 261 = .ok (.ldc 94, 2) := by decide +kernel
theorem dX3_firstHalf_263 : decode cX3_firstHalf 263 = .ok (.iastore, 1) := by decide +kernel
theorem dX3_firstHalf_264 : decode cX3_firstHalf 264 = .ok (.aload_n 0, 1) := by decide +kernel
theorem dX3_firstHalf_265 : decode cX3_firstHalf 265 = .ok (.getfield 30, 3) := by decide +kernel
theorem dX3_firstHalf_268 : decode cX3_firstHalf 268 = .ok (.bipush 30, 2) := by decide +kernel
theorem dX3_firstHalf_270 : decode cX3_firstHalf 270 = .ok (.ldc 95, 2) := by decide +kernel
theorem dX3_firstHalf_272 : decode cX3_firstHalf 272 = .ok (.iastore, 1) := by decide +kernel
theorem dX3_firstHalf_273 : decode cX3_firstHalf 273 = .ok (.aload_n 0, 1) := by decide +kernel
theorem dX3_firstHalf_274 : decode cX3_firstHalf 274 = .ok (.getfield 30, 3) := by decide +kernel
theorem dX3_firstHalf_277 : decode cX3_firstHalf 277 = .ok (.bipush 31, 2) := by decide +kernel
theorem dX3_firstHalf_279 : decode cX3_firstHalf 279 = .ok (.ldc 96, 2) := by decide +kernel
theorem dX3_firstHalf_281 : decode cX3_firstHalf 281 = .ok (.iastore, 1) := by decide +kernel
theorem dX3_firstHalf_282 : decode cX3_firstHalf 282 = .ok (.return_, 1) := by decide +kernel
theorem dX3_secondHalf_0 : decode cX3_secondHalf 0 = .ok (.aload_n 0, 1) := by decide +kernel
theorem dX3_secondHalf_1 : decode cX3_secondHalf 1 = .ok (.getfield 30, 3) := by decide +kernel
theorem dX3_secondHalf_4 : decode cX3_secondHalf 4 = .ok (.bipush 32, 2) := by decide +kernel
theorem dX3_secondHalf_6 : decode cX3_secondHalf 6 = .ok (.ldc 97, 2) := by decide +kernel
theorem dX3_secondHalf_8 : decode cX3_secondHalf 8 = .ok (.iastore, 1) := by decide +kernel
theorem dX3_secondHalf_9 : decode cX3_secondHalf 9 = .ok (.aload_n 0, 1) := by decide +kernel
theorem dX3_secondHalf_10 : decode cX3_secondHalf 10 = .ok (.getfield 30, 3) := by decide +kernel
theorem dX3_secondHalf_13 : decode cX3_secondHalf 13 = .ok (.bipush 33, 2) := by decide +kernel
theorem dX3_secondHalf_15 : decode cX3_secondHalf 15 = .ok (.ldc 98, 2) := by decide +kernel
theorem dX3_secondHalf_17 : decode cX3_secondHalf 17 = .ok (.iastore, 1) := by decide +kernel
theorem dX3_secondHalf_18 : decode cX3_secondHalf 18 = .ok (.aload_n 0, 1) := by decide +kernel
theorem dX3_secondHalf_19 : decode cX3_secondHalf 19 = .ok (.getfield 30, 3) := by decide +kernel
theorem dX3_secondHalf_22 : decode cX3_secondHalf 22 = .ok (.bipush 34, 2) := by decide +kernel
theorem dX3_secondHalf_24 : decode cX3_secondHalf 24 = .ok (.ldc 99, 2) := by decide +kernel
theorem dX3_secondHalf_26 : decode cX3_secondHalf 26 = .ok (.iastore, 1) := by decide +kernel
theorem dX3_secondHalf_27 : decode cX3_secondHalf 27 = .ok (.aload_n 0, 1) := by decide +kernel
theorem dX3_secondHalf_28 : decode cX3_secondHalf 28 = .ok (.getfield 30, 3) := by decide +kernel
theorem dX3_secondHalf_31 : decode cX3_secondHalf 31 = .ok (.bipush 35, 2) := by decide +kernel
theorem dX3_secondHalf_33 : decode cX3_secondHalf 33 = .ok (.ldc 100, 2) := by decide +kernel
theorem dX3_secondHalf_35 : decode cX3_secondHalf 35 = .ok (.iastore, 1) := by decide +kernel
theorem dX3_secondHalf_36 : decode cX3_secondHalf 36 = .ok (.aload_n 0, 1) := by decide +kernel
theorem dX3_secondHalf_37 : decode cX3_secondHalf 37 = .ok (.getfield 30, 3) := by decide +kernel
theorem dX3_secondHalf_40 : decode cX3_secondHalf 40 = .ok (.bipush 36, 2) := by decide +kernel
theorem dX3_secondHalf_42 : decode cX3_secondHalf 42 = .ok (.ldc 101, 2) := by decide +kernel
theorem dX3_secondHalf_44 : decode cX3_secondHalf 44 = .ok (.iastore, 1) := by decide +kernel
theorem dX3_secondHalf_45 : decode cX3_secondHalf 45 = .ok (.aload_n 0, 1) := by decide +kernel
theorem dX3_secondHalf_46 : decode cX3_secondHalf 46 = .ok (.getfield 30, 3) := by decide +kernel
theorem dX3_secondHalf_49 : decode cX3_secondHalf 49 = .ok (.bipush 37, 2) := by decide +kernel
theorem dX3_secondHalf_51 : decode cX3_secondHalf 51 = .ok (.ldc 102, 2) := by decide +kernel
theorem dX3_secondHalf_53 : decode cX3_secondHalf 53 = .ok (.iastore, 1) := by decide +kernel
theorem dX3_secondHalf_54 : decode cX3_secondHalf 54 = .ok (.aload_n 0, 1) := by decide +kernel
theorem dX3_secondHalf_55 : decode cX3_secondHalf 55 = .ok (.getfield 30, 3) := by decide +kernel
theorem dX3_secondHalf_58 : decode cX3_secondHalf 58 = .ok (.bipush 38, 2) := by decide +kernel
theorem dX3_secondHalf_60 : decode cX3_secondHalf 60 = .ok (.ldc 103, 2) := by decide +kernel
theorem dX3_secondHalf_62 : decode cX3_secondHalf 62 = .ok (.iastore, 1) := by decide +kernel
theorem dX3_secondHalf_63 : decode cX3_secondHalf 63 = .ok (.aload_n 0, 1) := by decide +kernel
theorem dX3_secondHalf_64 : decode cX3_secondHalf 64 = .ok (.getfield 30, 3) := by decide +kernel
theorem dX3_secondHalf_67 : decode cX3_secondHalf 67 = .ok (.bipush 39, 2) := by decide +kernel
theorem dX3_secondHalf_69 : decode cX3_secondHalf 69 = .ok (.ldc 104, 2) := by decide +kernel
theorem dX3_secondHalf_71 : decode cX3_secondHalf 71 = .ok (.iastore, 1) := by decide +kernel
theorem dX3_secondHalf_72 : decode cX3_secondHalf 72 = .ok (.aload_n 0, 1) := by decide +kernel
theorem dX3_secondHalf_73 : decode cX3_secondHalf 73 = .ok (.getfield 30, 3) := by decide +kernel
theorem dX3_secondHalf_76 : decode cX3_secondHalf 76 = .ok (.bipush 40, 2) := by decide +kernel
theorem dX3_secondHalf_78 : decode cX3_secondHalf 78 = .ok (.ldc 105, 2) := by decide +kernel
theorem dX3_secondHalf_80 : decode cX3_secondHalf 80 = .ok (.iastore, 1) := by decide +kernel
theorem dX3_secondHalf_81 : decode cX3_secondHalf 81 = .ok (.aload_n 0, 1) := by decide +kernel
theorem dX3_secondHalf_82 : decode cX3_secondHalf 82 = .ok (.getfield 30, 3) := by decide +kernel
theorem dX3_secondHalf_85 : decode cX3_secondHalf 85 = .ok (.bipush 41, 2) := by decide +kernel
theorem dX3_secondHalf_87 : decode cX3_secondHalf 87 = .ok (.ldc 106, 2) := by decide +kernel
theorem dX3_secondHalf_89 : decode cX3_secondHalf 89 = .ok (.iastore, 1) := by decide +kernel
theorem dX3_secondHalf_90 : decode cX3_secondHalf 90 = .ok (.aload_n 0, 1) := by decide +kernel
theorem dX3_secondHalf_91 : decode cX3_secondHalf 91 = .ok (.getfield 30, 3) := by decide +kernel
theorem dX3_secondHalf_94 : decode cX3_secondHalf 94 = .ok (.bipush 42, 2) := by decide +kernel
theorem dX3_secondHalf_96 : decode cX3_secondHalf 96 = .ok (.ldc 107, 2) := by decide +kernel
theorem dX3_secondHalf_98 : decode cX3_secondHalf 98 = .ok (.iastore, 1) := by decide +kernel
theorem dX3_secondHalf_99 : decode cX3_secondHalf 99 = .ok (.aload_n 0, 1) := by decide +kernel
theorem dX3_secondHalf_100 : decode cX3_secondHalf 100 = .ok (.getfield 30, 3) := by decide +kernel
theorem dX3_secondHalf_103 : decode cX3_secondHalf 103 = .ok (.bipush 43, 2) := by decide +kernel
theorem dX3_secondHalf_105 : decode cX3_secondHalf 105 = .ok (.ldc 108, 2) := by decide +kernel
theorem dX3_secondHalf_107 : decode cX3_secondHalf 107 = .ok (.iastore, 1) := by decide +kernel
theorem dX3_secondHalf_108 : decode cX3_secondHalf 108 = .ok (.aload_n 0, 1) := by decide +kernel
theorem dX3_secondHalf_109 : decode cX3_secondHalf 109 = .ok (.getfield 30, 3) := by decide +kernel
theorem dX3_secondHalf_112 : decode cX3_secondHalf 112 = .ok (.bipush 44, 2) := by decide +kernel
theorem dX3_secondHalf_114 : decode cX3_secondHalf 114 = .ok (.ldc 109, 2) := by decide +kernel
theorem dX3_secondHalf_116 : decode cX3_secondHalf 116 = .ok (.iastore, 1) := by decide +kernel
theorem dX3_secondHalf_117 : decode cX3_secondHalf 117 = .ok (.aload_n 0, 1) := by decide +kernel
theorem dX3_secondHalf_118 : decode cX3_secondHalf 118 = .ok (.getfield 30, 3) := by decide +kernel
theorem dX3_secondHalf_121 : decode cX3_secondHalf 121 = .ok (.bipush 45, 2) := by decide +kernel
theorem dX3_secondHalf_123 : decode cX3_secondHalf 123 = .ok (.ldc 110, 2) := by decide +kernel
theorem dX3_secondHalf_125 : decode cX3_secondHalf 125 = .ok (.iastore, 1) := by decide +kernel
theorem dX3_secondHalf_126 : decode cX3_secondHalf 126 = .ok (.aload_n 0, 1) := by decide +kernel
theorem dX3_secondHalf_127 : decode cX3_secondHalf 127 = .ok (.getfield 30, 3) := by decide +kernel
theorem dX3_secondHalf_130 : decode cX3_secondHalf 130 = .ok (.bipush 46, 2) := by decide +kernel
theorem dX3_secondHalf_132 : decode cX3_secondHalf 132 = .ok (.ldc 111, 2) := by decide +kernel
theorem dX3_secondHalf_134 : decode cX3_secondHalf 134 = .ok (.iastore, 1) := by decide +kernel
theorem dX3_secondHalf_135 : decode cX3_secondHalf 135 = .ok (.aload_n 0, 1) := by decide +kernel
theorem dX3_secondHalf_136 : decode cX3_secondHalf 136 = .ok (.getfield 30, 3) := by decide +kernel
theorem dX3_secondHalf_139 : decode cX3_secondHalf 139 = .ok (.bipush 47, 2) := by decide +kernel
theorem dX3_secondHalf_141 : decode cX3_secondHalf 141 = .ok (.ldc 112, 2) := by decide +kernel
theorem dX3_secondHalf_143 : decode cX3_secondHalf 143 = .ok (.iastore, 1) := by decide +kernel
theorem dX3_secondHalf_144 : decode cX3_secondHalf 144 = .ok (.aload_n 0, 1) := by decide +kernel
theorem dX3_secondHalf_145 : decode cX3_secondHalf 145 = .ok (.getfield 30, 3) := by decide +kernel
theorem dX3_secondHalf_148 : decode cX3_secondHalf 148 = .ok (.bipush 48, 2) := by decide +kernel
theorem dX3_secondHalf_150 : decode cX3_secondHalf 150 = .ok (.ldc 113, 2) := by decide +kernel
theorem dX3_secondHalf_152 : decode cX3_secondHalf 152 = .ok (.iastore, 1) := by decide +kernel
theorem dX3_secondHalf_153 : decode cX3_secondHalf 153 = .ok (.aload_n 0, 1) := by decide +kernel
theorem dX3_secondHalf_154 : decode cX3_secondHalf 154 = .ok (.getfield 30, 3) := by decide +kernel
theorem dX3_secondHalf_157 : decode cX3_secondHalf 157 = .ok (.bipush 49, 2) := by decide +kernel
theorem dX3_secondHalf_159 : decode cX3_secondHalf 159 = .ok (.ldc 114, 2) := by decide +kernel
theorem dX3_secondHalf_161 : decode cX3_secondHalf 161 = .ok (.iastore, 1) := by decide +kernel
theorem dX3_secondHalf_162 : decode cX3_secondHalf 162 = .ok (.aload_n 0, 1) := by decide +kernel
theorem dX3_secondHalf_163 : decode cX3_secondHalf 163 = .ok (.getfield 30, 3) := by decide +kernel
theorem dX3_secondHalf_166 : decode cX3_secondHalf 166 = .ok (.bipush 50, 2) := by decide +kernel
theorem dX3_secondHalf_168 : decode cX3_secondHalf 168 = .ok (.ldc 115, 2) := by decide +kernel
theorem dX3_secondHalf_170 : decode cX3_secondHalf 170 = .ok (.iastore, 1) := by decide +kernel
theorem dX3_secondHalf_171 : decode cX3_secondHalf 171 = .ok (.aload_n 0, 1) := by decide +kernel
theorem dX3_secondHalf_172 : decode cX3_secondHalf 172 = .ok (.getfield 30, 3) := by decide +kernel
theorem dX3_secondHalf_175 : decode cX3_secondHalf 175 = .ok (.bipush 51, 2) := by decide +kernel
theorem dX3_secondHalf_177 : decode cX3_secondHalf 177 = .ok (.ldc 116, 2) := by decide +kernel
theorem dX3_secondHalf_179 : decode cX3_secondHalf 179 = .ok (.iastore, 1) := by decide +kernel
theorem dX3_secondHalf_180 : decode cX3_secondHalf 180 = .ok (.aload_n 0, 1) := by decide +kernel
theorem dX3_secondHalf_181 : decode cX3_secondHalf 181 = .ok (.getfield 30, 3) := by decide +kernel
theorem dX3_secondHalf_184 : decode cX3_secondHalf 184 = .ok (.bipush 52, 2) := by decide +kernel
theorem dX3_secondHalf_186 : decode cX3_secondHalf 186 = .ok (.ldc 117, 2) := by decide +kernel
theorem dX3_secondHalf_188 : decode cX3_secondHalf 188 = .ok (.iastore, 1) := by decide +kernel
theorem dX3_secondHalf_189 : decode cX3_secondHalf 189 = .ok (.aload_n 0, 1) := by decide +kernel
theorem dX3_secondHalf_190 : decode cX3_secondHalf 190 = .ok (.getfield 30, 3) := by decide +kernel
theorem dX3_secondHalf_193 : decode cX3_secondHalf 193 = .ok (.bipush 53, 2) := by decide +kernel
theorem dX3_secondHalf_195 : decode cX3_secondHalf 195 = .ok (.ldc 118, 2) := by decide +kernel
theorem dX3_secondHalf_197 : decode cX3_secondHalf 197 = .ok (.iastore, 1) := by decide +kernel
theorem dX3_secondHalf_198 : decode cX3_secondHalf 198 = .ok (.aload_n 0, 1) := by decide +kernel
theorem dX3_secondHalf_199 : decode cX3_secondHalf 199 = .ok (.getfield 30, 3) := by decide +kernel
theorem dX3_secondHalf_202 : decode cX3_secondHalf 202 = .ok (.bipush 54, 2) := by decide +kernel
theorem dX3_secondHalf_204 : decode cX3_secondHalf 204 = .ok (.ldc 119, 2) := by decide +kernel
theorem dX3_secondHalf_206 : decode cX3_secondHalf 206 = .ok (.iastore, 1) := by decide +kernel
theorem dX3_secondHalf_207 : decode cX3_secondHalf 207 = .ok (.aload_n 0, 1) := by decide +kernel
theorem dX3_secondHalf_208 : decode cX3_secondHalf 208 = .ok (.getfield 30, 3) := by decide +kernel
theorem dX3_secondHalf_211 : decode cX3_secondHalf 211 = .ok (.bipush 55, 2) := by decide +kernel
theorem dX3_secondHalf_213 : decode cX3_secondHalf 213 = .ok (.ldc 120, 2) := by decide +kernel
theorem dX3_secondHalf_215 : decode cX3_secondHalf 215 = .ok (.iastore, 1) := by decide +kernel
theorem dX3_secondHalf_216 : decode cX3_secondHalf 216 = .ok (.aload_n 0, 1) := by decide +kernel
theorem dX3_secondHalf_217 : decode cX3_secondHalf 217 = .ok (.getfield 30, 3) := by decide +kernel
theorem dX3_secondHalf_220 : decode cX3_secondHalf 220 = .ok (.bipush 56, 2) := by decide +kernel
theorem dX3_secondHalf_222 : decode cX3_secondHalf 222 = .ok (.ldc 121, 2) := by decide +kernel
theorem dX3_secondHalf_224 : decode cX3_secondHalf 224 = .ok (.iastore, 1) := by decide +kernel
theorem dX3_secondHalf_225 : decode cX3_secondHalf 225 = .ok (.aload_n 0, 1) := by decide +kernel
theorem dX3_secondHalf_226 : decode cX3_secondHalf 226 = .ok (.getfield 30, 3) := by decide +kernel
theorem dX3_secondHalf_229 : decode cX3_secondHalf 229 = .ok (.bipush 57, 2) := by decide +kernel
theorem dX3_secondHalf_231 : decode cX3_secondHalf 231 = .ok (.ldc 122, 2) := by decide +kernel
theorem dX3_secondHalf_233 : decode cX3_secondHalf 233 = .ok (.iastore, 1) := by decide +kernel
theorem dX3_secondHalf_234 : decode cX3_secondHalf 234 = .ok (.aload_n 0, 1) := by decide +kernel
theorem dX3_secondHalf_235 : decode cX3_secondHalf 235 = .ok (.getfield 30, 3) := by decide +kernel
theorem dX3_secondHalf_238 : decode cX3_secondHalf 238 = .ok (.bipush 58, 2) := by decide +kernel
theorem dX3_secondHalf_240 : decode cX3_secondHalf 240 = .ok (.ldc 123, 2) := by decide +kernel
theorem dX3_secondHalf_242 : decode cX3_secondHalf 242 = .ok (.iastore, 1) := by decide +kernel
theorem dX3_secondHalf_243 : decode cX3_secondHalf 243 = .ok (.aload_n 0, 1) := by decide +kernel
theorem dX3_secondHalf_244 : decode cX3_secondHalf 244 = .ok (.getfield 30, 3) := by decide +kernel
theorem dX3_secondHalf_247 : decode cX3_secondHalf 247 = .ok (.bipush 59, 2) := by decide +kernel
theorem dX3_secondHalf_249 : decode cX3_secondHalf 249 = .ok (.ldc 124, 2) := by decide +kernel
theorem dX3_secondHalf_251 : decode cX3_secondHalf 251 = .ok (.iastore, 1) := by decide +kernel
theorem dX3_secondHalf_252 : decode cX3_secondHalf 252 = .ok (.aload_n 0, 1) := by decide +kernel
theorem dX3_secondHalf_253 : decode cX3_secondHalf 253 = .ok (.getfield 30, 3) := by decide +kernel
theorem dX3_secondHalf_256 : decode cX3_secondHalf 256 = .ok (.bipush 60, 2) := by decide +kernel
theorem dX3_secondHalf_258 : decode cX3_secondHalf 258 = .ok (.ldc 125, 2) := by decide +kernel
theorem dX3_secondHalf_260 : decode cX3_secondHalf 260 = .ok (.iastore, 1) := by decide +kernel
theorem dX3_secondHalf_261 : decode cX3_secondHalf 261 = .ok (.aload_n 0, 1) := by decide +kernel
theorem dX3_secondHalf_262 : decode cX3_secondHalf 262 = .ok (.getfield 30, 3) := by decide +kernel
theorem dX3_secondHalf_265 : decode cX3_secondHalf 265 = .ok (.bipush 61, 2) := by decide +kernel
theorem dX3_secondHalf_267 : decode cX3_secondHalf 267 = .ok (.ldc 126, 2) := by decide +kernel
theorem dX3_secondHalf_269 : decode cX3_secondHalf 269 = .ok (.iastore, 1) := by decide +kernel
theorem dX3_secondHalf_270 : decode cX3_secondHalf 270 = .ok (.aload_n 0, 1) := by decide +kernel
theorem dX3_secondHalf_271 : decode cX3_secondHalf 271 = .ok (.getfield 30, 3) := by decide +kernel
theorem dX3_secondHalf_274 : decode cX3_secondHalf 274 = .ok (.bipush 62, 2) := by decide +kernel
theorem dX3_secondHalf_276 : decode cX3_secondHalf 276 = .ok (.ldc 127, 2) := by decide +kernel
theorem dX3_secondHalf_278 : decode cX3_secondHalf 278 = .ok (.iastore, 1) := by decide +kernel
theorem dX3_secondHalf_279 : decode cX3_secondHalf 279 = .ok (.aload_n 0, 1) := by decide +kernel
theorem dX3_secondHalf_280 : decode cX3_secondHalf 280 = .ok (.getfield 30, 3) := by decide +kernel
theorem dX3_secondHalf_283 : decode cX3_secondHalf 283 = .ok (.bipush 63, 2) := by decide +kernel
theorem dX3_secondHalf_285 : decode cX3_secondHalf 285 = .ok (.ldc 128, 2) := by decide +kernel
theorem dX3_secondHalf_287 : decode cX3_secondHalf 287 = .ok (.iastore, 1) := by decide +kernel
theorem dX3_secondHalf_288 : decode cX3_secondHalf 288 = .ok (.return_, 1) := by decide +kernel
theorem dX3_turned_0 : decode cX3_turned 0 = .ok (.iload_n 0, 1) := by decide +kernel
theorem dX3_turned_1 : decode cX3_turned 1 = .ok (.iload_n 1, 1) := by decide +kernel
theorem dX3_turned_2 : decode cX3_turned 2 = .ok (.iushr, 1) := by decide +kernel
theorem dX3_turned_3 : decode cX3_turned 3 = .ok (.iload_n 0, 1) := by decide +kernel
theorem dX3_turned_4 : decode cX3_turned 4 = .ok (.bipush 32, 2) := by decide +kernel
theorem dX3_turned_6 : decode cX3_turned 6 = .ok (.iload_n 1, 1) := by decide +kernel
theorem dX3_turned_7 : decode cX3_turned 7 = .ok (.isub, 1) := by decide +kernel
theorem dX3_turned_8 : decode cX3_turned 8 = .ok (.ishl, 1) := by decide +kernel
theorem dX3_turned_9 : decode cX3_turned 9 = .ok (.ior, 1) := by decide +kernel
theorem dX3_turned_10 : decode cX3_turned 10 = .ok (.ireturn, 1) := by decide +kernel
set_option maxRecDepth 20000 in
theorem ggX3_mix_X3_turned : GoodIn wsX3_mix wsX3_turned := goodIn_r _ [7] (by decide +kernel) (by decide +kernel)
set_option maxRecDepth 20000 in
theorem gX3_mix_X3_turned : GoodIn wsX3_mix (va_wsS RX3 129 yX3_turned wsX3_turned) := goodIn_app (goodIn_of _ (by decide +kernel)) ggX3_mix_X3_turned
theorem dX3_mix_0 : decode cX3_mix 0 = .ok (.bipush 16, 2) := by decide +kernel
theorem dX3_mix_2 : decode cX3_mix 2 = .ok (.istore_n 1, 1) := by decide +kernel
theorem dX3_mix_3 : decode cX3_mix 3 = .ok (.iload_n 1, 1) := by decide +kernel
theorem dX3_mix_4 : decode cX3_mix 4 = .ok (.bipush 64, 2) := by decide +kernel
theorem dX3_mix_6 : decode cX3_mix 6 = .ok (.if_icmp .ge 90, 3) := by decide +kernel
theorem dX3_mix_9 : decode cX3_mix 9 = .ok (.aload_n 0, 1) := by decide +kernel
theorem dX3_mix_10 : decode cX3_mix 10 = .ok (.getfield 42, 3) := by decide +kernel
theorem dX3_mix_13 : decode cX3_mix 13 = .ok (.iload_n 1, 1) := by decide +kernel
theorem dX3_mix_14 : decode cX3_mix 14 = .ok (.bipush 15, 2) := by decide +kernel
theorem dX3_mix_16 : decode cX3_mix 16 = .ok (.isub, 1) := by decide +kernel
theorem dX3_mix_17 : decode cX3_mix 17 = .ok (.iaload, 1) := by decide +kernel
theorem dX3_mix_18 : decode cX3_mix 18 = .ok (.istore_n 2, 1) := by decide +kernel
theorem dX3_mix_19 : decode cX3_mix 19 = .ok (.aload_n 0, 1) := by decide +kernel
theorem dX3_mix_20 : decode cX3_mix 20 = .ok (.getfield 42, 3) := by decide +kernel
theorem dX3_mix_23 : decode cX3_mix 23 = .ok (.iload_n 1, 1) := by decide +kernel
theorem dX3_mix_24 : decode cX3_mix 24 = .ok (.iconst 2, 1) := by decide +kernel
theorem dX3_mix_25 : decode cX3_mix 25 = .ok (.isub, 1) := by decide +kernel
theorem dX3_mix_26 : decode cX3_mix 26 = .ok (.iaload, 1) := by decide +kernel
theorem dX3_mix_27 : decode cX3_mix 27 = .ok (.istore_n 3, 1) := by decide +kernel
theorem dX3_mix_28 : decode cX3_mix 28 = .ok (.aload_n 0, 1) := by decide +kernel
theorem dX3_mix_29 : decode cX3_mix 29 = .ok (.getfield 42, 3) := by decide +kernel
theorem dX3_mix_32 : decode cX3_mix 32 = .ok (.iload_n 1, 1) := by decide +kernel
theorem dX3_mix_33 : decode cX3_mix 33 = .ok (.aload_n 0, 1) := by decide +kernel
theorem dX3_mix_34 : decode cX3_mix 34 = .ok (.getfield 42, 3) := by decide +kernel
theorem dX3_mix_37 : decode cX3_mix 37 = .ok (.iload_n 1, 1) := by decide +kernel
theorem dX3_mix_38 : decode cX3_mix 38 = .ok (.bipush 16, 2) := by decide +kernel
theorem dX3_mix_40 : decode cX3_mix 40 = .ok (.isub, 1) := by decide +kernel
theorem dX3_mix_41 : decode cX3_mix 41 = .ok (.iaload, 1) := by decide +kernel
theorem dX3_mix_42 : decode cX3_mix 42 = .ok (.iload_n 2, 1) := by decide +kernel
theorem dX3_mix_43 : decode cX3_mix 43 = .ok (.bipush 7, 2) := by decide +kernel
theorem dX3_mix_45 : decode cX3_mix 45 = .ok (.invokestatic 129, 3) := by decide +kernel
theorem dX3_mix_48 : decode cX3_mix 48 = .ok (.iload_n 2, 1) := by decide +kernel
theorem dX3_mix_49 : decode cX3_mix 49 = .ok (.bipush 18, 2) := by decide +kernel
theorem dX3_mix_51 : decode cX3_mix 51 = .ok (.invokestatic 129, 3) := by decide +kernel
theorem dX3_mix_54 : decode cX3_mix 54 = .ok (.ixor, 1) := by decide +kernel
theorem dX3_mix_55 : decode cX3_mix 55 = .ok (.iload_n 2, 1) := by decide +kernel
theorem dX3_mix_56 : decode cX3_mix 56 = .ok (.iconst 3, 1) := by decide +kernel
theorem dX3_mix_57 : decode cX3_mix 57 = .ok (.iushr, 1) := by decide +kernel
theorem dX3_mix_58 : decode cX3_mix 58 = .ok (.ixor, 1) := by decide +kernel
theorem dX3_mix_59 : decode cX3_mix 59 = .ok (.iadd, 1) := by decide +kernel
theorem dX3_mix_60 : decode cX3_mix 60 = .ok (.aload_n 0, 1) := by decide +kernel
theorem dX3_mix_61 : decode cX3_mix 61 = .ok (.getfield 42, 3) := by decide +kernel
theorem dX3_mix_64 : decode cX3_mix 64 = .ok (.iload_n 1, 1) := by decide +kernel
theorem dX3_mix_65 : decode cX3_mix 65 = .ok (.bipush 7, 2) := by decide +kernel
theorem dX3_mix_67 : decode cX3_mix 67 = .ok (.isub, 1) := by decide +kernel
theorem dX3_mix_68 : decode cX3_mix 68 = .ok (.iaload, 1) := by decide +kernel
theorem dX3_mix_69 : decode cX3_mix 69 = .ok (.iadd, 1) := by decide +kernel
theorem dX3_mix_70 : decode cX3_mix 70 = .ok (.iload_n 3, 1) := by decide +kernel
theorem dX3_mix_71 : decode cX3_mix 71 = .ok (.bipush 17, 2) := by decide +kernel
theorem dX3_mix_73 : decode cX3_mix 73 = .ok (.invokestatic 129, 3) := by decide +kernel
theorem dX3_mix_76 : decode cX3_mix 76 = .ok (.iload_n 3, 1) := by decide +kernel
theorem dX3_mix_77 : decode cX3_mix 77 = .ok (.bipush 19, 2) := by decide +kernel
theorem dX3_mix_79 : decode cX3_mix 79 = .ok (.invokestatic 129, 3) := by decide +kernel
theorem dX3_mix_82 : decode cX3_mix 82 = .ok (.ixor, 1) := by decide +kernel
theorem dX3_mix_83 : decode cX3_mix 83 = .ok (.iload_n 3, 1) := by decide +kernel
theorem dX3_mix_84 : decode cX3_mix 84 = .ok (.bipush 10, 2) := by decide +kernel
theorem dX3_mix_86 : decode cX3_mix 86 = .ok (.iushr, 1) := by decide +kernel
theorem dX3_mix_87 : decode cX3_mix 87 = .ok (.ixor, 1) := by decide +kernel
theorem dX3_mix_88 : decode cX3_mix 88 = .ok (.iadd, 1) := by decide +kernel
theorem dX3_mix_89 : decode cX3_mix 89 = .ok (.iastore, 1) := by decide +kernel
theorem dX3_mix_90 : decode cX3_mix 90 = .ok (.iinc 1 1, 3) := by decide +kernel
theorem dX3_mix_93 : decode cX3_mix 93 = .ok (.goto (-90), 3) := by decide +kernel
theorem dX3_mix_96 : decode cX3_mix 96 = .ok (.aload_n 0, 1) := by decide +kernel
theorem dX3_mix_97 : decode cX3_mix 97 = .ok (.getfield 36, 3) := by decide +kernel
theorem dX3_mix_100 : decode cX3_mix 100 = .ok (.iconst 0, 1) := by decide +kernel
theorem dX3_mix_101 : decode cX3_mix 101 = .ok (.iaload, 1) := by decide +kernel
theorem dX3_mix_102 : decode cX3_mix 102 = .ok (.istore_n 1, 1) := by decide +kernel
theorem dX3_mix_103 : decode cX3_mix 103 = .ok (.aload_n 0, 1) := by decide +kernel
theorem dX3_mix_104 : decode cX3_mix 104 = .ok (.getfield 36, 3) := by decide +kernel
theorem dX3_mix_107 : decode cX3_mix 107 = .ok (.iconst 1, 1) := by decide +kernel
theorem dX3_mix_108 : decode cX3_mix 108 = .ok (.iaload, 1) := by decide +kernel
theorem dX3_mix_109 : decode cX3_mix 109 = .ok (.istore_n 2, 1) := by decide +kernel
theorem dX3_mix_110 : decode cX3_mix 110 = .ok (.aload_n 0, 1) := by decide +kernel
theorem dX3_mix_111 : decode cX3_mix 111 = .ok (.getfield 36, 3) := by decide +kernel
theorem dX3_mix_114 : decode cX3_mix 114 = .ok (.iconst 2, 1) := by decide +kernel
theorem dX3_mix_115 : decode cX3_mix 115 = .ok (.iaload, 1) := by decide +kernel
theorem dX3_mix_116 : decode cX3_mix 116 = .ok (.istore_n 3, 1) := by decide +kernel
theorem dX3_mix_117 : decode cX3_mix 117 = .ok (.aload_n 0, 1) := by decide +kernel
theorem dX3_mix_118 : decode cX3_mix 118 = .ok (.getfield 36, 3) := by decide +kernel
theorem dX3_mix_121 : decode cX3_mix 121 = .ok (.iconst 3, 1) := by decide +kernel
theorem dX3_mix_122 : decode cX3_mix 122 = .ok (.iaload, 1) := by decide +kernel
theorem dX3_mix_123 : decode cX3_mix 123 = .ok (.istore 4, 2) := by decide +kernel
theorem dX3_mix_125 : decode cX3_mix 125 = .ok (.aload_n 0, 1) := by decide +kernel
theorem dX3_mix_126 : decode cX3_mix 126 = .ok (.getfield 36, 3) := by decide +kernel
theorem dX3_mix_129 : decode cX3_mix 129 = .ok (.iconst 4, 1) := by decide +kernel
theorem dX3_mix_130 : decode cX3_mix 130 = .ok (.iaload, 1) := by decide +kernel
theorem dX3_mix_131 : decode cX3_mix 131 = .ok (.istore 5, 2) := by decide +kernel
theorem dX3_mix_133 : decode cX3_mix 133 = .ok (.aload_n 0, 1) := by decide +kernel
theorem dX3_mix_134 : decode cX3_mix 134 = .ok (.getfield 36, 3) := by decide +kernel
theorem dX3_mix_137 : decode cX3_mix 137 = .ok (.iconst 5, 1) := by decide +kernel
theorem dX3_mix_138 : decode cX3_mix 138 = .ok (.iaload, 1) := by decide +kernel
theorem dX3_mix_139 : decode cX3_mix 139 = .ok (.istore 6, 2) := by decide +kernel
theorem dX3_mix_141 : decode cX3_mix 141 = .ok (.aload_n 0, 1) := by decide +kernel
theorem dX3_mix_142 : decode cX3_mix 142 = .ok (.getfield 36, 3) := by decide +kernel
theorem dX3_mix_145 : decode cX3_mix 145 = .ok (.bipush 6, 2) := by decide +kernel
theorem dX3_mix_147 : decode cX3_mix 147 = .ok (.iaload, 1) := by decide +kernel
theorem dX3_mix_148 : decode cX3_mix 148 = .ok (.istore 7, 2) := by decide +kernel
theorem dX3_mix_150 : decode cX3_mix 150 = .ok (.aload_n 0, 1) := by decide +kernel
theorem dX3_mix_151 : decode cX3_mix 151 = .ok (.getfield 36, 3) := by decide +kernel
theorem dX3_mix_154 : decode cX3_mix 154 = .ok (.bipush 7, 2) := by decide +kernel
theorem dX3_mix_156 : decode cX3_mix 156 = .ok (.iaload, 1) := by decide +kernel
theorem dX3_mix_157 : decode cX3_mix 157 = .ok (.istore 8, 2) := by decide +kernel
theorem dX3_mix_159 : decode cX3_mix 159 = .ok (.iconst 0, 1) := by decide +kernel
theorem dX3_mix_160 : decode cX3_mix 160 = .ok (.istore 9, 2) := by decide +kernel
theorem dX3_mix_162 : decode cX3_mix 162 = .ok (.iload 9, 2) := by decide +kernel
theorem dX3_mix_164 : decode cX3_mix 164 = .ok (.bipush 64, 2) := by decide +kernel
theorem dX3_mix_166 : decode cX3_mix 166 = .ok (.if_icmp .ge 132, 3) := by decide +kernel
theorem dX3_mix_169 : decode cX3_mix 169 = .ok (.iload 8, 2) := by decide +kernel
theorem dX3_mix_171 : decode cX3_mix 171 = .ok (.iload 5, 2) := by decide +kernel
theorem dX3_mix_173 : decode cX3_mix 173 = .ok (.bipush 6, 2) := by decide +kernel
theorem dX3_mix_175 : decode cX3_mix 175 = .ok (.invokestatic 129, 3) := by decide +kernel
theorem dX3_mix_178 : decode cX3_mix 178 = .ok (.iload 5, 2) := by decide +kernel
theorem dX3_mix_180 : decode cX3_mix 180 = .ok (.bipush 11, 2) := by decide +kernel
theorem dX3_mix_182 : decode cX3_mix 182 = .ok (.invokestatic 129, 3) := by decide +kernel
theorem dX3_mix_185 : decode cX3_mix 185 = .ok (.ixor, 1) := by decide +kernel
theorem dX3_mix_186 : decode cX3_mix 186 = .ok (.iload 5, 2) := by decide +kernel
theorem dX3_mix_188 : decode cX3_mix 188 = .ok (.bipush 25, 2) := by decide +kernel
theorem dX3_mix_190 : decode cX3_mix 190 = .ok (.invokestatic 129, 3) := by decide +kernel
theorem dX3_mix_193 : decode cX3_mix 193 = .ok (.ixor, 1) := by decide +kernel
theorem dX3_mix_194 : decode cX3_mix 194 = .ok (.iadd, 1) := by decide +kernel
theorem dX3_mix_195 : decode cX3_mix 195 = .ok (.iload 5, 2) := by decide +kernel
theorem dX3_mix_197 : decode cX3_mix 197 = .ok (.iload 6, 2) := by decide +kernel
theorem dX3_mix_199 : decode cX3_mix 199 = .ok (.iand, 1) := by decide +kernel
theorem dX3_mix_200 : decode cX3_mix 200 = .ok (.iload 5, 2) := by decide +kernel
theorem dX3_mix_202 : decode cX3_mix 202 = .ok (.iconst (-1), 1) := by decide +kernel
theorem dX3_mix_203 : decode cX3_mix 203 = .ok (.ixor, 1) := by decide +kernel
theorem dX3_mix_204 : decode cX3_mix 204 = .ok (.iload 7, 2) := by decide +kernel
theorem dX3_mix_206 : decode cX3_mix 206 = .ok (.iand, 1) := by decide +kernel
theorem dX3_mix_207 : decode cX3_mix 207 = .ok (.ixor, 1) := by decide +kernel
theorem dX3_mix_208 : decode cX3_mix 208 = .ok (.iadd, 1) := by decide +kernel
theorem dX3_mix_209 : decode cX3_mix 209 = .ok (.aload_n 0, 1) := by decide +kernel
theorem dX3_mix_210 : decode cX3_mix 210 = .ok (.getfield 30, 3) := by decide +kernel
theorem dX3_mix_213 : decode cX3_mix 213 = .ok (.iload 9, 2) := by decide +kernel
theorem dX3_mix_215 : decode cX3_mix 215 = .ok (.iaload, 1) := by decide +kernel
theorem dX3_mix_216 : decode cX3_mix 216 = .ok (.iadd, 1) := by decide +kernel
theorem dX3_mix_217 : decode cX3_mix 217 = .ok (.aload_n 0, 1) := by decide +kernel
theorem dX3_mix_218 : decode cX3_mix 218 = .ok (.getfield 42, 3) := by decide +kernel
theorem dX3_mix_221 : decode cX3_mix 221 = .ok (.iload 9, 2) := by decide +kernel
theorem dX3_mix_223 : decode cX3_mix 223 = .ok (.iaload, 1) := by decide +kernel
theorem dX3_mix_224 : decode cX3_mix 224 = .ok (.iadd, 1) := by decide +kernel
theorem dX3_mix_225 : decode cX3_mix 225 = .ok (.istore 10, 2) := by decide +kernel
theorem dX3_mix_227 : decode cX3_mix 227 = .ok (.iload_n 1, 1) := by decide +kernel
theorem dX3_mix_228 : decode cX3_mix 228 = .ok (.iconst 2, 1) := by decide +kernel
theorem dX3_mix_229 : decode cX3_mix 229 = .ok (.invokestatic 129, 3) := by decide +kernel
theorem dX3_mix_232 : decode cX3_mix 232 = .ok (.iload_n 1, 1) := by decide +kernel
theorem dX3_mix_233 : decode cX3_mix 233 = .ok (.bipush 13, 2) := by decide +kernel
theorem dX3_mix_235 : decode cX3_mix 235 = .ok (.invokestatic 129, 3) := by decide +kernel
theorem dX3_mix_238 : decode cX3_mix 238 = .ok (.ixor, 1) := by decide +kernel
theorem dX3_mix_239 : decode cX3_mix 239 = .ok (.iload_n 1, 1) := by decide +kernel
theorem dX3_mix_240 : decode cX3_mix 240 = .ok (.bipush 22, 2) := by decide +kernel
theorem dX3_mix_242 : decode cX3_mix 242 = .ok (.invokestatic 129, 3) := by decide +kernel
theorem dX3_mix_245 : decode cX3_mix 245 = .ok (.ixor, 1) := by decide +kernel
theorem dX3_mix_246 : decode cX3_mix 246 = .ok (.iload_n 1, 1) := by decide +kernel
theorem dX3_mix_247 : decode cX3_mix 247 = .ok (.iload_n 2, 1) := by decide +kernel
theorem dX3_mix_248 : decode cX3_mix 248 = .ok (.iand, 1) := by decide +kernel
theorem dX3_mix_249 : decode cX3_mix 249 = .ok (.iload_n 1, 1) := by decide +kernel
theorem dX3_mix_250 : decode cX3_mix 250 = .ok (.iload_n 3, 1) := by decide +kernel
theorem dX3_mix_251 : decode cX3_mix 251 = .ok (.iand, 1) := by decide +kernel
theorem dX3_mix_252 : decode cX3_mix 252 = .ok (.ixor, 1) := by decide +kernel
theorem dX3_mix_253 : decode cX3_mix 253 = .ok (.iload_n 2, 1) := by decide +kernel
theorem dX3_mix_254 : decode cX3_mix 254 = .ok (.iload_n 3, 1) := by decide +kernel
theorem dX3_mix_255 : decode cX3_mix 255 = .ok (.iand, 1) := by decide +kernel
theorem dX3_mix_256 : decode cX3_mix 256 = .ok (.ixor, 1) := by decide +kernel
theorem dX3_mix_257 : decode cX3_mix 257 = .ok (.iadd, 1) := by decide +kernel
theorem dX3_mix_258 : decode cX3_mix 258 = .ok (.istore 11, 2) := by decide +kernel
theorem dX3_mix_260 : decode cX3_mix 260 = .ok (.iload 7, 2) := by decide +kernel
theorem dX3_mix_262 : decode cX3_mix 262 = .ok (.istore 8, 2) := by decide +kernel
theorem dX3_mix_264 : decode cX3_mix 264 = .ok (.iload 6, 2) := by decide +kernel
theorem dX3_mix_266 : decode cX3_mix 266 = .ok (.istore 7, 2) := by decide +kernel
theorem dX3_mix_268 : decode cX3_mix 268 = .ok (.iload 5, 2) := by decide +kernel
theorem dX3_mix_270 : decode cX3_mix 270 = .ok (.istore 6, 2) := by decide +kernel
theorem dX3_mix_272 : decode cX3_mix 272 = .ok (.iload 4, 2) := by decide +kernel
theorem dX3_mix_274 : decode cX3_mix 274 = .ok (.iload 10, 2) := by decide +kernel
theorem dX3_mix_276 : decode cX3_mix 276 = .ok (.iadd, 1) := by decide +kernel
theorem dX3_mix_277 : decode cX3_mix 277 = .ok (.istore 5, 2) := by decide +kernel
theorem dX3_mix_279 : decode cX3_mix 279 = .ok (.iload_n 3, 1) := by decide +kernel
theorem dX3_mix_280 : decode cX3_mix 280 = .ok (.istore 4, 2) := by decide +kernel
theorem dX3_mix_282 : decode cX3_mix 282 = .ok (.iload_n 2, 1) := by decide +kernel
theorem dX3_mix_283 : decode cX3_mix 283 = .ok (.istore_n 3, 1) := by decide +kernel
theorem dX3_mix_284 : decode cX3_mix 284 = .ok (.iload_n 1, 1) := by decide +kernel
theorem dX3_mix_285 : decode cX3_mix 285 = .ok (.istore_n 2, 1) := by decide +kernel
theorem dX3_mix_286 : decode cX3_mix 286 = .ok (.iload 10, 2) := by decide +kernel
theorem dX3_mix_288 : decode cX3_mix 288 = .ok (.iload 11, 2) := by decide +kernel
theorem dX3_mix_290 : decode cX3_mix 290 = .ok (.iadd, 1) := by decide +kernel
theorem dX3_mix_291 : decode cX3_mix 291 = .ok (.istore_n 1, 1) := by decide +kernel
theorem dX3_mix_292 : decode cX3_mix 292 = .ok (.iinc 9 1, 3) := by decide +kernel
theorem dX3_mix_295 : decode cX3_mix 295 = .ok (.goto (-133), 3) := by decide +kernel
theorem dX3_mix_298 : decode cX3_mix 298 = .ok (.aload_n 0, 1) := by decide +kernel
theorem dX3_mix_299 : decode cX3_mix 299 = .ok (.getfield 36, 3) := by decide +kernel
theorem dX3_mix_302 : decode cX3_mix 302 = .ok (.iconst 0, 1) := by decide +kernel
theorem dX3_mix_303 : decode cX3_mix 303 = .ok (.dup2, 1) := by decide +kernel
theorem dX3_mix_304 : decode cX3_mix 304 = .ok (.iaload, 1) := by decide +kernel
theorem dX3_mix_305 : decode cX3_mix 305 = .ok (.iload_n 1, 1) := by decide +kernel
theorem dX3_mix_306 : decode cX3_mix 306 = .ok (.iadd, 1) := by decide +kernel
theorem dX3_mix_307 : decode cX3_mix 307 = .ok (.iastore, 1) := by decide +kernel
theorem dX3_mix_308 : decode cX3_mix 308 = .ok (.aload_n 0, 1) := by decide +kernel
theorem dX3_mix_309 : decode cX3_mix 309 = .ok (.getfield 36, 3) := by decide +kernel
theorem dX3_mix_312 : decode cX3_mix 312 = .ok (.iconst 1, 1) := by decide +kernel
theorem dX3_mix_313 : decode cX3_mix 313 = .ok (.dup2, 1) := by decide +kernel
theorem dX3_mix_314 : decode cX3_mix 314 = .ok (.iaload, 1) := by decide +kernel
theorem dX3_mix_315 : decode cX3_mix 315 = .ok (.iload_n 2, 1) := by decide +kernel
theorem dX3_mix_316 : decode cX3_mix 316 = .ok (.iadd, 1) := by decide +kernel
theorem dX3_mix_317 : decode cX3_mix 317 = .ok (.iastore, 1) := by decide +kernel
theorem dX3_mix_318 : decode cX3_mix 318 = .ok (.aload_n 0, 1) := by decide +kernel
theorem dX3_mix_319 : decode cX3_mix 319 = .ok (.getfield 36, 3) := by decide +kernel
theorem dX3_mix_322 : decode cX3_mix 322 = .ok (.iconst 2, 1) := by decide +kernel
theorem dX3_mix_323 : decode cX3_mix 323 = .ok (.dup2, 1) := by decide +kernel
theorem dX3_mix_324 : decode cX3_mix 324 = .ok (.iaload, 1) := by decide +kernel
theorem dX3_mix_325 : decode cX3_mix 325 = .ok (.iload_n 3, 1) := by decide +kernel
theorem dX3_mix_326 : decode cX3_mix 326 = .ok (.iadd, 1) := by decide +kernel
theorem dX3_mix_327 : decode cX3_mix 327 = .ok (.iastore, 1) := by decide +kernel
theorem dX3_mix_328 : decode cX3_mix 328 = .ok (.aload_n 0, 1) := by decide +kernel
theorem dX3_mix_329 : decode cX3_mix 329 = .ok (.getfield 36, 3) := by decide +kernel
theorem dX3_mix_332 : decode cX3_mix 332 = .ok (.iconst 3, 1) := by decide +kernel
theorem dX3_mix_333 : decode cX3_mix 333 = .ok (.dup2, 1) := by decide +kernel
theorem dX3_mix_334 : decode cX3_mix 334 = .ok (.iaload, 1) := by decide +kernel
theorem dX3_mix_335 : decode cX3_mix 335 = .ok (.iload 4, 2) := by decide +kernel
theorem dX3_mix_337 : decode cX3_mix 337 = .ok (.iadd, 1) := by decide +kernel
theorem dX3_mix_338 : decode cX3_mix 338 = .ok (.iastore, 1) := by decide +kernel
theorem dX3_mix_339 : decode cX3_mix 339 = .ok (.aload_n 0, 1) := by decide +kernel
theorem dX3_mix_340 : decode cX3_mix 340 = .ok (.getfield 36, 3) := by decide +kernel
theorem dX3_mix_343 : decode cX3_mix 343 = .ok (.iconst 4, 1) := by decide +kernel
theorem dX3_mix_344 : decode cX3_mix 344 = .ok (.dup2, 1) := by decide +kernel
theorem dX3_mix_345 : decode cX3_mix 345 = .ok (.iaload, 1) := by decide +kernel
theorem dX3_mix_346 : decode cX3_mix 346 = .ok (.iload 5, 2) := by decide +kernel
theorem dX3_mix_348 : decode cX3_mix 348 = .ok (.iadd, 1) := by decide +kernel
theorem dX3_mix_349 : decode cX3_mix 349 = .ok (.iastore, 1) := by decide +kernel
theorem dX3_mix_350 : decode cX3_mix 350 = .ok (.aload_n 0, 1) := by decide +kernel
theorem dX3_mix_351 : decode cX3_mix 351 = .ok (.getfield 36, 3) := by decide +kernel
theorem dX3_mix_354 : decode cX3_mix 354 = .ok (.iconst 5, 1) := by decide +kernel
theorem dX3_mix_355 : decode cX3_mix 355 = .ok (.dup2, 1) := by decide +kernel
theorem dX3_mix_356 : decode cX3_mix 356 = .ok (.iaload, 1) := by decide +kernel
theorem dX3_mix_357 : decode cX3_mix 357 = .ok (.iload 6, 2) := by decide +kernel
theorem dX3_mix_359 : decode cX3_mix 359 = .ok (.iadd, 1) := by decide +kernel
theorem dX3_mix_360 : decode cX3_mix 360 = .ok (.iastore, 1) := by decide +kernel
theorem dX3_mix_361 : decode cX3_mix 361 = .ok (.aload_n 0, 1) := by decide +kernel
theorem dX3_mix_362 : decode cX3_mix 362 = .ok (.getfield 36, 3) := by decide +kernel
theorem dX3_mix_365 : decode cX3_mix 365 = .ok (.bipush 6, 2) := by decide +kernel
theorem dX3_mix_367 : decode cX3_mix 367 = .ok (.dup2, 1) := by decide +kernel
theorem dX3_mix_368 : decode cX3_mix 368 = .ok (.iaload, 1) := by decide +kernel
theorem dX3_mix_369 : decode cX3_mix 369 = .ok (.iload 7, 2) := by decide +kernel
theorem dX3_mix_371 : decode cX3_mix 371 = .ok (.iadd, 1) := by decide +kernel
theorem dX3_mix_372 : decode cX3_mix 372 = .ok (.iastore, 1) := by decide +kernel
theorem dX3_mix_373 : decode cX3_mix 373 = .ok (.aload_n 0, 1) := by decide +kernel
theorem dX3_mix_374 : decode cX3_mix 374 = .ok (.getfield 36, 3) := by decide +kernel
theorem dX3_mix_377 : decode cX3_mix 377 = .ok (.bipush 7, 2) := by decide +kernel
theorem dX3_mix_379 : decode cX3_mix 379 = .ok (.dup2, 1) := by decide +kernel
theorem dX3_mix_380 : decode cX3_mix 380 = .ok (.iaload, 1) := by decide +kernel
theorem dX3_mix_381 : decode cX3_mix 381 = .ok (.iload 8, 2) := by decide +kernel
