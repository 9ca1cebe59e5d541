/-! ===== contracts, 0 ===== -/
noncomputable def gp_0 (l : GI) : GI := jl_t (jl_z 1 l)
noncomputable def gp_1 (l : GI) : GI := jl_i 0 700 (jl_z 4 l)
noncomputable def gp_2 (l : GI) : GI := jl_z 5 (jl_i 0 700 l)
noncomputable def gp_3 (l : GI) : GI := jl_z 1 (jl_i 0 700 l)
noncomputable def gp_4 (l : GI) : GI := jl_z 1 (jl_r 5 (jl_t) l)
noncomputable def gp_5 (l : GI) : GI := jl_z 17 (gp_1 l)
noncomputable def gp_6 (l : GI) : GI := gp_2 (jl_z 39 l)
noncomputable def gp_7 (l : GI) : GI := jl_z 1 (jl_t l)
noncomputable def gp_8 (l : GI) : GI := gp_3 (jl_z 1 l)
noncomputable def gp_9 (l : GI) : GI := gp_7 (gp_6 l)
noncomputable def gp_10 (l : GI) : GI := jl_i 0 16 (jl_i 0 3 l)
noncomputable def gp_11 (l : GI) : GI := gp_10 (jl_i 0 10 l)
noncomputable def gp_12 (l : GI) : GI := jl_i 0 5 (jl_i 0 7 l)
noncomputable def gp_13 (l : GI) : GI := jl_i 0 8 (gp_12 l)
noncomputable def gp_14 (l : GI) : GI := jl_i 0 5 (gp_13 l)
noncomputable def gp_15 (l : GI) : GI := gp_11 (gp_14 l)
noncomputable def gp_16 (l : GI) : GI := gp_15 (jl_z 9 l)
noncomputable def gp_17 (l : GI) : GI := gp_7 (gp_15 l)
noncomputable def gp_18 (l : GI) : GI := jl_i 0 700 (jl_m 2147483647 1000000 l)
noncomputable def gp_19 (l : GI) : GI := jl_i 0 4 (gp_18 l)
noncomputable def gp_20 (l : GI) : GI := gp_19 (jl_i 0 700 l)
noncomputable def gp_21 (l : GI) : GI := jl_i 0 700 (gp_20 l)
noncomputable def gp_22 (l : GI) : GI := jl_z 2 (gp_21 l)
noncomputable def gp_23 (l : GI) : GI := jl_z 2 (jl_i 0 4 l)
noncomputable def gp_24 (l : GI) : GI := jl_i 0 3 (jl_m 0 700 l)
noncomputable def gp_25 (l : GI) : GI := jl_z 2 (gp_24 l)
noncomputable def gp_26 (l : GI) : GI := jl_z 10 (gp_21 l)
noncomputable def gp_27 (l : GI) : GI := gp_25 (gp_17 (gp_26 l))
noncomputable def gp_28 (l : GI) : GI := jl_z 2 (jl_i 0 3 l)
noncomputable def gp_29 (l : GI) : GI := jl_z 4 (jl_i 0 4 l)
noncomputable def gp_30 (l : GI) : GI := gp_24 (gp_22 l)
noncomputable def gp_31 (l : GI) : GI := jl_z 1 (gp_24 l)
noncomputable def gp_32 (l : GI) : GI := jl_z 3 (gp_20 l)
noncomputable def gp_33 (l : GI) : GI := gp_31 (gp_32 l)
noncomputable def gp_34 (l : GI) : GI := jl_z 5 (gp_30 l)
noncomputable def gp_35 (l : GI) : GI := jl_i 1 3 (jl_m 0 700 l)
noncomputable def gp_36 (l : GI) : GI := jl_z 2 (gp_35 (jl_z 1 l))
noncomputable def gp_37 (l : GI) : GI := jl_i 0 700 (jl_i 1 1 l)
noncomputable def gp_38 (l : GI) : GI := jl_z 2 (gp_37 l)
noncomputable def gp_39 (l : GI) : GI := gp_38 (jl_i 0 700 l)
noncomputable def gp_40 (l : GI) : GI := jl_m 0 700 (gp_39 l)
noncomputable def gp_41 (l : GI) : GI := jl_z 6 (gp_40 l)
noncomputable def gp_42 (l : GI) : GI := jl_i 0 700 (gp_32 l)
noncomputable def gp_43 (l : GI) : GI := gp_25 (gp_22 l)
noncomputable def gp_44 (l : GI) : GI := gp_25 (jl_z 5 l)
noncomputable def gp_45 (l : GI) : GI := jl_z 2 (jl_m 0 4 l)
noncomputable def gp_46 (l : GI) : GI := gp_23 (jl_z 3 l)
noncomputable def gp_47 (l : GI) : GI := gp_46 (gp_40 l)
noncomputable def gp_48 (l : GI) : GI := gp_23 (jl_i 1 16 l)
noncomputable def gp_49 (l : GI) : GI := jl_z 2 (jl_m 0 700 l)
noncomputable def gp_50 (l : GI) : GI := gp_48 (gp_49 l)
noncomputable def gp_51 (l : GI) : GI := gp_50 (gp_39 l)
noncomputable def gp_52 (l : GI) : GI := jl_z 1 (jl_i 0 4 l)
noncomputable def gp_53 (l : GI) : GI := jl_i 0 5 (jl_i 0 8 l)
noncomputable def gp_54 (l : GI) : GI := gp_25 (jl_z 7 l)
noncomputable def gp_55 (l : GI) : GI := gp_12 (jl_z 11 l)
noncomputable def gp_56 (l : GI) : GI := jl_z 11 (gp_21 l)
noncomputable def gp_57 (l : GI) : GI := gp_54 (jl_i 0 5 (gp_56 l))
noncomputable def gp_58 (l : GI) : GI := jl_z 1 (jl_i 0 9 l)
noncomputable def gp_59 (l : GI) : GI := gp_57 (gp_31 (jl_z 8 l))
noncomputable def gp_60 (l : GI) : GI := jl_z 11 (gp_20 l)
noncomputable def gp_61 (l : GI) : GI := gp_57 (gp_58 l)
noncomputable def gp_62 (l : GI) : GI := jl_z 20 (gp_20 l)
noncomputable def gp_63 (l : GI) : GI := jl_m 0 700 (gp_62 l)
noncomputable def gp_64 (l : GI) : GI := gp_61 (jl_i 0 31 (jl_i 0 6 (jl_z 1 (gp_35 (jl_z 8 l)))))
noncomputable def gp_65 (l : GI) : GI := gp_54 (jl_i 1 5 (gp_56 (gp_58 l)))
noncomputable def gp_66 (l : GI) : GI := gp_65 (jl_z 2 l)
noncomputable def gp_67 (l : GI) : GI := gp_49 (gp_62 l)
noncomputable def gp_68 (l : GI) : GI := gp_67 (jl_z 1 l)
noncomputable def gp_69 (l : GI) : GI := gp_67 (jl_z 2 l)
noncomputable def gp_70 (l : GI) : GI := jl_t (gp_16 l)
noncomputable def gp_71 (l : GI) : GI := jl_z 2 (gp_70 l)
noncomputable def gp_72 (l : GI) : GI := jl_z 14 (jl_r 2 (jl_i 0 1) l)
noncomputable def gp_73 (l : GI) : GI := jl_i 0 1 (jl_z 3 l)
noncomputable def gp_74 (l : GI) : GI := jl_i 0 30 (jl_z 7 l)
noncomputable def gp_75 (l : GI) : GI := gp_74 (gp_73 l)
noncomputable def gp_76 (l : GI) : GI := jl_z 13 (jl_r 2 (jl_i 0 1) l)
noncomputable def gp_77 (l : GI) : GI := jl_r 3 (jl_i 0 700) (jl_i 0 4 l)
noncomputable def gp_78 (l : GI) : GI := gp_77 (jl_t l)
noncomputable def gp_79 (l : GI) : GI := jl_r 2 (jl_i 0 700) (jl_i 0 4 l)
noncomputable def gp_80 (l : GI) : GI := gp_79 (jl_t l)
noncomputable def gp_81 (l : GI) : GI := gp_80 (jl_z 33 l)
noncomputable def gp_82 (l : GI) : GI := jl_i 0 4 (jl_t l)
noncomputable def gp_83 (l : GI) : GI := gp_79 (jl_z 34 l)
noncomputable def gp_84 (l : GI) : GI := jl_z 10 (gp_79 l)
noncomputable def gp_85 (l : GI) : GI := jl_z 10 (jl_r 2 (jl_i 0 700) (jl_i 1 1 l))
noncomputable def gp_86 (l : GI) : GI := gp_85 (jl_z 37 l)
noncomputable def gp_87 (l : GI) : GI := gp_84 (jl_z 37 l)
noncomputable def gp_88 (l : GI) : GI := jl_r 3 (jl_i 0 700) (jl_i 1 1 l)
noncomputable def gp_89 (l : GI) : GI := jl_m 0 700 (jl_z 31 l)
noncomputable def gp_90 (l : GI) : GI := gp_0 (jl_m 0 700 l)
noncomputable def gp_91 (l : GI) : GI := gp_90 (jl_z 31 l)
noncomputable def gp_92 (l : GI) : GI := gp_77 (gp_91 l)
noncomputable def gp_93 (l : GI) : GI := gp_77 (gp_90 l)
noncomputable def gp_94 (l : GI) : GI := jl_i 0 4 (jl_z 1 l)
noncomputable def gp_95 (l : GI) : GI := jl_i 1 2 (jl_z 32 l)
noncomputable def gp_96 (l : GI) : GI := jl_r 3 (jl_i 0 700) (jl_i 2 2 l)
noncomputable def gp_97 (l : GI) : GI := jl_z 10 (gp_96 l)
noncomputable def gp_98 (l : GI) : GI := jl_m 0 700 (jl_z 40 (gp_81 l))
noncomputable def gp_99 (l : GI) : GI := jl_z 1 (gp_98 l)
noncomputable def gp_100 (l : GI) : GI := gp_93 (jl_z 32 l)
noncomputable def gp_101 (l : GI) : GI := jl_i 1 2 (jl_i 0 700 l)
noncomputable def gp_102 (l : GI) : GI := gp_80 (gp_101 l)
noncomputable def gp_103 (l : GI) : GI := gp_88 (gp_91 l)
noncomputable def gp_104 (l : GI) : GI := jl_z 11 (gp_103 l)
noncomputable def gp_105 (l : GI) : GI := jl_z 8 (gp_81 l)
noncomputable def gp_106 (l : GI) : GI := jl_i 0 3 (jl_z 1 l)
noncomputable def gp_107 (l : GI) : GI := gp_78 (jl_i 1 2 l)
noncomputable def gp_108 (l : GI) : GI := gp_107 (gp_89 l)
noncomputable def gp_109 (l : GI) : GI := jl_z 8 (gp_92 l)
noncomputable def gp_110 (l : GI) : GI := gp_11 (jl_i 0 5 l)
noncomputable def gp_111 (l : GI) : GI := gp_110 (jl_i 0 8 l)
noncomputable def gp_112 (l : GI) : GI := jl_i 0 5 (jl_z 1 l)
noncomputable def gp_113 (l : GI) : GI := gp_111 (gp_112 l)
noncomputable def gp_114 (l : GI) : GI := jl_i 0 30 (jl_z 15 l)
noncomputable def gp_115 (l : GI) : GI := gp_10 (jl_z 21 l)
noncomputable def gp_116 (l : GI) : GI := jl_z 8 (gp_103 l)
noncomputable def gp_117 (l : GI) : GI := jl_i 1 16 (jl_i 0 3 l)
noncomputable def gp_118 (l : GI) : GI := gp_117 (jl_i 0 10 l)
noncomputable def gp_119 (l : GI) : GI := gp_11 (jl_z 20 l)
noncomputable def gp_120 (l : GI) : GI := jl_z 9 (gp_83 l)
noncomputable def gp_121 (l : GI) : GI := jl_i 0 30 (jl_i 0 2147483647 l)
noncomputable def gp_122 (l : GI) : GI := gp_14 (gp_121 l)
noncomputable def gp_123 (l : GI) : GI := gp_11 (gp_122 l)
noncomputable def gp_124 (l : GI) : GI := gp_123 (jl_z 14 l)
noncomputable def gp_125 (l : GI) : GI := gp_123 (jl_z 15 l)
noncomputable def gp_126 (l : GI) : GI := gp_111 (jl_i 0 5 l)
noncomputable def gp_127 (l : GI) : GI := gp_121 (jl_z 15 l)
noncomputable def gp_128 (l : GI) : GI := jl_i 0 6 (gp_127 l)
noncomputable def gp_129 (l : GI) : GI := jl_u (jl_z 1 l)
noncomputable def gp_130 (l : GI) : GI := gp_45 (jl_z 7 l)
noncomputable def gp_131 (l : GI) : GI := gp_23 (jl_z 7 l)
noncomputable def gp_132 (l : GI) : GI := jl_i 0 30 (jl_i 1 26 l)
noncomputable def gp_133 (l : GI) : GI := gp_113 (gp_132 l)
noncomputable def gp_134 (l : GI) : GI := gp_109 (gp_133 l)
noncomputable def gp_135 (l : GI) : GI := jl_z 22 (gp_80 l)
noncomputable def gp_136 (l : GI) : GI := gp_134 (gp_135 l)
noncomputable def gp_137 (l : GI) : GI := gp_136 (gp_101 l)
noncomputable def gp_138 (l : GI) : GI := gp_137 (jl_z 37 l)
noncomputable def gp_139 (l : GI) : GI := jl_i 0 8 (jl_i 1 5 l)
noncomputable def gp_140 (l : GI) : GI := gp_110 (gp_139 l)
noncomputable def gp_141 (l : GI) : GI := gp_116 (gp_140 (jl_z 1 l))
noncomputable def gp_142 (l : GI) : GI := gp_141 (gp_132 (jl_z 17 l))
noncomputable def gp_143 (l : GI) : GI := jl_z 8 (gp_80 l)
noncomputable def gp_144 (l : GI) : GI := gp_143 (jl_z 56 l)
noncomputable def gp_145 (l : GI) : GI := jl_i 0 7 (gp_121 l)
noncomputable def gp_146 (l : GI) : GI := gp_145 (jl_z 15 l)
noncomputable def gp_147 (l : GI) : GI := jl_i 0 4 (gp_146 l)
noncomputable def gp_148 (l : GI) : GI := jl_i 0 4 (gp_128 l)
noncomputable def gp_149 (l : GI) : GI := gp_120 (gp_11 l)
noncomputable def gp_150 (l : GI) : GI := gp_149 (gp_12 l)
noncomputable def gp_151 (l : GI) : GI := gp_52 (jl_z 1 l)
noncomputable def gp_152 (l : GI) : GI := gp_11 (jl_i 1 5 l)
noncomputable def gp_153 (l : GI) : GI := gp_152 (jl_i 0 8 l)
noncomputable def gp_154 (l : GI) : GI := gp_149 (jl_i 0 4 l)
noncomputable def gp_155 (l : GI) : GI := gp_154 (jl_i 0 7 l)
noncomputable def gp_156 (l : GI) : GI := jl_i 0 5 (jl_z 17 l)
noncomputable def gp_157 (l : GI) : GI := jl_z 6 (jl_i 0 700 (jl_z 1 l))
noncomputable def gp_158 (l : GI) : GI := gp_24 (jl_z 31 l)
noncomputable def gp_159 (l : GI) : GI := gp_78 (gp_158 (gp_124 l))
noncomputable def gp_160 (l : GI) : GI := gp_157 (gp_159 (gp_123 (jl_z 24 l)))
noncomputable def gp_161 (l : GI) : GI := jl_z 22 (jl_i 0 5 l)
noncomputable def gp_162 (l : GI) : GI := jl_z 1 (jl_r 2 (jl_t) l)
noncomputable def gp_163 (l : GI) : GI := jl_z 46 (gp_124 l)
noncomputable def gp_164 (l : GI) : GI := jl_z 45 (gp_124 l)
noncomputable def gp_165 (l : GI) : GI := jl_z 45 (gp_123 l)
noncomputable def gp_166 (l : GI) : GI := gp_165 (jl_z 15 l)
noncomputable def gp_167 (l : GI) : GI := gp_152 (gp_13 l)
noncomputable def gp_168 (l : GI) : GI := gp_167 (gp_121 l)
noncomputable def gp_169 (l : GI) : GI := gp_168 (jl_z 15 l)
noncomputable def gp_170 (l : GI) : GI := gp_162 (gp_164 l)
noncomputable def gp_171 (l : GI) : GI := jl_z 12 (jl_t l)
noncomputable def gp_172 (l : GI) : GI := jl_r 2 (jl_m 0 4) (jl_z 20 l)
noncomputable def gp_173 (l : GI) : GI := jl_z 23 (gp_172 l)
noncomputable def gp_174 (l : GI) : GI := gp_173 (gp_124 l)
noncomputable def gp_175 (l : GI) : GI := jl_z 16 (jl_t l)
noncomputable def gp_176 (l : GI) : GI := jl_t (jl_z 45 l)
noncomputable def gp_177 (l : GI) : GI := jl_i 0 5 (jl_z 10 l)
noncomputable def gp_178 (l : GI) : GI := jl_z 24 (gp_177 l)
noncomputable def gp_179 (l : GI) : GI := jl_i 0 5 (jl_z 11 l)
noncomputable def gp_180 (l : GI) : GI := gp_7 (gp_164 l)
noncomputable def gp_181 (l : GI) : GI := jl_z 25 (jl_i 0 7 l)
noncomputable def gp_182 (l : GI) : GI := gp_181 (jl_z 9 l)
noncomputable def gp_183 (l : GI) : GI := jl_z 1 (jl_i 0 6 l)
noncomputable def gp_184 (l : GI) : GI := gp_164 (jl_i 0 9 l)
noncomputable def gp_185 (l : GI) : GI := jl_z 18 (jl_i 0 128 l)
noncomputable def gp_186 (l : GI) : GI := gp_185 (jl_z 27 l)
noncomputable def gp_187 (l : GI) : GI := gp_123 (jl_z 59 l)
noncomputable def gp_188 (l : GI) : GI := jl_z 17 (jl_i 0 128 l)
noncomputable def gp_189 (l : GI) : GI := gp_188 (jl_z 27 l)
noncomputable def gp_190 (l : GI) : GI := gp_189 (gp_124 l)
noncomputable def gp_191 (l : GI) : GI := jl_z 19 (jl_t l)
noncomputable def gp_192 (l : GI) : GI := gp_7 (jl_z 18 l)
noncomputable def gp_193 (l : GI) : GI := jl_t (jl_z 5 l)
noncomputable def gp_194 (l : GI) : GI := jl_z 2 (jl_t l)
noncomputable def gp_195 (l : GI) : GI := gp_194 (jl_i 0 3 l)
noncomputable def gp_196 (l : GI) : GI := jl_z 9 (jl_i 0 7 l)
noncomputable def gp_197 (l : GI) : GI := gp_196 (jl_z 9 l)
noncomputable def gp_198 (l : GI) : GI := gp_197 (jl_t l)
noncomputable def gp_199 (l : GI) : GI := jl_z 1 (jl_r 3 (jl_t) l)
noncomputable def gp_200 (l : GI) : GI := gp_193 (gp_55 l)
noncomputable def gp_201 (l : GI) : GI := jl_z 18 (gp_200 l)
noncomputable def gp_202 (l : GI) : GI := jl_i 0 30 (jl_z 16 l)
noncomputable def gp_203 (l : GI) : GI := jl_i 0 30 (jl_i 1 2147483647 l)
noncomputable def gp_204 (l : GI) : GI := gp_203 (jl_z 15 l)
noncomputable def gp_205 (l : GI) : GI := gp_15 (gp_204 l)
noncomputable def gp_206 (l : GI) : GI := jl_z 45 (gp_15 l)
noncomputable def gp_207 (l : GI) : GI := jl_i 0 3 (jl_m 0 4 l)
noncomputable def gp_208 (l : GI) : GI := jl_t (jl_i 0 5 l)
noncomputable def gp_209 (l : GI) : GI := jl_z 1 (jl_i 0 1 l)
noncomputable def gp_210 (l : GI) : GI := jl_z 1 (jl_i 0 2 l)
noncomputable def gp_211 (l : GI) : GI := jl_z 1 (jl_i 0 3 l)
noncomputable def gp_212 (l : GI) : GI := jl_z 1 (jl_i 0 5 l)
noncomputable def gp_213 (l : GI) : GI := jl_t (jl_i 0 7 l)
noncomputable def gp_214 (l : GI) : GI := jl_t (jl_z 8 l)
noncomputable def gp_215 (l : GI) : GI := gp_12 (jl_z 9 l)
noncomputable def gp_216 (l : GI) : GI := jl_z 2 (jl_r 2 (jl_t) l)
noncomputable def gp_217 (l : GI) : GI := gp_111 (jl_z 1 l)
noncomputable def gp_218 (l : GI) : GI := gp_145 (jl_z 14 l)
noncomputable def gp_219 (l : GI) : GI := gp_217 (gp_218 l)
noncomputable def gp_220 (l : GI) : GI := gp_217 (gp_146 l)
noncomputable def gp_221 (l : GI) : GI := jl_i 0 7 (gp_204 l)
noncomputable def gp_222 (l : GI) : GI := gp_217 (gp_221 l)
noncomputable def gp_223 (l : GI) : GI := jl_z 45 (gp_222 l)
noncomputable def gp_224 (l : GI) : GI := gp_123 (jl_z 17 l)
noncomputable def gp_225 (l : GI) : GI := jl_m 0 4 (jl_i 0 5 l)
noncomputable def gp_226 (l : GI) : GI := gp_189 (gp_111 l)
noncomputable def gp_227 (l : GI) : GI := gp_226 (jl_z 1 l)
noncomputable def gp_228 (l : GI) : GI := jl_z 1 (jl_i 0 15 l)
noncomputable def gp_229 (l : GI) : GI := jl_z 1 (jl_i 0 7 l)
noncomputable def gp_230 (l : GI) : GI := jl_i 0 1 (jl_z 45 l)
noncomputable def gp_231 (l : GI) : GI := jl_z 9 (gp_177 l)
noncomputable def gp_232 (l : GI) : GI := jl_z 1 (gp_12 l)
noncomputable def gp_233 (l : GI) : GI := gp_232 (jl_z 12 l)
noncomputable def gp_234 (l : GI) : GI := gp_7 (jl_z 20 l)
noncomputable def gp_235 (l : GI) : GI := gp_211 (gp_189 l)
noncomputable def gp_236 (l : GI) : GI := gp_211 (gp_226 l)
noncomputable def gp_237 (l : GI) : GI := gp_145 (jl_z 17 l)
noncomputable def gp_238 (l : GI) : GI := gp_237 (jl_i 0 5 l)
noncomputable def gp_239 (l : GI) : GI := gp_235 (gp_153 l)
noncomputable def gp_240 (l : GI) : GI := gp_237 (jl_i 1 5 l)
noncomputable def gp_241 (l : GI) : GI := gp_235 (gp_11 l)
noncomputable def gp_242 (l : GI) : GI := gp_241 (jl_i 2 5 l)
noncomputable def gp_243 (l : GI) : GI := jl_i 0 8 (jl_i 5 5 l)
noncomputable def gp_244 (l : GI) : GI := gp_237 (jl_i 2 5 l)
noncomputable def gp_245 (l : GI) : GI := gp_7 (gp_190 l)
noncomputable def gp_246 (l : GI) : GI := jl_r 30 (jl_i 0 1) (jl_r 30 (jl_m 0 15) l)
noncomputable def gp_247 (l : GI) : GI := jl_z 7 (gp_246 l)
noncomputable def gp_248 (l : GI) : GI := gp_247 (jl_z 4 l)
noncomputable def gp_249 (l : GI) : GI := jl_z 7 (gp_112 l)
noncomputable def gp_250 (l : GI) : GI := jl_z 7 (jl_i 0 5 l)
noncomputable def gp_251 (l : GI) : GI := jl_i 0 7 (gp_250 l)
noncomputable def gp_252 (l : GI) : GI := jl_z 2 (jl_i 0 15 l)
noncomputable def gp_253 (l : GI) : GI := gp_252 (gp_250 l)
noncomputable def gp_254 (l : GI) : GI := jl_z 3 (jl_i 0 16 l)
noncomputable def gp_255 (l : GI) : GI := jl_i 0 5 (jl_i 0 16 l)
noncomputable def gp_256 (l : GI) : GI := jl_z 7 (gp_255 l)
noncomputable def gp_257 (l : GI) : GI := jl_z 4 (jl_i 0 5 l)
noncomputable def gp_258 (l : GI) : GI := gp_256 (gp_257 l)
noncomputable def gp_259 (l : GI) : GI := jl_z 15 (jl_t l)
noncomputable def gp_260 (l : GI) : GI := gp_258 (gp_259 l)
noncomputable def gp_261 (l : GI) : GI := jl_t (jl_z 7 l)
noncomputable def gp_262 (l : GI) : GI := jl_z 14 (jl_i 0 1 l)
noncomputable def gp_263 (l : GI) : GI := gp_10 (jl_z 1 l)
noncomputable def gp_264 (l : GI) : GI := gp_263 (jl_i 0 5 (gp_232 l))
noncomputable def gp_265 (l : GI) : GI := jl_i 0 30 (jl_z 3 l)
noncomputable def gp_266 (l : GI) : GI := gp_265 (gp_246 l)
noncomputable def gp_267 (l : GI) : GI := gp_266 (gp_256 l)
noncomputable def gp_268 (l : GI) : GI := jl_z 11 (gp_267 l)
noncomputable def gp_269 (l : GI) : GI := gp_0 (gp_264 (gp_268 l))
noncomputable def gp_270 (l : GI) : GI := jl_z 7 (gp_269 l)
noncomputable def gp_271 (l : GI) : GI := gp_261 (gp_255 l)
noncomputable def gp_272 (l : GI) : GI := jl_z 19 (gp_271 l)
noncomputable def gp_273 (l : GI) : GI := jl_z 13 (jl_i 0 1 l)
noncomputable def gp_274 (l : GI) : GI := gp_273 (jl_z 5 l)
noncomputable def gp_275 (l : GI) : GI := gp_7 (gp_274 l)
noncomputable def gp_276 (l : GI) : GI := gp_264 (jl_z 12 l)
noncomputable def gp_277 (l : GI) : GI := jl_t (jl_z 2 l)
noncomputable def gp_278 (l : GI) : GI := gp_277 (gp_267 l)
noncomputable def gp_279 (l : GI) : GI := gp_276 (gp_278 l)
noncomputable def gp_280 (l : GI) : GI := gp_275 (gp_279 l)
noncomputable def gp_281 (l : GI) : GI := gp_274 (gp_271 l)
noncomputable def gp_282 (l : GI) : GI := jl_r 2 (jl_t) (jl_r 2 (jl_m 0 4) l)
noncomputable def gp_283 (l : GI) : GI := jl_z 22 (gp_282 l)
noncomputable def gp_284 (l : GI) : GI := gp_283 (jl_z 20 l)
noncomputable def gp_285 (l : GI) : GI := gp_284 (gp_125 l)
noncomputable def gp_286 (l : GI) : GI := jl_z 3 (gp_282 l)
noncomputable def gp_287 (l : GI) : GI := gp_188 (gp_286 l)
noncomputable def gp_288 (l : GI) : GI := gp_287 (jl_z 20 l)
noncomputable def gp_289 (l : GI) : GI := gp_288 (gp_124 l)
noncomputable def gp_290 (l : GI) : GI := jl_i 0 5 (jl_z 45 l)
noncomputable def gp_291 (l : GI) : GI := gp_185 (gp_286 l)
noncomputable def gp_292 (l : GI) : GI := gp_291 (jl_z 20 l)
noncomputable def gp_293 (l : GI) : GI := gp_292 (gp_124 l)
noncomputable def gp_294 (l : GI) : GI := gp_7 (gp_289 l)
noncomputable def gp_295 (l : GI) : GI := gp_145 (jl_z 16 l)
noncomputable def gp_296 (l : GI) : GI := jl_z 1 (jl_r 2 (jl_i 0 4) l)
noncomputable def gp_297 (l : GI) : GI := jl_z 24 (gp_55 l)
noncomputable def gp_298 (l : GI) : GI := jl_r 2 (jl_t) (gp_165 (jl_z 18 (jl_i 0 5 l)))
noncomputable def gp_299 (l : GI) : GI := jl_z 1 (jl_i 2 2 l)
noncomputable def gp_300 (l : GI) : GI := jl_z 1 (jl_i 1 1 l)
noncomputable def gp_301 (l : GI) : GI := jl_z 46 (gp_140 l)
noncomputable def gp_302 (l : GI) : GI := jl_t (jl_i 0 4 l)
noncomputable def gp_303 (l : GI) : GI := jl_i 0 3 (jl_z 3 l)
noncomputable def gp_304 (l : GI) : GI := gp_303 (gp_12 l)
noncomputable def gp_305 (l : GI) : GI := jl_z 4 (gp_304 l)
noncomputable def gp_306 (l : GI) : GI := gp_305 (jl_z 9 l)
noncomputable def gp_307 (l : GI) : GI := gp_303 (gp_55 l)
noncomputable def gp_308 (l : GI) : GI := jl_z 4 (gp_307 l)
noncomputable def gp_309 (l : GI) : GI := jl_t (gp_189 l)
noncomputable def gp_310 (l : GI) : GI := gp_52 (gp_226 l)
noncomputable def gp_311 (l : GI) : GI := gp_295 (gp_309 l)
noncomputable def gp_312 (l : GI) : GI := gp_193 (gp_304 l)
noncomputable def gp_313 (l : GI) : GI := gp_183 (jl_i 0 4 l)
noncomputable def gp_314 (l : GI) : GI := jl_z 15 (jl_i 0 1 l)
noncomputable def gp_315 (l : GI) : GI := gp_262 (jl_t l)
noncomputable def gp_316 (l : GI) : GI := gp_183 (gp_226 l)
noncomputable def gp_317 (l : GI) : GI := gp_316 (jl_i 5 5 l)
noncomputable def gp_318 (l : GI) : GI := gp_295 (jl_i 0 4 l)
noncomputable def gp_319 (l : GI) : GI := gp_318 (jl_z 47 l)
noncomputable def gp_320 (l : GI) : GI := gp_316 (jl_i 4 4 l)
noncomputable def gp_321 (l : GI) : GI := gp_316 (jl_i 3 3 l)
noncomputable def gp_322 (l : GI) : GI := gp_316 (jl_i 2 2 l)
noncomputable def gp_323 (l : GI) : GI := gp_318 (jl_z 2 l)
noncomputable def gp_324 (l : GI) : GI := gp_317 (gp_323 l)
noncomputable def gp_325 (l : GI) : GI := gp_323 (gp_230 l)
noncomputable def gp_326 (l : GI) : GI := gp_318 (jl_z 48 l)
noncomputable def gp_327 (l : GI) : GI := gp_23 (jl_z 45 l)
noncomputable def gp_328 (l : GI) : GI := gp_0 (gp_307 l)
noncomputable def gp_329 (l : GI) : GI := jl_z 45 (gp_113 l)
noncomputable def gp_330 (l : GI) : GI := gp_7 (gp_329 l)
noncomputable def gp_331 (l : GI) : GI := gp_121 (jl_z 14 l)
noncomputable def gp_332 (l : GI) : GI := gp_329 (gp_127 l)
noncomputable def gp_333 (l : GI) : GI := gp_330 (gp_121 l)
noncomputable def gp_334 (l : GI) : GI := gp_333 (gp_175 l)
noncomputable def gp_335 (l : GI) : GI := jl_m 9223372036854775807 25600000000 (jl_z 3 l)
noncomputable def gp_336 (l : GI) : GI := jl_m 9223372036854775807 25600000000 (jl_z 1 l)
noncomputable def gp_337 (l : GI) : GI := gp_230 (gp_126 l)
noncomputable def gp_338 (l : GI) : GI := gp_121 (jl_z 18 (jl_r 2 (jl_t) l))
noncomputable def gp_339 (l : GI) : GI := jl_t (jl_i 0 16 l)
noncomputable def gp_340 (l : GI) : GI := jl_z 1 (jl_i 0 16 l)
noncomputable def gp_341 (l : GI) : GI := jl_i 0 4 (jl_i 0 16 l)
noncomputable def gp_342 (l : GI) : GI := gp_273 (gp_270 l)
noncomputable def gp_343 (l : GI) : GI := gp_342 (jl_t (gp_272 l))
noncomputable def gp_344 (l : GI) : GI := jl_z 4 (jl_t l)
noncomputable def gp_345 (l : GI) : GI := gp_273 (gp_344 l)
noncomputable def gp_346 (l : GI) : GI := gp_255 (jl_z 3 l)
noncomputable def gp_347 (l : GI) : GI := gp_346 (gp_277 l)
noncomputable def gp_348 (l : GI) : GI := jl_z 16 (gp_347 (gp_266 l))
noncomputable def gp_349 (l : GI) : GI := gp_264 (gp_348 l)
noncomputable def gp_350 (l : GI) : GI := gp_345 (gp_349 l)
noncomputable def gp_351 (l : GI) : GI := gp_346 (jl_t l)
noncomputable def gp_352 (l : GI) : GI := gp_273 (jl_z 9 (gp_351 l))
noncomputable def gp_353 (l : GI) : GI := jl_t (gp_352 l)
noncomputable def gp_354 (l : GI) : GI := jl_t (jl_z 22 l)
noncomputable def gp_355 (l : GI) : GI := jl_z 22 (gp_354 l)
noncomputable def gp_356 (l : GI) : GI := jl_i 0 16 (gp_355 l)
noncomputable def gp_357 (l : GI) : GI := jl_m 999 16 (jl_i 0 17 l)
noncomputable def gp_358 (l : GI) : GI := gp_224 (gp_357 l)
noncomputable def gp_359 (l : GI) : GI := jl_z 2 (jl_i 0 16 l)
noncomputable def gp_360 (l : GI) : GI := jl_z 21 (gp_0 l)
noncomputable def gp_361 (l : GI) : GI := jl_i 0 16 (jl_z 1 l)
noncomputable def gp_362 (l : GI) : GI := gp_162 (gp_289 l)
noncomputable def gp_363 (l : GI) : GI := gp_23 (jl_i 0 15 l)
noncomputable def gp_364 (l : GI) : GI := gp_162 (gp_274 l)
noncomputable def gp_365 (l : GI) : GI := gp_118 (gp_14 l)
noncomputable def gp_366 (l : GI) : GI := gp_344 (jl_i 0 5 l)
noncomputable def gp_367 (l : GI) : GI := jl_z 8 (jl_i 0 16 l)
noncomputable def gp_368 (l : GI) : GI := gp_23 (gp_273 l)
noncomputable def gp_369 (l : GI) : GI := gp_368 (jl_z 7 (gp_269 l))
noncomputable def gp_370 (l : GI) : GI := gp_288 (gp_168 l)
noncomputable def gp_371 (l : GI) : GI := gp_52 (gp_370 l)
noncomputable def gp_372 (l : GI) : GI := jl_i 0 16 (jl_z 2 l)
noncomputable def gp_373 (l : GI) : GI := gp_262 (gp_344 l)
noncomputable def gp_374 (l : GI) : GI := gp_373 (gp_279 l)
noncomputable def gp_375 (l : GI) : GI := jl_t (gp_281 l)
noncomputable def gp_376 (l : GI) : GI := gp_262 (jl_z 4 (jl_i 1 2147483647 l))
noncomputable def gp_377 (l : GI) : GI := gp_292 (gp_205 l)
noncomputable def gp_378 (l : GI) : GI := gp_186 (gp_111 l)
noncomputable def gp_379 (l : GI) : GI := jl_m 0 4 (gp_213 (jl_z 17 (jl_i 0 64 (jl_z 27 l))))
noncomputable def gp_380 (l : GI) : GI := gp_221 (gp_379 l)
noncomputable def gp_381 (l : GI) : GI := gp_233 (gp_278 l)
noncomputable def gp_382 (l : GI) : GI := jl_z 1 (jl_i 0 2147483647 l)
noncomputable def gp_383 (l : GI) : GI := jl_t (jl_z 3 l)
noncomputable def gp_384 (l : GI) : GI := gp_372 (jl_i 0 5 l)
noncomputable def gp_385 (l : GI) : GI := gp_384 (jl_z 19 l)
noncomputable def gp_386 (l : GI) : GI := gp_0 (jl_r 3 (jl_t) l)
noncomputable def gp_387 (l : GI) : GI := jl_z 11 (gp_112 l)
noncomputable def gp_388 (l : GI) : GI := jl_z 2 (gp_386 (jl_z 5 l))
noncomputable def gp_389 (l : GI) : GI := gp_388 (gp_372 l)
noncomputable def gp_390 (l : GI) : GI := gp_112 (gp_156 l)
noncomputable def gp_391 (l : GI) : GI := gp_212 (jl_z 17 (gp_351 (jl_z 3 (gp_112 (jl_r 3 (jl_t) (gp_387 l))))))
noncomputable def gp_392 (l : GI) : GI := gp_372 (jl_i 1 5 l)
noncomputable def gp_393 (l : GI) : GI := jl_i 0 1 (jl_z 6 l)
noncomputable def gp_394 (l : GI) : GI := gp_199 (gp_393 (gp_271 l))
noncomputable def gp_395 (l : GI) : GI := jl_r 3 (jl_t) (jl_z 10 l)
noncomputable def gp_396 (l : GI) : GI := jl_z 7 (gp_395 l)
noncomputable def gp_397 (l : GI) : GI := jl_z 46 (gp_11 l)
noncomputable def gp_398 (l : GI) : GI := gp_13 (gp_331 l)
noncomputable def gp_399 (l : GI) : GI := gp_398 (jl_r 5 (jl_m 0 4) l)
noncomputable def gp_400 (l : GI) : GI := gp_399 (jl_z 6 l)
noncomputable def gp_401 (l : GI) : GI := gp_397 (jl_i 3 3 l)
noncomputable def gp_402 (l : GI) : GI := gp_397 (jl_i 4 4 l)
noncomputable def gp_403 (l : GI) : GI := gp_397 (jl_i 5 5 l)
noncomputable def gp_404 (l : GI) : GI := gp_139 (gp_218 l)
noncomputable def gp_405 (l : GI) : GI := gp_404 (jl_m 0 3 (jl_r 4 (jl_m 0 4) (jl_z 6 l)))
noncomputable def gp_406 (l : GI) : GI := gp_404 (jl_m 0 4 (jl_m 0 3 (jl_r 3 (jl_m 0 4) (jl_z 6 l))))
noncomputable def gp_407 (l : GI) : GI := gp_291 (gp_396 l)
noncomputable def gp_408 (l : GI) : GI := gp_15 (gp_114 l)
noncomputable def gp_409 (l : GI) : GI := jl_i 0 30 (jl_i 1 2147483647 (jl_z 14 l))
noncomputable def gp_410 (l : GI) : GI := gp_287 (gp_396 l)
noncomputable def gp_411 (l : GI) : GI := gp_232 (gp_268 l)
noncomputable def gp_412 (l : GI) : GI := gp_384 (gp_381 l)
noncomputable def gp_413 (l : GI) : GI := jl_z 3 (gp_271 l)
noncomputable def gp_414 (l : GI) : GI := jl_t (gp_288 l)
noncomputable def gp_415 (l : GI) : GI := gp_349 (gp_413 l)
noncomputable def gp_416 (l : GI) : GI := jl_z 23 (gp_351 (gp_413 l))
noncomputable def gp_417 (l : GI) : GI := gp_263 (jl_i 1 5 l)
noncomputable def gp_418 (l : GI) : GI := gp_417 (gp_232 l)
noncomputable def gp_419 (l : GI) : GI := gp_168 (jl_z 14 l)
noncomputable def gp_420 (l : GI) : GI := jl_z 1 (jl_i 4 2147483647 l)
noncomputable def gp_421 (l : GI) : GI := gp_420 (jl_t l)
noncomputable def gp_422 (l : GI) : GI := jl_z 19 (gp_384 l)
noncomputable def gp_423 (l : GI) : GI := gp_422 (jl_z 15 l)
noncomputable def gp_424 (l : GI) : GI := gp_423 (jl_r 4 (jl_m 0 60) l)
noncomputable def gp_425 (l : GI) : GI := jl_r 4 (jl_m 0 60) (jl_z 1 l)
noncomputable def gp_426 (l : GI) : GI := jl_r 3 (jl_m 0 60) (jl_i 0 60 l)
noncomputable def gp_427 (l : GI) : GI := jl_r 60 (jl_u) (jl_z 1 l)
noncomputable def gp_428 (l : GI) : GI := gp_23 (jl_z 19 (gp_392 l))
noncomputable def gp_429 (l : GI) : GI := gp_428 (jl_z 15 l)
noncomputable def gp_430 (l : GI) : GI := gp_429 (jl_r 3 (jl_m 0 60) l)
noncomputable def gp_431 (l : GI) : GI := jl_z 1 (jl_r 60 (jl_u) l)
noncomputable def gp_432 (l : GI) : GI := gp_341 (jl_i 0 250 l)
noncomputable def gp_433 (l : GI) : GI := gp_432 (gp_432 l)
noncomputable def gp_434 (l : GI) : GI := gp_433 (gp_433 l)
noncomputable def gp_435 (l : GI) : GI := gp_434 (jl_r 48 (jl_u) l)
noncomputable def gp_436 (l : GI) : GI := jl_i 10 12 (gp_435 l)
noncomputable def gp_437 (l : GI) : GI := gp_434 (gp_432 l)
noncomputable def gp_438 (l : GI) : GI := gp_437 (jl_r 45 (jl_u) l)
noncomputable def gp_439 (l : GI) : GI := jl_i 13 15 (gp_438 l)
noncomputable def gp_440 (l : GI) : GI := gp_434 (gp_433 l)
noncomputable def gp_441 (l : GI) : GI := gp_440 (jl_r 42 (jl_u) l)
noncomputable def gp_442 (l : GI) : GI := jl_i 16 18 (gp_441 l)
noncomputable def gp_443 (l : GI) : GI := gp_433 (gp_432 l)
noncomputable def gp_444 (l : GI) : GI := gp_434 (gp_443 (jl_r 39 (jl_u) l))
noncomputable def gp_445 (l : GI) : GI := jl_i 19 21 (gp_444 l)
noncomputable def gp_446 (l : GI) : GI := gp_434 (gp_434 l)
noncomputable def gp_447 (l : GI) : GI := gp_446 (jl_r 36 (jl_u) l)
noncomputable def gp_448 (l : GI) : GI := jl_i 22 24 (gp_447 l)
noncomputable def gp_449 (l : GI) : GI := gp_432 (jl_r 33 (jl_u) l)
noncomputable def gp_450 (l : GI) : GI := gp_446 (gp_449 l)
noncomputable def gp_451 (l : GI) : GI := jl_i 25 27 (gp_450 l)
noncomputable def gp_452 (l : GI) : GI := gp_432 (jl_r 57 (jl_u) l)
noncomputable def gp_453 (l : GI) : GI := jl_i 1 3 (gp_452 l)
noncomputable def gp_454 (l : GI) : GI := gp_433 (jl_r 30 (jl_u) l)
noncomputable def gp_455 (l : GI) : GI := gp_446 (gp_454 l)
noncomputable def gp_456 (l : GI) : GI := jl_i 28 30 (gp_455 l)
noncomputable def gp_457 (l : GI) : GI := gp_443 (jl_r 27 (jl_u) l)
noncomputable def gp_458 (l : GI) : GI := gp_446 (gp_457 l)
noncomputable def gp_459 (l : GI) : GI := jl_i 31 33 (gp_458 l)
noncomputable def gp_460 (l : GI) : GI := gp_446 (gp_434 l)
noncomputable def gp_461 (l : GI) : GI := gp_460 (jl_r 24 (jl_u) l)
noncomputable def gp_462 (l : GI) : GI := jl_i 34 36 (gp_461 l)
noncomputable def gp_463 (l : GI) : GI := gp_460 (gp_432 l)
noncomputable def gp_464 (l : GI) : GI := gp_463 (jl_r 21 (jl_u) l)
noncomputable def gp_465 (l : GI) : GI := jl_i 37 39 (gp_464 l)
noncomputable def gp_466 (l : GI) : GI := gp_460 (gp_433 l)
noncomputable def gp_467 (l : GI) : GI := gp_466 (jl_r 18 (jl_u) l)
noncomputable def gp_468 (l : GI) : GI := jl_i 40 42 (gp_467 l)
noncomputable def gp_469 (l : GI) : GI := gp_460 (gp_443 l)
noncomputable def gp_470 (l : GI) : GI := gp_469 (jl_r 15 (jl_u) l)
noncomputable def gp_471 (l : GI) : GI := jl_i 43 45 (gp_470 l)
noncomputable def gp_472 (l : GI) : GI := gp_446 (gp_446 l)
noncomputable def gp_473 (l : GI) : GI := gp_472 (jl_r 12 (jl_u) l)
noncomputable def gp_474 (l : GI) : GI := jl_i 46 48 (gp_473 l)
noncomputable def gp_475 (l : GI) : GI := gp_472 (gp_432 l)
noncomputable def gp_476 (l : GI) : GI := gp_475 (jl_r 9 (jl_u) l)
noncomputable def gp_477 (l : GI) : GI := jl_i 49 51 (gp_476 l)
noncomputable def gp_478 (l : GI) : GI := gp_472 (gp_433 l)
noncomputable def gp_479 (l : GI) : GI := gp_478 (jl_r 6 (jl_u) l)
noncomputable def gp_480 (l : GI) : GI := jl_i 52 54 (gp_479 l)
noncomputable def gp_481 (l : GI) : GI := gp_472 (gp_443 l)
noncomputable def gp_482 (l : GI) : GI := gp_481 (jl_r 3 (jl_u) l)
noncomputable def gp_483 (l : GI) : GI := jl_i 55 57 (gp_482 l)
noncomputable def gp_484 (l : GI) : GI := gp_433 (jl_r 54 (jl_u) l)
noncomputable def gp_485 (l : GI) : GI := jl_i 4 6 (gp_484 l)
noncomputable def gp_486 (l : GI) : GI := gp_446 (gp_460 l)
noncomputable def gp_487 (l : GI) : GI := jl_i 58 60 (gp_486 l)
noncomputable def gp_488 (l : GI) : GI := gp_443 (jl_r 51 (jl_u) l)
noncomputable def gp_489 (l : GI) : GI := jl_i 7 9 (gp_488 l)
noncomputable def gp_490 (l : GI) : GI := gp_482 (jl_z 5 l)
noncomputable def gp_491 (l : GI) : GI := jl_r 2 (jl_m 0 60) (jl_k 0 0 l)
noncomputable def gp_492 (l : GI) : GI := jl_i 0 60 (jl_m 0 60 l)
noncomputable def gp_493 (l : GI) : GI := jl_r 2 (jl_m 0 60) (gp_492 l)
noncomputable def gp_494 (l : GI) : GI := gp_429 (jl_r 2 (jl_m 0 60) l)
noncomputable def gp_495 (l : GI) : GI := jl_m 0 60 (jl_r 60 (jl_u) l)
noncomputable def gp_496 (l : GI) : GI := jl_z 1 (gp_495 l)
noncomputable def gp_497 (l : GI) : GI := jl_m 0 60 (gp_435 l)
noncomputable def gp_498 (l : GI) : GI := jl_i 10 12 (gp_497 l)
noncomputable def gp_499 (l : GI) : GI := jl_m 0 60 (gp_438 l)
noncomputable def gp_500 (l : GI) : GI := jl_i 13 15 (gp_499 l)
noncomputable def gp_501 (l : GI) : GI := jl_m 0 60 (gp_441 l)
noncomputable def gp_502 (l : GI) : GI := jl_i 16 18 (gp_501 l)
noncomputable def gp_503 (l : GI) : GI := jl_m 0 60 (gp_444 l)
noncomputable def gp_504 (l : GI) : GI := jl_i 19 21 (gp_503 l)
noncomputable def gp_505 (l : GI) : GI := jl_m 0 60 (gp_446 l)
noncomputable def gp_506 (l : GI) : GI := gp_505 (jl_r 36 (jl_u) l)
noncomputable def gp_507 (l : GI) : GI := jl_i 22 24 (gp_506 l)
noncomputable def gp_508 (l : GI) : GI := gp_505 (gp_449 l)
noncomputable def gp_509 (l : GI) : GI := jl_i 25 27 (gp_508 l)
noncomputable def gp_510 (l : GI) : GI := jl_m 0 60 (gp_452 l)
noncomputable def gp_511 (l : GI) : GI := jl_i 1 3 (gp_510 l)
noncomputable def gp_512 (l : GI) : GI := gp_505 (gp_454 l)
noncomputable def gp_513 (l : GI) : GI := jl_i 28 30 (gp_512 l)
noncomputable def gp_514 (l : GI) : GI := gp_505 (gp_457 l)
noncomputable def gp_515 (l : GI) : GI := jl_i 31 33 (gp_514 l)
noncomputable def gp_516 (l : GI) : GI := jl_m 0 60 (gp_461 l)
noncomputable def gp_517 (l : GI) : GI := jl_i 34 36 (gp_516 l)
noncomputable def gp_518 (l : GI) : GI := jl_m 0 60 (gp_464 l)
noncomputable def gp_519 (l : GI) : GI := jl_i 37 39 (gp_518 l)
noncomputable def gp_520 (l : GI) : GI := jl_m 0 60 (gp_467 l)
noncomputable def gp_521 (l : GI) : GI := jl_i 40 42 (gp_520 l)
noncomputable def gp_522 (l : GI) : GI := jl_m 0 60 (gp_470 l)
noncomputable def gp_523 (l : GI) : GI := jl_i 43 45 (gp_522 l)
noncomputable def gp_524 (l : GI) : GI := jl_m 0 60 (gp_473 l)
noncomputable def gp_525 (l : GI) : GI := jl_i 46 48 (gp_524 l)
noncomputable def gp_526 (l : GI) : GI := jl_m 0 60 (gp_476 l)
noncomputable def gp_527 (l : GI) : GI := jl_i 49 51 (gp_526 l)
noncomputable def gp_528 (l : GI) : GI := jl_m 0 60 (gp_479 l)
noncomputable def gp_529 (l : GI) : GI := jl_i 52 54 (gp_528 l)
noncomputable def gp_530 (l : GI) : GI := jl_i 55 57 (jl_m 0 60 l)
noncomputable def gp_531 (l : GI) : GI := gp_530 (gp_482 l)
noncomputable def gp_532 (l : GI) : GI := jl_m 0 60 (gp_484 l)
noncomputable def gp_533 (l : GI) : GI := jl_i 4 6 (gp_532 l)
noncomputable def gp_534 (l : GI) : GI := jl_i 58 60 (gp_505 (gp_460 l))
noncomputable def gp_535 (l : GI) : GI := jl_m 0 60 (gp_488 l)
noncomputable def gp_536 (l : GI) : GI := jl_i 7 9 (gp_535 l)
noncomputable def gp_537 (l : GI) : GI := jl_m 0 60 (jl_k 0 0 l)
noncomputable def gp_538 (l : GI) : GI := jl_i 0 60 (jl_r 2 (jl_m 0 60) l)
noncomputable def gp_539 (l : GI) : GI := gp_429 (jl_m 0 60 l)
noncomputable def gp_540 (l : GI) : GI := jl_r 2 (jl_m 0 60) (jl_r 60 (jl_u) l)
noncomputable def gp_541 (l : GI) : GI := jl_z 1 (gp_540 l)
noncomputable def gp_542 (l : GI) : GI := jl_r 2 (jl_m 0 60) (gp_435 l)
noncomputable def gp_543 (l : GI) : GI := jl_i 10 12 (gp_542 l)
noncomputable def gp_544 (l : GI) : GI := jl_r 2 (jl_m 0 60) (gp_438 l)
noncomputable def gp_545 (l : GI) : GI := jl_i 13 15 (gp_544 l)
noncomputable def gp_546 (l : GI) : GI := jl_r 2 (jl_m 0 60) (gp_441 l)
noncomputable def gp_547 (l : GI) : GI := jl_i 16 18 (gp_546 l)
noncomputable def gp_548 (l : GI) : GI := jl_r 2 (jl_m 0 60) (gp_444 l)
noncomputable def gp_549 (l : GI) : GI := jl_i 19 21 (gp_548 l)
noncomputable def gp_550 (l : GI) : GI := jl_r 2 (jl_m 0 60) (gp_446 l)
noncomputable def gp_551 (l : GI) : GI := gp_550 (jl_r 36 (jl_u) l)
noncomputable def gp_552 (l : GI) : GI := jl_i 22 24 (gp_551 l)
noncomputable def gp_553 (l : GI) : GI := gp_550 (gp_449 l)
noncomputable def gp_554 (l : GI) : GI := jl_i 25 27 (gp_553 l)
noncomputable def gp_555 (l : GI) : GI := jl_r 2 (jl_m 0 60) (gp_452 l)
noncomputable def gp_556 (l : GI) : GI := jl_i 1 3 (gp_555 l)
noncomputable def gp_557 (l : GI) : GI := gp_550 (gp_454 l)
noncomputable def gp_558 (l : GI) : GI := jl_i 28 30 (gp_557 l)
noncomputable def gp_559 (l : GI) : GI := gp_550 (gp_457 l)
noncomputable def gp_560 (l : GI) : GI := jl_i 31 33 (gp_559 l)
noncomputable def gp_561 (l : GI) : GI := jl_r 2 (jl_m 0 60) (gp_461 l)
noncomputable def gp_562 (l : GI) : GI := jl_i 34 36 (gp_561 l)
noncomputable def gp_563 (l : GI) : GI := jl_r 2 (jl_m 0 60) (gp_464 l)
noncomputable def gp_564 (l : GI) : GI := jl_i 37 39 (gp_563 l)
noncomputable def gp_565 (l : GI) : GI := jl_r 2 (jl_m 0 60) (gp_467 l)
noncomputable def gp_566 (l : GI) : GI := jl_i 40 42 (gp_565 l)
noncomputable def gp_567 (l : GI) : GI := jl_r 2 (jl_m 0 60) (gp_470 l)
noncomputable def gp_568 (l : GI) : GI := jl_i 43 45 (gp_567 l)
noncomputable def gp_569 (l : GI) : GI := jl_r 2 (jl_m 0 60) (gp_473 l)
noncomputable def gp_570 (l : GI) : GI := jl_i 46 48 (gp_569 l)
noncomputable def gp_571 (l : GI) : GI := jl_r 2 (jl_m 0 60) (gp_476 l)
noncomputable def gp_572 (l : GI) : GI := jl_i 49 51 (gp_571 l)
noncomputable def gp_573 (l : GI) : GI := jl_r 2 (jl_m 0 60) (gp_479 l)
noncomputable def gp_574 (l : GI) : GI := jl_i 52 54 (gp_573 l)
noncomputable def gp_575 (l : GI) : GI := jl_i 55 57 (jl_r 2 (jl_m 0 60) l)
noncomputable def gp_576 (l : GI) : GI := gp_575 (gp_482 l)
noncomputable def gp_577 (l : GI) : GI := jl_r 2 (jl_m 0 60) (gp_484 l)
noncomputable def gp_578 (l : GI) : GI := jl_i 4 6 (gp_577 l)
noncomputable def gp_579 (l : GI) : GI := jl_i 58 60 (gp_550 (gp_460 l))
noncomputable def gp_580 (l : GI) : GI := jl_r 2 (jl_m 0 60) (gp_488 l)
noncomputable def gp_581 (l : GI) : GI := jl_i 7 9 (gp_580 l)
noncomputable def gp_582 (l : GI) : GI := jl_r 3 (jl_m 0 60) (jl_r 60 (jl_u) l)
noncomputable def gp_583 (l : GI) : GI := gp_582 (jl_z 1 l)
noncomputable def gp_584 (l : GI) : GI := jl_i 10 12 (jl_r 3 (jl_m 0 60) l)
noncomputable def gp_585 (l : GI) : GI := gp_584 (gp_435 l)
noncomputable def gp_586 (l : GI) : GI := jl_i 13 15 (jl_r 3 (jl_m 0 60) l)
noncomputable def gp_587 (l : GI) : GI := gp_586 (gp_438 l)
noncomputable def gp_588 (l : GI) : GI := jl_i 16 18 (jl_r 3 (jl_m 0 60) l)
noncomputable def gp_589 (l : GI) : GI := gp_588 (gp_441 l)
noncomputable def gp_590 (l : GI) : GI := jl_i 19 21 (jl_r 3 (jl_m 0 60) l)
noncomputable def gp_591 (l : GI) : GI := gp_590 (gp_444 l)
noncomputable def gp_592 (l : GI) : GI := jl_r 3 (jl_m 0 60) (gp_446 l)
noncomputable def gp_593 (l : GI) : GI := jl_i 22 24 (gp_592 l)
noncomputable def gp_594 (l : GI) : GI := gp_593 (jl_r 36 (jl_u) l)
noncomputable def gp_595 (l : GI) : GI := jl_i 25 27 (gp_592 l)
noncomputable def gp_596 (l : GI) : GI := gp_595 (gp_449 l)
noncomputable def gp_597 (l : GI) : GI := jl_i 1 3 (jl_r 3 (jl_m 0 60) l)
noncomputable def gp_598 (l : GI) : GI := gp_597 (gp_452 l)
noncomputable def gp_599 (l : GI) : GI := jl_i 28 30 (gp_592 l)
noncomputable def gp_600 (l : GI) : GI := gp_599 (gp_454 l)
noncomputable def gp_601 (l : GI) : GI := jl_i 31 33 (gp_592 l)
noncomputable def gp_602 (l : GI) : GI := gp_601 (gp_457 l)
noncomputable def gp_603 (l : GI) : GI := jl_i 34 36 (jl_r 3 (jl_m 0 60) l)
noncomputable def gp_604 (l : GI) : GI := gp_603 (gp_461 l)
noncomputable def gp_605 (l : GI) : GI := jl_i 37 39 (jl_r 3 (jl_m 0 60) l)
noncomputable def gp_606 (l : GI) : GI := gp_605 (gp_464 l)
noncomputable def gp_607 (l : GI) : GI := jl_i 40 42 (jl_r 3 (jl_m 0 60) l)
noncomputable def gp_608 (l : GI) : GI := gp_607 (gp_467 l)
noncomputable def gp_609 (l : GI) : GI := jl_i 43 45 (jl_r 3 (jl_m 0 60) l)
noncomputable def gp_610 (l : GI) : GI := gp_609 (gp_470 l)
noncomputable def gp_611 (l : GI) : GI := jl_i 46 48 (jl_r 3 (jl_m 0 60) l)
noncomputable def gp_612 (l : GI) : GI := gp_611 (gp_473 l)
noncomputable def gp_613 (l : GI) : GI := jl_i 49 51 (jl_r 3 (jl_m 0 60) l)
noncomputable def gp_614 (l : GI) : GI := gp_613 (gp_476 l)
noncomputable def gp_615 (l : GI) : GI := jl_i 52 54 (jl_r 3 (jl_m 0 60) l)
noncomputable def gp_616 (l : GI) : GI := gp_615 (gp_479 l)
noncomputable def gp_617 (l : GI) : GI := jl_i 55 57 (jl_r 3 (jl_m 0 60) l)
noncomputable def gp_618 (l : GI) : GI := gp_617 (gp_482 l)
noncomputable def gp_619 (l : GI) : GI := jl_i 4 6 (jl_r 3 (jl_m 0 60) l)
noncomputable def gp_620 (l : GI) : GI := gp_619 (gp_484 l)
noncomputable def gp_621 (l : GI) : GI := jl_i 58 60 (gp_592 (gp_460 l))
noncomputable def gp_622 (l : GI) : GI := jl_i 7 9 (jl_r 3 (jl_m 0 60) l)
noncomputable def gp_623 (l : GI) : GI := gp_622 (gp_488 l)
noncomputable def gp_624 (l : GI) : GI := jl_z 1 (jl_k 2147483647 0 l)
noncomputable def gp_625 (l : GI) : GI := gp_624 (jl_t l)
noncomputable def gp_626 (l : GI) : GI := jl_z 21 (jl_r 3 (jl_m 0 60) l)
noncomputable def gp_627 (l : GI) : GI := gp_626 (gp_489 l)
noncomputable def gp_628 (l : GI) : GI := jl_z 12 (jl_i 0 84 l)
noncomputable def gp_629 (l : GI) : GI := jl_t (jl_z 6 (gp_271 l))
noncomputable def gp_630 (l : GI) : GI := gp_369 (gp_629 (jl_z 3 l))
noncomputable def gp_631 (l : GI) : GI := gp_630 (jl_r 3 (jl_m 0 60) l)
noncomputable def gp_632 (l : GI) : GI := gp_272 (gp_629 l)
noncomputable def gp_633 (l : GI) : GI := jl_z 3 (jl_m 0 5 (gp_632 l))
noncomputable def gp_634 (l : GI) : GI := gp_626 (gp_487 l)
noncomputable def gp_635 (l : GI) : GI := gp_626 (gp_485 l)
noncomputable def gp_636 (l : GI) : GI := gp_626 (gp_483 l)
noncomputable def gp_637 (l : GI) : GI := gp_626 (gp_480 l)
noncomputable def gp_638 (l : GI) : GI := gp_626 (gp_477 l)
noncomputable def gp_639 (l : GI) : GI := gp_626 (gp_474 l)
noncomputable def gp_640 (l : GI) : GI := gp_626 (gp_471 l)
noncomputable def gp_641 (l : GI) : GI := gp_626 (gp_468 l)
noncomputable def gp_642 (l : GI) : GI := gp_626 (gp_465 l)
noncomputable def gp_643 (l : GI) : GI := gp_626 (gp_462 l)
noncomputable def gp_644 (l : GI) : GI := gp_626 (gp_459 l)
noncomputable def gp_645 (l : GI) : GI := gp_626 (gp_456 l)
noncomputable def gp_646 (l : GI) : GI := gp_626 (gp_453 l)
noncomputable def gp_647 (l : GI) : GI := gp_626 (gp_451 l)
noncomputable def gp_648 (l : GI) : GI := gp_626 (gp_448 l)
noncomputable def gp_649 (l : GI) : GI := gp_626 (gp_445 l)
noncomputable def gp_650 (l : GI) : GI := gp_626 (gp_442 l)
noncomputable def gp_651 (l : GI) : GI := gp_626 (gp_439 l)
noncomputable def gp_652 (l : GI) : GI := gp_626 (gp_436 l)
noncomputable def gp_653 (l : GI) : GI := jl_z 21 (jl_r 2 (jl_m 0 60) l)
noncomputable def gp_654 (l : GI) : GI := gp_653 (gp_536 l)
noncomputable def gp_655 (l : GI) : GI := gp_630 (jl_r 2 (jl_m 0 60) l)
noncomputable def gp_656 (l : GI) : GI := gp_653 (gp_534 l)
noncomputable def gp_657 (l : GI) : GI := gp_653 (gp_533 l)
noncomputable def gp_658 (l : GI) : GI := gp_653 (gp_531 l)
noncomputable def gp_659 (l : GI) : GI := gp_653 (gp_529 l)
noncomputable def gp_660 (l : GI) : GI := gp_653 (gp_527 l)
noncomputable def gp_661 (l : GI) : GI := gp_653 (gp_525 l)
noncomputable def gp_662 (l : GI) : GI := gp_653 (gp_523 l)
noncomputable def gp_663 (l : GI) : GI := gp_653 (gp_521 l)
noncomputable def gp_664 (l : GI) : GI := gp_653 (gp_519 l)
noncomputable def gp_665 (l : GI) : GI := gp_653 (gp_517 l)
noncomputable def gp_666 (l : GI) : GI := gp_653 (gp_515 l)
noncomputable def gp_667 (l : GI) : GI := gp_653 (gp_513 l)
noncomputable def gp_668 (l : GI) : GI := gp_653 (gp_511 l)
noncomputable def gp_669 (l : GI) : GI := gp_653 (gp_509 l)
noncomputable def gp_670 (l : GI) : GI := gp_653 (gp_507 l)
noncomputable def gp_671 (l : GI) : GI := gp_653 (gp_504 l)
noncomputable def gp_672 (l : GI) : GI := gp_653 (gp_502 l)
noncomputable def gp_673 (l : GI) : GI := gp_653 (gp_500 l)
noncomputable def gp_674 (l : GI) : GI := gp_653 (gp_498 l)
noncomputable def gp_675 (l : GI) : GI := jl_z 21 (jl_m 0 60 l)
noncomputable def gp_676 (l : GI) : GI := gp_675 (gp_581 l)
noncomputable def gp_677 (l : GI) : GI := gp_630 (jl_m 0 60 l)
noncomputable def gp_678 (l : GI) : GI := gp_675 (gp_579 l)
noncomputable def gp_679 (l : GI) : GI := gp_675 (gp_578 l)
noncomputable def gp_680 (l : GI) : GI := gp_675 (gp_576 l)
noncomputable def gp_681 (l : GI) : GI := gp_675 (gp_574 l)
noncomputable def gp_682 (l : GI) : GI := gp_675 (gp_572 l)
noncomputable def gp_683 (l : GI) : GI := gp_675 (gp_570 l)
noncomputable def gp_684 (l : GI) : GI := gp_675 (gp_568 l)
noncomputable def gp_685 (l : GI) : GI := gp_675 (gp_566 l)
noncomputable def gp_686 (l : GI) : GI := gp_675 (gp_564 l)
noncomputable def gp_687 (l : GI) : GI := gp_675 (gp_562 l)
noncomputable def gp_688 (l : GI) : GI := gp_675 (gp_560 l)
noncomputable def gp_689 (l : GI) : GI := gp_675 (gp_558 l)
noncomputable def gp_690 (l : GI) : GI := gp_675 (gp_556 l)
noncomputable def gp_691 (l : GI) : GI := gp_675 (gp_554 l)
noncomputable def gp_692 (l : GI) : GI := gp_675 (gp_552 l)
noncomputable def gp_693 (l : GI) : GI := gp_675 (gp_549 l)
noncomputable def gp_694 (l : GI) : GI := gp_675 (gp_547 l)
noncomputable def gp_695 (l : GI) : GI := gp_675 (gp_545 l)
noncomputable def gp_696 (l : GI) : GI := gp_675 (gp_543 l)
noncomputable def gp_697 (l : GI) : GI := jl_z 21 (gp_623 l)
noncomputable def gp_698 (l : GI) : GI := jl_z 21 (gp_621 l)
noncomputable def gp_699 (l : GI) : GI := jl_z 21 (gp_620 l)
noncomputable def gp_700 (l : GI) : GI := jl_z 21 (gp_618 l)
noncomputable def gp_701 (l : GI) : GI := jl_z 21 (gp_616 l)
noncomputable def gp_702 (l : GI) : GI := jl_z 21 (gp_614 l)
noncomputable def gp_703 (l : GI) : GI := jl_z 21 (gp_612 l)
noncomputable def gp_704 (l : GI) : GI := jl_z 21 (gp_610 l)
noncomputable def gp_705 (l : GI) : GI := jl_z 21 (gp_608 l)
noncomputable def gp_706 (l : GI) : GI := jl_z 21 (gp_606 l)
noncomputable def gp_707 (l : GI) : GI := jl_z 21 (gp_604 l)
noncomputable def gp_708 (l : GI) : GI := jl_z 21 (gp_602 l)
noncomputable def gp_709 (l : GI) : GI := jl_z 21 (gp_600 l)
noncomputable def gp_710 (l : GI) : GI := jl_z 21 (gp_598 l)
noncomputable def gp_711 (l : GI) : GI := jl_z 21 (gp_596 l)
noncomputable def gp_712 (l : GI) : GI := jl_z 21 (gp_594 l)
noncomputable def gp_713 (l : GI) : GI := jl_z 21 (gp_591 l)
noncomputable def gp_714 (l : GI) : GI := jl_z 21 (gp_589 l)
noncomputable def gp_715 (l : GI) : GI := jl_z 21 (gp_587 l)
noncomputable def gp_716 (l : GI) : GI := jl_z 21 (gp_585 l)
noncomputable def gp_717 (l : GI) : GI := gp_364 (gp_276 (jl_r 4 (jl_m 0 60) (jl_r 240 (jl_u) l)))
noncomputable def gp_718 (l : GI) : GI := jl_z 3 (gp_278 l)
noncomputable def gp_719 (l : GI) : GI := gp_718 (gp_629 l)
noncomputable def gp_720 (l : GI) : GI := jl_i 0 4 (gp_274 l)
noncomputable def gp_721 (l : GI) : GI := gp_417 (gp_233 l)
noncomputable def gp_722 (l : GI) : GI := gp_720 (gp_721 l)
noncomputable def gp_723 (l : GI) : GI := jl_z 1 (jl_i 3 3 (gp_722 (jl_r 3 (jl_m 0 60) l)))
noncomputable def gp_724 (l : GI) : GI := gp_719 (jl_z 4 l)
noncomputable def gp_725 (l : GI) : GI := jl_r 240 (jl_u) (gp_724 l)
noncomputable def gp_726 (l : GI) : GI := gp_299 (gp_722 (jl_r 2 (jl_m 0 60) l))
noncomputable def gp_727 (l : GI) : GI := jl_m 0 60 (jl_r 120 (jl_u) l)
noncomputable def gp_728 (l : GI) : GI := gp_727 (gp_446 l)
noncomputable def gp_729 (l : GI) : GI := gp_434 (gp_443 l)
noncomputable def gp_730 (l : GI) : GI := jl_z 1 (jl_i 1 1 (gp_722 (jl_m 0 60 l)))
noncomputable def gp_731 (l : GI) : GI := gp_540 (gp_446 l)
noncomputable def gp_732 (l : GI) : GI := gp_368 (jl_z 5 l)
noncomputable def gp_733 (l : GI) : GI := gp_732 (gp_721 l)
noncomputable def gp_734 (l : GI) : GI := gp_164 (jl_r 4 (jl_m 0 60) l)
noncomputable def gp_735 (l : GI) : GI := jl_z 11 (gp_214 l)
noncomputable def gp_736 (l : GI) : GI := gp_287 (gp_735 l)
noncomputable def gp_737 (l : GI) : GI := gp_124 (jl_r 4 (jl_m 0 60) l)
noncomputable def gp_738 (l : GI) : GI := gp_736 (gp_737 l)
noncomputable def gp_739 (l : GI) : GI := gp_327 (gp_419 l)
noncomputable def gp_740 (l : GI) : GI := jl_r 3 (jl_m 0 60) (gp_431 l)
noncomputable def gp_741 (l : GI) : GI := gp_167 (gp_409 l)
noncomputable def gp_742 (l : GI) : GI := gp_327 (gp_741 l)
noncomputable def gp_743 (l : GI) : GI := gp_742 (jl_r 3 (jl_m 0 60) l)
noncomputable def gp_744 (l : GI) : GI := jl_r 3 (jl_u) (jl_z 4 l)
noncomputable def gp_745 (l : GI) : GI := gp_481 (gp_744 l)
noncomputable def gp_746 (l : GI) : GI := jl_z 47 (jl_r 3 (jl_m 0 60) l)
noncomputable def gp_747 (l : GI) : GI := gp_23 (gp_736 l)
noncomputable def gp_748 (l : GI) : GI := gp_747 (gp_419 l)
noncomputable def gp_749 (l : GI) : GI := gp_291 (gp_735 l)
noncomputable def gp_750 (l : GI) : GI := gp_747 (gp_741 l)
noncomputable def gp_751 (l : GI) : GI := gp_750 (jl_r 3 (jl_m 0 60) l)
noncomputable def gp_752 (l : GI) : GI := jl_i 0 6 (gp_736 l)
noncomputable def gp_753 (l : GI) : GI := jl_z 4 (gp_752 l)
noncomputable def gp_754 (l : GI) : GI := gp_745 (gp_752 l)
noncomputable def gp_755 (l : GI) : GI := gp_747 (gp_152 (gp_139 l))
noncomputable def gp_756 (l : GI) : GI := gp_755 (jl_i 0 7 (gp_409 l))
noncomputable def gp_757 (l : GI) : GI := gp_756 (jl_r 3 (jl_m 0 60) l)
noncomputable def gp_758 (l : GI) : GI := jl_z 36 (gp_214 l)
noncomputable def gp_759 (l : GI) : GI := jl_i 0 85 (gp_758 l)
noncomputable def gp_760 (l : GI) : GI := gp_257 (gp_759 l)
noncomputable def gp_761 (l : GI) : GI := gp_745 (jl_i 0 5 (gp_759 l))
noncomputable def gp_762 (l : GI) : GI := gp_755 (gp_218 l)
noncomputable def gp_763 (l : GI) : GI := jl_z 5 (gp_759 l)
noncomputable def gp_764 (l : GI) : GI := jl_i 1 6 (jl_z 37 (gp_214 l))
noncomputable def gp_765 (l : GI) : GI := jl_z 4 (gp_764 l)
noncomputable def gp_766 (l : GI) : GI := gp_745 (gp_764 l)
noncomputable def gp_767 (l : GI) : GI := jl_r 2 (jl_m 0 60) (gp_496 l)
noncomputable def gp_768 (l : GI) : GI := gp_742 (jl_r 2 (jl_m 0 60) l)
noncomputable def gp_769 (l : GI) : GI := jl_z 47 (jl_r 2 (jl_m 0 60) l)
noncomputable def gp_770 (l : GI) : GI := gp_750 (jl_r 2 (jl_m 0 60) l)
noncomputable def gp_771 (l : GI) : GI := gp_756 (jl_r 2 (jl_m 0 60) l)
noncomputable def gp_772 (l : GI) : GI := jl_m 0 60 (gp_541 l)
noncomputable def gp_773 (l : GI) : GI := gp_742 (jl_m 0 60 l)
noncomputable def gp_774 (l : GI) : GI := jl_m 0 60 (jl_i 0 60 l)
noncomputable def gp_775 (l : GI) : GI := jl_z 47 (jl_m 0 60 l)
noncomputable def gp_776 (l : GI) : GI := gp_750 (jl_m 0 60 l)
noncomputable def gp_777 (l : GI) : GI := gp_756 (jl_m 0 60 l)
noncomputable def gp_778 (l : GI) : GI := jl_z 1 (jl_i 0 84 l)
noncomputable def gp_779 (l : GI) : GI := jl_z 3 (jl_t l)
noncomputable def gp_780 (l : GI) : GI := jl_z 1 (jl_i 1 5 (jl_i 0 16 (jl_r 3 (jl_t) l)))
noncomputable def gp_781 (l : GI) : GI := jl_z 4 (gp_271 l)
noncomputable def gp_782 (l : GI) : GI := gp_718 (jl_r 3 (jl_t) (gp_781 l))
noncomputable def gp_783 (l : GI) : GI := gp_782 (jl_z 4 l)
noncomputable def gp_784 (l : GI) : GI := jl_r 240 (jl_u) (gp_783 l)
noncomputable def gp_785 (l : GI) : GI := jl_r 2 (jl_t) (jl_z 7 l)
noncomputable def gp_786 (l : GI) : GI := jl_z 37 (gp_785 l)
noncomputable def gp_787 (l : GI) : GI := jl_z 37 (jl_i 0 16 (jl_z 7 l))
noncomputable def gp_788 (l : GI) : GI := gp_287 (jl_z 11 (gp_785 l))
noncomputable def gp_789 (l : GI) : GI := gp_296 (jl_r 2 (jl_i 0 1) l)
noncomputable def gp_790 (l : GI) : GI := gp_279 (gp_413 l)
noncomputable def gp_791 (l : GI) : GI := gp_281 (gp_413 l)
noncomputable def gp_792 (l : GI) : GI := jl_t (gp_791 l)
noncomputable def gp_793 (l : GI) : GI := gp_272 (gp_413 l)
noncomputable def gp_794 (l : GI) : GI := jl_z 1 (jl_r 4 (jl_t) l)
noncomputable def gp_795 (l : GI) : GI := gp_794 (gp_274 l)
noncomputable def gp_796 (l : GI) : GI := jl_z 3 (jl_i 1 8 l)
noncomputable def gp_797 (l : GI) : GI := jl_i 0 10 (jl_z 13 l)
noncomputable def gp_798 (l : GI) : GI := gp_381 (gp_413 l)
noncomputable def gp_799 (l : GI) : GI := gp_110 (gp_798 l)
noncomputable def gp_800 (l : GI) : GI := gp_287 (jl_z 13 (gp_744 l))
noncomputable def gp_801 (l : GI) : GI := gp_151 (jl_i 0 300 (gp_800 l))
noncomputable def gp_802 (l : GI) : GI := gp_123 (jl_z 35 l)
noncomputable def gp_803 (l : GI) : GI := gp_801 (gp_802 l)
noncomputable def gp_804 (l : GI) : GI := jl_r 2 (jl_u) (jl_z 4 l)
noncomputable def gp_805 (l : GI) : GI := jl_i 1 9223372036854775807 (gp_804 l)
noncomputable def gp_806 (l : GI) : GI := gp_801 (gp_10 l)
noncomputable def gp_807 (l : GI) : GI := gp_806 (jl_i 10 10 l)
noncomputable def gp_808 (l : GI) : GI := gp_807 (gp_122 l)
noncomputable def gp_809 (l : GI) : GI := gp_806 (jl_i 1 9 l)
noncomputable def gp_810 (l : GI) : GI := gp_809 (gp_122 l)
noncomputable def gp_811 (l : GI) : GI := gp_801 (gp_263 l)
noncomputable def gp_812 (l : GI) : GI := gp_811 (gp_122 l)
noncomputable def gp_813 (l : GI) : GI := gp_810 (jl_z 19 l)
noncomputable def gp_814 (l : GI) : GI := gp_813 (jl_i 1 9 l)
noncomputable def gp_815 (l : GI) : GI := gp_813 (jl_i 1 81 l)
noncomputable def gp_816 (l : GI) : GI := gp_813 (jl_i 1 729 l)
noncomputable def gp_817 (l : GI) : GI := gp_813 (jl_i 1 6561 l)
noncomputable def gp_818 (l : GI) : GI := gp_813 (jl_i 1 59049 l)
noncomputable def gp_819 (l : GI) : GI := gp_813 (jl_i 1 531441 l)
noncomputable def gp_820 (l : GI) : GI := gp_813 (jl_i 1 4782969 l)
noncomputable def gp_821 (l : GI) : GI := gp_122 (jl_z 18 l)
noncomputable def gp_822 (l : GI) : GI := gp_807 (gp_821 l)
noncomputable def gp_823 (l : GI) : GI := jl_i 0 254 (jl_z 16 l)
noncomputable def gp_824 (l : GI) : GI := jl_z 22 (gp_823 l)
noncomputable def gp_825 (l : GI) : GI := jl_i 0 9223372036854775807 (gp_804 l)
noncomputable def gp_826 (l : GI) : GI := gp_824 (gp_825 l)
noncomputable def gp_827 (l : GI) : GI := gp_809 (gp_821 l)
noncomputable def gp_828 (l : GI) : GI := jl_i 1 25643046721 (gp_804 l)
noncomputable def gp_829 (l : GI) : GI := gp_824 (gp_828 l)
noncomputable def gp_830 (l : GI) : GI := gp_811 (gp_821 l)
noncomputable def gp_831 (l : GI) : GI := gp_824 (gp_805 l)
noncomputable def gp_832 (l : GI) : GI := gp_822 (jl_i 1 254 l)
noncomputable def gp_833 (l : GI) : GI := gp_827 (jl_i 1 254 l)
noncomputable def gp_834 (l : GI) : GI := gp_830 (jl_i 1 254 l)
noncomputable def gp_835 (l : GI) : GI := gp_808 (jl_z 42 l)
noncomputable def gp_836 (l : GI) : GI := gp_810 (jl_z 42 l)
noncomputable def gp_837 (l : GI) : GI := gp_812 (jl_z 42 l)
noncomputable def gp_838 (l : GI) : GI := gp_808 (jl_z 59 l)
noncomputable def gp_839 (l : GI) : GI := jl_u (jl_i 1 9223372036854775807 l)
noncomputable def gp_840 (l : GI) : GI := gp_839 (jl_z 2 l)
noncomputable def gp_841 (l : GI) : GI := jl_i 1 25600000000 (gp_804 l)
noncomputable def gp_842 (l : GI) : GI := jl_i 0 126 (jl_z 16 l)
noncomputable def gp_843 (l : GI) : GI := jl_z 22 (gp_842 l)
noncomputable def gp_844 (l : GI) : GI := jl_i 0 25600000000 (gp_804 l)
noncomputable def gp_845 (l : GI) : GI := gp_843 (gp_844 l)
noncomputable def gp_846 (l : GI) : GI := jl_i 1 1284782969 (gp_804 l)
noncomputable def gp_847 (l : GI) : GI := gp_843 (gp_846 l)
noncomputable def gp_848 (l : GI) : GI := gp_843 (gp_841 l)
noncomputable def gp_849 (l : GI) : GI := gp_822 (jl_i 1 126 l)
noncomputable def gp_850 (l : GI) : GI := gp_827 (jl_i 1 126 l)
noncomputable def gp_851 (l : GI) : GI := gp_830 (jl_i 1 126 l)
noncomputable def gp_852 (l : GI) : GI := jl_i 1 100000000 (gp_804 l)
noncomputable def gp_853 (l : GI) : GI := jl_i 0 62 (jl_z 16 l)
noncomputable def gp_854 (l : GI) : GI := jl_z 22 (gp_853 l)
noncomputable def gp_855 (l : GI) : GI := jl_i 0 100000000 (gp_804 l)
noncomputable def gp_856 (l : GI) : GI := gp_854 (gp_855 l)
noncomputable def gp_857 (l : GI) : GI := jl_i 1 64531441 (gp_804 l)
noncomputable def gp_858 (l : GI) : GI := gp_854 (gp_857 l)
noncomputable def gp_859 (l : GI) : GI := gp_854 (gp_852 l)
noncomputable def gp_860 (l : GI) : GI := gp_822 (jl_i 1 62 l)
noncomputable def gp_861 (l : GI) : GI := gp_827 (jl_i 1 62 l)
noncomputable def gp_862 (l : GI) : GI := gp_830 (jl_i 1 62 l)
noncomputable def gp_863 (l : GI) : GI := jl_z 22 (gp_202 l)
noncomputable def gp_864 (l : GI) : GI := gp_863 (gp_855 l)
noncomputable def gp_865 (l : GI) : GI := jl_i 1 3259049 (gp_804 l)
noncomputable def gp_866 (l : GI) : GI := gp_863 (gp_865 l)
noncomputable def gp_867 (l : GI) : GI := gp_863 (gp_852 l)
noncomputable def gp_868 (l : GI) : GI := gp_822 (jl_i 1 30 l)
noncomputable def gp_869 (l : GI) : GI := gp_827 (jl_i 1 30 l)
noncomputable def gp_870 (l : GI) : GI := gp_830 (jl_i 1 30 l)
noncomputable def gp_871 (l : GI) : GI := jl_i 1 1000000 (gp_804 l)
noncomputable def gp_872 (l : GI) : GI := jl_i 0 14 (jl_z 16 l)
noncomputable def gp_873 (l : GI) : GI := jl_z 22 (gp_872 l)
noncomputable def gp_874 (l : GI) : GI := jl_i 0 1000000 (gp_804 l)
noncomputable def gp_875 (l : GI) : GI := gp_873 (gp_874 l)
noncomputable def gp_876 (l : GI) : GI := jl_i 1 166561 (gp_804 l)
noncomputable def gp_877 (l : GI) : GI := gp_873 (gp_876 l)
noncomputable def gp_878 (l : GI) : GI := gp_873 (gp_871 l)
noncomputable def gp_879 (l : GI) : GI := gp_822 (jl_i 1 14 l)
noncomputable def gp_880 (l : GI) : GI := gp_827 (jl_i 1 14 l)
noncomputable def gp_881 (l : GI) : GI := gp_830 (jl_i 1 14 l)
noncomputable def gp_882 (l : GI) : GI := jl_i 1 10000 (gp_804 l)
noncomputable def gp_883 (l : GI) : GI := jl_i 0 6 (jl_z 16 l)
noncomputable def gp_884 (l : GI) : GI := jl_z 22 (gp_883 l)
noncomputable def gp_885 (l : GI) : GI := jl_i 0 1000 (gp_884 l)
noncomputable def gp_886 (l : GI) : GI := jl_i 0 10000 (gp_804 l)
noncomputable def gp_887 (l : GI) : GI := jl_i 1 8729 (gp_804 l)
noncomputable def gp_888 (l : GI) : GI := gp_884 (gp_887 l)
noncomputable def gp_889 (l : GI) : GI := gp_822 (jl_i 1 6 l)
noncomputable def gp_890 (l : GI) : GI := gp_827 (jl_i 1 6 l)
noncomputable def gp_891 (l : GI) : GI := gp_830 (jl_i 1 6 l)
noncomputable def gp_892 (l : GI) : GI := jl_i 1 510 (gp_804 l)
noncomputable def gp_893 (l : GI) : GI := jl_i 0 2 (jl_z 16 l)
noncomputable def gp_894 (l : GI) : GI := jl_z 22 (gp_893 l)
noncomputable def gp_895 (l : GI) : GI := jl_i 0 100 (gp_894 l)
noncomputable def gp_896 (l : GI) : GI := jl_i 0 500 (gp_804 l)
noncomputable def gp_897 (l : GI) : GI := jl_i 1 481 (gp_804 l)
noncomputable def gp_898 (l : GI) : GI := gp_894 (gp_897 l)
noncomputable def gp_899 (l : GI) : GI := jl_u (jl_z 4 l)
noncomputable def gp_900 (l : GI) : GI := gp_800 (gp_124 l)
noncomputable def gp_901 (l : GI) : GI := jl_z 1 (jl_k 2147483647 1 l)
noncomputable def gp_902 (l : GI) : GI := gp_162 (gp_76 l)
noncomputable def gp_903 (l : GI) : GI := gp_902 (jl_z 4 (gp_264 (jl_z 9 l)))
noncomputable def gp_904 (l : GI) : GI := jl_z 4 (gp_73 l)
noncomputable def gp_905 (l : GI) : GI := gp_76 (jl_z 1 l)
noncomputable def gp_906 (l : GI) : GI := gp_206 (jl_i 30 30 (jl_i 0 2147483647 (jl_z 15 l)))
noncomputable def gp_907 (l : GI) : GI := gp_206 (jl_i 0 29 (jl_i 0 2147483647 (jl_z 38 l)))
noncomputable def gp_908 (l : GI) : GI := jl_z 4 (jl_i 0 1 l)
noncomputable def gp_909 (l : GI) : GI := jl_z 1 (jl_i 0 25600000000 l)
noncomputable def gp_910 (l : GI) : GI := jl_z 19 (jl_r 4 (jl_m 0 60) l)
noncomputable def gp_911 (l : GI) : GI := gp_70 (gp_265 l)
noncomputable def gp_912 (l : GI) : GI := gp_265 (jl_r 60 (jl_i 0 1) (jl_r 60 (jl_m 0 15) l))
noncomputable def gp_913 (l : GI) : GI := gp_70 (gp_911 (gp_912 l))
noncomputable def gp_914 (l : GI) : GI := gp_71 (gp_266 l)
noncomputable def gp_915 (l : GI) : GI := gp_171 (jl_z 10 (gp_913 (gp_914 (gp_914 l))))
noncomputable def gp_916 (l : GI) : GI := gp_70 (gp_266 l)
noncomputable def gp_917 (l : GI) : GI := jl_z 114 (gp_224 l)
noncomputable def gp_918 (l : GI) : GI := gp_299 (gp_917 l)
noncomputable def gp_919 (l : GI) : GI := gp_300 (gp_917 l)
noncomputable def gp_920 (l : GI) : GI := jl_z 116 (gp_224 l)
noncomputable def gp_921 (l : GI) : GI := jl_z 1 (jl_r 3 (jl_k 2147483647 0) l)
noncomputable def gp_922 (l : GI) : GI := jl_r 4 (jl_i 0 3) (jl_r 4 (jl_m 0 60) l)
noncomputable def gp_923 (l : GI) : GI := jl_z 19 (gp_922 l)
noncomputable def gp_924 (l : GI) : GI := gp_923 (jl_z 1 l)
noncomputable def gp_925 (l : GI) : GI := gp_624 (jl_i 0 3 l)
noncomputable def gp_926 (l : GI) : GI := jl_k 2147483647 0 (gp_923 l)
noncomputable def gp_927 (l : GI) : GI := jl_k 2147483647 0 (gp_924 l)
noncomputable def gp_928 (l : GI) : GI := gp_624 (jl_i 4 2147483647 l)
noncomputable def gp_929 (l : GI) : GI := jl_z 1 (jl_r 2 (jl_k 2147483647 0) l)
noncomputable def gp_930 (l : GI) : GI := jl_i 0 60 (gp_923 l)
noncomputable def gp_931 (l : GI) : GI := jl_i 0 60 (gp_924 l)
noncomputable def gp_932 (l : GI) : GI := jl_i 61 2147483647 (gp_923 l)
noncomputable def gp_933 (l : GI) : GI := jl_i 61 2147483647 (gp_924 l)
noncomputable def gp_934 (l : GI) : GI := jl_z 2 (jl_r 2 (jl_k 2147483647 0) l)
noncomputable def gp_935 (l : GI) : GI := jl_z 2 (jl_i 4 2147483647 l)
noncomputable def gp_936 (l : GI) : GI := jl_z 2 (jl_k 2147483647 0 l)
noncomputable def gp_937 (l : GI) : GI := gp_420 (jl_r 2 (jl_k 2147483647 0) l)
noncomputable def gp_938 (l : GI) : GI := gp_420 (jl_i 0 3 l)
noncomputable def gp_939 (l : GI) : GI := jl_z 1 (jl_r 2 (jl_i 4 2147483647) l)
noncomputable def gp_940 (l : GI) : GI := gp_420 (jl_k 2147483647 0 l)
noncomputable def gp_941 (l : GI) : GI := jl_z 45 (jl_r 4 (jl_m 0 60) l)
noncomputable def gp_942 (l : GI) : GI := gp_941 (jl_r 4 (jl_i 0 3) l)
noncomputable def gp_943 (l : GI) : GI := jl_i 61 2147483647 (gp_942 l)
noncomputable def gp_944 (l : GI) : GI := jl_r 4 (jl_i 0 3) (jl_z 1 l)
noncomputable def gp_945 (l : GI) : GI := gp_941 (gp_944 l)
noncomputable def gp_946 (l : GI) : GI := jl_i 61 2147483647 (gp_945 l)
noncomputable def gp_947 (l : GI) : GI := jl_i 0 60 (gp_942 l)
noncomputable def gp_948 (l : GI) : GI := jl_i 0 60 (gp_945 l)
noncomputable def gp_949 (l : GI) : GI := jl_k 2147483647 0 (gp_942 l)
noncomputable def gp_950 (l : GI) : GI := jl_k 2147483647 0 (gp_945 l)
noncomputable def gp_951 (l : GI) : GI := gp_162 (jl_u l)
noncomputable def gp_952 (l : GI) : GI := gp_910 (jl_r 4 (jl_i 0 3) l)
noncomputable def gp_953 (l : GI) : GI := jl_r 2 (jl_t) (gp_910 l)
noncomputable def gp_954 (l : GI) : GI := jl_i 4 2147483647 (gp_953 l)
noncomputable def gp_955 (l : GI) : GI := jl_r 2 (jl_t) (gp_942 l)
noncomputable def gp_956 (l : GI) : GI := jl_r 2 (jl_t) (gp_945 l)
noncomputable def gp_957 (l : GI) : GI := gp_0 (jl_r 2 (jl_t) l)
noncomputable def gp_958 (l : GI) : GI := gp_420 (gp_957 l)
noncomputable def gp_959 (l : GI) : GI := jl_k 2147483647 0 (gp_953 l)
noncomputable def gp_960 (l : GI) : GI := jl_z 2 (jl_r 2 (jl_i 0 2147483647) (jl_z 3 l))
noncomputable def gp_961 (l : GI) : GI := jl_z 2 (jl_i 0 2147483647 l)
noncomputable def gp_962 (l : GI) : GI := jl_z 2 (gp_957 l)
noncomputable def gp_963 (l : GI) : GI := gp_962 (jl_z 19 l)
noncomputable def gp_964 (l : GI) : GI := jl_k 0 0 (gp_944 l)
noncomputable def gp_965 (l : GI) : GI := jl_r 3 (jl_m 0 60) (gp_964 l)
noncomputable def gp_966 (l : GI) : GI := gp_961 (gp_7 l)
noncomputable def gp_967 (l : GI) : GI := jl_i 0 2147483647 (jl_z 19 l)
noncomputable def gp_968 (l : GI) : GI := gp_966 (gp_967 l)
noncomputable def gp_969 (l : GI) : GI := jl_i 0 60 (gp_944 l)
noncomputable def gp_970 (l : GI) : GI := jl_r 3 (jl_m 0 60) (gp_969 l)
noncomputable def gp_971 (l : GI) : GI := gp_961 (jl_z 1 l)
noncomputable def gp_972 (l : GI) : GI := gp_971 (jl_r 2 (jl_i 0 2147483647) l)
noncomputable def gp_973 (l : GI) : GI := gp_972 (jl_z 19 l)
noncomputable def gp_974 (l : GI) : GI := gp_936 (gp_162 l)
noncomputable def gp_975 (l : GI) : GI := gp_974 (jl_z 19 l)
noncomputable def gp_976 (l : GI) : GI := gp_961 (gp_624 l)
noncomputable def gp_977 (l : GI) : GI := gp_976 (gp_967 l)
noncomputable def gp_978 (l : GI) : GI := gp_966 (jl_k 2147483647 0 l)
noncomputable def gp_979 (l : GI) : GI := gp_978 (jl_z 19 l)
noncomputable def gp_980 (l : GI) : GI := jl_z 2 (jl_i 0 60 (jl_z 1 l))
noncomputable def gp_981 (l : GI) : GI := gp_980 (jl_r 2 (jl_i 0 60) l)
noncomputable def gp_982 (l : GI) : GI := gp_981 (jl_z 19 l)
noncomputable def gp_983 (l : GI) : GI := gp_980 (jl_r 2 (jl_i 0 60) (jl_z 45 l))
noncomputable def gp_984 (l : GI) : GI := jl_r 4 (jl_i 0 3) (jl_z 6 (jl_i 0 60 l))
noncomputable def gp_985 (l : GI) : GI := gp_978 (jl_z 45 l)
noncomputable def gp_986 (l : GI) : GI := gp_971 (jl_r 2 (jl_k 2147483647 0) (jl_z 45 l))
noncomputable def gp_987 (l : GI) : GI := gp_971 (jl_i 0 2147483647 (jl_k 2147483647 0 (jl_z 45 l)))
noncomputable def gp_988 (l : GI) : GI := jl_i 0 2147483647 (jl_z 45 l)
noncomputable def gp_989 (l : GI) : GI := gp_976 (gp_988 l)
noncomputable def gp_990 (l : GI) : GI := gp_974 (jl_z 45 l)
noncomputable def gp_991 (l : GI) : GI := gp_972 (jl_z 45 l)
noncomputable def gp_992 (l : GI) : GI := gp_966 (gp_988 l)
noncomputable def gp_993 (l : GI) : GI := gp_962 (jl_z 45 l)
noncomputable def gp_994 (l : GI) : GI := gp_976 (gp_176 l)
noncomputable def gp_995 (l : GI) : GI := jl_r 2 (jl_m 0 60) (jl_r 2 (jl_i 0 60) l)
noncomputable def gp_996 (l : GI) : GI := gp_995 (gp_944 l)
noncomputable def gp_997 (l : GI) : GI := gp_995 (jl_r 2 (jl_i 0 3) l)
noncomputable def gp_998 (l : GI) : GI := jl_i 0 2 (jl_i 1 3 l)
noncomputable def gp_999 (l : GI) : GI := jl_i 1 3 (jl_i 0 2 l)
noncomputable def gp_1000 (l : GI) : GI := jl_m 0 60 (gp_492 l)
noncomputable def gp_1001 (l : GI) : GI := gp_1000 (gp_969 l)
noncomputable def gp_1002 (l : GI) : GI := gp_1000 (jl_i 0 60 l)
noncomputable def gp_1003 (l : GI) : GI := jl_i 0 3 (jl_i 0 2 l)
noncomputable def gp_1004 (l : GI) : GI := jl_i 0 3 (jl_i 1 3 l)
noncomputable def gp_1005 (l : GI) : GI := gp_538 (gp_969 l)
noncomputable def gp_1006 (l : GI) : GI := gp_538 (jl_i 0 60 l)
noncomputable def gp_1007 (l : GI) : GI := jl_m 0 60 (gp_944 l)
noncomputable def gp_1008 (l : GI) : GI := jl_k 0 0 (gp_1007 l)
noncomputable def gp_1009 (l : GI) : GI := jl_r 2 (jl_m 0 60) (gp_1008 l)
noncomputable def gp_1010 (l : GI) : GI := gp_492 (gp_944 l)
noncomputable def gp_1011 (l : GI) : GI := jl_r 2 (jl_m 0 60) (gp_1010 l)
noncomputable def gp_1012 (l : GI) : GI := jl_m 0 60 (jl_r 2 (jl_i 0 60) l)
noncomputable def gp_1013 (l : GI) : GI := gp_1012 (gp_1007 l)
noncomputable def gp_1014 (l : GI) : GI := gp_1012 (jl_m 0 60 l)
noncomputable def gp_1015 (l : GI) : GI := gp_492 (gp_1010 l)
noncomputable def gp_1016 (l : GI) : GI := gp_492 (gp_492 l)
noncomputable def gp_1017 (l : GI) : GI := jl_r 2 (jl_m 0 60) (gp_944 l)
noncomputable def gp_1018 (l : GI) : GI := gp_537 (gp_1017 l)
noncomputable def gp_1019 (l : GI) : GI := gp_538 (gp_944 l)
noncomputable def gp_1020 (l : GI) : GI := jl_m 0 60 (gp_1019 l)
noncomputable def gp_1021 (l : GI) : GI := jl_r 2 (jl_i 0 60) (gp_1017 l)
noncomputable def gp_1022 (l : GI) : GI := jl_r 2 (jl_i 0 60) (jl_r 2 (jl_m 0 60) l)
noncomputable def gp_1023 (l : GI) : GI := jl_r 2 (jl_i 0 3) (jl_z 1 l)
noncomputable def gp_1024 (l : GI) : GI := jl_r 3 (jl_m 0 60) (gp_944 l)
noncomputable def gp_1025 (l : GI) : GI := jl_k 0 0 (gp_1024 l)
noncomputable def gp_1026 (l : GI) : GI := jl_i 0 60 (gp_1024 l)
noncomputable def gp_1027 (l : GI) : GI := gp_624 (gp_957 l)
noncomputable def sp_0 (l : List (Nat × AV)) : List (Nat × AV) := jl_x (1, (0, 0, 0)) (js_1 54 1 l)
noncomputable def sp_1 (l : List (Nat × AV)) : List (Nat × AV) := js_2 10 0 300 (js_2 16 0 4 (js_2 10 0 40 l))
noncomputable def sp_2 (l : List (Nat × AV)) : List (Nat × AV) := js_2 1 0 9 (jl_x (1, (0, 0, 0)) l)
noncomputable def sp_3 (l : List (Nat × AV)) : List (Nat × AV) := js_2 5 0 4 (js_2 1 0 9 l)
noncomputable def sp_4 (l : List (Nat × AV)) : List (Nat × AV) := sp_3 (jl_x (1, (0, 0, 0)) l)
noncomputable def sp_5 (l : List (Nat × AV)) : List (Nat × AV) := sp_4 (sp_4 l)
noncomputable def sp_6 (l : List (Nat × AV)) : List (Nat × AV) := sp_2 (sp_5 l)
noncomputable def sp_7 (l : List (Nat × AV)) : List (Nat × AV) := js_2 5 0 4 (jl_x (30, (0, 0, 0)) l)
noncomputable def sp_8 (l : List (Nat × AV)) : List (Nat × AV) := sp_5 (sp_7 l)
noncomputable def sp_9 (l : List (Nat × AV)) : List (Nat × AV) := sp_5 (sp_8 l)
noncomputable def sp_10 (l : List (Nat × AV)) : List (Nat × AV) := sp_6 (sp_9 l)
noncomputable def sp_11 (l : List (Nat × AV)) : List (Nat × AV) := sp_1 (sp_10 l)
noncomputable def sp_12 (l : List (Nat × AV)) : List (Nat × AV) := js_2 1 0 5 (sp_3 l)
noncomputable def sp_13 (l : List (Nat × AV)) : List (Nat × AV) := sp_12 (sp_12 l)
noncomputable def sp_14 (l : List (Nat × AV)) : List (Nat × AV) := js_2 1 0 9 (sp_13 l)
noncomputable def sp_15 (l : List (Nat × AV)) : List (Nat × AV) := sp_14 (sp_13 l)
noncomputable def sp_16 (l : List (Nat × AV)) : List (Nat × AV) := sp_1 (sp_15 l)
noncomputable def sp_17 (l : List (Nat × AV)) : List (Nat × AV) := js_2 1 0 5 (js_2 5 0 4 l)
noncomputable def sp_18 (l : List (Nat × AV)) : List (Nat × AV) := sp_13 (sp_17 l)
noncomputable def sp_19 (l : List (Nat × AV)) : List (Nat × AV) := sp_16 (sp_18 l)
noncomputable def sp_20 (l : List (Nat × AV)) : List (Nat × AV) := sp_19 (jl_x (30, (0, 0, 0)) l)
noncomputable def sp_21 (l : List (Nat × AV)) : List (Nat × AV) := js_1 55 2 (sp_1 l)
noncomputable def sp_22 (l : List (Nat × AV)) : List (Nat × AV) := jl_x (1, (0, 0, 0)) (sp_21 l)
noncomputable def sp_23 (l : List (Nat × AV)) : List (Nat × AV) := js_1 52 6 (js_1 121 1 l)
noncomputable def sp_24 (l : List (Nat × AV)) : List (Nat × AV) := sp_21 (js_2 1 0 9 l)
noncomputable def sp_25 (l : List (Nat × AV)) : List (Nat × AV) := sp_12 (jl_x (1, (0, 0, 0)) l)
noncomputable def sp_26 (l : List (Nat × AV)) : List (Nat × AV) := sp_4 (sp_7 l)
noncomputable def sp_27 (l : List (Nat × AV)) : List (Nat × AV) := sp_5 (sp_26 l)
noncomputable def sp_28 (l : List (Nat × AV)) : List (Nat × AV) := sp_5 (sp_27 l)
noncomputable def sp_29 (l : List (Nat × AV)) : List (Nat × AV) := sp_25 (sp_28 l)
noncomputable def sp_30 (l : List (Nat × AV)) : List (Nat × AV) := js_1 52 6 (jl_x (1, (0, 1, 0)) l)
noncomputable def sp_31 (l : List (Nat × AV)) : List (Nat × AV) := js_1 52 6 (sp_22 (js_2 1 1 9 l))
noncomputable def sp_32 (l : List (Nat × AV)) : List (Nat × AV) := sp_5 (sp_9 l)
noncomputable def sp_33 (l : List (Nat × AV)) : List (Nat × AV) := sp_31 (jl_x (1, (0, 1, 0)) l)
noncomputable def sp_34 (l : List (Nat × AV)) : List (Nat × AV) := js_2 4 0 4 (sp_6 l)
noncomputable def sp_35 (l : List (Nat × AV)) : List (Nat × AV) := sp_34 (sp_27 l)
noncomputable def sp_36 (l : List (Nat × AV)) : List (Nat × AV) := sp_31 (jl_x (1, (0, 2, 0)) l)
noncomputable def sp_37 (l : List (Nat × AV)) : List (Nat × AV) := js_2 3 0 4 (sp_6 l)
noncomputable def sp_38 (l : List (Nat × AV)) : List (Nat × AV) := sp_37 (sp_27 l)
noncomputable def sp_39 (l : List (Nat × AV)) : List (Nat × AV) := sp_31 (jl_x (1, (0, 3, 0)) l)
noncomputable def sp_40 (l : List (Nat × AV)) : List (Nat × AV) := js_2 2 0 4 (sp_6 l)
noncomputable def sp_41 (l : List (Nat × AV)) : List (Nat × AV) := sp_40 (sp_27 l)
noncomputable def sp_42 (l : List (Nat × AV)) : List (Nat × AV) := jl_x (1, (0, 4, 0)) (js_2 4 1 4 (js_2 1 0 4 l))
noncomputable def sp_43 (l : List (Nat × AV)) : List (Nat × AV) := sp_42 (sp_6 l)
noncomputable def sp_44 (l : List (Nat × AV)) : List (Nat × AV) := jl_x (1, (0, 4, 0)) (js_2 4 0 3 (js_2 1 0 4 l))
noncomputable def sp_45 (l : List (Nat × AV)) : List (Nat × AV) := sp_44 (sp_6 l)
noncomputable def sp_46 (l : List (Nat × AV)) : List (Nat × AV) := js_1 50 4 (jl_x (1, (1, 50, 1)) (js_1 52 1 l))
noncomputable def sp_47 (l : List (Nat × AV)) : List (Nat × AV) := js_1 54 1 (jl_x (1, (1, 54, 1)) l)
noncomputable def sp_48 (l : List (Nat × AV)) : List (Nat × AV) := sp_47 (sp_1 l)
noncomputable def sp_49 (l : List (Nat × AV)) : List (Nat × AV) := sp_48 (js_2 1 0 9 l)
noncomputable def sp_50 (l : List (Nat × AV)) : List (Nat × AV) := sp_30 (sp_24 l)
noncomputable def sp_51 (l : List (Nat × AV)) : List (Nat × AV) := sp_21 (sp_14 l)
noncomputable def sp_52 (l : List (Nat × AV)) : List (Nat × AV) := jl_x (1, (0, 0, 0)) (sp_9 l)
noncomputable def sp_53 (l : List (Nat × AV)) : List (Nat × AV) := sp_51 (sp_52 l)
noncomputable def sp_54 (l : List (Nat × AV)) : List (Nat × AV) := js_1 52 6 (jl_x (1, (0, 2, 0)) l)
noncomputable def sp_55 (l : List (Nat × AV)) : List (Nat × AV) := sp_17 (js_2 1 1 9 l)
noncomputable def sp_56 (l : List (Nat × AV)) : List (Nat × AV) := sp_55 (sp_25 l)
noncomputable def sp_57 (l : List (Nat × AV)) : List (Nat × AV) := sp_50 (sp_55 l)
noncomputable def sp_58 (l : List (Nat × AV)) : List (Nat × AV) := sp_17 (jl_x (2, (0, 0, 0)) l)
noncomputable def sp_59 (l : List (Nat × AV)) : List (Nat × AV) := sp_55 (jl_x (1, (0, 1, 0)) l)
noncomputable def sp_60 (l : List (Nat × AV)) : List (Nat × AV) := sp_50 (sp_59 l)
noncomputable def sp_61 (l : List (Nat × AV)) : List (Nat × AV) := sp_34 (sp_8 l)
noncomputable def sp_62 (l : List (Nat × AV)) : List (Nat × AV) := sp_55 (jl_x (1, (0, 2, 0)) l)
noncomputable def sp_63 (l : List (Nat × AV)) : List (Nat × AV) := sp_50 (sp_62 l)
noncomputable def sp_64 (l : List (Nat × AV)) : List (Nat × AV) := sp_37 (sp_8 l)
noncomputable def sp_65 (l : List (Nat × AV)) : List (Nat × AV) := sp_55 (jl_x (1, (0, 3, 0)) l)
noncomputable def sp_66 (l : List (Nat × AV)) : List (Nat × AV) := sp_50 (sp_65 l)
noncomputable def sp_67 (l : List (Nat × AV)) : List (Nat × AV) := sp_40 (sp_8 l)
noncomputable def sp_68 (l : List (Nat × AV)) : List (Nat × AV) := js_1 49 3 (js_1 119 2 (js_1 52 1 l))
noncomputable def sp_69 (l : List (Nat × AV)) : List (Nat × AV) := sp_48 (sp_14 l)
noncomputable def sp_70 (l : List (Nat × AV)) : List (Nat × AV) := sp_25 (sp_27 l)
noncomputable def sp_71 (l : List (Nat × AV)) : List (Nat × AV) := sp_12 (sp_55 l)
noncomputable def sp_72 (l : List (Nat × AV)) : List (Nat × AV) := sp_24 (sp_71 l)
noncomputable def sp_73 (l : List (Nat × AV)) : List (Nat × AV) := sp_54 (sp_72 l)
noncomputable def sp_74 (l : List (Nat × AV)) : List (Nat × AV) := sp_73 (jl_x (1, (0, 1, 0)) l)
noncomputable def sp_75 (l : List (Nat × AV)) : List (Nat × AV) := sp_34 (sp_26 l)
noncomputable def sp_76 (l : List (Nat × AV)) : List (Nat × AV) := sp_73 (jl_x (1, (0, 2, 0)) l)
noncomputable def sp_77 (l : List (Nat × AV)) : List (Nat × AV) := sp_37 (sp_26 l)
noncomputable def sp_78 (l : List (Nat × AV)) : List (Nat × AV) := sp_73 (jl_x (1, (0, 3, 0)) l)
noncomputable def sp_79 (l : List (Nat × AV)) : List (Nat × AV) := sp_40 (sp_26 l)
noncomputable def sp_80 (l : List (Nat × AV)) : List (Nat × AV) := jl_x (1, (0, 3, 0)) (sp_51 l)
noncomputable def sp_81 (l : List (Nat × AV)) : List (Nat × AV) := js_1 52 6 (sp_80 l)
noncomputable def sp_82 (l : List (Nat × AV)) : List (Nat × AV) := sp_21 (sp_15 l)
noncomputable def sp_83 (l : List (Nat × AV)) : List (Nat × AV) := sp_23 (sp_82 l)
noncomputable def sp_84 (l : List (Nat × AV)) : List (Nat × AV) := jl_x (1, (0, 0, 0)) (sp_8 l)
noncomputable def sp_85 (l : List (Nat × AV)) : List (Nat × AV) := jl_x (1, (0, 4, 0)) (sp_51 l)
noncomputable def sp_86 (l : List (Nat × AV)) : List (Nat × AV) := sp_81 (sp_55 l)
noncomputable def sp_87 (l : List (Nat × AV)) : List (Nat × AV) := sp_81 (sp_59 l)
noncomputable def sp_88 (l : List (Nat × AV)) : List (Nat × AV) := sp_34 (sp_7 l)
noncomputable def sp_89 (l : List (Nat × AV)) : List (Nat × AV) := sp_81 (sp_62 l)
noncomputable def sp_90 (l : List (Nat × AV)) : List (Nat × AV) := sp_37 (sp_7 l)
noncomputable def sp_91 (l : List (Nat × AV)) : List (Nat × AV) := sp_81 (sp_65 l)
noncomputable def sp_92 (l : List (Nat × AV)) : List (Nat × AV) := sp_40 (sp_7 l)
noncomputable def sp_93 (l : List (Nat × AV)) : List (Nat × AV) := sp_47 (sp_16 l)
noncomputable def sp_94 (l : List (Nat × AV)) : List (Nat × AV) := sp_25 (sp_26 l)
noncomputable def sp_95 (l : List (Nat × AV)) : List (Nat × AV) := js_1 52 6 (sp_85 (sp_71 l))
noncomputable def sp_96 (l : List (Nat × AV)) : List (Nat × AV) := sp_95 (jl_x (1, (0, 1, 0)) l)
noncomputable def sp_97 (l : List (Nat × AV)) : List (Nat × AV) := sp_2 (sp_26 l)
noncomputable def sp_98 (l : List (Nat × AV)) : List (Nat × AV) := js_2 4 0 4 (sp_97 l)
noncomputable def sp_99 (l : List (Nat × AV)) : List (Nat × AV) := sp_95 (jl_x (1, (0, 2, 0)) l)
noncomputable def sp_100 (l : List (Nat × AV)) : List (Nat × AV) := js_2 3 0 4 (sp_97 l)
noncomputable def sp_101 (l : List (Nat × AV)) : List (Nat × AV) := sp_95 (jl_x (1, (0, 3, 0)) l)
noncomputable def sp_102 (l : List (Nat × AV)) : List (Nat × AV) := js_2 2 0 4 (sp_97 l)
noncomputable def sp_103 (l : List (Nat × AV)) : List (Nat × AV) := jl_x (1, (0, 5, 0)) (sp_82 l)
noncomputable def sp_104 (l : List (Nat × AV)) : List (Nat × AV) := js_1 52 6 (sp_103 l)
noncomputable def sp_105 (l : List (Nat × AV)) : List (Nat × AV) := sp_13 (jl_x (1, (0, 0, 0)) (sp_7 l))
noncomputable def sp_106 (l : List (Nat × AV)) : List (Nat × AV) := jl_x (1, (0, 6, 0)) (sp_82 l)
noncomputable def sp_107 (l : List (Nat × AV)) : List (Nat × AV) := sp_104 (sp_55 l)
noncomputable def sp_108 (l : List (Nat × AV)) : List (Nat × AV) := sp_104 (sp_59 l)
noncomputable def sp_109 (l : List (Nat × AV)) : List (Nat × AV) := sp_2 (sp_7 l)
noncomputable def sp_110 (l : List (Nat × AV)) : List (Nat × AV) := js_2 4 0 4 (sp_109 l)
noncomputable def sp_111 (l : List (Nat × AV)) : List (Nat × AV) := sp_104 (sp_62 l)
noncomputable def sp_112 (l : List (Nat × AV)) : List (Nat × AV) := js_2 3 0 4 (sp_109 l)
noncomputable def sp_113 (l : List (Nat × AV)) : List (Nat × AV) := sp_104 (sp_65 l)
noncomputable def sp_114 (l : List (Nat × AV)) : List (Nat × AV) := js_2 2 0 4 (sp_109 l)
noncomputable def sp_115 (l : List (Nat × AV)) : List (Nat × AV) := sp_18 (jl_x (30, (0, 0, 0)) l)
noncomputable def sp_116 (l : List (Nat × AV)) : List (Nat × AV) := jl_x (1, (0, 7, 0)) (sp_82 l)
noncomputable def sp_117 (l : List (Nat × AV)) : List (Nat × AV) := js_1 52 6 (sp_106 (sp_71 l))
noncomputable def sp_118 (l : List (Nat × AV)) : List (Nat × AV) := sp_117 (jl_x (1, (0, 1, 0)) l)
noncomputable def sp_119 (l : List (Nat × AV)) : List (Nat × AV) := js_2 4 0 4 (jl_x (30, (0, 0, 0)) l)
noncomputable def sp_120 (l : List (Nat × AV)) : List (Nat × AV) := sp_117 (jl_x (1, (0, 2, 0)) l)
noncomputable def sp_121 (l : List (Nat × AV)) : List (Nat × AV) := js_2 3 0 4 (jl_x (30, (0, 0, 0)) l)
noncomputable def sp_122 (l : List (Nat × AV)) : List (Nat × AV) := sp_117 (jl_x (1, (0, 3, 0)) l)
noncomputable def sp_123 (l : List (Nat × AV)) : List (Nat × AV) := js_2 2 0 4 (jl_x (30, (0, 0, 0)) l)
noncomputable def sp_124 (l : List (Nat × AV)) : List (Nat × AV) := sp_19 (jl_x (30, (12, 0, 0)) l)
noncomputable def sp_125 (l : List (Nat × AV)) : List (Nat × AV) := jl_x (1, (0, 0, 0)) (jl_x (1, (0, 0, 0)) l)
noncomputable def sp_126 (l : List (Nat × AV)) : List (Nat × AV) := jl_x (1, (0, 0, 0)) (js_1 148 1 l)
noncomputable def sp_127 (l : List (Nat × AV)) : List (Nat × AV) := js_1 55 3 (sp_124 l)
noncomputable def sp_128 (l : List (Nat × AV)) : List (Nat × AV) := js_1 56 3 (sp_124 l)
noncomputable def sp_129 (l : List (Nat × AV)) : List (Nat × AV) := js_1 57 3 (sp_124 l)
noncomputable def sp_130 (l : List (Nat × AV)) : List (Nat × AV) := js_1 59 3 (sp_124 l)
noncomputable def sp_131 (l : List (Nat × AV)) : List (Nat × AV) := js_1 56 2 (sp_124 l)
noncomputable def sp_132 (l : List (Nat × AV)) : List (Nat × AV) := js_1 55 5 (sp_124 l)
noncomputable def sp_133 (l : List (Nat × AV)) : List (Nat × AV) := jl_x (1, (0, (-1), 0)) (jl_x (1, (0, (-1), 0)) l)
noncomputable def sp_134 (l : List (Nat × AV)) : List (Nat × AV) := sp_133 (jl_x (1, (0, (-1), 0)) l)
noncomputable def sp_135 (l : List (Nat × AV)) : List (Nat × AV) := js_1 70 1 (jl_x (1, (1, 70, 1)) l)
noncomputable def vp_0 (l : List AV) : List AV := jl_c 0 (jl_c 0 l)
noncomputable def vp_1 (l : List AV) : List AV := vp_0 (vp_0 l)
noncomputable def vp_2 (l : List AV) : List AV := jl_8 11 6 (jl_1 12 1 l)
noncomputable def vp_3 (l : List AV) : List AV := jl_8 18 5 (jl_6 6 2 (jl_6 8 1 (jl_6 7 1 l)))
noncomputable def vp_4 (l : List AV) : List AV := jl_8 15 5 (jl_6 3 2 (jl_8 18 1 (jl_6 4 1 l)))
noncomputable def vp_5 (l : List AV) : List AV := jl_8 16 6 (jl_6 4 3 l)
noncomputable def vp_6 (l : List AV) : List AV := jl_6 7 1 (jl_6 9 1 l)
noncomputable def vp_7 (l : List AV) : List AV := jl_6 13 1 (jl_6 15 1 l)
noncomputable def vp_8 (l : List AV) : List AV := vp_6 (jl_6 11 1 (vp_7 (jl_6 17 1 l)))
noncomputable def vp_9 (l : List AV) : List AV := jl_6 6 1 (jl_6 8 1 l)
noncomputable def vp_10 (l : List AV) : List AV := jl_6 14 1 (jl_6 16 1 l)
noncomputable def vp_11 (l : List AV) : List AV := jl_1 22 1 (jl_8 25 3 l)
noncomputable def vp_12 (l : List AV) : List AV := jl_6 4 1 (jl_6 2 1 l)
noncomputable def vp_13 (l : List AV) : List AV := jl_8 6 4 (jl_6 2 1 l)
noncomputable def vp_14 (l : List AV) : List AV := vp_13 (jl_8 9 2 l)
noncomputable def vp_15 (l : List AV) : List AV := jl_8 5 4 (jl_6 2 1 l)
noncomputable def vp_16 (l : List AV) : List AV := jl_8 8 2 (jl_1 9 1 l)
noncomputable def vp_17 (l : List AV) : List AV := vp_15 (vp_16 l)
noncomputable def vp_18 (l : List AV) : List AV := vp_14 (jl_1 14 5 l)
noncomputable def vp_19 (l : List AV) : List AV := jl_1 12 1 (jl_8 14 2 l)
noncomputable def vp_20 (l : List AV) : List AV := jl_8 11 9 (vp_19 l)
noncomputable def vp_21 (l : List AV) : List AV := jl_1 16 1 (jl_8 47 31 l)
noncomputable def vp_22 (l : List AV) : List AV := jl_1 12 1 (jl_8 47 31 l)
noncomputable def vp_23 (l : List AV) : List AV := jl_6 2 1 (jl_8 10 2 l)
noncomputable def vp_24 (l : List AV) : List AV := jl_8 7 4 (vp_23 l)
noncomputable def vp_25 (l : List AV) : List AV := jl_1 17 1 (jl_8 48 31 l)
noncomputable def vp_26 (l : List AV) : List AV := jl_8 8 4 (jl_6 2 1 l)
noncomputable def vp_27 (l : List AV) : List AV := vp_26 (jl_8 11 2 l)
noncomputable def vp_28 (l : List AV) : List AV := jl_c 0 (jl_1 15 1 l)
noncomputable def vp_29 (l : List AV) : List AV := jl_6 3 1 (jl_8 46 30 l)
noncomputable def vp_30 (l : List AV) : List AV := jl_8 5 4 (jl_6 3 1 l)
noncomputable def vp_31 (l : List AV) : List AV := jl_6 2 1 (jl_8 46 30 l)
noncomputable def vp_32 (l : List AV) : List AV := vp_28 (vp_31 l)
noncomputable def vp_33 (l : List AV) : List AV := vp_30 (vp_16 l)
noncomputable def vp_34 (l : List AV) : List AV := jl_8 5 2 (jl_6 3 1 l)
noncomputable def vp_35 (l : List AV) : List AV := jl_8 2 1 (jl_6 4 1 (vp_34 l))
noncomputable def vp_36 (l : List AV) : List AV := vp_35 (jl_c 0 (jl_8 8 1 (jl_1 7 1 l)))
noncomputable def vp_37 (l : List AV) : List AV := jl_8 3 1 (jl_6 2 1 l)
noncomputable def vp_38 (l : List AV) : List AV := jl_8 4 2 (jl_6 2 1 l)
noncomputable def vp_39 (l : List AV) : List AV := jl_8 5 2 (jl_6 2 1 l)
noncomputable def vp_40 (l : List AV) : List AV := jl_8 2 1 (jl_6 2 1 l)
noncomputable def vp_41 (l : List AV) : List AV := jl_8 4 1 (jl_6 2 1 l)
noncomputable def vp_42 (l : List AV) : List AV := jl_x (0, (-1), 0) (jl_x (0, (-1), 0) l)
noncomputable def vp_43 (l : List AV) : List AV := vp_40 (jl_8 16 13 l)
noncomputable def vp_44 (l : List AV) : List AV := jl_6 4 1 (jl_6 3 1 l)
noncomputable def vp_45 (l : List AV) : List AV := vp_43 (vp_44 l)
noncomputable def vp_46 (l : List AV) : List AV := vp_45 (jl_1 19 1 l)
noncomputable def vp_47 (l : List AV) : List AV := vp_44 (jl_c 0 l)
noncomputable def vp_48 (l : List AV) : List AV := vp_41 (jl_8 18 13 l)
noncomputable def vp_49 (l : List AV) : List AV := vp_48 (vp_44 l)
noncomputable def vp_50 (l : List AV) : List AV := vp_49 (jl_1 21 1 l)
noncomputable def vp_51 (l : List AV) : List AV := vp_49 (jl_1 90 1 l)
noncomputable def vp_52 (l : List AV) : List AV := jl_8 3 2 (jl_6 2 1 l)
noncomputable def vp_53 (l : List AV) : List AV := jl_8 6 2 (jl_6 2 1 (jl_8 9 2 l))
noncomputable def vp_54 (l : List AV) : List AV := jl_8 5 1 (jl_6 2 1 l)
noncomputable def vp_55 (l : List AV) : List AV := vp_54 (jl_8 19 13 l)
noncomputable def vp_56 (l : List AV) : List AV := vp_55 (vp_44 l)
noncomputable def vp_57 (l : List AV) : List AV := vp_39 (jl_8 8 2 l)
noncomputable def vp_58 (l : List AV) : List AV := vp_37 (jl_8 17 13 l)
noncomputable def vp_59 (l : List AV) : List AV := vp_58 (vp_44 l)
noncomputable def vp_60 (l : List AV) : List AV := vp_59 (jl_1 20 1 l)
noncomputable def vp_61 (l : List AV) : List AV := vp_38 (jl_8 7 2 l)
noncomputable def vp_62 (l : List AV) : List AV := jl_8 22 2 (jl_1 23 1 l)
noncomputable def vp_63 (l : List AV) : List AV := jl_8 24 1 (jl_1 25 1 l)
noncomputable def vp_64 (l : List AV) : List AV := jl_8 26 1 (jl_1 28 2 l)
noncomputable def vp_65 (l : List AV) : List AV := vp_63 (vp_64 l)
noncomputable def vp_66 (l : List AV) : List AV := vp_59 (jl_1 89 1 l)
noncomputable def vp_67 (l : List AV) : List AV := jl_1 11 1 (jl_8 12 1 l)
noncomputable def vp_68 (l : List AV) : List AV := jl_6 9 1 (jl_6 8 1 l)
noncomputable def vp_69 (l : List AV) : List AV := jl_6 11 1 (jl_6 5 1 (jl_6 7 1 (jl_6 16 3 (jl_6 9 1 l))))
noncomputable def vp_70 (l : List AV) : List AV := vp_52 (jl_8 6 2 l)
noncomputable def vp_71 (l : List AV) : List AV := jl_6 9 1 (jl_6 3 1 l)
noncomputable def vp_72 (l : List AV) : List AV := jl_8 9 1 (jl_6 16 1 (jl_8 14 4 l))
noncomputable def vp_73 (l : List AV) : List AV := jl_1 15 1 (jl_8 17 2 l)
noncomputable def vp_74 (l : List AV) : List AV := jl_6 19 1 (jl_6 17 1 l)
noncomputable def vp_75 (l : List AV) : List AV := vp_74 (jl_6 8 1 (jl_6 24 2 (jl_6 11 1 l)))
noncomputable def vp_76 (l : List AV) : List AV := jl_6 27 3 (jl_6 21 1 l)
noncomputable def vp_77 (l : List AV) : List AV := jl_6 20 1 (vp_76 l)
noncomputable def vp_78 (l : List AV) : List AV := jl_6 22 1 (jl_6 18 1 (vp_77 l))
noncomputable def vp_79 (l : List AV) : List AV := jl_6 9 1 (jl_6 4 1 l)
noncomputable def vp_80 (l : List AV) : List AV := vp_61 (vp_79 l)
noncomputable def vp_81 (l : List AV) : List AV := jl_8 10 1 (jl_6 16 1 l)
noncomputable def vp_82 (l : List AV) : List AV := jl_1 16 1 (jl_8 18 2 l)
noncomputable def vp_83 (l : List AV) : List AV := jl_8 21 1 (jl_1 23 2 (vp_65 l))
noncomputable def vp_84 (l : List AV) : List AV := jl_c 0 (vp_42 l)
noncomputable def vp_85 (l : List AV) : List AV := vp_47 (jl_6 7 3 l)
noncomputable def vp_86 (l : List AV) : List AV := vp_85 (jl_c 0 l)
noncomputable def vp_87 (l : List AV) : List AV := vp_43 (vp_86 l)
noncomputable def vp_88 (l : List AV) : List AV := vp_70 (jl_6 4 1 l)
noncomputable def vp_89 (l : List AV) : List AV := jl_1 27 2 (jl_8 32 5 l)
noncomputable def vp_90 (l : List AV) : List AV := jl_8 17 5 (jl_6 3 1 l)
noncomputable def vp_91 (l : List AV) : List AV := vp_90 (jl_8 21 3 l)
noncomputable def vp_92 (l : List AV) : List AV := vp_88 (jl_8 15 8 l)
noncomputable def vp_93 (l : List AV) : List AV := jl_8 6 1 (jl_6 2 1 l)
noncomputable def vp_94 (l : List AV) : List AV := jl_6 10 1 (jl_6 4 1 l)
noncomputable def vp_95 (l : List AV) : List AV := jl_8 27 1 (jl_1 29 2 l)
noncomputable def vp_96 (l : List AV) : List AV := jl_6 20 1 (jl_6 18 1 l)
noncomputable def vp_97 (l : List AV) : List AV := jl_6 9 1 (jl_6 24 2 (jl_6 12 1 l))
noncomputable def vp_98 (l : List AV) : List AV := jl_6 19 1 (jl_6 21 1 l)
noncomputable def vp_99 (l : List AV) : List AV := vp_98 (jl_6 27 3 (jl_6 22 1 l))
noncomputable def vp_100 (l : List AV) : List AV := jl_6 2 1 (vp_99 l)
noncomputable def vp_101 (l : List AV) : List AV := jl_6 11 1 (jl_6 6 1 l)
noncomputable def vp_102 (l : List AV) : List AV := jl_1 17 1 (jl_8 19 2 l)
noncomputable def vp_103 (l : List AV) : List AV := jl_8 25 1 (jl_1 26 1 l)
noncomputable def vp_104 (l : List AV) : List AV := vp_103 (vp_95 l)
noncomputable def vp_105 (l : List AV) : List AV := vp_96 (jl_6 10 1 l)
noncomputable def vp_106 (l : List AV) : List AV := jl_6 24 2 (jl_6 13 1 l)
noncomputable def vp_107 (l : List AV) : List AV := vp_105 (vp_106 l)
noncomputable def vp_108 (l : List AV) : List AV := jl_6 5 1 (vp_99 l)
noncomputable def vp_109 (l : List AV) : List AV := jl_1 24 1 (jl_8 25 1 (jl_1 27 2 l))
noncomputable def vp_110 (l : List AV) : List AV := vp_40 (jl_8 20 17 l)
noncomputable def vp_111 (l : List AV) : List AV := jl_6 10 2 (jl_6 8 1 l)
noncomputable def vp_112 (l : List AV) : List AV := jl_6 10 1 (vp_68 (jl_6 13 2 (jl_6 11 1 l)))
noncomputable def vp_113 (l : List AV) : List AV := vp_112 (jl_8 46 14 l)
noncomputable def vp_114 (l : List AV) : List AV := vp_84 (vp_112 l)
noncomputable def vp_115 (l : List AV) : List AV := jl_6 19 1 (jl_6 18 1 l)
noncomputable def vp_116 (l : List AV) : List AV := jl_6 22 1 (jl_6 2 1 (vp_77 l))
noncomputable def vp_117 (l : List AV) : List AV := jl_6 22 1 (jl_6 5 1 (vp_77 l))
noncomputable def vp_118 (l : List AV) : List AV := jl_6 22 1 (jl_6 19 1 l)
noncomputable def vp_119 (l : List AV) : List AV := vp_118 (jl_6 2 1 (vp_76 l))
noncomputable def vp_120 (l : List AV) : List AV := vp_118 (jl_6 5 1 (vp_76 l))
noncomputable def vp_121 (l : List AV) : List AV := jl_6 23 1 (vp_98 l)
noncomputable def vp_122 (l : List AV) : List AV := jl_6 27 2 (jl_6 22 1 l)
noncomputable def vp_123 (l : List AV) : List AV := jl_8 22 1 (jl_1 24 2 (vp_104 l))
noncomputable def vp_124 (l : List AV) : List AV := vp_121 (jl_6 27 2 l)
noncomputable def vp_125 (l : List AV) : List AV := vp_64 (jl_8 29 1 (jl_1 30 1 (jl_8 31 1 (jl_1 33 2 l))))
noncomputable def vp_126 (l : List AV) : List AV := jl_8 36 2 (jl_6 12 1 l)
noncomputable def vp_127 (l : List AV) : List AV := vp_70 (vp_79 l)
noncomputable def vp_128 (l : List AV) : List AV := jl_6 12 1 (jl_6 7 1 l)
noncomputable def vp_129 (l : List AV) : List AV := vp_121 (jl_6 26 1 l)
noncomputable def vp_130 (l : List AV) : List AV := jl_6 27 1 (jl_6 22 1 l)
noncomputable def vp_131 (l : List AV) : List AV := jl_6 2 1 (vp_44 l)
noncomputable def vp_132 (l : List AV) : List AV := jl_6 7 1 (jl_6 5 1 l)
noncomputable def vp_133 (l : List AV) : List AV := jl_6 12 1 (vp_9 (jl_6 17 3 (jl_6 10 1 l)))
noncomputable def vp_134 (l : List AV) : List AV := jl_6 29 1 (jl_6 16 1 (jl_6 33 1 l))
noncomputable def vp_135 (l : List AV) : List AV := vp_134 (jl_6 28 1 l)
noncomputable def vp_136 (l : List AV) : List AV := jl_6 3 1 (jl_6 29 1 (jl_6 33 1 l))
noncomputable def vp_137 (l : List AV) : List AV := jl_6 37 1 (jl_6 35 2 (jl_6 40 3 (jl_6 36 1 l)))
noncomputable def vp_138 (l : List AV) : List AV := vp_110 (jl_6 3 1 l)
noncomputable def vp_139 (l : List AV) : List AV := vp_112 (jl_6 14 1 l)
noncomputable def vp_140 (l : List AV) : List AV := jl_8 11 1 (jl_6 16 1 l)
noncomputable def vp_141 (l : List AV) : List AV := jl_6 7 3 (jl_1 97 4 l)
noncomputable def vp_142 (l : List AV) : List AV := jl_6 36 1 (jl_6 34 2 (jl_6 39 3 (jl_6 35 1 l)))
noncomputable def vp_143 (l : List AV) : List AV := vp_39 (jl_8 7 1 l)
noncomputable def vp_144 (l : List AV) : List AV := jl_6 3 1 (jl_8 46 1 (jl_6 4 1 (jl_8 48 1 l)))
noncomputable def vp_145 (l : List AV) : List AV := vp_48 (jl_6 6 1 (jl_6 5 1 l))
noncomputable def vp_146 (l : List AV) : List AV := jl_6 12 1 (jl_6 11 1 (jl_6 10 1 (jl_6 15 2 (jl_6 13 1 (jl_8 38 4 (jl_6 16 1 l))))))
noncomputable def vp_147 (l : List AV) : List AV := jl_8 44 4 (vp_144 l)
noncomputable def vp_148 (l : List AV) : List AV := vp_40 (jl_8 36 33 (jl_6 3 1 l))
noncomputable def vp_149 (l : List AV) : List AV := vp_148 (jl_1 38 1 l)
noncomputable def vp_150 (l : List AV) : List AV := jl_6 28 1 (jl_6 16 1 (jl_6 32 1 l))
noncomputable def vp_151 (l : List AV) : List AV := vp_79 (vp_150 l)
noncomputable def vp_152 (l : List AV) : List AV := vp_93 (jl_8 20 13 (vp_44 l))
noncomputable def vp_153 (l : List AV) : List AV := vp_54 (jl_8 19 13 (vp_85 l))
noncomputable def vp_154 (l : List AV) : List AV := vp_114 (jl_8 42 7 l)
noncomputable def vp_155 (l : List AV) : List AV := vp_154 (jl_4 120 3 (jl_8 49 4 l))
noncomputable def vp_156 (l : List AV) : List AV := jl_6 20 1 (jl_6 22 1 l)
noncomputable def vp_157 (l : List AV) : List AV := vp_8 (vp_98 l)
noncomputable def tg_0 : List Nat := [1, 1, 1, 1, 1, 1, 1]
noncomputable def tg_1 : List Nat := [1, 1, 1, 1, 1, 1, 1, 1, 1, 1, 1, 1, 1, 1, 1, 1, 1, 1, 1, 1, 1, 1, 1, 1, 1, 1, 1, 1, 1, 1, 1, 1, 1, 1, 1, 1, 1, 1, 1, 1, 1, 1, 1, 1, 1, 1]
noncomputable def tg_2 : List Nat := [1, 1, 1, 1, 1, 1, 1, 1, 1, 1, 1, 1, 1, 1, 1, 1, 1]
noncomputable def tg_3 : List Nat := [1, 1, 1, 1, 1, 1, 1, 1, 1, 1, 1, 1, 1, 1, 1, 1, 1, 1, 1, 1, 1, 1, 1, 1, 1, 1, 1]
noncomputable def tg_4 : List Nat := [1, 1, 1, 1, 1, 1, 1, 1, 1, 1]
noncomputable def tg_5 : List Nat := [1, 1, 1, 1, 1, 1, 1, 1, 1, 1, 1]
noncomputable def tg_6 : List Nat := [1, 1, 1, 1, 1, 1, 1, 1, 1, 1, 1, 1, 1, 1, 1, 1, 1, 1]
noncomputable def tg_7 : List Nat := [1, 1, 1, 1, 1, 1, 1, 1, 1, 1, 1, 1, 1, 1, 1, 1, 1, 1, 1]
noncomputable def tg_8 : List Nat := [1, 1, 1, 1, 1, 1, 1, 1, 1, 1, 1, 1, 1, 1, 1, 1, 1, 1, 1, 1, 1, 1, 1, 1]
noncomputable def tg_9 : List Nat := [1, 1, 1, 1, 1, 1, 1, 1, 1, 1, 1, 1, 1, 1, 1, 1, 1, 1, 1, 1, 1, 1, 1, 1, 1, 1, 1, 1, 1, 1, 1, 1, 1, 1, 1, 1, 1, 1, 1, 1, 1, 1, 1, 1, 1, 1, 1, 1, 1, 1, 1, 1, 1, 1, 1, 1, 1, 1, 1, 1, 1, 1, 1, 1, 1, 1, 1, 1, 1, 1, 1, 1, 1]
noncomputable def tg_10 : List Nat := [1, 1, 1, 1, 1, 1, 1, 1, 1, 1, 1, 1, 1, 1, 1, 1, 1, 1, 1, 1, 1, 1, 1, 1, 1, 1, 1, 1, 1, 1, 1, 1, 1, 1, 1, 1, 1, 1, 1, 1, 1, 1, 1, 1, 1]
noncomputable def tg_11 : List Nat := [1, 1, 1, 1, 1, 1, 1, 1, 1, 1, 1, 1, 1, 1, 1, 1, 1, 1, 1, 1, 1, 1, 1, 1, 1, 1, 1, 1, 1, 1, 1, 1, 1, 1, 1, 1, 1, 1, 1, 1, 1, 1, 1, 1, 1, 1, 1, 1, 1, 1, 1, 1, 1, 1, 1, 1, 1, 1, 1, 1, 1, 1, 1, 1, 1, 1, 1, 1]
noncomputable def tg_12 : List Nat := [1, 1, 1, 1, 1, 1, 1, 1, 1, 1, 1, 1, 1, 1, 1, 1, 1, 1, 1, 1, 1, 1, 1, 1, 1, 1, 1, 1, 1, 1, 1, 1, 1, 1, 1, 1, 1, 1, 1, 1, 1, 1, 1, 1, 1, 1, 1, 1, 1, 1, 1, 1, 1, 1, 1, 1, 1, 1, 1, 1, 1, 1, 1, 1, 1, 1, 1, 1, 1, 1, 1, 1, 1, 1, 1, 1, 1, 1, 1, 1, 1, 1, 1, 1, 1, 1, 1, 1, 1, 1, 1, 1]
noncomputable def tg_13 : List Nat := [1, 1, 1, 1, 1, 1, 1, 1, 1]
noncomputable def tg_14 : List Nat := [1, 1, 1, 1, 1, 1, 1, 1, 1, 1, 1, 1, 1, 1, 1, 1, 1, 1, 1, 1, 1, 1, 1, 1, 1, 1, 1, 1, 1]
noncomputable def tg_15 : List Nat := [1, 1, 1, 1, 1, 1, 1, 1, 1, 1, 1, 1, 1, 1, 1, 1, 1, 1, 1, 1, 1, 1, 1, 1, 1, 1, 1, 1, 1, 1]
noncomputable def tg_16 : List Nat := [1, 1, 1, 1, 1, 1, 1, 1, 1, 1, 1, 1, 1, 1, 1, 1]
noncomputable def tg_17 : List Nat := [1, 1, 1, 1, 1, 1, 1, 1, 1, 1, 1, 1, 1, 1, 1, 1, 1, 1, 1, 1, 1]
noncomputable def tg_18 : List Nat := [1, 1, 1, 1, 1, 1, 1, 1, 1, 1, 1, 1, 1, 1, 1, 1, 1, 1, 1, 1, 1, 1, 1, 1, 1, 1, 1, 1, 1, 1, 1, 1, 1, 1, 1, 1, 1, 1, 1, 1, 1, 1, 1, 1, 1, 1, 1, 1, 1, 1, 1]
noncomputable def tg_19 : List Nat := [1, 1, 1, 1, 1, 1, 1, 1, 1, 1, 1, 1, 1, 1]
noncomputable def tg_20 : List Nat := [1, 1, 1, 1, 1, 1, 1, 1, 1, 1, 1, 1, 1, 1, 1, 1, 1, 1, 1, 1, 1, 1, 1, 1, 1, 1, 1, 1, 1, 1, 1, 1, 1, 1, 1, 1, 1, 1, 1, 1, 1, 1, 1]
noncomputable def tg_21 : List Nat := [1, 1, 1, 1, 1, 1, 1, 1, 1, 1, 1, 1, 1, 1, 1, 1, 1, 1, 1, 1, 1, 1, 1, 1, 1, 1, 1, 1, 1, 1, 1, 1, 1, 1, 1, 1, 1, 1, 1, 1, 1, 1, 1, 1, 1, 1, 1]
noncomputable def tg_22 : List Nat := [4, 1, 1, 1, 1, 1, 1, 1, 1, 1, 1, 1, 1, 1, 1, 1, 1, 1, 1, 1, 1, 1, 1, 1, 1, 1, 1, 1, 1, 1, 1, 1, 1, 1, 1, 1, 1, 1, 1, 1, 1, 1, 1]
noncomputable def tg_23 : List Nat := [1, 1, 1, 1, 1, 1, 1, 1, 1, 1, 1, 1, 1, 1, 1, 1, 1, 1, 1, 1, 1, 1, 1, 1, 1, 1, 1, 1, 1, 1, 1, 1, 1, 1, 1, 1, 1, 1, 4, 4, 4, 1, 1, 1, 1]
noncomputable def tg_24 : List Nat := [4, 1, 1, 1, 1, 1, 1, 1, 1, 1, 1, 1, 1, 1, 1, 1, 1, 1, 1, 1, 1, 1, 1, 1, 1, 1, 1, 1, 1, 1, 1, 1, 1, 1, 1, 1, 1, 1, 1, 4, 4, 4, 1, 1, 1, 1]
noncomputable def tg_25 : List Nat := [1, 1, 1, 1, 1, 1, 1, 1, 1, 1, 1, 1, 1, 1, 1, 1, 1, 1, 1, 1, 1, 1, 1, 1, 1, 1, 1, 1, 1, 1, 1, 1, 1, 1, 1, 1, 1, 1, 1, 1, 1, 1, 1, 1, 1, 1, 1, 1, 1, 1, 1, 1, 1, 1, 1, 1, 1, 1, 1, 1, 1, 1, 1, 1]
noncomputable def tg_26 : List Nat := [1, 1, 1, 1, 1, 1, 1, 1, 1, 1, 1, 1, 1, 1, 1, 1, 1, 1, 1, 1, 1, 1, 1, 1, 1, 1, 1, 1, 1, 1, 1, 1, 1, 1, 1, 1, 1, 1, 1, 1, 1, 1, 1, 1, 1, 1, 1, 1, 1, 1, 1, 1, 1, 1, 1, 1, 1, 1, 1, 1, 1, 1, 1, 1, 1, 1, 1, 1, 1, 1, 1, 1, 1, 1, 1, 1, 1, 1, 1, 1, 1, 1, 1, 1, 1, 1, 1, 1, 1, 1, 1, 1, 1, 1, 1, 1, 1, 1, 1, 1, 1, 1]
noncomputable def tg_27 : List Nat := [1, 1, 1, 1, 1, 1, 1, 1, 1, 1, 1, 1, 1, 1, 1, 1, 1, 1, 1, 1, 1, 1, 1, 1, 1, 1, 1, 1, 1, 1, 1, 1, 1, 1, 1, 1, 1, 1, 1, 1, 1, 1, 1, 1, 1, 1, 1, 1, 1, 1, 1, 1, 1, 1, 1, 1, 1, 1, 1, 1, 1, 1, 1, 1, 1, 1, 1, 1, 1]
noncomputable def tg_28 : List Nat := [1, 1, 1, 1, 1, 1, 1, 1, 1, 1, 1, 1, 1, 1, 1, 1, 1, 1, 1, 1, 1, 1, 1, 1, 1, 1, 1, 1, 1, 1, 1, 1, 1, 1, 1, 1, 1, 1, 1, 1, 1, 1]
noncomputable def tg_29 : List Nat := [1, 1, 1, 1, 1, 1, 1, 1, 1, 1, 1, 1, 1, 1, 1, 1, 1, 1, 1, 1, 1, 1, 1, 1, 1]
noncomputable def tg_30 : List Nat := [1, 1, 1, 1, 1, 1, 1, 1, 1, 1, 1, 1, 1, 1, 1, 1, 1, 1, 1, 1, 1, 1, 1, 1, 1, 1, 1, 1, 1, 1, 1, 1, 1, 1, 1, 1, 1, 1, 1, 1, 1, 1, 1, 1, 1, 1, 1, 1, 1, 1, 1, 1, 1, 1, 1, 1, 1, 1, 1, 1, 1, 1, 1, 1, 1, 1, 1, 1, 1, 1, 1, 1, 1, 1, 1, 1, 1, 1, 1, 1, 1]
noncomputable def tg_31 : List Nat := [1, 1, 1, 1, 1, 1, 1, 1, 1, 1, 1, 1, 1, 1, 1, 1, 1, 1, 1, 1, 1, 1, 1, 1, 1, 1, 1, 1, 1, 1, 1, 1, 1, 1, 1, 1, 1, 1, 1, 1, 1, 1, 1, 1, 1, 1, 1, 1, 1, 1, 1, 1, 1, 1, 1, 1, 1, 1, 1, 1, 1, 1, 1, 1, 1, 1, 1, 1, 1, 1, 1, 1, 1, 1, 1, 1, 1, 1, 1, 1, 1, 1, 1, 1, 1, 1, 1, 1, 1, 1, 1, 1, 1, 1, 1, 1, 1, 1, 1, 1, 1, 1, 1, 1, 1, 1, 1, 1, 1, 1, 1, 1, 1, 1, 1, 1, 1, 1, 1, 1, 1, 1, 1, 1, 1, 1, 1, 1, 1, 1, 1, 1, 1, 1, 1, 1, 1, 1, 1, 1, 1, 1, 1, 1, 1, 1, 1, 1, 1, 1, 1, 1, 1, 1, 1, 1, 1, 1, 1, 1, 1, 1, 1, 1, 1, 1, 1, 1, 1, 1, 1, 1, 1, 1, 1, 1, 1, 1, 1, 1, 1, 1, 1, 1, 1, 1, 1, 1, 1, 1, 1, 1, 1, 1, 1, 1, 1, 1, 1, 1, 1, 1, 1, 1, 1, 1, 1, 1, 1, 1, 1, 1, 1, 1, 1, 1, 1, 1, 1, 1, 1, 1, 1, 1, 1, 1, 1, 1, 1, 1, 1, 1, 1, 1, 1, 1, 1, 1, 1, 1, 1, 1, 1, 1, 1, 1, 1, 1, 1, 1, 1, 1, 1, 1, 1, 1, 1, 1, 1, 1]
noncomputable def tg_32 : List Nat := [1, 1, 1, 1, 1, 1, 1, 1, 1, 1, 1, 1, 1, 1, 1, 1, 1, 1, 1, 1, 1, 1, 1, 1, 1, 1, 1, 1, 1, 1, 1, 1, 1, 1, 1, 1, 1, 1, 1, 1, 1, 1, 1, 1, 1, 1, 1, 1, 1, 1, 1, 1, 1, 1, 1, 1, 1, 1, 1, 1, 1, 1, 1, 1, 1, 1, 1, 1, 1, 1]
noncomputable def tg_33 : List Nat := [1, 1, 1, 1, 1, 1, 1, 1, 1, 1, 1, 1, 1, 1, 1, 1, 1, 1, 1, 1, 1, 1, 1, 1, 1, 1, 1, 1, 1, 1, 1, 1, 1, 1, 1, 1, 1, 1, 1, 1, 1, 1, 1, 1, 1, 1, 1, 1, 1, 1, 1, 1, 1, 1, 1, 1, 1, 1, 1, 1, 1, 1, 1, 1, 1, 1, 1, 1, 1, 1, 1, 1, 1, 1, 1, 1, 1, 1, 1, 1, 1, 1, 1, 1, 1, 1, 1, 1, 1, 1, 1, 1, 1, 1, 1, 1, 1, 1, 1, 1, 1, 1, 1, 1, 1, 1]
noncomputable def tg_34 : List Nat := [1, 1, 1, 1, 1, 1, 1, 1]
noncomputable def am_0 : AC := .inr (1, [(85, (2, (-2147483648), 2147483647))])
noncomputable def am_1 : AC := .inr (1, [(5, (2, (-2147483648), 2147483647))])
noncomputable def am_2 : AC := .inr (0, [(700, (2, (-128), 127))])
noncomputable def am_3 : AC := .inr (1, [(5, (2, (-1), 4))])
noncomputable def am_4 : AC := .inr (1, [(5, (2, 0, 40))])
noncomputable def am_5 : AC := .inr (1, [(35, (2, (-2147483648), 2147483647))])
noncomputable def am_6 : AC := .inr (1, [(35, (2, 0, 4))])
noncomputable def am_7 : AC := .inr (1, [(7, (2, 0, 9))])
noncomputable def am_8 : AC := .inr (1, [(7, (2, 0, 5))])
noncomputable def am_9 : AC := .inr (1, [(85, (2, (-1), 4))])
noncomputable def am_10 : AC := .inr (1, [(5, (2, 0, 9))])
noncomputable def am_11 : AC := .inr (1, [(5, (2, 0, 300))])
noncomputable def am_12 : AC := .inr (1, [(30, (2, 0, 4))])
noncomputable def am_13 : AC := .inr (1, [(16, (2, (-2147483648), 2147483647))])
noncomputable def am_14 : AC := .inr (1, [(80, (2, (-2147483648), 2147483647))])
noncomputable def am_15 : AC := .inr (1, [(80, (2, (-1), 4))])
noncomputable def am_16 : AC := .inr (1, [(510, (2, (-2147483648), 2147483647))])
noncomputable def am_17 : AC := .inr (3, [(3, (2, 0, 1))])
noncomputable def lq (i t v : Nat) : Nat × AV := (i, (t, Int.ofNat v, Int.ofNat 0))
/-- RookHusting$Tape append -/
noncomputable def gi_0 : GI := jl_n [jl_z 1, gp_0, gp_1]
noncomputable def ac_0 : AC := .inl (10, jl_n [jl_6 2 1, jl_1 4 1, jl_8 8 4])
noncomputable def gi_1 : GI := jl_n [jl_z 1, gp_0, jl_i 0 700, gp_2, jl_z 4]
noncomputable def ac_1 : AC := .inl (10, jl_n [jl_6 2 1, jl_1 10 1, jl_8 8 4])
noncomputable def con_0 : Con2 := ((yX10_append, cX10_append, 3, none), (0, 0), ([(6, 0, 0), (1, 1, 0)], gi_0, [ac_0, am_2], []), [((9, 0, 0), gi_1, [(true, ac_1), (true, am_2)], [], [1, 1, 1, 1, 1, 1])])
theorem hd_0 : con_0.1 = (yX10_append, cX10_append, 3, none) := rfl
noncomputable def ct_0 : CTB2 := []
noncomputable def gi_2 : GI := jl_n [jl_z 1, gp_0, jl_i 0 700, jl_z 6, jl_m 7 24, gp_3, jl_z 4]
noncomputable def ac_2 : AC := .inl (10, jl_n [jl_6 2 1, jl_1 13 1, jl_8 8 4])
noncomputable def cu_0 : List CUT2 := [((3, [lq 0 6 0, lq 1 1 1, lq 2 1 10], [], gi_2, [(true, ac_2), (true, am_2)]), [], ([(10, 1)], 8))]
theorem ch_0 : staG tb_X10_append 1 bt_RX10 [] ct_0 [] [] cu_0 26 con_0 = true := by decide +kernel
theorem cc_0 : cu_0.all (cutG tb_X10_append 1 bt_RX10 [] ct_0 [] [] cu_0 26 con_0) = true := by decide +kernel
theorem cto_0 (l : Launch) : CTOK2 l RX10 vwCl gTbl ct_0 := ct2_nil
theorem vl_0 (l : Launch) : Vld2 l vwCl gTbl con_0 := conR_ok3 gT_all (hd_0) rfl pn_RX10 tk_X10_append bo_RX10 xo_RX10 (cto_0 l) ch_0 (cut_all cc_0)
/-- RookHusting feed -/
noncomputable def gi_3 : GI := jl_n [gp_4, gp_5]
noncomputable def ac_3 : AC := .inl (11, jl_n [jl_6 2 1, jl_8 22 15])
noncomputable def ac_4 : AC := .inl (10, jl_n [jl_6 3 1, jl_1 24 1, jl_8 28 4])
noncomputable def gi_4 : GI := jl_n [gp_4, gp_5, jl_m 0 700, gp_3, jl_z 4]
noncomputable def ac_5 : AC := .inl (10, jl_n [jl_6 3 1, jl_1 31 1, jl_8 28 4])
noncomputable def hq_0 : HP := [(false, ac_3), (true, ac_5), (true, am_2)]
noncomputable def con_1 : Con2 := ((yX11_feed, cX11_feed, 6, (some .int)), (1, 22), ([(6, 0, 0), (1, 1, 0), (1, 2, 0), (1, 3, 0), (1, 4, 0), (1, 5, 0)], gi_3, [ac_3, ac_4, am_2], []), [((1, 28, 0), gi_4, hq_0, [], tg_0)])
theorem hd_1 : con_1.1 = (yX11_feed, cX11_feed, 6, (some .int)) := rfl
theorem ck_RX11_96_0 : COK2 RX11 vwCl gTbl 96 0 con_0 := ⟨wd_559, wd_126, mh_X10_append, .inr (.inr ⟨rfl, wd_556, wd_557, wd_558, ⟨_, rfl, pd_X10_append⟩, 10, _, TX10, 6, rfl, rfl⟩)⟩
noncomputable def ct_1 : CTB2 := [(20, 96, 0, con_0, [1, 2]), (28, 96, 0, con_0, [1, 2]), (36, 96, 0, con_0, [1, 2]), (45, 96, 0, con_0, [1, 2]), (54, 96, 0, con_0, [1, 2])]
noncomputable def cu_1 : List CUT2 := []
theorem ch_1 : staG tb_X11_feed 1 bt_RX11 [] ct_1 [] [] cu_1 31 con_1 = true := by decide +kernel
theorem cto_1 (l : Launch) : CTOK2 l RX11 vwCl gTbl ct_1 := ct2_cons (vl_0 l) ck_RX11_96_0 (ct2_cons (vl_0 l) ck_RX11_96_0 (ct2_cons (vl_0 l) ck_RX11_96_0 (ct2_cons (vl_0 l) ck_RX11_96_0 (ct2_cons (vl_0 l) ck_RX11_96_0 (ct2_nil)))))
theorem vl_1 (l : Launch) : Vld2 l vwCl gTbl con_1 := conR_ok3 gT_all (hd_1) rfl pn_RX11 tk_X11_feed bo_RX11 xo_RX11 (cto_1 l) ch_1 cut_nil
/-- RookHustingModel feed -/
noncomputable def gi_5 : GI := jl_n [gp_4, gp_6]
noncomputable def ac_6 : AC := .inl (12, jl_n [jl_8 10 4, jl_6 3 1, jl_1 12 1, jl_6 2 1, jl_8 51 38])
noncomputable def hc_0 : List AC := [ac_6, am_1, am_2]
noncomputable def gi_6 : GI := jl_n [gp_4, gp_6, jl_m 0 700, jl_z 5, jl_i 20 700, jl_z 39]
noncomputable def ac_7 : AC := .inl (12, jl_n [jl_8 10 4, jl_6 3 1, jl_1 58 1, jl_6 2 1, jl_8 51 38])
noncomputable def hq_1 : HP := [(true, ac_7), (true, am_1), (true, am_2)]
noncomputable def con_2 : Con2 := ((yX12_feed, cX12_feed, 7, (some .int)), (0, 0), ([(6, 0, 0), (1, 1, 0), (1, 2, 0), (1, 3, 0), (1, 4, 0), (1, 5, 0)], gi_5, hc_0, []), [((1, 51, 0), gi_6, hq_1, [], tg_1)])
theorem hd_2 : con_2.1 = (yX12_feed, cX12_feed, 7, (some .int)) := rfl
noncomputable def ct_2 : CTB2 := []
noncomputable def gi_7 : GI := jl_n [gp_4, jl_z 5, jl_i 0 680, jl_z 45, jl_i 0 20]
noncomputable def hq_2 : HP := [(false, ac_6), (true, am_1), (true, am_2)]
noncomputable def cu_2 : List CUT2 := [((55, [lq 0 6 0, lq 1 1 1, lq 2 1 2, lq 3 1 3, lq 4 1 4, lq 5 1 5, lq 6 1 57], [], gi_7, hq_2), [], ([(57, (-1))], 20))]
theorem ch_2 : staG tb_X12_feed 1 bt_RX12 [] ct_2 [] [] cu_2 36 con_2 = true := by decide +kernel
theorem cc_2 : cu_2.all (cutG tb_X12_feed 1 bt_RX12 [] ct_2 [] [] cu_2 36 con_2) = true := by decide +kernel
theorem cto_2 (l : Launch) : CTOK2 l RX12 vwCl gTbl ct_2 := ct2_nil
theorem vl_2 (l : Launch) : Vld2 l vwCl gTbl con_2 := conR_ok3 gT_all (hd_2) rfl pn_RX12 tk_X12_feed bo_RX12 xo_RX12 (cto_2 l) ch_2 (cut_all cc_2)
/-- RookHusting end -/
noncomputable def gi_8 : GI := jl_n [gp_7, gp_5]
noncomputable def ac_8 : AC := .inl (11, jl_n [jl_6 2 1, jl_8 18 15])
noncomputable def ac_9 : AC := .inl (10, jl_n [jl_8 19 1, jl_1 20 1, jl_8 24 4])
noncomputable def gi_9 : GI := jl_n [gp_7, gp_5, jl_m 0 700, gp_3, jl_z 4]
noncomputable def ac_10 : AC := .inl (10, jl_n [jl_8 19 1, jl_1 27 1, jl_8 24 4])
noncomputable def con_3 : Con2 := ((yX11_end, cX11_end, 2, (some .int)), (0, 0), ([(6, 0, 0), (1, 1, 0)], gi_8, [ac_8, ac_9], []), [((1, 24, 0), gi_9, [(false, ac_8), (true, ac_10)], [], tg_0)])
theorem hd_3 : con_3.1 = (yX11_end, cX11_end, 2, (some .int)) := rfl
noncomputable def ct_3 : CTB2 := []
noncomputable def cu_3 : List CUT2 := []
theorem ch_3 : staG tb_X11_end 1 bt_RX11 [] ct_3 [] [] cu_3 15 con_3 = true := by decide +kernel
theorem cto_3 (l : Launch) : CTOK2 l RX11 vwCl gTbl ct_3 := ct2_nil
theorem vl_3 (l : Launch) : Vld2 l vwCl gTbl con_3 := conR_ok3 gT_all (hd_3) rfl pn_RX11 tk_X11_end bo_RX11 xo_RX11 (cto_3 l) ch_3 cut_nil
/-- RookHustingModel in -/
noncomputable def gi_10 : GI := jl_n [jl_u, gp_3]
noncomputable def gi_11 : GI := jl_n [jl_u, gp_8]
noncomputable def con_4 : Con2 := ((yX12_in, cX12_in, 6, (some .boolean)), (0, 0), ([(4, 0, 0), (3, 0, 0), (4, 2, 0)], gi_10, [], []), [((0, 0, 0), gi_11, [], [], [1]), ((0, 1, 0), [(0, 700), (0, 0), (0, 700), (0, 0)], [], [], [1])])
theorem hd_4 : con_4.1 = (yX12_in, cX12_in, 6, (some .boolean)) := rfl
noncomputable def cu_4 : List CUT2 := []
theorem ch_4 : staG tb_X12_in 1 bt_RX12 [] ct_2 [] [] cu_4 11 con_4 = true := by decide +kernel
theorem vl_4 (l : Launch) : Vld2 l vwCl gTbl con_4 := conR_ok3 gT_all (hd_4) rfl pn_RX12 tk_X12_in bo_RX12 xo_RX12 (cto_2 l) ch_4 cut_nil
/-- RookHustingModel end -/
noncomputable def gi_12 : GI := jl_n [gp_9]
noncomputable def ac_11 : AC := .inl (12, jl_n [jl_8 7 5, jl_1 8 1, jl_8 47 39])
noncomputable def gi_13 : GI := jl_n [gp_9, jl_m 0 700, gp_6]
noncomputable def ac_12 : AC := .inl (12, jl_n [jl_8 7 5, jl_1 54 1, jl_8 47 39])
noncomputable def con_5 : Con2 := ((yX12_end, cX12_end, 2, (some .int)), (1, 25), ([(6, 0, 0), (1, 1, 0)], gi_12, [ac_11], []), [((1, 47, 0), gi_13, [(true, ac_12)], [], tg_1)])
theorem hd_5 : con_5.1 = (yX12_end, cX12_end, 2, (some .int)) := rfl
theorem ck_RX12_91_4 : COK2 RX12 vwCl gTbl 91 1 con_4 := ⟨wd_1544, wd_137, mh_X12_in, .inl ⟨rfl, wd_1542, wd_1543, pd_X12_in⟩⟩
noncomputable def ct_5 : CTB2 := [(8, 91, 1, con_4, [])]
noncomputable def cu_5 : List CUT2 := []
theorem ch_5 : staG tb_X12_end 1 bt_RX12 [] ct_5 [] [] cu_5 15 con_5 = true := by decide +kernel
theorem cto_5 (l : Launch) : CTOK2 l RX12 vwCl gTbl ct_5 := ct2_cons (vl_4 l) ck_RX12_91_4 (ct2_nil)
theorem vl_5 (l : Launch) : Vld2 l vwCl gTbl con_5 := conR_ok3 gT_all (hd_5) rfl pn_RX12 tk_X12_end bo_RX12 xo_RX12 (cto_5 l) ch_5 cut_nil
/-- RookHusting$Hundred clear -/
noncomputable def gi_14 : GI := jl_n [gp_7, gp_16]
noncomputable def ac_13 : AC := .inl (4, jl_n [jl_1 9 8, jl_8 18 9])
noncomputable def gi_15 : GI := jl_n [gp_17, jl_z 26]
noncomputable def ac_14 : AC := .inl (4, jl_n [vp_1, vp_1, jl_8 18 9])
noncomputable def con_6 : Con2 := ((yX4_clear, cX4_clear, 1, none), (0, 0), ([(6, 0, 0)], gi_14, [ac_13], []), [((9, 0, 0), gi_15, [(true, ac_14)], [], tg_2)])
theorem hd_6 : con_6.1 = (yX4_clear, cX4_clear, 1, none) := rfl
noncomputable def ct_6 : CTB2 := []
noncomputable def cu_6 : List CUT2 := []
theorem ch_6 : staG tb_X4_clear 1 bt_RX4 [] ct_6 [] [] cu_6 27 con_6 = true := by decide +kernel
theorem cto_6 (l : Launch) : CTOK2 l RX4 vwCl gTbl ct_6 := ct2_nil
theorem vl_6 (l : Launch) : Vld2 l vwCl gTbl con_6 := conR_ok3 gT_all (hd_6) rfl pn_RX4 tk_X4_clear bo_RX4 xo_RX4 (cto_6 l) ch_6 cut_nil
/-- RookHusting$Tape isBlank -/
noncomputable def con_7 : Con2 := ((yX10_isBlank, cX10_isBlank, 1, (some .boolean)), (0, 0), ([(1, 0, 0)], [((-1000), 127)], [], []), [((0, 0, 0), [((-1000), 127), (0, 0)], [], [], [1]), ((0, 1, 0), [(10, 32), (0, 0)], [], [], [1])])
theorem hd_7 : con_7.1 = (yX10_isBlank, cX10_isBlank, 1, (some .boolean)) := rfl
noncomputable def cu_7 : List CUT2 := []
theorem ch_7 : staG tb_X10_isBlank 1 bt_RX10 [] ct_0 [] [] cu_7 11 con_7 = true := by decide +kernel
theorem vl_7 (l : Launch) : Vld2 l vwCl gTbl con_7 := conR_ok3 gT_all (hd_7) rfl pn_RX10 tk_X10_isBlank bo_RX10 xo_RX10 (cto_0 l) ch_7 cut_nil
/-- RookHusting$Tape isLetter -/
noncomputable def con_8 : Con2 := ((yX10_isLetter, cX10_isLetter, 1, (some .boolean)), (0, 0), ([(1, 0, 0)], [((-1000), 127)], [], []), [((0, 0, 0), [((-1000), 127), (0, 0)], [], [], [1]), ((0, 1, 0), [(97, 122), (0, 0)], [], [], [1])])
theorem hd_8 : con_8.1 = (yX10_isLetter, cX10_isLetter, 1, (some .boolean)) := rfl
noncomputable def cu_8 : List CUT2 := []
theorem ch_8 : staG tb_X10_isLetter 1 bt_RX10 [] ct_0 [] [] cu_8 11 con_8 = true := by decide +kernel
theorem vl_8 (l : Launch) : Vld2 l vwCl gTbl con_8 := conR_ok3 gT_all (hd_8) rfl pn_RX10 tk_X10_isLetter bo_RX10 xo_RX10 (cto_0 l) ch_8 cut_nil
/-- RookHusting$Tape isDigit -/
noncomputable def con_9 : Con2 := ((yX10_isDigit, cX10_isDigit, 1, (some .boolean)), (0, 0), ([(1, 0, 0)], [((-1000), 127)], [], []), [((0, 0, 0), [((-1000), 127), (0, 0)], [], [], [1]), ((0, 1, 0), [(48, 57), (0, 0)], [], [], [1])])
theorem hd_9 : con_9.1 = (yX10_isDigit, cX10_isDigit, 1, (some .boolean)) := rfl
noncomputable def cu_9 : List CUT2 := []
theorem ch_9 : staG tb_X10_isDigit 1 bt_RX10 [] ct_0 [] [] cu_9 11 con_9 = true := by decide +kernel
theorem vl_9 (l : Launch) : Vld2 l vwCl gTbl con_9 := conR_ok3 gT_all (hd_9) rfl pn_RX10 tk_X10_isDigit bo_RX10 xo_RX10 (cto_0 l) ch_9 cut_nil
/-- RookHusting$Tape step -/
noncomputable def gi_16 : GI := jl_n [gp_22]
noncomputable def ac_15 : AC := .inl (10, jl_n [jl_6 2 1, jl_1 7 5])
noncomputable def gi_17 : GI := jl_n [gp_22, gp_23, gp_18, jl_i 0 700]
noncomputable def ac_16 : AC := .inl (10, jl_n [jl_6 2 1, jl_1 3 1, jl_1 13 4])
noncomputable def hq_3 : HP := [(true, ac_16), (false, am_2)]
noncomputable def con_10 : Con2 := ((yX10_step, cX10_step, 1, none), (1, 20), ([(6, 0, 0)], gi_16, [ac_15, am_2], []), [((9, 0, 0), gi_17, hq_3, [], [1, 1, 1, 1, 1, 1])])
theorem hd_10 : con_10.1 = (yX10_step, cX10_step, 1, none) := rfl
theorem ck_RX10_38_9 : COK2 RX10 vwCl gTbl 38 1 con_9 := ⟨wd_592, wd_126, mh_X10_isDigit, .inl ⟨rfl, wd_590, wd_591, pd_X10_isDigit⟩⟩
theorem ck_RX10_35_8 : COK2 RX10 vwCl gTbl 35 1 con_8 := ⟨wd_589, wd_126, mh_X10_isLetter, .inl ⟨rfl, wd_587, wd_588, pd_X10_isLetter⟩⟩
theorem ck_RX10_25_7 : COK2 RX10 vwCl gTbl 25 1 con_7 := ⟨wd_586, wd_126, mh_X10_isBlank, .inl ⟨rfl, wd_584, wd_585, pd_X10_isBlank⟩⟩
noncomputable def ct_10 : CTB2 := [(20, 25, 1, con_7, []), (75, 35, 1, con_8, []), (106, 35, 1, con_8, []), (134, 38, 1, con_9, []), (170, 38, 1, con_9, [])]
noncomputable def gi_18 : GI := jl_n [jl_z 2, jl_i 1 700, gp_19, jl_i 0 699, jl_z 6, jl_i 1 700]
noncomputable def ac_17 : AC := .inl (10, jl_n [jl_6 2 1, jl_1 6 4, jl_1 14 1])
noncomputable def hq_4 : HP := [(true, ac_17), (false, am_2)]
noncomputable def gi_19 : GI := jl_n [jl_z 2, jl_i 1 700, gp_19, jl_i 0 699, jl_z 4, jl_i 0 699, gp_3]
noncomputable def ac_18 : AC := .inl (10, jl_n [jl_6 2 1, jl_1 3 1, jl_c 0, jl_1 12 1, jl_1 6 1, jl_1 14 1])
noncomputable def hq_5 : HP := [(true, ac_18), (false, am_2)]
noncomputable def gi_20 : GI := jl_n [jl_z 2, jl_i 1 700, gp_19, jl_i 0 699, jl_z 4, jl_i 0 699, jl_m 2147483647 1000000, jl_i 0 700]
noncomputable def ac_19 : AC := .inl (10, jl_n [jl_6 2 1, jl_1 3 1, jl_c 1, jl_1 14 3])
noncomputable def hq_6 : HP := [(true, ac_19), (false, am_2)]
noncomputable def cu_10 : List CUT2 := [((0, [lq 0 6 0], [], gi_18, hq_4), [], ([(13, (-1))], 2102)), ((86, [lq 0 6 0], [], gi_19, hq_5), [], ([(13, (-1))], 1401)), ((150, [lq 0 6 0], [], gi_20, hq_6), [], ([(13, (-1))], 700))]
theorem ch_10 : staG tb_X10_step 1 bt_RX10 [] ct_10 [] [] cu_10 55 con_10 = true := by decide +kernel
theorem cc_10 : cu_10.all (cutG tb_X10_step 1 bt_RX10 [] ct_10 [] [] cu_10 55 con_10) = true := by decide +kernel
theorem cto_10 (l : Launch) : CTOK2 l RX10 vwCl gTbl ct_10 := ct2_cons (vl_7 l) ck_RX10_25_7 (ct2_cons (vl_8 l) ck_RX10_35_8 (ct2_cons (vl_8 l) ck_RX10_35_8 (ct2_cons (vl_9 l) ck_RX10_38_9 (ct2_cons (vl_9 l) ck_RX10_38_9 (ct2_nil)))))
theorem vl_10 (l : Launch) : Vld2 l vwCl gTbl con_10 := conR_ok3 gT_all (hd_10) rfl pn_RX10 tk_X10_step bo_RX10 xo_RX10 (cto_10 l) ch_10 (cut_all cc_10)
/-- RookHusting$Tape rewind -/
noncomputable def con_11 : Con2 := ((yX10_rewind, cX10_rewind, 1, none), (2, 40), ([(6, 0, 0)], gi_16, [ac_15, am_2], []), [((9, 0, 0), gi_17, hq_3, [], [1, 1, 1, 1, 1, 1])])
theorem hd_11 : con_11.1 = (yX10_rewind, cX10_rewind, 1, none) := rfl
theorem ck_RX10_22_10 : COK2 RX10 vwCl gTbl 22 0 con_10 := ⟨wd_583, wd_126, mh_X10_step, .inr (.inr ⟨rfl, wd_580, wd_581, wd_582, ⟨_, rfl, pd_X10_step⟩, 10, _, TX10, 6, rfl, rfl⟩)⟩
noncomputable def ct_11 : CTB2 := [(6, 22, 0, con_10, [0, 1])]
noncomputable def cu_11 : List CUT2 := []
theorem ch_11 : staG tb_X10_rewind 1 bt_RX10 [] ct_11 [] [] cu_11 8 con_11 = true := by decide +kernel
theorem cto_11 (l : Launch) : CTOK2 l RX10 vwCl gTbl ct_11 := ct2_cons (vl_10 l) ck_RX10_22_10 (ct2_nil)
theorem vl_11 (l : Launch) : Vld2 l vwCl gTbl con_11 := conR_ok3 gT_all (hd_11) rfl pn_RX10 tk_X10_rewind bo_RX10 xo_RX10 (cto_11 l) ch_11 cut_nil
/-- RookHusting$Reader begin -/
noncomputable def gi_21 : GI := jl_n [gp_27]
noncomputable def ac_20 : AC := .inl (4, jl_n [jl_1 13 8, jl_8 22 9])
noncomputable def ac_21 : AC := .inl (10, jl_n [jl_6 4 1, jl_1 28 5])
noncomputable def hc_1 : List AC := [.inl (6, [(6, 1, 0), (1, 2, 0), (1, 3, 0), (6, 2, 0)]), ac_20, ac_21, am_2]
noncomputable def gi_22 : GI := jl_n [gp_27, jl_z 23, gp_20]
noncomputable def ac_22 : AC := .inl (4, jl_n [vp_1, vp_1, jl_8 22 9])
noncomputable def ac_23 : AC := .inl (10, jl_n [jl_6 4 1, jl_1 24 1, jl_1 55 4])
noncomputable def hq_7 : HP := [(true, .inl (6, [(6, 1, 0), (0, 0, 0), (0, (-1), 0), (6, 2, 0)])), (true, ac_22), (true, ac_23), (false, am_2)]
noncomputable def con_12 : Con2 := ((yX6_begin, cX6_begin, 1, none), (3, 60), ([(6, 0, 0)], gi_21, hc_1, []), [((9, 0, 0), gi_22, hq_7, [], tg_3)])
theorem hd_12 : con_12.1 = (yX6_begin, cX6_begin, 1, none) := rfl
theorem ck_RX6_32_11 : COK2 RX6 vwCl gTbl 32 0 con_11 := ⟨wd_579, wd_126, mh_X10_rewind, .inr (.inr ⟨rfl, wd_576, wd_577, wd_578, ⟨_, rfl, pd_X10_rewind⟩, 10, _, TX10, 6, rfl, rfl⟩)⟩
theorem ck_RX6_26_6 : COK2 RX6 vwCl gTbl 26 0 con_6 := ⟨wd_575, wd_128, mh_X4_clear, .inr (.inr ⟨rfl, wd_572, wd_573, wd_574, ⟨_, rfl, pd_X4_clear⟩, 4, _, TX4, 17, rfl, rfl⟩)⟩
noncomputable def ct_12 : CTB2 := [(4, 26, 0, con_6, [1]), (21, 32, 0, con_11, [2, 3])]
noncomputable def cu_12 : List CUT2 := []
theorem ch_12 : staG tb_X6_begin 1 bt_RX6 [] ct_12 [] [] cu_12 15 con_12 = true := by decide +kernel
theorem cto_12 (l : Launch) : CTOK2 l RX6 vwCl gTbl ct_12 := ct2_cons (vl_6 l) ck_RX6_26_6 (ct2_cons (vl_11 l) ck_RX6_32_11 (ct2_nil))
theorem vl_12 (l : Launch) : Vld2 l vwCl gTbl con_12 := conR_ok3 gT_all (hd_12) rfl pn_RX6 tk_X6_begin bo_RX6 xo_RX6 (cto_12 l) ch_12 cut_nil
/-- RookHusting$Reader hasMore -/
noncomputable def gi_23 : GI := jl_n [gp_28, gp_29, jl_z 3]
noncomputable def ac_24 : AC := .inl (10, jl_n [jl_8 7 2, jl_1 8 1, jl_8 11 3])
noncomputable def hc_2 : List AC := [.inl (6, [(8, 1, 0), (1, 2, 0), (8, 3, 0), (6, 1, 0)]), ac_24]
noncomputable def gi_24 : GI := jl_n [gp_28, gp_29, jl_z 4]
noncomputable def hq_8 : HP := [(false, .inl (6, [(8, 1, 0), (1, 2, 0), (8, 3, 0), (6, 1, 0)])), (false, ac_24)]
noncomputable def gi_25 : GI := jl_n [jl_z 7, jl_i 0 3, jl_z 4]
noncomputable def con_13 : Con2 := ((yX6_hasMore, cX6_hasMore, 1, (some .boolean)), (0, 0), ([(6, 0, 0)], gi_23, hc_2, []), [((0, 0, 0), gi_24, hq_8, [], [1]), ((0, 1, 0), gi_25, hq_8, [], [1])])
theorem hd_13 : con_13.1 = (yX6_hasMore, cX6_hasMore, 1, (some .boolean)) := rfl
noncomputable def ct_13 : CTB2 := []
noncomputable def cu_13 : List CUT2 := []
theorem ch_13 : staG tb_X6_hasMore 1 bt_RX6 [] ct_13 [] [] cu_13 13 con_13 = true := by decide +kernel
theorem cto_13 (l : Launch) : CTOK2 l RX6 vwCl gTbl ct_13 := ct2_nil
theorem vl_13 (l : Launch) : Vld2 l vwCl gTbl con_13 := conR_ok3 gT_all (hd_13) rfl pn_RX6 tk_X6_hasMore bo_RX6 xo_RX6 (cto_13 l) ch_13 cut_nil
/-- RookHusting$Tape isAtWord -/
noncomputable def gi_26 : GI := jl_n [gp_29, jl_i 0 700, gp_3]
noncomputable def ac_25 : AC := .inl (10, jl_n [jl_6 2 1, jl_8 4 1, jl_1 6 2, jl_8 7 1, jl_1 8 1])
noncomputable def gi_27 : GI := jl_n [gp_29, jl_i 0 700, gp_8]
noncomputable def hq_9 : HP := [(false, ac_25), (false, am_2)]
noncomputable def gi_28 : GI := jl_n [jl_z 5, jl_i 0 693, gp_8]
noncomputable def con_14 : Con2 := ((yX10_isAtWord, cX10_isAtWord, 3, (some .boolean)), (8, 200), ([(6, 0, 0), (13, 6, 0)], gi_26, [ac_25, am_2], []), [((0, 0, 0), gi_27, hq_9, [], [1]), ((0, 1, 0), gi_28, hq_9, [], [1])])
theorem hd_14 : con_14.1 = (yX10_isAtWord, cX10_isAtWord, 3, (some .boolean)) := rfl
noncomputable def gi_29 : GI := jl_n [jl_z 5, jl_i 0 693, gp_3, jl_z 2, jl_i 0 7]
noncomputable def cu_14 : List CUT2 := [((27, [lq 0 6 0, lq 1 13 6, lq 2 1 10], [], gi_29, hq_9), [], ([(10, (-1))], 7))]
theorem ch_14 : staG tb_X10_isAtWord 1 bt_RX10 [] ct_0 [(25, [(0, (2, 0, 3), 0, 693)])] [15] cu_14 20 con_14 = true := by decide +kernel
theorem cc_14 : cu_14.all (cutG tb_X10_isAtWord 1 bt_RX10 [] ct_0 [(25, [(0, (2, 0, 3), 0, 693)])] [15] cu_14 20 con_14) = true := by decide +kernel
theorem vl_14 (l : Launch) : Vld2 l vwCl gTbl con_14 := conR_ok3 gT_all (hd_14) rfl pn_RX10 tk_X10_isAtWord bo_RX10 xo_RX10 (cto_0 l) ch_14 (cut_all cc_14)
/-- RookHusting$Reader blame -/
noncomputable def gi_30 : GI := jl_n [jl_z 3, gp_24, jl_z 4, jl_i 0 700, jl_z 2]
noncomputable def ac_26 : AC := .inl (10, jl_n [jl_8 9 3, jl_1 10 1, jl_8 12 2])
noncomputable def hc_3 : List AC := [.inl (6, [(8, 2, 0), (1, 3, 0), (1, 4, 0), (6, 1, 0)]), ac_26]
noncomputable def gi_31 : GI := jl_n [jl_z 3, gp_24, jl_z 4, jl_i 0 700, jl_z 6]
noncomputable def hq_10 : HP := [(true, .inl (6, [(8, 2, 0), (0, 1, 0), (1, 9, 0), (6, 1, 0)])), (false, ac_26)]
noncomputable def con_15 : Con2 := ((yX6_blame, cX6_blame, 2, none), (0, 0), ([(6, 0, 0), (0, 1, 0)], gi_30, hc_3, []), [((9, 0, 0), gi_31, hq_10, [], [1, 1, 1, 1])])
theorem hd_15 : con_15.1 = (yX6_blame, cX6_blame, 2, none) := rfl
noncomputable def cu_15 : List CUT2 := []
theorem ch_15 : staG tb_X6_blame 1 bt_RX6 [] ct_13 [] [] cu_15 11 con_15 = true := by decide +kernel
theorem vl_15 (l : Launch) : Vld2 l vwCl gTbl con_15 := conR_ok3 gT_all (hd_15) rfl pn_RX6 tk_X6_blame bo_RX6 xo_RX6 (cto_13 l) ch_15 cut_nil
/-- RookHusting$Reader takeWord -/
noncomputable def gi_32 : GI := jl_n [jl_z 3, gp_30]
noncomputable def ac_27 : AC := .inl (10, jl_n [jl_6 3 1, jl_1 12 5])
noncomputable def hc_4 : List AC := [.inl (6, [(8, 2, 0), (1, 3, 0), (1, 4, 0), (6, 1, 0)]), ac_27, am_2]
noncomputable def gi_33 : GI := jl_n [jl_z 3, gp_30, gp_33]
noncomputable def ac_28 : AC := .inl (10, jl_n [jl_6 3 1, jl_1 8 1, jl_1 22 4])
noncomputable def hq_11 : HP := [(true, .inl (6, [(8, 2, 0), (1, 13, 0), (1, 14, 0), (6, 1, 0)])), (true, ac_28), (false, am_2)]
noncomputable def con_16 : Con2 := ((yX6_takeWord, cX6_takeWord, 2, none), (9, 222), ([(6, 0, 0), (13, 6, 0)], gi_32, hc_4, []), [((9, 0, 0), gi_33, hq_11, [], tg_4)])
theorem hd_16 : con_16.1 = (yX6_takeWord, cX6_takeWord, 2, none) := rfl
theorem ck_RX6_102_10 : COK2 RX6 vwCl gTbl 102 0 con_10 := ⟨wd_583, wd_126, mh_X10_step, .inr (.inr ⟨rfl, wd_670, wd_581, wd_582, ⟨_, rfl, pd_X10_step⟩, 10, _, TX10, 6, rfl, rfl⟩)⟩
theorem ck_RX6_70_15 : COK2 RX6 vwCl gTbl 70 0 con_15 := ⟨wd_669, wd_127, mh_X6_blame, .inr (.inr ⟨rfl, wd_666, wd_668, wd_2, ⟨_, rfl, pd_X6_blame⟩, 6, _, TX6, 4, rfl, rfl⟩)⟩
theorem ck_RX6_48_14 : COK2 RX6 vwCl gTbl 48 0 con_14 := ⟨wd_617, wd_126, mh_X10_isAtWord, .inr (.inr ⟨rfl, wd_614, wd_615, wd_616, ⟨_, rfl, pd_X10_isAtWord⟩, 10, _, TX10, 6, rfl, rfl⟩)⟩
noncomputable def ct_16 : CTB2 := [(13, 48, 0, con_14, [1, 2]), (21, 70, 0, con_15, [0, 1]), (29, 102, 0, con_10, [1, 2])]
noncomputable def cu_16 : List CUT2 := []
theorem ch_16 : staG tb_X6_takeWord 1 bt_RX6 [] ct_16 [] [] cu_16 14 con_16 = true := by decide +kernel
theorem cto_16 (l : Launch) : CTOK2 l RX6 vwCl gTbl ct_16 := ct2_cons (vl_14 l) ck_RX6_48_14 (ct2_cons (vl_15 l) ck_RX6_70_15 (ct2_cons (vl_10 l) ck_RX6_102_10 (ct2_nil)))
theorem vl_16 (l : Launch) : Vld2 l vwCl gTbl con_16 := conR_ok3 gT_all (hd_16) rfl pn_RX6 tk_X6_takeWord bo_RX6 xo_RX6 (cto_16 l) ch_16 cut_nil
/-- RookHusting$Tape isAtWord -/
noncomputable def gi_34 : GI := jl_n [jl_z 5, jl_i 0 696, gp_8]
noncomputable def con_17 : Con2 := ((yX10_isAtWord, cX10_isAtWord, 3, (some .boolean)), (8, 200), ([(6, 0, 0), (13, 1, 0)], gi_26, [ac_25, am_2], []), [((0, 0, 0), gi_27, hq_9, [], [1]), ((0, 1, 0), gi_34, hq_9, [], [1])])
theorem hd_17 : con_17.1 = (yX10_isAtWord, cX10_isAtWord, 3, (some .boolean)) := rfl
noncomputable def gi_35 : GI := jl_n [jl_z 5, jl_i 0 696, gp_3, gp_23]
noncomputable def cu_17 : List CUT2 := [((27, [lq 0 6 0, lq 1 13 1, lq 2 1 10], [], gi_35, hq_9), [], ([(10, (-1))], 4))]
theorem ch_17 : staG tb_X10_isAtWord 1 bt_RX10 [] ct_0 [(25, [(0, (2, 0, 3), 0, 696)])] [15] cu_17 20 con_17 = true := by decide +kernel
theorem cc_17 : cu_17.all (cutG tb_X10_isAtWord 1 bt_RX10 [] ct_0 [(25, [(0, (2, 0, 3), 0, 696)])] [15] cu_17 20 con_17) = true := by decide +kernel
theorem vl_17 (l : Launch) : Vld2 l vwCl gTbl con_17 := conR_ok3 gT_all (hd_17) rfl pn_RX10 tk_X10_isAtWord bo_RX10 xo_RX10 (cto_0 l) ch_17 (cut_all cc_17)
/-- RookHusting$Reader takeWord -/
noncomputable def con_18 : Con2 := ((yX6_takeWord, cX6_takeWord, 2, none), (9, 222), ([(6, 0, 0), (13, 1, 0)], gi_32, hc_4, []), [((9, 0, 0), gi_33, hq_11, [], tg_4)])
theorem hd_18 : con_18.1 = (yX6_takeWord, cX6_takeWord, 2, none) := rfl
theorem ck_RX6_48_17 : COK2 RX6 vwCl gTbl 48 0 con_17 := ⟨wd_617, wd_126, mh_X10_isAtWord, .inr (.inr ⟨rfl, wd_614, wd_615, wd_616, ⟨_, rfl, pd_X10_isAtWord⟩, 10, _, TX10, 6, rfl, rfl⟩)⟩
noncomputable def ct_18 : CTB2 := [(13, 48, 0, con_17, [1, 2]), (21, 70, 0, con_15, [0, 1]), (29, 102, 0, con_10, [1, 2])]
noncomputable def cu_18 : List CUT2 := []
theorem ch_18 : staG tb_X6_takeWord 1 bt_RX6 [] ct_18 [] [] cu_18 14 con_18 = true := by decide +kernel
theorem cto_18 (l : Launch) : CTOK2 l RX6 vwCl gTbl ct_18 := ct2_cons (vl_17 l) ck_RX6_48_17 (ct2_cons (vl_15 l) ck_RX6_70_15 (ct2_cons (vl_10 l) ck_RX6_102_10 (ct2_nil)))
theorem vl_18 (l : Launch) : Vld2 l vwCl gTbl con_18 := conR_ok3 gT_all (hd_18) rfl pn_RX6 tk_X6_takeWord bo_RX6 xo_RX6 (cto_18 l) ch_18 cut_nil
/-- RookHusting$Reader blame -/
noncomputable def hq_12 : HP := [(true, .inl (6, [(8, 2, 0), (0, 2, 0), (1, 9, 0), (6, 1, 0)])), (false, ac_26)]
noncomputable def con_19 : Con2 := ((yX6_blame, cX6_blame, 2, none), (0, 0), ([(6, 0, 0), (0, 2, 0)], gi_30, hc_3, []), [((9, 0, 0), gi_31, hq_12, [], [1, 1, 1, 1])])
theorem hd_19 : con_19.1 = (yX6_blame, cX6_blame, 2, none) := rfl
noncomputable def cu_19 : List CUT2 := []
theorem ch_19 : staG tb_X6_blame 1 bt_RX6 [] ct_13 [] [] cu_19 11 con_19 = true := by decide +kernel
theorem vl_19 (l : Launch) : Vld2 l vwCl gTbl con_19 := conR_ok3 gT_all (hd_19) rfl pn_RX6 tk_X6_blame bo_RX6 xo_RX6 (cto_13 l) ch_19 cut_nil
/-- RookHusting$Reader takeNumber -/
noncomputable def gi_36 : GI := jl_n [gp_34]
noncomputable def ac_29 : AC := .inl (10, jl_n [jl_6 3 1, jl_1 14 5])
noncomputable def hc_5 : List AC := [.inl (6, [(8, 4, 0), (1, 5, 0), (1, 6, 0), (6, 1, 0)]), ac_29, am_2]
noncomputable def gi_37 : GI := jl_n [gp_34, gp_36]
noncomputable def hq_13 : HP := [(true, .inl (6, [(8, 4, 0), (1, 16, 0), (1, 17, 0), (6, 1, 0)])), (false, ac_29), (false, am_2)]
noncomputable def gi_38 : GI := jl_n [gp_41, jl_i 1 16, gp_42]
noncomputable def ac_30 : AC := .inl (10, jl_n [jl_6 3 1, jl_1 10 1, jl_1 21 4])
noncomputable def hq_14 : HP := [(false, .inl (6, [(8, 4, 0), (1, 5, 0), (1, 6, 0), (6, 1, 0)])), (true, ac_30), (false, am_2)]
noncomputable def con_20 : Con2 := ((yX6_takeNumber, cX6_takeNumber, 5, (some .int)), (2, 40), ([(6, 0, 0), (0, 1, 0), (0, 16, 0), (0, 0, 0)], gi_36, hc_5, []), [((0, 0, 0), gi_37, hq_13, [], [1, 1, 1, 1, 1]), ((1, 12, 0), gi_38, hq_14, [], tg_0)])
theorem hd_20 : con_20.1 = (yX6_takeNumber, cX6_takeNumber, 5, (some .int)) := rfl
theorem ck_RX6_70_19 : COK2 RX6 vwCl gTbl 70 0 con_19 := ⟨wd_669, wd_127, mh_X6_blame, .inr (.inr ⟨rfl, wd_666, wd_668, wd_2, ⟨_, rfl, pd_X6_blame⟩, 6, _, TX6, 4, rfl, rfl⟩)⟩
noncomputable def ct_20 : CTB2 := [(22, 70, 0, con_15, [0, 1]), (63, 70, 0, con_19, [0, 1]), (72, 102, 0, con_10, [1, 2])]
noncomputable def cu_20 : List CUT2 := []
theorem ch_20 : staG tb_X6_takeNumber 1 bt_RX6 [] ct_20 [(52, [(1, (1, 4, 0), 0, 0)])] [] cu_20 27 con_20 = true := by decide +kernel
theorem cto_20 (l : Launch) : CTOK2 l RX6 vwCl gTbl ct_20 := ct2_cons (vl_15 l) ck_RX6_70_15 (ct2_cons (vl_19 l) ck_RX6_70_19 (ct2_cons (vl_10 l) ck_RX6_102_10 (ct2_nil)))
theorem vl_20 (l : Launch) : Vld2 l vwCl gTbl con_20 := conR_ok3 gT_all (hd_20) rfl pn_RX6 tk_X6_takeNumber bo_RX6 xo_RX6 (cto_20 l) ch_20 cut_nil
/-- RookHusting$Reader takeNamed -/
noncomputable def gi_39 : GI := jl_n [gp_34, jl_i 0 16, gp_33]
noncomputable def ac_31 : AC := .inl (10, jl_n [jl_6 3 1, jl_1 10 1, jl_1 25 4])
noncomputable def hq_15 : HP := [(true, .inl (6, [(8, 4, 0), (1, 16, 0), (1, 17, 0), (6, 1, 0)])), (true, ac_31), (false, am_2)]
noncomputable def con_21 : Con2 := ((yX6_takeNamed, cX6_takeNamed, 4, (some .int)), (10, 243), ([(6, 0, 0), (13, 1, 0), (0, 1, 0), (0, 16, 0)], gi_36, hc_5, []), [((1, 14, 0), gi_39, hq_15, [], tg_5)])
theorem hd_21 : con_21.1 = (yX6_takeNamed, cX6_takeNamed, 4, (some .int)) := rfl
theorem ck_RX6_116_20 : COK2 RX6 vwCl gTbl 116 0 con_20 := ⟨wd_679, wd_127, mh_X6_takeNumber, .inr (.inr ⟨rfl, wd_676, wd_678, wd_4, ⟨_, rfl, pd_X6_takeNumber⟩, 6, _, TX6, 4, rfl, rfl⟩)⟩
theorem ck_RX6_79_18 : COK2 RX6 vwCl gTbl 79 0 con_18 := ⟨wd_613, wd_127, mh_X6_takeWord, .inr (.inr ⟨rfl, wd_610, wd_612, wd_1, ⟨_, rfl, pd_X6_takeWord⟩, 6, _, TX6, 4, rfl, rfl⟩)⟩
noncomputable def ct_21 : CTB2 := [(2, 79, 0, con_18, [0, 1, 2]), (9, 116, 0, con_20, [0, 1, 2])]
noncomputable def cu_21 : List CUT2 := []
theorem ch_21 : staG tb_X6_takeNamed 1 bt_RX6 [] ct_21 [] [] cu_21 11 con_21 = true := by decide +kernel
theorem cto_21 (l : Launch) : CTOK2 l RX6 vwCl gTbl ct_21 := ct2_cons (vl_18 l) ck_RX6_79_18 (ct2_cons (vl_20 l) ck_RX6_116_20 (ct2_nil))
theorem vl_21 (l : Launch) : Vld2 l vwCl gTbl con_21 := conR_ok3 gT_all (hd_21) rfl pn_RX6 tk_X6_takeNamed bo_RX6 xo_RX6 (cto_21 l) ch_21 cut_nil
/-- RookHusting$Tape isAtWord -/
noncomputable def gi_40 : GI := jl_n [jl_z 5, jl_i 0 697, gp_8]
noncomputable def con_22 : Con2 := ((yX10_isAtWord, cX10_isAtWord, 3, (some .boolean)), (8, 200), ([(6, 0, 0), (13, 7, 0)], gi_26, [ac_25, am_2], []), [((0, 0, 0), gi_27, hq_9, [], [1]), ((0, 1, 0), gi_40, hq_9, [], [1])])
theorem hd_22 : con_22.1 = (yX10_isAtWord, cX10_isAtWord, 3, (some .boolean)) := rfl
noncomputable def gi_41 : GI := jl_n [jl_z 5, jl_i 0 697, gp_3, gp_28]
noncomputable def cu_22 : List CUT2 := [((27, [lq 0 6 0, lq 1 13 7, lq 2 1 10], [], gi_41, hq_9), [], ([(10, (-1))], 3))]
theorem ch_22 : staG tb_X10_isAtWord 1 bt_RX10 [] ct_0 [(25, [(0, (2, 0, 3), 0, 697)])] [15] cu_22 20 con_22 = true := by decide +kernel
theorem cc_22 : cu_22.all (cutG tb_X10_isAtWord 1 bt_RX10 [] ct_0 [(25, [(0, (2, 0, 3), 0, 697)])] [15] cu_22 20 con_22) = true := by decide +kernel
theorem vl_22 (l : Launch) : Vld2 l vwCl gTbl con_22 := conR_ok3 gT_all (hd_22) rfl pn_RX10 tk_X10_isAtWord bo_RX10 xo_RX10 (cto_0 l) ch_22 (cut_all cc_22)
/-- RookHusting$Reader takeWord -/
noncomputable def con_23 : Con2 := ((yX6_takeWord, cX6_takeWord, 2, none), (9, 222), ([(6, 0, 0), (13, 7, 0)], gi_32, hc_4, []), [((9, 0, 0), gi_33, hq_11, [], tg_4)])
theorem hd_23 : con_23.1 = (yX6_takeWord, cX6_takeWord, 2, none) := rfl
theorem ck_RX6_48_22 : COK2 RX6 vwCl gTbl 48 0 con_22 := ⟨wd_617, wd_126, mh_X10_isAtWord, .inr (.inr ⟨rfl, wd_614, wd_615, wd_616, ⟨_, rfl, pd_X10_isAtWord⟩, 10, _, TX10, 6, rfl, rfl⟩)⟩
noncomputable def ct_23 : CTB2 := [(13, 48, 0, con_22, [1, 2]), (21, 70, 0, con_15, [0, 1]), (29, 102, 0, con_10, [1, 2])]
noncomputable def cu_23 : List CUT2 := []
theorem ch_23 : staG tb_X6_takeWord 1 bt_RX6 [] ct_23 [] [] cu_23 14 con_23 = true := by decide +kernel
theorem cto_23 (l : Launch) : CTOK2 l RX6 vwCl gTbl ct_23 := ct2_cons (vl_22 l) ck_RX6_48_22 (ct2_cons (vl_15 l) ck_RX6_70_15 (ct2_cons (vl_10 l) ck_RX6_102_10 (ct2_nil)))
theorem vl_23 (l : Launch) : Vld2 l vwCl gTbl con_23 := conR_ok3 gT_all (hd_23) rfl pn_RX6 tk_X6_takeWord bo_RX6 xo_RX6 (cto_23 l) ch_23 cut_nil
/-- RookHusting$Reader takeNumber -/
noncomputable def gi_42 : GI := jl_n [gp_41, jl_i 0 3, gp_42]
noncomputable def con_24 : Con2 := ((yX6_takeNumber, cX6_takeNumber, 5, (some .int)), (2, 40), ([(6, 0, 0), (0, 0, 0), (0, 3, 0), (0, 0, 0)], gi_36, hc_5, []), [((0, 0, 0), gi_37, hq_13, [], [1, 1, 1, 1, 1]), ((1, 12, 0), gi_42, hq_14, [], tg_0)])
theorem hd_24 : con_24.1 = (yX6_takeNumber, cX6_takeNumber, 5, (some .int)) := rfl
noncomputable def cu_24 : List CUT2 := []
theorem ch_24 : staG tb_X6_takeNumber 1 bt_RX6 [] ct_20 [(52, [(1, (1, 4, 0), 0, 0)])] [] cu_24 27 con_24 = true := by decide +kernel
theorem vl_24 (l : Launch) : Vld2 l vwCl gTbl con_24 := conR_ok3 gT_all (hd_24) rfl pn_RX6 tk_X6_takeNumber bo_RX6 xo_RX6 (cto_20 l) ch_24 cut_nil
/-- RookHusting$Reader takeNamed -/
noncomputable def gi_43 : GI := jl_n [gp_34, jl_i 0 3, gp_33]
noncomputable def con_25 : Con2 := ((yX6_takeNamed, cX6_takeNamed, 4, (some .int)), (10, 243), ([(6, 0, 0), (13, 7, 0), (0, 0, 0), (0, 3, 0)], gi_36, hc_5, []), [((1, 14, 0), gi_43, hq_15, [], tg_5)])
theorem hd_25 : con_25.1 = (yX6_takeNamed, cX6_takeNamed, 4, (some .int)) := rfl
theorem ck_RX6_116_24 : COK2 RX6 vwCl gTbl 116 0 con_24 := ⟨wd_679, wd_127, mh_X6_takeNumber, .inr (.inr ⟨rfl, wd_676, wd_678, wd_4, ⟨_, rfl, pd_X6_takeNumber⟩, 6, _, TX6, 4, rfl, rfl⟩)⟩
theorem ck_RX6_79_23 : COK2 RX6 vwCl gTbl 79 0 con_23 := ⟨wd_613, wd_127, mh_X6_takeWord, .inr (.inr ⟨rfl, wd_610, wd_612, wd_1, ⟨_, rfl, pd_X6_takeWord⟩, 6, _, TX6, 4, rfl, rfl⟩)⟩
noncomputable def ct_25 : CTB2 := [(2, 79, 0, con_23, [0, 1, 2]), (9, 116, 0, con_24, [0, 1, 2])]
noncomputable def cu_25 : List CUT2 := []
theorem ch_25 : staG tb_X6_takeNamed 1 bt_RX6 [] ct_25 [] [] cu_25 11 con_25 = true := by decide +kernel
theorem cto_25 (l : Launch) : CTOK2 l RX6 vwCl gTbl ct_25 := ct2_cons (vl_23 l) ck_RX6_79_23 (ct2_cons (vl_24 l) ck_RX6_116_24 (ct2_nil))
theorem vl_25 (l : Launch) : Vld2 l vwCl gTbl con_25 := conR_ok3 gT_all (hd_25) rfl pn_RX6 tk_X6_takeNamed bo_RX6 xo_RX6 (cto_25 l) ch_25 cut_nil
/-- RookHusting$Tape isAtWord -/
noncomputable def con_26 : Con2 := ((yX10_isAtWord, cX10_isAtWord, 3, (some .boolean)), (8, 200), ([(6, 0, 0), (13, 9, 0)], gi_26, [ac_25, am_2], []), [((0, 0, 0), gi_27, hq_9, [], [1]), ((0, 1, 0), gi_34, hq_9, [], [1])])
theorem hd_26 : con_26.1 = (yX10_isAtWord, cX10_isAtWord, 3, (some .boolean)) := rfl
noncomputable def cu_26 : List CUT2 := [((27, [lq 0 6 0, lq 1 13 9, lq 2 1 10], [], gi_35, hq_9), [], ([(10, (-1))], 4))]
theorem ch_26 : staG tb_X10_isAtWord 1 bt_RX10 [] ct_0 [(25, [(0, (2, 0, 3), 0, 696)])] [15] cu_26 20 con_26 = true := by decide +kernel
theorem cc_26 : cu_26.all (cutG tb_X10_isAtWord 1 bt_RX10 [] ct_0 [(25, [(0, (2, 0, 3), 0, 696)])] [15] cu_26 20 con_26) = true := by decide +kernel
theorem vl_26 (l : Launch) : Vld2 l vwCl gTbl con_26 := conR_ok3 gT_all (hd_26) rfl pn_RX10 tk_X10_isAtWord bo_RX10 xo_RX10 (cto_0 l) ch_26 (cut_all cc_26)
/-- RookHusting$Reader takeWord -/
noncomputable def con_27 : Con2 := ((yX6_takeWord, cX6_takeWord, 2, none), (9, 222), ([(6, 0, 0), (13, 9, 0)], gi_32, hc_4, []), [((9, 0, 0), gi_33, hq_11, [], tg_4)])
theorem hd_27 : con_27.1 = (yX6_takeWord, cX6_takeWord, 2, none) := rfl
theorem ck_RX6_48_26 : COK2 RX6 vwCl gTbl 48 0 con_26 := ⟨wd_617, wd_126, mh_X10_isAtWord, .inr (.inr ⟨rfl, wd_614, wd_615, wd_616, ⟨_, rfl, pd_X10_isAtWord⟩, 10, _, TX10, 6, rfl, rfl⟩)⟩
noncomputable def ct_27 : CTB2 := [(13, 48, 0, con_26, [1, 2]), (21, 70, 0, con_15, [0, 1]), (29, 102, 0, con_10, [1, 2])]
noncomputable def cu_27 : List CUT2 := []
theorem ch_27 : staG tb_X6_takeWord 1 bt_RX6 [] ct_27 [] [] cu_27 14 con_27 = true := by decide +kernel
theorem cto_27 (l : Launch) : CTOK2 l RX6 vwCl gTbl ct_27 := ct2_cons (vl_26 l) ck_RX6_48_26 (ct2_cons (vl_15 l) ck_RX6_70_15 (ct2_cons (vl_10 l) ck_RX6_102_10 (ct2_nil)))
theorem vl_27 (l : Launch) : Vld2 l vwCl gTbl con_27 := conR_ok3 gT_all (hd_27) rfl pn_RX6 tk_X6_takeWord bo_RX6 xo_RX6 (cto_27 l) ch_27 cut_nil
/-- RookHusting$Reader takeNumber -/
noncomputable def gi_44 : GI := jl_n [gp_41, jl_i 0 10, gp_42]
noncomputable def con_28 : Con2 := ((yX6_takeNumber, cX6_takeNumber, 5, (some .int)), (2, 40), ([(6, 0, 0), (0, 0, 0), (0, 10, 0), (0, 0, 0)], gi_36, hc_5, []), [((0, 0, 0), gi_37, hq_13, [], [1, 1, 1, 1, 1]), ((1, 12, 0), gi_44, hq_14, [], tg_0)])
theorem hd_28 : con_28.1 = (yX6_takeNumber, cX6_takeNumber, 5, (some .int)) := rfl
noncomputable def cu_28 : List CUT2 := []
theorem ch_28 : staG tb_X6_takeNumber 1 bt_RX6 [] ct_20 [(52, [(1, (1, 4, 0), 0, 0)])] [] cu_28 27 con_28 = true := by decide +kernel
theorem vl_28 (l : Launch) : Vld2 l vwCl gTbl con_28 := conR_ok3 gT_all (hd_28) rfl pn_RX6 tk_X6_takeNumber bo_RX6 xo_RX6 (cto_20 l) ch_28 cut_nil
/-- RookHusting$Reader takeNamed -/
noncomputable def gi_45 : GI := jl_n [gp_34, jl_i 0 10, gp_33]
noncomputable def con_29 : Con2 := ((yX6_takeNamed, cX6_takeNamed, 4, (some .int)), (10, 243), ([(6, 0, 0), (13, 9, 0), (0, 0, 0), (0, 10, 0)], gi_36, hc_5, []), [((1, 14, 0), gi_45, hq_15, [], tg_5)])
theorem hd_29 : con_29.1 = (yX6_takeNamed, cX6_takeNamed, 4, (some .int)) := rfl
theorem ck_RX6_116_28 : COK2 RX6 vwCl gTbl 116 0 con_28 := ⟨wd_679, wd_127, mh_X6_takeNumber, .inr (.inr ⟨rfl, wd_676, wd_678, wd_4, ⟨_, rfl, pd_X6_takeNumber⟩, 6, _, TX6, 4, rfl, rfl⟩)⟩
theorem ck_RX6_79_27 : COK2 RX6 vwCl gTbl 79 0 con_27 := ⟨wd_613, wd_127, mh_X6_takeWord, .inr (.inr ⟨rfl, wd_610, wd_612, wd_1, ⟨_, rfl, pd_X6_takeWord⟩, 6, _, TX6, 4, rfl, rfl⟩)⟩
noncomputable def ct_29 : CTB2 := [(2, 79, 0, con_27, [0, 1, 2]), (9, 116, 0, con_28, [0, 1, 2])]
noncomputable def cu_29 : List CUT2 := []
theorem ch_29 : staG tb_X6_takeNamed 1 bt_RX6 [] ct_29 [] [] cu_29 11 con_29 = true := by decide +kernel
theorem cto_29 (l : Launch) : CTOK2 l RX6 vwCl gTbl ct_29 := ct2_cons (vl_27 l) ck_RX6_79_27 (ct2_cons (vl_28 l) ck_RX6_116_28 (ct2_nil))
theorem vl_29 (l : Launch) : Vld2 l vwCl gTbl con_29 := conR_ok3 gT_all (hd_29) rfl pn_RX6 tk_X6_takeNamed bo_RX6 xo_RX6 (cto_29 l) ch_29 cut_nil
/-- RookHusting$Reader readHead -/
noncomputable def gi_46 : GI := jl_n [gp_43, jl_z 1, gp_11, jl_z 13]
noncomputable def ac_32 : AC := .inl (10, jl_n [jl_6 3 1, jl_1 11 5])
noncomputable def ac_33 : AC := .inl (4, jl_n [jl_8 12 1, jl_1 15 3, jl_8 28 13])
noncomputable def hc_6 : List AC := [.inl (6, [(6, 3, 0), (1, 2, 0), (1, 3, 0), (6, 1, 0)]), ac_32, am_2, ac_33]
noncomputable def gi_47 : GI := jl_n [gp_43, jl_z 1, gp_11, jl_z 14, gp_24, gp_32, jl_z 1, gp_11, jl_z 13]
noncomputable def ac_34 : AC := .inl (10, jl_n [jl_6 3 1, jl_1 7 1, jl_1 38 4])
noncomputable def ac_35 : AC := .inl (4, jl_n [jl_8 12 1, jl_1 42 3, jl_8 28 13])
noncomputable def hq_16 : HP := [(true, .inl (6, [(6, 3, 0), (1, 29, 0), (1, 30, 0), (6, 1, 0)])), (true, ac_34), (false, am_2), (true, ac_35)]
noncomputable def con_30 : Con2 := ((yX6_readHead, cX6_readHead, 1, none), (11, 266), ([(6, 0, 0)], gi_46, hc_6, []), [((9, 0, 0), gi_47, hq_16, [], tg_3)])
theorem hd_30 : con_30.1 = (yX6_readHead, cX6_readHead, 1, none) := rfl
theorem ck_RX6_85_29 : COK2 RX6 vwCl gTbl 85 0 con_29 := ⟨wd_675, wd_127, mh_X6_takeNamed, .inr (.inr ⟨rfl, wd_672, wd_674, wd_3, ⟨_, rfl, pd_X6_takeNamed⟩, 6, _, TX6, 4, rfl, rfl⟩)⟩
theorem ck_RX6_85_25 : COK2 RX6 vwCl gTbl 85 0 con_25 := ⟨wd_675, wd_127, mh_X6_takeNamed, .inr (.inr ⟨rfl, wd_672, wd_674, wd_3, ⟨_, rfl, pd_X6_takeNamed⟩, 6, _, TX6, 4, rfl, rfl⟩)⟩
theorem ck_RX6_85_21 : COK2 RX6 vwCl gTbl 85 0 con_21 := ⟨wd_675, wd_127, mh_X6_takeNamed, .inr (.inr ⟨rfl, wd_672, wd_674, wd_3, ⟨_, rfl, pd_X6_takeNamed⟩, 6, _, TX6, 4, rfl, rfl⟩)⟩
theorem ck_RX6_79_16 : COK2 RX6 vwCl gTbl 79 0 con_16 := ⟨wd_613, wd_127, mh_X6_takeWord, .inr (.inr ⟨rfl, wd_610, wd_612, wd_1, ⟨_, rfl, pd_X6_takeWord⟩, 6, _, TX6, 4, rfl, rfl⟩)⟩
noncomputable def ct_30 : CTB2 := [(3, 79, 0, con_16, [0, 1, 2]), (16, 85, 0, con_21, [0, 1, 2]), (31, 85, 0, con_25, [0, 1, 2]), (47, 85, 0, con_29, [0, 1, 2])]
noncomputable def cu_30 : List CUT2 := []
theorem ch_30 : staG tb_X6_readHead 1 bt_RX6 [] ct_30 [] [] cu_30 30 con_30 = true := by decide +kernel
theorem cto_30 (l : Launch) : CTOK2 l RX6 vwCl gTbl ct_30 := ct2_cons (vl_16 l) ck_RX6_79_16 (ct2_cons (vl_21 l) ck_RX6_85_21 (ct2_cons (vl_25 l) ck_RX6_85_25 (ct2_cons (vl_29 l) ck_RX6_85_29 (ct2_nil))))
theorem vl_30 (l : Launch) : Vld2 l vwCl gTbl con_30 := conR_ok3 gT_all (hd_30) rfl pn_RX6 tk_X6_readHead bo_RX6 xo_RX6 (cto_30 l) ch_30 cut_nil
/-- RookHusting$Reader takeSign -/
noncomputable def gi_48 : GI := jl_n [gp_43, jl_t, jl_z 16]
noncomputable def ac_36 : AC := .inl (4, jl_n [jl_1 12 1, jl_8 28 16])
noncomputable def hc_7 : List AC := [.inl (6, [(6, 3, 0), (1, 2, 0), (1, 3, 0), (6, 1, 0)]), ac_32, am_2, ac_36]
noncomputable def gi_49 : GI := jl_n [gp_43, jl_t, jl_z 17, gp_24, gp_32, jl_t, jl_z 16]
noncomputable def ac_37 : AC := .inl (4, jl_n [jl_1 39 1, jl_8 28 16])
noncomputable def hq_17 : HP := [(true, .inl (6, [(6, 3, 0), (1, 29, 0), (1, 30, 0), (6, 1, 0)])), (true, ac_34), (false, am_2), (true, ac_37)]
noncomputable def con_31 : Con2 := ((yX6_takeSign, cX6_takeSign, 1, none), (2, 40), ([(6, 0, 0)], gi_48, hc_7, []), [((9, 0, 0), gi_49, hq_17, [], tg_3)])
theorem hd_31 : con_31.1 = (yX6_takeSign, cX6_takeSign, 1, none) := rfl
noncomputable def ct_31 : CTB2 := [(21, 70, 0, con_15, [0, 1]), (29, 102, 0, con_10, [1, 2])]
noncomputable def cu_31 : List CUT2 := []
theorem ch_31 : staG tb_X6_takeSign 1 bt_RX6 [] ct_31 [] [] cu_31 21 con_31 = true := by decide +kernel
theorem cto_31 (l : Launch) : CTOK2 l RX6 vwCl gTbl ct_31 := ct2_cons (vl_15 l) ck_RX6_70_15 (ct2_cons (vl_10 l) ck_RX6_102_10 (ct2_nil))
theorem vl_31 (l : Launch) : Vld2 l vwCl gTbl con_31 := conR_ok3 gT_all (hd_31) rfl pn_RX6 tk_X6_takeSign bo_RX6 xo_RX6 (cto_31 l) ch_31 cut_nil
/-- RookHusting$Tape isAtWord -/
noncomputable def gi_50 : GI := jl_n [jl_z 5, jl_i 0 695, gp_8]
noncomputable def con_32 : Con2 := ((yX10_isAtWord, cX10_isAtWord, 3, (some .boolean)), (8, 200), ([(6, 0, 0), (13, 2, 0)], gi_26, [ac_25, am_2], []), [((0, 0, 0), gi_27, hq_9, [], [1]), ((0, 1, 0), gi_50, hq_9, [], [1])])
theorem hd_32 : con_32.1 = (yX10_isAtWord, cX10_isAtWord, 3, (some .boolean)) := rfl
noncomputable def gi_51 : GI := jl_n [jl_z 5, jl_i 0 695, gp_3, jl_z 2, jl_i 0 5]
noncomputable def cu_32 : List CUT2 := [((27, [lq 0 6 0, lq 1 13 2, lq 2 1 10], [], gi_51, hq_9), [], ([(10, (-1))], 5))]
theorem ch_32 : staG tb_X10_isAtWord 1 bt_RX10 [] ct_0 [(25, [(0, (2, 0, 3), 0, 695)])] [15] cu_32 20 con_32 = true := by decide +kernel
theorem cc_32 : cu_32.all (cutG tb_X10_isAtWord 1 bt_RX10 [] ct_0 [(25, [(0, (2, 0, 3), 0, 695)])] [15] cu_32 20 con_32) = true := by decide +kernel
theorem vl_32 (l : Launch) : Vld2 l vwCl gTbl con_32 := conR_ok3 gT_all (hd_32) rfl pn_RX10 tk_X10_isAtWord bo_RX10 xo_RX10 (cto_0 l) ch_32 (cut_all cc_32)
/-- RookHusting$Reader blame -/
noncomputable def hq_18 : HP := [(true, .inl (6, [(8, 2, 0), (0, 3, 0), (1, 9, 0), (6, 1, 0)])), (false, ac_26)]
noncomputable def con_33 : Con2 := ((yX6_blame, cX6_blame, 2, none), (0, 0), ([(6, 0, 0), (0, 3, 0)], gi_30, hc_3, []), [((9, 0, 0), gi_31, hq_18, [], [1, 1, 1, 1])])
theorem hd_33 : con_33.1 = (yX6_blame, cX6_blame, 2, none) := rfl
noncomputable def cu_33 : List CUT2 := []
theorem ch_33 : staG tb_X6_blame 1 bt_RX6 [] ct_13 [] [] cu_33 11 con_33 = true := by decide +kernel
theorem vl_33 (l : Launch) : Vld2 l vwCl gTbl con_33 := conR_ok3 gT_all (hd_33) rfl pn_RX6 tk_X6_blame bo_RX6 xo_RX6 (cto_13 l) ch_33 cut_nil
/-- RookHusting$Tape isAtWord -/
noncomputable def con_34 : Con2 := ((yX10_isAtWord, cX10_isAtWord, 3, (some .boolean)), (8, 200), ([(6, 0, 0), (13, 0, 0)], gi_26, [ac_25, am_2], []), [((0, 0, 0), gi_27, hq_9, [], [1]), ((0, 1, 0), gi_34, hq_9, [], [1])])
theorem hd_34 : con_34.1 = (yX10_isAtWord, cX10_isAtWord, 3, (some .boolean)) := rfl
noncomputable def cu_34 : List CUT2 := [((27, [lq 0 6 0, lq 1 13 0, lq 2 1 10], [], gi_35, hq_9), [], ([(10, (-1))], 4))]
theorem ch_34 : staG tb_X10_isAtWord 1 bt_RX10 [] ct_0 [(25, [(0, (2, 0, 3), 0, 696)])] [15] cu_34 20 con_34 = true := by decide +kernel
theorem cc_34 : cu_34.all (cutG tb_X10_isAtWord 1 bt_RX10 [] ct_0 [(25, [(0, (2, 0, 3), 0, 696)])] [15] cu_34 20 con_34) = true := by decide +kernel
theorem vl_34 (l : Launch) : Vld2 l vwCl gTbl con_34 := conR_ok3 gT_all (hd_34) rfl pn_RX10 tk_X10_isAtWord bo_RX10 xo_RX10 (cto_0 l) ch_34 (cut_all cc_34)
/-- RookHusting$Reader takeWord -/
noncomputable def con_35 : Con2 := ((yX6_takeWord, cX6_takeWord, 2, none), (9, 222), ([(6, 0, 0), (13, 0, 0)], gi_32, hc_4, []), [((9, 0, 0), gi_33, hq_11, [], tg_4)])
theorem hd_35 : con_35.1 = (yX6_takeWord, cX6_takeWord, 2, none) := rfl
theorem ck_RX6_48_34 : COK2 RX6 vwCl gTbl 48 0 con_34 := ⟨wd_617, wd_126, mh_X10_isAtWord, .inr (.inr ⟨rfl, wd_614, wd_615, wd_616, ⟨_, rfl, pd_X10_isAtWord⟩, 10, _, TX10, 6, rfl, rfl⟩)⟩
noncomputable def ct_35 : CTB2 := [(13, 48, 0, con_34, [1, 2]), (21, 70, 0, con_15, [0, 1]), (29, 102, 0, con_10, [1, 2])]
noncomputable def cu_35 : List CUT2 := []
theorem ch_35 : staG tb_X6_takeWord 1 bt_RX6 [] ct_35 [] [] cu_35 14 con_35 = true := by decide +kernel
theorem cto_35 (l : Launch) : CTOK2 l RX6 vwCl gTbl ct_35 := ct2_cons (vl_34 l) ck_RX6_48_34 (ct2_cons (vl_15 l) ck_RX6_70_15 (ct2_cons (vl_10 l) ck_RX6_102_10 (ct2_nil)))
theorem vl_35 (l : Launch) : Vld2 l vwCl gTbl con_35 := conR_ok3 gT_all (hd_35) rfl pn_RX6 tk_X6_takeWord bo_RX6 xo_RX6 (cto_35 l) ch_35 cut_nil
/-- RookHusting$Reader takeNumber -/
noncomputable def gi_52 : GI := jl_n [gp_41, jl_i 0 300, gp_42]
noncomputable def con_36 : Con2 := ((yX6_takeNumber, cX6_takeNumber, 5, (some .int)), (2, 40), ([(6, 0, 0), (0, 0, 0), (0, 300, 0), (0, 0, 0)], gi_36, hc_5, []), [((0, 0, 0), gi_37, hq_13, [], [1, 1, 1, 1, 1]), ((1, 12, 0), gi_52, hq_14, [], tg_0)])
theorem hd_36 : con_36.1 = (yX6_takeNumber, cX6_takeNumber, 5, (some .int)) := rfl
noncomputable def cu_36 : List CUT2 := []
theorem ch_36 : staG tb_X6_takeNumber 1 bt_RX6 [] ct_20 [(52, [(1, (1, 4, 0), 0, 0)])] [] cu_36 27 con_36 = true := by decide +kernel
theorem vl_36 (l : Launch) : Vld2 l vwCl gTbl con_36 := conR_ok3 gT_all (hd_36) rfl pn_RX6 tk_X6_takeNumber bo_RX6 xo_RX6 (cto_20 l) ch_36 cut_nil
/-- RookHusting$Reader takeNamed -/
noncomputable def gi_53 : GI := jl_n [gp_34, jl_i 0 300, gp_33]
noncomputable def con_37 : Con2 := ((yX6_takeNamed, cX6_takeNamed, 4, (some .int)), (10, 243), ([(6, 0, 0), (13, 0, 0), (0, 0, 0), (0, 300, 0)], gi_36, hc_5, []), [((1, 14, 0), gi_53, hq_15, [], tg_5)])
theorem hd_37 : con_37.1 = (yX6_takeNamed, cX6_takeNamed, 4, (some .int)) := rfl
theorem ck_RX6_116_36 : COK2 RX6 vwCl gTbl 116 0 con_36 := ⟨wd_679, wd_127, mh_X6_takeNumber, .inr (.inr ⟨rfl, wd_676, wd_678, wd_4, ⟨_, rfl, pd_X6_takeNumber⟩, 6, _, TX6, 4, rfl, rfl⟩)⟩
theorem ck_RX6_79_35 : COK2 RX6 vwCl gTbl 79 0 con_35 := ⟨wd_613, wd_127, mh_X6_takeWord, .inr (.inr ⟨rfl, wd_610, wd_612, wd_1, ⟨_, rfl, pd_X6_takeWord⟩, 6, _, TX6, 4, rfl, rfl⟩)⟩
noncomputable def ct_37 : CTB2 := [(2, 79, 0, con_35, [0, 1, 2]), (9, 116, 0, con_36, [0, 1, 2])]
noncomputable def cu_37 : List CUT2 := []
theorem ch_37 : staG tb_X6_takeNamed 1 bt_RX6 [] ct_37 [] [] cu_37 11 con_37 = true := by decide +kernel
theorem cto_37 (l : Launch) : CTOK2 l RX6 vwCl gTbl ct_37 := ct2_cons (vl_35 l) ck_RX6_79_35 (ct2_cons (vl_36 l) ck_RX6_116_36 (ct2_nil))
theorem vl_37 (l : Launch) : Vld2 l vwCl gTbl con_37 := conR_ok3 gT_all (hd_37) rfl pn_RX6 tk_X6_takeNamed bo_RX6 xo_RX6 (cto_37 l) ch_37 cut_nil
/-- RookHusting$Tape isAtWord -/
noncomputable def con_38 : Con2 := ((yX10_isAtWord, cX10_isAtWord, 3, (some .boolean)), (8, 200), ([(6, 0, 0), (13, 10, 0)], gi_26, [ac_25, am_2], []), [((0, 0, 0), gi_27, hq_9, [], [1]), ((0, 1, 0), gi_50, hq_9, [], [1])])
theorem hd_38 : con_38.1 = (yX10_isAtWord, cX10_isAtWord, 3, (some .boolean)) := rfl
noncomputable def cu_38 : List CUT2 := [((27, [lq 0 6 0, lq 1 13 10, lq 2 1 10], [], gi_51, hq_9), [], ([(10, (-1))], 5))]
theorem ch_38 : staG tb_X10_isAtWord 1 bt_RX10 [] ct_0 [(25, [(0, (2, 0, 3), 0, 695)])] [15] cu_38 20 con_38 = true := by decide +kernel
theorem cc_38 : cu_38.all (cutG tb_X10_isAtWord 1 bt_RX10 [] ct_0 [(25, [(0, (2, 0, 3), 0, 695)])] [15] cu_38 20 con_38) = true := by decide +kernel
theorem vl_38 (l : Launch) : Vld2 l vwCl gTbl con_38 := conR_ok3 gT_all (hd_38) rfl pn_RX10 tk_X10_isAtWord bo_RX10 xo_RX10 (cto_0 l) ch_38 (cut_all cc_38)
/-- RookHusting$Reader takeWord -/
noncomputable def con_39 : Con2 := ((yX6_takeWord, cX6_takeWord, 2, none), (9, 222), ([(6, 0, 0), (13, 10, 0)], gi_32, hc_4, []), [((9, 0, 0), gi_33, hq_11, [], tg_4)])
theorem hd_39 : con_39.1 = (yX6_takeWord, cX6_takeWord, 2, none) := rfl
theorem ck_RX6_48_38 : COK2 RX6 vwCl gTbl 48 0 con_38 := ⟨wd_617, wd_126, mh_X10_isAtWord, .inr (.inr ⟨rfl, wd_614, wd_615, wd_616, ⟨_, rfl, pd_X10_isAtWord⟩, 10, _, TX10, 6, rfl, rfl⟩)⟩
noncomputable def ct_39 : CTB2 := [(13, 48, 0, con_38, [1, 2]), (21, 70, 0, con_15, [0, 1]), (29, 102, 0, con_10, [1, 2])]
noncomputable def cu_39 : List CUT2 := []
theorem ch_39 : staG tb_X6_takeWord 1 bt_RX6 [] ct_39 [] [] cu_39 14 con_39 = true := by decide +kernel
theorem cto_39 (l : Launch) : CTOK2 l RX6 vwCl gTbl ct_39 := ct2_cons (vl_38 l) ck_RX6_48_38 (ct2_cons (vl_15 l) ck_RX6_70_15 (ct2_cons (vl_10 l) ck_RX6_102_10 (ct2_nil)))
theorem vl_39 (l : Launch) : Vld2 l vwCl gTbl con_39 := conR_ok3 gT_all (hd_39) rfl pn_RX6 tk_X6_takeWord bo_RX6 xo_RX6 (cto_39 l) ch_39 cut_nil
/-- RookHusting$Reader takeNumber -/
noncomputable def gi_54 : GI := jl_n [gp_41, jl_i 0 40, gp_42]
noncomputable def con_40 : Con2 := ((yX6_takeNumber, cX6_takeNumber, 5, (some .int)), (2, 40), ([(6, 0, 0), (0, 0, 0), (0, 40, 0), (0, 0, 0)], gi_36, hc_5, []), [((0, 0, 0), gi_37, hq_13, [], [1, 1, 1, 1, 1]), ((1, 12, 0), gi_54, hq_14, [], tg_0)])
theorem hd_40 : con_40.1 = (yX6_takeNumber, cX6_takeNumber, 5, (some .int)) := rfl
noncomputable def cu_40 : List CUT2 := []
theorem ch_40 : staG tb_X6_takeNumber 1 bt_RX6 [] ct_20 [(52, [(1, (1, 4, 0), 0, 0)])] [] cu_40 27 con_40 = true := by decide +kernel
theorem vl_40 (l : Launch) : Vld2 l vwCl gTbl con_40 := conR_ok3 gT_all (hd_40) rfl pn_RX6 tk_X6_takeNumber bo_RX6 xo_RX6 (cto_20 l) ch_40 cut_nil
/-- RookHusting$Reader takeNamed -/
noncomputable def gi_55 : GI := jl_n [gp_34, jl_i 0 40, gp_33]
noncomputable def con_41 : Con2 := ((yX6_takeNamed, cX6_takeNamed, 4, (some .int)), (10, 243), ([(6, 0, 0), (13, 10, 0), (0, 0, 0), (0, 40, 0)], gi_36, hc_5, []), [((1, 14, 0), gi_55, hq_15, [], tg_5)])
theorem hd_41 : con_41.1 = (yX6_takeNamed, cX6_takeNamed, 4, (some .int)) := rfl
theorem ck_RX6_116_40 : COK2 RX6 vwCl gTbl 116 0 con_40 := ⟨wd_679, wd_127, mh_X6_takeNumber, .inr (.inr ⟨rfl, wd_676, wd_678, wd_4, ⟨_, rfl, pd_X6_takeNumber⟩, 6, _, TX6, 4, rfl, rfl⟩)⟩
theorem ck_RX6_79_39 : COK2 RX6 vwCl gTbl 79 0 con_39 := ⟨wd_613, wd_127, mh_X6_takeWord, .inr (.inr ⟨rfl, wd_610, wd_612, wd_1, ⟨_, rfl, pd_X6_takeWord⟩, 6, _, TX6, 4, rfl, rfl⟩)⟩
noncomputable def ct_41 : CTB2 := [(2, 79, 0, con_39, [0, 1, 2]), (9, 116, 0, con_40, [0, 1, 2])]
noncomputable def cu_41 : List CUT2 := []
theorem ch_41 : staG tb_X6_takeNamed 1 bt_RX6 [] ct_41 [] [] cu_41 11 con_41 = true := by decide +kernel
theorem cto_41 (l : Launch) : CTOK2 l RX6 vwCl gTbl ct_41 := ct2_cons (vl_39 l) ck_RX6_79_39 (ct2_cons (vl_40 l) ck_RX6_116_40 (ct2_nil))
theorem vl_41 (l : Launch) : Vld2 l vwCl gTbl con_41 := conR_ok3 gT_all (hd_41) rfl pn_RX6 tk_X6_takeNamed bo_RX6 xo_RX6 (cto_41 l) ch_41 cut_nil
/-- RookHusting$Hundred addField -/
noncomputable def gi_56 : GI := jl_n [jl_z 1, jl_i 0 300, jl_i 0 40, gp_29, jl_z 12]
noncomputable def ac_38 : AC := .inl (4, jl_n [jl_8 7 4, jl_1 8 1, jl_8 11 3, jl_6 4 3, jl_8 20 6])
noncomputable def hc_8 : List AC := [ac_38, am_11, am_4, am_1]
noncomputable def gi_57 : GI := jl_n [jl_z 1, jl_i 0 300, jl_i 0 40, gp_29, jl_z 29]
noncomputable def ac_39 : AC := .inl (4, jl_n [jl_8 7 4, jl_x (1, 7, 1), jl_8 11 3, jl_6 4 3, jl_8 20 6])
noncomputable def hq_19 : HP := [(true, ac_39), (true, am_11), (true, am_4), (true, am_1)]
noncomputable def con_42 : Con2 := ((yX4_addField, cX4_addField, 3, none), (0, 0), ([(6, 0, 0), (1, 1, 0), (1, 2, 0)], gi_56, hc_8, []), [((9, 0, 0), gi_57, hq_19, [], tg_2)])
theorem hd_42 : con_42.1 = (yX4_addField, cX4_addField, 3, none) := rfl
noncomputable def cu_42 : List CUT2 := []
theorem ch_42 : staG tb_X4_addField 1 bt_RX4 [] ct_6 [] [] cu_42 27 con_42 = true := by decide +kernel
theorem vl_42 (l : Launch) : Vld2 l vwCl gTbl con_42 := conR_ok3 gT_all (hd_42) rfl pn_RX4 tk_X4_addField bo_RX4 xo_RX4 (cto_6 l) ch_42 cut_nil
/-- RookHusting$Reader readField -/
noncomputable def gi_58 : GI := jl_n [gp_44, jl_i 0 5, jl_z 13, gp_21]
noncomputable def ac_40 : AC := .inl (4, jl_n [jl_8 9 4, jl_1 10 1, jl_8 13 3, jl_6 7 3, jl_8 22 6])
noncomputable def hc_9 : List AC := [.inl (6, [(6, 1, 0), (1, 2, 0), (1, 3, 0), (6, 2, 0)]), ac_40, ac_21, am_2, am_11, am_4, am_1]
noncomputable def gi_59 : GI := jl_n [gp_44, jl_i 0 5, jl_z 13, gp_21, gp_31, jl_z 5, jl_i 0 5, jl_z 14, gp_20]
noncomputable def ac_41 : AC := .inl (4, jl_n [jl_8 9 4, jl_1 37 1, jl_8 13 3, jl_6 7 3, jl_8 22 6])
noncomputable def hq_20 : HP := [(true, .inl (6, [(6, 1, 0), (1, 29, 0), (1, 30, 0), (6, 2, 0)])), (true, ac_41), (true, ac_23), (false, am_2), (true, am_11), (true, am_4), (true, am_1)]
noncomputable def con_43 : Con2 := ((yX6_readField, cX6_readField, 3, none), (11, 266), ([(6, 0, 0)], gi_58, hc_9, []), [((9, 0, 0), gi_59, hq_20, [], tg_3)])
theorem hd_43 : con_43.1 = (yX6_readField, cX6_readField, 3, none) := rfl
theorem ck_RX6_109_42 : COK2 RX6 vwCl gTbl 109 0 con_42 := ⟨wd_695, wd_128, mh_X4_addField, .inr (.inr ⟨rfl, wd_692, wd_693, wd_694, ⟨_, rfl, pd_X4_addField⟩, 4, _, TX4, 17, rfl, rfl⟩)⟩
theorem ck_RX6_85_41 : COK2 RX6 vwCl gTbl 85 0 con_41 := ⟨wd_675, wd_127, mh_X6_takeNamed, .inr (.inr ⟨rfl, wd_672, wd_674, wd_3, ⟨_, rfl, pd_X6_takeNamed⟩, 6, _, TX6, 4, rfl, rfl⟩)⟩
theorem ck_RX6_85_37 : COK2 RX6 vwCl gTbl 85 0 con_37 := ⟨wd_675, wd_127, mh_X6_takeNamed, .inr (.inr ⟨rfl, wd_672, wd_674, wd_3, ⟨_, rfl, pd_X6_takeNamed⟩, 6, _, TX6, 4, rfl, rfl⟩)⟩
theorem ck_RX6_70_33 : COK2 RX6 vwCl gTbl 70 0 con_33 := ⟨wd_669, wd_127, mh_X6_blame, .inr (.inr ⟨rfl, wd_666, wd_668, wd_2, ⟨_, rfl, pd_X6_blame⟩, 6, _, TX6, 4, rfl, rfl⟩)⟩
noncomputable def ct_43 : CTB2 := [(13, 70, 0, con_33, [0, 2]), (21, 102, 0, con_10, [2, 3]), (31, 85, 0, con_37, [0, 2, 3]), (41, 85, 0, con_41, [0, 2, 3]), (58, 109, 0, con_42, [1, 4, 5, 6])]
noncomputable def cu_43 : List CUT2 := []
theorem ch_43 : staG tb_X6_readField 1 bt_RX6 [] ct_43 [] [] cu_43 31 con_43 = true := by decide +kernel
theorem cto_43 (l : Launch) : CTOK2 l RX6 vwCl gTbl ct_43 := ct2_cons (vl_33 l) ck_RX6_70_33 (ct2_cons (vl_10 l) ck_RX6_102_10 (ct2_cons (vl_37 l) ck_RX6_85_37 (ct2_cons (vl_41 l) ck_RX6_85_41 (ct2_cons (vl_42 l) ck_RX6_109_42 (ct2_nil)))))
theorem vl_43 (l : Launch) : Vld2 l vwCl gTbl con_43 := conR_ok3 gT_all (hd_43) rfl pn_RX6 tk_X6_readField bo_RX6 xo_RX6 (cto_43 l) ch_43 cut_nil
/-- RookHusting$Tape isAtWord -/
noncomputable def con_44 : Con2 := ((yX10_isAtWord, cX10_isAtWord, 3, (some .boolean)), (8, 200), ([(6, 0, 0), (13, 5, 0)], gi_26, [ac_25, am_2], []), [((0, 0, 0), gi_27, hq_9, [], [1]), ((0, 1, 0), gi_50, hq_9, [], [1])])
theorem hd_44 : con_44.1 = (yX10_isAtWord, cX10_isAtWord, 3, (some .boolean)) := rfl
noncomputable def cu_44 : List CUT2 := [((27, [lq 0 6 0, lq 1 13 5, lq 2 1 10], [], gi_51, hq_9), [], ([(10, (-1))], 5))]
theorem ch_44 : staG tb_X10_isAtWord 1 bt_RX10 [] ct_0 [(25, [(0, (2, 0, 3), 0, 695)])] [15] cu_44 20 con_44 = true := by decide +kernel
theorem cc_44 : cu_44.all (cutG tb_X10_isAtWord 1 bt_RX10 [] ct_0 [(25, [(0, (2, 0, 3), 0, 695)])] [15] cu_44 20 con_44) = true := by decide +kernel
theorem vl_44 (l : Launch) : Vld2 l vwCl gTbl con_44 := conR_ok3 gT_all (hd_44) rfl pn_RX10 tk_X10_isAtWord bo_RX10 xo_RX10 (cto_0 l) ch_44 (cut_all cc_44)
/-- RookHusting$Reader takeNumber -/
noncomputable def gi_60 : GI := jl_n [gp_45, gp_43]
noncomputable def gi_61 : GI := jl_n [gp_45, gp_43, gp_36]
noncomputable def gi_62 : GI := jl_n [gp_47, jl_i 0 4, gp_42]
noncomputable def con_45 : Con2 := ((yX6_takeNumber, cX6_takeNumber, 5, (some .int)), (2, 40), ([(6, 0, 0), (0, 0, 0), (1, 2, 0), (0, 0, 0)], gi_60, hc_5, []), [((0, 0, 0), gi_61, hq_13, [], [1, 1, 1, 1, 1]), ((1, 12, 0), gi_62, hq_14, [], tg_0)])
theorem hd_45 : con_45.1 = (yX6_takeNumber, cX6_takeNumber, 5, (some .int)) := rfl
noncomputable def cu_45 : List CUT2 := []
theorem ch_45 : staG tb_X6_takeNumber 1 bt_RX6 [] ct_20 [(52, [(1, (1, 4, 0), 0, 0)])] [] cu_45 27 con_45 = true := by decide +kernel
theorem vl_45 (l : Launch) : Vld2 l vwCl gTbl con_45 := conR_ok3 gT_all (hd_45) rfl pn_RX6 tk_X6_takeNumber bo_RX6 xo_RX6 (cto_20 l) ch_45 cut_nil
/-- RookHusting hasBit -/
noncomputable def gi_63 : GI := jl_n [jl_r 2 (jl_t), jl_z 1]
noncomputable def con_46 : Con2 := ((yX11_hasBit, cX11_hasBit, 2, (some .boolean)), (0, 0), ([(1, 0, 0), (1, 1, 0)], [((-2147483648), 2147483647), ((-2147483648), 2147483647)], [], []), [((0, 0, 0), gi_63, [], [], [1]), ((0, 1, 0), gi_63, [], [], [1])])
theorem hd_46 : con_46.1 = (yX11_hasBit, cX11_hasBit, 2, (some .boolean)) := rfl
noncomputable def cu_46 : List CUT2 := []
theorem ch_46 : staG tb_X11_hasBit 1 bt_RX11 [] ct_3 [] [] cu_46 12 con_46 = true := by decide +kernel
theorem vl_46 (l : Launch) : Vld2 l vwCl gTbl con_46 := conR_ok3 gT_all (hd_46) rfl pn_RX11 tk_X11_hasBit bo_RX11 xo_RX11 (cto_3 l) ch_46 cut_nil
/-- RookHusting$Reader takeNumber -/
noncomputable def gi_64 : GI := jl_n [gp_48, gp_31, gp_22]
noncomputable def gi_65 : GI := jl_n [gp_48, gp_31, gp_22, gp_36]
noncomputable def gi_66 : GI := jl_n [gp_51, gp_3, gp_32]
noncomputable def gi_67 : GI := jl_n [gp_50, gp_38, gp_37, gp_42]
noncomputable def gi_68 : GI := jl_n [gp_51, jl_i 2 2, gp_42]
noncomputable def gi_69 : GI := jl_n [gp_51, jl_i 3 3, gp_42]
noncomputable def gi_70 : GI := jl_n [gp_51, jl_i 4 4, gp_42]
noncomputable def con_47 : Con2 := ((yX6_takeNumber, cX6_takeNumber, 5, (some .int)), (2, 40), ([(6, 0, 0), (0, 0, 0), (1, 2, 0), (1, 3, 0)], gi_64, hc_5, []), [((0, 0, 0), gi_65, hq_13, [], [1, 1, 1, 1, 1]), ((0, 0, 0), gi_66, hq_14, [], tg_0), ((0, 1, 0), gi_67, hq_14, [], tg_0), ((0, 2, 0), gi_68, hq_14, [], tg_0), ((0, 3, 0), gi_69, hq_14, [], tg_0), ((0, 4, 0), gi_70, hq_14, [], tg_0)])
theorem hd_47 : con_47.1 = (yX6_takeNumber, cX6_takeNumber, 5, (some .int)) := rfl
theorem ck_RX6_147_46 : COK2 RX6 vwCl gTbl 147 2 con_46 := ⟨wd_682, wd_125, mh_X11_hasBit, .inr (.inl ⟨rfl, by decide +kernel, wd_681, pd_X11_hasBit⟩)⟩
noncomputable def ct_47 : CTB2 := [(22, 70, 0, con_15, [0, 1]), (55, 147, 2, con_46, []), (63, 70, 0, con_19, [0, 1]), (72, 102, 0, con_10, [1, 2])]
noncomputable def cu_47 : List CUT2 := []
theorem ch_47 : staG tb_X6_takeNumber 1 bt_RX6 [] ct_47 [(52, [(1, (1, 4, 0), 0, 0)])] [] cu_47 31 con_47 = true := by decide +kernel
theorem cto_47 (l : Launch) : CTOK2 l RX6 vwCl gTbl ct_47 := ct2_cons (vl_15 l) ck_RX6_70_15 (ct2_cons (vl_46 l) ck_RX6_147_46 (ct2_cons (vl_19 l) ck_RX6_70_19 (ct2_cons (vl_10 l) ck_RX6_102_10 (ct2_nil))))
theorem vl_47 (l : Launch) : Vld2 l vwCl gTbl con_47 := conR_ok3 gT_all (hd_47) rfl pn_RX6 tk_X6_takeNumber bo_RX6 xo_RX6 (cto_47 l) ch_47 cut_nil
/-- RookHusting$Hundred addHedge -/
noncomputable def gi_71 : GI := jl_n [gp_52, jl_z 6, jl_i 0 8, jl_z 11]
noncomputable def ac_42 : AC := .inl (4, jl_n [jl_8 8 5, jl_1 9 1, jl_8 13 4, jl_6 2 1, jl_8 20 6])
noncomputable def gi_72 : GI := jl_n [gp_52, jl_z 6, jl_i 0 8, jl_z 28]
noncomputable def ac_43 : AC := .inl (4, jl_n [jl_8 8 5, jl_x (1, 8, 1), jl_8 13 4, jl_6 2 1, jl_8 20 6])
noncomputable def hq_21 : HP := [(true, ac_43), (true, am_1)]
noncomputable def con_48 : Con2 := ((yX4_addHedge, cX4_addHedge, 3, none), (0, 0), ([(6, 0, 0), (1, 1, 0), (0, 4, 0)], gi_71, [ac_42, am_1], []), [((9, 0, 0), gi_72, hq_21, [], tg_2)])
theorem hd_48 : con_48.1 = (yX4_addHedge, cX4_addHedge, 3, none) := rfl
noncomputable def cu_48 : List CUT2 := []
theorem ch_48 : staG tb_X4_addHedge 1 bt_RX4 [] ct_6 [] [] cu_48 29 con_48 = true := by decide +kernel
theorem vl_48 (l : Launch) : Vld2 l vwCl gTbl con_48 := conR_ok3 gT_all (hd_48) rfl pn_RX4 tk_X4_addHedge bo_RX4 xo_RX4 (cto_6 l) ch_48 cut_nil
/-- RookHusting$Hundred addHedge -/
noncomputable def con_49 : Con2 := ((yX4_addHedge, cX4_addHedge, 3, none), (0, 0), ([(6, 0, 0), (1, 1, 0), (0, 3, 0)], gi_71, [ac_42, am_1], []), [((9, 0, 0), gi_72, hq_21, [], tg_2)])
theorem hd_49 : con_49.1 = (yX4_addHedge, cX4_addHedge, 3, none) := rfl
noncomputable def cu_49 : List CUT2 := []
theorem ch_49 : staG tb_X4_addHedge 1 bt_RX4 [] ct_6 [] [] cu_49 29 con_49 = true := by decide +kernel
theorem vl_49 (l : Launch) : Vld2 l vwCl gTbl con_49 := conR_ok3 gT_all (hd_49) rfl pn_RX4 tk_X4_addHedge bo_RX4 xo_RX4 (cto_6 l) ch_49 cut_nil
/-- RookHusting$Hundred addHedge -/
noncomputable def con_50 : Con2 := ((yX4_addHedge, cX4_addHedge, 3, none), (0, 0), ([(6, 0, 0), (1, 1, 0), (0, 2, 0)], gi_71, [ac_42, am_1], []), [((9, 0, 0), gi_72, hq_21, [], tg_2)])
theorem hd_50 : con_50.1 = (yX4_addHedge, cX4_addHedge, 3, none) := rfl
noncomputable def cu_50 : List CUT2 := []
theorem ch_50 : staG tb_X4_addHedge 1 bt_RX4 [] ct_6 [] [] cu_50 29 con_50 = true := by decide +kernel
theorem vl_50 (l : Launch) : Vld2 l vwCl gTbl con_50 := conR_ok3 gT_all (hd_50) rfl pn_RX4 tk_X4_addHedge bo_RX4 xo_RX4 (cto_6 l) ch_50 cut_nil
/-- RookHusting$Hundred addHedge -/
noncomputable def con_51 : Con2 := ((yX4_addHedge, cX4_addHedge, 3, none), (0, 0), ([(6, 0, 0), (1, 1, 0), (0, 1, 0)], gi_71, [ac_42, am_1], []), [((9, 0, 0), gi_72, hq_21, [], tg_2)])
theorem hd_51 : con_51.1 = (yX4_addHedge, cX4_addHedge, 3, none) := rfl
noncomputable def cu_51 : List CUT2 := []
theorem ch_51 : staG tb_X4_addHedge 1 bt_RX4 [] ct_6 [] [] cu_51 29 con_51 = true := by decide +kernel
theorem vl_51 (l : Launch) : Vld2 l vwCl gTbl con_51 := conR_ok3 gT_all (hd_51) rfl pn_RX4 tk_X4_addHedge bo_RX4 xo_RX4 (cto_6 l) ch_51 cut_nil
/-- RookHusting$Hundred addHedge -/
noncomputable def con_52 : Con2 := ((yX4_addHedge, cX4_addHedge, 3, none), (0, 0), ([(6, 0, 0), (1, 1, 0), (0, 0, 0)], gi_71, [ac_42, am_1], []), [((9, 0, 0), gi_72, hq_21, [], tg_2)])
theorem hd_52 : con_52.1 = (yX4_addHedge, cX4_addHedge, 3, none) := rfl
noncomputable def cu_52 : List CUT2 := []
theorem ch_52 : staG tb_X4_addHedge 1 bt_RX4 [] ct_6 [] [] cu_52 29 con_52 = true := by decide +kernel
theorem vl_52 (l : Launch) : Vld2 l vwCl gTbl con_52 := conR_ok3 gT_all (hd_52) rfl pn_RX4 tk_X4_addHedge bo_RX4 xo_RX4 (cto_6 l) ch_52 cut_nil
/-- RookHusting hasBit -/
noncomputable def con_53 : Con2 := ((yX11_hasBit, cX11_hasBit, 2, (some .boolean)), (0, 0), ([(0, 1, 0), (0, 4, 0)], [(0, 0), (0, 0)], [], []), [((0, 0, 0), [(0, 0), (0, 0), (0, 0)], [], [], [1])])
theorem hd_53 : con_53.1 = (yX11_hasBit, cX11_hasBit, 2, (some .boolean)) := rfl
noncomputable def cu_53 : List CUT2 := []
theorem ch_53 : staG tb_X11_hasBit 1 bt_RX11 [] ct_3 [] [] cu_53 11 con_53 = true := by decide +kernel
theorem vl_53 (l : Launch) : Vld2 l vwCl gTbl con_53 := conR_ok3 gT_all (hd_53) rfl pn_RX11 tk_X11_hasBit bo_RX11 xo_RX11 (cto_3 l) ch_53 cut_nil
/-- RookHusting hasBit -/
noncomputable def con_54 : Con2 := ((yX11_hasBit, cX11_hasBit, 2, (some .boolean)), (0, 0), ([(0, 1, 0), (0, 3, 0)], [(0, 0), (0, 0)], [], []), [((0, 0, 0), [(0, 0), (0, 0), (0, 0)], [], [], [1])])
theorem hd_54 : con_54.1 = (yX11_hasBit, cX11_hasBit, 2, (some .boolean)) := rfl
noncomputable def cu_54 : List CUT2 := []
theorem ch_54 : staG tb_X11_hasBit 1 bt_RX11 [] ct_3 [] [] cu_54 11 con_54 = true := by decide +kernel
theorem vl_54 (l : Launch) : Vld2 l vwCl gTbl con_54 := conR_ok3 gT_all (hd_54) rfl pn_RX11 tk_X11_hasBit bo_RX11 xo_RX11 (cto_3 l) ch_54 cut_nil
/-- RookHusting hasBit -/
noncomputable def con_55 : Con2 := ((yX11_hasBit, cX11_hasBit, 2, (some .boolean)), (0, 0), ([(0, 1, 0), (0, 2, 0)], [(0, 0), (0, 0)], [], []), [((0, 0, 0), [(0, 0), (0, 0), (0, 0)], [], [], [1])])
theorem hd_55 : con_55.1 = (yX11_hasBit, cX11_hasBit, 2, (some .boolean)) := rfl
noncomputable def cu_55 : List CUT2 := []
theorem ch_55 : staG tb_X11_hasBit 1 bt_RX11 [] ct_3 [] [] cu_55 11 con_55 = true := by decide +kernel
theorem vl_55 (l : Launch) : Vld2 l vwCl gTbl con_55 := conR_ok3 gT_all (hd_55) rfl pn_RX11 tk_X11_hasBit bo_RX11 xo_RX11 (cto_3 l) ch_55 cut_nil
/-- RookHusting hasBit -/
noncomputable def con_56 : Con2 := ((yX11_hasBit, cX11_hasBit, 2, (some .boolean)), (0, 0), ([(0, 1, 0), (0, 1, 0)], [(0, 0), (0, 0)], [], []), [((0, 0, 0), [(0, 0), (0, 0), (0, 0)], [], [], [1])])
theorem hd_56 : con_56.1 = (yX11_hasBit, cX11_hasBit, 2, (some .boolean)) := rfl
noncomputable def cu_56 : List CUT2 := []
theorem ch_56 : staG tb_X11_hasBit 1 bt_RX11 [] ct_3 [] [] cu_56 11 con_56 = true := by decide +kernel
theorem vl_56 (l : Launch) : Vld2 l vwCl gTbl con_56 := conR_ok3 gT_all (hd_56) rfl pn_RX11 tk_X11_hasBit bo_RX11 xo_RX11 (cto_3 l) ch_56 cut_nil
/-- RookHusting hasBit -/
noncomputable def con_57 : Con2 := ((yX11_hasBit, cX11_hasBit, 2, (some .boolean)), (0, 0), ([(0, 1, 0), (0, 0, 0)], [(0, 0), (0, 0)], [], []), [((0, 1, 0), [(0, 0), (0, 0), (0, 0)], [], [], [1])])
theorem hd_57 : con_57.1 = (yX11_hasBit, cX11_hasBit, 2, (some .boolean)) := rfl
noncomputable def cu_57 : List CUT2 := []
theorem ch_57 : staG tb_X11_hasBit 1 bt_RX11 [] ct_3 [] [] cu_57 12 con_57 = true := by decide +kernel
theorem vl_57 (l : Launch) : Vld2 l vwCl gTbl con_57 := conR_ok3 gT_all (hd_57) rfl pn_RX11 tk_X11_hasBit bo_RX11 xo_RX11 (cto_3 l) ch_57 cut_nil
/-- RookHusting$Reader takeNumber -/
noncomputable def gi_73 : GI := jl_n [gp_46, jl_m 0 700, gp_38, gp_37, gp_42]
noncomputable def gi_74 : GI := jl_n [gp_47, jl_i 2 2, gp_42]
noncomputable def gi_75 : GI := jl_n [gp_47, jl_i 3 3, gp_42]
noncomputable def gi_76 : GI := jl_n [gp_47, jl_i 4 4, gp_42]
noncomputable def con_58 : Con2 := ((yX6_takeNumber, cX6_takeNumber, 5, (some .int)), (2, 40), ([(6, 0, 0), (0, 0, 0), (1, 2, 0), (0, 1, 0)], gi_60, hc_5, []), [((0, 0, 0), gi_61, hq_13, [], [1, 1, 1, 1, 1]), ((0, 1, 0), gi_73, hq_14, [], tg_0), ((0, 2, 0), gi_74, hq_14, [], tg_0), ((0, 3, 0), gi_75, hq_14, [], tg_0), ((0, 4, 0), gi_76, hq_14, [], tg_0)])
theorem hd_58 : con_58.1 = (yX6_takeNumber, cX6_takeNumber, 5, (some .int)) := rfl
theorem ck_RX6_147_53 : COK2 RX6 vwCl gTbl 147 2 con_53 := ⟨wd_682, wd_125, mh_X11_hasBit, .inr (.inl ⟨rfl, by decide +kernel, wd_681, pd_X11_hasBit⟩)⟩
theorem ck_RX6_147_54 : COK2 RX6 vwCl gTbl 147 2 con_54 := ⟨wd_682, wd_125, mh_X11_hasBit, .inr (.inl ⟨rfl, by decide +kernel, wd_681, pd_X11_hasBit⟩)⟩
theorem ck_RX6_147_55 : COK2 RX6 vwCl gTbl 147 2 con_55 := ⟨wd_682, wd_125, mh_X11_hasBit, .inr (.inl ⟨rfl, by decide +kernel, wd_681, pd_X11_hasBit⟩)⟩
theorem ck_RX6_147_56 : COK2 RX6 vwCl gTbl 147 2 con_56 := ⟨wd_682, wd_125, mh_X11_hasBit, .inr (.inl ⟨rfl, by decide +kernel, wd_681, pd_X11_hasBit⟩)⟩
theorem ck_RX6_147_57 : COK2 RX6 vwCl gTbl 147 2 con_57 := ⟨wd_682, wd_125, mh_X11_hasBit, .inr (.inl ⟨rfl, by decide +kernel, wd_681, pd_X11_hasBit⟩)⟩
noncomputable def ct_58 : CTB2 := [(22, 70, 0, con_15, [0, 1]), (55, 147, 2, con_57, []), (55, 147, 2, con_56, []), (55, 147, 2, con_55, []), (55, 147, 2, con_54, []), (55, 147, 2, con_53, []), (63, 70, 0, con_19, [0, 1]), (72, 102, 0, con_10, [1, 2])]
noncomputable def cu_58 : List CUT2 := []
theorem ch_58 : staG tb_X6_takeNumber 1 bt_RX6 [] ct_58 [(52, [(1, (1, 4, 0), 0, 0)])] [] cu_58 31 con_58 = true := by decide +kernel
theorem cto_58 (l : Launch) : CTOK2 l RX6 vwCl gTbl ct_58 := ct2_cons (vl_15 l) ck_RX6_70_15 (ct2_cons (vl_57 l) ck_RX6_147_57 (ct2_cons (vl_56 l) ck_RX6_147_56 (ct2_cons (vl_55 l) ck_RX6_147_55 (ct2_cons (vl_54 l) ck_RX6_147_54 (ct2_cons (vl_53 l) ck_RX6_147_53 (ct2_cons (vl_19 l) ck_RX6_70_19 (ct2_cons (vl_10 l) ck_RX6_102_10 (ct2_nil))))))))
theorem vl_58 (l : Launch) : Vld2 l vwCl gTbl con_58 := conR_ok3 gT_all (hd_58) rfl pn_RX6 tk_X6_takeNumber bo_RX6 xo_RX6 (cto_58 l) ch_58 cut_nil
/-- RookHusting$Reader readHedge -/
noncomputable def gi_77 : GI := jl_n [gp_44, gp_53, jl_z 12, gp_21]
noncomputable def ac_44 : AC := .inl (4, jl_n [jl_8 9 4, jl_1 11 2, jl_8 15 4, jl_6 5 1, jl_8 22 6])
noncomputable def hc_10 : List AC := [.inl (6, [(6, 1, 0), (1, 2, 0), (1, 3, 0), (6, 2, 0)]), ac_44, ac_21, am_2, am_1]
noncomputable def gi_78 : GI := jl_n [gp_44, gp_53, jl_z 12, gp_21, gp_31, jl_z 6, jl_i 0 8, jl_z 13, gp_20]
noncomputable def ac_45 : AC := .inl (4, jl_n [jl_8 9 4, jl_1 10 1, jl_1 38 1, jl_8 15 4, jl_6 5 1, jl_8 22 6])
noncomputable def hq_22 : HP := [(true, .inl (6, [(6, 1, 0), (1, 29, 0), (1, 30, 0), (6, 2, 0)])), (true, ac_45), (true, ac_23), (false, am_2), (true, am_1)]
noncomputable def con_59 : Con2 := ((yX6_readHedge, cX6_readHedge, 3, none), (3, 64), ([(6, 0, 0)], gi_77, hc_10, []), [((9, 0, 0), gi_78, hq_22, [], tg_3)])
theorem hd_59 : con_59.1 = (yX6_readHedge, cX6_readHedge, 3, none) := rfl
theorem ck_RX6_120_52 : COK2 RX6 vwCl gTbl 120 0 con_52 := ⟨wd_704, wd_128, mh_X4_addHedge, .inr (.inr ⟨rfl, wd_701, wd_702, wd_703, ⟨_, rfl, pd_X4_addHedge⟩, 4, _, TX4, 17, rfl, rfl⟩)⟩
theorem ck_RX6_120_51 : COK2 RX6 vwCl gTbl 120 0 con_51 := ⟨wd_704, wd_128, mh_X4_addHedge, .inr (.inr ⟨rfl, wd_701, wd_702, wd_703, ⟨_, rfl, pd_X4_addHedge⟩, 4, _, TX4, 17, rfl, rfl⟩)⟩
theorem ck_RX6_120_50 : COK2 RX6 vwCl gTbl 120 0 con_50 := ⟨wd_704, wd_128, mh_X4_addHedge, .inr (.inr ⟨rfl, wd_701, wd_702, wd_703, ⟨_, rfl, pd_X4_addHedge⟩, 4, _, TX4, 17, rfl, rfl⟩)⟩
theorem ck_RX6_120_49 : COK2 RX6 vwCl gTbl 120 0 con_49 := ⟨wd_704, wd_128, mh_X4_addHedge, .inr (.inr ⟨rfl, wd_701, wd_702, wd_703, ⟨_, rfl, pd_X4_addHedge⟩, 4, _, TX4, 17, rfl, rfl⟩)⟩
theorem ck_RX6_120_48 : COK2 RX6 vwCl gTbl 120 0 con_48 := ⟨wd_704, wd_128, mh_X4_addHedge, .inr (.inr ⟨rfl, wd_701, wd_702, wd_703, ⟨_, rfl, pd_X4_addHedge⟩, 4, _, TX4, 17, rfl, rfl⟩)⟩
theorem ck_RX6_116_58 : COK2 RX6 vwCl gTbl 116 0 con_58 := ⟨wd_679, wd_127, mh_X6_takeNumber, .inr (.inr ⟨rfl, wd_676, wd_678, wd_4, ⟨_, rfl, pd_X6_takeNumber⟩, 6, _, TX6, 4, rfl, rfl⟩)⟩
theorem ck_RX6_116_47 : COK2 RX6 vwCl gTbl 116 0 con_47 := ⟨wd_679, wd_127, mh_X6_takeNumber, .inr (.inr ⟨rfl, wd_676, wd_678, wd_4, ⟨_, rfl, pd_X6_takeNumber⟩, 6, _, TX6, 4, rfl, rfl⟩)⟩
theorem ck_RX6_116_45 : COK2 RX6 vwCl gTbl 116 0 con_45 := ⟨wd_679, wd_127, mh_X6_takeNumber, .inr (.inr ⟨rfl, wd_676, wd_678, wd_4, ⟨_, rfl, pd_X6_takeNumber⟩, 6, _, TX6, 4, rfl, rfl⟩)⟩
noncomputable def ct_59 : CTB2 := [(14, 70, 0, con_33, [0, 2]), (22, 102, 0, con_10, [2, 3]), (37, 116, 0, con_45, [0, 2, 3]), (55, 116, 0, con_47, [0, 2, 3]), (55, 116, 0, con_58, [0, 2, 3]), (72, 120, 0, con_48, [1, 4]), (72, 120, 0, con_49, [1, 4]), (72, 120, 0, con_50, [1, 4]), (72, 120, 0, con_51, [1, 4]), (72, 120, 0, con_52, [1, 4])]
noncomputable def cu_59 : List CUT2 := []
theorem ch_59 : staG tb_X6_readHedge 1 bt_RX6 [] ct_59 [] [] cu_59 41 con_59 = true := by decide +kernel
theorem cto_59 (l : Launch) : CTOK2 l RX6 vwCl gTbl ct_59 := ct2_cons (vl_33 l) ck_RX6_70_33 (ct2_cons (vl_10 l) ck_RX6_102_10 (ct2_cons (vl_45 l) ck_RX6_116_45 (ct2_cons (vl_47 l) ck_RX6_116_47 (ct2_cons (vl_58 l) ck_RX6_116_58 (ct2_cons (vl_48 l) ck_RX6_120_48 (ct2_cons (vl_49 l) ck_RX6_120_49 (ct2_cons (vl_50 l) ck_RX6_120_50 (ct2_cons (vl_51 l) ck_RX6_120_51 (ct2_cons (vl_52 l) ck_RX6_120_52 (ct2_nil))))))))))
theorem vl_59 (l : Launch) : Vld2 l vwCl gTbl con_59 := conR_ok3 gT_all (hd_59) rfl pn_RX6 tk_X6_readHedge bo_RX6 xo_RX6 (cto_59 l) ch_59 cut_nil
/-- RookHusting$Tape isAtWord -/
noncomputable def con_60 : Con2 := ((yX10_isAtWord, cX10_isAtWord, 3, (some .boolean)), (8, 200), ([(6, 0, 0), (13, 8, 0)], gi_26, [ac_25, am_2], []), [((0, 0, 0), gi_27, hq_9, [], [1]), ((0, 1, 0), gi_40, hq_9, [], [1])])
theorem hd_60 : con_60.1 = (yX10_isAtWord, cX10_isAtWord, 3, (some .boolean)) := rfl
noncomputable def cu_60 : List CUT2 := [((27, [lq 0 6 0, lq 1 13 8, lq 2 1 10], [], gi_41, hq_9), [], ([(10, (-1))], 3))]
theorem ch_60 : staG tb_X10_isAtWord 1 bt_RX10 [] ct_0 [(25, [(0, (2, 0, 3), 0, 697)])] [15] cu_60 20 con_60 = true := by decide +kernel
theorem cc_60 : cu_60.all (cutG tb_X10_isAtWord 1 bt_RX10 [] ct_0 [(25, [(0, (2, 0, 3), 0, 697)])] [15] cu_60 20 con_60) = true := by decide +kernel
theorem vl_60 (l : Launch) : Vld2 l vwCl gTbl con_60 := conR_ok3 gT_all (hd_60) rfl pn_RX10 tk_X10_isAtWord bo_RX10 xo_RX10 (cto_0 l) ch_60 (cut_all cc_60)
/-- RookHusting$Tape isAtWord -/
noncomputable def con_61 : Con2 := ((yX10_isAtWord, cX10_isAtWord, 3, (some .boolean)), (8, 200), ([(6, 0, 0), (13, 3, 0)], gi_26, [ac_25, am_2], []), [((0, 0, 0), gi_27, hq_9, [], [1]), ((0, 1, 0), gi_28, hq_9, [], [1])])
theorem hd_61 : con_61.1 = (yX10_isAtWord, cX10_isAtWord, 3, (some .boolean)) := rfl
noncomputable def cu_61 : List CUT2 := [((27, [lq 0 6 0, lq 1 13 3, lq 2 1 10], [], gi_29, hq_9), [], ([(10, (-1))], 7))]
theorem ch_61 : staG tb_X10_isAtWord 1 bt_RX10 [] ct_0 [(25, [(0, (2, 0, 3), 0, 693)])] [15] cu_61 20 con_61 = true := by decide +kernel
theorem cc_61 : cu_61.all (cutG tb_X10_isAtWord 1 bt_RX10 [] ct_0 [(25, [(0, (2, 0, 3), 0, 693)])] [15] cu_61 20 con_61) = true := by decide +kernel
theorem vl_61 (l : Launch) : Vld2 l vwCl gTbl con_61 := conR_ok3 gT_all (hd_61) rfl pn_RX10 tk_X10_isAtWord bo_RX10 xo_RX10 (cto_0 l) ch_61 (cut_all cc_61)
/-- RookHusting$Reader takeWord -/
noncomputable def con_62 : Con2 := ((yX6_takeWord, cX6_takeWord, 2, none), (9, 222), ([(6, 0, 0), (13, 3, 0)], gi_32, hc_4, []), [((9, 0, 0), gi_33, hq_11, [], tg_4)])
theorem hd_62 : con_62.1 = (yX6_takeWord, cX6_takeWord, 2, none) := rfl
theorem ck_RX6_48_61 : COK2 RX6 vwCl gTbl 48 0 con_61 := ⟨wd_617, wd_126, mh_X10_isAtWord, .inr (.inr ⟨rfl, wd_614, wd_615, wd_616, ⟨_, rfl, pd_X10_isAtWord⟩, 10, _, TX10, 6, rfl, rfl⟩)⟩
noncomputable def ct_62 : CTB2 := [(13, 48, 0, con_61, [1, 2]), (21, 70, 0, con_15, [0, 1]), (29, 102, 0, con_10, [1, 2])]
noncomputable def cu_62 : List CUT2 := []
theorem ch_62 : staG tb_X6_takeWord 1 bt_RX6 [] ct_62 [] [] cu_62 14 con_62 = true := by decide +kernel
theorem cto_62 (l : Launch) : CTOK2 l RX6 vwCl gTbl ct_62 := ct2_cons (vl_61 l) ck_RX6_48_61 (ct2_cons (vl_15 l) ck_RX6_70_15 (ct2_cons (vl_10 l) ck_RX6_102_10 (ct2_nil)))
theorem vl_62 (l : Launch) : Vld2 l vwCl gTbl con_62 := conR_ok3 gT_all (hd_62) rfl pn_RX6 tk_X6_takeWord bo_RX6 xo_RX6 (cto_62 l) ch_62 cut_nil
/-- RookHusting$Reader takeNamed -/
noncomputable def con_63 : Con2 := ((yX6_takeNamed, cX6_takeNamed, 4, (some .int)), (10, 243), ([(6, 0, 0), (13, 3, 0), (0, 0, 0), (0, 40, 0)], gi_36, hc_5, []), [((1, 14, 0), gi_55, hq_15, [], tg_5)])
theorem hd_63 : con_63.1 = (yX6_takeNamed, cX6_takeNamed, 4, (some .int)) := rfl
theorem ck_RX6_79_62 : COK2 RX6 vwCl gTbl 79 0 con_62 := ⟨wd_613, wd_127, mh_X6_takeWord, .inr (.inr ⟨rfl, wd_610, wd_612, wd_1, ⟨_, rfl, pd_X6_takeWord⟩, 6, _, TX6, 4, rfl, rfl⟩)⟩
noncomputable def ct_63 : CTB2 := [(2, 79, 0, con_62, [0, 1, 2]), (9, 116, 0, con_40, [0, 1, 2])]
noncomputable def cu_63 : List CUT2 := []
theorem ch_63 : staG tb_X6_takeNamed 1 bt_RX6 [] ct_63 [] [] cu_63 11 con_63 = true := by decide +kernel
theorem cto_63 (l : Launch) : CTOK2 l RX6 vwCl gTbl ct_63 := ct2_cons (vl_62 l) ck_RX6_79_62 (ct2_cons (vl_40 l) ck_RX6_116_40 (ct2_nil))
theorem vl_63 (l : Launch) : Vld2 l vwCl gTbl con_63 := conR_ok3 gT_all (hd_63) rfl pn_RX6 tk_X6_takeNamed bo_RX6 xo_RX6 (cto_63 l) ch_63 cut_nil
/-- RookHusting$Tape isAtWord -/
noncomputable def con_64 : Con2 := ((yX10_isAtWord, cX10_isAtWord, 3, (some .boolean)), (8, 200), ([(6, 0, 0), (13, 11, 0)], gi_26, [ac_25, am_2], []), [((0, 0, 0), gi_27, hq_9, [], [1]), ((0, 1, 0), gi_50, hq_9, [], [1])])
theorem hd_64 : con_64.1 = (yX10_isAtWord, cX10_isAtWord, 3, (some .boolean)) := rfl
noncomputable def cu_64 : List CUT2 := [((27, [lq 0 6 0, lq 1 13 11, lq 2 1 10], [], gi_51, hq_9), [], ([(10, (-1))], 5))]
theorem ch_64 : staG tb_X10_isAtWord 1 bt_RX10 [] ct_0 [(25, [(0, (2, 0, 3), 0, 695)])] [15] cu_64 20 con_64 = true := by decide +kernel
theorem cc_64 : cu_64.all (cutG tb_X10_isAtWord 1 bt_RX10 [] ct_0 [(25, [(0, (2, 0, 3), 0, 695)])] [15] cu_64 20 con_64) = true := by decide +kernel
theorem vl_64 (l : Launch) : Vld2 l vwCl gTbl con_64 := conR_ok3 gT_all (hd_64) rfl pn_RX10 tk_X10_isAtWord bo_RX10 xo_RX10 (cto_0 l) ch_64 (cut_all cc_64)
/-- RookHusting$Reader takeWord -/
noncomputable def con_65 : Con2 := ((yX6_takeWord, cX6_takeWord, 2, none), (9, 222), ([(6, 0, 0), (13, 11, 0)], gi_32, hc_4, []), [((9, 0, 0), gi_33, hq_11, [], tg_4)])
theorem hd_65 : con_65.1 = (yX6_takeWord, cX6_takeWord, 2, none) := rfl
theorem ck_RX6_48_64 : COK2 RX6 vwCl gTbl 48 0 con_64 := ⟨wd_617, wd_126, mh_X10_isAtWord, .inr (.inr ⟨rfl, wd_614, wd_615, wd_616, ⟨_, rfl, pd_X10_isAtWord⟩, 10, _, TX10, 6, rfl, rfl⟩)⟩
noncomputable def ct_65 : CTB2 := [(13, 48, 0, con_64, [1, 2]), (21, 70, 0, con_15, [0, 1]), (29, 102, 0, con_10, [1, 2])]
noncomputable def cu_65 : List CUT2 := []
theorem ch_65 : staG tb_X6_takeWord 1 bt_RX6 [] ct_65 [] [] cu_65 14 con_65 = true := by decide +kernel
theorem cto_65 (l : Launch) : CTOK2 l RX6 vwCl gTbl ct_65 := ct2_cons (vl_64 l) ck_RX6_48_64 (ct2_cons (vl_15 l) ck_RX6_70_15 (ct2_cons (vl_10 l) ck_RX6_102_10 (ct2_nil)))
theorem vl_65 (l : Launch) : Vld2 l vwCl gTbl con_65 := conR_ok3 gT_all (hd_65) rfl pn_RX6 tk_X6_takeWord bo_RX6 xo_RX6 (cto_65 l) ch_65 cut_nil
/-- RookHusting$Reader takeNumber -/
noncomputable def gi_79 : GI := jl_n [gp_41, jl_i 0 9, gp_42]
noncomputable def con_66 : Con2 := ((yX6_takeNumber, cX6_takeNumber, 5, (some .int)), (2, 40), ([(6, 0, 0), (0, 0, 0), (0, 9, 0), (0, 0, 0)], gi_36, hc_5, []), [((0, 0, 0), gi_37, hq_13, [], [1, 1, 1, 1, 1]), ((1, 12, 0), gi_79, hq_14, [], tg_0)])
theorem hd_66 : con_66.1 = (yX6_takeNumber, cX6_takeNumber, 5, (some .int)) := rfl
noncomputable def cu_66 : List CUT2 := []
theorem ch_66 : staG tb_X6_takeNumber 1 bt_RX6 [] ct_20 [(52, [(1, (1, 4, 0), 0, 0)])] [] cu_66 27 con_66 = true := by decide +kernel
theorem vl_66 (l : Launch) : Vld2 l vwCl gTbl con_66 := conR_ok3 gT_all (hd_66) rfl pn_RX6 tk_X6_takeNumber bo_RX6 xo_RX6 (cto_20 l) ch_66 cut_nil
/-- RookHusting$Reader takeNamed -/
noncomputable def gi_80 : GI := jl_n [gp_34, jl_i 0 9, gp_33]
noncomputable def con_67 : Con2 := ((yX6_takeNamed, cX6_takeNamed, 4, (some .int)), (10, 243), ([(6, 0, 0), (13, 11, 0), (0, 0, 0), (0, 9, 0)], gi_36, hc_5, []), [((1, 14, 0), gi_80, hq_15, [], tg_5)])
theorem hd_67 : con_67.1 = (yX6_takeNamed, cX6_takeNamed, 4, (some .int)) := rfl
theorem ck_RX6_116_66 : COK2 RX6 vwCl gTbl 116 0 con_66 := ⟨wd_679, wd_127, mh_X6_takeNumber, .inr (.inr ⟨rfl, wd_676, wd_678, wd_4, ⟨_, rfl, pd_X6_takeNumber⟩, 6, _, TX6, 4, rfl, rfl⟩)⟩
theorem ck_RX6_79_65 : COK2 RX6 vwCl gTbl 79 0 con_65 := ⟨wd_613, wd_127, mh_X6_takeWord, .inr (.inr ⟨rfl, wd_610, wd_612, wd_1, ⟨_, rfl, pd_X6_takeWord⟩, 6, _, TX6, 4, rfl, rfl⟩)⟩
noncomputable def ct_67 : CTB2 := [(2, 79, 0, con_65, [0, 1, 2]), (9, 116, 0, con_66, [0, 1, 2])]
noncomputable def cu_67 : List CUT2 := []
theorem ch_67 : staG tb_X6_takeNamed 1 bt_RX6 [] ct_67 [] [] cu_67 11 con_67 = true := by decide +kernel
theorem cto_67 (l : Launch) : CTOK2 l RX6 vwCl gTbl ct_67 := ct2_cons (vl_65 l) ck_RX6_79_65 (ct2_cons (vl_66 l) ck_RX6_116_66 (ct2_nil))
theorem vl_67 (l : Launch) : Vld2 l vwCl gTbl con_67 := conR_ok3 gT_all (hd_67) rfl pn_RX6 tk_X6_takeNamed bo_RX6 xo_RX6 (cto_67 l) ch_67 cut_nil
/-- RookHusting$Hundred addMan -/
noncomputable def gi_81 : GI := jl_n [jl_z 1, jl_i 0 40, jl_i 0 9, jl_z 6, jl_i 0 4, jl_z 10]
noncomputable def ac_46 : AC := .inl (4, jl_n [jl_8 9 6, jl_1 10 1, jl_8 14 4, jl_6 3 2, jl_8 20 4])
noncomputable def hc_11 : List AC := [ac_46, am_4, am_10]
noncomputable def gi_82 : GI := jl_n [jl_z 1, jl_i 0 40, jl_i 0 9, jl_z 6, jl_i 0 4, jl_z 27]
noncomputable def ac_47 : AC := .inl (4, jl_n [jl_8 9 6, jl_x (1, 9, 1), jl_8 14 4, jl_6 3 2, jl_8 20 4])
noncomputable def hq_23 : HP := [(true, ac_47), (true, am_4), (true, am_10)]
noncomputable def con_68 : Con2 := ((yX4_addMan, cX4_addMan, 3, none), (0, 0), ([(6, 0, 0), (1, 1, 0), (1, 2, 0)], gi_81, hc_11, []), [((9, 0, 0), gi_82, hq_23, [], tg_2)])
theorem hd_68 : con_68.1 = (yX4_addMan, cX4_addMan, 3, none) := rfl
noncomputable def cu_68 : List CUT2 := []
theorem ch_68 : staG tb_X4_addMan 1 bt_RX4 [] ct_6 [] [] cu_68 21 con_68 = true := by decide +kernel
theorem vl_68 (l : Launch) : Vld2 l vwCl gTbl con_68 := conR_ok3 gT_all (hd_68) rfl pn_RX4 tk_X4_addMan bo_RX4 xo_RX4 (cto_6 l) ch_68 cut_nil
/-- RookHusting$Reader readMan -/
noncomputable def gi_83 : GI := jl_n [gp_54, gp_12, gp_26]
noncomputable def ac_48 : AC := .inl (4, jl_n [jl_8 11 6, jl_1 13 2, jl_8 16 3, jl_6 6 2, jl_8 22 4])
noncomputable def hc_12 : List AC := [.inl (6, [(6, 1, 0), (1, 2, 0), (1, 3, 0), (6, 2, 0)]), ac_48, ac_21, am_2, am_4, am_10]
noncomputable def gi_84 : GI := jl_n [gp_54, gp_12, gp_26, gp_31, jl_z 7, gp_55, gp_20]
noncomputable def ac_49 : AC := .inl (4, jl_n [jl_8 11 6, jl_1 40 2, jl_8 16 3, jl_6 6 2, jl_8 22 4])
noncomputable def hq_24 : HP := [(true, .inl (6, [(6, 1, 0), (1, 29, 0), (1, 30, 0), (6, 2, 0)])), (true, ac_49), (true, ac_23), (false, am_2), (true, am_4), (true, am_10)]
noncomputable def con_69 : Con2 := ((yX6_readMan, cX6_readMan, 3, none), (11, 266), ([(6, 0, 0)], gi_83, hc_12, []), [((9, 0, 0), gi_84, hq_24, [], tg_3)])
theorem hd_69 : con_69.1 = (yX6_readMan, cX6_readMan, 3, none) := rfl
theorem ck_RX6_133_68 : COK2 RX6 vwCl gTbl 133 0 con_68 := ⟨wd_715, wd_128, mh_X4_addMan, .inr (.inr ⟨rfl, wd_712, wd_713, wd_714, ⟨_, rfl, pd_X4_addMan⟩, 4, _, TX4, 17, rfl, rfl⟩)⟩
theorem ck_RX6_85_67 : COK2 RX6 vwCl gTbl 85 0 con_67 := ⟨wd_675, wd_127, mh_X6_takeNamed, .inr (.inr ⟨rfl, wd_672, wd_674, wd_3, ⟨_, rfl, pd_X6_takeNamed⟩, 6, _, TX6, 4, rfl, rfl⟩)⟩
theorem ck_RX6_85_63 : COK2 RX6 vwCl gTbl 85 0 con_63 := ⟨wd_675, wd_127, mh_X6_takeNamed, .inr (.inr ⟨rfl, wd_672, wd_674, wd_3, ⟨_, rfl, pd_X6_takeNamed⟩, 6, _, TX6, 4, rfl, rfl⟩)⟩
noncomputable def ct_69 : CTB2 := [(12, 70, 0, con_15, [0, 2]), (29, 70, 0, con_33, [0, 2]), (37, 102, 0, con_10, [2, 3]), (46, 85, 0, con_63, [0, 2, 3]), (56, 85, 0, con_67, [0, 2, 3]), (73, 133, 0, con_68, [1, 4, 5])]
noncomputable def cu_69 : List CUT2 := []
theorem ch_69 : staG tb_X6_readMan 1 bt_RX6 [] ct_69 [] [] cu_69 35 con_69 = true := by decide +kernel
theorem cto_69 (l : Launch) : CTOK2 l RX6 vwCl gTbl ct_69 := ct2_cons (vl_15 l) ck_RX6_70_15 (ct2_cons (vl_33 l) ck_RX6_70_33 (ct2_cons (vl_10 l) ck_RX6_102_10 (ct2_cons (vl_63 l) ck_RX6_85_63 (ct2_cons (vl_67 l) ck_RX6_85_67 (ct2_cons (vl_68 l) ck_RX6_133_68 (ct2_nil))))))
theorem vl_69 (l : Launch) : Vld2 l vwCl gTbl con_69 := conR_ok3 gT_all (hd_69) rfl pn_RX6 tk_X6_readMan bo_RX6 xo_RX6 (cto_69 l) ch_69 cut_nil
/-- RookHusting$Tape isAtWord -/
noncomputable def con_70 : Con2 := ((yX10_isAtWord, cX10_isAtWord, 3, (some .boolean)), (8, 200), ([(6, 0, 0), (13, 12, 0)], gi_26, [ac_25, am_2], []), [((0, 0, 0), gi_27, hq_9, [], [1]), ((0, 1, 0), gi_50, hq_9, [], [1])])
theorem hd_70 : con_70.1 = (yX10_isAtWord, cX10_isAtWord, 3, (some .boolean)) := rfl
noncomputable def cu_70 : List CUT2 := [((27, [lq 0 6 0, lq 1 13 12, lq 2 1 10], [], gi_51, hq_9), [], ([(10, (-1))], 5))]
theorem ch_70 : staG tb_X10_isAtWord 1 bt_RX10 [] ct_0 [(25, [(0, (2, 0, 3), 0, 695)])] [15] cu_70 20 con_70 = true := by decide +kernel
theorem cc_70 : cu_70.all (cutG tb_X10_isAtWord 1 bt_RX10 [] ct_0 [(25, [(0, (2, 0, 3), 0, 695)])] [15] cu_70 20 con_70) = true := by decide +kernel
theorem vl_70 (l : Launch) : Vld2 l vwCl gTbl con_70 := conR_ok3 gT_all (hd_70) rfl pn_RX10 tk_X10_isAtWord bo_RX10 xo_RX10 (cto_0 l) ch_70 (cut_all cc_70)
/-- RookHusting$Reader readVoter -/
noncomputable def gi_85 : GI := jl_n [gp_57]
noncomputable def ac_50 : AC := .inl (4, jl_n [vp_2, jl_c 7, vp_3])
noncomputable def hc_13 : List AC := [.inl (6, [(6, 1, 0), (1, 2, 0), (1, 3, 0), (6, 2, 0)]), ac_50, ac_21, am_2, am_7, am_8, am_5, am_6]
noncomputable def gi_86 : GI := jl_n [gp_57, jl_z 4]
noncomputable def hq_25 : HP := [(true, .inl (6, [(6, 1, 0), (0, 3, 0), (1, 25, 0), (6, 2, 0)])), (false, ac_50), (false, ac_21), (false, am_2), (false, am_7), (false, am_8), (false, am_5), (false, am_6)]
noncomputable def con_71 : Con2 := ((yX6_readVoter, cX6_readVoter, 5, none), (1, 21), ([(6, 0, 0)], gi_85, hc_13, []), [((9, 0, 0), gi_86, hq_25, [], [1, 1, 1, 1])])
theorem hd_71 : con_71.1 = (yX6_readVoter, cX6_readVoter, 5, none) := rfl
noncomputable def ct_71 : CTB2 := [(14, 70, 0, con_33, [0, 2])]
noncomputable def cu_71 : List CUT2 := []
theorem ch_71 : staG tb_X6_readVoter 1 bt_RX6 [] ct_71 [(110, [(1, (1, 4, 0), 0, 0)])] [] cu_71 11 con_71 = true := by decide +kernel
theorem cto_71 (l : Launch) : CTOK2 l RX6 vwCl gTbl ct_71 := ct2_cons (vl_33 l) ck_RX6_70_33 (ct2_nil)
theorem vl_71 (l : Launch) : Vld2 l vwCl gTbl con_71 := conR_ok3 gT_all (hd_71) rfl pn_RX6 tk_X6_readVoter bo_RX6 xo_RX6 (cto_71 l) ch_71 cut_nil
/-- RookHusting$Tape isAtWord -/
noncomputable def con_72 : Con2 := ((yX10_isAtWord, cX10_isAtWord, 3, (some .boolean)), (8, 200), ([(6, 0, 0), (13, 4, 0)], gi_26, [ac_25, am_2], []), [((0, 0, 0), gi_27, hq_9, [], [1]), ((0, 1, 0), gi_34, hq_9, [], [1])])
theorem hd_72 : con_72.1 = (yX10_isAtWord, cX10_isAtWord, 3, (some .boolean)) := rfl
noncomputable def cu_72 : List CUT2 := [((27, [lq 0 6 0, lq 1 13 4, lq 2 1 10], [], gi_35, hq_9), [], ([(10, (-1))], 4))]
theorem ch_72 : staG tb_X10_isAtWord 1 bt_RX10 [] ct_0 [(25, [(0, (2, 0, 3), 0, 696)])] [15] cu_72 20 con_72 = true := by decide +kernel
theorem cc_72 : cu_72.all (cutG tb_X10_isAtWord 1 bt_RX10 [] ct_0 [(25, [(0, (2, 0, 3), 0, 696)])] [15] cu_72 20 con_72) = true := by decide +kernel
theorem vl_72 (l : Launch) : Vld2 l vwCl gTbl con_72 := conR_ok3 gT_all (hd_72) rfl pn_RX10 tk_X10_isAtWord bo_RX10 xo_RX10 (cto_0 l) ch_72 (cut_all cc_72)
/-- RookHusting$Reader takeWord -/
noncomputable def con_73 : Con2 := ((yX6_takeWord, cX6_takeWord, 2, none), (9, 222), ([(6, 0, 0), (13, 4, 0)], gi_32, hc_4, []), [((9, 0, 0), gi_33, hq_11, [], tg_4)])
theorem hd_73 : con_73.1 = (yX6_takeWord, cX6_takeWord, 2, none) := rfl
theorem ck_RX6_48_72 : COK2 RX6 vwCl gTbl 48 0 con_72 := ⟨wd_617, wd_126, mh_X10_isAtWord, .inr (.inr ⟨rfl, wd_614, wd_615, wd_616, ⟨_, rfl, pd_X10_isAtWord⟩, 10, _, TX10, 6, rfl, rfl⟩)⟩
noncomputable def ct_73 : CTB2 := [(13, 48, 0, con_72, [1, 2]), (21, 70, 0, con_15, [0, 1]), (29, 102, 0, con_10, [1, 2])]
noncomputable def cu_73 : List CUT2 := []
theorem ch_73 : staG tb_X6_takeWord 1 bt_RX6 [] ct_73 [] [] cu_73 14 con_73 = true := by decide +kernel
theorem cto_73 (l : Launch) : CTOK2 l RX6 vwCl gTbl ct_73 := ct2_cons (vl_72 l) ck_RX6_48_72 (ct2_cons (vl_15 l) ck_RX6_70_15 (ct2_cons (vl_10 l) ck_RX6_102_10 (ct2_nil)))
theorem vl_73 (l : Launch) : Vld2 l vwCl gTbl con_73 := conR_ok3 gT_all (hd_73) rfl pn_RX6 tk_X6_takeWord bo_RX6 xo_RX6 (cto_73 l) ch_73 cut_nil
/-- RookHusting$Reader takeNumber -/
noncomputable def gi_87 : GI := jl_n [gp_41, jl_i 1 9, gp_42]
noncomputable def con_74 : Con2 := ((yX6_takeNumber, cX6_takeNumber, 5, (some .int)), (2, 40), ([(6, 0, 0), (0, 1, 0), (0, 9, 0), (0, 0, 0)], gi_36, hc_5, []), [((0, 0, 0), gi_37, hq_13, [], [1, 1, 1, 1, 1]), ((1, 12, 0), gi_87, hq_14, [], tg_0)])
theorem hd_74 : con_74.1 = (yX6_takeNumber, cX6_takeNumber, 5, (some .int)) := rfl
noncomputable def cu_74 : List CUT2 := []
theorem ch_74 : staG tb_X6_takeNumber 1 bt_RX6 [] ct_20 [(52, [(1, (1, 4, 0), 0, 0)])] [] cu_74 27 con_74 = true := by decide +kernel
theorem vl_74 (l : Launch) : Vld2 l vwCl gTbl con_74 := conR_ok3 gT_all (hd_74) rfl pn_RX6 tk_X6_takeNumber bo_RX6 xo_RX6 (cto_20 l) ch_74 cut_nil
/-- RookHusting$Reader takeNamed -/
noncomputable def con_75 : Con2 := ((yX6_takeNamed, cX6_takeNamed, 4, (some .int)), (10, 243), ([(6, 0, 0), (13, 4, 0), (0, 1, 0), (0, 9, 0)], gi_36, hc_5, []), [((1, 14, 0), gi_80, hq_15, [], tg_5)])
theorem hd_75 : con_75.1 = (yX6_takeNamed, cX6_takeNamed, 4, (some .int)) := rfl
theorem ck_RX6_116_74 : COK2 RX6 vwCl gTbl 116 0 con_74 := ⟨wd_679, wd_127, mh_X6_takeNumber, .inr (.inr ⟨rfl, wd_676, wd_678, wd_4, ⟨_, rfl, pd_X6_takeNumber⟩, 6, _, TX6, 4, rfl, rfl⟩)⟩
theorem ck_RX6_79_73 : COK2 RX6 vwCl gTbl 79 0 con_73 := ⟨wd_613, wd_127, mh_X6_takeWord, .inr (.inr ⟨rfl, wd_610, wd_612, wd_1, ⟨_, rfl, pd_X6_takeWord⟩, 6, _, TX6, 4, rfl, rfl⟩)⟩
noncomputable def ct_75 : CTB2 := [(2, 79, 0, con_73, [0, 1, 2]), (9, 116, 0, con_74, [0, 1, 2])]
noncomputable def cu_75 : List CUT2 := []
theorem ch_75 : staG tb_X6_takeNamed 1 bt_RX6 [] ct_75 [] [] cu_75 11 con_75 = true := by decide +kernel
theorem cto_75 (l : Launch) : CTOK2 l RX6 vwCl gTbl ct_75 := ct2_cons (vl_73 l) ck_RX6_79_73 (ct2_cons (vl_74 l) ck_RX6_116_74 (ct2_nil))
theorem vl_75 (l : Launch) : Vld2 l vwCl gTbl con_75 := conR_ok3 gT_all (hd_75) rfl pn_RX6 tk_X6_takeNamed bo_RX6 xo_RX6 (cto_75 l) ch_75 cut_nil
/-- RookHusting$Hundred addVoter -/
noncomputable def gi_88 : GI := jl_n [gp_58, jl_z 17]
noncomputable def ac_51 : AC := .inl (4, jl_n [jl_8 9 7, jl_c 6, vp_4])
noncomputable def hc_14 : List AC := [ac_51, am_7, am_8, am_5]
noncomputable def gi_89 : GI := jl_n [gp_58, jl_z 35]
noncomputable def ac_52 : AC := .inl (4, jl_n [jl_8 9 7, jl_c 7, vp_4])
noncomputable def ac_53 : AC := .inr (1, jl_n [js_m 30 2147483647 2147483647, jl_x (5, (0, (-1), 0))])
noncomputable def hq_26 : HP := [(true, ac_52), (true, am_7), (true, .inr (1, [(6, (2, 0, 5)), (1, (0, 0, 0))])), (true, ac_53)]
noncomputable def con_76 : Con2 := ((yX4_addVoter, cX4_addVoter, 3, none), (0, 0), ([(6, 0, 0), (1, 1, 0)], gi_88, hc_14, []), [((9, 0, 0), gi_89, hq_26, [], tg_6)])
theorem hd_76 : con_76.1 = (yX4_addVoter, cX4_addVoter, 3, none) := rfl
noncomputable def cu_76 : List CUT2 := []
theorem ch_76 : staG tb_X4_addVoter 1 bt_RX4 [] ct_6 [] [] cu_76 101 con_76 = true := by decide +kernel
theorem vl_76 (l : Launch) : Vld2 l vwCl gTbl con_76 := conR_ok3 gT_all (hd_76) rfl pn_RX4 tk_X4_addVoter bo_RX4 xo_RX4 (cto_6 l) ch_76 cut_nil
/-- RookHusting$Hundred addWant -/
noncomputable def gi_90 : GI := jl_n [gp_52, jl_z 18]
noncomputable def ac_54 : AC := .inl (4, jl_n [jl_8 9 7, jl_c 7, vp_5])
noncomputable def hc_15 : List AC := [ac_54, .inr (1, [(6, (2, 0, 5)), (1, (0, 0, 0))]), am_6, am_5]
noncomputable def gi_91 : GI := jl_n [gp_52, jl_z 19]
noncomputable def hq_27 : HP := [(false, ac_54), (true, .inr (1, [(6, (2, 0, 5)), (1, (0, 1, 0))])), (true, am_6), (true, am_5)]
noncomputable def con_77 : Con2 := ((yX4_addWant, cX4_addWant, 6, none), (0, 0), ([(6, 0, 0), (1, 1, 0)], gi_90, hc_15, []), [((9, 0, 0), gi_91, hq_27, [], [1])])
theorem hd_77 : con_77.1 = (yX4_addWant, cX4_addWant, 6, none) := rfl
noncomputable def cu_77 : List CUT2 := []
theorem ch_77 : staG tb_X4_addWant 1 bt_RX4 [] ct_6 [] [] cu_77 45 con_77 = true := by decide +kernel
theorem vl_77 (l : Launch) : Vld2 l vwCl gTbl con_77 := conR_ok3 gT_all (hd_77) rfl pn_RX4 tk_X4_addWant bo_RX4 xo_RX4 (cto_6 l) ch_77 cut_nil
/-- RookHusting hasBit -/
noncomputable def con_78 : Con2 := ((yX11_hasBit, cX11_hasBit, 2, (some .boolean)), (0, 0), ([(0, 16, 0), (0, 4, 0)], [(0, 0), (0, 0)], [], []), [((0, 1, 0), [(0, 0), (0, 0), (0, 0)], [], [], [1])])
theorem hd_78 : con_78.1 = (yX11_hasBit, cX11_hasBit, 2, (some .boolean)) := rfl
noncomputable def cu_78 : List CUT2 := []
theorem ch_78 : staG tb_X11_hasBit 1 bt_RX11 [] ct_3 [] [] cu_78 12 con_78 = true := by decide +kernel
theorem vl_78 (l : Launch) : Vld2 l vwCl gTbl con_78 := conR_ok3 gT_all (hd_78) rfl pn_RX11 tk_X11_hasBit bo_RX11 xo_RX11 (cto_3 l) ch_78 cut_nil
/-- RookHusting hasBit -/
noncomputable def con_79 : Con2 := ((yX11_hasBit, cX11_hasBit, 2, (some .boolean)), (0, 0), ([(0, 16, 0), (0, 3, 0)], [(0, 0), (0, 0)], [], []), [((0, 0, 0), [(0, 0), (0, 0), (0, 0)], [], [], [1])])
theorem hd_79 : con_79.1 = (yX11_hasBit, cX11_hasBit, 2, (some .boolean)) := rfl
noncomputable def cu_79 : List CUT2 := []
theorem ch_79 : staG tb_X11_hasBit 1 bt_RX11 [] ct_3 [] [] cu_79 11 con_79 = true := by decide +kernel
theorem vl_79 (l : Launch) : Vld2 l vwCl gTbl con_79 := conR_ok3 gT_all (hd_79) rfl pn_RX11 tk_X11_hasBit bo_RX11 xo_RX11 (cto_3 l) ch_79 cut_nil
/-- RookHusting hasBit -/
noncomputable def con_80 : Con2 := ((yX11_hasBit, cX11_hasBit, 2, (some .boolean)), (0, 0), ([(0, 16, 0), (0, 2, 0)], [(0, 0), (0, 0)], [], []), [((0, 0, 0), [(0, 0), (0, 0), (0, 0)], [], [], [1])])
theorem hd_80 : con_80.1 = (yX11_hasBit, cX11_hasBit, 2, (some .boolean)) := rfl
noncomputable def cu_80 : List CUT2 := []
theorem ch_80 : staG tb_X11_hasBit 1 bt_RX11 [] ct_3 [] [] cu_80 11 con_80 = true := by decide +kernel
theorem vl_80 (l : Launch) : Vld2 l vwCl gTbl con_80 := conR_ok3 gT_all (hd_80) rfl pn_RX11 tk_X11_hasBit bo_RX11 xo_RX11 (cto_3 l) ch_80 cut_nil
/-- RookHusting hasBit -/
noncomputable def con_81 : Con2 := ((yX11_hasBit, cX11_hasBit, 2, (some .boolean)), (0, 0), ([(0, 16, 0), (0, 1, 0)], [(0, 0), (0, 0)], [], []), [((0, 0, 0), [(0, 0), (0, 0), (0, 0)], [], [], [1])])
theorem hd_81 : con_81.1 = (yX11_hasBit, cX11_hasBit, 2, (some .boolean)) := rfl
noncomputable def cu_81 : List CUT2 := []
theorem ch_81 : staG tb_X11_hasBit 1 bt_RX11 [] ct_3 [] [] cu_81 11 con_81 = true := by decide +kernel
theorem vl_81 (l : Launch) : Vld2 l vwCl gTbl con_81 := conR_ok3 gT_all (hd_81) rfl pn_RX11 tk_X11_hasBit bo_RX11 xo_RX11 (cto_3 l) ch_81 cut_nil
/-- RookHusting hasBit -/
noncomputable def con_82 : Con2 := ((yX11_hasBit, cX11_hasBit, 2, (some .boolean)), (0, 0), ([(0, 16, 0), (0, 0, 0)], [(0, 0), (0, 0)], [], []), [((0, 0, 0), [(0, 0), (0, 0), (0, 0)], [], [], [1])])
theorem hd_82 : con_82.1 = (yX11_hasBit, cX11_hasBit, 2, (some .boolean)) := rfl
noncomputable def cu_82 : List CUT2 := []
theorem ch_82 : staG tb_X11_hasBit 1 bt_RX11 [] ct_3 [] [] cu_82 11 con_82 = true := by decide +kernel
theorem vl_82 (l : Launch) : Vld2 l vwCl gTbl con_82 := conR_ok3 gT_all (hd_82) rfl pn_RX11 tk_X11_hasBit bo_RX11 xo_RX11 (cto_3 l) ch_82 cut_nil
/-- RookHusting$Reader takeNumber -/
noncomputable def gi_92 : GI := jl_n [gp_23, gp_43]
noncomputable def gi_93 : GI := jl_n [gp_23, gp_43, gp_36]
noncomputable def gi_94 : GI := jl_n [gp_47, gp_3, gp_32]
noncomputable def con_83 : Con2 := ((yX6_takeNumber, cX6_takeNumber, 5, (some .int)), (2, 40), ([(6, 0, 0), (0, 0, 0), (1, 2, 0), (0, 16, 0)], gi_92, hc_5, []), [((0, 0, 0), gi_93, hq_13, [], [1, 1, 1, 1, 1]), ((0, 0, 0), gi_94, hq_14, [], tg_0), ((0, 1, 0), gi_73, hq_14, [], tg_0), ((0, 2, 0), gi_74, hq_14, [], tg_0), ((0, 3, 0), gi_75, hq_14, [], tg_0)])
theorem hd_83 : con_83.1 = (yX6_takeNumber, cX6_takeNumber, 5, (some .int)) := rfl
theorem ck_RX6_147_78 : COK2 RX6 vwCl gTbl 147 2 con_78 := ⟨wd_682, wd_125, mh_X11_hasBit, .inr (.inl ⟨rfl, by decide +kernel, wd_681, pd_X11_hasBit⟩)⟩
theorem ck_RX6_147_79 : COK2 RX6 vwCl gTbl 147 2 con_79 := ⟨wd_682, wd_125, mh_X11_hasBit, .inr (.inl ⟨rfl, by decide +kernel, wd_681, pd_X11_hasBit⟩)⟩
theorem ck_RX6_147_80 : COK2 RX6 vwCl gTbl 147 2 con_80 := ⟨wd_682, wd_125, mh_X11_hasBit, .inr (.inl ⟨rfl, by decide +kernel, wd_681, pd_X11_hasBit⟩)⟩
theorem ck_RX6_147_81 : COK2 RX6 vwCl gTbl 147 2 con_81 := ⟨wd_682, wd_125, mh_X11_hasBit, .inr (.inl ⟨rfl, by decide +kernel, wd_681, pd_X11_hasBit⟩)⟩
theorem ck_RX6_147_82 : COK2 RX6 vwCl gTbl 147 2 con_82 := ⟨wd_682, wd_125, mh_X11_hasBit, .inr (.inl ⟨rfl, by decide +kernel, wd_681, pd_X11_hasBit⟩)⟩
noncomputable def ct_83 : CTB2 := [(22, 70, 0, con_15, [0, 1]), (55, 147, 2, con_82, []), (55, 147, 2, con_81, []), (55, 147, 2, con_80, []), (55, 147, 2, con_79, []), (55, 147, 2, con_78, []), (63, 70, 0, con_19, [0, 1]), (72, 102, 0, con_10, [1, 2])]
noncomputable def cu_83 : List CUT2 := []
theorem ch_83 : staG tb_X6_takeNumber 1 bt_RX6 [] ct_83 [(52, [(1, (1, 4, 0), 0, 0)])] [] cu_83 31 con_83 = true := by decide +kernel
theorem cto_83 (l : Launch) : CTOK2 l RX6 vwCl gTbl ct_83 := ct2_cons (vl_15 l) ck_RX6_70_15 (ct2_cons (vl_82 l) ck_RX6_147_82 (ct2_cons (vl_81 l) ck_RX6_147_81 (ct2_cons (vl_80 l) ck_RX6_147_80 (ct2_cons (vl_79 l) ck_RX6_147_79 (ct2_cons (vl_78 l) ck_RX6_147_78 (ct2_cons (vl_19 l) ck_RX6_70_19 (ct2_cons (vl_10 l) ck_RX6_102_10 (ct2_nil))))))))
theorem vl_83 (l : Launch) : Vld2 l vwCl gTbl con_83 := conR_ok3 gT_all (hd_83) rfl pn_RX6 tk_X6_takeNumber bo_RX6 xo_RX6 (cto_83 l) ch_83 cut_nil
/-- RookHusting$Hundred addWant -/
noncomputable def hc_16 : List AC := [ac_54, .inr (1, [(6, (2, 0, 5)), (1, (0, 1, 0))]), am_6, am_5]
noncomputable def hq_28 : HP := [(false, ac_54), (true, .inr (1, [(6, (2, 0, 5)), (1, (0, 2, 0))])), (true, am_6), (true, am_5)]
noncomputable def con_84 : Con2 := ((yX4_addWant, cX4_addWant, 6, none), (0, 0), ([(6, 0, 0), (1, 1, 0)], gi_90, hc_16, []), [((9, 0, 0), gi_91, hq_28, [], [1])])
theorem hd_84 : con_84.1 = (yX4_addWant, cX4_addWant, 6, none) := rfl
noncomputable def cu_84 : List CUT2 := []
theorem ch_84 : staG tb_X4_addWant 1 bt_RX4 [] ct_6 [] [] cu_84 63 con_84 = true := by decide +kernel
theorem vl_84 (l : Launch) : Vld2 l vwCl gTbl con_84 := conR_ok3 gT_all (hd_84) rfl pn_RX4 tk_X4_addWant bo_RX4 xo_RX4 (cto_6 l) ch_84 cut_nil
/-- RookHusting hasBit -/
noncomputable def con_85 : Con2 := ((yX11_hasBit, cX11_hasBit, 2, (some .boolean)), (0, 0), ([(0, 8, 0), (0, 4, 0)], [(0, 0), (0, 0)], [], []), [((0, 0, 0), [(0, 0), (0, 0), (0, 0)], [], [], [1])])
theorem hd_85 : con_85.1 = (yX11_hasBit, cX11_hasBit, 2, (some .boolean)) := rfl
noncomputable def cu_85 : List CUT2 := []
theorem ch_85 : staG tb_X11_hasBit 1 bt_RX11 [] ct_3 [] [] cu_85 11 con_85 = true := by decide +kernel
theorem vl_85 (l : Launch) : Vld2 l vwCl gTbl con_85 := conR_ok3 gT_all (hd_85) rfl pn_RX11 tk_X11_hasBit bo_RX11 xo_RX11 (cto_3 l) ch_85 cut_nil
/-- RookHusting hasBit -/
noncomputable def con_86 : Con2 := ((yX11_hasBit, cX11_hasBit, 2, (some .boolean)), (0, 0), ([(0, 8, 0), (0, 3, 0)], [(0, 0), (0, 0)], [], []), [((0, 1, 0), [(0, 0), (0, 0), (0, 0)], [], [], [1])])
theorem hd_86 : con_86.1 = (yX11_hasBit, cX11_hasBit, 2, (some .boolean)) := rfl
noncomputable def cu_86 : List CUT2 := []
theorem ch_86 : staG tb_X11_hasBit 1 bt_RX11 [] ct_3 [] [] cu_86 12 con_86 = true := by decide +kernel
theorem vl_86 (l : Launch) : Vld2 l vwCl gTbl con_86 := conR_ok3 gT_all (hd_86) rfl pn_RX11 tk_X11_hasBit bo_RX11 xo_RX11 (cto_3 l) ch_86 cut_nil
/-- RookHusting hasBit -/
noncomputable def con_87 : Con2 := ((yX11_hasBit, cX11_hasBit, 2, (some .boolean)), (0, 0), ([(0, 8, 0), (0, 2, 0)], [(0, 0), (0, 0)], [], []), [((0, 0, 0), [(0, 0), (0, 0), (0, 0)], [], [], [1])])
theorem hd_87 : con_87.1 = (yX11_hasBit, cX11_hasBit, 2, (some .boolean)) := rfl
noncomputable def cu_87 : List CUT2 := []
theorem ch_87 : staG tb_X11_hasBit 1 bt_RX11 [] ct_3 [] [] cu_87 11 con_87 = true := by decide +kernel
theorem vl_87 (l : Launch) : Vld2 l vwCl gTbl con_87 := conR_ok3 gT_all (hd_87) rfl pn_RX11 tk_X11_hasBit bo_RX11 xo_RX11 (cto_3 l) ch_87 cut_nil
/-- RookHusting hasBit -/
noncomputable def con_88 : Con2 := ((yX11_hasBit, cX11_hasBit, 2, (some .boolean)), (0, 0), ([(0, 8, 0), (0, 1, 0)], [(0, 0), (0, 0)], [], []), [((0, 0, 0), [(0, 0), (0, 0), (0, 0)], [], [], [1])])
theorem hd_88 : con_88.1 = (yX11_hasBit, cX11_hasBit, 2, (some .boolean)) := rfl
noncomputable def cu_88 : List CUT2 := []
theorem ch_88 : staG tb_X11_hasBit 1 bt_RX11 [] ct_3 [] [] cu_88 11 con_88 = true := by decide +kernel
theorem vl_88 (l : Launch) : Vld2 l vwCl gTbl con_88 := conR_ok3 gT_all (hd_88) rfl pn_RX11 tk_X11_hasBit bo_RX11 xo_RX11 (cto_3 l) ch_88 cut_nil
/-- RookHusting hasBit -/
noncomputable def con_89 : Con2 := ((yX11_hasBit, cX11_hasBit, 2, (some .boolean)), (0, 0), ([(0, 8, 0), (0, 0, 0)], [(0, 0), (0, 0)], [], []), [((0, 0, 0), [(0, 0), (0, 0), (0, 0)], [], [], [1])])
theorem hd_89 : con_89.1 = (yX11_hasBit, cX11_hasBit, 2, (some .boolean)) := rfl
noncomputable def cu_89 : List CUT2 := []
theorem ch_89 : staG tb_X11_hasBit 1 bt_RX11 [] ct_3 [] [] cu_89 11 con_89 = true := by decide +kernel
theorem vl_89 (l : Launch) : Vld2 l vwCl gTbl con_89 := conR_ok3 gT_all (hd_89) rfl pn_RX11 tk_X11_hasBit bo_RX11 xo_RX11 (cto_3 l) ch_89 cut_nil
/-- RookHusting$Reader takeNumber -/
noncomputable def con_90 : Con2 := ((yX6_takeNumber, cX6_takeNumber, 5, (some .int)), (2, 40), ([(6, 0, 0), (0, 0, 0), (1, 2, 0), (0, 8, 0)], gi_92, hc_5, []), [((0, 0, 0), gi_93, hq_13, [], [1, 1, 1, 1, 1]), ((0, 0, 0), gi_94, hq_14, [], tg_0), ((0, 1, 0), gi_73, hq_14, [], tg_0), ((0, 2, 0), gi_74, hq_14, [], tg_0), ((0, 4, 0), gi_76, hq_14, [], tg_0)])
theorem hd_90 : con_90.1 = (yX6_takeNumber, cX6_takeNumber, 5, (some .int)) := rfl
theorem ck_RX6_147_85 : COK2 RX6 vwCl gTbl 147 2 con_85 := ⟨wd_682, wd_125, mh_X11_hasBit, .inr (.inl ⟨rfl, by decide +kernel, wd_681, pd_X11_hasBit⟩)⟩
theorem ck_RX6_147_86 : COK2 RX6 vwCl gTbl 147 2 con_86 := ⟨wd_682, wd_125, mh_X11_hasBit, .inr (.inl ⟨rfl, by decide +kernel, wd_681, pd_X11_hasBit⟩)⟩
theorem ck_RX6_147_87 : COK2 RX6 vwCl gTbl 147 2 con_87 := ⟨wd_682, wd_125, mh_X11_hasBit, .inr (.inl ⟨rfl, by decide +kernel, wd_681, pd_X11_hasBit⟩)⟩
theorem ck_RX6_147_88 : COK2 RX6 vwCl gTbl 147 2 con_88 := ⟨wd_682, wd_125, mh_X11_hasBit, .inr (.inl ⟨rfl, by decide +kernel, wd_681, pd_X11_hasBit⟩)⟩
theorem ck_RX6_147_89 : COK2 RX6 vwCl gTbl 147 2 con_89 := ⟨wd_682, wd_125, mh_X11_hasBit, .inr (.inl ⟨rfl, by decide +kernel, wd_681, pd_X11_hasBit⟩)⟩
noncomputable def ct_90 : CTB2 := [(22, 70, 0, con_15, [0, 1]), (55, 147, 2, con_89, []), (55, 147, 2, con_88, []), (55, 147, 2, con_87, []), (55, 147, 2, con_86, []), (55, 147, 2, con_85, []), (63, 70, 0, con_19, [0, 1]), (72, 102, 0, con_10, [1, 2])]
noncomputable def cu_90 : List CUT2 := []
theorem ch_90 : staG tb_X6_takeNumber 1 bt_RX6 [] ct_90 [(52, [(1, (1, 4, 0), 0, 0)])] [] cu_90 31 con_90 = true := by decide +kernel
theorem cto_90 (l : Launch) : CTOK2 l RX6 vwCl gTbl ct_90 := ct2_cons (vl_15 l) ck_RX6_70_15 (ct2_cons (vl_89 l) ck_RX6_147_89 (ct2_cons (vl_88 l) ck_RX6_147_88 (ct2_cons (vl_87 l) ck_RX6_147_87 (ct2_cons (vl_86 l) ck_RX6_147_86 (ct2_cons (vl_85 l) ck_RX6_147_85 (ct2_cons (vl_19 l) ck_RX6_70_19 (ct2_cons (vl_10 l) ck_RX6_102_10 (ct2_nil))))))))
theorem vl_90 (l : Launch) : Vld2 l vwCl gTbl con_90 := conR_ok3 gT_all (hd_90) rfl pn_RX6 tk_X6_takeNumber bo_RX6 xo_RX6 (cto_90 l) ch_90 cut_nil
/-- RookHusting hasBit -/
noncomputable def con_91 : Con2 := ((yX11_hasBit, cX11_hasBit, 2, (some .boolean)), (0, 0), ([(0, 4, 0), (0, 4, 0)], [(0, 0), (0, 0)], [], []), [((0, 0, 0), [(0, 0), (0, 0), (0, 0)], [], [], [1])])
theorem hd_91 : con_91.1 = (yX11_hasBit, cX11_hasBit, 2, (some .boolean)) := rfl
noncomputable def cu_91 : List CUT2 := []
theorem ch_91 : staG tb_X11_hasBit 1 bt_RX11 [] ct_3 [] [] cu_91 11 con_91 = true := by decide +kernel
theorem vl_91 (l : Launch) : Vld2 l vwCl gTbl con_91 := conR_ok3 gT_all (hd_91) rfl pn_RX11 tk_X11_hasBit bo_RX11 xo_RX11 (cto_3 l) ch_91 cut_nil
/-- RookHusting hasBit -/
noncomputable def con_92 : Con2 := ((yX11_hasBit, cX11_hasBit, 2, (some .boolean)), (0, 0), ([(0, 4, 0), (0, 3, 0)], [(0, 0), (0, 0)], [], []), [((0, 0, 0), [(0, 0), (0, 0), (0, 0)], [], [], [1])])
theorem hd_92 : con_92.1 = (yX11_hasBit, cX11_hasBit, 2, (some .boolean)) := rfl
noncomputable def cu_92 : List CUT2 := []
theorem ch_92 : staG tb_X11_hasBit 1 bt_RX11 [] ct_3 [] [] cu_92 11 con_92 = true := by decide +kernel
theorem vl_92 (l : Launch) : Vld2 l vwCl gTbl con_92 := conR_ok3 gT_all (hd_92) rfl pn_RX11 tk_X11_hasBit bo_RX11 xo_RX11 (cto_3 l) ch_92 cut_nil
/-- RookHusting hasBit -/
noncomputable def con_93 : Con2 := ((yX11_hasBit, cX11_hasBit, 2, (some .boolean)), (0, 0), ([(0, 4, 0), (0, 2, 0)], [(0, 0), (0, 0)], [], []), [((0, 1, 0), [(0, 0), (0, 0), (0, 0)], [], [], [1])])
theorem hd_93 : con_93.1 = (yX11_hasBit, cX11_hasBit, 2, (some .boolean)) := rfl
noncomputable def cu_93 : List CUT2 := []
theorem ch_93 : staG tb_X11_hasBit 1 bt_RX11 [] ct_3 [] [] cu_93 12 con_93 = true := by decide +kernel
theorem vl_93 (l : Launch) : Vld2 l vwCl gTbl con_93 := conR_ok3 gT_all (hd_93) rfl pn_RX11 tk_X11_hasBit bo_RX11 xo_RX11 (cto_3 l) ch_93 cut_nil
/-- RookHusting hasBit -/
noncomputable def con_94 : Con2 := ((yX11_hasBit, cX11_hasBit, 2, (some .boolean)), (0, 0), ([(0, 4, 0), (0, 1, 0)], [(0, 0), (0, 0)], [], []), [((0, 0, 0), [(0, 0), (0, 0), (0, 0)], [], [], [1])])
theorem hd_94 : con_94.1 = (yX11_hasBit, cX11_hasBit, 2, (some .boolean)) := rfl
noncomputable def cu_94 : List CUT2 := []
theorem ch_94 : staG tb_X11_hasBit 1 bt_RX11 [] ct_3 [] [] cu_94 11 con_94 = true := by decide +kernel
theorem vl_94 (l : Launch) : Vld2 l vwCl gTbl con_94 := conR_ok3 gT_all (hd_94) rfl pn_RX11 tk_X11_hasBit bo_RX11 xo_RX11 (cto_3 l) ch_94 cut_nil
/-- RookHusting hasBit -/
noncomputable def con_95 : Con2 := ((yX11_hasBit, cX11_hasBit, 2, (some .boolean)), (0, 0), ([(0, 4, 0), (0, 0, 0)], [(0, 0), (0, 0)], [], []), [((0, 0, 0), [(0, 0), (0, 0), (0, 0)], [], [], [1])])
theorem hd_95 : con_95.1 = (yX11_hasBit, cX11_hasBit, 2, (some .boolean)) := rfl
noncomputable def cu_95 : List CUT2 := []
theorem ch_95 : staG tb_X11_hasBit 1 bt_RX11 [] ct_3 [] [] cu_95 11 con_95 = true := by decide +kernel
theorem vl_95 (l : Launch) : Vld2 l vwCl gTbl con_95 := conR_ok3 gT_all (hd_95) rfl pn_RX11 tk_X11_hasBit bo_RX11 xo_RX11 (cto_3 l) ch_95 cut_nil
/-- RookHusting$Reader takeNumber -/
noncomputable def con_96 : Con2 := ((yX6_takeNumber, cX6_takeNumber, 5, (some .int)), (2, 40), ([(6, 0, 0), (0, 0, 0), (1, 2, 0), (0, 4, 0)], gi_92, hc_5, []), [((0, 0, 0), gi_93, hq_13, [], [1, 1, 1, 1, 1]), ((0, 0, 0), gi_94, hq_14, [], tg_0), ((0, 1, 0), gi_73, hq_14, [], tg_0), ((0, 3, 0), gi_75, hq_14, [], tg_0), ((0, 4, 0), gi_76, hq_14, [], tg_0)])
theorem hd_96 : con_96.1 = (yX6_takeNumber, cX6_takeNumber, 5, (some .int)) := rfl
theorem ck_RX6_147_91 : COK2 RX6 vwCl gTbl 147 2 con_91 := ⟨wd_682, wd_125, mh_X11_hasBit, .inr (.inl ⟨rfl, by decide +kernel, wd_681, pd_X11_hasBit⟩)⟩
theorem ck_RX6_147_92 : COK2 RX6 vwCl gTbl 147 2 con_92 := ⟨wd_682, wd_125, mh_X11_hasBit, .inr (.inl ⟨rfl, by decide +kernel, wd_681, pd_X11_hasBit⟩)⟩
theorem ck_RX6_147_93 : COK2 RX6 vwCl gTbl 147 2 con_93 := ⟨wd_682, wd_125, mh_X11_hasBit, .inr (.inl ⟨rfl, by decide +kernel, wd_681, pd_X11_hasBit⟩)⟩
theorem ck_RX6_147_94 : COK2 RX6 vwCl gTbl 147 2 con_94 := ⟨wd_682, wd_125, mh_X11_hasBit, .inr (.inl ⟨rfl, by decide +kernel, wd_681, pd_X11_hasBit⟩)⟩
theorem ck_RX6_147_95 : COK2 RX6 vwCl gTbl 147 2 con_95 := ⟨wd_682, wd_125, mh_X11_hasBit, .inr (.inl ⟨rfl, by decide +kernel, wd_681, pd_X11_hasBit⟩)⟩
noncomputable def ct_96 : CTB2 := [(22, 70, 0, con_15, [0, 1]), (55, 147, 2, con_95, []), (55, 147, 2, con_94, []), (55, 147, 2, con_93, []), (55, 147, 2, con_92, []), (55, 147, 2, con_91, []), (63, 70, 0, con_19, [0, 1]), (72, 102, 0, con_10, [1, 2])]
noncomputable def cu_96 : List CUT2 := []
theorem ch_96 : staG tb_X6_takeNumber 1 bt_RX6 [] ct_96 [(52, [(1, (1, 4, 0), 0, 0)])] [] cu_96 31 con_96 = true := by decide +kernel
theorem cto_96 (l : Launch) : CTOK2 l RX6 vwCl gTbl ct_96 := ct2_cons (vl_15 l) ck_RX6_70_15 (ct2_cons (vl_95 l) ck_RX6_147_95 (ct2_cons (vl_94 l) ck_RX6_147_94 (ct2_cons (vl_93 l) ck_RX6_147_93 (ct2_cons (vl_92 l) ck_RX6_147_92 (ct2_cons (vl_91 l) ck_RX6_147_91 (ct2_cons (vl_19 l) ck_RX6_70_19 (ct2_cons (vl_10 l) ck_RX6_102_10 (ct2_nil))))))))
theorem vl_96 (l : Launch) : Vld2 l vwCl gTbl con_96 := conR_ok3 gT_all (hd_96) rfl pn_RX6 tk_X6_takeNumber bo_RX6 xo_RX6 (cto_96 l) ch_96 cut_nil
/-- RookHusting hasBit -/
noncomputable def con_97 : Con2 := ((yX11_hasBit, cX11_hasBit, 2, (some .boolean)), (0, 0), ([(0, 2, 0), (0, 4, 0)], [(0, 0), (0, 0)], [], []), [((0, 0, 0), [(0, 0), (0, 0), (0, 0)], [], [], [1])])
theorem hd_97 : con_97.1 = (yX11_hasBit, cX11_hasBit, 2, (some .boolean)) := rfl
noncomputable def cu_97 : List CUT2 := []
theorem ch_97 : staG tb_X11_hasBit 1 bt_RX11 [] ct_3 [] [] cu_97 11 con_97 = true := by decide +kernel
theorem vl_97 (l : Launch) : Vld2 l vwCl gTbl con_97 := conR_ok3 gT_all (hd_97) rfl pn_RX11 tk_X11_hasBit bo_RX11 xo_RX11 (cto_3 l) ch_97 cut_nil
/-- RookHusting hasBit -/
noncomputable def con_98 : Con2 := ((yX11_hasBit, cX11_hasBit, 2, (some .boolean)), (0, 0), ([(0, 2, 0), (0, 3, 0)], [(0, 0), (0, 0)], [], []), [((0, 0, 0), [(0, 0), (0, 0), (0, 0)], [], [], [1])])
theorem hd_98 : con_98.1 = (yX11_hasBit, cX11_hasBit, 2, (some .boolean)) := rfl
noncomputable def cu_98 : List CUT2 := []
theorem ch_98 : staG tb_X11_hasBit 1 bt_RX11 [] ct_3 [] [] cu_98 11 con_98 = true := by decide +kernel
theorem vl_98 (l : Launch) : Vld2 l vwCl gTbl con_98 := conR_ok3 gT_all (hd_98) rfl pn_RX11 tk_X11_hasBit bo_RX11 xo_RX11 (cto_3 l) ch_98 cut_nil
/-- RookHusting hasBit -/
noncomputable def con_99 : Con2 := ((yX11_hasBit, cX11_hasBit, 2, (some .boolean)), (0, 0), ([(0, 2, 0), (0, 2, 0)], [(0, 0), (0, 0)], [], []), [((0, 0, 0), [(0, 0), (0, 0), (0, 0)], [], [], [1])])
theorem hd_99 : con_99.1 = (yX11_hasBit, cX11_hasBit, 2, (some .boolean)) := rfl
noncomputable def cu_99 : List CUT2 := []
theorem ch_99 : staG tb_X11_hasBit 1 bt_RX11 [] ct_3 [] [] cu_99 11 con_99 = true := by decide +kernel
theorem vl_99 (l : Launch) : Vld2 l vwCl gTbl con_99 := conR_ok3 gT_all (hd_99) rfl pn_RX11 tk_X11_hasBit bo_RX11 xo_RX11 (cto_3 l) ch_99 cut_nil
/-- RookHusting hasBit -/
noncomputable def con_100 : Con2 := ((yX11_hasBit, cX11_hasBit, 2, (some .boolean)), (0, 0), ([(0, 2, 0), (0, 1, 0)], [(0, 0), (0, 0)], [], []), [((0, 1, 0), [(0, 0), (0, 0), (0, 0)], [], [], [1])])
theorem hd_100 : con_100.1 = (yX11_hasBit, cX11_hasBit, 2, (some .boolean)) := rfl
noncomputable def cu_100 : List CUT2 := []
theorem ch_100 : staG tb_X11_hasBit 1 bt_RX11 [] ct_3 [] [] cu_100 12 con_100 = true := by decide +kernel
theorem vl_100 (l : Launch) : Vld2 l vwCl gTbl con_100 := conR_ok3 gT_all (hd_100) rfl pn_RX11 tk_X11_hasBit bo_RX11 xo_RX11 (cto_3 l) ch_100 cut_nil
/-- RookHusting hasBit -/
noncomputable def con_101 : Con2 := ((yX11_hasBit, cX11_hasBit, 2, (some .boolean)), (0, 0), ([(0, 2, 0), (0, 0, 0)], [(0, 0), (0, 0)], [], []), [((0, 0, 0), [(0, 0), (0, 0), (0, 0)], [], [], [1])])
theorem hd_101 : con_101.1 = (yX11_hasBit, cX11_hasBit, 2, (some .boolean)) := rfl
noncomputable def cu_101 : List CUT2 := []
theorem ch_101 : staG tb_X11_hasBit 1 bt_RX11 [] ct_3 [] [] cu_101 11 con_101 = true := by decide +kernel
theorem vl_101 (l : Launch) : Vld2 l vwCl gTbl con_101 := conR_ok3 gT_all (hd_101) rfl pn_RX11 tk_X11_hasBit bo_RX11 xo_RX11 (cto_3 l) ch_101 cut_nil
/-- RookHusting$Reader takeNumber -/
noncomputable def con_102 : Con2 := ((yX6_takeNumber, cX6_takeNumber, 5, (some .int)), (2, 40), ([(6, 0, 0), (0, 0, 0), (1, 2, 0), (0, 2, 0)], gi_92, hc_5, []), [((0, 0, 0), gi_93, hq_13, [], [1, 1, 1, 1, 1]), ((0, 0, 0), gi_94, hq_14, [], tg_0), ((0, 2, 0), gi_74, hq_14, [], tg_0), ((0, 3, 0), gi_75, hq_14, [], tg_0), ((0, 4, 0), gi_76, hq_14, [], tg_0)])
theorem hd_102 : con_102.1 = (yX6_takeNumber, cX6_takeNumber, 5, (some .int)) := rfl
theorem ck_RX6_147_97 : COK2 RX6 vwCl gTbl 147 2 con_97 := ⟨wd_682, wd_125, mh_X11_hasBit, .inr (.inl ⟨rfl, by decide +kernel, wd_681, pd_X11_hasBit⟩)⟩
theorem ck_RX6_147_98 : COK2 RX6 vwCl gTbl 147 2 con_98 := ⟨wd_682, wd_125, mh_X11_hasBit, .inr (.inl ⟨rfl, by decide +kernel, wd_681, pd_X11_hasBit⟩)⟩
theorem ck_RX6_147_99 : COK2 RX6 vwCl gTbl 147 2 con_99 := ⟨wd_682, wd_125, mh_X11_hasBit, .inr (.inl ⟨rfl, by decide +kernel, wd_681, pd_X11_hasBit⟩)⟩
theorem ck_RX6_147_100 : COK2 RX6 vwCl gTbl 147 2 con_100 := ⟨wd_682, wd_125, mh_X11_hasBit, .inr (.inl ⟨rfl, by decide +kernel, wd_681, pd_X11_hasBit⟩)⟩
theorem ck_RX6_147_101 : COK2 RX6 vwCl gTbl 147 2 con_101 := ⟨wd_682, wd_125, mh_X11_hasBit, .inr (.inl ⟨rfl, by decide +kernel, wd_681, pd_X11_hasBit⟩)⟩
noncomputable def ct_102 : CTB2 := [(22, 70, 0, con_15, [0, 1]), (55, 147, 2, con_101, []), (55, 147, 2, con_100, []), (55, 147, 2, con_99, []), (55, 147, 2, con_98, []), (55, 147, 2, con_97, []), (63, 70, 0, con_19, [0, 1]), (72, 102, 0, con_10, [1, 2])]
noncomputable def cu_102 : List CUT2 := []
theorem ch_102 : staG tb_X6_takeNumber 1 bt_RX6 [] ct_102 [(52, [(1, (1, 4, 0), 0, 0)])] [] cu_102 31 con_102 = true := by decide +kernel
theorem cto_102 (l : Launch) : CTOK2 l RX6 vwCl gTbl ct_102 := ct2_cons (vl_15 l) ck_RX6_70_15 (ct2_cons (vl_101 l) ck_RX6_147_101 (ct2_cons (vl_100 l) ck_RX6_147_100 (ct2_cons (vl_99 l) ck_RX6_147_99 (ct2_cons (vl_98 l) ck_RX6_147_98 (ct2_cons (vl_97 l) ck_RX6_147_97 (ct2_cons (vl_19 l) ck_RX6_70_19 (ct2_cons (vl_10 l) ck_RX6_102_10 (ct2_nil))))))))
theorem vl_102 (l : Launch) : Vld2 l vwCl gTbl con_102 := conR_ok3 gT_all (hd_102) rfl pn_RX6 tk_X6_takeNumber bo_RX6 xo_RX6 (cto_102 l) ch_102 cut_nil
/-- RookHusting$Reader takeNumber -/
noncomputable def con_103 : Con2 := ((yX6_takeNumber, cX6_takeNumber, 5, (some .int)), (2, 40), ([(6, 0, 0), (0, 0, 0), (1, 2, 0), (0, 1, 0)], gi_92, hc_5, []), [((0, 0, 0), gi_93, hq_13, [], [1, 1, 1, 1, 1]), ((0, 1, 0), gi_73, hq_14, [], tg_0), ((0, 2, 0), gi_74, hq_14, [], tg_0), ((0, 3, 0), gi_75, hq_14, [], tg_0), ((0, 4, 0), gi_76, hq_14, [], tg_0)])
theorem hd_103 : con_103.1 = (yX6_takeNumber, cX6_takeNumber, 5, (some .int)) := rfl
noncomputable def cu_103 : List CUT2 := []
theorem ch_103 : staG tb_X6_takeNumber 1 bt_RX6 [] ct_58 [(52, [(1, (1, 4, 0), 0, 0)])] [] cu_103 31 con_103 = true := by decide +kernel
theorem vl_103 (l : Launch) : Vld2 l vwCl gTbl con_103 := conR_ok3 gT_all (hd_103) rfl pn_RX6 tk_X6_takeNumber bo_RX6 xo_RX6 (cto_58 l) ch_103 cut_nil
/-- RookHusting hasBit -/
noncomputable def con_104 : Con2 := ((yX11_hasBit, cX11_hasBit, 2, (some .boolean)), (0, 0), ([(0, 24, 0), (0, 4, 0)], [(0, 0), (0, 0)], [], []), [((0, 1, 0), [(0, 0), (0, 0), (0, 0)], [], [], [1])])
theorem hd_104 : con_104.1 = (yX11_hasBit, cX11_hasBit, 2, (some .boolean)) := rfl
noncomputable def cu_104 : List CUT2 := []
theorem ch_104 : staG tb_X11_hasBit 1 bt_RX11 [] ct_3 [] [] cu_104 12 con_104 = true := by decide +kernel
theorem vl_104 (l : Launch) : Vld2 l vwCl gTbl con_104 := conR_ok3 gT_all (hd_104) rfl pn_RX11 tk_X11_hasBit bo_RX11 xo_RX11 (cto_3 l) ch_104 cut_nil
/-- RookHusting hasBit -/
noncomputable def con_105 : Con2 := ((yX11_hasBit, cX11_hasBit, 2, (some .boolean)), (0, 0), ([(0, 24, 0), (0, 3, 0)], [(0, 0), (0, 0)], [], []), [((0, 1, 0), [(0, 0), (0, 0), (0, 0)], [], [], [1])])
theorem hd_105 : con_105.1 = (yX11_hasBit, cX11_hasBit, 2, (some .boolean)) := rfl
noncomputable def cu_105 : List CUT2 := []
theorem ch_105 : staG tb_X11_hasBit 1 bt_RX11 [] ct_3 [] [] cu_105 12 con_105 = true := by decide +kernel
theorem vl_105 (l : Launch) : Vld2 l vwCl gTbl con_105 := conR_ok3 gT_all (hd_105) rfl pn_RX11 tk_X11_hasBit bo_RX11 xo_RX11 (cto_3 l) ch_105 cut_nil
/-- RookHusting hasBit -/
noncomputable def con_106 : Con2 := ((yX11_hasBit, cX11_hasBit, 2, (some .boolean)), (0, 0), ([(0, 24, 0), (0, 2, 0)], [(0, 0), (0, 0)], [], []), [((0, 0, 0), [(0, 0), (0, 0), (0, 0)], [], [], [1])])
theorem hd_106 : con_106.1 = (yX11_hasBit, cX11_hasBit, 2, (some .boolean)) := rfl
noncomputable def cu_106 : List CUT2 := []
theorem ch_106 : staG tb_X11_hasBit 1 bt_RX11 [] ct_3 [] [] cu_106 11 con_106 = true := by decide +kernel
theorem vl_106 (l : Launch) : Vld2 l vwCl gTbl con_106 := conR_ok3 gT_all (hd_106) rfl pn_RX11 tk_X11_hasBit bo_RX11 xo_RX11 (cto_3 l) ch_106 cut_nil
/-- RookHusting hasBit -/
noncomputable def con_107 : Con2 := ((yX11_hasBit, cX11_hasBit, 2, (some .boolean)), (0, 0), ([(0, 24, 0), (0, 1, 0)], [(0, 0), (0, 0)], [], []), [((0, 0, 0), [(0, 0), (0, 0), (0, 0)], [], [], [1])])
theorem hd_107 : con_107.1 = (yX11_hasBit, cX11_hasBit, 2, (some .boolean)) := rfl
noncomputable def cu_107 : List CUT2 := []
theorem ch_107 : staG tb_X11_hasBit 1 bt_RX11 [] ct_3 [] [] cu_107 11 con_107 = true := by decide +kernel
theorem vl_107 (l : Launch) : Vld2 l vwCl gTbl con_107 := conR_ok3 gT_all (hd_107) rfl pn_RX11 tk_X11_hasBit bo_RX11 xo_RX11 (cto_3 l) ch_107 cut_nil
/-- RookHusting hasBit -/
noncomputable def con_108 : Con2 := ((yX11_hasBit, cX11_hasBit, 2, (some .boolean)), (0, 0), ([(0, 24, 0), (0, 0, 0)], [(0, 0), (0, 0)], [], []), [((0, 0, 0), [(0, 0), (0, 0), (0, 0)], [], [], [1])])
theorem hd_108 : con_108.1 = (yX11_hasBit, cX11_hasBit, 2, (some .boolean)) := rfl
noncomputable def cu_108 : List CUT2 := []
theorem ch_108 : staG tb_X11_hasBit 1 bt_RX11 [] ct_3 [] [] cu_108 11 con_108 = true := by decide +kernel
theorem vl_108 (l : Launch) : Vld2 l vwCl gTbl con_108 := conR_ok3 gT_all (hd_108) rfl pn_RX11 tk_X11_hasBit bo_RX11 xo_RX11 (cto_3 l) ch_108 cut_nil
/-- RookHusting$Reader takeNumber -/
noncomputable def con_109 : Con2 := ((yX6_takeNumber, cX6_takeNumber, 5, (some .int)), (2, 40), ([(6, 0, 0), (0, 0, 0), (1, 2, 0), (0, 24, 0)], gi_92, hc_5, []), [((0, 0, 0), gi_93, hq_13, [], [1, 1, 1, 1, 1]), ((0, 0, 0), gi_94, hq_14, [], tg_0), ((0, 1, 0), gi_73, hq_14, [], tg_0), ((0, 2, 0), gi_74, hq_14, [], tg_0)])
theorem hd_109 : con_109.1 = (yX6_takeNumber, cX6_takeNumber, 5, (some .int)) := rfl
theorem ck_RX6_147_104 : COK2 RX6 vwCl gTbl 147 2 con_104 := ⟨wd_682, wd_125, mh_X11_hasBit, .inr (.inl ⟨rfl, by decide +kernel, wd_681, pd_X11_hasBit⟩)⟩
theorem ck_RX6_147_105 : COK2 RX6 vwCl gTbl 147 2 con_105 := ⟨wd_682, wd_125, mh_X11_hasBit, .inr (.inl ⟨rfl, by decide +kernel, wd_681, pd_X11_hasBit⟩)⟩
theorem ck_RX6_147_106 : COK2 RX6 vwCl gTbl 147 2 con_106 := ⟨wd_682, wd_125, mh_X11_hasBit, .inr (.inl ⟨rfl, by decide +kernel, wd_681, pd_X11_hasBit⟩)⟩
theorem ck_RX6_147_107 : COK2 RX6 vwCl gTbl 147 2 con_107 := ⟨wd_682, wd_125, mh_X11_hasBit, .inr (.inl ⟨rfl, by decide +kernel, wd_681, pd_X11_hasBit⟩)⟩
theorem ck_RX6_147_108 : COK2 RX6 vwCl gTbl 147 2 con_108 := ⟨wd_682, wd_125, mh_X11_hasBit, .inr (.inl ⟨rfl, by decide +kernel, wd_681, pd_X11_hasBit⟩)⟩
noncomputable def ct_109 : CTB2 := [(22, 70, 0, con_15, [0, 1]), (55, 147, 2, con_108, []), (55, 147, 2, con_107, []), (55, 147, 2, con_106, []), (55, 147, 2, con_105, []), (55, 147, 2, con_104, []), (63, 70, 0, con_19, [0, 1]), (72, 102, 0, con_10, [1, 2])]
noncomputable def cu_109 : List CUT2 := []
theorem ch_109 : staG tb_X6_takeNumber 1 bt_RX6 [] ct_109 [(52, [(1, (1, 4, 0), 0, 0)])] [] cu_109 31 con_109 = true := by decide +kernel
theorem cto_109 (l : Launch) : CTOK2 l RX6 vwCl gTbl ct_109 := ct2_cons (vl_15 l) ck_RX6_70_15 (ct2_cons (vl_108 l) ck_RX6_147_108 (ct2_cons (vl_107 l) ck_RX6_147_107 (ct2_cons (vl_106 l) ck_RX6_147_106 (ct2_cons (vl_105 l) ck_RX6_147_105 (ct2_cons (vl_104 l) ck_RX6_147_104 (ct2_cons (vl_19 l) ck_RX6_70_19 (ct2_cons (vl_10 l) ck_RX6_102_10 (ct2_nil))))))))
theorem vl_109 (l : Launch) : Vld2 l vwCl gTbl con_109 := conR_ok3 gT_all (hd_109) rfl pn_RX6 tk_X6_takeNumber bo_RX6 xo_RX6 (cto_109 l) ch_109 cut_nil
/-- RookHusting$Hundred addWant -/
noncomputable def hc_17 : List AC := [ac_54, .inr (1, [(6, (2, 0, 5)), (1, (0, 2, 0))]), am_6, am_5]
noncomputable def hq_29 : HP := [(false, ac_54), (true, .inr (1, [(6, (2, 0, 5)), (1, (0, 3, 0))])), (true, am_6), (true, am_5)]
noncomputable def con_110 : Con2 := ((yX4_addWant, cX4_addWant, 6, none), (0, 0), ([(6, 0, 0), (1, 1, 0)], gi_90, hc_17, []), [((9, 0, 0), gi_91, hq_29, [], [1])])
theorem hd_110 : con_110.1 = (yX4_addWant, cX4_addWant, 6, none) := rfl
noncomputable def cu_110 : List CUT2 := []
theorem ch_110 : staG tb_X4_addWant 1 bt_RX4 [] ct_6 [] [] cu_110 81 con_110 = true := by decide +kernel
theorem vl_110 (l : Launch) : Vld2 l vwCl gTbl con_110 := conR_ok3 gT_all (hd_110) rfl pn_RX4 tk_X4_addWant bo_RX4 xo_RX4 (cto_6 l) ch_110 cut_nil
/-- RookHusting hasBit -/
noncomputable def con_111 : Con2 := ((yX11_hasBit, cX11_hasBit, 2, (some .boolean)), (0, 0), ([(0, 20, 0), (0, 4, 0)], [(0, 0), (0, 0)], [], []), [((0, 1, 0), [(0, 0), (0, 0), (0, 0)], [], [], [1])])
theorem hd_111 : con_111.1 = (yX11_hasBit, cX11_hasBit, 2, (some .boolean)) := rfl
noncomputable def cu_111 : List CUT2 := []
theorem ch_111 : staG tb_X11_hasBit 1 bt_RX11 [] ct_3 [] [] cu_111 12 con_111 = true := by decide +kernel
theorem vl_111 (l : Launch) : Vld2 l vwCl gTbl con_111 := conR_ok3 gT_all (hd_111) rfl pn_RX11 tk_X11_hasBit bo_RX11 xo_RX11 (cto_3 l) ch_111 cut_nil
/-- RookHusting hasBit -/
noncomputable def con_112 : Con2 := ((yX11_hasBit, cX11_hasBit, 2, (some .boolean)), (0, 0), ([(0, 20, 0), (0, 3, 0)], [(0, 0), (0, 0)], [], []), [((0, 0, 0), [(0, 0), (0, 0), (0, 0)], [], [], [1])])
theorem hd_112 : con_112.1 = (yX11_hasBit, cX11_hasBit, 2, (some .boolean)) := rfl
noncomputable def cu_112 : List CUT2 := []
theorem ch_112 : staG tb_X11_hasBit 1 bt_RX11 [] ct_3 [] [] cu_112 11 con_112 = true := by decide +kernel
theorem vl_112 (l : Launch) : Vld2 l vwCl gTbl con_112 := conR_ok3 gT_all (hd_112) rfl pn_RX11 tk_X11_hasBit bo_RX11 xo_RX11 (cto_3 l) ch_112 cut_nil
/-- RookHusting hasBit -/
noncomputable def con_113 : Con2 := ((yX11_hasBit, cX11_hasBit, 2, (some .boolean)), (0, 0), ([(0, 20, 0), (0, 2, 0)], [(0, 0), (0, 0)], [], []), [((0, 1, 0), [(0, 0), (0, 0), (0, 0)], [], [], [1])])
theorem hd_113 : con_113.1 = (yX11_hasBit, cX11_hasBit, 2, (some .boolean)) := rfl
noncomputable def cu_113 : List CUT2 := []
theorem ch_113 : staG tb_X11_hasBit 1 bt_RX11 [] ct_3 [] [] cu_113 12 con_113 = true := by decide +kernel
theorem vl_113 (l : Launch) : Vld2 l vwCl gTbl con_113 := conR_ok3 gT_all (hd_113) rfl pn_RX11 tk_X11_hasBit bo_RX11 xo_RX11 (cto_3 l) ch_113 cut_nil
/-- RookHusting hasBit -/
noncomputable def con_114 : Con2 := ((yX11_hasBit, cX11_hasBit, 2, (some .boolean)), (0, 0), ([(0, 20, 0), (0, 1, 0)], [(0, 0), (0, 0)], [], []), [((0, 0, 0), [(0, 0), (0, 0), (0, 0)], [], [], [1])])
theorem hd_114 : con_114.1 = (yX11_hasBit, cX11_hasBit, 2, (some .boolean)) := rfl
noncomputable def cu_114 : List CUT2 := []
theorem ch_114 : staG tb_X11_hasBit 1 bt_RX11 [] ct_3 [] [] cu_114 11 con_114 = true := by decide +kernel
theorem vl_114 (l : Launch) : Vld2 l vwCl gTbl con_114 := conR_ok3 gT_all (hd_114) rfl pn_RX11 tk_X11_hasBit bo_RX11 xo_RX11 (cto_3 l) ch_114 cut_nil
/-- RookHusting hasBit -/
noncomputable def con_115 : Con2 := ((yX11_hasBit, cX11_hasBit, 2, (some .boolean)), (0, 0), ([(0, 20, 0), (0, 0, 0)], [(0, 0), (0, 0)], [], []), [((0, 0, 0), [(0, 0), (0, 0), (0, 0)], [], [], [1])])
theorem hd_115 : con_115.1 = (yX11_hasBit, cX11_hasBit, 2, (some .boolean)) := rfl
noncomputable def cu_115 : List CUT2 := []
theorem ch_115 : staG tb_X11_hasBit 1 bt_RX11 [] ct_3 [] [] cu_115 11 con_115 = true := by decide +kernel
theorem vl_115 (l : Launch) : Vld2 l vwCl gTbl con_115 := conR_ok3 gT_all (hd_115) rfl pn_RX11 tk_X11_hasBit bo_RX11 xo_RX11 (cto_3 l) ch_115 cut_nil
/-- RookHusting$Reader takeNumber -/
noncomputable def con_116 : Con2 := ((yX6_takeNumber, cX6_takeNumber, 5, (some .int)), (2, 40), ([(6, 0, 0), (0, 0, 0), (1, 2, 0), (0, 20, 0)], gi_92, hc_5, []), [((0, 0, 0), gi_93, hq_13, [], [1, 1, 1, 1, 1]), ((0, 0, 0), gi_94, hq_14, [], tg_0), ((0, 1, 0), gi_73, hq_14, [], tg_0), ((0, 3, 0), gi_75, hq_14, [], tg_0)])
theorem hd_116 : con_116.1 = (yX6_takeNumber, cX6_takeNumber, 5, (some .int)) := rfl
theorem ck_RX6_147_111 : COK2 RX6 vwCl gTbl 147 2 con_111 := ⟨wd_682, wd_125, mh_X11_hasBit, .inr (.inl ⟨rfl, by decide +kernel, wd_681, pd_X11_hasBit⟩)⟩
theorem ck_RX6_147_112 : COK2 RX6 vwCl gTbl 147 2 con_112 := ⟨wd_682, wd_125, mh_X11_hasBit, .inr (.inl ⟨rfl, by decide +kernel, wd_681, pd_X11_hasBit⟩)⟩
theorem ck_RX6_147_113 : COK2 RX6 vwCl gTbl 147 2 con_113 := ⟨wd_682, wd_125, mh_X11_hasBit, .inr (.inl ⟨rfl, by decide +kernel, wd_681, pd_X11_hasBit⟩)⟩
theorem ck_RX6_147_114 : COK2 RX6 vwCl gTbl 147 2 con_114 := ⟨wd_682, wd_125, mh_X11_hasBit, .inr (.inl ⟨rfl, by decide +kernel, wd_681, pd_X11_hasBit⟩)⟩
theorem ck_RX6_147_115 : COK2 RX6 vwCl gTbl 147 2 con_115 := ⟨wd_682, wd_125, mh_X11_hasBit, .inr (.inl ⟨rfl, by decide +kernel, wd_681, pd_X11_hasBit⟩)⟩
noncomputable def ct_116 : CTB2 := [(22, 70, 0, con_15, [0, 1]), (55, 147, 2, con_115, []), (55, 147, 2, con_114, []), (55, 147, 2, con_113, []), (55, 147, 2, con_112, []), (55, 147, 2, con_111, []), (63, 70, 0, con_19, [0, 1]), (72, 102, 0, con_10, [1, 2])]
noncomputable def cu_116 : List CUT2 := []
theorem ch_116 : staG tb_X6_takeNumber 1 bt_RX6 [] ct_116 [(52, [(1, (1, 4, 0), 0, 0)])] [] cu_116 31 con_116 = true := by decide +kernel
theorem cto_116 (l : Launch) : CTOK2 l RX6 vwCl gTbl ct_116 := ct2_cons (vl_15 l) ck_RX6_70_15 (ct2_cons (vl_115 l) ck_RX6_147_115 (ct2_cons (vl_114 l) ck_RX6_147_114 (ct2_cons (vl_113 l) ck_RX6_147_113 (ct2_cons (vl_112 l) ck_RX6_147_112 (ct2_cons (vl_111 l) ck_RX6_147_111 (ct2_cons (vl_19 l) ck_RX6_70_19 (ct2_cons (vl_10 l) ck_RX6_102_10 (ct2_nil))))))))
theorem vl_116 (l : Launch) : Vld2 l vwCl gTbl con_116 := conR_ok3 gT_all (hd_116) rfl pn_RX6 tk_X6_takeNumber bo_RX6 xo_RX6 (cto_116 l) ch_116 cut_nil
/-- RookHusting hasBit -/
noncomputable def con_117 : Con2 := ((yX11_hasBit, cX11_hasBit, 2, (some .boolean)), (0, 0), ([(0, 18, 0), (0, 4, 0)], [(0, 0), (0, 0)], [], []), [((0, 1, 0), [(0, 0), (0, 0), (0, 0)], [], [], [1])])
theorem hd_117 : con_117.1 = (yX11_hasBit, cX11_hasBit, 2, (some .boolean)) := rfl
noncomputable def cu_117 : List CUT2 := []
theorem ch_117 : staG tb_X11_hasBit 1 bt_RX11 [] ct_3 [] [] cu_117 12 con_117 = true := by decide +kernel
theorem vl_117 (l : Launch) : Vld2 l vwCl gTbl con_117 := conR_ok3 gT_all (hd_117) rfl pn_RX11 tk_X11_hasBit bo_RX11 xo_RX11 (cto_3 l) ch_117 cut_nil
/-- RookHusting hasBit -/
noncomputable def con_118 : Con2 := ((yX11_hasBit, cX11_hasBit, 2, (some .boolean)), (0, 0), ([(0, 18, 0), (0, 3, 0)], [(0, 0), (0, 0)], [], []), [((0, 0, 0), [(0, 0), (0, 0), (0, 0)], [], [], [1])])
theorem hd_118 : con_118.1 = (yX11_hasBit, cX11_hasBit, 2, (some .boolean)) := rfl
noncomputable def cu_118 : List CUT2 := []
theorem ch_118 : staG tb_X11_hasBit 1 bt_RX11 [] ct_3 [] [] cu_118 11 con_118 = true := by decide +kernel
theorem vl_118 (l : Launch) : Vld2 l vwCl gTbl con_118 := conR_ok3 gT_all (hd_118) rfl pn_RX11 tk_X11_hasBit bo_RX11 xo_RX11 (cto_3 l) ch_118 cut_nil
/-- RookHusting hasBit -/
noncomputable def con_119 : Con2 := ((yX11_hasBit, cX11_hasBit, 2, (some .boolean)), (0, 0), ([(0, 18, 0), (0, 2, 0)], [(0, 0), (0, 0)], [], []), [((0, 0, 0), [(0, 0), (0, 0), (0, 0)], [], [], [1])])
theorem hd_119 : con_119.1 = (yX11_hasBit, cX11_hasBit, 2, (some .boolean)) := rfl
noncomputable def cu_119 : List CUT2 := []
theorem ch_119 : staG tb_X11_hasBit 1 bt_RX11 [] ct_3 [] [] cu_119 11 con_119 = true := by decide +kernel
theorem vl_119 (l : Launch) : Vld2 l vwCl gTbl con_119 := conR_ok3 gT_all (hd_119) rfl pn_RX11 tk_X11_hasBit bo_RX11 xo_RX11 (cto_3 l) ch_119 cut_nil
/-- RookHusting hasBit -/
noncomputable def con_120 : Con2 := ((yX11_hasBit, cX11_hasBit, 2, (some .boolean)), (0, 0), ([(0, 18, 0), (0, 1, 0)], [(0, 0), (0, 0)], [], []), [((0, 1, 0), [(0, 0), (0, 0), (0, 0)], [], [], [1])])
theorem hd_120 : con_120.1 = (yX11_hasBit, cX11_hasBit, 2, (some .boolean)) := rfl
noncomputable def cu_120 : List CUT2 := []
theorem ch_120 : staG tb_X11_hasBit 1 bt_RX11 [] ct_3 [] [] cu_120 12 con_120 = true := by decide +kernel
theorem vl_120 (l : Launch) : Vld2 l vwCl gTbl con_120 := conR_ok3 gT_all (hd_120) rfl pn_RX11 tk_X11_hasBit bo_RX11 xo_RX11 (cto_3 l) ch_120 cut_nil
/-- RookHusting hasBit -/
noncomputable def con_121 : Con2 := ((yX11_hasBit, cX11_hasBit, 2, (some .boolean)), (0, 0), ([(0, 18, 0), (0, 0, 0)], [(0, 0), (0, 0)], [], []), [((0, 0, 0), [(0, 0), (0, 0), (0, 0)], [], [], [1])])
theorem hd_121 : con_121.1 = (yX11_hasBit, cX11_hasBit, 2, (some .boolean)) := rfl
noncomputable def cu_121 : List CUT2 := []
theorem ch_121 : staG tb_X11_hasBit 1 bt_RX11 [] ct_3 [] [] cu_121 11 con_121 = true := by decide +kernel
theorem vl_121 (l : Launch) : Vld2 l vwCl gTbl con_121 := conR_ok3 gT_all (hd_121) rfl pn_RX11 tk_X11_hasBit bo_RX11 xo_RX11 (cto_3 l) ch_121 cut_nil
/-- RookHusting$Reader takeNumber -/
noncomputable def con_122 : Con2 := ((yX6_takeNumber, cX6_takeNumber, 5, (some .int)), (2, 40), ([(6, 0, 0), (0, 0, 0), (1, 2, 0), (0, 18, 0)], gi_92, hc_5, []), [((0, 0, 0), gi_93, hq_13, [], [1, 1, 1, 1, 1]), ((0, 0, 0), gi_94, hq_14, [], tg_0), ((0, 2, 0), gi_74, hq_14, [], tg_0), ((0, 3, 0), gi_75, hq_14, [], tg_0)])
theorem hd_122 : con_122.1 = (yX6_takeNumber, cX6_takeNumber, 5, (some .int)) := rfl
theorem ck_RX6_147_117 : COK2 RX6 vwCl gTbl 147 2 con_117 := ⟨wd_682, wd_125, mh_X11_hasBit, .inr (.inl ⟨rfl, by decide +kernel, wd_681, pd_X11_hasBit⟩)⟩
theorem ck_RX6_147_118 : COK2 RX6 vwCl gTbl 147 2 con_118 := ⟨wd_682, wd_125, mh_X11_hasBit, .inr (.inl ⟨rfl, by decide +kernel, wd_681, pd_X11_hasBit⟩)⟩
theorem ck_RX6_147_119 : COK2 RX6 vwCl gTbl 147 2 con_119 := ⟨wd_682, wd_125, mh_X11_hasBit, .inr (.inl ⟨rfl, by decide +kernel, wd_681, pd_X11_hasBit⟩)⟩
theorem ck_RX6_147_120 : COK2 RX6 vwCl gTbl 147 2 con_120 := ⟨wd_682, wd_125, mh_X11_hasBit, .inr (.inl ⟨rfl, by decide +kernel, wd_681, pd_X11_hasBit⟩)⟩
theorem ck_RX6_147_121 : COK2 RX6 vwCl gTbl 147 2 con_121 := ⟨wd_682, wd_125, mh_X11_hasBit, .inr (.inl ⟨rfl, by decide +kernel, wd_681, pd_X11_hasBit⟩)⟩
noncomputable def ct_122 : CTB2 := [(22, 70, 0, con_15, [0, 1]), (55, 147, 2, con_121, []), (55, 147, 2, con_120, []), (55, 147, 2, con_119, []), (55, 147, 2, con_118, []), (55, 147, 2, con_117, []), (63, 70, 0, con_19, [0, 1]), (72, 102, 0, con_10, [1, 2])]
noncomputable def cu_122 : List CUT2 := []
theorem ch_122 : staG tb_X6_takeNumber 1 bt_RX6 [] ct_122 [(52, [(1, (1, 4, 0), 0, 0)])] [] cu_122 31 con_122 = true := by decide +kernel
theorem cto_122 (l : Launch) : CTOK2 l RX6 vwCl gTbl ct_122 := ct2_cons (vl_15 l) ck_RX6_70_15 (ct2_cons (vl_121 l) ck_RX6_147_121 (ct2_cons (vl_120 l) ck_RX6_147_120 (ct2_cons (vl_119 l) ck_RX6_147_119 (ct2_cons (vl_118 l) ck_RX6_147_118 (ct2_cons (vl_117 l) ck_RX6_147_117 (ct2_cons (vl_19 l) ck_RX6_70_19 (ct2_cons (vl_10 l) ck_RX6_102_10 (ct2_nil))))))))
theorem vl_122 (l : Launch) : Vld2 l vwCl gTbl con_122 := conR_ok3 gT_all (hd_122) rfl pn_RX6 tk_X6_takeNumber bo_RX6 xo_RX6 (cto_122 l) ch_122 cut_nil
/-- RookHusting hasBit -/
noncomputable def con_123 : Con2 := ((yX11_hasBit, cX11_hasBit, 2, (some .boolean)), (0, 0), ([(0, 17, 0), (0, 4, 0)], [(0, 0), (0, 0)], [], []), [((0, 1, 0), [(0, 0), (0, 0), (0, 0)], [], [], [1])])
theorem hd_123 : con_123.1 = (yX11_hasBit, cX11_hasBit, 2, (some .boolean)) := rfl
noncomputable def cu_123 : List CUT2 := []
theorem ch_123 : staG tb_X11_hasBit 1 bt_RX11 [] ct_3 [] [] cu_123 12 con_123 = true := by decide +kernel
theorem vl_123 (l : Launch) : Vld2 l vwCl gTbl con_123 := conR_ok3 gT_all (hd_123) rfl pn_RX11 tk_X11_hasBit bo_RX11 xo_RX11 (cto_3 l) ch_123 cut_nil
/-- RookHusting hasBit -/
noncomputable def con_124 : Con2 := ((yX11_hasBit, cX11_hasBit, 2, (some .boolean)), (0, 0), ([(0, 17, 0), (0, 3, 0)], [(0, 0), (0, 0)], [], []), [((0, 0, 0), [(0, 0), (0, 0), (0, 0)], [], [], [1])])
theorem hd_124 : con_124.1 = (yX11_hasBit, cX11_hasBit, 2, (some .boolean)) := rfl
noncomputable def cu_124 : List CUT2 := []
theorem ch_124 : staG tb_X11_hasBit 1 bt_RX11 [] ct_3 [] [] cu_124 11 con_124 = true := by decide +kernel
theorem vl_124 (l : Launch) : Vld2 l vwCl gTbl con_124 := conR_ok3 gT_all (hd_124) rfl pn_RX11 tk_X11_hasBit bo_RX11 xo_RX11 (cto_3 l) ch_124 cut_nil
/-- RookHusting hasBit -/
noncomputable def con_125 : Con2 := ((yX11_hasBit, cX11_hasBit, 2, (some .boolean)), (0, 0), ([(0, 17, 0), (0, 2, 0)], [(0, 0), (0, 0)], [], []), [((0, 0, 0), [(0, 0), (0, 0), (0, 0)], [], [], [1])])
theorem hd_125 : con_125.1 = (yX11_hasBit, cX11_hasBit, 2, (some .boolean)) := rfl
noncomputable def cu_125 : List CUT2 := []
theorem ch_125 : staG tb_X11_hasBit 1 bt_RX11 [] ct_3 [] [] cu_125 11 con_125 = true := by decide +kernel
theorem vl_125 (l : Launch) : Vld2 l vwCl gTbl con_125 := conR_ok3 gT_all (hd_125) rfl pn_RX11 tk_X11_hasBit bo_RX11 xo_RX11 (cto_3 l) ch_125 cut_nil
/-- RookHusting hasBit -/
noncomputable def con_126 : Con2 := ((yX11_hasBit, cX11_hasBit, 2, (some .boolean)), (0, 0), ([(0, 17, 0), (0, 1, 0)], [(0, 0), (0, 0)], [], []), [((0, 0, 0), [(0, 0), (0, 0), (0, 0)], [], [], [1])])
theorem hd_126 : con_126.1 = (yX11_hasBit, cX11_hasBit, 2, (some .boolean)) := rfl
noncomputable def cu_126 : List CUT2 := []
theorem ch_126 : staG tb_X11_hasBit 1 bt_RX11 [] ct_3 [] [] cu_126 11 con_126 = true := by decide +kernel
theorem vl_126 (l : Launch) : Vld2 l vwCl gTbl con_126 := conR_ok3 gT_all (hd_126) rfl pn_RX11 tk_X11_hasBit bo_RX11 xo_RX11 (cto_3 l) ch_126 cut_nil
/-- RookHusting hasBit -/
noncomputable def con_127 : Con2 := ((yX11_hasBit, cX11_hasBit, 2, (some .boolean)), (0, 0), ([(0, 17, 0), (0, 0, 0)], [(0, 0), (0, 0)], [], []), [((0, 1, 0), [(0, 0), (0, 0), (0, 0)], [], [], [1])])
theorem hd_127 : con_127.1 = (yX11_hasBit, cX11_hasBit, 2, (some .boolean)) := rfl
noncomputable def cu_127 : List CUT2 := []
theorem ch_127 : staG tb_X11_hasBit 1 bt_RX11 [] ct_3 [] [] cu_127 12 con_127 = true := by decide +kernel
theorem vl_127 (l : Launch) : Vld2 l vwCl gTbl con_127 := conR_ok3 gT_all (hd_127) rfl pn_RX11 tk_X11_hasBit bo_RX11 xo_RX11 (cto_3 l) ch_127 cut_nil
/-- RookHusting$Reader takeNumber -/
noncomputable def con_128 : Con2 := ((yX6_takeNumber, cX6_takeNumber, 5, (some .int)), (2, 40), ([(6, 0, 0), (0, 0, 0), (1, 2, 0), (0, 17, 0)], gi_92, hc_5, []), [((0, 0, 0), gi_93, hq_13, [], [1, 1, 1, 1, 1]), ((0, 1, 0), gi_73, hq_14, [], tg_0), ((0, 2, 0), gi_74, hq_14, [], tg_0), ((0, 3, 0), gi_75, hq_14, [], tg_0)])
theorem hd_128 : con_128.1 = (yX6_takeNumber, cX6_takeNumber, 5, (some .int)) := rfl
theorem ck_RX6_147_123 : COK2 RX6 vwCl gTbl 147 2 con_123 := ⟨wd_682, wd_125, mh_X11_hasBit, .inr (.inl ⟨rfl, by decide +kernel, wd_681, pd_X11_hasBit⟩)⟩
theorem ck_RX6_147_124 : COK2 RX6 vwCl gTbl 147 2 con_124 := ⟨wd_682, wd_125, mh_X11_hasBit, .inr (.inl ⟨rfl, by decide +kernel, wd_681, pd_X11_hasBit⟩)⟩
theorem ck_RX6_147_125 : COK2 RX6 vwCl gTbl 147 2 con_125 := ⟨wd_682, wd_125, mh_X11_hasBit, .inr (.inl ⟨rfl, by decide +kernel, wd_681, pd_X11_hasBit⟩)⟩
theorem ck_RX6_147_126 : COK2 RX6 vwCl gTbl 147 2 con_126 := ⟨wd_682, wd_125, mh_X11_hasBit, .inr (.inl ⟨rfl, by decide +kernel, wd_681, pd_X11_hasBit⟩)⟩
theorem ck_RX6_147_127 : COK2 RX6 vwCl gTbl 147 2 con_127 := ⟨wd_682, wd_125, mh_X11_hasBit, .inr (.inl ⟨rfl, by decide +kernel, wd_681, pd_X11_hasBit⟩)⟩
noncomputable def ct_128 : CTB2 := [(22, 70, 0, con_15, [0, 1]), (55, 147, 2, con_127, []), (55, 147, 2, con_126, []), (55, 147, 2, con_125, []), (55, 147, 2, con_124, []), (55, 147, 2, con_123, []), (63, 70, 0, con_19, [0, 1]), (72, 102, 0, con_10, [1, 2])]
noncomputable def cu_128 : List CUT2 := []
theorem ch_128 : staG tb_X6_takeNumber 1 bt_RX6 [] ct_128 [(52, [(1, (1, 4, 0), 0, 0)])] [] cu_128 31 con_128 = true := by decide +kernel
theorem cto_128 (l : Launch) : CTOK2 l RX6 vwCl gTbl ct_128 := ct2_cons (vl_15 l) ck_RX6_70_15 (ct2_cons (vl_127 l) ck_RX6_147_127 (ct2_cons (vl_126 l) ck_RX6_147_126 (ct2_cons (vl_125 l) ck_RX6_147_125 (ct2_cons (vl_124 l) ck_RX6_147_124 (ct2_cons (vl_123 l) ck_RX6_147_123 (ct2_cons (vl_19 l) ck_RX6_70_19 (ct2_cons (vl_10 l) ck_RX6_102_10 (ct2_nil))))))))
theorem vl_128 (l : Launch) : Vld2 l vwCl gTbl con_128 := conR_ok3 gT_all (hd_128) rfl pn_RX6 tk_X6_takeNumber bo_RX6 xo_RX6 (cto_128 l) ch_128 cut_nil
/-- RookHusting hasBit -/
noncomputable def con_129 : Con2 := ((yX11_hasBit, cX11_hasBit, 2, (some .boolean)), (0, 0), ([(0, 12, 0), (0, 4, 0)], [(0, 0), (0, 0)], [], []), [((0, 0, 0), [(0, 0), (0, 0), (0, 0)], [], [], [1])])
theorem hd_129 : con_129.1 = (yX11_hasBit, cX11_hasBit, 2, (some .boolean)) := rfl
noncomputable def cu_129 : List CUT2 := []
theorem ch_129 : staG tb_X11_hasBit 1 bt_RX11 [] ct_3 [] [] cu_129 11 con_129 = true := by decide +kernel
theorem vl_129 (l : Launch) : Vld2 l vwCl gTbl con_129 := conR_ok3 gT_all (hd_129) rfl pn_RX11 tk_X11_hasBit bo_RX11 xo_RX11 (cto_3 l) ch_129 cut_nil
/-- RookHusting hasBit -/
noncomputable def con_130 : Con2 := ((yX11_hasBit, cX11_hasBit, 2, (some .boolean)), (0, 0), ([(0, 12, 0), (0, 3, 0)], [(0, 0), (0, 0)], [], []), [((0, 1, 0), [(0, 0), (0, 0), (0, 0)], [], [], [1])])
theorem hd_130 : con_130.1 = (yX11_hasBit, cX11_hasBit, 2, (some .boolean)) := rfl
noncomputable def cu_130 : List CUT2 := []
theorem ch_130 : staG tb_X11_hasBit 1 bt_RX11 [] ct_3 [] [] cu_130 12 con_130 = true := by decide +kernel
theorem vl_130 (l : Launch) : Vld2 l vwCl gTbl con_130 := conR_ok3 gT_all (hd_130) rfl pn_RX11 tk_X11_hasBit bo_RX11 xo_RX11 (cto_3 l) ch_130 cut_nil
/-- RookHusting hasBit -/
noncomputable def con_131 : Con2 := ((yX11_hasBit, cX11_hasBit, 2, (some .boolean)), (0, 0), ([(0, 12, 0), (0, 2, 0)], [(0, 0), (0, 0)], [], []), [((0, 1, 0), [(0, 0), (0, 0), (0, 0)], [], [], [1])])
theorem hd_131 : con_131.1 = (yX11_hasBit, cX11_hasBit, 2, (some .boolean)) := rfl
noncomputable def cu_131 : List CUT2 := []
theorem ch_131 : staG tb_X11_hasBit 1 bt_RX11 [] ct_3 [] [] cu_131 12 con_131 = true := by decide +kernel
theorem vl_131 (l : Launch) : Vld2 l vwCl gTbl con_131 := conR_ok3 gT_all (hd_131) rfl pn_RX11 tk_X11_hasBit bo_RX11 xo_RX11 (cto_3 l) ch_131 cut_nil
/-- RookHusting hasBit -/
noncomputable def con_132 : Con2 := ((yX11_hasBit, cX11_hasBit, 2, (some .boolean)), (0, 0), ([(0, 12, 0), (0, 1, 0)], [(0, 0), (0, 0)], [], []), [((0, 0, 0), [(0, 0), (0, 0), (0, 0)], [], [], [1])])
theorem hd_132 : con_132.1 = (yX11_hasBit, cX11_hasBit, 2, (some .boolean)) := rfl
noncomputable def cu_132 : List CUT2 := []
theorem ch_132 : staG tb_X11_hasBit 1 bt_RX11 [] ct_3 [] [] cu_132 11 con_132 = true := by decide +kernel
theorem vl_132 (l : Launch) : Vld2 l vwCl gTbl con_132 := conR_ok3 gT_all (hd_132) rfl pn_RX11 tk_X11_hasBit bo_RX11 xo_RX11 (cto_3 l) ch_132 cut_nil
/-- RookHusting hasBit -/
noncomputable def con_133 : Con2 := ((yX11_hasBit, cX11_hasBit, 2, (some .boolean)), (0, 0), ([(0, 12, 0), (0, 0, 0)], [(0, 0), (0, 0)], [], []), [((0, 0, 0), [(0, 0), (0, 0), (0, 0)], [], [], [1])])
theorem hd_133 : con_133.1 = (yX11_hasBit, cX11_hasBit, 2, (some .boolean)) := rfl
noncomputable def cu_133 : List CUT2 := []
theorem ch_133 : staG tb_X11_hasBit 1 bt_RX11 [] ct_3 [] [] cu_133 11 con_133 = true := by decide +kernel
theorem vl_133 (l : Launch) : Vld2 l vwCl gTbl con_133 := conR_ok3 gT_all (hd_133) rfl pn_RX11 tk_X11_hasBit bo_RX11 xo_RX11 (cto_3 l) ch_133 cut_nil
/-- RookHusting$Reader takeNumber -/
noncomputable def con_134 : Con2 := ((yX6_takeNumber, cX6_takeNumber, 5, (some .int)), (2, 40), ([(6, 0, 0), (0, 0, 0), (1, 2, 0), (0, 12, 0)], gi_92, hc_5, []), [((0, 0, 0), gi_93, hq_13, [], [1, 1, 1, 1, 1]), ((0, 0, 0), gi_94, hq_14, [], tg_0), ((0, 1, 0), gi_73, hq_14, [], tg_0), ((0, 4, 0), gi_76, hq_14, [], tg_0)])
theorem hd_134 : con_134.1 = (yX6_takeNumber, cX6_takeNumber, 5, (some .int)) := rfl
theorem ck_RX6_147_129 : COK2 RX6 vwCl gTbl 147 2 con_129 := ⟨wd_682, wd_125, mh_X11_hasBit, .inr (.inl ⟨rfl, by decide +kernel, wd_681, pd_X11_hasBit⟩)⟩
theorem ck_RX6_147_130 : COK2 RX6 vwCl gTbl 147 2 con_130 := ⟨wd_682, wd_125, mh_X11_hasBit, .inr (.inl ⟨rfl, by decide +kernel, wd_681, pd_X11_hasBit⟩)⟩
theorem ck_RX6_147_131 : COK2 RX6 vwCl gTbl 147 2 con_131 := ⟨wd_682, wd_125, mh_X11_hasBit, .inr (.inl ⟨rfl, by decide +kernel, wd_681, pd_X11_hasBit⟩)⟩
theorem ck_RX6_147_132 : COK2 RX6 vwCl gTbl 147 2 con_132 := ⟨wd_682, wd_125, mh_X11_hasBit, .inr (.inl ⟨rfl, by decide +kernel, wd_681, pd_X11_hasBit⟩)⟩
theorem ck_RX6_147_133 : COK2 RX6 vwCl gTbl 147 2 con_133 := ⟨wd_682, wd_125, mh_X11_hasBit, .inr (.inl ⟨rfl, by decide +kernel, wd_681, pd_X11_hasBit⟩)⟩
noncomputable def ct_134 : CTB2 := [(22, 70, 0, con_15, [0, 1]), (55, 147, 2, con_133, []), (55, 147, 2, con_132, []), (55, 147, 2, con_131, []), (55, 147, 2, con_130, []), (55, 147, 2, con_129, []), (63, 70, 0, con_19, [0, 1]), (72, 102, 0, con_10, [1, 2])]
noncomputable def cu_134 : List CUT2 := []
theorem ch_134 : staG tb_X6_takeNumber 1 bt_RX6 [] ct_134 [(52, [(1, (1, 4, 0), 0, 0)])] [] cu_134 31 con_134 = true := by decide +kernel
theorem cto_134 (l : Launch) : CTOK2 l RX6 vwCl gTbl ct_134 := ct2_cons (vl_15 l) ck_RX6_70_15 (ct2_cons (vl_133 l) ck_RX6_147_133 (ct2_cons (vl_132 l) ck_RX6_147_132 (ct2_cons (vl_131 l) ck_RX6_147_131 (ct2_cons (vl_130 l) ck_RX6_147_130 (ct2_cons (vl_129 l) ck_RX6_147_129 (ct2_cons (vl_19 l) ck_RX6_70_19 (ct2_cons (vl_10 l) ck_RX6_102_10 (ct2_nil))))))))
theorem vl_134 (l : Launch) : Vld2 l vwCl gTbl con_134 := conR_ok3 gT_all (hd_134) rfl pn_RX6 tk_X6_takeNumber bo_RX6 xo_RX6 (cto_134 l) ch_134 cut_nil
/-- RookHusting hasBit -/
noncomputable def con_135 : Con2 := ((yX11_hasBit, cX11_hasBit, 2, (some .boolean)), (0, 0), ([(0, 10, 0), (0, 4, 0)], [(0, 0), (0, 0)], [], []), [((0, 0, 0), [(0, 0), (0, 0), (0, 0)], [], [], [1])])
theorem hd_135 : con_135.1 = (yX11_hasBit, cX11_hasBit, 2, (some .boolean)) := rfl
noncomputable def cu_135 : List CUT2 := []
theorem ch_135 : staG tb_X11_hasBit 1 bt_RX11 [] ct_3 [] [] cu_135 11 con_135 = true := by decide +kernel
theorem vl_135 (l : Launch) : Vld2 l vwCl gTbl con_135 := conR_ok3 gT_all (hd_135) rfl pn_RX11 tk_X11_hasBit bo_RX11 xo_RX11 (cto_3 l) ch_135 cut_nil
/-- RookHusting hasBit -/
noncomputable def con_136 : Con2 := ((yX11_hasBit, cX11_hasBit, 2, (some .boolean)), (0, 0), ([(0, 10, 0), (0, 3, 0)], [(0, 0), (0, 0)], [], []), [((0, 1, 0), [(0, 0), (0, 0), (0, 0)], [], [], [1])])
theorem hd_136 : con_136.1 = (yX11_hasBit, cX11_hasBit, 2, (some .boolean)) := rfl
noncomputable def cu_136 : List CUT2 := []
theorem ch_136 : staG tb_X11_hasBit 1 bt_RX11 [] ct_3 [] [] cu_136 12 con_136 = true := by decide +kernel
theorem vl_136 (l : Launch) : Vld2 l vwCl gTbl con_136 := conR_ok3 gT_all (hd_136) rfl pn_RX11 tk_X11_hasBit bo_RX11 xo_RX11 (cto_3 l) ch_136 cut_nil
/-- RookHusting hasBit -/
noncomputable def con_137 : Con2 := ((yX11_hasBit, cX11_hasBit, 2, (some .boolean)), (0, 0), ([(0, 10, 0), (0, 2, 0)], [(0, 0), (0, 0)], [], []), [((0, 0, 0), [(0, 0), (0, 0), (0, 0)], [], [], [1])])
theorem hd_137 : con_137.1 = (yX11_hasBit, cX11_hasBit, 2, (some .boolean)) := rfl
noncomputable def cu_137 : List CUT2 := []
theorem ch_137 : staG tb_X11_hasBit 1 bt_RX11 [] ct_3 [] [] cu_137 11 con_137 = true := by decide +kernel
theorem vl_137 (l : Launch) : Vld2 l vwCl gTbl con_137 := conR_ok3 gT_all (hd_137) rfl pn_RX11 tk_X11_hasBit bo_RX11 xo_RX11 (cto_3 l) ch_137 cut_nil
/-- RookHusting hasBit -/
noncomputable def con_138 : Con2 := ((yX11_hasBit, cX11_hasBit, 2, (some .boolean)), (0, 0), ([(0, 10, 0), (0, 1, 0)], [(0, 0), (0, 0)], [], []), [((0, 1, 0), [(0, 0), (0, 0), (0, 0)], [], [], [1])])
theorem hd_138 : con_138.1 = (yX11_hasBit, cX11_hasBit, 2, (some .boolean)) := rfl
noncomputable def cu_138 : List CUT2 := []
theorem ch_138 : staG tb_X11_hasBit 1 bt_RX11 [] ct_3 [] [] cu_138 12 con_138 = true := by decide +kernel
theorem vl_138 (l : Launch) : Vld2 l vwCl gTbl con_138 := conR_ok3 gT_all (hd_138) rfl pn_RX11 tk_X11_hasBit bo_RX11 xo_RX11 (cto_3 l) ch_138 cut_nil
/-- RookHusting hasBit -/
noncomputable def con_139 : Con2 := ((yX11_hasBit, cX11_hasBit, 2, (some .boolean)), (0, 0), ([(0, 10, 0), (0, 0, 0)], [(0, 0), (0, 0)], [], []), [((0, 0, 0), [(0, 0), (0, 0), (0, 0)], [], [], [1])])
theorem hd_139 : con_139.1 = (yX11_hasBit, cX11_hasBit, 2, (some .boolean)) := rfl
noncomputable def cu_139 : List CUT2 := []
theorem ch_139 : staG tb_X11_hasBit 1 bt_RX11 [] ct_3 [] [] cu_139 11 con_139 = true := by decide +kernel
theorem vl_139 (l : Launch) : Vld2 l vwCl gTbl con_139 := conR_ok3 gT_all (hd_139) rfl pn_RX11 tk_X11_hasBit bo_RX11 xo_RX11 (cto_3 l) ch_139 cut_nil
/-- RookHusting$Reader takeNumber -/
noncomputable def con_140 : Con2 := ((yX6_takeNumber, cX6_takeNumber, 5, (some .int)), (2, 40), ([(6, 0, 0), (0, 0, 0), (1, 2, 0), (0, 10, 0)], gi_92, hc_5, []), [((0, 0, 0), gi_93, hq_13, [], [1, 1, 1, 1, 1]), ((0, 0, 0), gi_94, hq_14, [], tg_0), ((0, 2, 0), gi_74, hq_14, [], tg_0), ((0, 4, 0), gi_76, hq_14, [], tg_0)])
theorem hd_140 : con_140.1 = (yX6_takeNumber, cX6_takeNumber, 5, (some .int)) := rfl
theorem ck_RX6_147_135 : COK2 RX6 vwCl gTbl 147 2 con_135 := ⟨wd_682, wd_125, mh_X11_hasBit, .inr (.inl ⟨rfl, by decide +kernel, wd_681, pd_X11_hasBit⟩)⟩
theorem ck_RX6_147_136 : COK2 RX6 vwCl gTbl 147 2 con_136 := ⟨wd_682, wd_125, mh_X11_hasBit, .inr (.inl ⟨rfl, by decide +kernel, wd_681, pd_X11_hasBit⟩)⟩
theorem ck_RX6_147_137 : COK2 RX6 vwCl gTbl 147 2 con_137 := ⟨wd_682, wd_125, mh_X11_hasBit, .inr (.inl ⟨rfl, by decide +kernel, wd_681, pd_X11_hasBit⟩)⟩
theorem ck_RX6_147_138 : COK2 RX6 vwCl gTbl 147 2 con_138 := ⟨wd_682, wd_125, mh_X11_hasBit, .inr (.inl ⟨rfl, by decide +kernel, wd_681, pd_X11_hasBit⟩)⟩
theorem ck_RX6_147_139 : COK2 RX6 vwCl gTbl 147 2 con_139 := ⟨wd_682, wd_125, mh_X11_hasBit, .inr (.inl ⟨rfl, by decide +kernel, wd_681, pd_X11_hasBit⟩)⟩
noncomputable def ct_140 : CTB2 := [(22, 70, 0, con_15, [0, 1]), (55, 147, 2, con_139, []), (55, 147, 2, con_138, []), (55, 147, 2, con_137, []), (55, 147, 2, con_136, []), (55, 147, 2, con_135, []), (63, 70, 0, con_19, [0, 1]), (72, 102, 0, con_10, [1, 2])]
noncomputable def cu_140 : List CUT2 := []
theorem ch_140 : staG tb_X6_takeNumber 1 bt_RX6 [] ct_140 [(52, [(1, (1, 4, 0), 0, 0)])] [] cu_140 31 con_140 = true := by decide +kernel
theorem cto_140 (l : Launch) : CTOK2 l RX6 vwCl gTbl ct_140 := ct2_cons (vl_15 l) ck_RX6_70_15 (ct2_cons (vl_139 l) ck_RX6_147_139 (ct2_cons (vl_138 l) ck_RX6_147_138 (ct2_cons (vl_137 l) ck_RX6_147_137 (ct2_cons (vl_136 l) ck_RX6_147_136 (ct2_cons (vl_135 l) ck_RX6_147_135 (ct2_cons (vl_19 l) ck_RX6_70_19 (ct2_cons (vl_10 l) ck_RX6_102_10 (ct2_nil))))))))
theorem vl_140 (l : Launch) : Vld2 l vwCl gTbl con_140 := conR_ok3 gT_all (hd_140) rfl pn_RX6 tk_X6_takeNumber bo_RX6 xo_RX6 (cto_140 l) ch_140 cut_nil
/-- RookHusting hasBit -/
noncomputable def con_141 : Con2 := ((yX11_hasBit, cX11_hasBit, 2, (some .boolean)), (0, 0), ([(0, 9, 0), (0, 4, 0)], [(0, 0), (0, 0)], [], []), [((0, 0, 0), [(0, 0), (0, 0), (0, 0)], [], [], [1])])
theorem hd_141 : con_141.1 = (yX11_hasBit, cX11_hasBit, 2, (some .boolean)) := rfl
noncomputable def cu_141 : List CUT2 := []
theorem ch_141 : staG tb_X11_hasBit 1 bt_RX11 [] ct_3 [] [] cu_141 11 con_141 = true := by decide +kernel
theorem vl_141 (l : Launch) : Vld2 l vwCl gTbl con_141 := conR_ok3 gT_all (hd_141) rfl pn_RX11 tk_X11_hasBit bo_RX11 xo_RX11 (cto_3 l) ch_141 cut_nil
/-- RookHusting hasBit -/
noncomputable def con_142 : Con2 := ((yX11_hasBit, cX11_hasBit, 2, (some .boolean)), (0, 0), ([(0, 9, 0), (0, 3, 0)], [(0, 0), (0, 0)], [], []), [((0, 1, 0), [(0, 0), (0, 0), (0, 0)], [], [], [1])])
theorem hd_142 : con_142.1 = (yX11_hasBit, cX11_hasBit, 2, (some .boolean)) := rfl
noncomputable def cu_142 : List CUT2 := []
theorem ch_142 : staG tb_X11_hasBit 1 bt_RX11 [] ct_3 [] [] cu_142 12 con_142 = true := by decide +kernel
theorem vl_142 (l : Launch) : Vld2 l vwCl gTbl con_142 := conR_ok3 gT_all (hd_142) rfl pn_RX11 tk_X11_hasBit bo_RX11 xo_RX11 (cto_3 l) ch_142 cut_nil
/-- RookHusting hasBit -/
noncomputable def con_143 : Con2 := ((yX11_hasBit, cX11_hasBit, 2, (some .boolean)), (0, 0), ([(0, 9, 0), (0, 2, 0)], [(0, 0), (0, 0)], [], []), [((0, 0, 0), [(0, 0), (0, 0), (0, 0)], [], [], [1])])
theorem hd_143 : con_143.1 = (yX11_hasBit, cX11_hasBit, 2, (some .boolean)) := rfl
noncomputable def cu_143 : List CUT2 := []
theorem ch_143 : staG tb_X11_hasBit 1 bt_RX11 [] ct_3 [] [] cu_143 11 con_143 = true := by decide +kernel
theorem vl_143 (l : Launch) : Vld2 l vwCl gTbl con_143 := conR_ok3 gT_all (hd_143) rfl pn_RX11 tk_X11_hasBit bo_RX11 xo_RX11 (cto_3 l) ch_143 cut_nil
/-- RookHusting hasBit -/
noncomputable def con_144 : Con2 := ((yX11_hasBit, cX11_hasBit, 2, (some .boolean)), (0, 0), ([(0, 9, 0), (0, 1, 0)], [(0, 0), (0, 0)], [], []), [((0, 0, 0), [(0, 0), (0, 0), (0, 0)], [], [], [1])])
theorem hd_144 : con_144.1 = (yX11_hasBit, cX11_hasBit, 2, (some .boolean)) := rfl
noncomputable def cu_144 : List CUT2 := []
theorem ch_144 : staG tb_X11_hasBit 1 bt_RX11 [] ct_3 [] [] cu_144 11 con_144 = true := by decide +kernel
theorem vl_144 (l : Launch) : Vld2 l vwCl gTbl con_144 := conR_ok3 gT_all (hd_144) rfl pn_RX11 tk_X11_hasBit bo_RX11 xo_RX11 (cto_3 l) ch_144 cut_nil
/-- RookHusting hasBit -/
noncomputable def con_145 : Con2 := ((yX11_hasBit, cX11_hasBit, 2, (some .boolean)), (0, 0), ([(0, 9, 0), (0, 0, 0)], [(0, 0), (0, 0)], [], []), [((0, 1, 0), [(0, 0), (0, 0), (0, 0)], [], [], [1])])
theorem hd_145 : con_145.1 = (yX11_hasBit, cX11_hasBit, 2, (some .boolean)) := rfl
noncomputable def cu_145 : List CUT2 := []
theorem ch_145 : staG tb_X11_hasBit 1 bt_RX11 [] ct_3 [] [] cu_145 12 con_145 = true := by decide +kernel
theorem vl_145 (l : Launch) : Vld2 l vwCl gTbl con_145 := conR_ok3 gT_all (hd_145) rfl pn_RX11 tk_X11_hasBit bo_RX11 xo_RX11 (cto_3 l) ch_145 cut_nil
/-- RookHusting$Reader takeNumber -/
noncomputable def con_146 : Con2 := ((yX6_takeNumber, cX6_takeNumber, 5, (some .int)), (2, 40), ([(6, 0, 0), (0, 0, 0), (1, 2, 0), (0, 9, 0)], gi_92, hc_5, []), [((0, 0, 0), gi_93, hq_13, [], [1, 1, 1, 1, 1]), ((0, 1, 0), gi_73, hq_14, [], tg_0), ((0, 2, 0), gi_74, hq_14, [], tg_0), ((0, 4, 0), gi_76, hq_14, [], tg_0)])
theorem hd_146 : con_146.1 = (yX6_takeNumber, cX6_takeNumber, 5, (some .int)) := rfl
theorem ck_RX6_147_141 : COK2 RX6 vwCl gTbl 147 2 con_141 := ⟨wd_682, wd_125, mh_X11_hasBit, .inr (.inl ⟨rfl, by decide +kernel, wd_681, pd_X11_hasBit⟩)⟩
theorem ck_RX6_147_142 : COK2 RX6 vwCl gTbl 147 2 con_142 := ⟨wd_682, wd_125, mh_X11_hasBit, .inr (.inl ⟨rfl, by decide +kernel, wd_681, pd_X11_hasBit⟩)⟩
theorem ck_RX6_147_143 : COK2 RX6 vwCl gTbl 147 2 con_143 := ⟨wd_682, wd_125, mh_X11_hasBit, .inr (.inl ⟨rfl, by decide +kernel, wd_681, pd_X11_hasBit⟩)⟩
theorem ck_RX6_147_144 : COK2 RX6 vwCl gTbl 147 2 con_144 := ⟨wd_682, wd_125, mh_X11_hasBit, .inr (.inl ⟨rfl, by decide +kernel, wd_681, pd_X11_hasBit⟩)⟩
theorem ck_RX6_147_145 : COK2 RX6 vwCl gTbl 147 2 con_145 := ⟨wd_682, wd_125, mh_X11_hasBit, .inr (.inl ⟨rfl, by decide +kernel, wd_681, pd_X11_hasBit⟩)⟩
noncomputable def ct_146 : CTB2 := [(22, 70, 0, con_15, [0, 1]), (55, 147, 2, con_145, []), (55, 147, 2, con_144, []), (55, 147, 2, con_143, []), (55, 147, 2, con_142, []), (55, 147, 2, con_141, []), (63, 70, 0, con_19, [0, 1]), (72, 102, 0, con_10, [1, 2])]
noncomputable def cu_146 : List CUT2 := []
theorem ch_146 : staG tb_X6_takeNumber 1 bt_RX6 [] ct_146 [(52, [(1, (1, 4, 0), 0, 0)])] [] cu_146 31 con_146 = true := by decide +kernel
theorem cto_146 (l : Launch) : CTOK2 l RX6 vwCl gTbl ct_146 := ct2_cons (vl_15 l) ck_RX6_70_15 (ct2_cons (vl_145 l) ck_RX6_147_145 (ct2_cons (vl_144 l) ck_RX6_147_144 (ct2_cons (vl_143 l) ck_RX6_147_143 (ct2_cons (vl_142 l) ck_RX6_147_142 (ct2_cons (vl_141 l) ck_RX6_147_141 (ct2_cons (vl_19 l) ck_RX6_70_19 (ct2_cons (vl_10 l) ck_RX6_102_10 (ct2_nil))))))))
theorem vl_146 (l : Launch) : Vld2 l vwCl gTbl con_146 := conR_ok3 gT_all (hd_146) rfl pn_RX6 tk_X6_takeNumber bo_RX6 xo_RX6 (cto_146 l) ch_146 cut_nil
/-- RookHusting hasBit -/
noncomputable def con_147 : Con2 := ((yX11_hasBit, cX11_hasBit, 2, (some .boolean)), (0, 0), ([(0, 6, 0), (0, 4, 0)], [(0, 0), (0, 0)], [], []), [((0, 0, 0), [(0, 0), (0, 0), (0, 0)], [], [], [1])])
theorem hd_147 : con_147.1 = (yX11_hasBit, cX11_hasBit, 2, (some .boolean)) := rfl
noncomputable def cu_147 : List CUT2 := []
theorem ch_147 : staG tb_X11_hasBit 1 bt_RX11 [] ct_3 [] [] cu_147 11 con_147 = true := by decide +kernel
theorem vl_147 (l : Launch) : Vld2 l vwCl gTbl con_147 := conR_ok3 gT_all (hd_147) rfl pn_RX11 tk_X11_hasBit bo_RX11 xo_RX11 (cto_3 l) ch_147 cut_nil
/-- RookHusting hasBit -/
noncomputable def con_148 : Con2 := ((yX11_hasBit, cX11_hasBit, 2, (some .boolean)), (0, 0), ([(0, 6, 0), (0, 3, 0)], [(0, 0), (0, 0)], [], []), [((0, 0, 0), [(0, 0), (0, 0), (0, 0)], [], [], [1])])
theorem hd_148 : con_148.1 = (yX11_hasBit, cX11_hasBit, 2, (some .boolean)) := rfl
noncomputable def cu_148 : List CUT2 := []
theorem ch_148 : staG tb_X11_hasBit 1 bt_RX11 [] ct_3 [] [] cu_148 11 con_148 = true := by decide +kernel
theorem vl_148 (l : Launch) : Vld2 l vwCl gTbl con_148 := conR_ok3 gT_all (hd_148) rfl pn_RX11 tk_X11_hasBit bo_RX11 xo_RX11 (cto_3 l) ch_148 cut_nil
/-- RookHusting hasBit -/
noncomputable def con_149 : Con2 := ((yX11_hasBit, cX11_hasBit, 2, (some .boolean)), (0, 0), ([(0, 6, 0), (0, 2, 0)], [(0, 0), (0, 0)], [], []), [((0, 1, 0), [(0, 0), (0, 0), (0, 0)], [], [], [1])])
theorem hd_149 : con_149.1 = (yX11_hasBit, cX11_hasBit, 2, (some .boolean)) := rfl
noncomputable def cu_149 : List CUT2 := []
theorem ch_149 : staG tb_X11_hasBit 1 bt_RX11 [] ct_3 [] [] cu_149 12 con_149 = true := by decide +kernel
theorem vl_149 (l : Launch) : Vld2 l vwCl gTbl con_149 := conR_ok3 gT_all (hd_149) rfl pn_RX11 tk_X11_hasBit bo_RX11 xo_RX11 (cto_3 l) ch_149 cut_nil
/-- RookHusting hasBit -/
noncomputable def con_150 : Con2 := ((yX11_hasBit, cX11_hasBit, 2, (some .boolean)), (0, 0), ([(0, 6, 0), (0, 1, 0)], [(0, 0), (0, 0)], [], []), [((0, 1, 0), [(0, 0), (0, 0), (0, 0)], [], [], [1])])
theorem hd_150 : con_150.1 = (yX11_hasBit, cX11_hasBit, 2, (some .boolean)) := rfl
noncomputable def cu_150 : List CUT2 := []
theorem ch_150 : staG tb_X11_hasBit 1 bt_RX11 [] ct_3 [] [] cu_150 12 con_150 = true := by decide +kernel
theorem vl_150 (l : Launch) : Vld2 l vwCl gTbl con_150 := conR_ok3 gT_all (hd_150) rfl pn_RX11 tk_X11_hasBit bo_RX11 xo_RX11 (cto_3 l) ch_150 cut_nil
/-- RookHusting hasBit -/
noncomputable def con_151 : Con2 := ((yX11_hasBit, cX11_hasBit, 2, (some .boolean)), (0, 0), ([(0, 6, 0), (0, 0, 0)], [(0, 0), (0, 0)], [], []), [((0, 0, 0), [(0, 0), (0, 0), (0, 0)], [], [], [1])])
theorem hd_151 : con_151.1 = (yX11_hasBit, cX11_hasBit, 2, (some .boolean)) := rfl
noncomputable def cu_151 : List CUT2 := []
theorem ch_151 : staG tb_X11_hasBit 1 bt_RX11 [] ct_3 [] [] cu_151 11 con_151 = true := by decide +kernel
theorem vl_151 (l : Launch) : Vld2 l vwCl gTbl con_151 := conR_ok3 gT_all (hd_151) rfl pn_RX11 tk_X11_hasBit bo_RX11 xo_RX11 (cto_3 l) ch_151 cut_nil
/-- RookHusting$Reader takeNumber -/
noncomputable def con_152 : Con2 := ((yX6_takeNumber, cX6_takeNumber, 5, (some .int)), (2, 40), ([(6, 0, 0), (0, 0, 0), (1, 2, 0), (0, 6, 0)], gi_92, hc_5, []), [((0, 0, 0), gi_93, hq_13, [], [1, 1, 1, 1, 1]), ((0, 0, 0), gi_94, hq_14, [], tg_0), ((0, 3, 0), gi_75, hq_14, [], tg_0), ((0, 4, 0), gi_76, hq_14, [], tg_0)])
theorem hd_152 : con_152.1 = (yX6_takeNumber, cX6_takeNumber, 5, (some .int)) := rfl
theorem ck_RX6_147_147 : COK2 RX6 vwCl gTbl 147 2 con_147 := ⟨wd_682, wd_125, mh_X11_hasBit, .inr (.inl ⟨rfl, by decide +kernel, wd_681, pd_X11_hasBit⟩)⟩
theorem ck_RX6_147_148 : COK2 RX6 vwCl gTbl 147 2 con_148 := ⟨wd_682, wd_125, mh_X11_hasBit, .inr (.inl ⟨rfl, by decide +kernel, wd_681, pd_X11_hasBit⟩)⟩
theorem ck_RX6_147_149 : COK2 RX6 vwCl gTbl 147 2 con_149 := ⟨wd_682, wd_125, mh_X11_hasBit, .inr (.inl ⟨rfl, by decide +kernel, wd_681, pd_X11_hasBit⟩)⟩
theorem ck_RX6_147_150 : COK2 RX6 vwCl gTbl 147 2 con_150 := ⟨wd_682, wd_125, mh_X11_hasBit, .inr (.inl ⟨rfl, by decide +kernel, wd_681, pd_X11_hasBit⟩)⟩
theorem ck_RX6_147_151 : COK2 RX6 vwCl gTbl 147 2 con_151 := ⟨wd_682, wd_125, mh_X11_hasBit, .inr (.inl ⟨rfl, by decide +kernel, wd_681, pd_X11_hasBit⟩)⟩
noncomputable def ct_152 : CTB2 := [(22, 70, 0, con_15, [0, 1]), (55, 147, 2, con_151, []), (55, 147, 2, con_150, []), (55, 147, 2, con_149, []), (55, 147, 2, con_148, []), (55, 147, 2, con_147, []), (63, 70, 0, con_19, [0, 1]), (72, 102, 0, con_10, [1, 2])]
noncomputable def cu_152 : List CUT2 := []
theorem ch_152 : staG tb_X6_takeNumber 1 bt_RX6 [] ct_152 [(52, [(1, (1, 4, 0), 0, 0)])] [] cu_152 31 con_152 = true := by decide +kernel
theorem cto_152 (l : Launch) : CTOK2 l RX6 vwCl gTbl ct_152 := ct2_cons (vl_15 l) ck_RX6_70_15 (ct2_cons (vl_151 l) ck_RX6_147_151 (ct2_cons (vl_150 l) ck_RX6_147_150 (ct2_cons (vl_149 l) ck_RX6_147_149 (ct2_cons (vl_148 l) ck_RX6_147_148 (ct2_cons (vl_147 l) ck_RX6_147_147 (ct2_cons (vl_19 l) ck_RX6_70_19 (ct2_cons (vl_10 l) ck_RX6_102_10 (ct2_nil))))))))
theorem vl_152 (l : Launch) : Vld2 l vwCl gTbl con_152 := conR_ok3 gT_all (hd_152) rfl pn_RX6 tk_X6_takeNumber bo_RX6 xo_RX6 (cto_152 l) ch_152 cut_nil
/-- RookHusting hasBit -/
noncomputable def con_153 : Con2 := ((yX11_hasBit, cX11_hasBit, 2, (some .boolean)), (0, 0), ([(0, 5, 0), (0, 4, 0)], [(0, 0), (0, 0)], [], []), [((0, 0, 0), [(0, 0), (0, 0), (0, 0)], [], [], [1])])
theorem hd_153 : con_153.1 = (yX11_hasBit, cX11_hasBit, 2, (some .boolean)) := rfl
noncomputable def cu_153 : List CUT2 := []
theorem ch_153 : staG tb_X11_hasBit 1 bt_RX11 [] ct_3 [] [] cu_153 11 con_153 = true := by decide +kernel
theorem vl_153 (l : Launch) : Vld2 l vwCl gTbl con_153 := conR_ok3 gT_all (hd_153) rfl pn_RX11 tk_X11_hasBit bo_RX11 xo_RX11 (cto_3 l) ch_153 cut_nil
/-- RookHusting hasBit -/
noncomputable def con_154 : Con2 := ((yX11_hasBit, cX11_hasBit, 2, (some .boolean)), (0, 0), ([(0, 5, 0), (0, 3, 0)], [(0, 0), (0, 0)], [], []), [((0, 0, 0), [(0, 0), (0, 0), (0, 0)], [], [], [1])])
theorem hd_154 : con_154.1 = (yX11_hasBit, cX11_hasBit, 2, (some .boolean)) := rfl
noncomputable def cu_154 : List CUT2 := []
theorem ch_154 : staG tb_X11_hasBit 1 bt_RX11 [] ct_3 [] [] cu_154 11 con_154 = true := by decide +kernel
theorem vl_154 (l : Launch) : Vld2 l vwCl gTbl con_154 := conR_ok3 gT_all (hd_154) rfl pn_RX11 tk_X11_hasBit bo_RX11 xo_RX11 (cto_3 l) ch_154 cut_nil
/-- RookHusting hasBit -/
noncomputable def con_155 : Con2 := ((yX11_hasBit, cX11_hasBit, 2, (some .boolean)), (0, 0), ([(0, 5, 0), (0, 2, 0)], [(0, 0), (0, 0)], [], []), [((0, 1, 0), [(0, 0), (0, 0), (0, 0)], [], [], [1])])
theorem hd_155 : con_155.1 = (yX11_hasBit, cX11_hasBit, 2, (some .boolean)) := rfl
noncomputable def cu_155 : List CUT2 := []
theorem ch_155 : staG tb_X11_hasBit 1 bt_RX11 [] ct_3 [] [] cu_155 12 con_155 = true := by decide +kernel
theorem vl_155 (l : Launch) : Vld2 l vwCl gTbl con_155 := conR_ok3 gT_all (hd_155) rfl pn_RX11 tk_X11_hasBit bo_RX11 xo_RX11 (cto_3 l) ch_155 cut_nil
/-- RookHusting hasBit -/
noncomputable def con_156 : Con2 := ((yX11_hasBit, cX11_hasBit, 2, (some .boolean)), (0, 0), ([(0, 5, 0), (0, 1, 0)], [(0, 0), (0, 0)], [], []), [((0, 0, 0), [(0, 0), (0, 0), (0, 0)], [], [], [1])])
theorem hd_156 : con_156.1 = (yX11_hasBit, cX11_hasBit, 2, (some .boolean)) := rfl
noncomputable def cu_156 : List CUT2 := []
theorem ch_156 : staG tb_X11_hasBit 1 bt_RX11 [] ct_3 [] [] cu_156 11 con_156 = true := by decide +kernel
theorem vl_156 (l : Launch) : Vld2 l vwCl gTbl con_156 := conR_ok3 gT_all (hd_156) rfl pn_RX11 tk_X11_hasBit bo_RX11 xo_RX11 (cto_3 l) ch_156 cut_nil
/-- RookHusting hasBit -/
noncomputable def con_157 : Con2 := ((yX11_hasBit, cX11_hasBit, 2, (some .boolean)), (0, 0), ([(0, 5, 0), (0, 0, 0)], [(0, 0), (0, 0)], [], []), [((0, 1, 0), [(0, 0), (0, 0), (0, 0)], [], [], [1])])
theorem hd_157 : con_157.1 = (yX11_hasBit, cX11_hasBit, 2, (some .boolean)) := rfl
noncomputable def cu_157 : List CUT2 := []
theorem ch_157 : staG tb_X11_hasBit 1 bt_RX11 [] ct_3 [] [] cu_157 12 con_157 = true := by decide +kernel
theorem vl_157 (l : Launch) : Vld2 l vwCl gTbl con_157 := conR_ok3 gT_all (hd_157) rfl pn_RX11 tk_X11_hasBit bo_RX11 xo_RX11 (cto_3 l) ch_157 cut_nil
/-- RookHusting$Reader takeNumber -/
noncomputable def con_158 : Con2 := ((yX6_takeNumber, cX6_takeNumber, 5, (some .int)), (2, 40), ([(6, 0, 0), (0, 0, 0), (1, 2, 0), (0, 5, 0)], gi_92, hc_5, []), [((0, 0, 0), gi_93, hq_13, [], [1, 1, 1, 1, 1]), ((0, 1, 0), gi_73, hq_14, [], tg_0), ((0, 3, 0), gi_75, hq_14, [], tg_0), ((0, 4, 0), gi_76, hq_14, [], tg_0)])
theorem hd_158 : con_158.1 = (yX6_takeNumber, cX6_takeNumber, 5, (some .int)) := rfl
theorem ck_RX6_147_153 : COK2 RX6 vwCl gTbl 147 2 con_153 := ⟨wd_682, wd_125, mh_X11_hasBit, .inr (.inl ⟨rfl, by decide +kernel, wd_681, pd_X11_hasBit⟩)⟩
theorem ck_RX6_147_154 : COK2 RX6 vwCl gTbl 147 2 con_154 := ⟨wd_682, wd_125, mh_X11_hasBit, .inr (.inl ⟨rfl, by decide +kernel, wd_681, pd_X11_hasBit⟩)⟩
theorem ck_RX6_147_155 : COK2 RX6 vwCl gTbl 147 2 con_155 := ⟨wd_682, wd_125, mh_X11_hasBit, .inr (.inl ⟨rfl, by decide +kernel, wd_681, pd_X11_hasBit⟩)⟩
theorem ck_RX6_147_156 : COK2 RX6 vwCl gTbl 147 2 con_156 := ⟨wd_682, wd_125, mh_X11_hasBit, .inr (.inl ⟨rfl, by decide +kernel, wd_681, pd_X11_hasBit⟩)⟩
theorem ck_RX6_147_157 : COK2 RX6 vwCl gTbl 147 2 con_157 := ⟨wd_682, wd_125, mh_X11_hasBit, .inr (.inl ⟨rfl, by decide +kernel, wd_681, pd_X11_hasBit⟩)⟩
noncomputable def ct_158 : CTB2 := [(22, 70, 0, con_15, [0, 1]), (55, 147, 2, con_157, []), (55, 147, 2, con_156, []), (55, 147, 2, con_155, []), (55, 147, 2, con_154, []), (55, 147, 2, con_153, []), (63, 70, 0, con_19, [0, 1]), (72, 102, 0, con_10, [1, 2])]
noncomputable def cu_158 : List CUT2 := []
theorem ch_158 : staG tb_X6_takeNumber 1 bt_RX6 [] ct_158 [(52, [(1, (1, 4, 0), 0, 0)])] [] cu_158 31 con_158 = true := by decide +kernel
theorem cto_158 (l : Launch) : CTOK2 l RX6 vwCl gTbl ct_158 := ct2_cons (vl_15 l) ck_RX6_70_15 (ct2_cons (vl_157 l) ck_RX6_147_157 (ct2_cons (vl_156 l) ck_RX6_147_156 (ct2_cons (vl_155 l) ck_RX6_147_155 (ct2_cons (vl_154 l) ck_RX6_147_154 (ct2_cons (vl_153 l) ck_RX6_147_153 (ct2_cons (vl_19 l) ck_RX6_70_19 (ct2_cons (vl_10 l) ck_RX6_102_10 (ct2_nil))))))))
theorem vl_158 (l : Launch) : Vld2 l vwCl gTbl con_158 := conR_ok3 gT_all (hd_158) rfl pn_RX6 tk_X6_takeNumber bo_RX6 xo_RX6 (cto_158 l) ch_158 cut_nil
/-- RookHusting hasBit -/
noncomputable def con_159 : Con2 := ((yX11_hasBit, cX11_hasBit, 2, (some .boolean)), (0, 0), ([(0, 3, 0), (0, 4, 0)], [(0, 0), (0, 0)], [], []), [((0, 0, 0), [(0, 0), (0, 0), (0, 0)], [], [], [1])])
theorem hd_159 : con_159.1 = (yX11_hasBit, cX11_hasBit, 2, (some .boolean)) := rfl
noncomputable def cu_159 : List CUT2 := []
theorem ch_159 : staG tb_X11_hasBit 1 bt_RX11 [] ct_3 [] [] cu_159 11 con_159 = true := by decide +kernel
theorem vl_159 (l : Launch) : Vld2 l vwCl gTbl con_159 := conR_ok3 gT_all (hd_159) rfl pn_RX11 tk_X11_hasBit bo_RX11 xo_RX11 (cto_3 l) ch_159 cut_nil
/-- RookHusting hasBit -/
noncomputable def con_160 : Con2 := ((yX11_hasBit, cX11_hasBit, 2, (some .boolean)), (0, 0), ([(0, 3, 0), (0, 3, 0)], [(0, 0), (0, 0)], [], []), [((0, 0, 0), [(0, 0), (0, 0), (0, 0)], [], [], [1])])
theorem hd_160 : con_160.1 = (yX11_hasBit, cX11_hasBit, 2, (some .boolean)) := rfl
noncomputable def cu_160 : List CUT2 := []
theorem ch_160 : staG tb_X11_hasBit 1 bt_RX11 [] ct_3 [] [] cu_160 11 con_160 = true := by decide +kernel
theorem vl_160 (l : Launch) : Vld2 l vwCl gTbl con_160 := conR_ok3 gT_all (hd_160) rfl pn_RX11 tk_X11_hasBit bo_RX11 xo_RX11 (cto_3 l) ch_160 cut_nil
/-- RookHusting hasBit -/
noncomputable def con_161 : Con2 := ((yX11_hasBit, cX11_hasBit, 2, (some .boolean)), (0, 0), ([(0, 3, 0), (0, 2, 0)], [(0, 0), (0, 0)], [], []), [((0, 0, 0), [(0, 0), (0, 0), (0, 0)], [], [], [1])])
theorem hd_161 : con_161.1 = (yX11_hasBit, cX11_hasBit, 2, (some .boolean)) := rfl
noncomputable def cu_161 : List CUT2 := []
theorem ch_161 : staG tb_X11_hasBit 1 bt_RX11 [] ct_3 [] [] cu_161 11 con_161 = true := by decide +kernel
theorem vl_161 (l : Launch) : Vld2 l vwCl gTbl con_161 := conR_ok3 gT_all (hd_161) rfl pn_RX11 tk_X11_hasBit bo_RX11 xo_RX11 (cto_3 l) ch_161 cut_nil
/-- RookHusting hasBit -/
noncomputable def con_162 : Con2 := ((yX11_hasBit, cX11_hasBit, 2, (some .boolean)), (0, 0), ([(0, 3, 0), (0, 1, 0)], [(0, 0), (0, 0)], [], []), [((0, 1, 0), [(0, 0), (0, 0), (0, 0)], [], [], [1])])
theorem hd_162 : con_162.1 = (yX11_hasBit, cX11_hasBit, 2, (some .boolean)) := rfl
noncomputable def cu_162 : List CUT2 := []
theorem ch_162 : staG tb_X11_hasBit 1 bt_RX11 [] ct_3 [] [] cu_162 12 con_162 = true := by decide +kernel
theorem vl_162 (l : Launch) : Vld2 l vwCl gTbl con_162 := conR_ok3 gT_all (hd_162) rfl pn_RX11 tk_X11_hasBit bo_RX11 xo_RX11 (cto_3 l) ch_162 cut_nil
/-- RookHusting hasBit -/
noncomputable def con_163 : Con2 := ((yX11_hasBit, cX11_hasBit, 2, (some .boolean)), (0, 0), ([(0, 3, 0), (0, 0, 0)], [(0, 0), (0, 0)], [], []), [((0, 1, 0), [(0, 0), (0, 0), (0, 0)], [], [], [1])])
theorem hd_163 : con_163.1 = (yX11_hasBit, cX11_hasBit, 2, (some .boolean)) := rfl
noncomputable def cu_163 : List CUT2 := []
theorem ch_163 : staG tb_X11_hasBit 1 bt_RX11 [] ct_3 [] [] cu_163 12 con_163 = true := by decide +kernel
theorem vl_163 (l : Launch) : Vld2 l vwCl gTbl con_163 := conR_ok3 gT_all (hd_163) rfl pn_RX11 tk_X11_hasBit bo_RX11 xo_RX11 (cto_3 l) ch_163 cut_nil
/-- RookHusting$Reader takeNumber -/
noncomputable def con_164 : Con2 := ((yX6_takeNumber, cX6_takeNumber, 5, (some .int)), (2, 40), ([(6, 0, 0), (0, 0, 0), (1, 2, 0), (0, 3, 0)], gi_92, hc_5, []), [((0, 0, 0), gi_93, hq_13, [], [1, 1, 1, 1, 1]), ((0, 2, 0), gi_74, hq_14, [], tg_0), ((0, 3, 0), gi_75, hq_14, [], tg_0), ((0, 4, 0), gi_76, hq_14, [], tg_0)])
theorem hd_164 : con_164.1 = (yX6_takeNumber, cX6_takeNumber, 5, (some .int)) := rfl
theorem ck_RX6_147_159 : COK2 RX6 vwCl gTbl 147 2 con_159 := ⟨wd_682, wd_125, mh_X11_hasBit, .inr (.inl ⟨rfl, by decide +kernel, wd_681, pd_X11_hasBit⟩)⟩
theorem ck_RX6_147_160 : COK2 RX6 vwCl gTbl 147 2 con_160 := ⟨wd_682, wd_125, mh_X11_hasBit, .inr (.inl ⟨rfl, by decide +kernel, wd_681, pd_X11_hasBit⟩)⟩
theorem ck_RX6_147_161 : COK2 RX6 vwCl gTbl 147 2 con_161 := ⟨wd_682, wd_125, mh_X11_hasBit, .inr (.inl ⟨rfl, by decide +kernel, wd_681, pd_X11_hasBit⟩)⟩
theorem ck_RX6_147_162 : COK2 RX6 vwCl gTbl 147 2 con_162 := ⟨wd_682, wd_125, mh_X11_hasBit, .inr (.inl ⟨rfl, by decide +kernel, wd_681, pd_X11_hasBit⟩)⟩
theorem ck_RX6_147_163 : COK2 RX6 vwCl gTbl 147 2 con_163 := ⟨wd_682, wd_125, mh_X11_hasBit, .inr (.inl ⟨rfl, by decide +kernel, wd_681, pd_X11_hasBit⟩)⟩
noncomputable def ct_164 : CTB2 := [(22, 70, 0, con_15, [0, 1]), (55, 147, 2, con_163, []), (55, 147, 2, con_162, []), (55, 147, 2, con_161, []), (55, 147, 2, con_160, []), (55, 147, 2, con_159, []), (63, 70, 0, con_19, [0, 1]), (72, 102, 0, con_10, [1, 2])]
noncomputable def cu_164 : List CUT2 := []
theorem ch_164 : staG tb_X6_takeNumber 1 bt_RX6 [] ct_164 [(52, [(1, (1, 4, 0), 0, 0)])] [] cu_164 31 con_164 = true := by decide +kernel
theorem cto_164 (l : Launch) : CTOK2 l RX6 vwCl gTbl ct_164 := ct2_cons (vl_15 l) ck_RX6_70_15 (ct2_cons (vl_163 l) ck_RX6_147_163 (ct2_cons (vl_162 l) ck_RX6_147_162 (ct2_cons (vl_161 l) ck_RX6_147_161 (ct2_cons (vl_160 l) ck_RX6_147_160 (ct2_cons (vl_159 l) ck_RX6_147_159 (ct2_cons (vl_19 l) ck_RX6_70_19 (ct2_cons (vl_10 l) ck_RX6_102_10 (ct2_nil))))))))
theorem vl_164 (l : Launch) : Vld2 l vwCl gTbl con_164 := conR_ok3 gT_all (hd_164) rfl pn_RX6 tk_X6_takeNumber bo_RX6 xo_RX6 (cto_164 l) ch_164 cut_nil
/-- RookHusting hasBit -/
noncomputable def con_165 : Con2 := ((yX11_hasBit, cX11_hasBit, 2, (some .boolean)), (0, 0), ([(0, 28, 0), (0, 4, 0)], [(0, 0), (0, 0)], [], []), [((0, 1, 0), [(0, 0), (0, 0), (0, 0)], [], [], [1])])
theorem hd_165 : con_165.1 = (yX11_hasBit, cX11_hasBit, 2, (some .boolean)) := rfl
noncomputable def cu_165 : List CUT2 := []
theorem ch_165 : staG tb_X11_hasBit 1 bt_RX11 [] ct_3 [] [] cu_165 12 con_165 = true := by decide +kernel
theorem vl_165 (l : Launch) : Vld2 l vwCl gTbl con_165 := conR_ok3 gT_all (hd_165) rfl pn_RX11 tk_X11_hasBit bo_RX11 xo_RX11 (cto_3 l) ch_165 cut_nil
/-- RookHusting hasBit -/
noncomputable def con_166 : Con2 := ((yX11_hasBit, cX11_hasBit, 2, (some .boolean)), (0, 0), ([(0, 28, 0), (0, 3, 0)], [(0, 0), (0, 0)], [], []), [((0, 1, 0), [(0, 0), (0, 0), (0, 0)], [], [], [1])])
theorem hd_166 : con_166.1 = (yX11_hasBit, cX11_hasBit, 2, (some .boolean)) := rfl
noncomputable def cu_166 : List CUT2 := []
theorem ch_166 : staG tb_X11_hasBit 1 bt_RX11 [] ct_3 [] [] cu_166 12 con_166 = true := by decide +kernel
theorem vl_166 (l : Launch) : Vld2 l vwCl gTbl con_166 := conR_ok3 gT_all (hd_166) rfl pn_RX11 tk_X11_hasBit bo_RX11 xo_RX11 (cto_3 l) ch_166 cut_nil
/-- RookHusting hasBit -/
noncomputable def con_167 : Con2 := ((yX11_hasBit, cX11_hasBit, 2, (some .boolean)), (0, 0), ([(0, 28, 0), (0, 2, 0)], [(0, 0), (0, 0)], [], []), [((0, 1, 0), [(0, 0), (0, 0), (0, 0)], [], [], [1])])
theorem hd_167 : con_167.1 = (yX11_hasBit, cX11_hasBit, 2, (some .boolean)) := rfl
noncomputable def cu_167 : List CUT2 := []
theorem ch_167 : staG tb_X11_hasBit 1 bt_RX11 [] ct_3 [] [] cu_167 12 con_167 = true := by decide +kernel
theorem vl_167 (l : Launch) : Vld2 l vwCl gTbl con_167 := conR_ok3 gT_all (hd_167) rfl pn_RX11 tk_X11_hasBit bo_RX11 xo_RX11 (cto_3 l) ch_167 cut_nil
/-- RookHusting hasBit -/
noncomputable def con_168 : Con2 := ((yX11_hasBit, cX11_hasBit, 2, (some .boolean)), (0, 0), ([(0, 28, 0), (0, 1, 0)], [(0, 0), (0, 0)], [], []), [((0, 0, 0), [(0, 0), (0, 0), (0, 0)], [], [], [1])])
theorem hd_168 : con_168.1 = (yX11_hasBit, cX11_hasBit, 2, (some .boolean)) := rfl
noncomputable def cu_168 : List CUT2 := []
theorem ch_168 : staG tb_X11_hasBit 1 bt_RX11 [] ct_3 [] [] cu_168 11 con_168 = true := by decide +kernel
theorem vl_168 (l : Launch) : Vld2 l vwCl gTbl con_168 := conR_ok3 gT_all (hd_168) rfl pn_RX11 tk_X11_hasBit bo_RX11 xo_RX11 (cto_3 l) ch_168 cut_nil
/-- RookHusting hasBit -/
noncomputable def con_169 : Con2 := ((yX11_hasBit, cX11_hasBit, 2, (some .boolean)), (0, 0), ([(0, 28, 0), (0, 0, 0)], [(0, 0), (0, 0)], [], []), [((0, 0, 0), [(0, 0), (0, 0), (0, 0)], [], [], [1])])
theorem hd_169 : con_169.1 = (yX11_hasBit, cX11_hasBit, 2, (some .boolean)) := rfl
noncomputable def cu_169 : List CUT2 := []
theorem ch_169 : staG tb_X11_hasBit 1 bt_RX11 [] ct_3 [] [] cu_169 11 con_169 = true := by decide +kernel
theorem vl_169 (l : Launch) : Vld2 l vwCl gTbl con_169 := conR_ok3 gT_all (hd_169) rfl pn_RX11 tk_X11_hasBit bo_RX11 xo_RX11 (cto_3 l) ch_169 cut_nil
/-- RookHusting$Reader takeNumber -/
noncomputable def con_170 : Con2 := ((yX6_takeNumber, cX6_takeNumber, 5, (some .int)), (2, 40), ([(6, 0, 0), (0, 0, 0), (1, 2, 0), (0, 28, 0)], gi_92, hc_5, []), [((0, 0, 0), gi_93, hq_13, [], [1, 1, 1, 1, 1]), ((0, 0, 0), gi_94, hq_14, [], tg_0), ((0, 1, 0), gi_73, hq_14, [], tg_0)])
theorem hd_170 : con_170.1 = (yX6_takeNumber, cX6_takeNumber, 5, (some .int)) := rfl
theorem ck_RX6_147_165 : COK2 RX6 vwCl gTbl 147 2 con_165 := ⟨wd_682, wd_125, mh_X11_hasBit, .inr (.inl ⟨rfl, by decide +kernel, wd_681, pd_X11_hasBit⟩)⟩
theorem ck_RX6_147_166 : COK2 RX6 vwCl gTbl 147 2 con_166 := ⟨wd_682, wd_125, mh_X11_hasBit, .inr (.inl ⟨rfl, by decide +kernel, wd_681, pd_X11_hasBit⟩)⟩
theorem ck_RX6_147_167 : COK2 RX6 vwCl gTbl 147 2 con_167 := ⟨wd_682, wd_125, mh_X11_hasBit, .inr (.inl ⟨rfl, by decide +kernel, wd_681, pd_X11_hasBit⟩)⟩
theorem ck_RX6_147_168 : COK2 RX6 vwCl gTbl 147 2 con_168 := ⟨wd_682, wd_125, mh_X11_hasBit, .inr (.inl ⟨rfl, by decide +kernel, wd_681, pd_X11_hasBit⟩)⟩
theorem ck_RX6_147_169 : COK2 RX6 vwCl gTbl 147 2 con_169 := ⟨wd_682, wd_125, mh_X11_hasBit, .inr (.inl ⟨rfl, by decide +kernel, wd_681, pd_X11_hasBit⟩)⟩
noncomputable def ct_170 : CTB2 := [(22, 70, 0, con_15, [0, 1]), (55, 147, 2, con_169, []), (55, 147, 2, con_168, []), (55, 147, 2, con_167, []), (55, 147, 2, con_166, []), (55, 147, 2, con_165, []), (63, 70, 0, con_19, [0, 1]), (72, 102, 0, con_10, [1, 2])]
noncomputable def cu_170 : List CUT2 := []
theorem ch_170 : staG tb_X6_takeNumber 1 bt_RX6 [] ct_170 [(52, [(1, (1, 4, 0), 0, 0)])] [] cu_170 31 con_170 = true := by decide +kernel
theorem cto_170 (l : Launch) : CTOK2 l RX6 vwCl gTbl ct_170 := ct2_cons (vl_15 l) ck_RX6_70_15 (ct2_cons (vl_169 l) ck_RX6_147_169 (ct2_cons (vl_168 l) ck_RX6_147_168 (ct2_cons (vl_167 l) ck_RX6_147_167 (ct2_cons (vl_166 l) ck_RX6_147_166 (ct2_cons (vl_165 l) ck_RX6_147_165 (ct2_cons (vl_19 l) ck_RX6_70_19 (ct2_cons (vl_10 l) ck_RX6_102_10 (ct2_nil))))))))
theorem vl_170 (l : Launch) : Vld2 l vwCl gTbl con_170 := conR_ok3 gT_all (hd_170) rfl pn_RX6 tk_X6_takeNumber bo_RX6 xo_RX6 (cto_170 l) ch_170 cut_nil
/-- RookHusting$Hundred addWant -/
noncomputable def hc_18 : List AC := [ac_54, .inr (1, [(6, (2, 0, 5)), (1, (0, 3, 0))]), am_6, am_5]
noncomputable def hq_30 : HP := [(false, ac_54), (true, .inr (1, [(6, (2, 0, 5)), (1, (0, 4, 0))])), (true, am_6), (true, am_5)]
noncomputable def con_171 : Con2 := ((yX4_addWant, cX4_addWant, 6, none), (0, 0), ([(6, 0, 0), (1, 1, 0)], gi_90, hc_18, []), [((9, 0, 0), gi_91, hq_30, [], [1])])
theorem hd_171 : con_171.1 = (yX4_addWant, cX4_addWant, 6, none) := rfl
noncomputable def cu_171 : List CUT2 := []
theorem ch_171 : staG tb_X4_addWant 1 bt_RX4 [] ct_6 [] [] cu_171 99 con_171 = true := by decide +kernel
theorem vl_171 (l : Launch) : Vld2 l vwCl gTbl con_171 := conR_ok3 gT_all (hd_171) rfl pn_RX4 tk_X4_addWant bo_RX4 xo_RX4 (cto_6 l) ch_171 cut_nil
/-- RookHusting hasBit -/
noncomputable def con_172 : Con2 := ((yX11_hasBit, cX11_hasBit, 2, (some .boolean)), (0, 0), ([(0, 26, 0), (0, 4, 0)], [(0, 0), (0, 0)], [], []), [((0, 1, 0), [(0, 0), (0, 0), (0, 0)], [], [], [1])])
theorem hd_172 : con_172.1 = (yX11_hasBit, cX11_hasBit, 2, (some .boolean)) := rfl
noncomputable def cu_172 : List CUT2 := []
theorem ch_172 : staG tb_X11_hasBit 1 bt_RX11 [] ct_3 [] [] cu_172 12 con_172 = true := by decide +kernel
theorem vl_172 (l : Launch) : Vld2 l vwCl gTbl con_172 := conR_ok3 gT_all (hd_172) rfl pn_RX11 tk_X11_hasBit bo_RX11 xo_RX11 (cto_3 l) ch_172 cut_nil
/-- RookHusting hasBit -/
noncomputable def con_173 : Con2 := ((yX11_hasBit, cX11_hasBit, 2, (some .boolean)), (0, 0), ([(0, 26, 0), (0, 3, 0)], [(0, 0), (0, 0)], [], []), [((0, 1, 0), [(0, 0), (0, 0), (0, 0)], [], [], [1])])
theorem hd_173 : con_173.1 = (yX11_hasBit, cX11_hasBit, 2, (some .boolean)) := rfl
noncomputable def cu_173 : List CUT2 := []
theorem ch_173 : staG tb_X11_hasBit 1 bt_RX11 [] ct_3 [] [] cu_173 12 con_173 = true := by decide +kernel
theorem vl_173 (l : Launch) : Vld2 l vwCl gTbl con_173 := conR_ok3 gT_all (hd_173) rfl pn_RX11 tk_X11_hasBit bo_RX11 xo_RX11 (cto_3 l) ch_173 cut_nil
/-- RookHusting hasBit -/
noncomputable def con_174 : Con2 := ((yX11_hasBit, cX11_hasBit, 2, (some .boolean)), (0, 0), ([(0, 26, 0), (0, 2, 0)], [(0, 0), (0, 0)], [], []), [((0, 0, 0), [(0, 0), (0, 0), (0, 0)], [], [], [1])])
theorem hd_174 : con_174.1 = (yX11_hasBit, cX11_hasBit, 2, (some .boolean)) := rfl
noncomputable def cu_174 : List CUT2 := []
theorem ch_174 : staG tb_X11_hasBit 1 bt_RX11 [] ct_3 [] [] cu_174 11 con_174 = true := by decide +kernel
theorem vl_174 (l : Launch) : Vld2 l vwCl gTbl con_174 := conR_ok3 gT_all (hd_174) rfl pn_RX11 tk_X11_hasBit bo_RX11 xo_RX11 (cto_3 l) ch_174 cut_nil
/-- RookHusting hasBit -/
noncomputable def con_175 : Con2 := ((yX11_hasBit, cX11_hasBit, 2, (some .boolean)), (0, 0), ([(0, 26, 0), (0, 1, 0)], [(0, 0), (0, 0)], [], []), [((0, 1, 0), [(0, 0), (0, 0), (0, 0)], [], [], [1])])
theorem hd_175 : con_175.1 = (yX11_hasBit, cX11_hasBit, 2, (some .boolean)) := rfl
noncomputable def cu_175 : List CUT2 := []
theorem ch_175 : staG tb_X11_hasBit 1 bt_RX11 [] ct_3 [] [] cu_175 12 con_175 = true := by decide +kernel
theorem vl_175 (l : Launch) : Vld2 l vwCl gTbl con_175 := conR_ok3 gT_all (hd_175) rfl pn_RX11 tk_X11_hasBit bo_RX11 xo_RX11 (cto_3 l) ch_175 cut_nil
/-- RookHusting hasBit -/
noncomputable def con_176 : Con2 := ((yX11_hasBit, cX11_hasBit, 2, (some .boolean)), (0, 0), ([(0, 26, 0), (0, 0, 0)], [(0, 0), (0, 0)], [], []), [((0, 0, 0), [(0, 0), (0, 0), (0, 0)], [], [], [1])])
theorem hd_176 : con_176.1 = (yX11_hasBit, cX11_hasBit, 2, (some .boolean)) := rfl
noncomputable def cu_176 : List CUT2 := []
theorem ch_176 : staG tb_X11_hasBit 1 bt_RX11 [] ct_3 [] [] cu_176 11 con_176 = true := by decide +kernel
theorem vl_176 (l : Launch) : Vld2 l vwCl gTbl con_176 := conR_ok3 gT_all (hd_176) rfl pn_RX11 tk_X11_hasBit bo_RX11 xo_RX11 (cto_3 l) ch_176 cut_nil
/-- RookHusting$Reader takeNumber -/
noncomputable def con_177 : Con2 := ((yX6_takeNumber, cX6_takeNumber, 5, (some .int)), (2, 40), ([(6, 0, 0), (0, 0, 0), (1, 2, 0), (0, 26, 0)], gi_92, hc_5, []), [((0, 0, 0), gi_93, hq_13, [], [1, 1, 1, 1, 1]), ((0, 0, 0), gi_94, hq_14, [], tg_0), ((0, 2, 0), gi_74, hq_14, [], tg_0)])
theorem hd_177 : con_177.1 = (yX6_takeNumber, cX6_takeNumber, 5, (some .int)) := rfl
theorem ck_RX6_147_172 : COK2 RX6 vwCl gTbl 147 2 con_172 := ⟨wd_682, wd_125, mh_X11_hasBit, .inr (.inl ⟨rfl, by decide +kernel, wd_681, pd_X11_hasBit⟩)⟩
theorem ck_RX6_147_173 : COK2 RX6 vwCl gTbl 147 2 con_173 := ⟨wd_682, wd_125, mh_X11_hasBit, .inr (.inl ⟨rfl, by decide +kernel, wd_681, pd_X11_hasBit⟩)⟩
theorem ck_RX6_147_174 : COK2 RX6 vwCl gTbl 147 2 con_174 := ⟨wd_682, wd_125, mh_X11_hasBit, .inr (.inl ⟨rfl, by decide +kernel, wd_681, pd_X11_hasBit⟩)⟩
theorem ck_RX6_147_175 : COK2 RX6 vwCl gTbl 147 2 con_175 := ⟨wd_682, wd_125, mh_X11_hasBit, .inr (.inl ⟨rfl, by decide +kernel, wd_681, pd_X11_hasBit⟩)⟩
theorem ck_RX6_147_176 : COK2 RX6 vwCl gTbl 147 2 con_176 := ⟨wd_682, wd_125, mh_X11_hasBit, .inr (.inl ⟨rfl, by decide +kernel, wd_681, pd_X11_hasBit⟩)⟩
noncomputable def ct_177 : CTB2 := [(22, 70, 0, con_15, [0, 1]), (55, 147, 2, con_176, []), (55, 147, 2, con_175, []), (55, 147, 2, con_174, []), (55, 147, 2, con_173, []), (55, 147, 2, con_172, []), (63, 70, 0, con_19, [0, 1]), (72, 102, 0, con_10, [1, 2])]
noncomputable def cu_177 : List CUT2 := []
theorem ch_177 : staG tb_X6_takeNumber 1 bt_RX6 [] ct_177 [(52, [(1, (1, 4, 0), 0, 0)])] [] cu_177 31 con_177 = true := by decide +kernel
theorem cto_177 (l : Launch) : CTOK2 l RX6 vwCl gTbl ct_177 := ct2_cons (vl_15 l) ck_RX6_70_15 (ct2_cons (vl_176 l) ck_RX6_147_176 (ct2_cons (vl_175 l) ck_RX6_147_175 (ct2_cons (vl_174 l) ck_RX6_147_174 (ct2_cons (vl_173 l) ck_RX6_147_173 (ct2_cons (vl_172 l) ck_RX6_147_172 (ct2_cons (vl_19 l) ck_RX6_70_19 (ct2_cons (vl_10 l) ck_RX6_102_10 (ct2_nil))))))))
theorem vl_177 (l : Launch) : Vld2 l vwCl gTbl con_177 := conR_ok3 gT_all (hd_177) rfl pn_RX6 tk_X6_takeNumber bo_RX6 xo_RX6 (cto_177 l) ch_177 cut_nil
/-- RookHusting hasBit -/
noncomputable def con_178 : Con2 := ((yX11_hasBit, cX11_hasBit, 2, (some .boolean)), (0, 0), ([(0, 25, 0), (0, 4, 0)], [(0, 0), (0, 0)], [], []), [((0, 1, 0), [(0, 0), (0, 0), (0, 0)], [], [], [1])])
theorem hd_178 : con_178.1 = (yX11_hasBit, cX11_hasBit, 2, (some .boolean)) := rfl
noncomputable def cu_178 : List CUT2 := []
theorem ch_178 : staG tb_X11_hasBit 1 bt_RX11 [] ct_3 [] [] cu_178 12 con_178 = true := by decide +kernel
theorem vl_178 (l : Launch) : Vld2 l vwCl gTbl con_178 := conR_ok3 gT_all (hd_178) rfl pn_RX11 tk_X11_hasBit bo_RX11 xo_RX11 (cto_3 l) ch_178 cut_nil
/-- RookHusting hasBit -/
noncomputable def con_179 : Con2 := ((yX11_hasBit, cX11_hasBit, 2, (some .boolean)), (0, 0), ([(0, 25, 0), (0, 3, 0)], [(0, 0), (0, 0)], [], []), [((0, 1, 0), [(0, 0), (0, 0), (0, 0)], [], [], [1])])
theorem hd_179 : con_179.1 = (yX11_hasBit, cX11_hasBit, 2, (some .boolean)) := rfl
noncomputable def cu_179 : List CUT2 := []
theorem ch_179 : staG tb_X11_hasBit 1 bt_RX11 [] ct_3 [] [] cu_179 12 con_179 = true := by decide +kernel
theorem vl_179 (l : Launch) : Vld2 l vwCl gTbl con_179 := conR_ok3 gT_all (hd_179) rfl pn_RX11 tk_X11_hasBit bo_RX11 xo_RX11 (cto_3 l) ch_179 cut_nil
/-- RookHusting hasBit -/
noncomputable def con_180 : Con2 := ((yX11_hasBit, cX11_hasBit, 2, (some .boolean)), (0, 0), ([(0, 25, 0), (0, 2, 0)], [(0, 0), (0, 0)], [], []), [((0, 0, 0), [(0, 0), (0, 0), (0, 0)], [], [], [1])])
theorem hd_180 : con_180.1 = (yX11_hasBit, cX11_hasBit, 2, (some .boolean)) := rfl
noncomputable def cu_180 : List CUT2 := []
theorem ch_180 : staG tb_X11_hasBit 1 bt_RX11 [] ct_3 [] [] cu_180 11 con_180 = true := by decide +kernel
theorem vl_180 (l : Launch) : Vld2 l vwCl gTbl con_180 := conR_ok3 gT_all (hd_180) rfl pn_RX11 tk_X11_hasBit bo_RX11 xo_RX11 (cto_3 l) ch_180 cut_nil
/-- RookHusting hasBit -/
noncomputable def con_181 : Con2 := ((yX11_hasBit, cX11_hasBit, 2, (some .boolean)), (0, 0), ([(0, 25, 0), (0, 1, 0)], [(0, 0), (0, 0)], [], []), [((0, 0, 0), [(0, 0), (0, 0), (0, 0)], [], [], [1])])
theorem hd_181 : con_181.1 = (yX11_hasBit, cX11_hasBit, 2, (some .boolean)) := rfl
noncomputable def cu_181 : List CUT2 := []
theorem ch_181 : staG tb_X11_hasBit 1 bt_RX11 [] ct_3 [] [] cu_181 11 con_181 = true := by decide +kernel
theorem vl_181 (l : Launch) : Vld2 l vwCl gTbl con_181 := conR_ok3 gT_all (hd_181) rfl pn_RX11 tk_X11_hasBit bo_RX11 xo_RX11 (cto_3 l) ch_181 cut_nil
/-- RookHusting hasBit -/
noncomputable def con_182 : Con2 := ((yX11_hasBit, cX11_hasBit, 2, (some .boolean)), (0, 0), ([(0, 25, 0), (0, 0, 0)], [(0, 0), (0, 0)], [], []), [((0, 1, 0), [(0, 0), (0, 0), (0, 0)], [], [], [1])])
theorem hd_182 : con_182.1 = (yX11_hasBit, cX11_hasBit, 2, (some .boolean)) := rfl
noncomputable def cu_182 : List CUT2 := []
theorem ch_182 : staG tb_X11_hasBit 1 bt_RX11 [] ct_3 [] [] cu_182 12 con_182 = true := by decide +kernel
theorem vl_182 (l : Launch) : Vld2 l vwCl gTbl con_182 := conR_ok3 gT_all (hd_182) rfl pn_RX11 tk_X11_hasBit bo_RX11 xo_RX11 (cto_3 l) ch_182 cut_nil
/-- RookHusting$Reader takeNumber -/
noncomputable def con_183 : Con2 := ((yX6_takeNumber, cX6_takeNumber, 5, (some .int)), (2, 40), ([(6, 0, 0), (0, 0, 0), (1, 2, 0), (0, 25, 0)], gi_92, hc_5, []), [((0, 0, 0), gi_93, hq_13, [], [1, 1, 1, 1, 1]), ((0, 1, 0), gi_73, hq_14, [], tg_0), ((0, 2, 0), gi_74, hq_14, [], tg_0)])
theorem hd_183 : con_183.1 = (yX6_takeNumber, cX6_takeNumber, 5, (some .int)) := rfl
theorem ck_RX6_147_178 : COK2 RX6 vwCl gTbl 147 2 con_178 := ⟨wd_682, wd_125, mh_X11_hasBit, .inr (.inl ⟨rfl, by decide +kernel, wd_681, pd_X11_hasBit⟩)⟩
theorem ck_RX6_147_179 : COK2 RX6 vwCl gTbl 147 2 con_179 := ⟨wd_682, wd_125, mh_X11_hasBit, .inr (.inl ⟨rfl, by decide +kernel, wd_681, pd_X11_hasBit⟩)⟩
theorem ck_RX6_147_180 : COK2 RX6 vwCl gTbl 147 2 con_180 := ⟨wd_682, wd_125, mh_X11_hasBit, .inr (.inl ⟨rfl, by decide +kernel, wd_681, pd_X11_hasBit⟩)⟩
theorem ck_RX6_147_181 : COK2 RX6 vwCl gTbl 147 2 con_181 := ⟨wd_682, wd_125, mh_X11_hasBit, .inr (.inl ⟨rfl, by decide +kernel, wd_681, pd_X11_hasBit⟩)⟩
theorem ck_RX6_147_182 : COK2 RX6 vwCl gTbl 147 2 con_182 := ⟨wd_682, wd_125, mh_X11_hasBit, .inr (.inl ⟨rfl, by decide +kernel, wd_681, pd_X11_hasBit⟩)⟩
noncomputable def ct_183 : CTB2 := [(22, 70, 0, con_15, [0, 1]), (55, 147, 2, con_182, []), (55, 147, 2, con_181, []), (55, 147, 2, con_180, []), (55, 147, 2, con_179, []), (55, 147, 2, con_178, []), (63, 70, 0, con_19, [0, 1]), (72, 102, 0, con_10, [1, 2])]
noncomputable def cu_183 : List CUT2 := []
theorem ch_183 : staG tb_X6_takeNumber 1 bt_RX6 [] ct_183 [(52, [(1, (1, 4, 0), 0, 0)])] [] cu_183 31 con_183 = true := by decide +kernel
theorem cto_183 (l : Launch) : CTOK2 l RX6 vwCl gTbl ct_183 := ct2_cons (vl_15 l) ck_RX6_70_15 (ct2_cons (vl_182 l) ck_RX6_147_182 (ct2_cons (vl_181 l) ck_RX6_147_181 (ct2_cons (vl_180 l) ck_RX6_147_180 (ct2_cons (vl_179 l) ck_RX6_147_179 (ct2_cons (vl_178 l) ck_RX6_147_178 (ct2_cons (vl_19 l) ck_RX6_70_19 (ct2_cons (vl_10 l) ck_RX6_102_10 (ct2_nil))))))))
theorem vl_183 (l : Launch) : Vld2 l vwCl gTbl con_183 := conR_ok3 gT_all (hd_183) rfl pn_RX6 tk_X6_takeNumber bo_RX6 xo_RX6 (cto_183 l) ch_183 cut_nil
/-- RookHusting hasBit -/
noncomputable def con_184 : Con2 := ((yX11_hasBit, cX11_hasBit, 2, (some .boolean)), (0, 0), ([(0, 22, 0), (0, 4, 0)], [(0, 0), (0, 0)], [], []), [((0, 1, 0), [(0, 0), (0, 0), (0, 0)], [], [], [1])])
theorem hd_184 : con_184.1 = (yX11_hasBit, cX11_hasBit, 2, (some .boolean)) := rfl
noncomputable def cu_184 : List CUT2 := []
theorem ch_184 : staG tb_X11_hasBit 1 bt_RX11 [] ct_3 [] [] cu_184 12 con_184 = true := by decide +kernel
theorem vl_184 (l : Launch) : Vld2 l vwCl gTbl con_184 := conR_ok3 gT_all (hd_184) rfl pn_RX11 tk_X11_hasBit bo_RX11 xo_RX11 (cto_3 l) ch_184 cut_nil
/-- RookHusting hasBit -/
noncomputable def con_185 : Con2 := ((yX11_hasBit, cX11_hasBit, 2, (some .boolean)), (0, 0), ([(0, 22, 0), (0, 3, 0)], [(0, 0), (0, 0)], [], []), [((0, 0, 0), [(0, 0), (0, 0), (0, 0)], [], [], [1])])
theorem hd_185 : con_185.1 = (yX11_hasBit, cX11_hasBit, 2, (some .boolean)) := rfl
noncomputable def cu_185 : List CUT2 := []
theorem ch_185 : staG tb_X11_hasBit 1 bt_RX11 [] ct_3 [] [] cu_185 11 con_185 = true := by decide +kernel
theorem vl_185 (l : Launch) : Vld2 l vwCl gTbl con_185 := conR_ok3 gT_all (hd_185) rfl pn_RX11 tk_X11_hasBit bo_RX11 xo_RX11 (cto_3 l) ch_185 cut_nil
/-- RookHusting hasBit -/
noncomputable def con_186 : Con2 := ((yX11_hasBit, cX11_hasBit, 2, (some .boolean)), (0, 0), ([(0, 22, 0), (0, 2, 0)], [(0, 0), (0, 0)], [], []), [((0, 1, 0), [(0, 0), (0, 0), (0, 0)], [], [], [1])])
theorem hd_186 : con_186.1 = (yX11_hasBit, cX11_hasBit, 2, (some .boolean)) := rfl
noncomputable def cu_186 : List CUT2 := []
theorem ch_186 : staG tb_X11_hasBit 1 bt_RX11 [] ct_3 [] [] cu_186 12 con_186 = true := by decide +kernel
theorem vl_186 (l : Launch) : Vld2 l vwCl gTbl con_186 := conR_ok3 gT_all (hd_186) rfl pn_RX11 tk_X11_hasBit bo_RX11 xo_RX11 (cto_3 l) ch_186 cut_nil
/-- RookHusting hasBit -/
noncomputable def con_187 : Con2 := ((yX11_hasBit, cX11_hasBit, 2, (some .boolean)), (0, 0), ([(0, 22, 0), (0, 1, 0)], [(0, 0), (0, 0)], [], []), [((0, 1, 0), [(0, 0), (0, 0), (0, 0)], [], [], [1])])
theorem hd_187 : con_187.1 = (yX11_hasBit, cX11_hasBit, 2, (some .boolean)) := rfl
noncomputable def cu_187 : List CUT2 := []
theorem ch_187 : staG tb_X11_hasBit 1 bt_RX11 [] ct_3 [] [] cu_187 12 con_187 = true := by decide +kernel
theorem vl_187 (l : Launch) : Vld2 l vwCl gTbl con_187 := conR_ok3 gT_all (hd_187) rfl pn_RX11 tk_X11_hasBit bo_RX11 xo_RX11 (cto_3 l) ch_187 cut_nil
/-- RookHusting hasBit -/
noncomputable def con_188 : Con2 := ((yX11_hasBit, cX11_hasBit, 2, (some .boolean)), (0, 0), ([(0, 22, 0), (0, 0, 0)], [(0, 0), (0, 0)], [], []), [((0, 0, 0), [(0, 0), (0, 0), (0, 0)], [], [], [1])])
theorem hd_188 : con_188.1 = (yX11_hasBit, cX11_hasBit, 2, (some .boolean)) := rfl
noncomputable def cu_188 : List CUT2 := []
theorem ch_188 : staG tb_X11_hasBit 1 bt_RX11 [] ct_3 [] [] cu_188 11 con_188 = true := by decide +kernel
theorem vl_188 (l : Launch) : Vld2 l vwCl gTbl con_188 := conR_ok3 gT_all (hd_188) rfl pn_RX11 tk_X11_hasBit bo_RX11 xo_RX11 (cto_3 l) ch_188 cut_nil
/-- RookHusting$Reader takeNumber -/
noncomputable def con_189 : Con2 := ((yX6_takeNumber, cX6_takeNumber, 5, (some .int)), (2, 40), ([(6, 0, 0), (0, 0, 0), (1, 2, 0), (0, 22, 0)], gi_92, hc_5, []), [((0, 0, 0), gi_93, hq_13, [], [1, 1, 1, 1, 1]), ((0, 0, 0), gi_94, hq_14, [], tg_0), ((0, 3, 0), gi_75, hq_14, [], tg_0)])
theorem hd_189 : con_189.1 = (yX6_takeNumber, cX6_takeNumber, 5, (some .int)) := rfl
theorem ck_RX6_147_184 : COK2 RX6 vwCl gTbl 147 2 con_184 := ⟨wd_682, wd_125, mh_X11_hasBit, .inr (.inl ⟨rfl, by decide +kernel, wd_681, pd_X11_hasBit⟩)⟩
theorem ck_RX6_147_185 : COK2 RX6 vwCl gTbl 147 2 con_185 := ⟨wd_682, wd_125, mh_X11_hasBit, .inr (.inl ⟨rfl, by decide +kernel, wd_681, pd_X11_hasBit⟩)⟩
theorem ck_RX6_147_186 : COK2 RX6 vwCl gTbl 147 2 con_186 := ⟨wd_682, wd_125, mh_X11_hasBit, .inr (.inl ⟨rfl, by decide +kernel, wd_681, pd_X11_hasBit⟩)⟩
theorem ck_RX6_147_187 : COK2 RX6 vwCl gTbl 147 2 con_187 := ⟨wd_682, wd_125, mh_X11_hasBit, .inr (.inl ⟨rfl, by decide +kernel, wd_681, pd_X11_hasBit⟩)⟩
theorem ck_RX6_147_188 : COK2 RX6 vwCl gTbl 147 2 con_188 := ⟨wd_682, wd_125, mh_X11_hasBit, .inr (.inl ⟨rfl, by decide +kernel, wd_681, pd_X11_hasBit⟩)⟩
noncomputable def ct_189 : CTB2 := [(22, 70, 0, con_15, [0, 1]), (55, 147, 2, con_188, []), (55, 147, 2, con_187, []), (55, 147, 2, con_186, []), (55, 147, 2, con_185, []), (55, 147, 2, con_184, []), (63, 70, 0, con_19, [0, 1]), (72, 102, 0, con_10, [1, 2])]
noncomputable def cu_189 : List CUT2 := []
theorem ch_189 : staG tb_X6_takeNumber 1 bt_RX6 [] ct_189 [(52, [(1, (1, 4, 0), 0, 0)])] [] cu_189 31 con_189 = true := by decide +kernel
theorem cto_189 (l : Launch) : CTOK2 l RX6 vwCl gTbl ct_189 := ct2_cons (vl_15 l) ck_RX6_70_15 (ct2_cons (vl_188 l) ck_RX6_147_188 (ct2_cons (vl_187 l) ck_RX6_147_187 (ct2_cons (vl_186 l) ck_RX6_147_186 (ct2_cons (vl_185 l) ck_RX6_147_185 (ct2_cons (vl_184 l) ck_RX6_147_184 (ct2_cons (vl_19 l) ck_RX6_70_19 (ct2_cons (vl_10 l) ck_RX6_102_10 (ct2_nil))))))))
theorem vl_189 (l : Launch) : Vld2 l vwCl gTbl con_189 := conR_ok3 gT_all (hd_189) rfl pn_RX6 tk_X6_takeNumber bo_RX6 xo_RX6 (cto_189 l) ch_189 cut_nil
/-- RookHusting hasBit -/
noncomputable def con_190 : Con2 := ((yX11_hasBit, cX11_hasBit, 2, (some .boolean)), (0, 0), ([(0, 21, 0), (0, 4, 0)], [(0, 0), (0, 0)], [], []), [((0, 1, 0), [(0, 0), (0, 0), (0, 0)], [], [], [1])])
theorem hd_190 : con_190.1 = (yX11_hasBit, cX11_hasBit, 2, (some .boolean)) := rfl
noncomputable def cu_190 : List CUT2 := []
theorem ch_190 : staG tb_X11_hasBit 1 bt_RX11 [] ct_3 [] [] cu_190 12 con_190 = true := by decide +kernel
theorem vl_190 (l : Launch) : Vld2 l vwCl gTbl con_190 := conR_ok3 gT_all (hd_190) rfl pn_RX11 tk_X11_hasBit bo_RX11 xo_RX11 (cto_3 l) ch_190 cut_nil
/-- RookHusting hasBit -/
noncomputable def con_191 : Con2 := ((yX11_hasBit, cX11_hasBit, 2, (some .boolean)), (0, 0), ([(0, 21, 0), (0, 3, 0)], [(0, 0), (0, 0)], [], []), [((0, 0, 0), [(0, 0), (0, 0), (0, 0)], [], [], [1])])
theorem hd_191 : con_191.1 = (yX11_hasBit, cX11_hasBit, 2, (some .boolean)) := rfl
noncomputable def cu_191 : List CUT2 := []
theorem ch_191 : staG tb_X11_hasBit 1 bt_RX11 [] ct_3 [] [] cu_191 11 con_191 = true := by decide +kernel
theorem vl_191 (l : Launch) : Vld2 l vwCl gTbl con_191 := conR_ok3 gT_all (hd_191) rfl pn_RX11 tk_X11_hasBit bo_RX11 xo_RX11 (cto_3 l) ch_191 cut_nil
