theorem c_X11_init2 {l : Launch} {g : AG} {n : Nat} {h h2 : AH} {x0 : Nat} {Q : AH → Prop} (hi : Is n x0 10) (he : ax_thr0 g h x0 = h2) (hq : Q h2) : C_X11_init l g n h x0 Q := c_X11_init ⟨hi, by rw [he]; exact hq⟩
def h_zero : AH := (fun _ _ => 0, fun _ _ => 0, fun _ _ => 0)
def hi_1 (g : AG) : AH := ax_setR h_zero 1 0 (2)
def hi_2 (g : AG) : AH := ax_setI (hi_1 g) 1 1 0
def hi_3 (g : AG) : AH := ax_setI (hi_2 g) (4) 0 0
def hi_4 (g : AG) : AH := ax_setI (hi_3 g) (4) 1 0
def hi_5 (g : AG) : AH := ax_setI (hi_4 g) (4) 2 0
def hi_6 (g : AG) : AH := ax_setI (hi_5 g) (4) 3 0
def hi_7 (g : AG) : AH := ax_setI (hi_6 g) (4) 4 0
def hi_8 (g : AG) : AH := ax_setI (hi_7 g) (4) 5 0
def hi_9 (g : AG) : AH := ax_setL (hi_8 g) (4) 6 0
def hi_10 (g : AG) : AH := ax_setR (hi_9 g) (4) 7 (5)
def hi_11 (g : AG) : AH := ax_setR (hi_10 g) (4) 8 (6)
def hi_12 (g : AG) : AH := ax_setR (hi_11 g) (4) 9 (7)
def hi_13 (g : AG) : AH := ax_setR (hi_12 g) (4) 10 (8)
def hi_14 (g : AG) : AH := ax_setR (hi_13 g) (4) 11 (9)
def hi_15 (g : AG) : AH := ax_setR (hi_14 g) (4) 12 (10)
def hi_16 (g : AG) : AH := ax_setR (hi_15 g) (4) 13 (11)
def hi_17 (g : AG) : AH := ax_setR (hi_16 g) (4) 14 (12)
def hi_18 (g : AG) : AH := ax_setR (hi_17 g) (4) 15 (13)
def hi_19 (g : AG) : AH := ax_setR (hi_18 g) (4) 16 (14)
def hi_20 (g : AG) : AH := ax_setR (hi_19 g) (15) 0 (16)
def hi_21 (g : AG) : AH := ax_setR (hi_20 g) (15) 1 (17)
def hi_22 (g : AG) : AH := ax_setR (hi_21 g) (15) 2 (18)
def hi_23 (g : AG) : AH := ax_setR (hi_22 g) (15) 3 (19)
def hi_24 (g : AG) : AH := ax_setR (hi_23 g) (4) 17 (15)
def hi_25 (g : AG) : AH := ax_setR (hi_24 g) (20) 0 (21)
def hi_26 (g : AG) : AH := ax_setR (hi_25 g) (20) 1 (22)
def hi_27 (g : AG) : AH := ax_setR (hi_26 g) (20) 2 (23)
def hi_28 (g : AG) : AH := ax_setR (hi_27 g) (20) 3 (24)
def hi_29 (g : AG) : AH := ax_setR (hi_28 g) (4) 18 (20)
def hi_30 (g : AG) : AH := ax_setR (hi_29 g) (3) (0 : Int32).toNatClampNeg (4)
def hi_31 (g : AG) : AH := ax_setI (hi_30 g) (25) 0 0
def hi_32 (g : AG) : AH := ax_setI (hi_31 g) (25) 1 0
def hi_33 (g : AG) : AH := ax_setI (hi_32 g) (25) 2 0
def hi_34 (g : AG) : AH := ax_setI (hi_33 g) (25) 3 0
def hi_35 (g : AG) : AH := ax_setI (hi_34 g) (25) 4 0
def hi_36 (g : AG) : AH := ax_setI (hi_35 g) (25) 5 0
def hi_37 (g : AG) : AH := ax_setL (hi_36 g) (25) 6 0
def hi_38 (g : AG) : AH := ax_setR (hi_37 g) (25) 7 (26)
def hi_39 (g : AG) : AH := ax_setR (hi_38 g) (25) 8 (27)
def hi_40 (g : AG) : AH := ax_setR (hi_39 g) (25) 9 (28)
def hi_41 (g : AG) : AH := ax_setR (hi_40 g) (25) 10 (29)
def hi_42 (g : AG) : AH := ax_setR (hi_41 g) (25) 11 (30)
def hi_43 (g : AG) : AH := ax_setR (hi_42 g) (25) 12 (31)
def hi_44 (g : AG) : AH := ax_setR (hi_43 g) (25) 13 (32)
def hi_45 (g : AG) : AH := ax_setR (hi_44 g) (25) 14 (33)
def hi_46 (g : AG) : AH := ax_setR (hi_45 g) (25) 15 (34)
def hi_47 (g : AG) : AH := ax_setR (hi_46 g) (25) 16 (35)
def hi_48 (g : AG) : AH := ax_setR (hi_47 g) (36) 0 (37)
def hi_49 (g : AG) : AH := ax_setR (hi_48 g) (36) 1 (38)
def hi_50 (g : AG) : AH := ax_setR (hi_49 g) (36) 2 (39)
def hi_51 (g : AG) : AH := ax_setR (hi_50 g) (36) 3 (40)
def hi_52 (g : AG) : AH := ax_setR (hi_51 g) (25) 17 (36)
def hi_53 (g : AG) : AH := ax_setR (hi_52 g) (41) 0 (42)
def hi_54 (g : AG) : AH := ax_setR (hi_53 g) (41) 1 (43)
def hi_55 (g : AG) : AH := ax_setR (hi_54 g) (41) 2 (44)
def hi_56 (g : AG) : AH := ax_setR (hi_55 g) (41) 3 (45)
def hi_57 (g : AG) : AH := ax_setR (hi_56 g) (25) 18 (41)
def hi_58 (g : AG) : AH := ax_setR (hi_57 g) (3) (1 : Int32).toNatClampNeg (25)
def hi_59 (g : AG) : AH := ax_setR (hi_58 g) 1 2 (3)
def hi_60 (g : AG) : AH := ax_setI (hi_59 g) (46) 0 0
def hi_61 (g : AG) : AH := ax_setI (hi_60 g) (46) 1 0
def hi_62 (g : AG) : AH := ax_setI (hi_61 g) (46) 2 0
def hi_63 (g : AG) : AH := ax_setI (hi_62 g) (46) 3 0
def hi_64 (g : AG) : AH := ax_setI (hi_63 g) (46) 4 0
def hi_65 (g : AG) : AH := ax_setI (hi_64 g) (46) 5 0
def hi_66 (g : AG) : AH := ax_setL (hi_65 g) (46) 6 0
def hi_67 (g : AG) : AH := ax_setR (hi_66 g) (46) 7 (47)
def hi_68 (g : AG) : AH := ax_setR (hi_67 g) (46) 8 (48)
def hi_69 (g : AG) : AH := ax_setR (hi_68 g) (46) 9 (49)
def hi_70 (g : AG) : AH := ax_setR (hi_69 g) (46) 10 (50)
def hi_71 (g : AG) : AH := ax_setR (hi_70 g) (46) 11 (51)
def hi_72 (g : AG) : AH := ax_setR (hi_71 g) (46) 12 (52)
def hi_73 (g : AG) : AH := ax_setR (hi_72 g) (46) 13 (53)
def hi_74 (g : AG) : AH := ax_setR (hi_73 g) (46) 14 (54)
def hi_75 (g : AG) : AH := ax_setR (hi_74 g) (46) 15 (55)
def hi_76 (g : AG) : AH := ax_setR (hi_75 g) (46) 16 (56)
def hi_77 (g : AG) : AH := ax_setR (hi_76 g) (57) 0 (58)
def hi_78 (g : AG) : AH := ax_setR (hi_77 g) (57) 1 (59)
def hi_79 (g : AG) : AH := ax_setR (hi_78 g) (57) 2 (60)
def hi_80 (g : AG) : AH := ax_setR (hi_79 g) (57) 3 (61)
def hi_81 (g : AG) : AH := ax_setR (hi_80 g) (46) 17 (57)
def hi_82 (g : AG) : AH := ax_setR (hi_81 g) (62) 0 (63)
def hi_83 (g : AG) : AH := ax_setR (hi_82 g) (62) 1 (64)
def hi_84 (g : AG) : AH := ax_setR (hi_83 g) (62) 2 (65)
def hi_85 (g : AG) : AH := ax_setR (hi_84 g) (62) 3 (66)
def hi_86 (g : AG) : AH := ax_setR (hi_85 g) (46) 18 (62)
def hi_87 (g : AG) : AH := ax_setR (hi_86 g) 1 3 (46)
def hi_88 (g : AG) : AH := ax_setR (hi_87 g) (68) 0 (69)
def hi_89 (g : AG) : AH := ax_setI (hi_88 g) (68) 1 0
def hi_90 (g : AG) : AH := ax_setI (hi_89 g) (68) 2 0
def hi_91 (g : AG) : AH := ax_setI (hi_90 g) (68) 3 0
def hi_92 (g : AG) : AH := ax_setI (hi_91 g) (68) 4 0
def hi_93 (g : AG) : AH := ax_setL (hi_92 g) (68) 5 0
def hi_94 (g : AG) : AH := ax_setI (hi_93 g) (68) 6 0
def hi_95 (g : AG) : AH := ax_setR (hi_94 g) (67) 0 (68)
def hi_96 (g : AG) : AH := ax_setI (hi_95 g) (67) 2 0
def hi_97 (g : AG) : AH := ax_setI (hi_96 g) (67) 3 0
def hi_98 (g : AG) : AH := ax_setI (hi_97 g) (67) 4 0
def hi_99 (g : AG) : AH := ax_setL (hi_98 g) (67) 5 0
def hi_100 (g : AG) : AH := ax_setI (hi_99 g) (67) 6 0
def hi_101 (g : AG) : AH := ax_setI (hi_100 g) (67) 7 0
def hi_102 (g : AG) : AH := ax_setI (hi_101 g) (67) 8 0
def hi_103 (g : AG) : AH := ax_setI (hi_102 g) (67) 9 0
def hi_104 (g : AG) : AH := ax_setI (hi_103 g) (67) 10 0
def hi_105 (g : AG) : AH := ax_setI (hi_104 g) (67) 11 0
def hi_106 (g : AG) : AH := ax_setR (hi_105 g) (67) 12 (70)
def hi_107 (g : AG) : AH := ax_setR (hi_106 g) (67) 13 (71)
def hi_108 (g : AG) : AH := ax_setR (hi_107 g) (67) 14 (72)
def hi_109 (g : AG) : AH := ax_setR (hi_108 g) (67) 1 ((hi_87 g).2.2 1 3)
def hi_110 (g : AG) : AH := ax_setR (hi_109 g) 1 4 (67)
def hi_111 (g : AG) : AH := ax_setR (hi_110 g) 1 5 (73)
def hi_112 (g : AG) : AH := ax_setI (hi_111 g) (74) 0 (-1)
def hi_113 (g : AG) : AH := ax_setI (hi_112 g) (75) 0 0
def hi_114 (g : AG) : AH := ax_setR (hi_113 g) (75) 1 (76)
def hi_115 (g : AG) : AH := ax_setR (hi_114 g) (75) 2 (77)
def hi_116 (g : AG) : AH := ax_setR (hi_115 g) (75) 3 (78)
def hi_117 (g : AG) : AH := ax_setR (hi_116 g) (75) 4 (79)
def hi_118 (g : AG) : AH := ax_setR (hi_117 g) (75) 5 (80)
def hi_119 (g : AG) : AH := ax_setR (hi_118 g) (75) 6 (81)
def hi_120 (g : AG) : AH := ax_setR (hi_119 g) (74) 2 (75)
def hi_121 (g : AG) : AH := ax_setR (hi_120 g) (74) 3 (82)
def hi_122 (g : AG) : AH := ax_setI (hi_121 g) (83) 0 0
def hi_123 (g : AG) : AH := ax_setR (hi_122 g) (83) 1 (84)
def hi_124 (g : AG) : AH := ax_setR (hi_123 g) (83) 2 (85)
def hi_125 (g : AG) : AH := ax_setR (hi_124 g) (83) 3 (86)
def hi_126 (g : AG) : AH := ax_setR (hi_125 g) (83) 4 (87)
def hi_127 (g : AG) : AH := ax_setR (hi_126 g) (83) 5 (88)
def hi_128 (g : AG) : AH := ax_setR (hi_127 g) (83) 6 (89)
def hi_129 (g : AG) : AH := ax_setR (hi_128 g) (74) 4 (83)
def hi_130 (g : AG) : AH := ax_setI (hi_129 g) (74) 5 0
def hi_131 (g : AG) : AH := ax_setR (hi_130 g) (74) 6 (90)
def hi_132 (g : AG) : AH := ax_setR (hi_131 g) (74) 7 (91)
def hi_133 (g : AG) : AH := ax_setR (hi_132 g) (74) 8 (92)
def hi_134 (g : AG) : AH := ax_setR (hi_133 g) (74) 1 ((hi_111 g).2.2 1 3)
def hi_135 (g : AG) : AH := ax_setR (hi_134 g) 1 6 (74)
def hi_136 (g : AG) : AH := ax_setI (hi_135 g) (94) 0 0
def hi_137 (g : AG) : AH := ax_setR (hi_136 g) (94) 1 (95)
def hi_138 (g : AG) : AH := ax_setR (hi_137 g) (94) 2 (96)
def hi_139 (g : AG) : AH := ax_setR (hi_138 g) (94) 3 (97)
def hi_140 (g : AG) : AH := ax_setR (hi_139 g) (94) 4 (98)
def hi_141 (g : AG) : AH := ax_setR (hi_140 g) (94) 5 (99)
def hi_142 (g : AG) : AH := ax_setR (hi_141 g) (94) 6 (100)
def hi_143 (g : AG) : AH := ax_setR (hi_142 g) (93) 2 (94)
def hi_144 (g : AG) : AH := ax_setI (hi_143 g) (93) 3 0
def hi_145 (g : AG) : AH := ax_setI (hi_144 g) (93) 4 (-1)
def hi_146 (g : AG) : AH := ax_setI (hi_145 g) (93) 5 (-1)
def hi_147 (g : AG) : AH := ax_setR (hi_146 g) (93) 0 ((hi_135 g).2.2 1 3)
def hi_148 (g : AG) : AH := ax_setR (hi_147 g) (93) 1 ((hi_135 g).2.2 1 3)
def hi_149 (g : AG) : AH := ax_setR (hi_148 g) 1 7 (93)
def hi_150 (g : AG) : AH := ax_setR (hi_149 g) 1 8 (101)
def hi_151 (g : AG) : AH := ax_setI (hi_150 g) 1 9 0
def hi_152 (g : AG) : AH := ax_setR (hi_151 g) 1 10 (102)
def hi_153 (g : AG) : AH := ax_setI (hi_152 g) 1 11 (-1)
def hi_154 (g : AG) : AH := ax_setI (hi_153 g) 1 12 0
def hi_155 (g : AG) : AH := ax_setI (hi_154 g) 103 2 (-1)
def hi_156 (g : AG) : AH := ax_setR (hi_155 g) 103 4 (104)
def hi_157 (g : AG) : AH := ax_setR (hi_156 g) (105) 3 (106)
def hi_158 (g : AG) : AH := ax_setR (hi_157 g) (105) 4 (107)
def hi_159 (g : AG) : AH := ax_setR (hi_158 g) (105) 5 (108)
def hi_160 (g : AG) : AH := ax_setR (hi_159 g) (105) 6 (109)
def hi_161 (g : AG) : AH := ax_setR (hi_160 g) (105) 7 (110)
def hi_162 (g : AG) : AH := ax_setR (hi_161 g) (105) 8 (111)
def hi_163 (g : AG) : AH := ax_setR (hi_162 g) (105) 9 (112)
def hi_164 (g : AG) : AH := ax_setR (hi_163 g) (105) 10 (113)
def hi_165 (g : AG) : AH := ax_setR (hi_164 g) (105) 11 (114)
def hi_166 (g : AG) : AH := ax_setR (hi_165 g) (105) 12 (115)
def hi_167 (g : AG) : AH := ax_setR (hi_166 g) (105) 13 (116)
def hi_168 (g : AG) : AH := ax_setR (hi_167 g) (105) 14 (117)
def hi_169 (g : AG) : AH := ax_setR (hi_168 g) (105) 15 (118)
def hi_170 (g : AG) : AH := ax_setR (hi_169 g) (105) 16 (119)
def hi_171 (g : AG) : AH := ax_setR (hi_170 g) (105) 17 (120)
def hi_172 (g : AG) : AH := ax_setR (hi_171 g) (105) 18 (121)
def hi_173 (g : AG) : AH := ax_setR (hi_172 g) (105) 19 (122)
def hi_174 (g : AG) : AH := ax_setR (hi_173 g) (105) 20 (123)
def hi_175 (g : AG) : AH := ax_setR (hi_174 g) (105) 21 (124)
def hi_176 (g : AG) : AH := ax_setR (hi_175 g) 103 5 (105)
def hi_177 (g : AG) : AH := ax_setR (hi_176 g) 103 6 (125)
def hi_178 (g : AG) : AH := ax_setR (hi_177 g) 103 7 (126)
def hi_179 (g : AG) : AH := ax_setR (hi_178 g) 103 8 (127)
def hi_180 (g : AG) : AH := ax_thr0 g (hi_179 g) (128)
def hi_181 (g : AG) : AH := ax_setR (hi_180 g) 103 9 (128)
def hi_182 (g : AG) : AH := ax_setR (hi_181 g) 103 10 (129)
def hi_183 (g : AG) : AH := ax_setR (hi_182 g) 103 21 (130)
def hi_184 (g : AG) : AH := ax_setR (hi_183 g) 103 22 (131)
def hi_185 (g : AG) : AH := ax_setR (hi_184 g) 103 23 (132)
def hi_186 (g : AG) : AH := ax_setI (hi_185 g) 103 24 (-1)
def hi_187 (g : AG) : AH := ax_setR (hi_186 g) 103 26 (133)
def hi_188 (g : AG) : AH := ax_setR (hi_187 g) 103 27 (134)
def hi_189 (g : AG) : AH := ax_setR (hi_188 g) 103 28 (135)
def hi_190 (g : AG) : AH := ax_setR (hi_189 g) 103 29 (136)
def hi_191 (g : AG) : AH := ax_setR (hi_190 g) 103 30 (137)
def hi_192 (g : AG) : AH := ax_setR (hi_191 g) 103 31 (138)
def hi_193 (g : AG) : AH := ax_setR (hi_192 g) 103 32 (139)
def hi_194 (g : AG) : AH := ax_setR (hi_193 g) 103 33 (140)
def hi_195 (g : AG) : AH := ax_setR (hi_194 g) 103 34 (141)
def hi_196 (g : AG) : AH := ax_setR (hi_195 g) 103 35 (142)
def hi_197 (g : AG) : AH := ax_setR (hi_196 g) 103 37 (143)
def hi_198 (g : AG) : AH := ax_setR (hi_197 g) 103 38 (144)
def hi_199 (g : AG) : AH := ax_setR (hi_198 g) 103 39 (145)
def hi_200 (g : AG) : AH := ax_setI (hi_199 g) 103 41 (-1)
def hi_201 (g : AG) : AH := ax_setR (hi_200 g) 103 44 (146)
def hi_202 (g : AG) : AH := ax_setR (hi_201 g) 103 45 (147)
def hi_203 (g : AG) : AH := ax_setR (hi_202 g) 103 46 (148)
def hi_204 (g : AG) : AH := ax_setR (hi_203 g) 103 47 (149)
def hi_205 (g : AG) : AH := ax_setR (hi_204 g) 103 48 (150)
def hi_206 (g : AG) : AH := ax_setR (hi_205 g) 103 49 (151)
def hi_207 (g : AG) : AH := ax_setR (hi_206 g) 103 54 (152)
def hi_208 (g : AG) : AH := ax_setR (hi_207 g) 103 55 (153)
def hi_209 (g : AG) : AH := ax_setR (hi_208 g) (154) 3 (155)
def hi_210 (g : AG) : AH := ax_setR (hi_209 g) (154) 4 (156)
def hi_211 (g : AG) : AH := ax_setR (hi_210 g) (154) 5 (157)
def hi_212 (g : AG) : AH := ax_setR (hi_211 g) (154) 6 (158)
def hi_213 (g : AG) : AH := ax_setR (hi_212 g) (154) 7 (159)
def hi_214 (g : AG) : AH := ax_setR (hi_213 g) (154) 8 (160)
def hi_215 (g : AG) : AH := ax_setR (hi_214 g) (154) 9 (161)
def hi_216 (g : AG) : AH := ax_setR (hi_215 g) (154) 10 (162)
def hi_217 (g : AG) : AH := ax_setR (hi_216 g) (154) 11 (163)
def hi_218 (g : AG) : AH := ax_setR (hi_217 g) (154) 12 (164)
def hi_219 (g : AG) : AH := ax_setR (hi_218 g) (154) 13 (165)
def hi_220 (g : AG) : AH := ax_setR (hi_219 g) (154) 14 (166)
def hi_221 (g : AG) : AH := ax_setR (hi_220 g) (154) 15 (167)
def hi_222 (g : AG) : AH := ax_setR (hi_221 g) (154) 16 (168)
def hi_223 (g : AG) : AH := ax_setR (hi_222 g) (154) 17 (169)
def hi_224 (g : AG) : AH := ax_setR (hi_223 g) (154) 18 (170)
def hi_225 (g : AG) : AH := ax_setR (hi_224 g) (154) 19 (171)
def hi_226 (g : AG) : AH := ax_setR (hi_225 g) (154) 20 (172)
def hi_227 (g : AG) : AH := ax_setR (hi_226 g) (154) 21 (173)
def hi_228 (g : AG) : AH := ax_setR (hi_227 g) ((hi_208 g).2.2 103 4) (0 : Int32).toNatClampNeg (154)
def hi_229 (g : AG) : AH := ax_setR (hi_228 g) (174) 3 (175)
def hi_230 (g : AG) : AH := ax_setR (hi_229 g) (174) 4 (176)
def hi_231 (g : AG) : AH := ax_setR (hi_230 g) (174) 5 (177)
def hi_232 (g : AG) : AH := ax_setR (hi_231 g) (174) 6 (178)
def hi_233 (g : AG) : AH := ax_setR (hi_232 g) (174) 7 (179)
def hi_234 (g : AG) : AH := ax_setR (hi_233 g) (174) 8 (180)
def hi_235 (g : AG) : AH := ax_setR (hi_234 g) (174) 9 (181)
def hi_236 (g : AG) : AH := ax_setR (hi_235 g) (174) 10 (182)
def hi_237 (g : AG) : AH := ax_setR (hi_236 g) (174) 11 (183)
def hi_238 (g : AG) : AH := ax_setR (hi_237 g) (174) 12 (184)
def hi_239 (g : AG) : AH := ax_setR (hi_238 g) (174) 13 (185)
def hi_240 (g : AG) : AH := ax_setR (hi_239 g) (174) 14 (186)
def hi_241 (g : AG) : AH := ax_setR (hi_240 g) (174) 15 (187)
def hi_242 (g : AG) : AH := ax_setR (hi_241 g) (174) 16 (188)
def hi_243 (g : AG) : AH := ax_setR (hi_242 g) (174) 17 (189)
def hi_244 (g : AG) : AH := ax_setR (hi_243 g) (174) 18 (190)
def hi_245 (g : AG) : AH := ax_setR (hi_244 g) (174) 19 (191)
def hi_246 (g : AG) : AH := ax_setR (hi_245 g) (174) 20 (192)
def hi_247 (g : AG) : AH := ax_setR (hi_246 g) (174) 21 (193)
def hi_248 (g : AG) : AH := ax_setR (hi_247 g) ((hi_228 g).2.2 103 4) (1 : Int32).toNatClampNeg (174)
set_option maxHeartbeats 1000000 in
set_option maxRecDepth 100000 in
theorem init_X9 {l : Launch} {g : AG} {Q : AH → Prop} (hq : Q (hi_154 g)) : C_X9_init l g 1 h_zero 1 Q := by
  refine c_X9_init (s_X9_init_0 ?_)
  refine ⟨⟨Nat.le_of_ble_eq_true rfl, rfl⟩, ?_⟩
  refine ⟨rfl, ?_⟩
  refine ⟨⟨rfl, rfl, rfl⟩, ?_⟩
  intro h0 e0
  obtain rfl : h0 = (hi_1 g) := e0
  intro h0 e0
  obtain rfl : h0 = (hi_2 g) := e0
  refine ⟨rfl, ?_⟩
  refine ⟨⟨rfl, rfl, rfl⟩, ?_⟩
  refine ⟨rfl, ?_⟩
  refine ⟨⟨rfl, rfl, rfl⟩, ?_⟩
  refine c_X0_init (s_X0_init_0 ?_)
  refine ⟨⟨Nat.le_of_ble_eq_true rfl, rfl⟩, ?_⟩
  intro h0 e0
  obtain rfl : h0 = (hi_3 g) := e0
  intro h0 e0
  obtain rfl : h0 = (hi_4 g) := e0
  intro h0 e0
  obtain rfl : h0 = (hi_5 g) := e0
  intro h0 e0
  obtain rfl : h0 = (hi_6 g) := e0
  intro h0 e0
  obtain rfl : h0 = (hi_7 g) := e0
  intro h0 e0
  obtain rfl : h0 = (hi_8 g) := e0
  intro h0 e0
  obtain rfl : h0 = (hi_9 g) := e0
  refine ⟨rfl, ?_⟩
  refine ⟨⟨rfl, rfl, rfl⟩, ?_⟩
  intro h0 e0
  obtain rfl : h0 = (hi_10 g) := e0
  refine ⟨rfl, ?_⟩
  refine ⟨⟨rfl, rfl, rfl⟩, ?_⟩
  intro h0 e0
  obtain rfl : h0 = (hi_11 g) := e0
  refine ⟨rfl, ?_⟩
  refine ⟨⟨rfl, rfl, rfl⟩, ?_⟩
  intro h0 e0
  obtain rfl : h0 = (hi_12 g) := e0
  refine ⟨rfl, ?_⟩
  refine ⟨⟨rfl, rfl, rfl⟩, ?_⟩
  intro h0 e0
  obtain rfl : h0 = (hi_13 g) := e0
  refine ⟨rfl, ?_⟩
  refine ⟨⟨rfl, rfl, rfl⟩, ?_⟩
  intro h0 e0
  obtain rfl : h0 = (hi_14 g) := e0
  refine ⟨rfl, ?_⟩
  refine ⟨⟨rfl, rfl, rfl⟩, ?_⟩
  intro h0 e0
  obtain rfl : h0 = (hi_15 g) := e0
  refine ⟨rfl, ?_⟩
  refine ⟨⟨rfl, rfl, rfl⟩, ?_⟩
  intro h0 e0
  obtain rfl : h0 = (hi_16 g) := e0
  refine ⟨rfl, ?_⟩
  refine ⟨⟨rfl, rfl, rfl⟩, ?_⟩
  intro h0 e0
  obtain rfl : h0 = (hi_17 g) := e0
  refine ⟨rfl, ?_⟩
  refine ⟨⟨rfl, rfl, rfl⟩, ?_⟩
  intro h0 e0
  obtain rfl : h0 = (hi_18 g) := e0
  refine ⟨rfl, ?_⟩
  refine ⟨⟨rfl, rfl, rfl⟩, ?_⟩
  intro h0 e0
  obtain rfl : h0 = (hi_19 g) := e0
  refine ⟨rfl, ?_⟩
  refine ⟨⟨rfl, rfl, rfl⟩, ?_⟩
  refine c_X4_init (s_X4_init_0 ?_)
  refine ⟨⟨Nat.le_of_ble_eq_true rfl, rfl⟩, ?_⟩
  refine ⟨rfl, ?_⟩
  refine ⟨⟨rfl, rfl, rfl⟩, ?_⟩
  intro h0 e0
  obtain rfl : h0 = (hi_20 g) := e0
  refine ⟨rfl, ?_⟩
  refine ⟨⟨rfl, rfl, rfl⟩, ?_⟩
  intro h0 e0
  obtain rfl : h0 = (hi_21 g) := e0
  refine ⟨rfl, ?_⟩
  refine ⟨⟨rfl, rfl, rfl⟩, ?_⟩
  intro h0 e0
  obtain rfl : h0 = (hi_22 g) := e0
  refine ⟨rfl, ?_⟩
  refine ⟨⟨rfl, rfl, rfl⟩, ?_⟩
  intro h0 e0
  obtain rfl : h0 = (hi_23 g) := e0
  intro h0 e0
  obtain rfl : h0 = (hi_24 g) := e0
  refine ⟨rfl, ?_⟩
  refine ⟨⟨rfl, rfl, rfl⟩, ?_⟩
  refine c_X5_init (s_X5_init_0 ?_)
  refine ⟨⟨Nat.le_of_ble_eq_true rfl, rfl⟩, ?_⟩
  refine ⟨rfl, ?_⟩
  refine ⟨⟨rfl, rfl, rfl⟩, ?_⟩
  intro h0 e0
  obtain rfl : h0 = (hi_25 g) := e0
  refine ⟨rfl, ?_⟩
  refine ⟨⟨rfl, rfl, rfl⟩, ?_⟩
  intro h0 e0
  obtain rfl : h0 = (hi_26 g) := e0
  refine ⟨rfl, ?_⟩
  refine ⟨⟨rfl, rfl, rfl⟩, ?_⟩
  intro h0 e0
  obtain rfl : h0 = (hi_27 g) := e0
  refine ⟨rfl, ?_⟩
  refine ⟨⟨rfl, rfl, rfl⟩, ?_⟩
  intro h0 e0
  obtain rfl : h0 = (hi_28 g) := e0
  intro h0 e0
  obtain rfl : h0 = (hi_29 g) := e0
  refine ⟨show vp_in 0 2 from by unfold vp_in; decide, ?_⟩
  intro h0 e0
  obtain rfl : h0 = (hi_30 g) := e0
  refine ⟨rfl, ?_⟩
  refine ⟨⟨rfl, rfl, rfl⟩, ?_⟩
  refine c_X0_init (s_X0_init_0 ?_)
  refine ⟨⟨Nat.le_of_ble_eq_true rfl, rfl⟩, ?_⟩
  intro h0 e0
  obtain rfl : h0 = (hi_31 g) := e0
  intro h0 e0
  obtain rfl : h0 = (hi_32 g) := e0
  intro h0 e0
  obtain rfl : h0 = (hi_33 g) := e0
  intro h0 e0
  obtain rfl : h0 = (hi_34 g) := e0
  intro h0 e0
  obtain rfl : h0 = (hi_35 g) := e0
  intro h0 e0
  obtain rfl : h0 = (hi_36 g) := e0
  intro h0 e0
  obtain rfl : h0 = (hi_37 g) := e0
  refine ⟨rfl, ?_⟩
  refine ⟨⟨rfl, rfl, rfl⟩, ?_⟩
  intro h0 e0
  obtain rfl : h0 = (hi_38 g) := e0
  refine ⟨rfl, ?_⟩
  refine ⟨⟨rfl, rfl, rfl⟩, ?_⟩
  intro h0 e0
  obtain rfl : h0 = (hi_39 g) := e0
  refine ⟨rfl, ?_⟩
  refine ⟨⟨rfl, rfl, rfl⟩, ?_⟩
  intro h0 e0
  obtain rfl : h0 = (hi_40 g) := e0
  refine ⟨rfl, ?_⟩
  refine ⟨⟨rfl, rfl, rfl⟩, ?_⟩
  intro h0 e0
  obtain rfl : h0 = (hi_41 g) := e0
  refine ⟨rfl, ?_⟩
  refine ⟨⟨rfl, rfl, rfl⟩, ?_⟩
  intro h0 e0
  obtain rfl : h0 = (hi_42 g) := e0
  refine ⟨rfl, ?_⟩
  refine ⟨⟨rfl, rfl, rfl⟩, ?_⟩
  intro h0 e0
  obtain rfl : h0 = (hi_43 g) := e0
  refine ⟨rfl, ?_⟩
  refine ⟨⟨rfl, rfl, rfl⟩, ?_⟩
  intro h0 e0
  obtain rfl : h0 = (hi_44 g) := e0
  refine ⟨rfl, ?_⟩
  refine ⟨⟨rfl, rfl, rfl⟩, ?_⟩
  intro h0 e0
  obtain rfl : h0 = (hi_45 g) := e0
  refine ⟨rfl, ?_⟩
  refine ⟨⟨rfl, rfl, rfl⟩, ?_⟩
  intro h0 e0
  obtain rfl : h0 = (hi_46 g) := e0
  refine ⟨rfl, ?_⟩
  refine ⟨⟨rfl, rfl, rfl⟩, ?_⟩
  intro h0 e0
  obtain rfl : h0 = (hi_47 g) := e0
  refine ⟨rfl, ?_⟩
  refine ⟨⟨rfl, rfl, rfl⟩, ?_⟩
  refine c_X4_init (s_X4_init_0 ?_)
  refine ⟨⟨Nat.le_of_ble_eq_true rfl, rfl⟩, ?_⟩
  refine ⟨rfl, ?_⟩
  refine ⟨⟨rfl, rfl, rfl⟩, ?_⟩
  intro h0 e0
  obtain rfl : h0 = (hi_48 g) := e0
  refine ⟨rfl, ?_⟩
  refine ⟨⟨rfl, rfl, rfl⟩, ?_⟩
  intro h0 e0
  obtain rfl : h0 = (hi_49 g) := e0
  refine ⟨rfl, ?_⟩
  refine ⟨⟨rfl, rfl, rfl⟩, ?_⟩
  intro h0 e0
  obtain rfl : h0 = (hi_50 g) := e0
  refine ⟨rfl, ?_⟩
  refine ⟨⟨rfl, rfl, rfl⟩, ?_⟩
  intro h0 e0
  obtain rfl : h0 = (hi_51 g) := e0
  intro h0 e0
  obtain rfl : h0 = (hi_52 g) := e0
  refine ⟨rfl, ?_⟩
  refine ⟨⟨rfl, rfl, rfl⟩, ?_⟩
  refine c_X5_init (s_X5_init_0 ?_)
  refine ⟨⟨Nat.le_of_ble_eq_true rfl, rfl⟩, ?_⟩
  refine ⟨rfl, ?_⟩
  refine ⟨⟨rfl, rfl, rfl⟩, ?_⟩
  intro h0 e0
  obtain rfl : h0 = (hi_53 g) := e0
  refine ⟨rfl, ?_⟩
  refine ⟨⟨rfl, rfl, rfl⟩, ?_⟩
  intro h0 e0
  obtain rfl : h0 = (hi_54 g) := e0
  refine ⟨rfl, ?_⟩
  refine ⟨⟨rfl, rfl, rfl⟩, ?_⟩
  intro h0 e0
  obtain rfl : h0 = (hi_55 g) := e0
  refine ⟨rfl, ?_⟩
  refine ⟨⟨rfl, rfl, rfl⟩, ?_⟩
  intro h0 e0
  obtain rfl : h0 = (hi_56 g) := e0
  intro h0 e0
  obtain rfl : h0 = (hi_57 g) := e0
  refine ⟨show vp_in 1 2 from by unfold vp_in; decide, ?_⟩
  intro h0 e0
  obtain rfl : h0 = (hi_58 g) := e0
  intro h0 e0
  obtain rfl : h0 = (hi_59 g) := e0
  refine ⟨rfl, ?_⟩
  refine ⟨⟨rfl, rfl, rfl⟩, ?_⟩
  refine c_X0_init (s_X0_init_0 ?_)
  refine ⟨⟨Nat.le_of_ble_eq_true rfl, rfl⟩, ?_⟩
  intro h0 e0
  obtain rfl : h0 = (hi_60 g) := e0
  intro h0 e0
  obtain rfl : h0 = (hi_61 g) := e0
  intro h0 e0
  obtain rfl : h0 = (hi_62 g) := e0
  intro h0 e0
  obtain rfl : h0 = (hi_63 g) := e0
  intro h0 e0
  obtain rfl : h0 = (hi_64 g) := e0
  intro h0 e0
  obtain rfl : h0 = (hi_65 g) := e0
  intro h0 e0
  obtain rfl : h0 = (hi_66 g) := e0
  refine ⟨rfl, ?_⟩
  refine ⟨⟨rfl, rfl, rfl⟩, ?_⟩
  intro h0 e0
  obtain rfl : h0 = (hi_67 g) := e0
  refine ⟨rfl, ?_⟩
  refine ⟨⟨rfl, rfl, rfl⟩, ?_⟩
  intro h0 e0
  obtain rfl : h0 = (hi_68 g) := e0
  refine ⟨rfl, ?_⟩
  refine ⟨⟨rfl, rfl, rfl⟩, ?_⟩
  intro h0 e0
  obtain rfl : h0 = (hi_69 g) := e0
  refine ⟨rfl, ?_⟩
  refine ⟨⟨rfl, rfl, rfl⟩, ?_⟩
  intro h0 e0
  obtain rfl : h0 = (hi_70 g) := e0
  refine ⟨rfl, ?_⟩
  refine ⟨⟨rfl, rfl, rfl⟩, ?_⟩
  intro h0 e0
  obtain rfl : h0 = (hi_71 g) := e0
  refine ⟨rfl, ?_⟩
  refine ⟨⟨rfl, rfl, rfl⟩, ?_⟩
  intro h0 e0
  obtain rfl : h0 = (hi_72 g) := e0
  refine ⟨rfl, ?_⟩
  refine ⟨⟨rfl, rfl, rfl⟩, ?_⟩
  intro h0 e0
  obtain rfl : h0 = (hi_73 g) := e0
  refine ⟨rfl, ?_⟩
  refine ⟨⟨rfl, rfl, rfl⟩, ?_⟩
  intro h0 e0
  obtain rfl : h0 = (hi_74 g) := e0
  refine ⟨rfl, ?_⟩
  refine ⟨⟨rfl, rfl, rfl⟩, ?_⟩
  intro h0 e0
  obtain rfl : h0 = (hi_75 g) := e0
  refine ⟨rfl, ?_⟩
  refine ⟨⟨rfl, rfl, rfl⟩, ?_⟩
  intro h0 e0
  obtain rfl : h0 = (hi_76 g) := e0
  refine ⟨rfl, ?_⟩
  refine ⟨⟨rfl, rfl, rfl⟩, ?_⟩
  refine c_X4_init (s_X4_init_0 ?_)
  refine ⟨⟨Nat.le_of_ble_eq_true rfl, rfl⟩, ?_⟩
  refine ⟨rfl, ?_⟩
  refine ⟨⟨rfl, rfl, rfl⟩, ?_⟩
  intro h0 e0
  obtain rfl : h0 = (hi_77 g) := e0
  refine ⟨rfl, ?_⟩
  refine ⟨⟨rfl, rfl, rfl⟩, ?_⟩
  intro h0 e0
  obtain rfl : h0 = (hi_78 g) := e0
  refine ⟨rfl, ?_⟩
  refine ⟨⟨rfl, rfl, rfl⟩, ?_⟩
  intro h0 e0
  obtain rfl : h0 = (hi_79 g) := e0
  refine ⟨rfl, ?_⟩
  refine ⟨⟨rfl, rfl, rfl⟩, ?_⟩
  intro h0 e0
  obtain rfl : h0 = (hi_80 g) := e0
  intro h0 e0
  obtain rfl : h0 = (hi_81 g) := e0
  refine ⟨rfl, ?_⟩
  refine ⟨⟨rfl, rfl, rfl⟩, ?_⟩
  refine c_X5_init (s_X5_init_0 ?_)
  refine ⟨⟨Nat.le_of_ble_eq_true rfl, rfl⟩, ?_⟩
  refine ⟨rfl, ?_⟩
  refine ⟨⟨rfl, rfl, rfl⟩, ?_⟩
  intro h0 e0
  obtain rfl : h0 = (hi_82 g) := e0
  refine ⟨rfl, ?_⟩
  refine ⟨⟨rfl, rfl, rfl⟩, ?_⟩
  intro h0 e0
  obtain rfl : h0 = (hi_83 g) := e0
  refine ⟨rfl, ?_⟩
  refine ⟨⟨rfl, rfl, rfl⟩, ?_⟩
  intro h0 e0
  obtain rfl : h0 = (hi_84 g) := e0
  refine ⟨rfl, ?_⟩
  refine ⟨⟨rfl, rfl, rfl⟩, ?_⟩
  intro h0 e0
  obtain rfl : h0 = (hi_85 g) := e0
  intro h0 e0
  obtain rfl : h0 = (hi_86 g) := e0
  intro h0 e0
  obtain rfl : h0 = (hi_87 g) := e0
  refine ⟨rfl, ?_⟩
  refine ⟨⟨rfl, rfl, rfl⟩, ?_⟩
  refine ⟨⟨Nat.le_of_ble_eq_true rfl, rfl⟩, ?_⟩
  refine c_X7_init (s_X7_init_0 ?_)
  refine ⟨⟨Nat.le_of_ble_eq_true rfl, rfl⟩, ?_⟩
  refine ⟨rfl, ?_⟩
  refine ⟨⟨rfl, rfl, rfl⟩, ?_⟩
  refine c_X8_init (s_X8_init_0 ?_)
  refine ⟨⟨Nat.le_of_ble_eq_true rfl, rfl⟩, ?_⟩
  refine ⟨rfl, ?_⟩
  refine ⟨⟨rfl, rfl, rfl⟩, ?_⟩
  intro h0 e0
  obtain rfl : h0 = (hi_88 g) := e0
  intro h0 e0
  obtain rfl : h0 = (hi_89 g) := e0
  intro h0 e0
  obtain rfl : h0 = (hi_90 g) := e0
  intro h0 e0
  obtain rfl : h0 = (hi_91 g) := e0
  intro h0 e0
  obtain rfl : h0 = (hi_92 g) := e0
  intro h0 e0
  obtain rfl : h0 = (hi_93 g) := e0
  intro h0 e0
  obtain rfl : h0 = (hi_94 g) := e0
  intro h0 e0
  obtain rfl : h0 = (hi_95 g) := e0
  intro h0 e0
  obtain rfl : h0 = (hi_96 g) := e0
  intro h0 e0
  obtain rfl : h0 = (hi_97 g) := e0
  intro h0 e0
  obtain rfl : h0 = (hi_98 g) := e0
  intro h0 e0
  obtain rfl : h0 = (hi_99 g) := e0
  intro h0 e0
  obtain rfl : h0 = (hi_100 g) := e0
  intro h0 e0
  obtain rfl : h0 = (hi_101 g) := e0
  intro h0 e0
  obtain rfl : h0 = (hi_102 g) := e0
  intro h0 e0
  obtain rfl : h0 = (hi_103 g) := e0
  intro h0 e0
  obtain rfl : h0 = (hi_104 g) := e0
  intro h0 e0
  obtain rfl : h0 = (hi_105 g) := e0
  refine ⟨rfl, ?_⟩
  refine ⟨⟨rfl, rfl, rfl⟩, ?_⟩
  intro h0 e0
  obtain rfl : h0 = (hi_106 g) := e0
  refine ⟨rfl, ?_⟩
  refine ⟨⟨rfl, rfl, rfl⟩, ?_⟩
  intro h0 e0
  obtain rfl : h0 = (hi_107 g) := e0
  refine ⟨rfl, ?_⟩
  refine ⟨⟨rfl, rfl, rfl⟩, ?_⟩
  intro h0 e0
  obtain rfl : h0 = (hi_108 g) := e0
  refine ⟨⟨Nat.le_of_ble_eq_true rfl, rfl⟩, ?_⟩
  intro h0 e0
  obtain rfl : h0 = (hi_109 g) := e0
  intro h0 e0
  obtain rfl : h0 = (hi_110 g) := e0
  refine ⟨rfl, ?_⟩
  refine ⟨⟨rfl, rfl, rfl⟩, ?_⟩
  intro h0 e0
  obtain rfl : h0 = (hi_111 g) := e0
  refine ⟨rfl, ?_⟩
  refine ⟨⟨rfl, rfl, rfl⟩, ?_⟩
  refine ⟨⟨Nat.le_of_ble_eq_true rfl, rfl⟩, ?_⟩
  refine c_X1_init (s_X1_init_0 ?_)
  refine ⟨⟨Nat.le_of_ble_eq_true rfl, rfl⟩, ?_⟩
  intro h0 e0
  obtain rfl : h0 = (hi_112 g) := e0
  refine ⟨rfl, ?_⟩
  refine ⟨⟨rfl, rfl, rfl⟩, ?_⟩
  refine c_X6_init (s_X6_init_0 ?_)
  refine ⟨⟨Nat.le_of_ble_eq_true rfl, rfl⟩, ?_⟩
  intro h0 e0
  obtain rfl : h0 = (hi_113 g) := e0
  refine ⟨rfl, ?_⟩
  refine ⟨⟨rfl, rfl, rfl⟩, ?_⟩
  intro h0 e0
  obtain rfl : h0 = (hi_114 g) := e0
  refine ⟨rfl, ?_⟩
  refine ⟨⟨rfl, rfl, rfl⟩, ?_⟩
  intro h0 e0
  obtain rfl : h0 = (hi_115 g) := e0
  refine ⟨rfl, ?_⟩
  refine ⟨⟨rfl, rfl, rfl⟩, ?_⟩
  intro h0 e0
  obtain rfl : h0 = (hi_116 g) := e0
  refine ⟨rfl, ?_⟩
  refine ⟨⟨rfl, rfl, rfl⟩, ?_⟩
  intro h0 e0
  obtain rfl : h0 = (hi_117 g) := e0
  refine ⟨rfl, ?_⟩
  refine ⟨⟨rfl, rfl, rfl⟩, ?_⟩
  intro h0 e0
  obtain rfl : h0 = (hi_118 g) := e0
  refine ⟨rfl, ?_⟩
  refine ⟨⟨rfl, rfl, rfl⟩, ?_⟩
  intro h0 e0
  obtain rfl : h0 = (hi_119 g) := e0
  intro h0 e0
  obtain rfl : h0 = (hi_120 g) := e0
  refine ⟨rfl, ?_⟩
  refine ⟨⟨rfl, rfl, rfl⟩, ?_⟩
  intro h0 e0
  obtain rfl : h0 = (hi_121 g) := e0
  refine ⟨rfl, ?_⟩
  refine ⟨⟨rfl, rfl, rfl⟩, ?_⟩
  refine c_X6_init (s_X6_init_0 ?_)
  refine ⟨⟨Nat.le_of_ble_eq_true rfl, rfl⟩, ?_⟩
  intro h0 e0
  obtain rfl : h0 = (hi_122 g) := e0
  refine ⟨rfl, ?_⟩
  refine ⟨⟨rfl, rfl, rfl⟩, ?_⟩
  intro h0 e0
  obtain rfl : h0 = (hi_123 g) := e0
  refine ⟨rfl, ?_⟩
  refine ⟨⟨rfl, rfl, rfl⟩, ?_⟩
  intro h0 e0
  obtain rfl : h0 = (hi_124 g) := e0
  refine ⟨rfl, ?_⟩
  refine ⟨⟨rfl, rfl, rfl⟩, ?_⟩
  intro h0 e0
  obtain rfl : h0 = (hi_125 g) := e0
  refine ⟨rfl, ?_⟩
  refine ⟨⟨rfl, rfl, rfl⟩, ?_⟩
  intro h0 e0
  obtain rfl : h0 = (hi_126 g) := e0
  refine ⟨rfl, ?_⟩
  refine ⟨⟨rfl, rfl, rfl⟩, ?_⟩
  intro h0 e0
  obtain rfl : h0 = (hi_127 g) := e0
  refine ⟨rfl, ?_⟩
  refine ⟨⟨rfl, rfl, rfl⟩, ?_⟩
  intro h0 e0
  obtain rfl : h0 = (hi_128 g) := e0
  intro h0 e0
  obtain rfl : h0 = (hi_129 g) := e0
  intro h0 e0
  obtain rfl : h0 = (hi_130 g) := e0
  refine ⟨rfl, ?_⟩
  refine ⟨⟨rfl, rfl, rfl⟩, ?_⟩
  intro h0 e0
  obtain rfl : h0 = (hi_131 g) := e0
  refine ⟨rfl, ?_⟩
  refine ⟨⟨rfl, rfl, rfl⟩, ?_⟩
  intro h0 e0
  obtain rfl : h0 = (hi_132 g) := e0
  refine ⟨rfl, ?_⟩
  refine ⟨⟨rfl, rfl, rfl⟩, ?_⟩
  intro h0 e0
  obtain rfl : h0 = (hi_133 g) := e0
  refine ⟨⟨Nat.le_of_ble_eq_true rfl, rfl⟩, ?_⟩
  intro h0 e0
  obtain rfl : h0 = (hi_134 g) := e0
  intro h0 e0
  obtain rfl : h0 = (hi_135 g) := e0
  refine ⟨rfl, ?_⟩
  refine ⟨⟨rfl, rfl, rfl⟩, ?_⟩
  refine ⟨⟨Nat.le_of_ble_eq_true rfl, rfl⟩, ?_⟩
  refine ⟨⟨Nat.le_of_ble_eq_true rfl, rfl⟩, ?_⟩
  refine c_X2_init (s_X2_init_0 ?_)
  refine ⟨⟨Nat.le_of_ble_eq_true rfl, rfl⟩, ?_⟩
  refine ⟨rfl, ?_⟩
  refine ⟨⟨rfl, rfl, rfl⟩, ?_⟩
  refine c_X6_init (s_X6_init_0 ?_)
  refine ⟨⟨Nat.le_of_ble_eq_true rfl, rfl⟩, ?_⟩
  intro h0 e0
  obtain rfl : h0 = (hi_136 g) := e0
  refine ⟨rfl, ?_⟩
  refine ⟨⟨rfl, rfl, rfl⟩, ?_⟩
  intro h0 e0
  obtain rfl : h0 = (hi_137 g) := e0
  refine ⟨rfl, ?_⟩
  refine ⟨⟨rfl, rfl, rfl⟩, ?_⟩
  intro h0 e0
  obtain rfl : h0 = (hi_138 g) := e0
  refine ⟨rfl, ?_⟩
  refine ⟨⟨rfl, rfl, rfl⟩, ?_⟩
  intro h0 e0
  obtain rfl : h0 = (hi_139 g) := e0
  refine ⟨rfl, ?_⟩
  refine ⟨⟨rfl, rfl, rfl⟩, ?_⟩
  intro h0 e0
  obtain rfl : h0 = (hi_140 g) := e0
  refine ⟨rfl, ?_⟩
  refine ⟨⟨rfl, rfl, rfl⟩, ?_⟩
  intro h0 e0
  obtain rfl : h0 = (hi_141 g) := e0
  refine ⟨rfl, ?_⟩
  refine ⟨⟨rfl, rfl, rfl⟩, ?_⟩
  intro h0 e0
  obtain rfl : h0 = (hi_142 g) := e0
  intro h0 e0
  obtain rfl : h0 = (hi_143 g) := e0
  intro h0 e0
  obtain rfl : h0 = (hi_144 g) := e0
  intro h0 e0
  obtain rfl : h0 = (hi_145 g) := e0
  intro h0 e0
  obtain rfl : h0 = (hi_146 g) := e0
  refine ⟨⟨Nat.le_of_ble_eq_true rfl, rfl⟩, ?_⟩
  intro h0 e0
  obtain rfl : h0 = (hi_147 g) := e0
  refine ⟨⟨Nat.le_of_ble_eq_true rfl, rfl⟩, ?_⟩
  intro h0 e0
  obtain rfl : h0 = (hi_148 g) := e0
  intro h0 e0
  obtain rfl : h0 = (hi_149 g) := e0
  refine ⟨rfl, ?_⟩
  refine ⟨⟨rfl, rfl, rfl⟩, ?_⟩
  intro h0 e0
  obtain rfl : h0 = (hi_150 g) := e0
  intro h0 e0
  obtain rfl : h0 = (hi_151 g) := e0
  refine ⟨rfl, ?_⟩
  refine ⟨⟨rfl, rfl, rfl⟩, ?_⟩
  intro h0 e0
  obtain rfl : h0 = (hi_152 g) := e0
  intro h0 e0
  obtain rfl : h0 = (hi_153 g) := e0
  intro h0 e0
  obtain rfl : h0 = (hi_154 g) := e0
  exact hq
set_option maxHeartbeats 1000000 in
set_option maxRecDepth 100000 in
theorem init_X12 {l : Launch} {g : AG} {Q : AH → Prop} (hq : Q (hi_248 g)) : C_X12_init l g 103 (hi_154 g) 103 Q := by
  refine c_X12_init (s_X12_init_0 ?_)
  refine ⟨⟨Nat.le_of_ble_eq_true rfl, rfl⟩, ?_⟩
  intro h0 e0
  obtain rfl : h0 = (hi_155 g) := e0
  refine ⟨rfl, ?_⟩
  refine ⟨⟨rfl, rfl, rfl⟩, ?_⟩
  intro h0 e0
  obtain rfl : h0 = (hi_156 g) := e0
  refine ⟨rfl, ?_⟩
  refine ⟨⟨rfl, rfl, rfl⟩, ?_⟩
  refine c_X10_init (s_X10_init_0 ?_)
  refine ⟨⟨Nat.le_of_ble_eq_true rfl, rfl⟩, ?_⟩
  refine ⟨rfl, ?_⟩
  refine ⟨⟨rfl, rfl, rfl⟩, ?_⟩
  intro h0 e0
  obtain rfl : h0 = (hi_157 g) := e0
  refine ⟨rfl, ?_⟩
  refine ⟨⟨rfl, rfl, rfl⟩, ?_⟩
  intro h0 e0
  obtain rfl : h0 = (hi_158 g) := e0
  refine ⟨rfl, ?_⟩
  refine ⟨⟨rfl, rfl, rfl⟩, ?_⟩
  intro h0 e0
  obtain rfl : h0 = (hi_159 g) := e0
  refine ⟨rfl, ?_⟩
  refine ⟨⟨rfl, rfl, rfl⟩, ?_⟩
  intro h0 e0
  obtain rfl : h0 = (hi_160 g) := e0
  refine ⟨rfl, ?_⟩
  refine ⟨⟨rfl, rfl, rfl⟩, ?_⟩
  intro h0 e0
  obtain rfl : h0 = (hi_161 g) := e0
  refine ⟨rfl, ?_⟩
  refine ⟨⟨rfl, rfl, rfl⟩, ?_⟩
  intro h0 e0
  obtain rfl : h0 = (hi_162 g) := e0
  refine ⟨rfl, ?_⟩
  refine ⟨⟨rfl, rfl, rfl⟩, ?_⟩
  intro h0 e0
  obtain rfl : h0 = (hi_163 g) := e0
  refine ⟨rfl, ?_⟩
  refine ⟨⟨rfl, rfl, rfl⟩, ?_⟩
  intro h0 e0
  obtain rfl : h0 = (hi_164 g) := e0
  refine ⟨rfl, ?_⟩
  refine ⟨⟨rfl, rfl, rfl⟩, ?_⟩
  intro h0 e0
  obtain rfl : h0 = (hi_165 g) := e0
  refine ⟨rfl, ?_⟩
  refine ⟨⟨rfl, rfl, rfl⟩, ?_⟩
  intro h0 e0
  obtain rfl : h0 = (hi_166 g) := e0
  refine ⟨rfl, ?_⟩
  refine ⟨⟨rfl, rfl, rfl⟩, ?_⟩
  intro h0 e0
  obtain rfl : h0 = (hi_167 g) := e0
  refine ⟨rfl, ?_⟩
  refine ⟨⟨rfl, rfl, rfl⟩, ?_⟩
  intro h0 e0
  obtain rfl : h0 = (hi_168 g) := e0
  refine ⟨rfl, ?_⟩
  refine ⟨⟨rfl, rfl, rfl⟩, ?_⟩
  intro h0 e0
  obtain rfl : h0 = (hi_169 g) := e0
  refine ⟨rfl, ?_⟩
  refine ⟨⟨rfl, rfl, rfl⟩, ?_⟩
  intro h0 e0
  obtain rfl : h0 = (hi_170 g) := e0
  refine ⟨rfl, ?_⟩
  refine ⟨⟨rfl, rfl, rfl⟩, ?_⟩
  intro h0 e0
  obtain rfl : h0 = (hi_171 g) := e0
  refine ⟨rfl, ?_⟩
  refine ⟨⟨rfl, rfl, rfl⟩, ?_⟩
  intro h0 e0
  obtain rfl : h0 = (hi_172 g) := e0
  refine ⟨rfl, ?_⟩
  refine ⟨⟨rfl, rfl, rfl⟩, ?_⟩
  intro h0 e0
  obtain rfl : h0 = (hi_173 g) := e0
  refine ⟨rfl, ?_⟩
  refine ⟨⟨rfl, rfl, rfl⟩, ?_⟩
  intro h0 e0
  obtain rfl : h0 = (hi_174 g) := e0
  refine ⟨rfl, ?_⟩
  refine ⟨⟨rfl, rfl, rfl⟩, ?_⟩
  intro h0 e0
  obtain rfl : h0 = (hi_175 g) := e0
  intro h0 e0
  obtain rfl : h0 = (hi_176 g) := e0
  refine ⟨rfl, ?_⟩
  refine ⟨⟨rfl, rfl, rfl⟩, ?_⟩
  intro h0 e0
  obtain rfl : h0 = (hi_177 g) := e0
  refine ⟨rfl, ?_⟩
  refine ⟨⟨rfl, rfl, rfl⟩, ?_⟩
  intro h0 e0
  obtain rfl : h0 = (hi_178 g) := e0
  refine ⟨rfl, ?_⟩
  refine ⟨⟨rfl, rfl, rfl⟩, ?_⟩
  intro h0 e0
  obtain rfl : h0 = (hi_179 g) := e0
  refine ⟨rfl, ?_⟩
  refine ⟨⟨rfl, rfl, rfl⟩, ?_⟩
  refine c_X11_init2 (h2 := (hi_180 g)) ⟨Nat.le_of_ble_eq_true rfl, rfl⟩ rfl ?_
  intro h0 e0
  obtain rfl : h0 = (hi_181 g) := e0
  refine ⟨rfl, ?_⟩
  refine ⟨⟨rfl, rfl, rfl⟩, ?_⟩
  intro h0 e0
  obtain rfl : h0 = (hi_182 g) := e0
  refine ⟨rfl, ?_⟩
  refine ⟨⟨rfl, rfl, rfl⟩, ?_⟩
  intro h0 e0
  obtain rfl : h0 = (hi_183 g) := e0
  refine ⟨rfl, ?_⟩
  refine ⟨⟨rfl, rfl, rfl⟩, ?_⟩
  intro h0 e0
  obtain rfl : h0 = (hi_184 g) := e0
  refine ⟨rfl, ?_⟩
  refine ⟨⟨rfl, rfl, rfl⟩, ?_⟩
  intro h0 e0
  obtain rfl : h0 = (hi_185 g) := e0
  intro h0 e0
  obtain rfl : h0 = (hi_186 g) := e0
  refine ⟨rfl, ?_⟩
  refine ⟨⟨rfl, rfl, rfl⟩, ?_⟩
  intro h0 e0
  obtain rfl : h0 = (hi_187 g) := e0
  refine ⟨rfl, ?_⟩
  refine ⟨⟨rfl, rfl, rfl⟩, ?_⟩
  intro h0 e0
  obtain rfl : h0 = (hi_188 g) := e0
  refine ⟨rfl, ?_⟩
  refine ⟨⟨rfl, rfl, rfl⟩, ?_⟩
  intro h0 e0
  obtain rfl : h0 = (hi_189 g) := e0
  refine ⟨rfl, ?_⟩
  refine ⟨⟨rfl, rfl, rfl⟩, ?_⟩
  intro h0 e0
  obtain rfl : h0 = (hi_190 g) := e0
  refine ⟨rfl, ?_⟩
  refine ⟨⟨rfl, rfl, rfl⟩, ?_⟩
  intro h0 e0
  obtain rfl : h0 = (hi_191 g) := e0
  refine ⟨rfl, ?_⟩
  refine ⟨⟨rfl, rfl, rfl⟩, ?_⟩
  intro h0 e0
  obtain rfl : h0 = (hi_192 g) := e0
  refine ⟨rfl, ?_⟩
  refine ⟨⟨rfl, rfl, rfl⟩, ?_⟩
  intro h0 e0
  obtain rfl : h0 = (hi_193 g) := e0
  refine ⟨rfl, ?_⟩
  refine ⟨⟨rfl, rfl, rfl⟩, ?_⟩
  intro h0 e0
  obtain rfl : h0 = (hi_194 g) := e0
  refine ⟨rfl, ?_⟩
  refine ⟨⟨rfl, rfl, rfl⟩, ?_⟩
  intro h0 e0
  obtain rfl : h0 = (hi_195 g) := e0
  refine ⟨rfl, ?_⟩
  refine ⟨⟨rfl, rfl, rfl⟩, ?_⟩
  intro h0 e0
  obtain rfl : h0 = (hi_196 g) := e0
  refine ⟨rfl, ?_⟩
  refine ⟨⟨rfl, rfl, rfl⟩, ?_⟩
  intro h0 e0
  obtain rfl : h0 = (hi_197 g) := e0
  refine ⟨rfl, ?_⟩
  refine ⟨⟨rfl, rfl, rfl⟩, ?_⟩
  intro h0 e0
  obtain rfl : h0 = (hi_198 g) := e0
  refine ⟨rfl, ?_⟩
  refine ⟨⟨rfl, rfl, rfl⟩, ?_⟩
  intro h0 e0
  obtain rfl : h0 = (hi_199 g) := e0
  intro h0 e0
  obtain rfl : h0 = (hi_200 g) := e0
  refine ⟨rfl, ?_⟩
  refine ⟨⟨rfl, rfl, rfl⟩, ?_⟩
  intro h0 e0
  obtain rfl : h0 = (hi_201 g) := e0
  refine ⟨rfl, ?_⟩
  refine ⟨⟨rfl, rfl, rfl⟩, ?_⟩
  intro h0 e0
  obtain rfl : h0 = (hi_202 g) := e0
  refine ⟨rfl, ?_⟩
  refine ⟨⟨rfl, rfl, rfl⟩, ?_⟩
  intro h0 e0
  obtain rfl : h0 = (hi_203 g) := e0
  refine ⟨rfl, ?_⟩
  refine ⟨⟨rfl, rfl, rfl⟩, ?_⟩
  intro h0 e0
  obtain rfl : h0 = (hi_204 g) := e0
  refine ⟨rfl, ?_⟩
  refine ⟨⟨rfl, rfl, rfl⟩, ?_⟩
  intro h0 e0
  obtain rfl : h0 = (hi_205 g) := e0
  refine ⟨rfl, ?_⟩
  refine ⟨⟨rfl, rfl, rfl⟩, ?_⟩
  intro h0 e0
  obtain rfl : h0 = (hi_206 g) := e0
  refine ⟨rfl, ?_⟩
  refine ⟨⟨rfl, rfl, rfl⟩, ?_⟩
  intro h0 e0
  obtain rfl : h0 = (hi_207 g) := e0
  refine ⟨rfl, ?_⟩
  refine ⟨⟨rfl, rfl, rfl⟩, ?_⟩
  intro h0 e0
  obtain rfl : h0 = (hi_208 g) := e0
  refine ⟨⟨Nat.le_of_ble_eq_true rfl, rfl⟩, ?_⟩
  refine ⟨rfl, ?_⟩
  refine ⟨⟨rfl, rfl, rfl⟩, ?_⟩
  refine c_X10_init (s_X10_init_0 ?_)
  refine ⟨⟨Nat.le_of_ble_eq_true rfl, rfl⟩, ?_⟩
  refine ⟨rfl, ?_⟩
  refine ⟨⟨rfl, rfl, rfl⟩, ?_⟩
  intro h0 e0
  obtain rfl : h0 = (hi_209 g) := e0
  refine ⟨rfl, ?_⟩
  refine ⟨⟨rfl, rfl, rfl⟩, ?_⟩
  intro h0 e0
  obtain rfl : h0 = (hi_210 g) := e0
  refine ⟨rfl, ?_⟩
  refine ⟨⟨rfl, rfl, rfl⟩, ?_⟩
  intro h0 e0
  obtain rfl : h0 = (hi_211 g) := e0
  refine ⟨rfl, ?_⟩
  refine ⟨⟨rfl, rfl, rfl⟩, ?_⟩
  intro h0 e0
  obtain rfl : h0 = (hi_212 g) := e0
  refine ⟨rfl, ?_⟩
  refine ⟨⟨rfl, rfl, rfl⟩, ?_⟩
  intro h0 e0
  obtain rfl : h0 = (hi_213 g) := e0
  refine ⟨rfl, ?_⟩
  refine ⟨⟨rfl, rfl, rfl⟩, ?_⟩
  intro h0 e0
  obtain rfl : h0 = (hi_214 g) := e0
  refine ⟨rfl, ?_⟩
  refine ⟨⟨rfl, rfl, rfl⟩, ?_⟩
  intro h0 e0
  obtain rfl : h0 = (hi_215 g) := e0
  refine ⟨rfl, ?_⟩
  refine ⟨⟨rfl, rfl, rfl⟩, ?_⟩
  intro h0 e0
  obtain rfl : h0 = (hi_216 g) := e0
  refine ⟨rfl, ?_⟩
  refine ⟨⟨rfl, rfl, rfl⟩, ?_⟩
  intro h0 e0
  obtain rfl : h0 = (hi_217 g) := e0
  refine ⟨rfl, ?_⟩
  refine ⟨⟨rfl, rfl, rfl⟩, ?_⟩
  intro h0 e0
  obtain rfl : h0 = (hi_218 g) := e0
  refine ⟨rfl, ?_⟩
  refine ⟨⟨rfl, rfl, rfl⟩, ?_⟩
  intro h0 e0
  obtain rfl : h0 = (hi_219 g) := e0
  refine ⟨rfl, ?_⟩
  refine ⟨⟨rfl, rfl, rfl⟩, ?_⟩
  intro h0 e0
  obtain rfl : h0 = (hi_220 g) := e0
  refine ⟨rfl, ?_⟩
  refine ⟨⟨rfl, rfl, rfl⟩, ?_⟩
  intro h0 e0
  obtain rfl : h0 = (hi_221 g) := e0
  refine ⟨rfl, ?_⟩
  refine ⟨⟨rfl, rfl, rfl⟩, ?_⟩
  intro h0 e0
  obtain rfl : h0 = (hi_222 g) := e0
  refine ⟨rfl, ?_⟩
  refine ⟨⟨rfl, rfl, rfl⟩, ?_⟩
  intro h0 e0
  obtain rfl : h0 = (hi_223 g) := e0
  refine ⟨rfl, ?_⟩
  refine ⟨⟨rfl, rfl, rfl⟩, ?_⟩
  intro h0 e0
  obtain rfl : h0 = (hi_224 g) := e0
  refine ⟨rfl, ?_⟩
  refine ⟨⟨rfl, rfl, rfl⟩, ?_⟩
  intro h0 e0
  obtain rfl : h0 = (hi_225 g) := e0
  refine ⟨rfl, ?_⟩
  refine ⟨⟨rfl, rfl, rfl⟩, ?_⟩
  intro h0 e0
  obtain rfl : h0 = (hi_226 g) := e0
  refine ⟨rfl, ?_⟩
  refine ⟨⟨rfl, rfl, rfl⟩, ?_⟩
  intro h0 e0
  obtain rfl : h0 = (hi_227 g) := e0
  refine ⟨show vp_in 0 2 from by unfold vp_in; decide, ?_⟩
  intro h0 e0
  obtain rfl : h0 = (hi_228 g) := e0
  refine ⟨⟨Nat.le_of_ble_eq_true rfl, rfl⟩, ?_⟩
  refine ⟨rfl, ?_⟩
  refine ⟨⟨rfl, rfl, rfl⟩, ?_⟩
  refine c_X10_init (s_X10_init_0 ?_)
  refine ⟨⟨Nat.le_of_ble_eq_true rfl, rfl⟩, ?_⟩
  refine ⟨rfl, ?_⟩
  refine ⟨⟨rfl, rfl, rfl⟩, ?_⟩
  intro h0 e0
  obtain rfl : h0 = (hi_229 g) := e0
  refine ⟨rfl, ?_⟩
  refine ⟨⟨rfl, rfl, rfl⟩, ?_⟩
  intro h0 e0
  obtain rfl : h0 = (hi_230 g) := e0
  refine ⟨rfl, ?_⟩
  refine ⟨⟨rfl, rfl, rfl⟩, ?_⟩
  intro h0 e0
  obtain rfl : h0 = (hi_231 g) := e0
  refine ⟨rfl, ?_⟩
  refine ⟨⟨rfl, rfl, rfl⟩, ?_⟩
  intro h0 e0
  obtain rfl : h0 = (hi_232 g) := e0
  refine ⟨rfl, ?_⟩
  refine ⟨⟨rfl, rfl, rfl⟩, ?_⟩
  intro h0 e0
  obtain rfl : h0 = (hi_233 g) := e0
  refine ⟨rfl, ?_⟩
  refine ⟨⟨rfl, rfl, rfl⟩, ?_⟩
  intro h0 e0
  obtain rfl : h0 = (hi_234 g) := e0
  refine ⟨rfl, ?_⟩
  refine ⟨⟨rfl, rfl, rfl⟩, ?_⟩
  intro h0 e0
  obtain rfl : h0 = (hi_235 g) := e0
  refine ⟨rfl, ?_⟩
  refine ⟨⟨rfl, rfl, rfl⟩, ?_⟩
  intro h0 e0
  obtain rfl : h0 = (hi_236 g) := e0
  refine ⟨rfl, ?_⟩
  refine ⟨⟨rfl, rfl, rfl⟩, ?_⟩
  intro h0 e0
  obtain rfl : h0 = (hi_237 g) := e0
  refine ⟨rfl, ?_⟩
  refine ⟨⟨rfl, rfl, rfl⟩, ?_⟩
  intro h0 e0
  obtain rfl : h0 = (hi_238 g) := e0
  refine ⟨rfl, ?_⟩
  refine ⟨⟨rfl, rfl, rfl⟩, ?_⟩
  intro h0 e0
  obtain rfl : h0 = (hi_239 g) := e0
  refine ⟨rfl, ?_⟩
  refine ⟨⟨rfl, rfl, rfl⟩, ?_⟩
  intro h0 e0
  obtain rfl : h0 = (hi_240 g) := e0
  refine ⟨rfl, ?_⟩
  refine ⟨⟨rfl, rfl, rfl⟩, ?_⟩
  intro h0 e0
  obtain rfl : h0 = (hi_241 g) := e0
  refine ⟨rfl, ?_⟩
  refine ⟨⟨rfl, rfl, rfl⟩, ?_⟩
  intro h0 e0
  obtain rfl : h0 = (hi_242 g) := e0
  refine ⟨rfl, ?_⟩
  refine ⟨⟨rfl, rfl, rfl⟩, ?_⟩
  intro h0 e0
  obtain rfl : h0 = (hi_243 g) := e0
  refine ⟨rfl, ?_⟩
  refine ⟨⟨rfl, rfl, rfl⟩, ?_⟩
  intro h0 e0
  obtain rfl : h0 = (hi_244 g) := e0
  refine ⟨rfl, ?_⟩
  refine ⟨⟨rfl, rfl, rfl⟩, ?_⟩
  intro h0 e0
  obtain rfl : h0 = (hi_245 g) := e0
  refine ⟨rfl, ?_⟩
  refine ⟨⟨rfl, rfl, rfl⟩, ?_⟩
  intro h0 e0
  obtain rfl : h0 = (hi_246 g) := e0
  refine ⟨rfl, ?_⟩
  refine ⟨⟨rfl, rfl, rfl⟩, ?_⟩
  intro h0 e0
  obtain rfl : h0 = (hi_247 g) := e0
  refine ⟨show vp_in 1 2 from by unfold vp_in; decide, ?_⟩
  intro h0 e0
  obtain rfl : h0 = (hi_248 g) := e0
  exact hq
/-- the heap behind both constructors -/
def h_fin (g : AG) : AH := (hi_248 g)
