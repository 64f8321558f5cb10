theorem dX12_app_15 : decode cX12_app 15 = .ok (.iconst 1, 1) := by decide +kernel
theorem dX12_app_16 : decode cX12_app 16 = .ok (.invokevirtual 316, 3) := by decide +kernel
theorem dX12_app_19 : decode cX12_app 19 = .ok (.ireturn, 1) := by decide +kernel
theorem dX12_app_20 : decode cX12_app 20 = .ok (.iload_n 2, 1) := by decide +kernel
theorem dX12_app_21 : decode cX12_app 21 = .ok (.ifCond .lt 11, 3) := by decide +kernel
theorem dX12_app_24 : decode cX12_app 24 = .ok (.iload_n 2, 1) := by decide +kernel
theorem dX12_app_25 : decode cX12_app 25 = .ok (.aload_n 0, 1) := by decide +kernel
theorem dX12_app_26 : decode cX12_app 26 = .ok (.getfield 313, 3) := by decide +kernel
theorem dX12_app_29 : decode cX12_app 29 = .ok (.if_icmp .le 9, 3) := by decide +kernel
theorem dX12_app_32 : decode cX12_app 32 = .ok (.aload_n 0, 1) := by decide +kernel
theorem dX12_app_33 : decode cX12_app 33 = .ok (.iconst 2, 1) := by decide +kernel
theorem dX12_app_34 : decode cX12_app 34 = .ok (.invokevirtual 316, 3) := by decide +kernel
theorem dX12_app_37 : decode cX12_app 37 = .ok (.ireturn, 1) := by decide +kernel
theorem dX12_app_38 : decode cX12_app 38 = .ok (.aload_n 0, 1) := by decide +kernel
theorem dX12_app_39 : decode cX12_app 39 = .ok (.iload_n 2, 1) := by decide +kernel
theorem dX12_app_40 : decode cX12_app 40 = .ok (.putfield 136, 3) := by decide +kernel
theorem dX12_app_43 : decode cX12_app 43 = .ok (.aload_n 0, 1) := by decide +kernel
theorem dX12_app_44 : decode cX12_app 44 = .ok (.iconst 0, 1) := by decide +kernel
theorem dX12_app_45 : decode cX12_app 45 = .ok (.putfield 313, 3) := by decide +kernel
theorem dX12_app_48 : decode cX12_app 48 = .ok (.aload_n 0, 1) := by decide +kernel
theorem dX12_app_49 : decode cX12_app 49 = .ok (.iconst 0, 1) := by decide +kernel
theorem dX12_app_50 : decode cX12_app 50 = .ok (.putfield 151, 3) := by decide +kernel
theorem dX12_app_53 : decode cX12_app 53 = .ok (.aload_n 0, 1) := by decide +kernel
theorem dX12_app_54 : decode cX12_app 54 = .ok (.iconst 0, 1) := by decide +kernel
theorem dX12_app_55 : decode cX12_app 55 = .ok (.putfield 319, 3) := by decide +kernel
theorem dX12_app_58 : decode cX12_app 58 = .ok (.aload_n 0, 1) := by decide +kernel
theorem dX12_app_59 : decode cX12_app 59 = .ok (.invokevirtual 321, 3) := by decide +kernel
theorem dX12_app_62 : decode cX12_app 62 = .ok (.goto 27, 3) := by decide +kernel
theorem dX12_app_65 : decode cX12_app 65 = .ok (.astore_n 3, 1) := by decide +kernel
theorem dX12_app_66 : decode cX12_app 66 = .ok (.aload_n 0, 1) := by decide +kernel
theorem dX12_app_67 : decode cX12_app 67 = .ok (.aload_n 3, 1) := by decide +kernel
theorem dX12_app_68 : decode cX12_app 68 = .ok (.getfield 131, 3) := by decide +kernel
theorem dX12_app_71 : decode cX12_app 71 = .ok (.putfield 319, 3) := by decide +kernel
theorem dX12_app_74 : decode cX12_app 74 = .ok (.aload_n 0, 1) := by decide +kernel
theorem dX12_app_75 : decode cX12_app 75 = .ok (.iconst 3, 1) := by decide +kernel
theorem dX12_app_76 : decode cX12_app 76 = .ok (.putfield 7, 3) := by decide +kernel
theorem dX12_app_79 : decode cX12_app 79 = .ok (.aload_n 0, 1) := by decide +kernel
theorem dX12_app_80 : decode cX12_app 80 = .ok (.aload_n 3, 1) := by decide +kernel
theorem dX12_app_81 : decode cX12_app 81 = .ok (.getfield 133, 3) := by decide +kernel
theorem dX12_app_84 : decode cX12_app 84 = .ok (.putfield 10, 3) := by decide +kernel
theorem dX12_app_87 : decode cX12_app 87 = .ok (.iconst (-1), 1) := by decide +kernel
theorem dX12_app_88 : decode cX12_app 88 = .ok (.ireturn, 1) := by decide +kernel
theorem dX12_app_89 : decode cX12_app 89 = .ok (.aload_n 0, 1) := by decide +kernel
theorem dX12_app_90 : decode cX12_app 90 = .ok (.getfield 21, 3) := by decide +kernel
theorem dX12_app_93 : decode cX12_app 93 = .ok (.iload_n 1, 1) := by decide +kernel
theorem dX12_app_94 : decode cX12_app 94 = .ok (.aaload, 1) := by decide +kernel
theorem dX12_app_95 : decode cX12_app 95 = .ok (.astore_n 3, 1) := by decide +kernel
theorem dX12_app_96 : decode cX12_app 96 = .ok (.aload_n 0, 1) := by decide +kernel
theorem dX12_app_97 : decode cX12_app 97 = .ok (.getfield 21, 3) := by decide +kernel
theorem dX12_app_100 : decode cX12_app 100 = .ok (.iload_n 1, 1) := by decide +kernel
theorem dX12_app_101 : decode cX12_app 101 = .ok (.aload_n 0, 1) := by decide +kernel
theorem dX12_app_102 : decode cX12_app 102 = .ok (.getfield 26, 3) := by decide +kernel
theorem dX12_app_105 : decode cX12_app 105 = .ok (.aastore, 1) := by decide +kernel
theorem dX12_app_106 : decode cX12_app 106 = .ok (.aload_n 0, 1) := by decide +kernel
theorem dX12_app_107 : decode cX12_app 107 = .ok (.aload_n 3, 1) := by decide +kernel
theorem dX12_app_108 : decode cX12_app 108 = .ok (.putfield 26, 3) := by decide +kernel
theorem dX12_app_111 : decode cX12_app 111 = .ok (.aload_n 0, 1) := by decide +kernel
theorem dX12_app_112 : decode cX12_app 112 = .ok (.getfield 30, 3) := by decide +kernel
theorem dX12_app_115 : decode cX12_app 115 = .ok (.iload_n 1, 1) := by decide +kernel
theorem dX12_app_116 : decode cX12_app 116 = .ok (.iconst 1, 1) := by decide +kernel
theorem dX12_app_117 : decode cX12_app 117 = .ok (.bastore, 1) := by decide +kernel
theorem dX12_app_118 : decode cX12_app 118 = .ok (.aload_n 0, 1) := by decide +kernel
theorem dX12_app_119 : decode cX12_app 119 = .ok (.invokevirtual 324, 3) := by decide +kernel
theorem dX12_app_122 : decode cX12_app 122 = .ok (.aload_n 0, 1) := by decide +kernel
theorem dX12_app_123 : decode cX12_app 123 = .ok (.getfield 34, 3) := by decide +kernel
theorem dX12_app_126 : decode cX12_app 126 = .ok (.iload_n 1, 1) := by decide +kernel
theorem dX12_app_127 : decode cX12_app 127 = .ok (.aload_n 0, 1) := by decide +kernel
theorem dX12_app_128 : decode cX12_app 128 = .ok (.invokevirtual 327, 3) := by decide +kernel
theorem dX12_app_131 : decode cX12_app 131 = .ok (.lastore, 1) := by decide +kernel
theorem dX12_app_132 : decode cX12_app 132 = .ok (.aload_n 0, 1) := by decide +kernel
theorem dX12_app_133 : decode cX12_app 133 = .ok (.getfield 38, 3) := by decide +kernel
theorem dX12_app_136 : decode cX12_app 136 = .ok (.iload_n 1, 1) := by decide +kernel
theorem dX12_app_137 : decode cX12_app 137 = .ok (.aload_n 0, 1) := by decide +kernel
theorem dX12_app_138 : decode cX12_app 138 = .ok (.invokevirtual 331, 3) := by decide +kernel
theorem dX12_app_141 : decode cX12_app 141 = .ok (.lastore, 1) := by decide +kernel
theorem dX12_app_142 : decode cX12_app 142 = .ok (.aload_n 0, 1) := by decide +kernel
theorem dX12_app_143 : decode cX12_app 143 = .ok (.getfield 62, 3) := by decide +kernel
theorem dX12_app_146 : decode cX12_app 146 = .ok (.iload_n 1, 1) := by decide +kernel
theorem dX12_app_147 : decode cX12_app 147 = .ok (.if_icmp .ne 13, 3) := by decide +kernel
theorem dX12_app_150 : decode cX12_app 150 = .ok (.aload_n 0, 1) := by decide +kernel
theorem dX12_app_151 : decode cX12_app 151 = .ok (.iconst (-1), 1) := by decide +kernel
theorem dX12_app_152 : decode cX12_app 152 = .ok (.putfield 62, 3) := by decide +kernel
theorem dX12_app_155 : decode cX12_app 155 = .ok (.aload_n 0, 1) := by decide +kernel
theorem dX12_app_156 : decode cX12_app 156 = .ok (.iconst 0, 1) := by decide +kernel
theorem dX12_app_157 : decode cX12_app 157 = .ok (.putfield 334, 3) := by decide +kernel
theorem dX12_app_160 : decode cX12_app 160 = .ok (.aload_n 0, 1) := by decide +kernel
theorem dX12_app_161 : decode cX12_app 161 = .ok (.aload_n 0, 1) := by decide +kernel
theorem dX12_app_162 : decode cX12_app 162 = .ok (.getfield 21, 3) := by decide +kernel
theorem dX12_app_165 : decode cX12_app 165 = .ok (.iload_n 1, 1) := by decide +kernel
theorem dX12_app_166 : decode cX12_app 166 = .ok (.aaload, 1) := by decide +kernel
theorem dX12_app_167 : decode cX12_app 167 = .ok (.getfield 205, 3) := by decide +kernel
theorem dX12_app_170 : decode cX12_app 170 = .ok (.invokevirtual 337, 3) := by decide +kernel
theorem dX12_app_173 : decode cX12_app 173 = .ok (.ireturn, 1) := by decide +kernel
theorem dX12_fault_0 : decode cX12_fault 0 = .ok (.aload_n 0, 1) := by decide +kernel
theorem dX12_fault_1 : decode cX12_fault 1 = .ok (.iconst 0, 1) := by decide +kernel
theorem dX12_fault_2 : decode cX12_fault 2 = .ok (.putfield 1, 3) := by decide +kernel
theorem dX12_fault_5 : decode cX12_fault 5 = .ok (.aload_n 0, 1) := by decide +kernel
theorem dX12_fault_6 : decode cX12_fault 6 = .ok (.getfield 319, 3) := by decide +kernel
theorem dX12_fault_9 : decode cX12_fault 9 = .ok (.ireturn, 1) := by decide +kernel
theorem dX12_where_0 : decode cX12_where 0 = .ok (.aload_n 0, 1) := by decide +kernel
theorem dX12_where_1 : decode cX12_where 1 = .ok (.iconst 0, 1) := by decide +kernel
theorem dX12_where_2 : decode cX12_where 2 = .ok (.putfield 1, 3) := by decide +kernel
theorem dX12_where_5 : decode cX12_where 5 = .ok (.aload_n 0, 1) := by decide +kernel
theorem dX12_where_6 : decode cX12_where 6 = .ok (.getfield 10, 3) := by decide +kernel
theorem dX12_where_9 : decode cX12_where 9 = .ok (.ireturn, 1) := by decide +kernel
theorem dX12_about_0 : decode cX12_about 0 = .ok (.aload_n 0, 1) := by decide +kernel
theorem dX12_about_1 : decode cX12_about 1 = .ok (.iconst 0, 1) := by decide +kernel
theorem dX12_about_2 : decode cX12_about 2 = .ok (.putfield 1, 3) := by decide +kernel
theorem dX12_about_5 : decode cX12_about 5 = .ok (.aload_n 0, 1) := by decide +kernel
theorem dX12_about_6 : decode cX12_about 6 = .ok (.iload_n 1, 1) := by decide +kernel
theorem dX12_about_7 : decode cX12_about 7 = .ok (.invokevirtual 340, 3) := by decide +kernel
theorem dX12_about_10 : decode cX12_about 10 = .ok (.ifCond .ne 5, 3) := by decide +kernel
theorem dX12_about_13 : decode cX12_about 13 = .ok (.iconst (-1), 1) := by decide +kernel
theorem dX12_about_14 : decode cX12_about 14 = .ok (.ireturn, 1) := by decide +kernel
theorem dX12_about_15 : decode cX12_about 15 = .ok (.aload_n 0, 1) := by decide +kernel
theorem dX12_about_16 : decode cX12_about 16 = .ok (.getfield 21, 3) := by decide +kernel
theorem dX12_about_19 : decode cX12_about 19 = .ok (.iload_n 1, 1) := by decide +kernel
theorem dX12_about_20 : decode cX12_about 20 = .ok (.aaload, 1) := by decide +kernel
theorem dX12_about_21 : decode cX12_about 21 = .ok (.astore_n 3, 1) := by decide +kernel
theorem dX12_about_22 : decode cX12_about 22 = .ok (.iconst 0, 1) := by decide +kernel
theorem dX12_about_23 : decode cX12_about 23 = .ok (.istore 4, 2) := by decide +kernel
theorem dX12_about_25 : decode cX12_about 25 = .ok (.iload_n 2, 1) := by decide +kernel
theorem dX12_about_26 : decode cX12_about 26 = .ok (.tableswitch 168 0 5 #[38, 43, 48, 53, 94, 127], 38) := by decide +kernel
theorem dX12_about_64 : decode cX12_about 64 = .ok (.aload_n 3, 1) := by decide +kernel
theorem dX12_about_65 : decode cX12_about 65 = .ok (.getfield 205, 3) := by decide +kernel
theorem dX12_about_68 : decode cX12_about 68 = .ok (.ireturn, 1) := by decide +kernel
theorem dX12_about_69 : decode cX12_about 69 = .ok (.aload_n 3, 1) := by decide +kernel
theorem dX12_about_70 : decode cX12_about 70 = .ok (.getfield 208, 3) := by decide +kernel
theorem dX12_about_73 : decode cX12_about 73 = .ok (.ireturn, 1) := by decide +kernel
theorem dX12_about_74 : decode cX12_about 74 = .ok (.aload_n 3, 1) := by decide +kernel
theorem dX12_about_75 : decode cX12_about 75 = .ok (.getfield 198, 3) := by decide +kernel
theorem dX12_about_78 : decode cX12_about 78 = .ok (.ireturn, 1) := by decide +kernel
theorem dX12_about_79 : decode cX12_about 79 = .ok (.iconst 0, 1) := by decide +kernel
theorem dX12_about_80 : decode cX12_about 80 = .ok (.istore 5, 2) := by decide +kernel
theorem dX12_about_82 : decode cX12_about 82 = .ok (.iload 5, 2) := by decide +kernel
theorem dX12_about_84 : decode cX12_about 84 = .ok (.aload_n 3, 1) := by decide +kernel
theorem dX12_about_85 : decode cX12_about 85 = .ok (.getfield 198, 3) := by decide +kernel
theorem dX12_about_88 : decode cX12_about 88 = .ok (.if_icmp .ge 29, 3) := by decide +kernel
theorem dX12_about_91 : decode cX12_about 91 = .ok (.iload 4, 2) := by decide +kernel
theorem dX12_about_93 : decode cX12_about 93 = .ok (.aload_n 3, 1) := by decide +kernel
theorem dX12_about_94 : decode cX12_about 94 = .ok (.getfield 214, 3) := by decide +kernel
theorem dX12_about_97 : decode cX12_about 97 = .ok (.iload 5, 2) := by decide +kernel
theorem dX12_about_99 : decode cX12_about 99 = .ok (.baload, 1) := by decide +kernel
theorem dX12_about_100 : decode cX12_about 100 = .ok (.ifCond .eq 7, 3) := by decide +kernel
theorem dX12_about_103 : decode cX12_about 103 = .ok (.iconst 1, 1) := by decide +kernel
theorem dX12_about_104 : decode cX12_about 104 = .ok (.goto 4, 3) := by decide +kernel
theorem dX12_about_107 : decode cX12_about 107 = .ok (.iconst 0, 1) := by decide +kernel
theorem dX12_about_108 : decode cX12_about 108 = .ok (.iadd, 1) := by decide +kernel
theorem dX12_about_109 : decode cX12_about 109 = .ok (.istore 4, 2) := by decide +kernel
theorem dX12_about_111 : decode cX12_about 111 = .ok (.iinc 5 1, 3) := by decide +kernel
theorem dX12_about_114 : decode cX12_about 114 = .ok (.goto (-32), 3) := by decide +kernel
theorem dX12_about_117 : decode cX12_about 117 = .ok (.iload 4, 2) := by decide +kernel
theorem dX12_about_119 : decode cX12_about 119 = .ok (.ireturn, 1) := by decide +kernel
theorem dX12_about_120 : decode cX12_about 120 = .ok (.iconst 0, 1) := by decide +kernel
theorem dX12_about_121 : decode cX12_about 121 = .ok (.istore 5, 2) := by decide +kernel
theorem dX12_about_123 : decode cX12_about 123 = .ok (.iload 5, 2) := by decide +kernel
theorem dX12_about_125 : decode cX12_about 125 = .ok (.aload_n 3, 1) := by decide +kernel
theorem dX12_about_126 : decode cX12_about 126 = .ok (.getfield 205, 3) := by decide +kernel
theorem dX12_about_129 : decode cX12_about 129 = .ok (.if_icmp .ge 21, 3) := by decide +kernel
theorem dX12_about_132 : decode cX12_about 132 = .ok (.iload 4, 2) := by decide +kernel
theorem dX12_about_134 : decode cX12_about 134 = .ok (.aload_n 3, 1) := by decide +kernel
theorem dX12_about_135 : decode cX12_about 135 = .ok (.getfield 252, 3) := by decide +kernel
theorem dX12_about_138 : decode cX12_about 138 = .ok (.iload 5, 2) := by decide +kernel
theorem dX12_about_140 : decode cX12_about 140 = .ok (.iaload, 1) := by decide +kernel
theorem dX12_about_141 : decode cX12_about 141 = .ok (.iadd, 1) := by decide +kernel
theorem dX12_about_142 : decode cX12_about 142 = .ok (.istore 4, 2) := by decide +kernel
theorem dX12_about_144 : decode cX12_about 144 = .ok (.iinc 5 1, 3) := by decide +kernel
theorem dX12_about_147 : decode cX12_about 147 = .ok (.goto (-24), 3) := by decide +kernel
theorem dX12_about_150 : decode cX12_about 150 = .ok (.iload 4, 2) := by decide +kernel
theorem dX12_about_152 : decode cX12_about 152 = .ok (.ireturn, 1) := by decide +kernel
theorem dX12_about_153 : decode cX12_about 153 = .ok (.iconst 0, 1) := by decide +kernel
theorem dX12_about_154 : decode cX12_about 154 = .ok (.istore 5, 2) := by decide +kernel
theorem dX12_about_156 : decode cX12_about 156 = .ok (.iload 5, 2) := by decide +kernel
theorem dX12_about_158 : decode cX12_about 158 = .ok (.aload_n 3, 1) := by decide +kernel
theorem dX12_about_159 : decode cX12_about 159 = .ok (.getfield 205, 3) := by decide +kernel
theorem dX12_about_162 : decode cX12_about 162 = .ok (.if_icmp .ge 29, 3) := by decide +kernel
theorem dX12_about_165 : decode cX12_about 165 = .ok (.iload 4, 2) := by decide +kernel
theorem dX12_about_167 : decode cX12_about 167 = .ok (.aload_n 3, 1) := by decide +kernel
theorem dX12_about_168 : decode cX12_about 168 = .ok (.getfield 234, 3) := by decide +kernel
theorem dX12_about_171 : decode cX12_about 171 = .ok (.iload 5, 2) := by decide +kernel
theorem dX12_about_173 : decode cX12_about 173 = .ok (.iaload, 1) := by decide +kernel
theorem dX12_about_174 : decode cX12_about 174 = .ok (.ifCond .le 7, 3) := by decide +kernel
theorem dX12_about_177 : decode cX12_about 177 = .ok (.iconst 1, 1) := by decide +kernel
theorem dX12_about_178 : decode cX12_about 178 = .ok (.goto 4, 3) := by decide +kernel
theorem dX12_about_181 : decode cX12_about 181 = .ok (.iconst 0, 1) := by decide +kernel
theorem dX12_about_182 : decode cX12_about 182 = .ok (.iadd, 1) := by decide +kernel
theorem dX12_about_183 : decode cX12_about 183 = .ok (.istore 4, 2) := by decide +kernel
theorem dX12_about_185 : decode cX12_about 185 = .ok (.iinc 5 1, 3) := by decide +kernel
theorem dX12_about_188 : decode cX12_about 188 = .ok (.goto (-32), 3) := by decide +kernel
theorem dX12_about_191 : decode cX12_about 191 = .ok (.iload 4, 2) := by decide +kernel
theorem dX12_about_193 : decode cX12_about 193 = .ok (.ireturn, 1) := by decide +kernel
theorem dX12_about_194 : decode cX12_about 194 = .ok (.iconst (-1), 1) := by decide +kernel
theorem dX12_about_195 : decode cX12_about 195 = .ok (.ireturn, 1) := by decide +kernel
theorem dX12_button_0 : decode cX12_button 0 = .ok (.aload_n 0, 1) := by decide +kernel
theorem dX12_button_1 : decode cX12_button 1 = .ok (.iconst 0, 1) := by decide +kernel
theorem dX12_button_2 : decode cX12_button 2 = .ok (.putfield 1, 3) := by decide +kernel
theorem dX12_button_5 : decode cX12_button 5 = .ok (.aload_n 0, 1) := by decide +kernel
theorem dX12_button_6 : decode cX12_button 6 = .ok (.iload_n 1, 1) := by decide +kernel
theorem dX12_button_7 : decode cX12_button 7 = .ok (.invokevirtual 340, 3) := by decide +kernel
theorem dX12_button_10 : decode cX12_button 10 = .ok (.ifCond .eq 20, 3) := by decide +kernel
theorem dX12_button_13 : decode cX12_button 13 = .ok (.iload_n 2, 1) := by decide +kernel
theorem dX12_button_14 : decode cX12_button 14 = .ok (.ifCond .lt 16, 3) := by decide +kernel
theorem dX12_button_17 : decode cX12_button 17 = .ok (.iload_n 2, 1) := by decide +kernel
theorem dX12_button_18 : decode cX12_button 18 = .ok (.aload_n 0, 1) := by decide +kernel
theorem dX12_button_19 : decode cX12_button 19 = .ok (.getfield 21, 3) := by decide +kernel
theorem dX12_button_22 : decode cX12_button 22 = .ok (.iload_n 1, 1) := by decide +kernel
theorem dX12_button_23 : decode cX12_button 23 = .ok (.aaload, 1) := by decide +kernel
theorem dX12_button_24 : decode cX12_button 24 = .ok (.getfield 208, 3) := by decide +kernel
theorem dX12_button_27 : decode cX12_button 27 = .ok (.if_icmp .lt 5, 3) := by decide +kernel
theorem dX12_button_30 : decode cX12_button 30 = .ok (.iconst (-1), 1) := by decide +kernel
theorem dX12_button_31 : decode cX12_button 31 = .ok (.ireturn, 1) := by decide +kernel
theorem dX12_button_32 : decode cX12_button 32 = .ok (.aload_n 0, 1) := by decide +kernel
theorem dX12_button_33 : decode cX12_button 33 = .ok (.getfield 21, 3) := by decide +kernel
theorem dX12_button_36 : decode cX12_button 36 = .ok (.iload_n 1, 1) := by decide +kernel
theorem dX12_button_37 : decode cX12_button 37 = .ok (.aaload, 1) := by decide +kernel
theorem dX12_button_38 : decode cX12_button 38 = .ok (.astore 4, 2) := by decide +kernel
theorem dX12_button_40 : decode cX12_button 40 = .ok (.iload_n 3, 1) := by decide +kernel
theorem dX12_button_41 : decode cX12_button 41 = .ok (.ifCond .ne 13, 3) := by decide +kernel
theorem dX12_button_44 : decode cX12_button 44 = .ok (.aload 4, 2) := by decide +kernel
theorem dX12_button_46 : decode cX12_button 46 = .ok (.getfield 267, 3) := by decide +kernel
theorem dX12_button_49 : decode cX12_button 49 = .ok (.iload_n 2, 1) := by decide +kernel
theorem dX12_button_50 : decode cX12_button 50 = .ok (.iaload, 1) := by decide +kernel
theorem dX12_button_51 : decode cX12_button 51 = .ok (.goto 34, 3) := by decide +kernel
theorem dX12_button_54 : decode cX12_button 54 = .ok (.iload_n 3, 1) := by decide +kernel
theorem dX12_button_55 : decode cX12_button 55 = .ok (.iconst 1, 1) := by decide +kernel
theorem dX12_button_56 : decode cX12_button 56 = .ok (.if_icmp .ne 13, 3) := by decide +kernel
theorem dX12_button_59 : decode cX12_button 59 = .ok (.aload 4, 2) := by decide +kernel
theorem dX12_button_61 : decode cX12_button 61 = .ok (.getfield 270, 3) := by decide +kernel
theorem dX12_button_64 : decode cX12_button 64 = .ok (.iload_n 2, 1) := by decide +kernel
theorem dX12_button_65 : decode cX12_button 65 = .ok (.iaload, 1) := by decide +kernel
theorem dX12_button_66 : decode cX12_button 66 = .ok (.goto 19, 3) := by decide +kernel
theorem dX12_button_69 : decode cX12_button 69 = .ok (.iload_n 3, 1) := by decide +kernel
theorem dX12_button_70 : decode cX12_button 70 = .ok (.iconst 2, 1) := by decide +kernel
theorem dX12_button_71 : decode cX12_button 71 = .ok (.if_icmp .ne 13, 3) := by decide +kernel
theorem dX12_button_74 : decode cX12_button 74 = .ok (.aload 4, 2) := by decide +kernel
theorem dX12_button_76 : decode cX12_button 76 = .ok (.getfield 237, 3) := by decide +kernel
theorem dX12_button_79 : decode cX12_button 79 = .ok (.iload_n 2, 1) := by decide +kernel
theorem dX12_button_80 : decode cX12_button 80 = .ok (.iaload, 1) := by decide +kernel
theorem dX12_button_81 : decode cX12_button 81 = .ok (.goto 4, 3) := by decide +kernel
theorem dX12_button_84 : decode cX12_button 84 = .ok (.iconst (-1), 1) := by decide +kernel
theorem dX12_button_85 : decode cX12_button 85 = .ok (.ireturn, 1) := by decide +kernel
theorem dX12_packed_0 : decode cX12_packed 0 = .ok (.aload_n 0, 1) := by decide +kernel
theorem dX12_packed_1 : decode cX12_packed 1 = .ok (.getfield 343, 3) := by decide +kernel
theorem dX12_packed_4 : decode cX12_packed 4 = .ok (.i2l, 1) := by decide +kernel
theorem dX12_packed_5 : decode cX12_packed 5 = .ok (.lstore_n 1, 1) := by decide +kernel
theorem dX12_packed_6 : decode cX12_packed 6 = .ok (.lload_n 1, 1) := by decide +kernel
theorem dX12_packed_7 : decode cX12_packed 7 = .ok (.iconst 3, 1) := by decide +kernel
theorem dX12_packed_8 : decode cX12_packed 8 = .ok (.lshl, 1) := by decide +kernel
theorem dX12_packed_9 : decode cX12_packed 9 = .ok (.aload_n 0, 1) := by decide +kernel
theorem dX12_packed_10 : decode cX12_packed 10 = .ok (.getfield 346, 3) := by decide +kernel
theorem dX12_packed_13 : decode cX12_packed 13 = .ok (.i2l, 1) := by decide +kernel
theorem dX12_packed_14 : decode cX12_packed 14 = .ok (.lor, 1) := by decide +kernel
theorem dX12_packed_15 : decode cX12_packed 15 = .ok (.lstore_n 1, 1) := by decide +kernel
theorem dX12_packed_16 : decode cX12_packed 16 = .ok (.iconst 0, 1) := by decide +kernel
theorem dX12_packed_17 : decode cX12_packed 17 = .ok (.istore_n 3, 1) := by decide +kernel
theorem dX12_packed_18 : decode cX12_packed 18 = .ok (.iload_n 3, 1) := by decide +kernel
theorem dX12_packed_19 : decode cX12_packed 19 = .ok (.iconst 5, 1) := by decide +kernel
theorem dX12_packed_20 : decode cX12_packed 20 = .ok (.if_icmp .ge 43, 3) := by decide +kernel
theorem dX12_packed_23 : decode cX12_packed 23 = .ok (.lload_n 1, 1) := by decide +kernel
theorem dX12_packed_24 : decode cX12_packed 24 = .ok (.bipush 7, 2) := by decide +kernel
theorem dX12_packed_26 : decode cX12_packed 26 = .ok (.lshl, 1) := by decide +kernel
theorem dX12_packed_27 : decode cX12_packed 27 = .ok (.iload_n 3, 1) := by decide +kernel
theorem dX12_packed_28 : decode cX12_packed 28 = .ok (.aload_n 0, 1) := by decide +kernel
theorem dX12_packed_29 : decode cX12_packed 29 = .ok (.getfield 346, 3) := by decide +kernel
theorem dX12_packed_32 : decode cX12_packed 32 = .ok (.if_icmp .ge 21, 3) := by decide +kernel
theorem dX12_packed_35 : decode cX12_packed 35 = .ok (.aload_n 0, 1) := by decide +kernel
theorem dX12_packed_36 : decode cX12_packed 36 = .ok (.getfield 52, 3) := by decide +kernel
theorem dX12_packed_39 : decode cX12_packed 39 = .ok (.iload_n 3, 1) := by decide +kernel
theorem dX12_packed_40 : decode cX12_packed 40 = .ok (.iaload, 1) := by decide +kernel
theorem dX12_packed_41 : decode cX12_packed 41 = .ok (.iconst 4, 1) := by decide +kernel
theorem dX12_packed_42 : decode cX12_packed 42 = .ok (.ishl, 1) := by decide +kernel
theorem dX12_packed_43 : decode cX12_packed 43 = .ok (.aload_n 0, 1) := by decide +kernel
theorem dX12_packed_44 : decode cX12_packed 44 = .ok (.getfield 56, 3) := by decide +kernel
theorem dX12_packed_47 : decode cX12_packed 47 = .ok (.iload_n 3, 1) := by decide +kernel
theorem dX12_packed_48 : decode cX12_packed 48 = .ok (.iaload, 1) := by decide +kernel
theorem dX12_packed_49 : decode cX12_packed 49 = .ok (.ior, 1) := by decide +kernel
theorem dX12_packed_50 : decode cX12_packed 50 = .ok (.goto 4, 3) := by decide +kernel
theorem dX12_packed_53 : decode cX12_packed 53 = .ok (.iconst 0, 1) := by decide +kernel
theorem dX12_packed_54 : decode cX12_packed 54 = .ok (.i2l, 1) := by decide +kernel
theorem dX12_packed_55 : decode cX12_packed 55 = .ok (.lor, 1) := by decide +kernel
theorem dX12_packed_56 : decode cX12_packed 56 = .ok (.lstore_n 1, 1) := by decide +kernel
theorem dX12_packed_57 : decode cX12_packed 57 = .ok (.iinc 3 1, 3) := by decide +kernel
theorem dX12_packed_60 : decode cX12_packed 60 = .ok (.goto (-42), 3) := by decide +kernel
theorem dX12_packed_63 : decode cX12_packed 63 = .ok (.lload_n 1, 1) := by decide +kernel
theorem dX12_packed_64 : decode cX12_packed 64 = .ok (.lreturn, 1) := by decide +kernel
theorem dX12_packedVars_0 : decode cX12_packedVars 0 = .ok (.lconst 0, 1) := by decide +kernel
theorem dX12_packedVars_1 : decode cX12_packedVars 1 = .ok (.lstore_n 1, 1) := by decide +kernel
theorem dX12_packedVars_2 : decode cX12_packedVars 2 = .ok (.iconst 0, 1) := by decide +kernel
theorem dX12_packedVars_3 : decode cX12_packedVars 3 = .ok (.istore_n 3, 1) := by decide +kernel
theorem dX12_packedVars_4 : decode cX12_packedVars 4 = .ok (.iload_n 3, 1) := by decide +kernel
theorem dX12_packedVars_5 : decode cX12_packedVars 5 = .ok (.bipush 6, 2) := by decide +kernel
theorem dX12_packedVars_7 : decode cX12_packedVars 7 = .ok (.if_icmp .ge 21, 3) := by decide +kernel
theorem dX12_packedVars_10 : decode cX12_packedVars 10 = .ok (.lload_n 1, 1) := by decide +kernel
theorem dX12_packedVars_11 : decode cX12_packedVars 11 = .ok (.iconst 4, 1) := by decide +kernel
theorem dX12_packedVars_12 : decode cX12_packedVars 12 = .ok (.lshl, 1) := by decide +kernel
theorem dX12_packedVars_13 : decode cX12_packedVars 13 = .ok (.aload_n 0, 1) := by decide +kernel
theorem dX12_packedVars_14 : decode cX12_packedVars 14 = .ok (.getfield 59, 3) := by decide +kernel
theorem dX12_packedVars_17 : decode cX12_packedVars 17 = .ok (.iload_n 3, 1) := by decide +kernel
theorem dX12_packedVars_18 : decode cX12_packedVars 18 = .ok (.iaload, 1) := by decide +kernel
theorem dX12_packedVars_19 : decode cX12_packedVars 19 = .ok (.i2l, 1) := by decide +kernel
theorem dX12_packedVars_20 : decode cX12_packedVars 20 = .ok (.lor, 1) := by decide +kernel
theorem dX12_packedVars_21 : decode cX12_packedVars 21 = .ok (.lstore_n 1, 1) := by decide +kernel
theorem dX12_packedVars_22 : decode cX12_packedVars 22 = .ok (.iinc 3 1, 3) := by decide +kernel
theorem dX12_packedVars_25 : decode cX12_packedVars 25 = .ok (.goto (-21), 3) := by decide +kernel
theorem dX12_packedVars_28 : decode cX12_packedVars 28 = .ok (.lload_n 1, 1) := by decide +kernel
theorem dX12_packedVars_29 : decode cX12_packedVars 29 = .ok (.lreturn, 1) := by decide +kernel
theorem dX12_unpack_0 : decode cX12_unpack 0 = .ok (.aload_n 0, 1) := by decide +kernel
theorem dX12_unpack_1 : decode cX12_unpack 1 = .ok (.lload_n 1, 1) := by decide +kernel
theorem dX12_unpack_2 : decode cX12_unpack 2 = .ok (.bipush 38, 2) := by decide +kernel
theorem dX12_unpack_4 : decode cX12_unpack 4 = .ok (.lshr, 1) := by decide +kernel
theorem dX12_unpack_5 : decode cX12_unpack 5 = .ok (.l2i, 1) := by decide +kernel
theorem dX12_unpack_6 : decode cX12_unpack 6 = .ok (.putfield 343, 3) := by decide +kernel
theorem dX12_unpack_9 : decode cX12_unpack 9 = .ok (.aload_n 0, 1) := by decide +kernel
theorem dX12_unpack_10 : decode cX12_unpack 10 = .ok (.lload_n 1, 1) := by decide +kernel
theorem dX12_unpack_11 : decode cX12_unpack 11 = .ok (.bipush 35, 2) := by decide +kernel
theorem dX12_unpack_13 : decode cX12_unpack 13 = .ok (.lshr, 1) := by decide +kernel
theorem dX12_unpack_14 : decode cX12_unpack 14 = .ok (.ldc2_w 348, 3) := by decide +kernel
theorem dX12_unpack_17 : decode cX12_unpack 17 = .ok (.land, 1) := by decide +kernel
theorem dX12_unpack_18 : decode cX12_unpack 18 = .ok (.l2i, 1) := by decide +kernel
theorem dX12_unpack_19 : decode cX12_unpack 19 = .ok (.putfield 346, 3) := by decide +kernel
theorem dX12_unpack_22 : decode cX12_unpack 22 = .ok (.iconst 0, 1) := by decide +kernel
theorem dX12_unpack_23 : decode cX12_unpack 23 = .ok (.istore 5, 2) := by decide +kernel
theorem dX12_unpack_25 : decode cX12_unpack 25 = .ok (.iload 5, 2) := by decide +kernel
theorem dX12_unpack_27 : decode cX12_unpack 27 = .ok (.iconst 5, 1) := by decide +kernel
theorem dX12_unpack_28 : decode cX12_unpack 28 = .ok (.if_icmp .ge 48, 3) := by decide +kernel
theorem dX12_unpack_31 : decode cX12_unpack 31 = .ok (.lload_n 1, 1) := by decide +kernel
theorem dX12_unpack_32 : decode cX12_unpack 32 = .ok (.bipush 7, 2) := by decide +kernel
theorem dX12_unpack_34 : decode cX12_unpack 34 = .ok (.iconst 4, 1) := by decide +kernel
theorem dX12_unpack_35 : decode cX12_unpack 35 = .ok (.iload 5, 2) := by decide +kernel
theorem dX12_unpack_37 : decode cX12_unpack 37 = .ok (.isub, 1) := by decide +kernel
theorem dX12_unpack_38 : decode cX12_unpack 38 = .ok (.imul, 1) := by decide +kernel
theorem dX12_unpack_39 : decode cX12_unpack 39 = .ok (.lshr, 1) := by decide +kernel
theorem dX12_unpack_40 : decode cX12_unpack 40 = .ok (.ldc2_w 350, 3) := by decide +kernel
theorem dX12_unpack_43 : decode cX12_unpack 43 = .ok (.land, 1) := by decide +kernel
theorem dX12_unpack_44 : decode cX12_unpack 44 = .ok (.l2i, 1) := by decide +kernel
theorem dX12_unpack_45 : decode cX12_unpack 45 = .ok (.istore 6, 2) := by decide +kernel
theorem dX12_unpack_47 : decode cX12_unpack 47 = .ok (.aload_n 0, 1) := by decide +kernel
theorem dX12_unpack_48 : decode cX12_unpack 48 = .ok (.getfield 52, 3) := by decide +kernel
theorem dX12_unpack_51 : decode cX12_unpack 51 = .ok (.iload 5, 2) := by decide +kernel
theorem dX12_unpack_53 : decode cX12_unpack 53 = .ok (.iload 6, 2) := by decide +kernel
theorem dX12_unpack_55 : decode cX12_unpack 55 = .ok (.iconst 4, 1) := by decide +kernel
theorem dX12_unpack_56 : decode cX12_unpack 56 = .ok (.ishr, 1) := by decide +kernel
theorem dX12_unpack_57 : decode cX12_unpack 57 = .ok (.iastore, 1) := by decide +kernel
theorem dX12_unpack_58 : decode cX12_unpack 58 = .ok (.aload_n 0, 1) := by decide +kernel
theorem dX12_unpack_59 : decode cX12_unpack 59 = .ok (.getfield 56, 3) := by decide +kernel
theorem dX12_unpack_62 : decode cX12_unpack 62 = .ok (.iload 5, 2) := by decide +kernel
theorem dX12_unpack_64 : decode cX12_unpack 64 = .ok (.iload 6, 2) := by decide +kernel
theorem dX12_unpack_66 : decode cX12_unpack 66 = .ok (.bipush 15, 2) := by decide +kernel
theorem dX12_unpack_68 : decode cX12_unpack 68 = .ok (.iand, 1) := by decide +kernel
theorem dX12_unpack_69 : decode cX12_unpack 69 = .ok (.iastore, 1) := by decide +kernel
theorem dX12_unpack_70 : decode cX12_unpack 70 = .ok (.iinc 5 1, 3) := by decide +kernel
theorem dX12_unpack_73 : decode cX12_unpack 73 = .ok (.goto (-48), 3) := by decide +kernel
theorem dX12_unpack_76 : decode cX12_unpack 76 = .ok (.iconst 0, 1) := by decide +kernel
theorem dX12_unpack_77 : decode cX12_unpack 77 = .ok (.istore 5, 2) := by decide +kernel
theorem dX12_unpack_79 : decode cX12_unpack 79 = .ok (.iload 5, 2) := by decide +kernel
theorem dX12_unpack_81 : decode cX12_unpack 81 = .ok (.bipush 6, 2) := by decide +kernel
theorem dX12_unpack_83 : decode cX12_unpack 83 = .ok (.if_icmp .ge 29, 3) := by decide +kernel
theorem dX12_unpack_86 : decode cX12_unpack 86 = .ok (.aload_n 0, 1) := by decide +kernel
theorem dX12_unpack_87 : decode cX12_unpack 87 = .ok (.getfield 59, 3) := by decide +kernel
theorem dX12_unpack_90 : decode cX12_unpack 90 = .ok (.iload 5, 2) := by decide +kernel
theorem dX12_unpack_92 : decode cX12_unpack 92 = .ok (.lload_n 3, 1) := by decide +kernel
theorem dX12_unpack_93 : decode cX12_unpack 93 = .ok (.iconst 4, 1) := by decide +kernel
theorem dX12_unpack_94 : decode cX12_unpack 94 = .ok (.iconst 5, 1) := by decide +kernel
theorem dX12_unpack_95 : decode cX12_unpack 95 = .ok (.iload 5, 2) := by decide +kernel
theorem dX12_unpack_97 : decode cX12_unpack 97 = .ok (.isub, 1) := by decide +kernel
theorem dX12_unpack_98 : decode cX12_unpack 98 = .ok (.imul, 1) := by decide +kernel
theorem dX12_unpack_99 : decode cX12_unpack 99 = .ok (.lshr, 1) := by decide +kernel
theorem dX12_unpack_100 : decode cX12_unpack 100 = .ok (.ldc2_w 352, 3) := by decide +kernel
theorem dX12_unpack_103 : decode cX12_unpack 103 = .ok (.land, 1) := by decide +kernel
theorem dX12_unpack_104 : decode cX12_unpack 104 = .ok (.l2i, 1) := by decide +kernel
theorem dX12_unpack_105 : decode cX12_unpack 105 = .ok (.iastore, 1) := by decide +kernel
theorem dX12_unpack_106 : decode cX12_unpack 106 = .ok (.iinc 5 1, 3) := by decide +kernel
theorem dX12_unpack_109 : decode cX12_unpack 109 = .ok (.goto (-30), 3) := by decide +kernel
theorem dX12_unpack_112 : decode cX12_unpack 112 = .ok (.return_, 1) := by decide +kernel
theorem dX12_begins_0 : decode cX12_begins 0 = .ok (.aload_n 0, 1) := by decide +kernel
theorem dX12_begins_1 : decode cX12_begins 1 = .ok (.iconst 0, 1) := by decide +kernel
theorem dX12_begins_2 : decode cX12_begins 2 = .ok (.putfield 343, 3) := by decide +kernel
theorem dX12_begins_5 : decode cX12_begins 5 = .ok (.aload_n 0, 1) := by decide +kernel
theorem dX12_begins_6 : decode cX12_begins 6 = .ok (.iconst 1, 1) := by decide +kernel
theorem dX12_begins_7 : decode cX12_begins 7 = .ok (.putfield 346, 3) := by decide +kernel
theorem dX12_begins_10 : decode cX12_begins 10 = .ok (.aload_n 0, 1) := by decide +kernel
theorem dX12_begins_11 : decode cX12_begins 11 = .ok (.getfield 52, 3) := by decide +kernel
theorem dX12_begins_14 : decode cX12_begins 14 = .ok (.iconst 0, 1) := by decide +kernel
theorem dX12_begins_15 : decode cX12_begins 15 = .ok (.iconst 0, 1) := by decide +kernel
theorem dX12_begins_16 : decode cX12_begins 16 = .ok (.iastore, 1) := by decide +kernel
theorem dX12_begins_17 : decode cX12_begins 17 = .ok (.aload_n 0, 1) := by decide +kernel
theorem dX12_begins_18 : decode cX12_begins 18 = .ok (.getfield 56, 3) := by decide +kernel
theorem dX12_begins_21 : decode cX12_begins 21 = .ok (.iconst 0, 1) := by decide +kernel
theorem dX12_begins_22 : decode cX12_begins 22 = .ok (.iconst 0, 1) := by decide +kernel
theorem dX12_begins_23 : decode cX12_begins 23 = .ok (.iastore, 1) := by decide +kernel
theorem dX12_begins_24 : decode cX12_begins 24 = .ok (.iconst 0, 1) := by decide +kernel
theorem dX12_begins_25 : decode cX12_begins 25 = .ok (.istore_n 1, 1) := by decide +kernel
theorem dX12_begins_26 : decode cX12_begins 26 = .ok (.iload_n 1, 1) := by decide +kernel
theorem dX12_begins_27 : decode cX12_begins 27 = .ok (.bipush 6, 2) := by decide +kernel
theorem dX12_begins_29 : decode cX12_begins 29 = .ok (.if_icmp .ge 16, 3) := by decide +kernel
theorem dX12_begins_32 : decode cX12_begins 32 = .ok (.aload_n 0, 1) := by decide +kernel
theorem dX12_begins_33 : decode cX12_begins 33 = .ok (.getfield 59, 3) := by decide +kernel
theorem dX12_begins_36 : decode cX12_begins 36 = .ok (.iload_n 1, 1) := by decide +kernel
theorem dX12_begins_37 : decode cX12_begins 37 = .ok (.iconst 0, 1) := by decide +kernel
theorem dX12_begins_38 : decode cX12_begins 38 = .ok (.iastore, 1) := by decide +kernel
theorem dX12_begins_39 : decode cX12_begins 39 = .ok (.iinc 1 1, 3) := by decide +kernel
theorem dX12_begins_42 : decode cX12_begins 42 = .ok (.goto (-16), 3) := by decide +kernel
theorem dX12_begins_45 : decode cX12_begins 45 = .ok (.return_, 1) := by decide +kernel
theorem dX12_pressed_0 : decode cX12_pressed 0 = .ok (.aload_n 0, 1) := by decide +kernel
theorem dX12_pressed_1 : decode cX12_pressed 1 = .ok (.getfield 343, 3) := by decide +kernel
theorem dX12_pressed_4 : decode cX12_pressed 4 = .ok (.ifCond .le 5, 3) := by decide +kernel
theorem dX12_pressed_7 : decode cX12_pressed 7 = .ok (.iconst 0, 1) := by decide +kernel
theorem dX12_pressed_8 : decode cX12_pressed 8 = .ok (.ireturn, 1) := by decide +kernel
theorem dX12_pressed_9 : decode cX12_pressed 9 = .ok (.iconst 0, 1) := by decide +kernel
theorem dX12_pressed_10 : decode cX12_pressed 10 = .ok (.istore_n 2, 1) := by decide +kernel
theorem dX12_pressed_11 : decode cX12_pressed 11 = .ok (.iconst 0, 1) := by decide +kernel
theorem dX12_pressed_12 : decode cX12_pressed 12 = .ok (.istore_n 3, 1) := by decide +kernel
theorem dX12_pressed_13 : decode cX12_pressed 13 = .ok (.iload_n 3, 1) := by decide +kernel
theorem dX12_pressed_14 : decode cX12_pressed 14 = .ok (.aload_n 1, 1) := by decide +kernel
theorem dX12_pressed_15 : decode cX12_pressed 15 = .ok (.getfield 208, 3) := by decide +kernel
theorem dX12_pressed_18 : decode cX12_pressed 18 = .ok (.if_icmp .ge 163, 3) := by decide +kernel
theorem dX12_pressed_21 : decode cX12_pressed 21 = .ok (.aload_n 1, 1) := by decide +kernel
theorem dX12_pressed_22 : decode cX12_pressed 22 = .ok (.getfield 267, 3) := by decide +kernel
theorem dX12_pressed_25 : decode cX12_pressed 25 = .ok (.iload_n 3, 1) := by decide +kernel
theorem dX12_pressed_26 : decode cX12_pressed 26 = .ok (.iaload, 1) := by decide +kernel
theorem dX12_pressed_27 : decode cX12_pressed 27 = .ok (.aload_n 0, 1) := by decide +kernel
theorem dX12_pressed_28 : decode cX12_pressed 28 = .ok (.getfield 52, 3) := by decide +kernel
theorem dX12_pressed_31 : decode cX12_pressed 31 = .ok (.aload_n 0, 1) := by decide +kernel
theorem dX12_pressed_32 : decode cX12_pressed 32 = .ok (.getfield 346, 3) := by decide +kernel
theorem dX12_pressed_35 : decode cX12_pressed 35 = .ok (.iconst 1, 1) := by decide +kernel
theorem dX12_pressed_36 : decode cX12_pressed 36 = .ok (.isub, 1) := by decide +kernel
theorem dX12_pressed_37 : decode cX12_pressed 37 = .ok (.iaload, 1) := by decide +kernel
theorem dX12_pressed_38 : decode cX12_pressed 38 = .ok (.if_icmp .ne 7, 3) := by decide +kernel
theorem dX12_pressed_41 : decode cX12_pressed 41 = .ok (.iconst 1, 1) := by decide +kernel
theorem dX12_pressed_42 : decode cX12_pressed 42 = .ok (.goto 4, 3) := by decide +kernel
theorem dX12_pressed_45 : decode cX12_pressed 45 = .ok (.iconst 0, 1) := by decide +kernel
theorem dX12_pressed_46 : decode cX12_pressed 46 = .ok (.istore 4, 2) := by decide +kernel
theorem dX12_pressed_48 : decode cX12_pressed 48 = .ok (.iconst 3, 1) := by decide +kernel
theorem dX12_pressed_49 : decode cX12_pressed 49 = .ok (.iload_n 3, 1) := by decide +kernel
theorem dX12_pressed_50 : decode cX12_pressed 50 = .ok (.imul, 1) := by decide +kernel
theorem dX12_pressed_51 : decode cX12_pressed 51 = .ok (.istore 5, 2) := by decide +kernel
theorem dX12_pressed_53 : decode cX12_pressed 53 = .ok (.iload 5, 2) := by decide +kernel
theorem dX12_pressed_55 : decode cX12_pressed 55 = .ok (.iconst 3, 1) := by decide +kernel
theorem dX12_pressed_56 : decode cX12_pressed 56 = .ok (.iload_n 3, 1) := by decide +kernel
theorem dX12_pressed_57 : decode cX12_pressed 57 = .ok (.imul, 1) := by decide +kernel
theorem dX12_pressed_58 : decode cX12_pressed 58 = .ok (.aload_n 1, 1) := by decide +kernel
theorem dX12_pressed_59 : decode cX12_pressed 59 = .ok (.getfield 270, 3) := by decide +kernel
theorem dX12_pressed_62 : decode cX12_pressed 62 = .ok (.iload_n 3, 1) := by decide +kernel
theorem dX12_pressed_63 : decode cX12_pressed 63 = .ok (.iaload, 1) := by decide +kernel
theorem dX12_pressed_64 : decode cX12_pressed 64 = .ok (.iadd, 1) := by decide +kernel
theorem dX12_pressed_65 : decode cX12_pressed 65 = .ok (.if_icmp .ge 95, 3) := by decide +kernel
theorem dX12_pressed_68 : decode cX12_pressed 68 = .ok (.aload_n 0, 1) := by decide +kernel
theorem dX12_pressed_69 : decode cX12_pressed 69 = .ok (.getfield 59, 3) := by decide +kernel
theorem dX12_pressed_72 : decode cX12_pressed 72 = .ok (.aload_n 1, 1) := by decide +kernel
theorem dX12_pressed_73 : decode cX12_pressed 73 = .ok (.getfield 291, 3) := by decide +kernel
theorem dX12_pressed_76 : decode cX12_pressed 76 = .ok (.iload 5, 2) := by decide +kernel
theorem dX12_pressed_78 : decode cX12_pressed 78 = .ok (.iaload, 1) := by decide +kernel
theorem dX12_pressed_79 : decode cX12_pressed 79 = .ok (.iaload, 1) := by decide +kernel
theorem dX12_pressed_80 : decode cX12_pressed 80 = .ok (.istore 6, 2) := by decide +kernel
theorem dX12_pressed_82 : decode cX12_pressed 82 = .ok (.aload_n 1, 1) := by decide +kernel
theorem dX12_pressed_83 : decode cX12_pressed 83 = .ok (.getfield 297, 3) := by decide +kernel
theorem dX12_pressed_86 : decode cX12_pressed 86 = .ok (.iload 5, 2) := by decide +kernel
theorem dX12_pressed_88 : decode cX12_pressed 88 = .ok (.iaload, 1) := by decide +kernel
theorem dX12_pressed_89 : decode cX12_pressed 89 = .ok (.istore 7, 2) := by decide +kernel
theorem dX12_pressed_91 : decode cX12_pressed 91 = .ok (.iload 4, 2) := by decide +kernel
theorem dX12_pressed_93 : decode cX12_pressed 93 = .ok (.ifCond .eq 58, 3) := by decide +kernel
theorem dX12_pressed_96 : decode cX12_pressed 96 = .ok (.aload_n 1, 1) := by decide +kernel
theorem dX12_pressed_97 : decode cX12_pressed 97 = .ok (.getfield 294, 3) := by decide +kernel
theorem dX12_pressed_100 : decode cX12_pressed 100 = .ok (.iload 5, 2) := by decide +kernel
theorem dX12_pressed_102 : decode cX12_pressed 102 = .ok (.iaload, 1) := by decide +kernel
theorem dX12_pressed_103 : decode cX12_pressed 103 = .ok (.bipush 61, 2) := by decide +kernel
theorem dX12_pressed_105 : decode cX12_pressed 105 = .ok (.if_icmp .ne 13, 3) := by decide +kernel
theorem dX12_pressed_108 : decode cX12_pressed 108 = .ok (.iload 6, 2) := by decide +kernel
theorem dX12_pressed_110 : decode cX12_pressed 110 = .ok (.iload 7, 2) := by decide +kernel
theorem dX12_pressed_112 : decode cX12_pressed 112 = .ok (.if_icmp .ne 39, 3) := by decide +kernel
theorem dX12_pressed_115 : decode cX12_pressed 115 = .ok (.goto 32, 3) := by decide +kernel
theorem dX12_pressed_118 : decode cX12_pressed 118 = .ok (.aload_n 1, 1) := by decide +kernel
theorem dX12_pressed_119 : decode cX12_pressed 119 = .ok (.getfield 294, 3) := by decide +kernel
theorem dX12_pressed_122 : decode cX12_pressed 122 = .ok (.iload 5, 2) := by decide +kernel
theorem dX12_pressed_124 : decode cX12_pressed 124 = .ok (.iaload, 1) := by decide +kernel
theorem dX12_pressed_125 : decode cX12_pressed 125 = .ok (.bipush 60, 2) := by decide +kernel
theorem dX12_pressed_127 : decode cX12_pressed 127 = .ok (.if_icmp .ne 13, 3) := by decide +kernel
theorem dX12_pressed_130 : decode cX12_pressed 130 = .ok (.iload 6, 2) := by decide +kernel
theorem dX12_pressed_132 : decode cX12_pressed 132 = .ok (.iload 7, 2) := by decide +kernel
theorem dX12_pressed_134 : decode cX12_pressed 134 = .ok (.if_icmp .ge 17, 3) := by decide +kernel
theorem dX12_pressed_137 : decode cX12_pressed 137 = .ok (.goto 10, 3) := by decide +kernel
theorem dX12_pressed_140 : decode cX12_pressed 140 = .ok (.iload 6, 2) := by decide +kernel
theorem dX12_pressed_142 : decode cX12_pressed 142 = .ok (.iload 7, 2) := by decide +kernel
theorem dX12_pressed_144 : decode cX12_pressed 144 = .ok (.if_icmp .le 7, 3) := by decide +kernel
theorem dX12_pressed_147 : decode cX12_pressed 147 = .ok (.iconst 1, 1) := by decide +kernel
theorem dX12_pressed_148 : decode cX12_pressed 148 = .ok (.goto 4, 3) := by decide +kernel
theorem dX12_pressed_151 : decode cX12_pressed 151 = .ok (.iconst 0, 1) := by decide +kernel
theorem dX12_pressed_152 : decode cX12_pressed 152 = .ok (.istore 4, 2) := by decide +kernel
theorem dX12_pressed_154 : decode cX12_pressed 154 = .ok (.iinc 5 1, 3) := by decide +kernel
theorem dX12_pressed_157 : decode cX12_pressed 157 = .ok (.goto (-104), 3) := by decide +kernel
theorem dX12_pressed_160 : decode cX12_pressed 160 = .ok (.iload_n 2, 1) := by decide +kernel
theorem dX12_pressed_161 : decode cX12_pressed 161 = .ok (.iload 4, 2) := by decide +kernel
theorem dX12_pressed_163 : decode cX12_pressed 163 = .ok (.ifCond .eq 9, 3) := by decide +kernel
theorem dX12_pressed_166 : decode cX12_pressed 166 = .ok (.iconst 1, 1) := by decide +kernel
theorem dX12_pressed_167 : decode cX12_pressed 167 = .ok (.iload_n 3, 1) := by decide +kernel
theorem dX12_pressed_168 : decode cX12_pressed 168 = .ok (.ishl, 1) := by decide +kernel
theorem dX12_pressed_169 : decode cX12_pressed 169 = .ok (.goto 4, 3) := by decide +kernel
theorem dX12_pressed_172 : decode cX12_pressed 172 = .ok (.iconst 0, 1) := by decide +kernel
theorem dX12_pressed_173 : decode cX12_pressed 173 = .ok (.ior, 1) := by decide +kernel
theorem dX12_pressed_174 : decode cX12_pressed 174 = .ok (.istore_n 2, 1) := by decide +kernel
theorem dX12_pressed_175 : decode cX12_pressed 175 = .ok (.iinc 3 1, 3) := by decide +kernel
theorem dX12_pressed_178 : decode cX12_pressed 178 = .ok (.goto (-165), 3) := by decide +kernel
theorem dX12_pressed_181 : decode cX12_pressed 181 = .ok (.iload_n 2, 1) := by decide +kernel
theorem dX12_pressed_182 : decode cX12_pressed 182 = .ok (.ireturn, 1) := by decide +kernel
theorem dX12_possible_0 : decode cX12_possible 0 = .ok (.aload_n 0, 1) := by decide +kernel
theorem dX12_possible_1 : decode cX12_possible 1 = .ok (.aload_n 1, 1) := by decide +kernel
theorem dX12_possible_2 : decode cX12_possible 2 = .ok (.invokevirtual 354, 3) := by decide +kernel
theorem dX12_possible_5 : decode cX12_possible 5 = .ok (.ldc_w 358, 3) := by decide +kernel
theorem dX12_possible_8 : decode cX12_possible 8 = .ok (.ior, 1) := by decide +kernel
theorem dX12_possible_9 : decode cX12_possible 9 = .ok (.aload_n 0, 1) := by decide +kernel
theorem dX12_possible_10 : decode cX12_possible 10 = .ok (.getfield 343, 3) := by decide +kernel
theorem dX12_possible_13 : decode cX12_possible 13 = .ok (.ifCond .le 7, 3) := by decide +kernel
theorem dX12_possible_16 : decode cX12_possible 16 = .ok (.iconst 0, 1) := by decide +kernel
theorem dX12_possible_17 : decode cX12_possible 17 = .ok (.goto 6, 3) := by decide +kernel
theorem dX12_possible_20 : decode cX12_possible 20 = .ok (.ldc_w 359, 3) := by decide +kernel
theorem dX12_possible_23 : decode cX12_possible 23 = .ok (.ior, 1) := by decide +kernel
theorem dX12_possible_24 : decode cX12_possible 24 = .ok (.aload_n 0, 1) := by decide +kernel
theorem dX12_possible_25 : decode cX12_possible 25 = .ok (.getfield 343, 3) := by decide +kernel
theorem dX12_possible_28 : decode cX12_possible 28 = .ok (.ifCond .gt 11, 3) := by decide +kernel
theorem dX12_possible_31 : decode cX12_possible 31 = .ok (.aload_n 0, 1) := by decide +kernel
theorem dX12_possible_32 : decode cX12_possible 32 = .ok (.getfield 346, 3) := by decide +kernel
theorem dX12_possible_35 : decode cX12_possible 35 = .ok (.iconst 2, 1) := by decide +kernel
theorem dX12_possible_36 : decode cX12_possible 36 = .ok (.if_icmp .ge 7, 3) := by decide +kernel
theorem dX12_possible_39 : decode cX12_possible 39 = .ok (.iconst 0, 1) := by decide +kernel
theorem dX12_possible_40 : decode cX12_possible 40 = .ok (.goto 6, 3) := by decide +kernel
theorem dX12_possible_43 : decode cX12_possible 43 = .ok (.ldc_w 360, 3) := by decide +kernel
theorem dX12_possible_46 : decode cX12_possible 46 = .ok (.ior, 1) := by decide +kernel
theorem dX12_possible_47 : decode cX12_possible 47 = .ok (.ireturn, 1) := by decide +kernel
theorem dX12_does_0 : decode cX12_does 0 = .ok (.iconst 4, 1) := by decide +kernel
theorem dX12_does_1 : decode cX12_does 1 = .ok (.iload_n 2, 1) := by decide +kernel
theorem dX12_does_2 : decode cX12_does 2 = .ok (.imul, 1) := by decide +kernel
theorem dX12_does_3 : decode cX12_does 3 = .ok (.istore_n 3, 1) := by decide +kernel
theorem dX12_does_4 : decode cX12_does 4 = .ok (.iload_n 3, 1) := by decide +kernel
theorem dX12_does_5 : decode cX12_does 5 = .ok (.iconst 4, 1) := by decide +kernel
theorem dX12_does_6 : decode cX12_does 6 = .ok (.iload_n 2, 1) := by decide +kernel
theorem dX12_does_7 : decode cX12_does 7 = .ok (.imul, 1) := by decide +kernel
theorem dX12_does_8 : decode cX12_does 8 = .ok (.aload_n 1, 1) := by decide +kernel
theorem dX12_does_9 : decode cX12_does 9 = .ok (.getfield 237, 3) := by decide +kernel
theorem dX12_does_12 : decode cX12_does 12 = .ok (.iload_n 2, 1) := by decide +kernel
theorem dX12_does_13 : decode cX12_does 13 = .ok (.iaload, 1) := by decide +kernel
theorem dX12_does_14 : decode cX12_does 14 = .ok (.iadd, 1) := by decide +kernel
theorem dX12_does_15 : decode cX12_does 15 = .ok (.if_icmp .ge 187, 3) := by decide +kernel
theorem dX12_does_18 : decode cX12_does 18 = .ok (.aload_n 0, 1) := by decide +kernel
theorem dX12_does_19 : decode cX12_does 19 = .ok (.getfield 343, 3) := by decide +kernel
theorem dX12_does_22 : decode cX12_does 22 = .ok (.ifCond .ne 180, 3) := by decide +kernel
theorem dX12_does_25 : decode cX12_does 25 = .ok (.aload_n 1, 1) := by decide +kernel
theorem dX12_does_26 : decode cX12_does 26 = .ok (.getfield 243, 3) := by decide +kernel
theorem dX12_does_29 : decode cX12_does 29 = .ok (.iload_n 3, 1) := by decide +kernel
theorem dX12_does_30 : decode cX12_does 30 = .ok (.iaload, 1) := by decide +kernel
theorem dX12_does_31 : decode cX12_does 31 = .ok (.istore 4, 2) := by decide +kernel
theorem dX12_does_33 : decode cX12_does 33 = .ok (.aload_n 1, 1) := by decide +kernel
theorem dX12_does_34 : decode cX12_does 34 = .ok (.getfield 240, 3) := by decide +kernel
theorem dX12_does_37 : decode cX12_does 37 = .ok (.iload_n 3, 1) := by decide +kernel
theorem dX12_does_38 : decode cX12_does 38 = .ok (.iaload, 1) := by decide +kernel
theorem dX12_does_39 : decode cX12_does 39 = .ok (.tableswitch 141 0 3 #[29, 74, 91, 107], 29) := by decide +kernel
theorem dX12_does_68 : decode cX12_does 68 = .ok (.aload_n 0, 1) := by decide +kernel
theorem dX12_does_69 : decode cX12_does 69 = .ok (.getfield 346, 3) := by decide +kernel
theorem dX12_does_72 : decode cX12_does 72 = .ok (.iconst 5, 1) := by decide +kernel
theorem dX12_does_73 : decode cX12_does 73 = .ok (.if_icmp .ne 6, 3) := by decide +kernel
theorem dX12_does_76 : decode cX12_does 76 = .ok (.goto 120, 3) := by decide +kernel
theorem dX12_does_79 : decode cX12_does 79 = .ok (.aload_n 0, 1) := by decide +kernel
theorem dX12_does_80 : decode cX12_does 80 = .ok (.getfield 52, 3) := by decide +kernel
theorem dX12_does_83 : decode cX12_does 83 = .ok (.aload_n 0, 1) := by decide +kernel
theorem dX12_does_84 : decode cX12_does 84 = .ok (.getfield 346, 3) := by decide +kernel
theorem dX12_does_87 : decode cX12_does 87 = .ok (.iload 4, 2) := by decide +kernel
theorem dX12_does_89 : decode cX12_does 89 = .ok (.iastore, 1) := by decide +kernel
theorem dX12_does_90 : decode cX12_does 90 = .ok (.aload_n 0, 1) := by decide +kernel
theorem dX12_does_91 : decode cX12_does 91 = .ok (.getfield 56, 3) := by decide +kernel
theorem dX12_does_94 : decode cX12_does 94 = .ok (.aload_n 0, 1) := by decide +kernel
theorem dX12_does_95 : decode cX12_does 95 = .ok (.getfield 346, 3) := by decide +kernel
theorem dX12_does_98 : decode cX12_does 98 = .ok (.iconst 0, 1) := by decide +kernel
theorem dX12_does_99 : decode cX12_does 99 = .ok (.iastore, 1) := by decide +kernel
theorem dX12_does_100 : decode cX12_does 100 = .ok (.aload_n 0, 1) := by decide +kernel
theorem dX12_does_101 : decode cX12_does 101 = .ok (.dup, 1) := by decide +kernel
theorem dX12_does_102 : decode cX12_does 102 = .ok (.getfield 346, 3) := by decide +kernel
theorem dX12_does_105 : decode cX12_does 105 = .ok (.iconst 1, 1) := by decide +kernel
theorem dX12_does_106 : decode cX12_does 106 = .ok (.iadd, 1) := by decide +kernel
theorem dX12_does_107 : decode cX12_does 107 = .ok (.putfield 346, 3) := by decide +kernel
theorem dX12_does_110 : decode cX12_does 110 = .ok (.goto 86, 3) := by decide +kernel
theorem dX12_does_113 : decode cX12_does 113 = .ok (.aload_n 0, 1) := by decide +kernel
theorem dX12_does_114 : decode cX12_does 114 = .ok (.iconst 1, 1) := by decide +kernel
theorem dX12_does_115 : decode cX12_does 115 = .ok (.aload_n 0, 1) := by decide +kernel
theorem dX12_does_116 : decode cX12_does 116 = .ok (.getfield 346, 3) := by decide +kernel
theorem dX12_does_119 : decode cX12_does 119 = .ok (.iconst 1, 1) := by decide +kernel
theorem dX12_does_120 : decode cX12_does 120 = .ok (.isub, 1) := by decide +kernel
theorem dX12_does_121 : decode cX12_does 121 = .ok (.invokestatic 361, 3) := by decide +kernel
theorem dX12_does_124 : decode cX12_does 124 = .ok (.putfield 346, 3) := by decide +kernel
theorem dX12_does_127 : decode cX12_does 127 = .ok (.goto 69, 3) := by decide +kernel
theorem dX12_does_130 : decode cX12_does 130 = .ok (.aload_n 0, 1) := by decide +kernel
theorem dX12_does_131 : decode cX12_does 131 = .ok (.getfield 59, 3) := by decide +kernel
theorem dX12_does_134 : decode cX12_does 134 = .ok (.iload 4, 2) := by decide +kernel
theorem dX12_does_136 : decode cX12_does 136 = .ok (.aload_n 1, 1) := by decide +kernel
theorem dX12_does_137 : decode cX12_does 137 = .ok (.getfield 310, 3) := by decide +kernel
theorem dX12_does_140 : decode cX12_does 140 = .ok (.iload_n 3, 1) := by decide +kernel
theorem dX12_does_141 : decode cX12_does 141 = .ok (.iaload, 1) := by decide +kernel
theorem dX12_does_142 : decode cX12_does 142 = .ok (.iastore, 1) := by decide +kernel
theorem dX12_does_143 : decode cX12_does 143 = .ok (.goto 53, 3) := by decide +kernel
theorem dX12_does_146 : decode cX12_does 146 = .ok (.aload_n 0, 1) := by decide +kernel
theorem dX12_does_147 : decode cX12_does 147 = .ok (.getfield 59, 3) := by decide +kernel
theorem dX12_does_150 : decode cX12_does 150 = .ok (.iload 4, 2) := by decide +kernel
theorem dX12_does_152 : decode cX12_does 152 = .ok (.aload_n 0, 1) := by decide +kernel
theorem dX12_does_153 : decode cX12_does 153 = .ok (.getfield 59, 3) := by decide +kernel
theorem dX12_does_156 : decode cX12_does 156 = .ok (.iload 4, 2) := by decide +kernel
theorem dX12_does_158 : decode cX12_does 158 = .ok (.iaload, 1) := by decide +kernel
theorem dX12_does_159 : decode cX12_does 159 = .ok (.aload_n 1, 1) := by decide +kernel
theorem dX12_does_160 : decode cX12_does 160 = .ok (.getfield 310, 3) := by decide +kernel
theorem dX12_does_163 : decode cX12_does 163 = .ok (.iload_n 3, 1) := by decide +kernel
theorem dX12_does_164 : decode cX12_does 164 = .ok (.iaload, 1) := by decide +kernel
theorem dX12_does_165 : decode cX12_does 165 = .ok (.iadd, 1) := by decide +kernel
theorem dX12_does_166 : decode cX12_does 166 = .ok (.aload_n 1, 1) := by decide +kernel
theorem dX12_does_167 : decode cX12_does 167 = .ok (.getfield 216, 3) := by decide +kernel
theorem dX12_does_170 : decode cX12_does 170 = .ok (.iload 4, 2) := by decide +kernel
theorem dX12_does_172 : decode cX12_does 172 = .ok (.iaload, 1) := by decide +kernel
theorem dX12_does_173 : decode cX12_does 173 = .ok (.iconst 1, 1) := by decide +kernel
theorem dX12_does_174 : decode cX12_does 174 = .ok (.iadd, 1) := by decide +kernel
theorem dX12_does_175 : decode cX12_does 175 = .ok (.irem, 1) := by decide +kernel
theorem dX12_does_176 : decode cX12_does 176 = .ok (.iastore, 1) := by decide +kernel
theorem dX12_does_177 : decode cX12_does 177 = .ok (.goto 19, 3) := by decide +kernel
theorem dX12_does_180 : decode cX12_does 180 = .ok (.aload_n 0, 1) := by decide +kernel
theorem dX12_does_181 : decode cX12_does 181 = .ok (.iload 4, 2) := by decide +kernel
theorem dX12_does_183 : decode cX12_does 183 = .ok (.putfield 343, 3) := by decide +kernel
theorem dX12_does_186 : decode cX12_does 186 = .ok (.aload_n 0, 1) := by decide +kernel
theorem dX12_does_187 : decode cX12_does 187 = .ok (.iconst 0, 1) := by decide +kernel
theorem dX12_does_188 : decode cX12_does 188 = .ok (.putfield 346, 3) := by decide +kernel
theorem dX12_does_191 : decode cX12_does 191 = .ok (.aload_n 0, 1) := by decide +kernel
theorem dX12_does_192 : decode cX12_does 192 = .ok (.aload_n 1, 1) := by decide +kernel
theorem dX12_does_193 : decode cX12_does 193 = .ok (.invokevirtual 366, 3) := by decide +kernel
theorem dX12_does_196 : decode cX12_does 196 = .ok (.iinc 3 1, 3) := by decide +kernel
theorem dX12_does_199 : decode cX12_does 199 = .ok (.goto (-195), 3) := by decide +kernel
theorem dX12_does_202 : decode cX12_does 202 = .ok (.return_, 1) := by decide +kernel
theorem dX12_forgets_0 : decode cX12_forgets 0 = .ok (.iconst 0, 1) := by decide +kernel
theorem dX12_forgets_1 : decode cX12_forgets 1 = .ok (.istore_n 2, 1) := by decide +kernel
theorem dX12_forgets_2 : decode cX12_forgets 2 = .ok (.iload_n 2, 1) := by decide +kernel
theorem dX12_forgets_3 : decode cX12_forgets 3 = .ok (.bipush 6, 2) := by decide +kernel
theorem dX12_forgets_5 : decode cX12_forgets 5 = .ok (.if_icmp .ge 33, 3) := by decide +kernel
theorem dX12_forgets_8 : decode cX12_forgets 8 = .ok (.iload_n 2, 1) := by decide +kernel
theorem dX12_forgets_9 : decode cX12_forgets 9 = .ok (.aload_n 1, 1) := by decide +kernel
theorem dX12_forgets_10 : decode cX12_forgets 10 = .ok (.getfield 198, 3) := by decide +kernel
theorem dX12_forgets_13 : decode cX12_forgets 13 = .ok (.if_icmp .ge 12, 3) := by decide +kernel
theorem dX12_forgets_16 : decode cX12_forgets 16 = .ok (.aload_n 1, 1) := by decide +kernel
theorem dX12_forgets_17 : decode cX12_forgets 17 = .ok (.getfield 214, 3) := by decide +kernel
theorem dX12_forgets_20 : decode cX12_forgets 20 = .ok (.iload_n 2, 1) := by decide +kernel
theorem dX12_forgets_21 : decode cX12_forgets 21 = .ok (.baload, 1) := by decide +kernel
theorem dX12_forgets_22 : decode cX12_forgets 22 = .ok (.ifCond .ne 10, 3) := by decide +kernel
theorem dX12_forgets_25 : decode cX12_forgets 25 = .ok (.aload_n 0, 1) := by decide +kernel
theorem dX12_forgets_26 : decode cX12_forgets 26 = .ok (.getfield 59, 3) := by decide +kernel
theorem dX12_forgets_29 : decode cX12_forgets 29 = .ok (.iload_n 2, 1) := by decide +kernel
theorem dX12_forgets_30 : decode cX12_forgets 30 = .ok (.iconst 0, 1) := by decide +kernel
theorem dX12_forgets_31 : decode cX12_forgets 31 = .ok (.iastore, 1) := by decide +kernel
theorem dX12_forgets_32 : decode cX12_forgets 32 = .ok (.iinc 2 1, 3) := by decide +kernel
theorem dX12_forgets_35 : decode cX12_forgets 35 = .ok (.goto (-33), 3) := by decide +kernel
theorem dX12_forgets_38 : decode cX12_forgets 38 = .ok (.return_, 1) := by decide +kernel
theorem dX12_acts_0 : decode cX12_acts 0 = .ok (.iload_n 2, 1) := by decide +kernel
theorem dX12_acts_1 : decode cX12_acts 1 = .ok (.bipush 24, 2) := by decide +kernel
theorem dX12_acts_3 : decode cX12_acts 3 = .ok (.if_icmp .ge 12, 3) := by decide +kernel
theorem dX12_acts_6 : decode cX12_acts 6 = .ok (.aload_n 0, 1) := by decide +kernel
theorem dX12_acts_7 : decode cX12_acts 7 = .ok (.aload_n 1, 1) := by decide +kernel
theorem dX12_acts_8 : decode cX12_acts 8 = .ok (.iload_n 2, 1) := by decide +kernel
theorem dX12_acts_9 : decode cX12_acts 9 = .ok (.invokevirtual 370, 3) := by decide +kernel
theorem dX12_acts_12 : decode cX12_acts 12 = .ok (.goto 139, 3) := by decide +kernel
theorem dX12_acts_15 : decode cX12_acts 15 = .ok (.iload_n 2, 1) := by decide +kernel
theorem dX12_acts_16 : decode cX12_acts 16 = .ok (.bipush 24, 2) := by decide +kernel
theorem dX12_acts_18 : decode cX12_acts 18 = .ok (.if_icmp .ne 85, 3) := by decide +kernel
theorem dX12_acts_21 : decode cX12_acts 21 = .ok (.aload_n 0, 1) := by decide +kernel
theorem dX12_acts_22 : decode cX12_acts 22 = .ok (.getfield 52, 3) := by decide +kernel
theorem dX12_acts_25 : decode cX12_acts 25 = .ok (.aload_n 0, 1) := by decide +kernel
theorem dX12_acts_26 : decode cX12_acts 26 = .ok (.getfield 346, 3) := by decide +kernel
theorem dX12_acts_29 : decode cX12_acts 29 = .ok (.iconst 1, 1) := by decide +kernel
theorem dX12_acts_30 : decode cX12_acts 30 = .ok (.isub, 1) := by decide +kernel
theorem dX12_acts_31 : decode cX12_acts 31 = .ok (.iaload, 1) := by decide +kernel
theorem dX12_acts_32 : decode cX12_acts 32 = .ok (.istore_n 3, 1) := by decide +kernel
theorem dX12_acts_33 : decode cX12_acts 33 = .ok (.aload_n 1, 1) := by decide +kernel
theorem dX12_acts_34 : decode cX12_acts 34 = .ok (.getfield 234, 3) := by decide +kernel
theorem dX12_acts_37 : decode cX12_acts 37 = .ok (.iload_n 3, 1) := by decide +kernel
theorem dX12_acts_38 : decode cX12_acts 38 = .ok (.iaload, 1) := by decide +kernel
theorem dX12_acts_39 : decode cX12_acts 39 = .ok (.ifCond .ne 4, 3) := by decide +kernel
theorem dX12_acts_42 : decode cX12_acts 42 = .ok (.return_, 1) := by decide +kernel
theorem dX12_acts_43 : decode cX12_acts 43 = .ok (.aload_n 0, 1) := by decide +kernel
theorem dX12_acts_44 : decode cX12_acts 44 = .ok (.getfield 56, 3) := by decide +kernel
theorem dX12_acts_47 : decode cX12_acts 47 = .ok (.aload_n 0, 1) := by decide +kernel
theorem dX12_acts_48 : decode cX12_acts 48 = .ok (.getfield 346, 3) := by decide +kernel
theorem dX12_acts_51 : decode cX12_acts 51 = .ok (.iconst 1, 1) := by decide +kernel
theorem dX12_acts_52 : decode cX12_acts 52 = .ok (.isub, 1) := by decide +kernel
theorem dX12_acts_53 : decode cX12_acts 53 = .ok (.dup2, 1) := by decide +kernel
theorem dX12_acts_54 : decode cX12_acts 54 = .ok (.iaload, 1) := by decide +kernel
theorem dX12_acts_55 : decode cX12_acts 55 = .ok (.iconst 1, 1) := by decide +kernel
theorem dX12_acts_56 : decode cX12_acts 56 = .ok (.iadd, 1) := by decide +kernel
theorem dX12_acts_57 : decode cX12_acts 57 = .ok (.iastore, 1) := by decide +kernel
theorem dX12_acts_58 : decode cX12_acts 58 = .ok (.aload_n 0, 1) := by decide +kernel
theorem dX12_acts_59 : decode cX12_acts 59 = .ok (.getfield 56, 3) := by decide +kernel
theorem dX12_acts_62 : decode cX12_acts 62 = .ok (.aload_n 0, 1) := by decide +kernel
theorem dX12_acts_63 : decode cX12_acts 63 = .ok (.getfield 346, 3) := by decide +kernel
theorem dX12_acts_66 : decode cX12_acts 66 = .ok (.iconst 1, 1) := by decide +kernel
theorem dX12_acts_67 : decode cX12_acts 67 = .ok (.isub, 1) := by decide +kernel
theorem dX12_acts_68 : decode cX12_acts 68 = .ok (.iaload, 1) := by decide +kernel
theorem dX12_acts_69 : decode cX12_acts 69 = .ok (.aload_n 1, 1) := by decide +kernel
theorem dX12_acts_70 : decode cX12_acts 70 = .ok (.getfield 234, 3) := by decide +kernel
theorem dX12_acts_73 : decode cX12_acts 73 = .ok (.iload_n 3, 1) := by decide +kernel
theorem dX12_acts_74 : decode cX12_acts 74 = .ok (.iaload, 1) := by decide +kernel
theorem dX12_acts_75 : decode cX12_acts 75 = .ok (.if_icmp .ge 4, 3) := by decide +kernel
theorem dX12_acts_78 : decode cX12_acts 78 = .ok (.return_, 1) := by decide +kernel
theorem dX12_acts_79 : decode cX12_acts 79 = .ok (.aload_n 0, 1) := by decide +kernel
theorem dX12_acts_80 : decode cX12_acts 80 = .ok (.getfield 56, 3) := by decide +kernel
theorem dX12_acts_83 : decode cX12_acts 83 = .ok (.aload_n 0, 1) := by decide +kernel
theorem dX12_acts_84 : decode cX12_acts 84 = .ok (.getfield 346, 3) := by decide +kernel
theorem dX12_acts_87 : decode cX12_acts 87 = .ok (.iconst 1, 1) := by decide +kernel
theorem dX12_acts_88 : decode cX12_acts 88 = .ok (.isub, 1) := by decide +kernel
theorem dX12_acts_89 : decode cX12_acts 89 = .ok (.iconst 0, 1) := by decide +kernel
theorem dX12_acts_90 : decode cX12_acts 90 = .ok (.iastore, 1) := by decide +kernel
theorem dX12_acts_91 : decode cX12_acts 91 = .ok (.aload_n 0, 1) := by decide +kernel
theorem dX12_acts_92 : decode cX12_acts 92 = .ok (.aload_n 1, 1) := by decide +kernel
theorem dX12_acts_93 : decode cX12_acts 93 = .ok (.bipush 24, 2) := by decide +kernel
theorem dX12_acts_95 : decode cX12_acts 95 = .ok (.iload_n 3, 1) := by decide +kernel
theorem dX12_acts_96 : decode cX12_acts 96 = .ok (.iadd, 1) := by decide +kernel
theorem dX12_acts_97 : decode cX12_acts 97 = .ok (.invokevirtual 370, 3) := by decide +kernel
theorem dX12_acts_100 : decode cX12_acts 100 = .ok (.goto 51, 3) := by decide +kernel
theorem dX12_acts_103 : decode cX12_acts 103 = .ok (.iload_n 2, 1) := by decide +kernel
theorem dX12_acts_104 : decode cX12_acts 104 = .ok (.bipush 25, 2) := by decide +kernel
theorem dX12_acts_106 : decode cX12_acts 106 = .ok (.if_icmp .ne 16, 3) := by decide +kernel
theorem dX12_acts_109 : decode cX12_acts 109 = .ok (.aload_n 0, 1) := by decide +kernel
theorem dX12_acts_110 : decode cX12_acts 110 = .ok (.dup, 1) := by decide +kernel
theorem dX12_acts_111 : decode cX12_acts 111 = .ok (.getfield 346, 3) := by decide +kernel
theorem dX12_acts_114 : decode cX12_acts 114 = .ok (.iconst 1, 1) := by decide +kernel
theorem dX12_acts_115 : decode cX12_acts 115 = .ok (.isub, 1) := by decide +kernel
theorem dX12_acts_116 : decode cX12_acts 116 = .ok (.putfield 346, 3) := by decide +kernel
theorem dX12_acts_119 : decode cX12_acts 119 = .ok (.goto 32, 3) := by decide +kernel
theorem dX12_acts_122 : decode cX12_acts 122 = .ok (.aload_n 0, 1) := by decide +kernel
theorem dX12_acts_123 : decode cX12_acts 123 = .ok (.iconst 0, 1) := by decide +kernel
theorem dX12_acts_124 : decode cX12_acts 124 = .ok (.putfield 343, 3) := by decide +kernel
theorem dX12_acts_127 : decode cX12_acts 127 = .ok (.aload_n 0, 1) := by decide +kernel
theorem dX12_acts_128 : decode cX12_acts 128 = .ok (.iconst 1, 1) := by decide +kernel
theorem dX12_acts_129 : decode cX12_acts 129 = .ok (.putfield 346, 3) := by decide +kernel
theorem dX12_acts_132 : decode cX12_acts 132 = .ok (.aload_n 0, 1) := by decide +kernel
theorem dX12_acts_133 : decode cX12_acts 133 = .ok (.getfield 52, 3) := by decide +kernel
theorem dX12_acts_136 : decode cX12_acts 136 = .ok (.iconst 0, 1) := by decide +kernel
theorem dX12_acts_137 : decode cX12_acts 137 = .ok (.iconst 0, 1) := by decide +kernel
theorem dX12_acts_138 : decode cX12_acts 138 = .ok (.iastore, 1) := by decide +kernel
theorem dX12_acts_139 : decode cX12_acts 139 = .ok (.aload_n 0, 1) := by decide +kernel
theorem dX12_acts_140 : decode cX12_acts 140 = .ok (.getfield 56, 3) := by decide +kernel
theorem dX12_acts_143 : decode cX12_acts 143 = .ok (.iconst 0, 1) := by decide +kernel
theorem dX12_acts_144 : decode cX12_acts 144 = .ok (.iconst 0, 1) := by decide +kernel
theorem dX12_acts_145 : decode cX12_acts 145 = .ok (.iastore, 1) := by decide +kernel
theorem dX12_acts_146 : decode cX12_acts 146 = .ok (.aload_n 0, 1) := by decide +kernel
theorem dX12_acts_147 : decode cX12_acts 147 = .ok (.aload_n 1, 1) := by decide +kernel
theorem dX12_acts_148 : decode cX12_acts 148 = .ok (.invokevirtual 366, 3) := by decide +kernel
theorem dX12_acts_151 : decode cX12_acts 151 = .ok (.return_, 1) := by decide +kernel
theorem dX12_isAct_0 : decode cX12_isAct 0 = .ok (.iload_n 0, 1) := by decide +kernel
theorem dX12_isAct_1 : decode cX12_isAct 1 = .ok (.ifCond .lt 13, 3) := by decide +kernel
theorem dX12_isAct_4 : decode cX12_isAct 4 = .ok (.iload_n 0, 1) := by decide +kernel
theorem dX12_isAct_5 : decode cX12_isAct 5 = .ok (.bipush 27, 2) := by decide +kernel
theorem dX12_isAct_7 : decode cX12_isAct 7 = .ok (.if_icmp .ge 7, 3) := by decide +kernel
theorem dX12_isAct_10 : decode cX12_isAct 10 = .ok (.iconst 1, 1) := by decide +kernel
theorem dX12_isAct_11 : decode cX12_isAct 11 = .ok (.goto 4, 3) := by decide +kernel
theorem dX12_isAct_14 : decode cX12_isAct 14 = .ok (.iconst 0, 1) := by decide +kernel
theorem dX12_isAct_15 : decode cX12_isAct 15 = .ok (.ireturn, 1) := by decide +kernel
theorem dX12_act_0 : decode cX12_act 0 = .ok (.aload_n 0, 1) := by decide +kernel
theorem dX12_act_1 : decode cX12_act 1 = .ok (.iconst 0, 1) := by decide +kernel
theorem dX12_act_2 : decode cX12_act 2 = .ok (.putfield 1, 3) := by decide +kernel
theorem dX12_act_5 : decode cX12_act 5 = .ok (.aload_n 0, 1) := by decide +kernel
theorem dX12_act_6 : decode cX12_act 6 = .ok (.iload_n 1, 1) := by decide +kernel
theorem dX12_act_7 : decode cX12_act 7 = .ok (.invokevirtual 340, 3) := by decide +kernel
theorem dX12_act_10 : decode cX12_act 10 = .ok (.ifCond .ne 9, 3) := by decide +kernel
theorem dX12_act_13 : decode cX12_act 13 = .ok (.aload_n 0, 1) := by decide +kernel
theorem dX12_act_14 : decode cX12_act 14 = .ok (.iconst 1, 1) := by decide +kernel
theorem dX12_act_15 : decode cX12_act 15 = .ok (.invokevirtual 316, 3) := by decide +kernel
theorem dX12_act_18 : decode cX12_act 18 = .ok (.ireturn, 1) := by decide +kernel
theorem dX12_act_19 : decode cX12_act 19 = .ok (.iload_n 2, 1) := by decide +kernel
theorem dX12_act_20 : decode cX12_act 20 = .ok (.invokestatic 374, 3) := by decide +kernel
theorem dX12_act_23 : decode cX12_act 23 = .ok (.ifCond .ne 9, 3) := by decide +kernel
theorem dX12_act_26 : decode cX12_act 26 = .ok (.aload_n 0, 1) := by decide +kernel
theorem dX12_act_27 : decode cX12_act 27 = .ok (.iconst 2, 1) := by decide +kernel
theorem dX12_act_28 : decode cX12_act 28 = .ok (.invokevirtual 316, 3) := by decide +kernel
theorem dX12_act_31 : decode cX12_act 31 = .ok (.ireturn, 1) := by decide +kernel
theorem dX12_act_32 : decode cX12_act 32 = .ok (.aload_n 0, 1) := by decide +kernel
theorem dX12_act_33 : decode cX12_act 33 = .ok (.aload_n 0, 1) := by decide +kernel
theorem dX12_act_34 : decode cX12_act 34 = .ok (.getfield 34, 3) := by decide +kernel
theorem dX12_act_37 : decode cX12_act 37 = .ok (.iload_n 1, 1) := by decide +kernel
theorem dX12_act_38 : decode cX12_act 38 = .ok (.laload, 1) := by decide +kernel
theorem dX12_act_39 : decode cX12_act 39 = .ok (.aload_n 0, 1) := by decide +kernel
theorem dX12_act_40 : decode cX12_act 40 = .ok (.getfield 38, 3) := by decide +kernel
theorem dX12_act_43 : decode cX12_act 43 = .ok (.iload_n 1, 1) := by decide +kernel
theorem dX12_act_44 : decode cX12_act 44 = .ok (.laload, 1) := by decide +kernel
theorem dX12_act_45 : decode cX12_act 45 = .ok (.invokevirtual 377, 3) := by decide +kernel
theorem dX12_act_48 : decode cX12_act 48 = .ok (.aload_n 0, 1) := by decide +kernel
theorem dX12_act_49 : decode cX12_act 49 = .ok (.aload_n 0, 1) := by decide +kernel
theorem dX12_act_50 : decode cX12_act 50 = .ok (.getfield 21, 3) := by decide +kernel
theorem dX12_act_53 : decode cX12_act 53 = .ok (.iload_n 1, 1) := by decide +kernel
theorem dX12_act_54 : decode cX12_act 54 = .ok (.aaload, 1) := by decide +kernel
theorem dX12_act_55 : decode cX12_act 55 = .ok (.invokevirtual 381, 3) := by decide +kernel
theorem dX12_act_58 : decode cX12_act 58 = .ok (.iload_n 2, 1) := by decide +kernel
theorem dX12_act_59 : decode cX12_act 59 = .ok (.ishr, 1) := by decide +kernel
theorem dX12_act_60 : decode cX12_act 60 = .ok (.iconst 1, 1) := by decide +kernel
theorem dX12_act_61 : decode cX12_act 61 = .ok (.iand, 1) := by decide +kernel
theorem dX12_act_62 : decode cX12_act 62 = .ok (.ifCond .ne 9, 3) := by decide +kernel
theorem dX12_act_65 : decode cX12_act 65 = .ok (.aload_n 0, 1) := by decide +kernel
theorem dX12_act_66 : decode cX12_act 66 = .ok (.iconst 4, 1) := by decide +kernel
theorem dX12_act_67 : decode cX12_act 67 = .ok (.invokevirtual 316, 3) := by decide +kernel
theorem dX12_act_70 : decode cX12_act 70 = .ok (.ireturn, 1) := by decide +kernel
theorem dX12_act_71 : decode cX12_act 71 = .ok (.aload_n 0, 1) := by decide +kernel
theorem dX12_act_72 : decode cX12_act 72 = .ok (.aload_n 0, 1) := by decide +kernel
theorem dX12_act_73 : decode cX12_act 73 = .ok (.getfield 21, 3) := by decide +kernel
theorem dX12_act_76 : decode cX12_act 76 = .ok (.iload_n 1, 1) := by decide +kernel
theorem dX12_act_77 : decode cX12_act 77 = .ok (.aaload, 1) := by decide +kernel
theorem dX12_act_78 : decode cX12_act 78 = .ok (.iload_n 2, 1) := by decide +kernel
theorem dX12_act_79 : decode cX12_act 79 = .ok (.invokevirtual 384, 3) := by decide +kernel
theorem dX12_act_82 : decode cX12_act 82 = .ok (.aload_n 0, 1) := by decide +kernel
theorem dX12_act_83 : decode cX12_act 83 = .ok (.getfield 34, 3) := by decide +kernel
theorem dX12_act_86 : decode cX12_act 86 = .ok (.iload_n 1, 1) := by decide +kernel
theorem dX12_act_87 : decode cX12_act 87 = .ok (.aload_n 0, 1) := by decide +kernel
theorem dX12_act_88 : decode cX12_act 88 = .ok (.invokevirtual 327, 3) := by decide +kernel
theorem dX12_act_91 : decode cX12_act 91 = .ok (.lastore, 1) := by decide +kernel
theorem dX12_act_92 : decode cX12_act 92 = .ok (.aload_n 0, 1) := by decide +kernel
theorem dX12_act_93 : decode cX12_act 93 = .ok (.getfield 38, 3) := by decide +kernel
theorem dX12_act_96 : decode cX12_act 96 = .ok (.iload_n 1, 1) := by decide +kernel
theorem dX12_act_97 : decode cX12_act 97 = .ok (.aload_n 0, 1) := by decide +kernel
theorem dX12_act_98 : decode cX12_act 98 = .ok (.invokevirtual 331, 3) := by decide +kernel
theorem dX12_act_101 : decode cX12_act 101 = .ok (.lastore, 1) := by decide +kernel
theorem dX12_act_102 : decode cX12_act 102 = .ok (.aload_n 0, 1) := by decide +kernel
theorem dX12_act_103 : decode cX12_act 103 = .ok (.iconst 1, 1) := by decide +kernel
theorem dX12_act_104 : decode cX12_act 104 = .ok (.invokevirtual 337, 3) := by decide +kernel
theorem dX12_act_107 : decode cX12_act 107 = .ok (.ireturn, 1) := by decide +kernel
theorem dX12_bits_0 : decode cX12_bits 0 = .ok (.iconst 0, 1) := by decide +kernel
theorem dX12_bits_1 : decode cX12_bits 1 = .ok (.istore_n 1, 1) := by decide +kernel
theorem dX12_bits_2 : decode cX12_bits 2 = .ok (.iload_n 0, 1) := by decide +kernel
theorem dX12_bits_3 : decode cX12_bits 3 = .ok (.istore_n 2, 1) := by decide +kernel
theorem dX12_bits_4 : decode cX12_bits 4 = .ok (.iload_n 2, 1) := by decide +kernel
theorem dX12_bits_5 : decode cX12_bits 5 = .ok (.ifCond .eq 15, 3) := by decide +kernel
theorem dX12_bits_8 : decode cX12_bits 8 = .ok (.iinc 1 1, 3) := by decide +kernel
theorem dX12_bits_11 : decode cX12_bits 11 = .ok (.iload_n 2, 1) := by decide +kernel
theorem dX12_bits_12 : decode cX12_bits 12 = .ok (.iload_n 2, 1) := by decide +kernel
theorem dX12_bits_13 : decode cX12_bits 13 = .ok (.iconst 1, 1) := by decide +kernel
theorem dX12_bits_14 : decode cX12_bits 14 = .ok (.isub, 1) := by decide +kernel
theorem dX12_bits_15 : decode cX12_bits 15 = .ok (.iand, 1) := by decide +kernel
theorem dX12_bits_16 : decode cX12_bits 16 = .ok (.istore_n 2, 1) := by decide +kernel
theorem dX12_bits_17 : decode cX12_bits 17 = .ok (.goto (-13), 3) := by decide +kernel
theorem dX12_bits_20 : decode cX12_bits 20 = .ok (.iload_n 1, 1) := by decide +kernel
theorem dX12_bits_21 : decode cX12_bits 21 = .ok (.ireturn, 1) := by decide +kernel
theorem dX12_state_0 : decode cX12_state 0 = .ok (.aload_n 0, 1) := by decide +kernel
theorem dX12_state_1 : decode cX12_state 1 = .ok (.iconst 0, 1) := by decide +kernel
theorem dX12_state_2 : decode cX12_state 2 = .ok (.putfield 1, 3) := by decide +kernel
theorem dX12_state_5 : decode cX12_state 5 = .ok (.aload_n 0, 1) := by decide +kernel
theorem dX12_state_6 : decode cX12_state 6 = .ok (.iload_n 1, 1) := by decide +kernel
theorem dX12_state_7 : decode cX12_state 7 = .ok (.invokevirtual 340, 3) := by decide +kernel
theorem dX12_state_10 : decode cX12_state 10 = .ok (.ifCond .ne 5, 3) := by decide +kernel
theorem dX12_state_13 : decode cX12_state 13 = .ok (.iconst (-1), 1) := by decide +kernel
theorem dX12_state_14 : decode cX12_state 14 = .ok (.ireturn, 1) := by decide +kernel
theorem dX12_state_15 : decode cX12_state 15 = .ok (.aload_n 0, 1) := by decide +kernel
theorem dX12_state_16 : decode cX12_state 16 = .ok (.aload_n 0, 1) := by decide +kernel
theorem dX12_state_17 : decode cX12_state 17 = .ok (.getfield 34, 3) := by decide +kernel
theorem dX12_state_20 : decode cX12_state 20 = .ok (.iload_n 1, 1) := by decide +kernel
theorem dX12_state_21 : decode cX12_state 21 = .ok (.laload, 1) := by decide +kernel
theorem dX12_state_22 : decode cX12_state 22 = .ok (.aload_n 0, 1) := by decide +kernel
theorem dX12_state_23 : decode cX12_state 23 = .ok (.getfield 38, 3) := by decide +kernel
theorem dX12_state_26 : decode cX12_state 26 = .ok (.iload_n 1, 1) := by decide +kernel
theorem dX12_state_27 : decode cX12_state 27 = .ok (.laload, 1) := by decide +kernel
theorem dX12_state_28 : decode cX12_state 28 = .ok (.invokevirtual 377, 3) := by decide +kernel
theorem dX12_state_31 : decode cX12_state 31 = .ok (.iload_n 2, 1) := by decide +kernel
theorem dX12_state_32 : decode cX12_state 32 = .ok (.tableswitch 106 0 4 #[36, 41, 46, 69, 92], 36) := by decide +kernel
theorem dX12_state_68 : decode cX12_state 68 = .ok (.aload_n 0, 1) := by decide +kernel
theorem dX12_state_69 : decode cX12_state 69 = .ok (.getfield 343, 3) := by decide +kernel
theorem dX12_state_72 : decode cX12_state 72 = .ok (.ireturn, 1) := by decide +kernel
theorem dX12_state_73 : decode cX12_state 73 = .ok (.aload_n 0, 1) := by decide +kernel
theorem dX12_state_74 : decode cX12_state 74 = .ok (.getfield 346, 3) := by decide +kernel
theorem dX12_state_77 : decode cX12_state 77 = .ok (.ireturn, 1) := by decide +kernel
theorem dX12_state_78 : decode cX12_state 78 = .ok (.aload_n 0, 1) := by decide +kernel
theorem dX12_state_79 : decode cX12_state 79 = .ok (.getfield 346, 3) := by decide +kernel
theorem dX12_state_82 : decode cX12_state 82 = .ok (.ifCond .le 17, 3) := by decide +kernel
theorem dX12_state_85 : decode cX12_state 85 = .ok (.aload_n 0, 1) := by decide +kernel
theorem dX12_state_86 : decode cX12_state 86 = .ok (.getfield 52, 3) := by decide +kernel
theorem dX12_state_89 : decode cX12_state 89 = .ok (.aload_n 0, 1) := by decide +kernel
theorem dX12_state_90 : decode cX12_state 90 = .ok (.getfield 346, 3) := by decide +kernel
theorem dX12_state_93 : decode cX12_state 93 = .ok (.iconst 1, 1) := by decide +kernel
theorem dX12_state_94 : decode cX12_state 94 = .ok (.isub, 1) := by decide +kernel
theorem dX12_state_95 : decode cX12_state 95 = .ok (.iaload, 1) := by decide +kernel
theorem dX12_state_96 : decode cX12_state 96 = .ok (.goto 4, 3) := by decide +kernel
theorem dX12_state_99 : decode cX12_state 99 = .ok (.iconst (-1), 1) := by decide +kernel
theorem dX12_state_100 : decode cX12_state 100 = .ok (.ireturn, 1) := by decide +kernel
theorem dX12_state_101 : decode cX12_state 101 = .ok (.aload_n 0, 1) := by decide +kernel
theorem dX12_state_102 : decode cX12_state 102 = .ok (.getfield 346, 3) := by decide +kernel
theorem dX12_state_105 : decode cX12_state 105 = .ok (.ifCond .le 17, 3) := by decide +kernel
theorem dX12_state_108 : decode cX12_state 108 = .ok (.aload_n 0, 1) := by decide +kernel
theorem dX12_state_109 : decode cX12_state 109 = .ok (.getfield 56, 3) := by decide +kernel
theorem dX12_state_112 : decode cX12_state 112 = .ok (.aload_n 0, 1) := by decide +kernel
theorem dX12_state_113 : decode cX12_state 113 = .ok (.getfield 346, 3) := by decide +kernel
theorem dX12_state_116 : decode cX12_state 116 = .ok (.iconst 1, 1) := by decide +kernel
theorem dX12_state_117 : decode cX12_state 117 = .ok (.isub, 1) := by decide +kernel
theorem dX12_state_118 : decode cX12_state 118 = .ok (.iaload, 1) := by decide +kernel
theorem dX12_state_119 : decode cX12_state 119 = .ok (.goto 4, 3) := by decide +kernel
theorem dX12_state_122 : decode cX12_state 122 = .ok (.iconst (-1), 1) := by decide +kernel
theorem dX12_state_123 : decode cX12_state 123 = .ok (.ireturn, 1) := by decide +kernel
theorem dX12_state_124 : decode cX12_state 124 = .ok (.aload_n 0, 1) := by decide +kernel
theorem dX12_state_125 : decode cX12_state 125 = .ok (.aload_n 0, 1) := by decide +kernel
theorem dX12_state_126 : decode cX12_state 126 = .ok (.getfield 21, 3) := by decide +kernel
theorem dX12_state_129 : decode cX12_state 129 = .ok (.iload_n 1, 1) := by decide +kernel
theorem dX12_state_130 : decode cX12_state 130 = .ok (.aaload, 1) := by decide +kernel
theorem dX12_state_131 : decode cX12_state 131 = .ok (.invokevirtual 381, 3) := by decide +kernel
theorem dX12_state_134 : decode cX12_state 134 = .ok (.invokestatic 387, 3) := by decide +kernel
theorem dX12_state_137 : decode cX12_state 137 = .ok (.ireturn, 1) := by decide +kernel
theorem dX12_state_138 : decode cX12_state 138 = .ok (.iconst (-1), 1) := by decide +kernel
theorem dX12_state_139 : decode cX12_state 139 = .ok (.ireturn, 1) := by decide +kernel
theorem dX12_var_0 : decode cX12_var 0 = .ok (.aload_n 0, 1) := by decide +kernel
theorem dX12_var_1 : decode cX12_var 1 = .ok (.iconst 0, 1) := by decide +kernel
theorem dX12_var_2 : decode cX12_var 2 = .ok (.putfield 1, 3) := by decide +kernel
theorem dX12_var_5 : decode cX12_var 5 = .ok (.aload_n 0, 1) := by decide +kernel
theorem dX12_var_6 : decode cX12_var 6 = .ok (.iload_n 1, 1) := by decide +kernel
theorem dX12_var_7 : decode cX12_var 7 = .ok (.invokevirtual 340, 3) := by decide +kernel
theorem dX12_var_10 : decode cX12_var 10 = .ok (.ifCond .eq 20, 3) := by decide +kernel
theorem dX12_var_13 : decode cX12_var 13 = .ok (.iload_n 2, 1) := by decide +kernel
theorem dX12_var_14 : decode cX12_var 14 = .ok (.ifCond .lt 16, 3) := by decide +kernel
theorem dX12_var_17 : decode cX12_var 17 = .ok (.iload_n 2, 1) := by decide +kernel
theorem dX12_var_18 : decode cX12_var 18 = .ok (.aload_n 0, 1) := by decide +kernel
theorem dX12_var_19 : decode cX12_var 19 = .ok (.getfield 21, 3) := by decide +kernel
theorem dX12_var_22 : decode cX12_var 22 = .ok (.iload_n 1, 1) := by decide +kernel
theorem dX12_var_23 : decode cX12_var 23 = .ok (.aaload, 1) := by decide +kernel
theorem dX12_var_24 : decode cX12_var 24 = .ok (.getfield 198, 3) := by decide +kernel
theorem dX12_var_27 : decode cX12_var 27 = .ok (.if_icmp .lt 5, 3) := by decide +kernel
theorem dX12_var_30 : decode cX12_var 30 = .ok (.iconst (-1), 1) := by decide +kernel
theorem dX12_var_31 : decode cX12_var 31 = .ok (.ireturn, 1) := by decide +kernel
theorem dX12_var_32 : decode cX12_var 32 = .ok (.aload_n 0, 1) := by decide +kernel
theorem dX12_var_33 : decode cX12_var 33 = .ok (.aload_n 0, 1) := by decide +kernel
theorem dX12_var_34 : decode cX12_var 34 = .ok (.getfield 34, 3) := by decide +kernel
theorem dX12_var_37 : decode cX12_var 37 = .ok (.iload_n 1, 1) := by decide +kernel
theorem dX12_var_38 : decode cX12_var 38 = .ok (.laload, 1) := by decide +kernel
theorem dX12_var_39 : decode cX12_var 39 = .ok (.aload_n 0, 1) := by decide +kernel
theorem dX12_var_40 : decode cX12_var 40 = .ok (.getfield 38, 3) := by decide +kernel
theorem dX12_var_43 : decode cX12_var 43 = .ok (.iload_n 1, 1) := by decide +kernel
theorem dX12_var_44 : decode cX12_var 44 = .ok (.laload, 1) := by decide +kernel
theorem dX12_var_45 : decode cX12_var 45 = .ok (.invokevirtual 377, 3) := by decide +kernel
theorem dX12_var_48 : decode cX12_var 48 = .ok (.aload_n 0, 1) := by decide +kernel
theorem dX12_var_49 : decode cX12_var 49 = .ok (.getfield 59, 3) := by decide +kernel
theorem dX12_var_52 : decode cX12_var 52 = .ok (.iload_n 2, 1) := by decide +kernel
theorem dX12_var_53 : decode cX12_var 53 = .ok (.iaload, 1) := by decide +kernel
theorem dX12_var_54 : decode cX12_var 54 = .ok (.ireturn, 1) := by decide +kernel
theorem dX12_can_0 : decode cX12_can 0 = .ok (.aload_n 0, 1) := by decide +kernel
theorem dX12_can_1 : decode cX12_can 1 = .ok (.iconst 0, 1) := by decide +kernel
theorem dX12_can_2 : decode cX12_can 2 = .ok (.putfield 1, 3) := by decide +kernel
theorem dX12_can_5 : decode cX12_can 5 = .ok (.aload_n 0, 1) := by decide +kernel
theorem dX12_can_6 : decode cX12_can 6 = .ok (.iload_n 1, 1) := by decide +kernel
theorem dX12_can_7 : decode cX12_can 7 = .ok (.invokevirtual 340, 3) := by decide +kernel
theorem dX12_can_10 : decode cX12_can 10 = .ok (.ifCond .eq 10, 3) := by decide +kernel
theorem dX12_can_13 : decode cX12_can 13 = .ok (.iload_n 2, 1) := by decide +kernel
theorem dX12_can_14 : decode cX12_can 14 = .ok (.invokestatic 374, 3) := by decide +kernel
theorem dX12_can_17 : decode cX12_can 17 = .ok (.ifCond .ne 5, 3) := by decide +kernel
theorem dX12_can_20 : decode cX12_can 20 = .ok (.iconst (-1), 1) := by decide +kernel
theorem dX12_can_21 : decode cX12_can 21 = .ok (.ireturn, 1) := by decide +kernel
theorem dX12_can_22 : decode cX12_can 22 = .ok (.aload_n 0, 1) := by decide +kernel
theorem dX12_can_23 : decode cX12_can 23 = .ok (.aload_n 0, 1) := by decide +kernel
theorem dX12_can_24 : decode cX12_can 24 = .ok (.getfield 34, 3) := by decide +kernel
theorem dX12_can_27 : decode cX12_can 27 = .ok (.iload_n 1, 1) := by decide +kernel
theorem dX12_can_28 : decode cX12_can 28 = .ok (.laload, 1) := by decide +kernel
theorem dX12_can_29 : decode cX12_can 29 = .ok (.aload_n 0, 1) := by decide +kernel
theorem dX12_can_30 : decode cX12_can 30 = .ok (.getfield 38, 3) := by decide +kernel
theorem dX12_can_33 : decode cX12_can 33 = .ok (.iload_n 1, 1) := by decide +kernel
theorem dX12_can_34 : decode cX12_can 34 = .ok (.laload, 1) := by decide +kernel
theorem dX12_can_35 : decode cX12_can 35 = .ok (.invokevirtual 377, 3) := by decide +kernel
theorem dX12_can_38 : decode cX12_can 38 = .ok (.aload_n 0, 1) := by decide +kernel
theorem dX12_can_39 : decode cX12_can 39 = .ok (.aload_n 0, 1) := by decide +kernel
theorem dX12_can_40 : decode cX12_can 40 = .ok (.getfield 21, 3) := by decide +kernel
theorem dX12_can_43 : decode cX12_can 43 = .ok (.iload_n 1, 1) := by decide +kernel
theorem dX12_can_44 : decode cX12_can 44 = .ok (.aaload, 1) := by decide +kernel
theorem dX12_can_45 : decode cX12_can 45 = .ok (.invokevirtual 381, 3) := by decide +kernel
theorem dX12_can_48 : decode cX12_can 48 = .ok (.iload_n 2, 1) := by decide +kernel
theorem dX12_can_49 : decode cX12_can 49 = .ok (.ishr, 1) := by decide +kernel
theorem dX12_can_50 : decode cX12_can 50 = .ok (.iconst 1, 1) := by decide +kernel
theorem dX12_can_51 : decode cX12_can 51 = .ok (.iand, 1) := by decide +kernel
theorem dX12_can_52 : decode cX12_can 52 = .ok (.ireturn, 1) := by decide +kernel
theorem dX12_begin_0 : decode cX12_begin 0 = .ok (.aload_n 0, 1) := by decide +kernel
theorem dX12_begin_1 : decode cX12_begin 1 = .ok (.iconst 0, 1) := by decide +kernel
theorem dX12_begin_2 : decode cX12_begin 2 = .ok (.putfield 1, 3) := by decide +kernel
theorem dX12_begin_5 : decode cX12_begin 5 = .ok (.aload_n 0, 1) := by decide +kernel
theorem dX12_begin_6 : decode cX12_begin 6 = .ok (.aload_n 0, 1) := by decide +kernel
theorem dX12_begin_7 : decode cX12_begin 7 = .ok (.iload_n 1, 1) := by decide +kernel
theorem dX12_begin_8 : decode cX12_begin 8 = .ok (.invokevirtual 340, 3) := by decide +kernel
theorem dX12_begin_11 : decode cX12_begin 11 = .ok (.ifCond .eq 7, 3) := by decide +kernel
theorem dX12_begin_14 : decode cX12_begin 14 = .ok (.iconst 0, 1) := by decide +kernel
theorem dX12_begin_15 : decode cX12_begin 15 = .ok (.goto 4, 3) := by decide +kernel
theorem dX12_begin_18 : decode cX12_begin 18 = .ok (.iconst 1, 1) := by decide +kernel
theorem dX12_begin_19 : decode cX12_begin 19 = .ok (.putfield 7, 3) := by decide +kernel
theorem dX12_begin_22 : decode cX12_begin 22 = .ok (.aload_n 0, 1) := by decide +kernel
theorem dX12_begin_23 : decode cX12_begin 23 = .ok (.iconst (-1), 1) := by decide +kernel
theorem dX12_begin_24 : decode cX12_begin 24 = .ok (.putfield 10, 3) := by decide +kernel
theorem dX12_begin_27 : decode cX12_begin 27 = .ok (.aload_n 0, 1) := by decide +kernel
theorem dX12_begin_28 : decode cX12_begin 28 = .ok (.getfield 7, 3) := by decide +kernel
theorem dX12_begin_31 : decode cX12_begin 31 = .ok (.ifCond .le 5, 3) := by decide +kernel
theorem dX12_begin_34 : decode cX12_begin 34 = .ok (.iconst 0, 1) := by decide +kernel
theorem dX12_begin_35 : decode cX12_begin 35 = .ok (.ireturn, 1) := by decide +kernel
theorem dX12_begin_36 : decode cX12_begin 36 = .ok (.aload_n 0, 1) := by decide +kernel
theorem dX12_begin_37 : decode cX12_begin 37 = .ok (.invokevirtual 324, 3) := by decide +kernel
theorem dX12_begin_40 : decode cX12_begin 40 = .ok (.aload_n 0, 1) := by decide +kernel
theorem dX12_begin_41 : decode cX12_begin 41 = .ok (.getfield 34, 3) := by decide +kernel
theorem dX12_begin_44 : decode cX12_begin 44 = .ok (.iload_n 1, 1) := by decide +kernel
theorem dX12_begin_45 : decode cX12_begin 45 = .ok (.aload_n 0, 1) := by decide +kernel
theorem dX12_begin_46 : decode cX12_begin 46 = .ok (.invokevirtual 327, 3) := by decide +kernel
theorem dX12_begin_49 : decode cX12_begin 49 = .ok (.lastore, 1) := by decide +kernel
theorem dX12_begin_50 : decode cX12_begin 50 = .ok (.aload_n 0, 1) := by decide +kernel
theorem dX12_begin_51 : decode cX12_begin 51 = .ok (.getfield 38, 3) := by decide +kernel
theorem dX12_begin_54 : decode cX12_begin 54 = .ok (.iload_n 1, 1) := by decide +kernel
theorem dX12_begin_55 : decode cX12_begin 55 = .ok (.aload_n 0, 1) := by decide +kernel
theorem dX12_begin_56 : decode cX12_begin 56 = .ok (.invokevirtual 331, 3) := by decide +kernel
theorem dX12_begin_59 : decode cX12_begin 59 = .ok (.lastore, 1) := by decide +kernel
theorem dX12_begin_60 : decode cX12_begin 60 = .ok (.iconst 1, 1) := by decide +kernel
theorem dX12_begin_61 : decode cX12_begin 61 = .ok (.ireturn, 1) := by decide +kernel
theorem dX12_stateOf_0 : decode cX12_stateOf 0 = .ok (.iconst 0, 1) := by decide +kernel
theorem dX12_stateOf_1 : decode cX12_stateOf 1 = .ok (.istore 5, 2) := by decide +kernel
theorem dX12_stateOf_3 : decode cX12_stateOf 3 = .ok (.iload 5, 2) := by decide +kernel
theorem dX12_stateOf_5 : decode cX12_stateOf 5 = .ok (.aload_n 0, 1) := by decide +kernel
theorem dX12_stateOf_6 : decode cX12_stateOf 6 = .ok (.getfield 334, 3) := by decide +kernel
theorem dX12_stateOf_9 : decode cX12_stateOf 9 = .ok (.if_icmp .ge 33, 3) := by decide +kernel
theorem dX12_stateOf_12 : decode cX12_stateOf 12 = .ok (.aload_n 0, 1) := by decide +kernel
theorem dX12_stateOf_13 : decode cX12_stateOf 13 = .ok (.getfield 65, 3) := by decide +kernel
theorem dX12_stateOf_16 : decode cX12_stateOf 16 = .ok (.iload 5, 2) := by decide +kernel
theorem dX12_stateOf_18 : decode cX12_stateOf 18 = .ok (.laload, 1) := by decide +kernel
theorem dX12_stateOf_19 : decode cX12_stateOf 19 = .ok (.lload_n 1, 1) := by decide +kernel
theorem dX12_stateOf_20 : decode cX12_stateOf 20 = .ok (.lcmp, 1) := by decide +kernel
theorem dX12_stateOf_21 : decode cX12_stateOf 21 = .ok (.ifCond .ne 15, 3) := by decide +kernel
theorem dX12_stateOf_24 : decode cX12_stateOf 24 = .ok (.aload_n 0, 1) := by decide +kernel
theorem dX12_stateOf_25 : decode cX12_stateOf 25 = .ok (.getfield 68, 3) := by decide +kernel
theorem dX12_stateOf_28 : decode cX12_stateOf 28 = .ok (.iload 5, 2) := by decide +kernel
theorem dX12_stateOf_30 : decode cX12_stateOf 30 = .ok (.laload, 1) := by decide +kernel
theorem dX12_stateOf_31 : decode cX12_stateOf 31 = .ok (.lload_n 3, 1) := by decide +kernel
theorem dX12_stateOf_32 : decode cX12_stateOf 32 = .ok (.lcmp, 1) := by decide +kernel
theorem dX12_stateOf_33 : decode cX12_stateOf 33 = .ok (.ifCond .eq 9, 3) := by decide +kernel
theorem dX12_stateOf_36 : decode cX12_stateOf 36 = .ok (.iinc 5 1, 3) := by decide +kernel
theorem dX12_stateOf_39 : decode cX12_stateOf 39 = .ok (.goto (-36), 3) := by decide +kernel
theorem dX12_stateOf_42 : decode cX12_stateOf 42 = .ok (.iload 5, 2) := by decide +kernel
theorem dX12_stateOf_44 : decode cX12_stateOf 44 = .ok (.aload_n 0, 1) := by decide +kernel
theorem dX12_stateOf_45 : decode cX12_stateOf 45 = .ok (.getfield 334, 3) := by decide +kernel
theorem dX12_stateOf_48 : decode cX12_stateOf 48 = .ok (.if_icmp .ge 8, 3) := by decide +kernel
theorem dX12_stateOf_51 : decode cX12_stateOf 51 = .ok (.iload 5, 2) := by decide +kernel
theorem dX12_stateOf_53 : decode cX12_stateOf 53 = .ok (.goto 4, 3) := by decide +kernel
theorem dX12_stateOf_56 : decode cX12_stateOf 56 = .ok (.iconst (-1), 1) := by decide +kernel
theorem dX12_stateOf_57 : decode cX12_stateOf 57 = .ok (.ireturn, 1) := by decide +kernel
theorem dX12_meets_0 : decode cX12_meets 0 = .ok (.aload_n 0, 1) := by decide +kernel
theorem dX12_meets_1 : decode cX12_meets 1 = .ok (.getfield 65, 3) := by decide +kernel
theorem dX12_meets_4 : decode cX12_meets 4 = .ok (.aload_n 0, 1) := by decide +kernel
theorem dX12_meets_5 : decode cX12_meets 5 = .ok (.getfield 334, 3) := by decide +kernel
theorem dX12_meets_8 : decode cX12_meets 8 = .ok (.aload_n 0, 1) := by decide +kernel
theorem dX12_meets_9 : decode cX12_meets 9 = .ok (.invokevirtual 327, 3) := by decide +kernel
theorem dX12_meets_12 : decode cX12_meets 12 = .ok (.lastore, 1) := by decide +kernel
theorem dX12_meets_13 : decode cX12_meets 13 = .ok (.aload_n 0, 1) := by decide +kernel
theorem dX12_meets_14 : decode cX12_meets 14 = .ok (.getfield 68, 3) := by decide +kernel
theorem dX12_meets_17 : decode cX12_meets 17 = .ok (.aload_n 0, 1) := by decide +kernel
theorem dX12_meets_18 : decode cX12_meets 18 = .ok (.getfield 334, 3) := by decide +kernel
theorem dX12_meets_21 : decode cX12_meets 21 = .ok (.aload_n 0, 1) := by decide +kernel
theorem dX12_meets_22 : decode cX12_meets 22 = .ok (.invokevirtual 331, 3) := by decide +kernel
theorem dX12_meets_25 : decode cX12_meets 25 = .ok (.lastore, 1) := by decide +kernel
theorem dX12_meets_26 : decode cX12_meets 26 = .ok (.aload_n 0, 1) := by decide +kernel
theorem dX12_meets_27 : decode cX12_meets 27 = .ok (.getfield 71, 3) := by decide +kernel
theorem dX12_meets_30 : decode cX12_meets 30 = .ok (.aload_n 0, 1) := by decide +kernel
theorem dX12_meets_31 : decode cX12_meets 31 = .ok (.getfield 334, 3) := by decide +kernel
theorem dX12_meets_34 : decode cX12_meets 34 = .ok (.iload_n 1, 1) := by decide +kernel
theorem dX12_meets_35 : decode cX12_meets 35 = .ok (.iastore, 1) := by decide +kernel
theorem dX12_meets_36 : decode cX12_meets 36 = .ok (.aload_n 0, 1) := by decide +kernel
theorem dX12_meets_37 : decode cX12_meets 37 = .ok (.getfield 74, 3) := by decide +kernel
theorem dX12_meets_40 : decode cX12_meets 40 = .ok (.aload_n 0, 1) := by decide +kernel
theorem dX12_meets_41 : decode cX12_meets 41 = .ok (.getfield 334, 3) := by decide +kernel
theorem dX12_meets_44 : decode cX12_meets 44 = .ok (.iload_n 2, 1) := by decide +kernel
theorem dX12_meets_45 : decode cX12_meets 45 = .ok (.iastore, 1) := by decide +kernel
theorem dX12_meets_46 : decode cX12_meets 46 = .ok (.aload_n 0, 1) := by decide +kernel
theorem dX12_meets_47 : decode cX12_meets 47 = .ok (.getfield 77, 3) := by decide +kernel
theorem dX12_meets_50 : decode cX12_meets 50 = .ok (.aload_n 0, 1) := by decide +kernel
theorem dX12_meets_51 : decode cX12_meets 51 = .ok (.getfield 334, 3) := by decide +kernel
theorem dX12_meets_54 : decode cX12_meets 54 = .ok (.iload_n 1, 1) := by decide +kernel
theorem dX12_meets_55 : decode cX12_meets 55 = .ok (.iconst (-1), 1) := by decide +kernel
theorem dX12_meets_56 : decode cX12_meets 56 = .ok (.if_icmp .ne 7, 3) := by decide +kernel
theorem dX12_meets_59 : decode cX12_meets 59 = .ok (.iconst 0, 1) := by decide +kernel
theorem dX12_meets_60 : decode cX12_meets 60 = .ok (.goto 11, 3) := by decide +kernel
theorem dX12_meets_63 : decode cX12_meets 63 = .ok (.aload_n 0, 1) := by decide +kernel
theorem dX12_meets_64 : decode cX12_meets 64 = .ok (.getfield 77, 3) := by decide +kernel
theorem dX12_meets_67 : decode cX12_meets 67 = .ok (.iload_n 1, 1) := by decide +kernel
theorem dX12_meets_68 : decode cX12_meets 68 = .ok (.iaload, 1) := by decide +kernel
theorem dX12_meets_69 : decode cX12_meets 69 = .ok (.iconst 1, 1) := by decide +kernel
theorem dX12_meets_70 : decode cX12_meets 70 = .ok (.iadd, 1) := by decide +kernel
theorem dX12_meets_71 : decode cX12_meets 71 = .ok (.iastore, 1) := by decide +kernel
theorem dX12_meets_72 : decode cX12_meets 72 = .ok (.aload_n 0, 1) := by decide +kernel
theorem dX12_meets_73 : decode cX12_meets 73 = .ok (.dup, 1) := by decide +kernel
theorem dX12_meets_74 : decode cX12_meets 74 = .ok (.getfield 334, 3) := by decide +kernel
theorem dX12_meets_77 : decode cX12_meets 77 = .ok (.iconst 1, 1) := by decide +kernel
theorem dX12_meets_78 : decode cX12_meets 78 = .ok (.iadd, 1) := by decide +kernel
theorem dX12_meets_79 : decode cX12_meets 79 = .ok (.putfield 334, 3) := by decide +kernel
theorem dX12_meets_82 : decode cX12_meets 82 = .ok (.return_, 1) := by decide +kernel
theorem dX12_map_0 : decode cX12_map 0 = .ok (.aload_n 0, 1) := by decide +kernel
theorem dX12_map_1 : decode cX12_map 1 = .ok (.iconst 0, 1) := by decide +kernel
theorem dX12_map_2 : decode cX12_map 2 = .ok (.putfield 1, 3) := by decide +kernel
theorem dX12_map_5 : decode cX12_map 5 = .ok (.aload_n 0, 1) := by decide +kernel
theorem dX12_map_6 : decode cX12_map 6 = .ok (.iload_n 1, 1) := by decide +kernel
theorem dX12_map_7 : decode cX12_map 7 = .ok (.invokevirtual 340, 3) := by decide +kernel
theorem dX12_map_10 : decode cX12_map 10 = .ok (.ifCond .ne 9, 3) := by decide +kernel
theorem dX12_map_13 : decode cX12_map 13 = .ok (.aload_n 0, 1) := by decide +kernel
theorem dX12_map_14 : decode cX12_map 14 = .ok (.iconst 1, 1) := by decide +kernel
theorem dX12_map_15 : decode cX12_map 15 = .ok (.invokevirtual 316, 3) := by decide +kernel
theorem dX12_map_18 : decode cX12_map 18 = .ok (.ireturn, 1) := by decide +kernel
theorem dX12_map_19 : decode cX12_map 19 = .ok (.aload_n 0, 1) := by decide +kernel
theorem dX12_map_20 : decode cX12_map 20 = .ok (.getfield 21, 3) := by decide +kernel
theorem dX12_map_23 : decode cX12_map 23 = .ok (.iload_n 1, 1) := by decide +kernel
theorem dX12_map_24 : decode cX12_map 24 = .ok (.aaload, 1) := by decide +kernel
theorem dX12_map_25 : decode cX12_map 25 = .ok (.astore_n 2, 1) := by decide +kernel
theorem dX12_map_26 : decode cX12_map 26 = .ok (.aload_n 0, 1) := by decide +kernel
theorem dX12_map_27 : decode cX12_map 27 = .ok (.iconst 0, 1) := by decide +kernel
theorem dX12_map_28 : decode cX12_map 28 = .ok (.putfield 334, 3) := by decide +kernel
theorem dX12_map_31 : decode cX12_map 31 = .ok (.aload_n 0, 1) := by decide +kernel
theorem dX12_map_32 : decode cX12_map 32 = .ok (.iconst (-1), 1) := by decide +kernel
theorem dX12_map_33 : decode cX12_map 33 = .ok (.putfield 62, 3) := by decide +kernel
theorem dX12_map_36 : decode cX12_map 36 = .ok (.aload_n 0, 1) := by decide +kernel
theorem dX12_map_37 : decode cX12_map 37 = .ok (.invokevirtual 324, 3) := by decide +kernel
theorem dX12_map_40 : decode cX12_map 40 = .ok (.aload_n 0, 1) := by decide +kernel
theorem dX12_map_41 : decode cX12_map 41 = .ok (.iconst (-1), 1) := by decide +kernel
theorem dX12_map_42 : decode cX12_map 42 = .ok (.iconst (-1), 1) := by decide +kernel
theorem dX12_map_43 : decode cX12_map 43 = .ok (.invokevirtual 390, 3) := by decide +kernel
theorem dX12_map_46 : decode cX12_map 46 = .ok (.iconst 0, 1) := by decide +kernel
theorem dX12_map_47 : decode cX12_map 47 = .ok (.istore_n 3, 1) := by decide +kernel
theorem dX12_map_48 : decode cX12_map 48 = .ok (.iload_n 3, 1) := by decide +kernel
theorem dX12_map_49 : decode cX12_map 49 = .ok (.aload_n 0, 1) := by decide +kernel
theorem dX12_map_50 : decode cX12_map 50 = .ok (.getfield 334, 3) := by decide +kernel
theorem dX12_map_53 : decode cX12_map 53 = .ok (.if_icmp .ge 180, 3) := by decide +kernel
theorem dX12_map_56 : decode cX12_map 56 = .ok (.aload_n 0, 1) := by decide +kernel
theorem dX12_map_57 : decode cX12_map 57 = .ok (.aload_n 0, 1) := by decide +kernel
theorem dX12_map_58 : decode cX12_map 58 = .ok (.getfield 65, 3) := by decide +kernel
theorem dX12_map_61 : decode cX12_map 61 = .ok (.iload_n 3, 1) := by decide +kernel
theorem dX12_map_62 : decode cX12_map 62 = .ok (.laload, 1) := by decide +kernel
theorem dX12_map_63 : decode cX12_map 63 = .ok (.aload_n 0, 1) := by decide +kernel
theorem dX12_map_64 : decode cX12_map 64 = .ok (.getfield 68, 3) := by decide +kernel
theorem dX12_map_67 : decode cX12_map 67 = .ok (.iload_n 3, 1) := by decide +kernel
theorem dX12_map_68 : decode cX12_map 68 = .ok (.laload, 1) := by decide +kernel
theorem dX12_map_69 : decode cX12_map 69 = .ok (.invokevirtual 377, 3) := by decide +kernel
theorem dX12_map_72 : decode cX12_map 72 = .ok (.aload_n 0, 1) := by decide +kernel
theorem dX12_map_73 : decode cX12_map 73 = .ok (.getfield 80, 3) := by decide +kernel
theorem dX12_map_76 : decode cX12_map 76 = .ok (.iload_n 3, 1) := by decide +kernel
theorem dX12_map_77 : decode cX12_map 77 = .ok (.aload_n 0, 1) := by decide +kernel
theorem dX12_map_78 : decode cX12_map 78 = .ok (.aload_n 2, 1) := by decide +kernel
theorem dX12_map_79 : decode cX12_map 79 = .ok (.invokevirtual 381, 3) := by decide +kernel
theorem dX12_map_82 : decode cX12_map 82 = .ok (.iastore, 1) := by decide +kernel
theorem dX12_map_83 : decode cX12_map 83 = .ok (.iconst 0, 1) := by decide +kernel
theorem dX12_map_84 : decode cX12_map 84 = .ok (.istore 4, 2) := by decide +kernel
theorem dX12_map_86 : decode cX12_map 86 = .ok (.iload 4, 2) := by decide +kernel
theorem dX12_map_88 : decode cX12_map 88 = .ok (.bipush 27, 2) := by decide +kernel
theorem dX12_map_90 : decode cX12_map 90 = .ok (.if_icmp .ge 137, 3) := by decide +kernel
theorem dX12_map_93 : decode cX12_map 93 = .ok (.aload_n 0, 1) := by decide +kernel
theorem dX12_map_94 : decode cX12_map 94 = .ok (.getfield 92, 3) := by decide +kernel
theorem dX12_map_97 : decode cX12_map 97 = .ok (.bipush 27, 2) := by decide +kernel
theorem dX12_map_99 : decode cX12_map 99 = .ok (.iload_n 3, 1) := by decide +kernel
theorem dX12_map_100 : decode cX12_map 100 = .ok (.imul, 1) := by decide +kernel
theorem dX12_map_101 : decode cX12_map 101 = .ok (.iload 4, 2) := by decide +kernel
theorem dX12_map_103 : decode cX12_map 103 = .ok (.iadd, 1) := by decide +kernel
theorem dX12_map_104 : decode cX12_map 104 = .ok (.bipush (-2), 2) := by decide +kernel
theorem dX12_map_106 : decode cX12_map 106 = .ok (.iastore, 1) := by decide +kernel
theorem dX12_map_107 : decode cX12_map 107 = .ok (.aload_n 0, 1) := by decide +kernel
theorem dX12_map_108 : decode cX12_map 108 = .ok (.getfield 80, 3) := by decide +kernel
theorem dX12_map_111 : decode cX12_map 111 = .ok (.iload_n 3, 1) := by decide +kernel
theorem dX12_map_112 : decode cX12_map 112 = .ok (.iaload, 1) := by decide +kernel
theorem dX12_map_113 : decode cX12_map 113 = .ok (.iload 4, 2) := by decide +kernel
theorem dX12_map_115 : decode cX12_map 115 = .ok (.ishr, 1) := by decide +kernel
theorem dX12_map_116 : decode cX12_map 116 = .ok (.iconst 1, 1) := by decide +kernel
theorem dX12_map_117 : decode cX12_map 117 = .ok (.iand, 1) := by decide +kernel
theorem dX12_map_118 : decode cX12_map 118 = .ok (.ifCond .ne 6, 3) := by decide +kernel
theorem dX12_map_121 : decode cX12_map 121 = .ok (.goto 100, 3) := by decide +kernel
theorem dX12_map_124 : decode cX12_map 124 = .ok (.aload_n 0, 1) := by decide +kernel
theorem dX12_map_125 : decode cX12_map 125 = .ok (.aload_n 0, 1) := by decide +kernel
theorem dX12_map_126 : decode cX12_map 126 = .ok (.getfield 65, 3) := by decide +kernel
theorem dX12_map_129 : decode cX12_map 129 = .ok (.iload_n 3, 1) := by decide +kernel
theorem dX12_map_130 : decode cX12_map 130 = .ok (.laload, 1) := by decide +kernel
theorem dX12_map_131 : decode cX12_map 131 = .ok (.aload_n 0, 1) := by decide +kernel
theorem dX12_map_132 : decode cX12_map 132 = .ok (.getfield 68, 3) := by decide +kernel
theorem dX12_map_135 : decode cX12_map 135 = .ok (.iload_n 3, 1) := by decide +kernel
theorem dX12_map_136 : decode cX12_map 136 = .ok (.laload, 1) := by decide +kernel
theorem dX12_map_137 : decode cX12_map 137 = .ok (.invokevirtual 377, 3) := by decide +kernel
theorem dX12_map_140 : decode cX12_map 140 = .ok (.aload_n 0, 1) := by decide +kernel
theorem dX12_map_141 : decode cX12_map 141 = .ok (.aload_n 2, 1) := by decide +kernel
theorem dX12_map_142 : decode cX12_map 142 = .ok (.iload 4, 2) := by decide +kernel
theorem dX12_map_144 : decode cX12_map 144 = .ok (.invokevirtual 384, 3) := by decide +kernel
theorem dX12_map_147 : decode cX12_map 147 = .ok (.aload_n 0, 1) := by decide +kernel
theorem dX12_map_148 : decode cX12_map 148 = .ok (.aload_n 0, 1) := by decide +kernel
theorem dX12_map_149 : decode cX12_map 149 = .ok (.invokevirtual 327, 3) := by decide +kernel
theorem dX12_map_152 : decode cX12_map 152 = .ok (.aload_n 0, 1) := by decide +kernel
theorem dX12_map_153 : decode cX12_map 153 = .ok (.invokevirtual 331, 3) := by decide +kernel
theorem dX12_map_156 : decode cX12_map 156 = .ok (.invokevirtual 394, 3) := by decide +kernel
theorem dX12_map_159 : decode cX12_map 159 = .ok (.istore 5, 2) := by decide +kernel
theorem dX12_map_161 : decode cX12_map 161 = .ok (.iload 5, 2) := by decide +kernel
theorem dX12_map_163 : decode cX12_map 163 = .ok (.iconst (-1), 1) := by decide +kernel
theorem dX12_map_164 : decode cX12_map 164 = .ok (.if_icmp .ne 24, 3) := by decide +kernel
theorem dX12_map_167 : decode cX12_map 167 = .ok (.aload_n 0, 1) := by decide +kernel
theorem dX12_map_168 : decode cX12_map 168 = .ok (.getfield 334, 3) := by decide +kernel
theorem dX12_map_171 : decode cX12_map 171 = .ok (.sipush 400, 3) := by decide +kernel
theorem dX12_map_174 : decode cX12_map 174 = .ok (.if_icmp .ne 14, 3) := by decide +kernel
theorem dX12_map_177 : decode cX12_map 177 = .ok (.aload_n 0, 1) := by decide +kernel
theorem dX12_map_178 : decode cX12_map 178 = .ok (.iconst 0, 1) := by decide +kernel
theorem dX12_map_179 : decode cX12_map 179 = .ok (.putfield 334, 3) := by decide +kernel
theorem dX12_map_182 : decode cX12_map 182 = .ok (.aload_n 0, 1) := by decide +kernel
theorem dX12_map_183 : decode cX12_map 183 = .ok (.iconst 5, 1) := by decide +kernel
theorem dX12_map_184 : decode cX12_map 184 = .ok (.invokevirtual 316, 3) := by decide +kernel
theorem dX12_map_187 : decode cX12_map 187 = .ok (.ireturn, 1) := by decide +kernel
theorem dX12_map_188 : decode cX12_map 188 = .ok (.iload 5, 2) := by decide +kernel
theorem dX12_map_190 : decode cX12_map 190 = .ok (.iconst (-1), 1) := by decide +kernel
theorem dX12_map_191 : decode cX12_map 191 = .ok (.if_icmp .ne 16, 3) := by decide +kernel
theorem dX12_map_194 : decode cX12_map 194 = .ok (.aload_n 0, 1) := by decide +kernel
theorem dX12_map_195 : decode cX12_map 195 = .ok (.getfield 334, 3) := by decide +kernel
theorem dX12_map_198 : decode cX12_map 198 = .ok (.istore 5, 2) := by decide +kernel
theorem dX12_map_200 : decode cX12_map 200 = .ok (.aload_n 0, 1) := by decide +kernel
theorem dX12_map_201 : decode cX12_map 201 = .ok (.iload_n 3, 1) := by decide +kernel
theorem dX12_map_202 : decode cX12_map 202 = .ok (.iload 4, 2) := by decide +kernel
theorem dX12_map_204 : decode cX12_map 204 = .ok (.invokevirtual 390, 3) := by decide +kernel
theorem dX12_map_207 : decode cX12_map 207 = .ok (.aload_n 0, 1) := by decide +kernel
theorem dX12_map_208 : decode cX12_map 208 = .ok (.getfield 92, 3) := by decide +kernel
theorem dX12_map_211 : decode cX12_map 211 = .ok (.bipush 27, 2) := by decide +kernel
theorem dX12_map_213 : decode cX12_map 213 = .ok (.iload_n 3, 1) := by decide +kernel
theorem dX12_map_214 : decode cX12_map 214 = .ok (.imul, 1) := by decide +kernel
theorem dX12_map_215 : decode cX12_map 215 = .ok (.iload 4, 2) := by decide +kernel
theorem dX12_map_217 : decode cX12_map 217 = .ok (.iadd, 1) := by decide +kernel
theorem dX12_map_218 : decode cX12_map 218 = .ok (.iload 5, 2) := by decide +kernel
theorem dX12_map_220 : decode cX12_map 220 = .ok (.iastore, 1) := by decide +kernel
theorem dX12_map_221 : decode cX12_map 221 = .ok (.iinc 4 1, 3) := by decide +kernel
theorem dX12_map_224 : decode cX12_map 224 = .ok (.goto (-138), 3) := by decide +kernel
theorem dX12_map_227 : decode cX12_map 227 = .ok (.iinc 3 1, 3) := by decide +kernel
theorem dX12_map_230 : decode cX12_map 230 = .ok (.goto (-182), 3) := by decide +kernel
theorem dX12_map_233 : decode cX12_map 233 = .ok (.aload_n 0, 1) := by decide +kernel
theorem dX12_map_234 : decode cX12_map 234 = .ok (.iload_n 1, 1) := by decide +kernel
theorem dX12_map_235 : decode cX12_map 235 = .ok (.putfield 62, 3) := by decide +kernel
theorem dX12_map_238 : decode cX12_map 238 = .ok (.aload_n 0, 1) := by decide +kernel
theorem dX12_map_239 : decode cX12_map 239 = .ok (.invokevirtual 398, 3) := by decide +kernel
theorem dX12_map_242 : decode cX12_map 242 = .ok (.aload_n 0, 1) := by decide +kernel
theorem dX12_map_243 : decode cX12_map 243 = .ok (.aload_n 0, 1) := by decide +kernel
theorem dX12_map_244 : decode cX12_map 244 = .ok (.getfield 334, 3) := by decide +kernel
theorem dX12_map_247 : decode cX12_map 247 = .ok (.invokevirtual 337, 3) := by decide +kernel
theorem dX12_map_250 : decode cX12_map 250 = .ok (.ireturn, 1) := by decide +kernel
theorem dX12_view_0 : decode cX12_view 0 = .ok (.aload_n 0, 1) := by decide +kernel
theorem dX12_view_1 : decode cX12_view 1 = .ok (.aload_n 0, 1) := by decide +kernel
theorem dX12_view_2 : decode cX12_view 2 = .ok (.getfield 65, 3) := by decide +kernel
theorem dX12_view_5 : decode cX12_view 5 = .ok (.iload_n 2, 1) := by decide +kernel
theorem dX12_view_6 : decode cX12_view 6 = .ok (.laload, 1) := by decide +kernel
theorem dX12_view_7 : decode cX12_view 7 = .ok (.aload_n 0, 1) := by decide +kernel
theorem dX12_view_8 : decode cX12_view 8 = .ok (.getfield 68, 3) := by decide +kernel
theorem dX12_view_11 : decode cX12_view 11 = .ok (.iload_n 2, 1) := by decide +kernel
theorem dX12_view_12 : decode cX12_view 12 = .ok (.laload, 1) := by decide +kernel
theorem dX12_view_13 : decode cX12_view 13 = .ok (.invokevirtual 377, 3) := by decide +kernel
theorem dX12_view_16 : decode cX12_view 16 = .ok (.aload_n 0, 1) := by decide +kernel
theorem dX12_view_17 : decode cX12_view 17 = .ok (.getfield 343, 3) := by decide +kernel
theorem dX12_view_20 : decode cX12_view 20 = .ok (.ifCond .le 10, 3) := by decide +kernel
theorem dX12_view_23 : decode cX12_view 23 = .ok (.aload_n 0, 1) := by decide +kernel
theorem dX12_view_24 : decode cX12_view 24 = .ok (.getfield 343, 3) := by decide +kernel
theorem dX12_view_27 : decode cX12_view 27 = .ok (.ineg, 1) := by decide +kernel
theorem dX12_view_28 : decode cX12_view 28 = .ok (.i2l, 1) := by decide +kernel
theorem dX12_view_29 : decode cX12_view 29 = .ok (.lreturn, 1) := by decide +kernel
theorem dX12_view_30 : decode cX12_view 30 = .ok (.aload_n 0, 1) := by decide +kernel
theorem dX12_view_31 : decode cX12_view 31 = .ok (.getfield 52, 3) := by decide +kernel
theorem dX12_view_34 : decode cX12_view 34 = .ok (.aload_n 0, 1) := by decide +kernel
theorem dX12_view_35 : decode cX12_view 35 = .ok (.getfield 346, 3) := by decide +kernel
theorem dX12_view_38 : decode cX12_view 38 = .ok (.iconst 1, 1) := by decide +kernel
theorem dX12_view_39 : decode cX12_view 39 = .ok (.isub, 1) := by decide +kernel
theorem dX12_view_40 : decode cX12_view 40 = .ok (.iaload, 1) := by decide +kernel
theorem dX12_view_41 : decode cX12_view 41 = .ok (.istore_n 3, 1) := by decide +kernel
theorem dX12_view_42 : decode cX12_view 42 = .ok (.iload_n 3, 1) := by decide +kernel
theorem dX12_view_43 : decode cX12_view 43 = .ok (.i2l, 1) := by decide +kernel
theorem dX12_view_44 : decode cX12_view 44 = .ok (.lstore 4, 2) := by decide +kernel
theorem dX12_view_46 : decode cX12_view 46 = .ok (.iconst 0, 1) := by decide +kernel
theorem dX12_view_47 : decode cX12_view 47 = .ok (.istore 6, 2) := by decide +kernel
theorem dX12_view_49 : decode cX12_view 49 = .ok (.iload 6, 2) := by decide +kernel
theorem dX12_view_51 : decode cX12_view 51 = .ok (.bipush 6, 2) := by decide +kernel
theorem dX12_view_53 : decode cX12_view 53 = .ok (.if_icmp .ge 49, 3) := by decide +kernel
theorem dX12_view_56 : decode cX12_view 56 = .ok (.lload 4, 2) := by decide +kernel
theorem dX12_view_58 : decode cX12_view 58 = .ok (.iconst 4, 1) := by decide +kernel
theorem dX12_view_59 : decode cX12_view 59 = .ok (.lshl, 1) := by decide +kernel
theorem dX12_view_60 : decode cX12_view 60 = .ok (.iload 6, 2) := by decide +kernel
theorem dX12_view_62 : decode cX12_view 62 = .ok (.aload_n 1, 1) := by decide +kernel
theorem dX12_view_63 : decode cX12_view 63 = .ok (.getfield 252, 3) := by decide +kernel
theorem dX12_view_66 : decode cX12_view 66 = .ok (.iload_n 3, 1) := by decide +kernel
theorem dX12_view_67 : decode cX12_view 67 = .ok (.iaload, 1) := by decide +kernel
theorem dX12_view_68 : decode cX12_view 68 = .ok (.if_icmp .ge 23, 3) := by decide +kernel
theorem dX12_view_71 : decode cX12_view 71 = .ok (.aload_n 0, 1) := by decide +kernel
theorem dX12_view_72 : decode cX12_view 72 = .ok (.getfield 59, 3) := by decide +kernel
theorem dX12_view_75 : decode cX12_view 75 = .ok (.aload_n 1, 1) := by decide +kernel
theorem dX12_view_76 : decode cX12_view 76 = .ok (.getfield 257, 3) := by decide +kernel
theorem dX12_view_79 : decode cX12_view 79 = .ok (.bipush 6, 2) := by decide +kernel
theorem dX12_view_81 : decode cX12_view 81 = .ok (.iload_n 3, 1) := by decide +kernel
theorem dX12_view_82 : decode cX12_view 82 = .ok (.imul, 1) := by decide +kernel
theorem dX12_view_83 : decode cX12_view 83 = .ok (.iload 6, 2) := by decide +kernel
theorem dX12_view_85 : decode cX12_view 85 = .ok (.iadd, 1) := by decide +kernel
theorem dX12_view_86 : decode cX12_view 86 = .ok (.iaload, 1) := by decide +kernel
theorem dX12_view_87 : decode cX12_view 87 = .ok (.iaload, 1) := by decide +kernel
theorem dX12_view_88 : decode cX12_view 88 = .ok (.goto 4, 3) := by decide +kernel
theorem dX12_view_91 : decode cX12_view 91 = .ok (.iconst 0, 1) := by decide +kernel
theorem dX12_view_92 : decode cX12_view 92 = .ok (.i2l, 1) := by decide +kernel
theorem dX12_view_93 : decode cX12_view 93 = .ok (.lor, 1) := by decide +kernel
theorem dX12_view_94 : decode cX12_view 94 = .ok (.lstore 4, 2) := by decide +kernel
theorem dX12_view_96 : decode cX12_view 96 = .ok (.iinc 6 1, 3) := by decide +kernel
theorem dX12_view_99 : decode cX12_view 99 = .ok (.goto (-50), 3) := by decide +kernel
theorem dX12_view_102 : decode cX12_view 102 = .ok (.lload 4, 2) := by decide +kernel
theorem dX12_view_104 : decode cX12_view 104 = .ok (.bipush 24, 2) := by decide +kernel
theorem dX12_view_106 : decode cX12_view 106 = .ok (.lshl, 1) := by decide +kernel
theorem dX12_view_107 : decode cX12_view 107 = .ok (.aload_n 0, 1) := by decide +kernel
theorem dX12_view_108 : decode cX12_view 108 = .ok (.aload_n 1, 1) := by decide +kernel
theorem dX12_view_109 : decode cX12_view 109 = .ok (.invokevirtual 354, 3) := by decide +kernel
theorem dX12_view_112 : decode cX12_view 112 = .ok (.i2l, 1) := by decide +kernel
theorem dX12_view_113 : decode cX12_view 113 = .ok (.lor, 1) := by decide +kernel
theorem dX12_view_114 : decode cX12_view 114 = .ok (.lreturn, 1) := by decide +kernel
theorem dX12_parts_0 : decode cX12_parts 0 = .ok (.aload_n 0, 1) := by decide +kernel
theorem dX12_parts_1 : decode cX12_parts 1 = .ok (.getfield 21, 3) := by decide +kernel
theorem dX12_parts_4 : decode cX12_parts 4 = .ok (.aload_n 0, 1) := by decide +kernel
theorem dX12_parts_5 : decode cX12_parts 5 = .ok (.getfield 62, 3) := by decide +kernel
theorem dX12_parts_8 : decode cX12_parts 8 = .ok (.aaload, 1) := by decide +kernel
theorem dX12_parts_9 : decode cX12_parts 9 = .ok (.astore_n 1, 1) := by decide +kernel
theorem dX12_parts_10 : decode cX12_parts 10 = .ok (.iconst 0, 1) := by decide +kernel
theorem dX12_parts_11 : decode cX12_parts 11 = .ok (.istore_n 2, 1) := by decide +kernel
theorem dX12_parts_12 : decode cX12_parts 12 = .ok (.iload_n 2, 1) := by decide +kernel
theorem dX12_parts_13 : decode cX12_parts 13 = .ok (.aload_n 0, 1) := by decide +kernel
theorem dX12_parts_14 : decode cX12_parts 14 = .ok (.getfield 334, 3) := by decide +kernel
theorem dX12_parts_17 : decode cX12_parts 17 = .ok (.if_icmp .ge 28, 3) := by decide +kernel
theorem dX12_parts_20 : decode cX12_parts 20 = .ok (.aload_n 0, 1) := by decide +kernel
theorem dX12_parts_21 : decode cX12_parts 21 = .ok (.getfield 95, 3) := by decide +kernel
theorem dX12_parts_24 : decode cX12_parts 24 = .ok (.iload_n 2, 1) := by decide +kernel
theorem dX12_parts_25 : decode cX12_parts 25 = .ok (.aload_n 0, 1) := by decide +kernel
theorem dX12_parts_26 : decode cX12_parts 26 = .ok (.aload_n 1, 1) := by decide +kernel
theorem dX12_parts_27 : decode cX12_parts 27 = .ok (.iload_n 2, 1) := by decide +kernel
theorem dX12_parts_28 : decode cX12_parts 28 = .ok (.invokevirtual 401, 3) := by decide +kernel
theorem dX12_parts_31 : decode cX12_parts 31 = .ok (.lastore, 1) := by decide +kernel
theorem dX12_parts_32 : decode cX12_parts 32 = .ok (.aload_n 0, 1) := by decide +kernel
theorem dX12_parts_33 : decode cX12_parts 33 = .ok (.getfield 83, 3) := by decide +kernel
theorem dX12_parts_36 : decode cX12_parts 36 = .ok (.iload_n 2, 1) := by decide +kernel
theorem dX12_parts_37 : decode cX12_parts 37 = .ok (.iconst 0, 1) := by decide +kernel
theorem dX12_parts_38 : decode cX12_parts 38 = .ok (.iastore, 1) := by decide +kernel
theorem dX12_parts_39 : decode cX12_parts 39 = .ok (.iinc 2 1, 3) := by decide +kernel
theorem dX12_parts_42 : decode cX12_parts 42 = .ok (.goto (-30), 3) := by decide +kernel
theorem dX12_parts_45 : decode cX12_parts 45 = .ok (.iconst 0, 1) := by decide +kernel
theorem dX12_parts_46 : decode cX12_parts 46 = .ok (.istore_n 2, 1) := by decide +kernel
theorem dX12_parts_47 : decode cX12_parts 47 = .ok (.aload_n 0, 1) := by decide +kernel
theorem dX12_parts_48 : decode cX12_parts 48 = .ok (.iconst 1, 1) := by decide +kernel
theorem dX12_parts_49 : decode cX12_parts 49 = .ok (.putfield 405, 3) := by decide +kernel
theorem dX12_parts_52 : decode cX12_parts 52 = .ok (.aload_n 0, 1) := by decide +kernel
theorem dX12_parts_53 : decode cX12_parts 53 = .ok (.getfield 405, 3) := by decide +kernel
theorem dX12_parts_56 : decode cX12_parts 56 = .ok (.iload_n 2, 1) := by decide +kernel
theorem dX12_parts_57 : decode cX12_parts 57 = .ok (.if_icmp .eq 128, 3) := by decide +kernel
theorem dX12_parts_60 : decode cX12_parts 60 = .ok (.aload_n 0, 1) := by decide +kernel
theorem dX12_parts_61 : decode cX12_parts 61 = .ok (.getfield 405, 3) := by decide +kernel
theorem dX12_parts_64 : decode cX12_parts 64 = .ok (.istore_n 2, 1) := by decide +kernel
theorem dX12_parts_65 : decode cX12_parts 65 = .ok (.aload_n 0, 1) := by decide +kernel
theorem dX12_parts_66 : decode cX12_parts 66 = .ok (.iconst 0, 1) := by decide +kernel
theorem dX12_parts_67 : decode cX12_parts 67 = .ok (.putfield 405, 3) := by decide +kernel
theorem dX12_parts_70 : decode cX12_parts 70 = .ok (.iconst 0, 1) := by decide +kernel
theorem dX12_parts_71 : decode cX12_parts 71 = .ok (.istore_n 3, 1) := by decide +kernel
theorem dX12_parts_72 : decode cX12_parts 72 = .ok (.iload_n 3, 1) := by decide +kernel
theorem dX12_parts_73 : decode cX12_parts 73 = .ok (.aload_n 0, 1) := by decide +kernel
theorem dX12_parts_74 : decode cX12_parts 74 = .ok (.getfield 334, 3) := by decide +kernel
theorem dX12_parts_77 : decode cX12_parts 77 = .ok (.if_icmp .ge 77, 3) := by decide +kernel
theorem dX12_parts_80 : decode cX12_parts 80 = .ok (.iconst 0, 1) := by decide +kernel
theorem dX12_parts_81 : decode cX12_parts 81 = .ok (.istore 4, 2) := by decide +kernel
theorem dX12_parts_83 : decode cX12_parts 83 = .ok (.iload 4, 2) := by decide +kernel
theorem dX12_parts_85 : decode cX12_parts 85 = .ok (.aload_n 0, 1) := by decide +kernel
theorem dX12_parts_86 : decode cX12_parts 86 = .ok (.getfield 405, 3) := by decide +kernel
theorem dX12_parts_89 : decode cX12_parts 89 = .ok (.if_icmp .ge 24, 3) := by decide +kernel
theorem dX12_parts_92 : decode cX12_parts 92 = .ok (.aload_n 0, 1) := by decide +kernel
theorem dX12_parts_93 : decode cX12_parts 93 = .ok (.iload_n 3, 1) := by decide +kernel
theorem dX12_parts_94 : decode cX12_parts 94 = .ok (.aload_n 0, 1) := by decide +kernel
theorem dX12_parts_95 : decode cX12_parts 95 = .ok (.getfield 89, 3) := by decide +kernel
theorem dX12_parts_98 : decode cX12_parts 98 = .ok (.iload 4, 2) := by decide +kernel
theorem dX12_parts_100 : decode cX12_parts 100 = .ok (.iaload, 1) := by decide +kernel
theorem dX12_parts_101 : decode cX12_parts 101 = .ok (.invokevirtual 408, 3) := by decide +kernel
theorem dX12_parts_104 : decode cX12_parts 104 = .ok (.ifCond .ne 9, 3) := by decide +kernel
theorem dX12_parts_107 : decode cX12_parts 107 = .ok (.iinc 4 1, 3) := by decide +kernel
theorem dX12_parts_110 : decode cX12_parts 110 = .ok (.goto (-27), 3) := by decide +kernel
theorem dX12_parts_113 : decode cX12_parts 113 = .ok (.iload 4, 2) := by decide +kernel
theorem dX12_parts_115 : decode cX12_parts 115 = .ok (.aload_n 0, 1) := by decide +kernel
theorem dX12_parts_116 : decode cX12_parts 116 = .ok (.getfield 405, 3) := by decide +kernel
theorem dX12_parts_119 : decode cX12_parts 119 = .ok (.if_icmp .ne 21, 3) := by decide +kernel
theorem dX12_parts_122 : decode cX12_parts 122 = .ok (.aload_n 0, 1) := by decide +kernel
theorem dX12_parts_123 : decode cX12_parts 123 = .ok (.getfield 89, 3) := by decide +kernel
theorem dX12_parts_126 : decode cX12_parts 126 = .ok (.iload 4, 2) := by decide +kernel
theorem dX12_parts_128 : decode cX12_parts 128 = .ok (.iload_n 3, 1) := by decide +kernel
theorem dX12_parts_129 : decode cX12_parts 129 = .ok (.iastore, 1) := by decide +kernel
theorem dX12_parts_130 : decode cX12_parts 130 = .ok (.aload_n 0, 1) := by decide +kernel
theorem dX12_parts_131 : decode cX12_parts 131 = .ok (.dup, 1) := by decide +kernel
theorem dX12_parts_132 : decode cX12_parts 132 = .ok (.getfield 405, 3) := by decide +kernel
theorem dX12_parts_135 : decode cX12_parts 135 = .ok (.iconst 1, 1) := by decide +kernel
theorem dX12_parts_136 : decode cX12_parts 136 = .ok (.iadd, 1) := by decide +kernel
theorem dX12_parts_137 : decode cX12_parts 137 = .ok (.putfield 405, 3) := by decide +kernel
theorem dX12_parts_140 : decode cX12_parts 140 = .ok (.aload_n 0, 1) := by decide +kernel
theorem dX12_parts_141 : decode cX12_parts 141 = .ok (.getfield 86, 3) := by decide +kernel
theorem dX12_parts_144 : decode cX12_parts 144 = .ok (.iload_n 3, 1) := by decide +kernel
theorem dX12_parts_145 : decode cX12_parts 145 = .ok (.iload 4, 2) := by decide +kernel
theorem dX12_parts_147 : decode cX12_parts 147 = .ok (.iastore, 1) := by decide +kernel
theorem dX12_parts_148 : decode cX12_parts 148 = .ok (.iinc 3 1, 3) := by decide +kernel
theorem dX12_parts_151 : decode cX12_parts 151 = .ok (.goto (-79), 3) := by decide +kernel
theorem dX12_parts_154 : decode cX12_parts 154 = .ok (.iconst 0, 1) := by decide +kernel
theorem dX12_parts_155 : decode cX12_parts 155 = .ok (.istore_n 3, 1) := by decide +kernel
theorem dX12_parts_156 : decode cX12_parts 156 = .ok (.iload_n 3, 1) := by decide +kernel
theorem dX12_parts_157 : decode cX12_parts 157 = .ok (.aload_n 0, 1) := by decide +kernel
theorem dX12_parts_158 : decode cX12_parts 158 = .ok (.getfield 334, 3) := by decide +kernel
theorem dX12_parts_161 : decode cX12_parts 161 = .ok (.if_icmp .ge 21, 3) := by decide +kernel
theorem dX12_parts_164 : decode cX12_parts 164 = .ok (.aload_n 0, 1) := by decide +kernel
theorem dX12_parts_165 : decode cX12_parts 165 = .ok (.getfield 83, 3) := by decide +kernel
theorem dX12_parts_168 : decode cX12_parts 168 = .ok (.iload_n 3, 1) := by decide +kernel
theorem dX12_parts_169 : decode cX12_parts 169 = .ok (.aload_n 0, 1) := by decide +kernel
theorem dX12_parts_170 : decode cX12_parts 170 = .ok (.getfield 86, 3) := by decide +kernel
theorem dX12_parts_173 : decode cX12_parts 173 = .ok (.iload_n 3, 1) := by decide +kernel
theorem dX12_parts_174 : decode cX12_parts 174 = .ok (.iaload, 1) := by decide +kernel
theorem dX12_parts_175 : decode cX12_parts 175 = .ok (.iastore, 1) := by decide +kernel
theorem dX12_parts_176 : decode cX12_parts 176 = .ok (.iinc 3 1, 3) := by decide +kernel
theorem dX12_parts_179 : decode cX12_parts 179 = .ok (.goto (-23), 3) := by decide +kernel
theorem dX12_parts_182 : decode cX12_parts 182 = .ok (.goto (-130), 3) := by decide +kernel
theorem dX12_parts_185 : decode cX12_parts 185 = .ok (.return_, 1) := by decide +kernel
theorem dX12_isLike_0 : decode cX12_isLike 0 = .ok (.aload_n 0, 1) := by decide +kernel
theorem dX12_isLike_1 : decode cX12_isLike 1 = .ok (.getfield 83, 3) := by decide +kernel
theorem dX12_isLike_4 : decode cX12_isLike 4 = .ok (.iload_n 1, 1) := by decide +kernel
theorem dX12_isLike_5 : decode cX12_isLike 5 = .ok (.iaload, 1) := by decide +kernel
theorem dX12_isLike_6 : decode cX12_isLike 6 = .ok (.aload_n 0, 1) := by decide +kernel
theorem dX12_isLike_7 : decode cX12_isLike 7 = .ok (.getfield 83, 3) := by decide +kernel
theorem dX12_isLike_10 : decode cX12_isLike 10 = .ok (.iload_n 2, 1) := by decide +kernel
theorem dX12_isLike_11 : decode cX12_isLike 11 = .ok (.iaload, 1) := by decide +kernel
theorem dX12_isLike_12 : decode cX12_isLike 12 = .ok (.if_icmp .ne 38, 3) := by decide +kernel
theorem dX12_isLike_15 : decode cX12_isLike 15 = .ok (.aload_n 0, 1) := by decide +kernel
theorem dX12_isLike_16 : decode cX12_isLike 16 = .ok (.getfield 95, 3) := by decide +kernel
theorem dX12_isLike_19 : decode cX12_isLike 19 = .ok (.iload_n 1, 1) := by decide +kernel
theorem dX12_isLike_20 : decode cX12_isLike 20 = .ok (.laload, 1) := by decide +kernel
theorem dX12_isLike_21 : decode cX12_isLike 21 = .ok (.aload_n 0, 1) := by decide +kernel
theorem dX12_isLike_22 : decode cX12_isLike 22 = .ok (.getfield 95, 3) := by decide +kernel
theorem dX12_isLike_25 : decode cX12_isLike 25 = .ok (.iload_n 2, 1) := by decide +kernel
theorem dX12_isLike_26 : decode cX12_isLike 26 = .ok (.laload, 1) := by decide +kernel
theorem dX12_isLike_27 : decode cX12_isLike 27 = .ok (.lcmp, 1) := by decide +kernel
theorem dX12_isLike_28 : decode cX12_isLike 28 = .ok (.ifCond .ne 22, 3) := by decide +kernel
theorem dX12_isLike_31 : decode cX12_isLike 31 = .ok (.aload_n 0, 1) := by decide +kernel
theorem dX12_isLike_32 : decode cX12_isLike 32 = .ok (.getfield 80, 3) := by decide +kernel
theorem dX12_isLike_35 : decode cX12_isLike 35 = .ok (.iload_n 1, 1) := by decide +kernel
theorem dX12_isLike_36 : decode cX12_isLike 36 = .ok (.iaload, 1) := by decide +kernel
theorem dX12_isLike_37 : decode cX12_isLike 37 = .ok (.aload_n 0, 1) := by decide +kernel
theorem dX12_isLike_38 : decode cX12_isLike 38 = .ok (.getfield 80, 3) := by decide +kernel
theorem dX12_isLike_41 : decode cX12_isLike 41 = .ok (.iload_n 2, 1) := by decide +kernel
theorem dX12_isLike_42 : decode cX12_isLike 42 = .ok (.iaload, 1) := by decide +kernel
theorem dX12_isLike_43 : decode cX12_isLike 43 = .ok (.if_icmp .ne 7, 3) := by decide +kernel
theorem dX12_isLike_46 : decode cX12_isLike 46 = .ok (.iconst 1, 1) := by decide +kernel
theorem dX12_isLike_47 : decode cX12_isLike 47 = .ok (.goto 4, 3) := by decide +kernel
theorem dX12_isLike_50 : decode cX12_isLike 50 = .ok (.iconst 0, 1) := by decide +kernel
theorem dX12_isLike_51 : decode cX12_isLike 51 = .ok (.istore_n 3, 1) := by decide +kernel
theorem dX12_isLike_52 : decode cX12_isLike 52 = .ok (.iconst 0, 1) := by decide +kernel
theorem dX12_isLike_53 : decode cX12_isLike 53 = .ok (.istore 4, 2) := by decide +kernel
theorem dX12_isLike_55 : decode cX12_isLike 55 = .ok (.iload 4, 2) := by decide +kernel
theorem dX12_isLike_57 : decode cX12_isLike 57 = .ok (.bipush 27, 2) := by decide +kernel
theorem dX12_isLike_59 : decode cX12_isLike 59 = .ok (.if_icmp .ge 70, 3) := by decide +kernel
theorem dX12_isLike_62 : decode cX12_isLike 62 = .ok (.iload_n 3, 1) := by decide +kernel
theorem dX12_isLike_63 : decode cX12_isLike 63 = .ok (.ifCond .eq 66, 3) := by decide +kernel
theorem dX12_isLike_66 : decode cX12_isLike 66 = .ok (.aload_n 0, 1) := by decide +kernel
theorem dX12_isLike_67 : decode cX12_isLike 67 = .ok (.getfield 80, 3) := by decide +kernel
theorem dX12_isLike_70 : decode cX12_isLike 70 = .ok (.iload_n 1, 1) := by decide +kernel
theorem dX12_isLike_71 : decode cX12_isLike 71 = .ok (.iaload, 1) := by decide +kernel
theorem dX12_isLike_72 : decode cX12_isLike 72 = .ok (.iload 4, 2) := by decide +kernel
theorem dX12_isLike_74 : decode cX12_isLike 74 = .ok (.ishr, 1) := by decide +kernel
theorem dX12_isLike_75 : decode cX12_isLike 75 = .ok (.iconst 1, 1) := by decide +kernel
theorem dX12_isLike_76 : decode cX12_isLike 76 = .ok (.iand, 1) := by decide +kernel
theorem dX12_isLike_77 : decode cX12_isLike 77 = .ok (.ifCond .eq 40, 3) := by decide +kernel
theorem dX12_isLike_80 : decode cX12_isLike 80 = .ok (.aload_n 0, 1) := by decide +kernel
theorem dX12_isLike_81 : decode cX12_isLike 81 = .ok (.getfield 83, 3) := by decide +kernel
theorem dX12_isLike_84 : decode cX12_isLike 84 = .ok (.aload_n 0, 1) := by decide +kernel
theorem dX12_isLike_85 : decode cX12_isLike 85 = .ok (.getfield 92, 3) := by decide +kernel
theorem dX12_isLike_88 : decode cX12_isLike 88 = .ok (.bipush 27, 2) := by decide +kernel
theorem dX12_isLike_90 : decode cX12_isLike 90 = .ok (.iload_n 1, 1) := by decide +kernel
theorem dX12_isLike_91 : decode cX12_isLike 91 = .ok (.imul, 1) := by decide +kernel
theorem dX12_isLike_92 : decode cX12_isLike 92 = .ok (.iload 4, 2) := by decide +kernel
theorem dX12_isLike_94 : decode cX12_isLike 94 = .ok (.iadd, 1) := by decide +kernel
theorem dX12_isLike_95 : decode cX12_isLike 95 = .ok (.iaload, 1) := by decide +kernel
theorem dX12_isLike_96 : decode cX12_isLike 96 = .ok (.iaload, 1) := by decide +kernel
theorem dX12_isLike_97 : decode cX12_isLike 97 = .ok (.aload_n 0, 1) := by decide +kernel
theorem dX12_isLike_98 : decode cX12_isLike 98 = .ok (.getfield 83, 3) := by decide +kernel
theorem dX12_isLike_101 : decode cX12_isLike 101 = .ok (.aload_n 0, 1) := by decide +kernel
theorem dX12_isLike_102 : decode cX12_isLike 102 = .ok (.getfield 92, 3) := by decide +kernel
theorem dX12_isLike_105 : decode cX12_isLike 105 = .ok (.bipush 27, 2) := by decide +kernel
theorem dX12_isLike_107 : decode cX12_isLike 107 = .ok (.iload_n 2, 1) := by decide +kernel
theorem dX12_isLike_108 : decode cX12_isLike 108 = .ok (.imul, 1) := by decide +kernel
theorem dX12_isLike_109 : decode cX12_isLike 109 = .ok (.iload 4, 2) := by decide +kernel
theorem dX12_isLike_111 : decode cX12_isLike 111 = .ok (.iadd, 1) := by decide +kernel
theorem dX12_isLike_112 : decode cX12_isLike 112 = .ok (.iaload, 1) := by decide +kernel
theorem dX12_isLike_113 : decode cX12_isLike 113 = .ok (.iaload, 1) := by decide +kernel
theorem dX12_isLike_114 : decode cX12_isLike 114 = .ok (.if_icmp .ne 7, 3) := by decide +kernel
theorem dX12_isLike_117 : decode cX12_isLike 117 = .ok (.iconst 1, 1) := by decide +kernel
theorem dX12_isLike_118 : decode cX12_isLike 118 = .ok (.goto 4, 3) := by decide +kernel
theorem dX12_isLike_121 : decode cX12_isLike 121 = .ok (.iconst 0, 1) := by decide +kernel
theorem dX12_isLike_122 : decode cX12_isLike 122 = .ok (.istore_n 3, 1) := by decide +kernel
theorem dX12_isLike_123 : decode cX12_isLike 123 = .ok (.iinc 4 1, 3) := by decide +kernel
theorem dX12_isLike_126 : decode cX12_isLike 126 = .ok (.goto (-71), 3) := by decide +kernel
theorem dX12_isLike_129 : decode cX12_isLike 129 = .ok (.iload_n 3, 1) := by decide +kernel
theorem dX12_isLike_130 : decode cX12_isLike 130 = .ok (.ireturn, 1) := by decide +kernel
theorem dX12_isState_0 : decode cX12_isState 0 = .ok (.aload_n 0, 1) := by decide +kernel
theorem dX12_isState_1 : decode cX12_isState 1 = .ok (.getfield 62, 3) := by decide +kernel
theorem dX12_isState_4 : decode cX12_isState 4 = .ok (.iconst (-1), 1) := by decide +kernel
theorem dX12_isState_5 : decode cX12_isState 5 = .ok (.if_icmp .eq 19, 3) := by decide +kernel
theorem dX12_isState_8 : decode cX12_isState 8 = .ok (.iload_n 1, 1) := by decide +kernel
theorem dX12_isState_9 : decode cX12_isState 9 = .ok (.ifCond .lt 15, 3) := by decide +kernel
theorem dX12_isState_12 : decode cX12_isState 12 = .ok (.iload_n 1, 1) := by decide +kernel
theorem dX12_isState_13 : decode cX12_isState 13 = .ok (.aload_n 0, 1) := by decide +kernel
theorem dX12_isState_14 : decode cX12_isState 14 = .ok (.getfield 334, 3) := by decide +kernel
theorem dX12_isState_17 : decode cX12_isState 17 = .ok (.if_icmp .ge 7, 3) := by decide +kernel
theorem dX12_isState_20 : decode cX12_isState 20 = .ok (.iconst 1, 1) := by decide +kernel
theorem dX12_isState_21 : decode cX12_isState 21 = .ok (.goto 4, 3) := by decide +kernel
theorem dX12_isState_24 : decode cX12_isState 24 = .ok (.iconst 0, 1) := by decide +kernel
theorem dX12_isState_25 : decode cX12_isState 25 = .ok (.ireturn, 1) := by decide +kernel
theorem dX12_met_0 : decode cX12_met 0 = .ok (.aload_n 0, 1) := by decide +kernel
theorem dX12_met_1 : decode cX12_met 1 = .ok (.iconst 0, 1) := by decide +kernel
theorem dX12_met_2 : decode cX12_met 2 = .ok (.putfield 1, 3) := by decide +kernel
theorem dX12_met_5 : decode cX12_met 5 = .ok (.aload_n 0, 1) := by decide +kernel
theorem dX12_met_6 : decode cX12_met 6 = .ok (.iload_n 1, 1) := by decide +kernel
theorem dX12_met_7 : decode cX12_met 7 = .ok (.invokevirtual 412, 3) := by decide +kernel
theorem dX12_met_10 : decode cX12_met 10 = .ok (.ifCond .ne 5, 3) := by decide +kernel
theorem dX12_met_13 : decode cX12_met 13 = .ok (.iconst (-1), 1) := by decide +kernel
theorem dX12_met_14 : decode cX12_met 14 = .ok (.ireturn, 1) := by decide +kernel
theorem dX12_met_15 : decode cX12_met 15 = .ok (.aload_n 0, 1) := by decide +kernel
theorem dX12_met_16 : decode cX12_met 16 = .ok (.aload_n 0, 1) := by decide +kernel
theorem dX12_met_17 : decode cX12_met 17 = .ok (.getfield 65, 3) := by decide +kernel
theorem dX12_met_20 : decode cX12_met 20 = .ok (.iload_n 1, 1) := by decide +kernel
theorem dX12_met_21 : decode cX12_met 21 = .ok (.laload, 1) := by decide +kernel
theorem dX12_met_22 : decode cX12_met 22 = .ok (.aload_n 0, 1) := by decide +kernel
theorem dX12_met_23 : decode cX12_met 23 = .ok (.getfield 68, 3) := by decide +kernel
theorem dX12_met_26 : decode cX12_met 26 = .ok (.iload_n 1, 1) := by decide +kernel
theorem dX12_met_27 : decode cX12_met 27 = .ok (.laload, 1) := by decide +kernel
theorem dX12_met_28 : decode cX12_met 28 = .ok (.invokevirtual 377, 3) := by decide +kernel
theorem dX12_met_31 : decode cX12_met 31 = .ok (.iload_n 2, 1) := by decide +kernel
theorem dX12_met_32 : decode cX12_met 32 = .ok (.tableswitch 97 0 5 #[40, 45, 50, 73, 80, 90], 40) := by decide +kernel
theorem dX12_met_72 : decode cX12_met 72 = .ok (.aload_n 0, 1) := by decide +kernel
theorem dX12_met_73 : decode cX12_met 73 = .ok (.getfield 343, 3) := by decide +kernel
theorem dX12_met_76 : decode cX12_met 76 = .ok (.ireturn, 1) := by decide +kernel
theorem dX12_met_77 : decode cX12_met 77 = .ok (.aload_n 0, 1) := by decide +kernel
theorem dX12_met_78 : decode cX12_met 78 = .ok (.getfield 346, 3) := by decide +kernel
theorem dX12_met_81 : decode cX12_met 81 = .ok (.ireturn, 1) := by decide +kernel
theorem dX12_met_82 : decode cX12_met 82 = .ok (.aload_n 0, 1) := by decide +kernel
theorem dX12_met_83 : decode cX12_met 83 = .ok (.getfield 346, 3) := by decide +kernel
theorem dX12_met_86 : decode cX12_met 86 = .ok (.ifCond .le 17, 3) := by decide +kernel
theorem dX12_met_89 : decode cX12_met 89 = .ok (.aload_n 0, 1) := by decide +kernel
theorem dX12_met_90 : decode cX12_met 90 = .ok (.getfield 52, 3) := by decide +kernel
theorem dX12_met_93 : decode cX12_met 93 = .ok (.aload_n 0, 1) := by decide +kernel
theorem dX12_met_94 : decode cX12_met 94 = .ok (.getfield 346, 3) := by decide +kernel
theorem dX12_met_97 : decode cX12_met 97 = .ok (.iconst 1, 1) := by decide +kernel
theorem dX12_met_98 : decode cX12_met 98 = .ok (.isub, 1) := by decide +kernel
theorem dX12_met_99 : decode cX12_met 99 = .ok (.iaload, 1) := by decide +kernel
theorem dX12_met_100 : decode cX12_met 100 = .ok (.goto 4, 3) := by decide +kernel
theorem dX12_met_103 : decode cX12_met 103 = .ok (.iconst (-1), 1) := by decide +kernel
theorem dX12_met_104 : decode cX12_met 104 = .ok (.ireturn, 1) := by decide +kernel
theorem dX12_met_105 : decode cX12_met 105 = .ok (.aload_n 0, 1) := by decide +kernel
theorem dX12_met_106 : decode cX12_met 106 = .ok (.getfield 77, 3) := by decide +kernel
theorem dX12_met_109 : decode cX12_met 109 = .ok (.iload_n 1, 1) := by decide +kernel
theorem dX12_met_110 : decode cX12_met 110 = .ok (.iaload, 1) := by decide +kernel
theorem dX12_met_111 : decode cX12_met 111 = .ok (.ireturn, 1) := by decide +kernel
theorem dX12_met_112 : decode cX12_met 112 = .ok (.aload_n 0, 1) := by decide +kernel
theorem dX12_met_113 : decode cX12_met 113 = .ok (.getfield 80, 3) := by decide +kernel
theorem dX12_met_116 : decode cX12_met 116 = .ok (.iload_n 1, 1) := by decide +kernel
theorem dX12_met_117 : decode cX12_met 117 = .ok (.iaload, 1) := by decide +kernel
theorem dX12_met_118 : decode cX12_met 118 = .ok (.invokestatic 387, 3) := by decide +kernel
theorem dX12_met_121 : decode cX12_met 121 = .ok (.ireturn, 1) := by decide +kernel
theorem dX12_met_122 : decode cX12_met 122 = .ok (.aload_n 0, 1) := by decide +kernel
theorem dX12_met_123 : decode cX12_met 123 = .ok (.getfield 83, 3) := by decide +kernel
theorem dX12_met_126 : decode cX12_met 126 = .ok (.iload_n 1, 1) := by decide +kernel
theorem dX12_met_127 : decode cX12_met 127 = .ok (.iaload, 1) := by decide +kernel
theorem dX12_met_128 : decode cX12_met 128 = .ok (.ireturn, 1) := by decide +kernel
theorem dX12_met_129 : decode cX12_met 129 = .ok (.iconst (-1), 1) := by decide +kernel
theorem dX12_met_130 : decode cX12_met 130 = .ok (.ireturn, 1) := by decide +kernel
theorem dX12_leads_0 : decode cX12_leads 0 = .ok (.aload_n 0, 1) := by decide +kernel
theorem dX12_leads_1 : decode cX12_leads 1 = .ok (.iconst 0, 1) := by decide +kernel
theorem dX12_leads_2 : decode cX12_leads 2 = .ok (.putfield 1, 3) := by decide +kernel
theorem dX12_leads_5 : decode cX12_leads 5 = .ok (.aload_n 0, 1) := by decide +kernel
theorem dX12_leads_6 : decode cX12_leads 6 = .ok (.iload_n 1, 1) := by decide +kernel
theorem dX12_leads_7 : decode cX12_leads 7 = .ok (.invokevirtual 412, 3) := by decide +kernel
theorem dX12_leads_10 : decode cX12_leads 10 = .ok (.ifCond .eq 24, 3) := by decide +kernel
theorem dX12_leads_13 : decode cX12_leads 13 = .ok (.iload_n 2, 1) := by decide +kernel
theorem dX12_leads_14 : decode cX12_leads 14 = .ok (.invokestatic 374, 3) := by decide +kernel
theorem dX12_leads_17 : decode cX12_leads 17 = .ok (.ifCond .eq 17, 3) := by decide +kernel
theorem dX12_leads_20 : decode cX12_leads 20 = .ok (.aload_n 0, 1) := by decide +kernel
theorem dX12_leads_21 : decode cX12_leads 21 = .ok (.getfield 92, 3) := by decide +kernel
theorem dX12_leads_24 : decode cX12_leads 24 = .ok (.bipush 27, 2) := by decide +kernel
theorem dX12_leads_26 : decode cX12_leads 26 = .ok (.iload_n 1, 1) := by decide +kernel
theorem dX12_leads_27 : decode cX12_leads 27 = .ok (.imul, 1) := by decide +kernel
theorem dX12_leads_28 : decode cX12_leads 28 = .ok (.iload_n 2, 1) := by decide +kernel
theorem dX12_leads_29 : decode cX12_leads 29 = .ok (.iadd, 1) := by decide +kernel
theorem dX12_leads_30 : decode cX12_leads 30 = .ok (.iaload, 1) := by decide +kernel
theorem dX12_leads_31 : decode cX12_leads 31 = .ok (.goto 4, 3) := by decide +kernel
theorem dX12_leads_34 : decode cX12_leads 34 = .ok (.iconst (-1), 1) := by decide +kernel
theorem dX12_leads_35 : decode cX12_leads 35 = .ok (.ireturn, 1) := by decide +kernel
theorem dX12_rowTo_0 : decode cX12_rowTo 0 = .ok (.aload_n 0, 1) := by decide +kernel
theorem dX12_rowTo_1 : decode cX12_rowTo 1 = .ok (.iconst 0, 1) := by decide +kernel
theorem dX12_rowTo_2 : decode cX12_rowTo 2 = .ok (.putfield 1, 3) := by decide +kernel
theorem dX12_rowTo_5 : decode cX12_rowTo 5 = .ok (.aload_n 0, 1) := by decide +kernel
theorem dX12_rowTo_6 : decode cX12_rowTo 6 = .ok (.getfield 62, 3) := by decide +kernel
theorem dX12_rowTo_9 : decode cX12_rowTo 9 = .ok (.iconst (-1), 1) := by decide +kernel
theorem dX12_rowTo_10 : decode cX12_rowTo 10 = .ok (.if_icmp .ne 10, 3) := by decide +kernel
theorem dX12_rowTo_13 : decode cX12_rowTo 13 = .ok (.aload_n 0, 1) := by decide +kernel
theorem dX12_rowTo_14 : decode cX12_rowTo 14 = .ok (.bipush 6, 2) := by decide +kernel
theorem dX12_rowTo_16 : decode cX12_rowTo 16 = .ok (.invokevirtual 316, 3) := by decide +kernel
theorem dX12_rowTo_19 : decode cX12_rowTo 19 = .ok (.ireturn, 1) := by decide +kernel
theorem dX12_rowTo_20 : decode cX12_rowTo 20 = .ok (.aload_n 0, 1) := by decide +kernel
theorem dX12_rowTo_21 : decode cX12_rowTo 21 = .ok (.iload_n 1, 1) := by decide +kernel
theorem dX12_rowTo_22 : decode cX12_rowTo 22 = .ok (.invokevirtual 412, 3) := by decide +kernel
theorem dX12_rowTo_25 : decode cX12_rowTo 25 = .ok (.ifCond .ne 9, 3) := by decide +kernel
theorem dX12_rowTo_28 : decode cX12_rowTo 28 = .ok (.aload_n 0, 1) := by decide +kernel
theorem dX12_rowTo_29 : decode cX12_rowTo 29 = .ok (.iconst 1, 1) := by decide +kernel
theorem dX12_rowTo_30 : decode cX12_rowTo 30 = .ok (.invokevirtual 316, 3) := by decide +kernel
theorem dX12_rowTo_33 : decode cX12_rowTo 33 = .ok (.ireturn, 1) := by decide +kernel
theorem dX12_rowTo_34 : decode cX12_rowTo 34 = .ok (.aload_n 0, 1) := by decide +kernel
theorem dX12_rowTo_35 : decode cX12_rowTo 35 = .ok (.aload_n 0, 1) := by decide +kernel
theorem dX12_rowTo_36 : decode cX12_rowTo 36 = .ok (.getfield 77, 3) := by decide +kernel
theorem dX12_rowTo_39 : decode cX12_rowTo 39 = .ok (.iload_n 1, 1) := by decide +kernel
theorem dX12_rowTo_40 : decode cX12_rowTo 40 = .ok (.iaload, 1) := by decide +kernel
theorem dX12_rowTo_41 : decode cX12_rowTo 41 = .ok (.putfield 415, 3) := by decide +kernel
theorem dX12_rowTo_44 : decode cX12_rowTo 44 = .ok (.iload_n 1, 1) := by decide +kernel
theorem dX12_rowTo_45 : decode cX12_rowTo 45 = .ok (.istore_n 2, 1) := by decide +kernel
theorem dX12_rowTo_46 : decode cX12_rowTo 46 = .ok (.aload_n 0, 1) := by decide +kernel
theorem dX12_rowTo_47 : decode cX12_rowTo 47 = .ok (.getfield 415, 3) := by decide +kernel
theorem dX12_rowTo_50 : decode cX12_rowTo 50 = .ok (.iconst 1, 1) := by decide +kernel
theorem dX12_rowTo_51 : decode cX12_rowTo 51 = .ok (.isub, 1) := by decide +kernel
theorem dX12_rowTo_52 : decode cX12_rowTo 52 = .ok (.istore_n 3, 1) := by decide +kernel
theorem dX12_rowTo_53 : decode cX12_rowTo 53 = .ok (.iload_n 3, 1) := by decide +kernel
theorem dX12_rowTo_54 : decode cX12_rowTo 54 = .ok (.ifCond .lt 28, 3) := by decide +kernel
theorem dX12_rowTo_57 : decode cX12_rowTo 57 = .ok (.aload_n 0, 1) := by decide +kernel
theorem dX12_rowTo_58 : decode cX12_rowTo 58 = .ok (.getfield 101, 3) := by decide +kernel
theorem dX12_rowTo_61 : decode cX12_rowTo 61 = .ok (.iload_n 3, 1) := by decide +kernel
theorem dX12_rowTo_62 : decode cX12_rowTo 62 = .ok (.aload_n 0, 1) := by decide +kernel
theorem dX12_rowTo_63 : decode cX12_rowTo 63 = .ok (.getfield 74, 3) := by decide +kernel
theorem dX12_rowTo_66 : decode cX12_rowTo 66 = .ok (.iload_n 2, 1) := by decide +kernel
theorem dX12_rowTo_67 : decode cX12_rowTo 67 = .ok (.iaload, 1) := by decide +kernel
theorem dX12_rowTo_68 : decode cX12_rowTo 68 = .ok (.iastore, 1) := by decide +kernel
theorem dX12_rowTo_69 : decode cX12_rowTo 69 = .ok (.aload_n 0, 1) := by decide +kernel
theorem dX12_rowTo_70 : decode cX12_rowTo 70 = .ok (.getfield 71, 3) := by decide +kernel
theorem dX12_rowTo_73 : decode cX12_rowTo 73 = .ok (.iload_n 2, 1) := by decide +kernel
theorem dX12_rowTo_74 : decode cX12_rowTo 74 = .ok (.iaload, 1) := by decide +kernel
theorem dX12_rowTo_75 : decode cX12_rowTo 75 = .ok (.istore_n 2, 1) := by decide +kernel
theorem dX12_rowTo_76 : decode cX12_rowTo 76 = .ok (.iinc 3 (-1), 3) := by decide +kernel
theorem dX12_rowTo_79 : decode cX12_rowTo 79 = .ok (.goto (-26), 3) := by decide +kernel
theorem dX12_rowTo_82 : decode cX12_rowTo 82 = .ok (.aload_n 0, 1) := by decide +kernel
theorem dX12_rowTo_83 : decode cX12_rowTo 83 = .ok (.aload_n 0, 1) := by decide +kernel
theorem dX12_rowTo_84 : decode cX12_rowTo 84 = .ok (.getfield 415, 3) := by decide +kernel
theorem dX12_rowTo_87 : decode cX12_rowTo 87 = .ok (.invokevirtual 337, 3) := by decide +kernel
theorem dX12_rowTo_90 : decode cX12_rowTo 90 = .ok (.ireturn, 1) := by decide +kernel
theorem dX12_faultAt_0 : decode cX12_faultAt 0 = .ok (.aload_n 0, 1) := by decide +kernel
theorem dX12_faultAt_1 : decode cX12_faultAt 1 = .ok (.iconst 0, 1) := by decide +kernel
theorem dX12_faultAt_2 : decode cX12_faultAt 2 = .ok (.putfield 1, 3) := by decide +kernel
theorem dX12_faultAt_5 : decode cX12_faultAt 5 = .ok (.aload_n 0, 1) := by decide +kernel
theorem dX12_faultAt_6 : decode cX12_faultAt 6 = .ok (.getfield 62, 3) := by decide +kernel
theorem dX12_faultAt_9 : decode cX12_faultAt 9 = .ok (.iconst (-1), 1) := by decide +kernel
theorem dX12_faultAt_10 : decode cX12_faultAt 10 = .ok (.if_icmp .ne 10, 3) := by decide +kernel
theorem dX12_faultAt_13 : decode cX12_faultAt 13 = .ok (.aload_n 0, 1) := by decide +kernel
theorem dX12_faultAt_14 : decode cX12_faultAt 14 = .ok (.bipush 6, 2) := by decide +kernel
theorem dX12_faultAt_16 : decode cX12_faultAt 16 = .ok (.invokevirtual 316, 3) := by decide +kernel
theorem dX12_faultAt_19 : decode cX12_faultAt 19 = .ok (.ireturn, 1) := by decide +kernel
theorem dX12_faultAt_20 : decode cX12_faultAt 20 = .ok (.iload_n 1, 1) := by decide +kernel
theorem dX12_faultAt_21 : decode cX12_faultAt 21 = .ok (.iconst 1, 1) := by decide +kernel
theorem dX12_faultAt_22 : decode cX12_faultAt 22 = .ok (.if_icmp .lt 9, 3) := by decide +kernel
theorem dX12_faultAt_25 : decode cX12_faultAt 25 = .ok (.iload_n 1, 1) := by decide +kernel
theorem dX12_faultAt_26 : decode cX12_faultAt 26 = .ok (.bipush 20, 2) := by decide +kernel
theorem dX12_faultAt_28 : decode cX12_faultAt 28 = .ok (.if_icmp .le 9, 3) := by decide +kernel
theorem dX12_faultAt_31 : decode cX12_faultAt 31 = .ok (.aload_n 0, 1) := by decide +kernel
theorem dX12_faultAt_32 : decode cX12_faultAt 32 = .ok (.iconst 2, 1) := by decide +kernel
theorem dX12_faultAt_33 : decode cX12_faultAt 33 = .ok (.invokevirtual 316, 3) := by decide +kernel
theorem dX12_faultAt_36 : decode cX12_faultAt 36 = .ok (.ireturn, 1) := by decide +kernel
theorem dX12_faultAt_37 : decode cX12_faultAt 37 = .ok (.iconst 0, 1) := by decide +kernel
theorem dX12_faultAt_38 : decode cX12_faultAt 38 = .ok (.istore_n 2, 1) := by decide +kernel
theorem dX12_faultAt_39 : decode cX12_faultAt 39 = .ok (.iload_n 2, 1) := by decide +kernel
theorem dX12_faultAt_40 : decode cX12_faultAt 40 = .ok (.aload_n 0, 1) := by decide +kernel
theorem dX12_faultAt_41 : decode cX12_faultAt 41 = .ok (.getfield 334, 3) := by decide +kernel
theorem dX12_faultAt_44 : decode cX12_faultAt 44 = .ok (.if_icmp .ge 23, 3) := by decide +kernel
theorem dX12_faultAt_47 : decode cX12_faultAt 47 = .ok (.aload_n 0, 1) := by decide +kernel
theorem dX12_faultAt_48 : decode cX12_faultAt 48 = .ok (.getfield 65, 3) := by decide +kernel
theorem dX12_faultAt_51 : decode cX12_faultAt 51 = .ok (.iload_n 2, 1) := by decide +kernel
theorem dX12_faultAt_52 : decode cX12_faultAt 52 = .ok (.laload, 1) := by decide +kernel
theorem dX12_faultAt_53 : decode cX12_faultAt 53 = .ok (.bipush 38, 2) := by decide +kernel
theorem dX12_faultAt_55 : decode cX12_faultAt 55 = .ok (.lshr, 1) := by decide +kernel
theorem dX12_faultAt_56 : decode cX12_faultAt 56 = .ok (.l2i, 1) := by decide +kernel
theorem dX12_faultAt_57 : decode cX12_faultAt 57 = .ok (.iload_n 1, 1) := by decide +kernel
theorem dX12_faultAt_58 : decode cX12_faultAt 58 = .ok (.if_icmp .eq 9, 3) := by decide +kernel
theorem dX12_faultAt_61 : decode cX12_faultAt 61 = .ok (.iinc 2 1, 3) := by decide +kernel
theorem dX12_faultAt_64 : decode cX12_faultAt 64 = .ok (.goto (-25), 3) := by decide +kernel
theorem dX12_faultAt_67 : decode cX12_faultAt 67 = .ok (.aload_n 0, 1) := by decide +kernel
theorem dX12_faultAt_68 : decode cX12_faultAt 68 = .ok (.iload_n 2, 1) := by decide +kernel
theorem dX12_faultAt_69 : decode cX12_faultAt 69 = .ok (.aload_n 0, 1) := by decide +kernel
theorem dX12_faultAt_70 : decode cX12_faultAt 70 = .ok (.getfield 334, 3) := by decide +kernel
theorem dX12_faultAt_73 : decode cX12_faultAt 73 = .ok (.if_icmp .ge 7, 3) := by decide +kernel
theorem dX12_faultAt_76 : decode cX12_faultAt 76 = .ok (.iload_n 2, 1) := by decide +kernel
theorem dX12_faultAt_77 : decode cX12_faultAt 77 = .ok (.goto 5, 3) := by decide +kernel
theorem dX12_faultAt_80 : decode cX12_faultAt 80 = .ok (.bipush (-2), 2) := by decide +kernel
theorem dX12_faultAt_82 : decode cX12_faultAt 82 = .ok (.invokevirtual 337, 3) := by decide +kernel
theorem dX12_faultAt_85 : decode cX12_faultAt 85 = .ok (.ireturn, 1) := by decide +kernel
theorem dX12_pressedAt_0 : decode cX12_pressedAt 0 = .ok (.aload_n 0, 1) := by decide +kernel
theorem dX12_pressedAt_1 : decode cX12_pressedAt 1 = .ok (.iconst 0, 1) := by decide +kernel
theorem dX12_pressedAt_2 : decode cX12_pressedAt 2 = .ok (.putfield 1, 3) := by decide +kernel
theorem dX12_pressedAt_5 : decode cX12_pressedAt 5 = .ok (.aload_n 0, 1) := by decide +kernel
theorem dX12_pressedAt_6 : decode cX12_pressedAt 6 = .ok (.getfield 62, 3) := by decide +kernel
theorem dX12_pressedAt_9 : decode cX12_pressedAt 9 = .ok (.iconst (-1), 1) := by decide +kernel
theorem dX12_pressedAt_10 : decode cX12_pressedAt 10 = .ok (.if_icmp .ne 10, 3) := by decide +kernel
theorem dX12_pressedAt_13 : decode cX12_pressedAt 13 = .ok (.aload_n 0, 1) := by decide +kernel
theorem dX12_pressedAt_14 : decode cX12_pressedAt 14 = .ok (.bipush 6, 2) := by decide +kernel
theorem dX12_pressedAt_16 : decode cX12_pressedAt 16 = .ok (.invokevirtual 316, 3) := by decide +kernel
theorem dX12_pressedAt_19 : decode cX12_pressedAt 19 = .ok (.ireturn, 1) := by decide +kernel
theorem dX12_pressedAt_20 : decode cX12_pressedAt 20 = .ok (.iload_n 1, 1) := by decide +kernel
theorem dX12_pressedAt_21 : decode cX12_pressedAt 21 = .ok (.ifCond .lt 19, 3) := by decide +kernel
theorem dX12_pressedAt_24 : decode cX12_pressedAt 24 = .ok (.iload_n 1, 1) := by decide +kernel
theorem dX12_pressedAt_25 : decode cX12_pressedAt 25 = .ok (.aload_n 0, 1) := by decide +kernel
theorem dX12_pressedAt_26 : decode cX12_pressedAt 26 = .ok (.getfield 21, 3) := by decide +kernel
theorem dX12_pressedAt_29 : decode cX12_pressedAt 29 = .ok (.aload_n 0, 1) := by decide +kernel
theorem dX12_pressedAt_30 : decode cX12_pressedAt 30 = .ok (.getfield 62, 3) := by decide +kernel
theorem dX12_pressedAt_33 : decode cX12_pressedAt 33 = .ok (.aaload, 1) := by decide +kernel
theorem dX12_pressedAt_34 : decode cX12_pressedAt 34 = .ok (.getfield 208, 3) := by decide +kernel
theorem dX12_pressedAt_37 : decode cX12_pressedAt 37 = .ok (.if_icmp .lt 9, 3) := by decide +kernel
theorem dX12_pressedAt_40 : decode cX12_pressedAt 40 = .ok (.aload_n 0, 1) := by decide +kernel
theorem dX12_pressedAt_41 : decode cX12_pressedAt 41 = .ok (.iconst 1, 1) := by decide +kernel
theorem dX12_pressedAt_42 : decode cX12_pressedAt 42 = .ok (.invokevirtual 316, 3) := by decide +kernel
theorem dX12_pressedAt_45 : decode cX12_pressedAt 45 = .ok (.ireturn, 1) := by decide +kernel
theorem dX12_pressedAt_46 : decode cX12_pressedAt 46 = .ok (.iconst 0, 1) := by decide +kernel
theorem dX12_pressedAt_47 : decode cX12_pressedAt 47 = .ok (.istore_n 2, 1) := by decide +kernel
theorem dX12_pressedAt_48 : decode cX12_pressedAt 48 = .ok (.iload_n 2, 1) := by decide +kernel
theorem dX12_pressedAt_49 : decode cX12_pressedAt 49 = .ok (.aload_n 0, 1) := by decide +kernel
theorem dX12_pressedAt_50 : decode cX12_pressedAt 50 = .ok (.getfield 334, 3) := by decide +kernel
theorem dX12_pressedAt_53 : decode cX12_pressedAt 53 = .ok (.if_icmp .ge 22, 3) := by decide +kernel
theorem dX12_pressedAt_56 : decode cX12_pressedAt 56 = .ok (.aload_n 0, 1) := by decide +kernel
theorem dX12_pressedAt_57 : decode cX12_pressedAt 57 = .ok (.getfield 80, 3) := by decide +kernel
theorem dX12_pressedAt_60 : decode cX12_pressedAt 60 = .ok (.iload_n 2, 1) := by decide +kernel
theorem dX12_pressedAt_61 : decode cX12_pressedAt 61 = .ok (.iaload, 1) := by decide +kernel
theorem dX12_pressedAt_62 : decode cX12_pressedAt 62 = .ok (.iload_n 1, 1) := by decide +kernel
theorem dX12_pressedAt_63 : decode cX12_pressedAt 63 = .ok (.ishr, 1) := by decide +kernel
theorem dX12_pressedAt_64 : decode cX12_pressedAt 64 = .ok (.iconst 1, 1) := by decide +kernel
theorem dX12_pressedAt_65 : decode cX12_pressedAt 65 = .ok (.iand, 1) := by decide +kernel
theorem dX12_pressedAt_66 : decode cX12_pressedAt 66 = .ok (.ifCond .ne 9, 3) := by decide +kernel
theorem dX12_pressedAt_69 : decode cX12_pressedAt 69 = .ok (.iinc 2 1, 3) := by decide +kernel
theorem dX12_pressedAt_72 : decode cX12_pressedAt 72 = .ok (.goto (-24), 3) := by decide +kernel
theorem dX12_pressedAt_75 : decode cX12_pressedAt 75 = .ok (.aload_n 0, 1) := by decide +kernel
theorem dX12_pressedAt_76 : decode cX12_pressedAt 76 = .ok (.iload_n 2, 1) := by decide +kernel
theorem dX12_pressedAt_77 : decode cX12_pressedAt 77 = .ok (.aload_n 0, 1) := by decide +kernel
theorem dX12_pressedAt_78 : decode cX12_pressedAt 78 = .ok (.getfield 334, 3) := by decide +kernel
theorem dX12_pressedAt_81 : decode cX12_pressedAt 81 = .ok (.if_icmp .ge 7, 3) := by decide +kernel
theorem dX12_pressedAt_84 : decode cX12_pressedAt 84 = .ok (.iload_n 2, 1) := by decide +kernel
theorem dX12_pressedAt_85 : decode cX12_pressedAt 85 = .ok (.goto 5, 3) := by decide +kernel
theorem dX12_pressedAt_88 : decode cX12_pressedAt 88 = .ok (.bipush (-2), 2) := by decide +kernel
theorem dX12_pressedAt_90 : decode cX12_pressedAt 90 = .ok (.invokevirtual 337, 3) := by decide +kernel
theorem dX12_pressedAt_93 : decode cX12_pressedAt 93 = .ok (.ireturn, 1) := by decide +kernel
theorem dX12_never_0 : decode cX12_never 0 = .ok (.aload_n 0, 1) := by decide +kernel
theorem dX12_never_1 : decode cX12_never 1 = .ok (.iconst 0, 1) := by decide +kernel
theorem dX12_never_2 : decode cX12_never 2 = .ok (.putfield 1, 3) := by decide +kernel
theorem dX12_never_5 : decode cX12_never 5 = .ok (.aload_n 0, 1) := by decide +kernel
theorem dX12_never_6 : decode cX12_never 6 = .ok (.getfield 62, 3) := by decide +kernel
theorem dX12_never_9 : decode cX12_never 9 = .ok (.iconst (-1), 1) := by decide +kernel
theorem dX12_never_10 : decode cX12_never 10 = .ok (.if_icmp .ne 10, 3) := by decide +kernel
theorem dX12_never_13 : decode cX12_never 13 = .ok (.aload_n 0, 1) := by decide +kernel
theorem dX12_never_14 : decode cX12_never 14 = .ok (.bipush 6, 2) := by decide +kernel
theorem dX12_never_16 : decode cX12_never 16 = .ok (.invokevirtual 316, 3) := by decide +kernel
theorem dX12_never_19 : decode cX12_never 19 = .ok (.ireturn, 1) := by decide +kernel
theorem dX12_never_20 : decode cX12_never 20 = .ok (.iconst 0, 1) := by decide +kernel
theorem dX12_never_21 : decode cX12_never 21 = .ok (.istore_n 1, 1) := by decide +kernel
theorem dX12_never_22 : decode cX12_never 22 = .ok (.iconst 0, 1) := by decide +kernel
theorem dX12_never_23 : decode cX12_never 23 = .ok (.istore_n 2, 1) := by decide +kernel
theorem dX12_never_24 : decode cX12_never 24 = .ok (.iload_n 2, 1) := by decide +kernel
theorem dX12_never_25 : decode cX12_never 25 = .ok (.aload_n 0, 1) := by decide +kernel
theorem dX12_never_26 : decode cX12_never 26 = .ok (.getfield 334, 3) := by decide +kernel
theorem dX12_never_29 : decode cX12_never 29 = .ok (.if_icmp .ge 18, 3) := by decide +kernel
theorem dX12_never_32 : decode cX12_never 32 = .ok (.iload_n 1, 1) := by decide +kernel
theorem dX12_never_33 : decode cX12_never 33 = .ok (.aload_n 0, 1) := by decide +kernel
theorem dX12_never_34 : decode cX12_never 34 = .ok (.getfield 80, 3) := by decide +kernel
theorem dX12_never_37 : decode cX12_never 37 = .ok (.iload_n 2, 1) := by decide +kernel
theorem dX12_never_38 : decode cX12_never 38 = .ok (.iaload, 1) := by decide +kernel
theorem dX12_never_39 : decode cX12_never 39 = .ok (.ior, 1) := by decide +kernel
theorem dX12_never_40 : decode cX12_never 40 = .ok (.istore_n 1, 1) := by decide +kernel
theorem dX12_never_41 : decode cX12_never 41 = .ok (.iinc 2 1, 3) := by decide +kernel
theorem dX12_never_44 : decode cX12_never 44 = .ok (.goto (-20), 3) := by decide +kernel
theorem dX12_never_47 : decode cX12_never 47 = .ok (.iconst 0, 1) := by decide +kernel
theorem dX12_never_48 : decode cX12_never 48 = .ok (.istore_n 2, 1) := by decide +kernel
theorem dX12_never_49 : decode cX12_never 49 = .ok (.iconst 0, 1) := by decide +kernel
theorem dX12_never_50 : decode cX12_never 50 = .ok (.istore_n 3, 1) := by decide +kernel
theorem dX12_never_51 : decode cX12_never 51 = .ok (.iload_n 3, 1) := by decide +kernel
theorem dX12_never_52 : decode cX12_never 52 = .ok (.aload_n 0, 1) := by decide +kernel
theorem dX12_never_53 : decode cX12_never 53 = .ok (.getfield 21, 3) := by decide +kernel
theorem dX12_never_56 : decode cX12_never 56 = .ok (.aload_n 0, 1) := by decide +kernel
theorem dX12_never_57 : decode cX12_never 57 = .ok (.getfield 62, 3) := by decide +kernel
theorem dX12_never_60 : decode cX12_never 60 = .ok (.aaload, 1) := by decide +kernel
theorem dX12_never_61 : decode cX12_never 61 = .ok (.getfield 208, 3) := by decide +kernel
theorem dX12_never_64 : decode cX12_never 64 = .ok (.if_icmp .ge 25, 3) := by decide +kernel
theorem dX12_never_67 : decode cX12_never 67 = .ok (.iload_n 2, 1) := by decide +kernel
theorem dX12_never_68 : decode cX12_never 68 = .ok (.iload_n 1, 1) := by decide +kernel
theorem dX12_never_69 : decode cX12_never 69 = .ok (.iload_n 3, 1) := by decide +kernel
theorem dX12_never_70 : decode cX12_never 70 = .ok (.ishr, 1) := by decide +kernel
theorem dX12_never_71 : decode cX12_never 71 = .ok (.iconst 1, 1) := by decide +kernel
theorem dX12_never_72 : decode cX12_never 72 = .ok (.iand, 1) := by decide +kernel
theorem dX12_never_73 : decode cX12_never 73 = .ok (.ifCond .ne 7, 3) := by decide +kernel
theorem dX12_never_76 : decode cX12_never 76 = .ok (.iconst 1, 1) := by decide +kernel
theorem dX12_never_77 : decode cX12_never 77 = .ok (.goto 4, 3) := by decide +kernel
theorem dX12_never_80 : decode cX12_never 80 = .ok (.iconst 0, 1) := by decide +kernel
theorem dX12_never_81 : decode cX12_never 81 = .ok (.iadd, 1) := by decide +kernel
theorem dX12_never_82 : decode cX12_never 82 = .ok (.istore_n 2, 1) := by decide +kernel
theorem dX12_never_83 : decode cX12_never 83 = .ok (.iinc 3 1, 3) := by decide +kernel
theorem dX12_never_86 : decode cX12_never 86 = .ok (.goto (-35), 3) := by decide +kernel
theorem dX12_never_89 : decode cX12_never 89 = .ok (.aload_n 0, 1) := by decide +kernel
theorem dX12_never_90 : decode cX12_never 90 = .ok (.iload_n 2, 1) := by decide +kernel
theorem dX12_never_91 : decode cX12_never 91 = .ok (.invokevirtual 337, 3) := by decide +kernel
theorem dX12_never_94 : decode cX12_never 94 = .ok (.ireturn, 1) := by decide +kernel
theorem dX12_holdsAt_0 : decode cX12_holdsAt 0 = .ok (.aload_n 0, 1) := by decide +kernel
theorem dX12_holdsAt_1 : decode cX12_holdsAt 1 = .ok (.iconst 0, 1) := by decide +kernel
theorem dX12_holdsAt_2 : decode cX12_holdsAt 2 = .ok (.putfield 1, 3) := by decide +kernel
theorem dX12_holdsAt_5 : decode cX12_holdsAt 5 = .ok (.aload_n 0, 1) := by decide +kernel
theorem dX12_holdsAt_6 : decode cX12_holdsAt 6 = .ok (.getfield 62, 3) := by decide +kernel
theorem dX12_holdsAt_9 : decode cX12_holdsAt 9 = .ok (.iconst (-1), 1) := by decide +kernel
theorem dX12_holdsAt_10 : decode cX12_holdsAt 10 = .ok (.if_icmp .ne 10, 3) := by decide +kernel
theorem dX12_holdsAt_13 : decode cX12_holdsAt 13 = .ok (.aload_n 0, 1) := by decide +kernel
theorem dX12_holdsAt_14 : decode cX12_holdsAt 14 = .ok (.bipush 6, 2) := by decide +kernel
theorem dX12_holdsAt_16 : decode cX12_holdsAt 16 = .ok (.invokevirtual 316, 3) := by decide +kernel
theorem dX12_holdsAt_19 : decode cX12_holdsAt 19 = .ok (.ireturn, 1) := by decide +kernel
theorem dX12_holdsAt_20 : decode cX12_holdsAt 20 = .ok (.iload_n 1, 1) := by decide +kernel
theorem dX12_holdsAt_21 : decode cX12_holdsAt 21 = .ok (.ifCond .lt 19, 3) := by decide +kernel
theorem dX12_holdsAt_24 : decode cX12_holdsAt 24 = .ok (.iload_n 1, 1) := by decide +kernel
theorem dX12_holdsAt_25 : decode cX12_holdsAt 25 = .ok (.aload_n 0, 1) := by decide +kernel
theorem dX12_holdsAt_26 : decode cX12_holdsAt 26 = .ok (.getfield 21, 3) := by decide +kernel
theorem dX12_holdsAt_29 : decode cX12_holdsAt 29 = .ok (.aload_n 0, 1) := by decide +kernel
theorem dX12_holdsAt_30 : decode cX12_holdsAt 30 = .ok (.getfield 62, 3) := by decide +kernel
theorem dX12_holdsAt_33 : decode cX12_holdsAt 33 = .ok (.aaload, 1) := by decide +kernel
theorem dX12_holdsAt_34 : decode cX12_holdsAt 34 = .ok (.getfield 198, 3) := by decide +kernel
theorem dX12_holdsAt_37 : decode cX12_holdsAt 37 = .ok (.if_icmp .lt 9, 3) := by decide +kernel
theorem dX12_holdsAt_40 : decode cX12_holdsAt 40 = .ok (.aload_n 0, 1) := by decide +kernel
theorem dX12_holdsAt_41 : decode cX12_holdsAt 41 = .ok (.iconst 1, 1) := by decide +kernel
theorem dX12_holdsAt_42 : decode cX12_holdsAt 42 = .ok (.invokevirtual 316, 3) := by decide +kernel
theorem dX12_holdsAt_45 : decode cX12_holdsAt 45 = .ok (.ireturn, 1) := by decide +kernel
theorem dX12_holdsAt_46 : decode cX12_holdsAt 46 = .ok (.iconst 0, 1) := by decide +kernel
theorem dX12_holdsAt_47 : decode cX12_holdsAt 47 = .ok (.istore_n 3, 1) := by decide +kernel
theorem dX12_holdsAt_48 : decode cX12_holdsAt 48 = .ok (.iload_n 3, 1) := by decide +kernel
theorem dX12_holdsAt_49 : decode cX12_holdsAt 49 = .ok (.aload_n 0, 1) := by decide +kernel
theorem dX12_holdsAt_50 : decode cX12_holdsAt 50 = .ok (.getfield 334, 3) := by decide +kernel
theorem dX12_holdsAt_53 : decode cX12_holdsAt 53 = .ok (.if_icmp .ge 30, 3) := by decide +kernel
theorem dX12_holdsAt_56 : decode cX12_holdsAt 56 = .ok (.aload_n 0, 1) := by decide +kernel
theorem dX12_holdsAt_57 : decode cX12_holdsAt 57 = .ok (.getfield 68, 3) := by decide +kernel
theorem dX12_holdsAt_60 : decode cX12_holdsAt 60 = .ok (.iload_n 3, 1) := by decide +kernel
theorem dX12_holdsAt_61 : decode cX12_holdsAt 61 = .ok (.laload, 1) := by decide +kernel
theorem dX12_holdsAt_62 : decode cX12_holdsAt 62 = .ok (.iconst 4, 1) := by decide +kernel
theorem dX12_holdsAt_63 : decode cX12_holdsAt 63 = .ok (.iconst 5, 1) := by decide +kernel
theorem dX12_holdsAt_64 : decode cX12_holdsAt 64 = .ok (.iload_n 1, 1) := by decide +kernel
theorem dX12_holdsAt_65 : decode cX12_holdsAt 65 = .ok (.isub, 1) := by decide +kernel
theorem dX12_holdsAt_66 : decode cX12_holdsAt 66 = .ok (.imul, 1) := by decide +kernel
theorem dX12_holdsAt_67 : decode cX12_holdsAt 67 = .ok (.lshr, 1) := by decide +kernel
theorem dX12_holdsAt_68 : decode cX12_holdsAt 68 = .ok (.ldc2_w 352, 3) := by decide +kernel
theorem dX12_holdsAt_71 : decode cX12_holdsAt 71 = .ok (.land, 1) := by decide +kernel
theorem dX12_holdsAt_72 : decode cX12_holdsAt 72 = .ok (.l2i, 1) := by decide +kernel
theorem dX12_holdsAt_73 : decode cX12_holdsAt 73 = .ok (.iload_n 2, 1) := by decide +kernel
theorem dX12_holdsAt_74 : decode cX12_holdsAt 74 = .ok (.if_icmp .eq 9, 3) := by decide +kernel
theorem dX12_holdsAt_77 : decode cX12_holdsAt 77 = .ok (.iinc 3 1, 3) := by decide +kernel
theorem dX12_holdsAt_80 : decode cX12_holdsAt 80 = .ok (.goto (-32), 3) := by decide +kernel
theorem dX12_holdsAt_83 : decode cX12_holdsAt 83 = .ok (.aload_n 0, 1) := by decide +kernel
theorem dX12_holdsAt_84 : decode cX12_holdsAt 84 = .ok (.iload_n 3, 1) := by decide +kernel
theorem dX12_holdsAt_85 : decode cX12_holdsAt 85 = .ok (.aload_n 0, 1) := by decide +kernel
theorem dX12_holdsAt_86 : decode cX12_holdsAt 86 = .ok (.getfield 334, 3) := by decide +kernel
theorem dX12_holdsAt_89 : decode cX12_holdsAt 89 = .ok (.if_icmp .ge 7, 3) := by decide +kernel
theorem dX12_holdsAt_92 : decode cX12_holdsAt 92 = .ok (.iload_n 3, 1) := by decide +kernel
theorem dX12_holdsAt_93 : decode cX12_holdsAt 93 = .ok (.goto 5, 3) := by decide +kernel
theorem dX12_holdsAt_96 : decode cX12_holdsAt 96 = .ok (.bipush (-2), 2) := by decide +kernel
theorem dX12_holdsAt_98 : decode cX12_holdsAt 98 = .ok (.invokevirtual 337, 3) := by decide +kernel
theorem dX12_holdsAt_101 : decode cX12_holdsAt 101 = .ok (.ireturn, 1) := by decide +kernel
theorem dX12_stuck_0 : decode cX12_stuck 0 = .ok (.aload_n 0, 1) := by decide +kernel
theorem dX12_stuck_1 : decode cX12_stuck 1 = .ok (.iconst 0, 1) := by decide +kernel
theorem dX12_stuck_2 : decode cX12_stuck 2 = .ok (.putfield 1, 3) := by decide +kernel
theorem dX12_stuck_5 : decode cX12_stuck 5 = .ok (.aload_n 0, 1) := by decide +kernel
theorem dX12_stuck_6 : decode cX12_stuck 6 = .ok (.getfield 62, 3) := by decide +kernel
theorem dX12_stuck_9 : decode cX12_stuck 9 = .ok (.iconst (-1), 1) := by decide +kernel
theorem dX12_stuck_10 : decode cX12_stuck 10 = .ok (.if_icmp .ne 10, 3) := by decide +kernel
theorem dX12_stuck_13 : decode cX12_stuck 13 = .ok (.aload_n 0, 1) := by decide +kernel
theorem dX12_stuck_14 : decode cX12_stuck 14 = .ok (.bipush 6, 2) := by decide +kernel
theorem dX12_stuck_16 : decode cX12_stuck 16 = .ok (.invokevirtual 316, 3) := by decide +kernel
theorem dX12_stuck_19 : decode cX12_stuck 19 = .ok (.ireturn, 1) := by decide +kernel
theorem dX12_stuck_20 : decode cX12_stuck 20 = .ok (.iload_n 1, 1) := by decide +kernel
theorem dX12_stuck_21 : decode cX12_stuck 21 = .ok (.ifCond .lt 19, 3) := by decide +kernel
theorem dX12_stuck_24 : decode cX12_stuck 24 = .ok (.iload_n 1, 1) := by decide +kernel
theorem dX12_stuck_25 : decode cX12_stuck 25 = .ok (.aload_n 0, 1) := by decide +kernel
theorem dX12_stuck_26 : decode cX12_stuck 26 = .ok (.getfield 21, 3) := by decide +kernel
theorem dX12_stuck_29 : decode cX12_stuck 29 = .ok (.aload_n 0, 1) := by decide +kernel
theorem dX12_stuck_30 : decode cX12_stuck 30 = .ok (.getfield 62, 3) := by decide +kernel
theorem dX12_stuck_33 : decode cX12_stuck 33 = .ok (.aaload, 1) := by decide +kernel
theorem dX12_stuck_34 : decode cX12_stuck 34 = .ok (.getfield 205, 3) := by decide +kernel
theorem dX12_stuck_37 : decode cX12_stuck 37 = .ok (.if_icmp .lt 9, 3) := by decide +kernel
theorem dX12_stuck_40 : decode cX12_stuck 40 = .ok (.aload_n 0, 1) := by decide +kernel
theorem dX12_stuck_41 : decode cX12_stuck 41 = .ok (.iconst 1, 1) := by decide +kernel
theorem dX12_stuck_42 : decode cX12_stuck 42 = .ok (.invokevirtual 316, 3) := by decide +kernel
theorem dX12_stuck_45 : decode cX12_stuck 45 = .ok (.ireturn, 1) := by decide +kernel
theorem dX12_stuck_46 : decode cX12_stuck 46 = .ok (.iconst 0, 1) := by decide +kernel
theorem dX12_stuck_47 : decode cX12_stuck 47 = .ok (.istore_n 2, 1) := by decide +kernel
theorem dX12_stuck_48 : decode cX12_stuck 48 = .ok (.iload_n 2, 1) := by decide +kernel
theorem dX12_stuck_49 : decode cX12_stuck 49 = .ok (.aload_n 0, 1) := by decide +kernel
theorem dX12_stuck_50 : decode cX12_stuck 50 = .ok (.getfield 334, 3) := by decide +kernel
theorem dX12_stuck_53 : decode cX12_stuck 53 = .ok (.if_icmp .ge 58, 3) := by decide +kernel
theorem dX12_stuck_56 : decode cX12_stuck 56 = .ok (.aload_n 0, 1) := by decide +kernel
theorem dX12_stuck_57 : decode cX12_stuck 57 = .ok (.aload_n 0, 1) := by decide +kernel
theorem dX12_stuck_58 : decode cX12_stuck 58 = .ok (.getfield 65, 3) := by decide +kernel
theorem dX12_stuck_61 : decode cX12_stuck 61 = .ok (.iload_n 2, 1) := by decide +kernel
theorem dX12_stuck_62 : decode cX12_stuck 62 = .ok (.laload, 1) := by decide +kernel
theorem dX12_stuck_63 : decode cX12_stuck 63 = .ok (.aload_n 0, 1) := by decide +kernel
theorem dX12_stuck_64 : decode cX12_stuck 64 = .ok (.getfield 68, 3) := by decide +kernel
theorem dX12_stuck_67 : decode cX12_stuck 67 = .ok (.iload_n 2, 1) := by decide +kernel
theorem dX12_stuck_68 : decode cX12_stuck 68 = .ok (.laload, 1) := by decide +kernel
theorem dX12_stuck_69 : decode cX12_stuck 69 = .ok (.invokevirtual 377, 3) := by decide +kernel
theorem dX12_stuck_72 : decode cX12_stuck 72 = .ok (.aload_n 0, 1) := by decide +kernel
theorem dX12_stuck_73 : decode cX12_stuck 73 = .ok (.getfield 98, 3) := by decide +kernel
theorem dX12_stuck_76 : decode cX12_stuck 76 = .ok (.iload_n 2, 1) := by decide +kernel
theorem dX12_stuck_77 : decode cX12_stuck 77 = .ok (.aload_n 0, 1) := by decide +kernel
theorem dX12_stuck_78 : decode cX12_stuck 78 = .ok (.getfield 346, 3) := by decide +kernel
theorem dX12_stuck_81 : decode cX12_stuck 81 = .ok (.ifCond .le 22, 3) := by decide +kernel
theorem dX12_stuck_84 : decode cX12_stuck 84 = .ok (.aload_n 0, 1) := by decide +kernel
theorem dX12_stuck_85 : decode cX12_stuck 85 = .ok (.getfield 52, 3) := by decide +kernel
theorem dX12_stuck_88 : decode cX12_stuck 88 = .ok (.aload_n 0, 1) := by decide +kernel
theorem dX12_stuck_89 : decode cX12_stuck 89 = .ok (.getfield 346, 3) := by decide +kernel
theorem dX12_stuck_92 : decode cX12_stuck 92 = .ok (.iconst 1, 1) := by decide +kernel
theorem dX12_stuck_93 : decode cX12_stuck 93 = .ok (.isub, 1) := by decide +kernel
theorem dX12_stuck_94 : decode cX12_stuck 94 = .ok (.iaload, 1) := by decide +kernel
theorem dX12_stuck_95 : decode cX12_stuck 95 = .ok (.iload_n 1, 1) := by decide +kernel
theorem dX12_stuck_96 : decode cX12_stuck 96 = .ok (.if_icmp .ne 7, 3) := by decide +kernel
theorem dX12_stuck_99 : decode cX12_stuck 99 = .ok (.iconst 1, 1) := by decide +kernel
theorem dX12_stuck_100 : decode cX12_stuck 100 = .ok (.goto 4, 3) := by decide +kernel
theorem dX12_stuck_103 : decode cX12_stuck 103 = .ok (.iconst 0, 1) := by decide +kernel
theorem dX12_stuck_104 : decode cX12_stuck 104 = .ok (.bastore, 1) := by decide +kernel
theorem dX12_stuck_105 : decode cX12_stuck 105 = .ok (.iinc 2 1, 3) := by decide +kernel
theorem dX12_stuck_108 : decode cX12_stuck 108 = .ok (.goto (-60), 3) := by decide +kernel
theorem dX12_stuck_111 : decode cX12_stuck 111 = .ok (.iconst 1, 1) := by decide +kernel
theorem dX12_stuck_112 : decode cX12_stuck 112 = .ok (.istore_n 2, 1) := by decide +kernel
theorem dX12_stuck_113 : decode cX12_stuck 113 = .ok (.iload_n 2, 1) := by decide +kernel
theorem dX12_stuck_114 : decode cX12_stuck 114 = .ok (.ifCond .eq 97, 3) := by decide +kernel
theorem dX12_stuck_117 : decode cX12_stuck 117 = .ok (.iconst 0, 1) := by decide +kernel
theorem dX12_stuck_118 : decode cX12_stuck 118 = .ok (.istore_n 2, 1) := by decide +kernel
theorem dX12_stuck_119 : decode cX12_stuck 119 = .ok (.aload_n 0, 1) := by decide +kernel
theorem dX12_stuck_120 : decode cX12_stuck 120 = .ok (.getfield 334, 3) := by decide +kernel
theorem dX12_stuck_123 : decode cX12_stuck 123 = .ok (.iconst 1, 1) := by decide +kernel
theorem dX12_stuck_124 : decode cX12_stuck 124 = .ok (.isub, 1) := by decide +kernel
theorem dX12_stuck_125 : decode cX12_stuck 125 = .ok (.istore_n 3, 1) := by decide +kernel
theorem dX12_stuck_126 : decode cX12_stuck 126 = .ok (.iload_n 3, 1) := by decide +kernel
theorem dX12_stuck_127 : decode cX12_stuck 127 = .ok (.ifCond .lt 81, 3) := by decide +kernel
theorem dX12_stuck_130 : decode cX12_stuck 130 = .ok (.iconst 0, 1) := by decide +kernel
theorem dX12_stuck_131 : decode cX12_stuck 131 = .ok (.istore 4, 2) := by decide +kernel
theorem dX12_stuck_133 : decode cX12_stuck 133 = .ok (.iload 4, 2) := by decide +kernel
theorem dX12_stuck_135 : decode cX12_stuck 135 = .ok (.bipush 26, 2) := by decide +kernel
theorem dX12_stuck_137 : decode cX12_stuck 137 = .ok (.if_icmp .ge 65, 3) := by decide +kernel
theorem dX12_stuck_140 : decode cX12_stuck 140 = .ok (.aload_n 0, 1) := by decide +kernel
theorem dX12_stuck_141 : decode cX12_stuck 141 = .ok (.getfield 98, 3) := by decide +kernel
theorem dX12_stuck_144 : decode cX12_stuck 144 = .ok (.iload_n 3, 1) := by decide +kernel
theorem dX12_stuck_145 : decode cX12_stuck 145 = .ok (.baload, 1) := by decide +kernel
theorem dX12_stuck_146 : decode cX12_stuck 146 = .ok (.ifCond .ne 56, 3) := by decide +kernel
theorem dX12_stuck_149 : decode cX12_stuck 149 = .ok (.aload_n 0, 1) := by decide +kernel
theorem dX12_stuck_150 : decode cX12_stuck 150 = .ok (.getfield 92, 3) := by decide +kernel
theorem dX12_stuck_153 : decode cX12_stuck 153 = .ok (.bipush 27, 2) := by decide +kernel
theorem dX12_stuck_155 : decode cX12_stuck 155 = .ok (.iload_n 3, 1) := by decide +kernel
theorem dX12_stuck_156 : decode cX12_stuck 156 = .ok (.imul, 1) := by decide +kernel
theorem dX12_stuck_157 : decode cX12_stuck 157 = .ok (.iload 4, 2) := by decide +kernel
theorem dX12_stuck_159 : decode cX12_stuck 159 = .ok (.iadd, 1) := by decide +kernel
theorem dX12_stuck_160 : decode cX12_stuck 160 = .ok (.iaload, 1) := by decide +kernel
theorem dX12_stuck_161 : decode cX12_stuck 161 = .ok (.ifCond .lt 35, 3) := by decide +kernel
theorem dX12_stuck_164 : decode cX12_stuck 164 = .ok (.aload_n 0, 1) := by decide +kernel
theorem dX12_stuck_165 : decode cX12_stuck 165 = .ok (.getfield 98, 3) := by decide +kernel
theorem dX12_stuck_168 : decode cX12_stuck 168 = .ok (.aload_n 0, 1) := by decide +kernel
theorem dX12_stuck_169 : decode cX12_stuck 169 = .ok (.getfield 92, 3) := by decide +kernel
theorem dX12_stuck_172 : decode cX12_stuck 172 = .ok (.bipush 27, 2) := by decide +kernel
theorem dX12_stuck_174 : decode cX12_stuck 174 = .ok (.iload_n 3, 1) := by decide +kernel
theorem dX12_stuck_175 : decode cX12_stuck 175 = .ok (.imul, 1) := by decide +kernel
theorem dX12_stuck_176 : decode cX12_stuck 176 = .ok (.iload 4, 2) := by decide +kernel
theorem dX12_stuck_178 : decode cX12_stuck 178 = .ok (.iadd, 1) := by decide +kernel
theorem dX12_stuck_179 : decode cX12_stuck 179 = .ok (.iaload, 1) := by decide +kernel
theorem dX12_stuck_180 : decode cX12_stuck 180 = .ok (.baload, 1) := by decide +kernel
theorem dX12_stuck_181 : decode cX12_stuck 181 = .ok (.ifCond .ne 6, 3) := by decide +kernel
theorem dX12_stuck_184 : decode cX12_stuck 184 = .ok (.goto 12, 3) := by decide +kernel
theorem dX12_stuck_187 : decode cX12_stuck 187 = .ok (.aload_n 0, 1) := by decide +kernel
theorem dX12_stuck_188 : decode cX12_stuck 188 = .ok (.getfield 98, 3) := by decide +kernel
theorem dX12_stuck_191 : decode cX12_stuck 191 = .ok (.iload_n 3, 1) := by decide +kernel
theorem dX12_stuck_192 : decode cX12_stuck 192 = .ok (.iconst 1, 1) := by decide +kernel
theorem dX12_stuck_193 : decode cX12_stuck 193 = .ok (.bastore, 1) := by decide +kernel
theorem dX12_stuck_194 : decode cX12_stuck 194 = .ok (.iconst 1, 1) := by decide +kernel
theorem dX12_stuck_195 : decode cX12_stuck 195 = .ok (.istore_n 2, 1) := by decide +kernel
theorem dX12_stuck_196 : decode cX12_stuck 196 = .ok (.iinc 4 1, 3) := by decide +kernel
theorem dX12_stuck_199 : decode cX12_stuck 199 = .ok (.goto (-66), 3) := by decide +kernel
theorem dX12_stuck_202 : decode cX12_stuck 202 = .ok (.iinc 3 (-1), 3) := by decide +kernel
theorem dX12_stuck_205 : decode cX12_stuck 205 = .ok (.goto (-79), 3) := by decide +kernel
theorem dX12_stuck_208 : decode cX12_stuck 208 = .ok (.goto (-95), 3) := by decide +kernel
theorem dX12_stuck_211 : decode cX12_stuck 211 = .ok (.iconst 0, 1) := by decide +kernel
theorem dX12_stuck_212 : decode cX12_stuck 212 = .ok (.istore_n 3, 1) := by decide +kernel
theorem dX12_stuck_213 : decode cX12_stuck 213 = .ok (.iload_n 3, 1) := by decide +kernel
theorem dX12_stuck_214 : decode cX12_stuck 214 = .ok (.aload_n 0, 1) := by decide +kernel
theorem dX12_stuck_215 : decode cX12_stuck 215 = .ok (.getfield 334, 3) := by decide +kernel
theorem dX12_stuck_218 : decode cX12_stuck 218 = .ok (.if_icmp .ge 18, 3) := by decide +kernel
theorem dX12_stuck_221 : decode cX12_stuck 221 = .ok (.aload_n 0, 1) := by decide +kernel
theorem dX12_stuck_222 : decode cX12_stuck 222 = .ok (.getfield 98, 3) := by decide +kernel
theorem dX12_stuck_225 : decode cX12_stuck 225 = .ok (.iload_n 3, 1) := by decide +kernel
theorem dX12_stuck_226 : decode cX12_stuck 226 = .ok (.baload, 1) := by decide +kernel
theorem dX12_stuck_227 : decode cX12_stuck 227 = .ok (.ifCond .eq 9, 3) := by decide +kernel
theorem dX12_stuck_230 : decode cX12_stuck 230 = .ok (.iinc 3 1, 3) := by decide +kernel
theorem dX12_stuck_233 : decode cX12_stuck 233 = .ok (.goto (-20), 3) := by decide +kernel
theorem dX12_stuck_236 : decode cX12_stuck 236 = .ok (.aload_n 0, 1) := by decide +kernel
theorem dX12_stuck_237 : decode cX12_stuck 237 = .ok (.iload_n 3, 1) := by decide +kernel
theorem dX12_stuck_238 : decode cX12_stuck 238 = .ok (.aload_n 0, 1) := by decide +kernel
theorem dX12_stuck_239 : decode cX12_stuck 239 = .ok (.getfield 334, 3) := by decide +kernel
theorem dX12_stuck_242 : decode cX12_stuck 242 = .ok (.if_icmp .ge 7, 3) := by decide +kernel
theorem dX12_stuck_245 : decode cX12_stuck 245 = .ok (.iload_n 3, 1) := by decide +kernel
theorem dX12_stuck_246 : decode cX12_stuck 246 = .ok (.goto 5, 3) := by decide +kernel
theorem dX12_stuck_249 : decode cX12_stuck 249 = .ok (.bipush (-2), 2) := by decide +kernel
theorem dX12_stuck_251 : decode cX12_stuck 251 = .ok (.invokevirtual 337, 3) := by decide +kernel
theorem dX12_stuck_254 : decode cX12_stuck 254 = .ok (.ireturn, 1) := by decide +kernel
theorem dX12_least_0 : decode cX12_least 0 = .ok (.aload_n 0, 1) := by decide +kernel
theorem dX12_least_1 : decode cX12_least 1 = .ok (.iconst 0, 1) := by decide +kernel
theorem dX12_least_2 : decode cX12_least 2 = .ok (.putfield 1, 3) := by decide +kernel
theorem dX12_least_5 : decode cX12_least 5 = .ok (.aload_n 0, 1) := by decide +kernel
theorem dX12_least_6 : decode cX12_least 6 = .ok (.getfield 62, 3) := by decide +kernel
theorem dX12_least_9 : decode cX12_least 9 = .ok (.iconst (-1), 1) := by decide +kernel
theorem dX12_least_10 : decode cX12_least 10 = .ok (.if_icmp .ne 12, 3) := by decide +kernel
theorem dX12_least_13 : decode cX12_least 13 = .ok (.aload_n 0, 1) := by decide +kernel
theorem dX12_least_14 : decode cX12_least 14 = .ok (.bipush 6, 2) := by decide +kernel
theorem dX12_least_16 : decode cX12_least 16 = .ok (.invokevirtual 316, 3) := by decide +kernel
theorem dX12_least_19 : decode cX12_least 19 = .ok (.goto 11, 3) := by decide +kernel
theorem dX12_least_22 : decode cX12_least 22 = .ok (.aload_n 0, 1) := by decide +kernel
theorem dX12_least_23 : decode cX12_least 23 = .ok (.aload_n 0, 1) := by decide +kernel
theorem dX12_least_24 : decode cX12_least 24 = .ok (.getfield 405, 3) := by decide +kernel
theorem dX12_least_27 : decode cX12_least 27 = .ok (.invokevirtual 337, 3) := by decide +kernel
theorem dX12_least_30 : decode cX12_least 30 = .ok (.ireturn, 1) := by decide +kernel
theorem dX12_views_0 : decode cX12_views 0 = .ok (.aload_n 0, 1) := by decide +kernel
theorem dX12_views_1 : decode cX12_views 1 = .ok (.iconst 0, 1) := by decide +kernel
