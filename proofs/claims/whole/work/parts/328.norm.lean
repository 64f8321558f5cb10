theorem vi_ok {a n : Nat} (ha : a < 2147483648) (h : a < n) : vp_in (Int32.ofNat a) n := i_in ha h
theorem is_1 : Is 194 1 8 := ⟨by decide, rfl⟩
theorem sz_1 : (ax_s 1).2 = 13 := rfl
theorem is_2 : Is 194 2 20 := ⟨by decide, rfl⟩
theorem sz_2 : (ax_s 2).2 = 800 := rfl
theorem is_3 : Is 194 3 24 := ⟨by decide, rfl⟩
theorem sz_3 : (ax_s 3).2 = 2 := rfl
theorem is_4 : Is 194 4 0 := ⟨by decide, rfl⟩
theorem sz_4 : (ax_s 4).2 = 19 := rfl
theorem is_5 : Is 194 5 21 := ⟨by decide, rfl⟩
theorem sz_5 : (ax_s 5).2 = 6 := rfl
theorem is_6 : Is 194 6 21 := ⟨by decide, rfl⟩
theorem sz_6 : (ax_s 6).2 = 8 := rfl
theorem is_7 : Is 194 7 21 := ⟨by decide, rfl⟩
theorem sz_7 : (ax_s 7).2 = 24 := rfl
theorem is_8 : Is 194 8 20 := ⟨by decide, rfl⟩
theorem sz_8 : (ax_s 8).2 = 6 := rfl
theorem is_9 : Is 194 9 20 := ⟨by decide, rfl⟩
theorem sz_9 : (ax_s 9).2 = 8 := rfl
theorem is_10 : Is 194 10 20 := ⟨by decide, rfl⟩
theorem sz_10 : (ax_s 10).2 = 48 := rfl
theorem is_11 : Is 194 11 20 := ⟨by decide, rfl⟩
theorem sz_11 : (ax_s 11).2 = 8 := rfl
theorem is_12 : Is 194 12 20 := ⟨by decide, rfl⟩
theorem sz_12 : (ax_s 12).2 = 8 := rfl
theorem is_13 : Is 194 13 20 := ⟨by decide, rfl⟩
theorem sz_13 : (ax_s 13).2 = 8 := rfl
theorem is_14 : Is 194 14 20 := ⟨by decide, rfl⟩
theorem sz_14 : (ax_s 14).2 = 24 := rfl
theorem is_15 : Is 194 15 3 := ⟨by decide, rfl⟩
theorem sz_15 : (ax_s 15).2 = 4 := rfl
theorem is_16 : Is 194 16 20 := ⟨by decide, rfl⟩
theorem sz_16 : (ax_s 16).2 = 24 := rfl
theorem is_17 : Is 194 17 20 := ⟨by decide, rfl⟩
theorem sz_17 : (ax_s 17).2 = 72 := rfl
theorem is_18 : Is 194 18 20 := ⟨by decide, rfl⟩
theorem sz_18 : (ax_s 18).2 = 72 := rfl
theorem is_19 : Is 194 19 20 := ⟨by decide, rfl⟩
theorem sz_19 : (ax_s 19).2 = 72 := rfl
theorem is_20 : Is 194 20 4 := ⟨by decide, rfl⟩
theorem sz_20 : (ax_s 20).2 = 4 := rfl
theorem is_21 : Is 194 21 20 := ⟨by decide, rfl⟩
theorem sz_21 : (ax_s 21).2 = 32 := rfl
theorem is_22 : Is 194 22 20 := ⟨by decide, rfl⟩
theorem sz_22 : (ax_s 22).2 = 128 := rfl
theorem is_23 : Is 194 23 20 := ⟨by decide, rfl⟩
theorem sz_23 : (ax_s 23).2 = 128 := rfl
theorem is_24 : Is 194 24 20 := ⟨by decide, rfl⟩
theorem sz_24 : (ax_s 24).2 = 128 := rfl
theorem is_25 : Is 194 25 0 := ⟨by decide, rfl⟩
theorem sz_25 : (ax_s 25).2 = 19 := rfl
theorem is_26 : Is 194 26 21 := ⟨by decide, rfl⟩
theorem sz_26 : (ax_s 26).2 = 6 := rfl
theorem is_27 : Is 194 27 21 := ⟨by decide, rfl⟩
theorem sz_27 : (ax_s 27).2 = 8 := rfl
theorem is_28 : Is 194 28 21 := ⟨by decide, rfl⟩
theorem sz_28 : (ax_s 28).2 = 24 := rfl
theorem is_29 : Is 194 29 20 := ⟨by decide, rfl⟩
theorem sz_29 : (ax_s 29).2 = 6 := rfl
theorem is_30 : Is 194 30 20 := ⟨by decide, rfl⟩
theorem sz_30 : (ax_s 30).2 = 8 := rfl
theorem is_31 : Is 194 31 20 := ⟨by decide, rfl⟩
theorem sz_31 : (ax_s 31).2 = 48 := rfl
theorem is_32 : Is 194 32 20 := ⟨by decide, rfl⟩
theorem sz_32 : (ax_s 32).2 = 8 := rfl
theorem is_33 : Is 194 33 20 := ⟨by decide, rfl⟩
theorem sz_33 : (ax_s 33).2 = 8 := rfl
theorem is_34 : Is 194 34 20 := ⟨by decide, rfl⟩
theorem sz_34 : (ax_s 34).2 = 8 := rfl
theorem is_35 : Is 194 35 20 := ⟨by decide, rfl⟩
theorem sz_35 : (ax_s 35).2 = 24 := rfl
theorem is_36 : Is 194 36 3 := ⟨by decide, rfl⟩
theorem sz_36 : (ax_s 36).2 = 4 := rfl
theorem is_37 : Is 194 37 20 := ⟨by decide, rfl⟩
theorem sz_37 : (ax_s 37).2 = 24 := rfl
theorem is_38 : Is 194 38 20 := ⟨by decide, rfl⟩
theorem sz_38 : (ax_s 38).2 = 72 := rfl
theorem is_39 : Is 194 39 20 := ⟨by decide, rfl⟩
theorem sz_39 : (ax_s 39).2 = 72 := rfl
theorem is_40 : Is 194 40 20 := ⟨by decide, rfl⟩
theorem sz_40 : (ax_s 40).2 = 72 := rfl
theorem is_41 : Is 194 41 4 := ⟨by decide, rfl⟩
theorem sz_41 : (ax_s 41).2 = 4 := rfl
theorem is_42 : Is 194 42 20 := ⟨by decide, rfl⟩
theorem sz_42 : (ax_s 42).2 = 32 := rfl
theorem is_43 : Is 194 43 20 := ⟨by decide, rfl⟩
theorem sz_43 : (ax_s 43).2 = 128 := rfl
theorem is_44 : Is 194 44 20 := ⟨by decide, rfl⟩
theorem sz_44 : (ax_s 44).2 = 128 := rfl
theorem is_45 : Is 194 45 20 := ⟨by decide, rfl⟩
theorem sz_45 : (ax_s 45).2 = 128 := rfl
theorem is_46 : Is 194 46 0 := ⟨by decide, rfl⟩
theorem sz_46 : (ax_s 46).2 = 19 := rfl
theorem is_47 : Is 194 47 21 := ⟨by decide, rfl⟩
theorem sz_47 : (ax_s 47).2 = 6 := rfl
theorem is_48 : Is 194 48 21 := ⟨by decide, rfl⟩
theorem sz_48 : (ax_s 48).2 = 8 := rfl
theorem is_49 : Is 194 49 21 := ⟨by decide, rfl⟩
theorem sz_49 : (ax_s 49).2 = 24 := rfl
theorem is_50 : Is 194 50 20 := ⟨by decide, rfl⟩
theorem sz_50 : (ax_s 50).2 = 6 := rfl
theorem is_51 : Is 194 51 20 := ⟨by decide, rfl⟩
theorem sz_51 : (ax_s 51).2 = 8 := rfl
theorem is_52 : Is 194 52 20 := ⟨by decide, rfl⟩
theorem sz_52 : (ax_s 52).2 = 48 := rfl
theorem is_53 : Is 194 53 20 := ⟨by decide, rfl⟩
theorem sz_53 : (ax_s 53).2 = 8 := rfl
theorem is_54 : Is 194 54 20 := ⟨by decide, rfl⟩
theorem sz_54 : (ax_s 54).2 = 8 := rfl
theorem is_55 : Is 194 55 20 := ⟨by decide, rfl⟩
theorem sz_55 : (ax_s 55).2 = 8 := rfl
theorem is_56 : Is 194 56 20 := ⟨by decide, rfl⟩
theorem sz_56 : (ax_s 56).2 = 24 := rfl
theorem is_57 : Is 194 57 3 := ⟨by decide, rfl⟩
theorem sz_57 : (ax_s 57).2 = 4 := rfl
theorem is_58 : Is 194 58 20 := ⟨by decide, rfl⟩
theorem sz_58 : (ax_s 58).2 = 24 := rfl
theorem is_59 : Is 194 59 20 := ⟨by decide, rfl⟩
theorem sz_59 : (ax_s 59).2 = 72 := rfl
theorem is_60 : Is 194 60 20 := ⟨by decide, rfl⟩
theorem sz_60 : (ax_s 60).2 = 72 := rfl
theorem is_61 : Is 194 61 20 := ⟨by decide, rfl⟩
theorem sz_61 : (ax_s 61).2 = 72 := rfl
theorem is_62 : Is 194 62 4 := ⟨by decide, rfl⟩
theorem sz_62 : (ax_s 62).2 = 4 := rfl
theorem is_63 : Is 194 63 20 := ⟨by decide, rfl⟩
theorem sz_63 : (ax_s 63).2 = 32 := rfl
theorem is_64 : Is 194 64 20 := ⟨by decide, rfl⟩
theorem sz_64 : (ax_s 64).2 = 128 := rfl
theorem is_65 : Is 194 65 20 := ⟨by decide, rfl⟩
theorem sz_65 : (ax_s 65).2 = 128 := rfl
theorem is_66 : Is 194 66 20 := ⟨by decide, rfl⟩
theorem sz_66 : (ax_s 66).2 = 128 := rfl
theorem is_67 : Is 194 67 6 := ⟨by decide, rfl⟩
theorem sz_67 : (ax_s 67).2 = 15 := rfl
theorem is_68 : Is 194 68 7 := ⟨by decide, rfl⟩
theorem sz_68 : (ax_s 68).2 = 7 := rfl
theorem is_69 : Is 194 69 20 := ⟨by decide, rfl⟩
theorem sz_69 : (ax_s 69).2 = 0 := rfl
theorem is_70 : Is 194 70 20 := ⟨by decide, rfl⟩
theorem sz_70 : (ax_s 70).2 = 128 := rfl
theorem is_71 : Is 194 71 21 := ⟨by decide, rfl⟩
theorem sz_71 : (ax_s 71).2 = 128 := rfl
theorem is_72 : Is 194 72 20 := ⟨by decide, rfl⟩
theorem sz_72 : (ax_s 72).2 = 128 := rfl
theorem is_73 : Is 194 73 21 := ⟨by decide, rfl⟩
theorem sz_73 : (ax_s 73).2 = 2 := rfl
theorem is_74 : Is 194 74 1 := ⟨by decide, rfl⟩
theorem sz_74 : (ax_s 74).2 = 9 := rfl
theorem is_75 : Is 194 75 5 := ⟨by decide, rfl⟩
theorem sz_75 : (ax_s 75).2 = 7 := rfl
theorem is_76 : Is 194 76 21 := ⟨by decide, rfl⟩
theorem sz_76 : (ax_s 76).2 = 400 := rfl
theorem is_77 : Is 194 77 21 := ⟨by decide, rfl⟩
theorem sz_77 : (ax_s 77).2 = 400 := rfl
theorem is_78 : Is 194 78 20 := ⟨by decide, rfl⟩
theorem sz_78 : (ax_s 78).2 = 400 := rfl
theorem is_79 : Is 194 79 20 := ⟨by decide, rfl⟩
theorem sz_79 : (ax_s 79).2 = 400 := rfl
theorem is_80 : Is 194 80 20 := ⟨by decide, rfl⟩
theorem sz_80 : (ax_s 80).2 = 400 := rfl
theorem is_81 : Is 194 81 20 := ⟨by decide, rfl⟩
theorem sz_81 : (ax_s 81).2 = 1024 := rfl
theorem is_82 : Is 194 82 20 := ⟨by decide, rfl⟩
theorem sz_82 : (ax_s 82).2 = 10800 := rfl
theorem is_83 : Is 194 83 5 := ⟨by decide, rfl⟩
theorem sz_83 : (ax_s 83).2 = 7 := rfl
theorem is_84 : Is 194 84 21 := ⟨by decide, rfl⟩
theorem sz_84 : (ax_s 84).2 = 400 := rfl
theorem is_85 : Is 194 85 21 := ⟨by decide, rfl⟩
theorem sz_85 : (ax_s 85).2 = 400 := rfl
theorem is_86 : Is 194 86 20 := ⟨by decide, rfl⟩
theorem sz_86 : (ax_s 86).2 = 400 := rfl
theorem is_87 : Is 194 87 20 := ⟨by decide, rfl⟩
theorem sz_87 : (ax_s 87).2 = 400 := rfl
theorem is_88 : Is 194 88 20 := ⟨by decide, rfl⟩
theorem sz_88 : (ax_s 88).2 = 400 := rfl
theorem is_89 : Is 194 89 20 := ⟨by decide, rfl⟩
theorem sz_89 : (ax_s 89).2 = 1024 := rfl
theorem is_90 : Is 194 90 20 := ⟨by decide, rfl⟩
theorem sz_90 : (ax_s 90).2 = 400 := rfl
theorem is_91 : Is 194 91 20 := ⟨by decide, rfl⟩
theorem sz_91 : (ax_s 91).2 = 400 := rfl
theorem is_92 : Is 194 92 23 := ⟨by decide, rfl⟩
theorem sz_92 : (ax_s 92).2 = 400 := rfl
theorem is_93 : Is 194 93 2 := ⟨by decide, rfl⟩
theorem sz_93 : (ax_s 93).2 = 6 := rfl
theorem is_94 : Is 194 94 5 := ⟨by decide, rfl⟩
theorem sz_94 : (ax_s 94).2 = 7 := rfl
theorem is_95 : Is 194 95 21 := ⟨by decide, rfl⟩
theorem sz_95 : (ax_s 95).2 = 400 := rfl
theorem is_96 : Is 194 96 21 := ⟨by decide, rfl⟩
theorem sz_96 : (ax_s 96).2 = 400 := rfl
theorem is_97 : Is 194 97 20 := ⟨by decide, rfl⟩
theorem sz_97 : (ax_s 97).2 = 400 := rfl
theorem is_98 : Is 194 98 20 := ⟨by decide, rfl⟩
theorem sz_98 : (ax_s 98).2 = 400 := rfl
theorem is_99 : Is 194 99 20 := ⟨by decide, rfl⟩
theorem sz_99 : (ax_s 99).2 = 400 := rfl
theorem is_100 : Is 194 100 20 := ⟨by decide, rfl⟩
theorem sz_100 : (ax_s 100).2 = 1024 := rfl
theorem is_101 : Is 194 101 20 := ⟨by decide, rfl⟩
theorem sz_101 : (ax_s 101).2 = 400 := rfl
theorem is_102 : Is 194 102 21 := ⟨by decide, rfl⟩
theorem sz_102 : (ax_s 102).2 = 401 := rfl
theorem is_103 : Is 194 103 11 := ⟨by decide, rfl⟩
theorem sz_103 : (ax_s 103).2 = 56 := rfl
theorem is_104 : Is 194 104 25 := ⟨by decide, rfl⟩
theorem sz_104 : (ax_s 104).2 = 2 := rfl
theorem is_105 : Is 194 105 9 := ⟨by decide, rfl⟩
theorem sz_105 : (ax_s 105).2 = 22 := rfl
theorem is_106 : Is 194 106 21 := ⟨by decide, rfl⟩
theorem sz_106 : (ax_s 106).2 = 8 := rfl
theorem is_107 : Is 194 107 21 := ⟨by decide, rfl⟩
theorem sz_107 : (ax_s 107).2 = 24 := rfl
theorem is_108 : Is 194 108 21 := ⟨by decide, rfl⟩
theorem sz_108 : (ax_s 108).2 = 6 := rfl
theorem is_109 : Is 194 109 20 := ⟨by decide, rfl⟩
theorem sz_109 : (ax_s 109).2 = 6 := rfl
theorem is_110 : Is 194 110 20 := ⟨by decide, rfl⟩
theorem sz_110 : (ax_s 110).2 = 8 := rfl
theorem is_111 : Is 194 111 20 := ⟨by decide, rfl⟩
theorem sz_111 : (ax_s 111).2 = 48 := rfl
theorem is_112 : Is 194 112 20 := ⟨by decide, rfl⟩
theorem sz_112 : (ax_s 112).2 = 8 := rfl
theorem is_113 : Is 194 113 23 := ⟨by decide, rfl⟩
theorem sz_113 : (ax_s 113).2 = 6 := rfl
theorem is_114 : Is 194 114 20 := ⟨by decide, rfl⟩
theorem sz_114 : (ax_s 114).2 = 32 := rfl
theorem is_115 : Is 194 115 20 := ⟨by decide, rfl⟩
theorem sz_115 : (ax_s 115).2 = 128 := rfl
theorem is_116 : Is 194 116 20 := ⟨by decide, rfl⟩
theorem sz_116 : (ax_s 116).2 = 128 := rfl
theorem is_117 : Is 194 117 20 := ⟨by decide, rfl⟩
theorem sz_117 : (ax_s 117).2 = 128 := rfl
theorem is_118 : Is 194 118 21 := ⟨by decide, rfl⟩
theorem sz_118 : (ax_s 118).2 = 128 := rfl
theorem is_119 : Is 194 119 20 := ⟨by decide, rfl⟩
theorem sz_119 : (ax_s 119).2 = 128 := rfl
theorem is_120 : Is 194 120 20 := ⟨by decide, rfl⟩
theorem sz_120 : (ax_s 120).2 = 24 := rfl
theorem is_121 : Is 194 121 20 := ⟨by decide, rfl⟩
theorem sz_121 : (ax_s 121).2 = 24 := rfl
theorem is_122 : Is 194 122 20 := ⟨by decide, rfl⟩
theorem sz_122 : (ax_s 122).2 = 72 := rfl
theorem is_123 : Is 194 123 20 := ⟨by decide, rfl⟩
theorem sz_123 : (ax_s 123).2 = 72 := rfl
theorem is_124 : Is 194 124 20 := ⟨by decide, rfl⟩
theorem sz_124 : (ax_s 124).2 = 72 := rfl
theorem is_125 : Is 194 125 23 := ⟨by decide, rfl⟩
theorem sz_125 : (ax_s 125).2 = 2 := rfl
theorem is_126 : Is 194 126 21 := ⟨by decide, rfl⟩
theorem sz_126 : (ax_s 126).2 = 2 := rfl
theorem is_127 : Is 194 127 21 := ⟨by decide, rfl⟩
theorem sz_127 : (ax_s 127).2 = 2 := rfl
theorem is_128 : Is 194 128 10 := ⟨by decide, rfl⟩
theorem sz_128 : (ax_s 128).2 = 8 := rfl
theorem is_129 : Is 194 129 22 := ⟨by decide, rfl⟩
theorem sz_129 : (ax_s 129).2 = 800 := rfl
theorem is_130 : Is 194 130 20 := ⟨by decide, rfl⟩
theorem sz_130 : (ax_s 130).2 = 5 := rfl
theorem is_131 : Is 194 131 20 := ⟨by decide, rfl⟩
theorem sz_131 : (ax_s 131).2 = 5 := rfl
theorem is_132 : Is 194 132 20 := ⟨by decide, rfl⟩
theorem sz_132 : (ax_s 132).2 = 6 := rfl
theorem is_133 : Is 194 133 21 := ⟨by decide, rfl⟩
theorem sz_133 : (ax_s 133).2 = 400 := rfl
theorem is_134 : Is 194 134 21 := ⟨by decide, rfl⟩
theorem sz_134 : (ax_s 134).2 = 400 := rfl
theorem is_135 : Is 194 135 20 := ⟨by decide, rfl⟩
theorem sz_135 : (ax_s 135).2 = 400 := rfl
theorem is_136 : Is 194 136 20 := ⟨by decide, rfl⟩
theorem sz_136 : (ax_s 136).2 = 400 := rfl
theorem is_137 : Is 194 137 20 := ⟨by decide, rfl⟩
theorem sz_137 : (ax_s 137).2 = 400 := rfl
theorem is_138 : Is 194 138 20 := ⟨by decide, rfl⟩
theorem sz_138 : (ax_s 138).2 = 400 := rfl
theorem is_139 : Is 194 139 20 := ⟨by decide, rfl⟩
theorem sz_139 : (ax_s 139).2 = 400 := rfl
theorem is_140 : Is 194 140 20 := ⟨by decide, rfl⟩
theorem sz_140 : (ax_s 140).2 = 400 := rfl
theorem is_141 : Is 194 141 20 := ⟨by decide, rfl⟩
theorem sz_141 : (ax_s 141).2 = 400 := rfl
theorem is_142 : Is 194 142 20 := ⟨by decide, rfl⟩
theorem sz_142 : (ax_s 142).2 = 10800 := rfl
theorem is_143 : Is 194 143 21 := ⟨by decide, rfl⟩
theorem sz_143 : (ax_s 143).2 = 400 := rfl
theorem is_144 : Is 194 144 23 := ⟨by decide, rfl⟩
theorem sz_144 : (ax_s 144).2 = 400 := rfl
theorem is_145 : Is 194 145 20 := ⟨by decide, rfl⟩
theorem sz_145 : (ax_s 145).2 = 400 := rfl
theorem is_146 : Is 194 146 21 := ⟨by decide, rfl⟩
theorem sz_146 : (ax_s 146).2 = 400 := rfl
theorem is_147 : Is 194 147 21 := ⟨by decide, rfl⟩
theorem sz_147 : (ax_s 147).2 = 400 := rfl
theorem is_148 : Is 194 148 21 := ⟨by decide, rfl⟩
theorem sz_148 : (ax_s 148).2 = 400 := rfl
theorem is_149 : Is 194 149 21 := ⟨by decide, rfl⟩
theorem sz_149 : (ax_s 149).2 = 400 := rfl
theorem is_150 : Is 194 150 20 := ⟨by decide, rfl⟩
theorem sz_150 : (ax_s 150).2 = 400 := rfl
theorem is_151 : Is 194 151 20 := ⟨by decide, rfl⟩
theorem sz_151 : (ax_s 151).2 = 400 := rfl
theorem is_152 : Is 194 152 20 := ⟨by decide, rfl⟩
theorem sz_152 : (ax_s 152).2 = 6 := rfl
theorem is_153 : Is 194 153 21 := ⟨by decide, rfl⟩
theorem sz_153 : (ax_s 153).2 = 24 := rfl
theorem is_154 : Is 194 154 9 := ⟨by decide, rfl⟩
theorem sz_154 : (ax_s 154).2 = 22 := rfl
theorem is_155 : Is 194 155 21 := ⟨by decide, rfl⟩
theorem sz_155 : (ax_s 155).2 = 8 := rfl
theorem is_156 : Is 194 156 21 := ⟨by decide, rfl⟩
theorem sz_156 : (ax_s 156).2 = 24 := rfl
theorem is_157 : Is 194 157 21 := ⟨by decide, rfl⟩
theorem sz_157 : (ax_s 157).2 = 6 := rfl
theorem is_158 : Is 194 158 20 := ⟨by decide, rfl⟩
theorem sz_158 : (ax_s 158).2 = 6 := rfl
theorem is_159 : Is 194 159 20 := ⟨by decide, rfl⟩
theorem sz_159 : (ax_s 159).2 = 8 := rfl
theorem is_160 : Is 194 160 20 := ⟨by decide, rfl⟩
theorem sz_160 : (ax_s 160).2 = 48 := rfl
theorem is_161 : Is 194 161 20 := ⟨by decide, rfl⟩
theorem sz_161 : (ax_s 161).2 = 8 := rfl
theorem is_162 : Is 194 162 23 := ⟨by decide, rfl⟩
theorem sz_162 : (ax_s 162).2 = 6 := rfl
theorem is_163 : Is 194 163 20 := ⟨by decide, rfl⟩
theorem sz_163 : (ax_s 163).2 = 32 := rfl
theorem is_164 : Is 194 164 20 := ⟨by decide, rfl⟩
theorem sz_164 : (ax_s 164).2 = 128 := rfl
theorem is_165 : Is 194 165 20 := ⟨by decide, rfl⟩
theorem sz_165 : (ax_s 165).2 = 128 := rfl
theorem is_166 : Is 194 166 20 := ⟨by decide, rfl⟩
theorem sz_166 : (ax_s 166).2 = 128 := rfl
theorem is_167 : Is 194 167 21 := ⟨by decide, rfl⟩
theorem sz_167 : (ax_s 167).2 = 128 := rfl
theorem is_168 : Is 194 168 20 := ⟨by decide, rfl⟩
theorem sz_168 : (ax_s 168).2 = 128 := rfl
theorem is_169 : Is 194 169 20 := ⟨by decide, rfl⟩
theorem sz_169 : (ax_s 169).2 = 24 := rfl
theorem is_170 : Is 194 170 20 := ⟨by decide, rfl⟩
theorem sz_170 : (ax_s 170).2 = 24 := rfl
theorem is_171 : Is 194 171 20 := ⟨by decide, rfl⟩
theorem sz_171 : (ax_s 171).2 = 72 := rfl
theorem is_172 : Is 194 172 20 := ⟨by decide, rfl⟩
theorem sz_172 : (ax_s 172).2 = 72 := rfl
theorem is_173 : Is 194 173 20 := ⟨by decide, rfl⟩
theorem sz_173 : (ax_s 173).2 = 72 := rfl
theorem is_174 : Is 194 174 9 := ⟨by decide, rfl⟩
theorem sz_174 : (ax_s 174).2 = 22 := rfl
theorem is_175 : Is 194 175 21 := ⟨by decide, rfl⟩
theorem sz_175 : (ax_s 175).2 = 8 := rfl
theorem is_176 : Is 194 176 21 := ⟨by decide, rfl⟩
theorem sz_176 : (ax_s 176).2 = 24 := rfl
theorem is_177 : Is 194 177 21 := ⟨by decide, rfl⟩
theorem sz_177 : (ax_s 177).2 = 6 := rfl
theorem is_178 : Is 194 178 20 := ⟨by decide, rfl⟩
theorem sz_178 : (ax_s 178).2 = 6 := rfl
theorem is_179 : Is 194 179 20 := ⟨by decide, rfl⟩
theorem sz_179 : (ax_s 179).2 = 8 := rfl
theorem is_180 : Is 194 180 20 := ⟨by decide, rfl⟩
theorem sz_180 : (ax_s 180).2 = 48 := rfl
theorem is_181 : Is 194 181 20 := ⟨by decide, rfl⟩
theorem sz_181 : (ax_s 181).2 = 8 := rfl
theorem is_182 : Is 194 182 23 := ⟨by decide, rfl⟩
theorem sz_182 : (ax_s 182).2 = 6 := rfl
theorem is_183 : Is 194 183 20 := ⟨by decide, rfl⟩
theorem sz_183 : (ax_s 183).2 = 32 := rfl
theorem is_184 : Is 194 184 20 := ⟨by decide, rfl⟩
theorem sz_184 : (ax_s 184).2 = 128 := rfl
theorem is_185 : Is 194 185 20 := ⟨by decide, rfl⟩
theorem sz_185 : (ax_s 185).2 = 128 := rfl
theorem is_186 : Is 194 186 20 := ⟨by decide, rfl⟩
theorem sz_186 : (ax_s 186).2 = 128 := rfl
theorem is_187 : Is 194 187 21 := ⟨by decide, rfl⟩
theorem sz_187 : (ax_s 187).2 = 128 := rfl
theorem is_188 : Is 194 188 20 := ⟨by decide, rfl⟩
theorem sz_188 : (ax_s 188).2 = 128 := rfl
theorem is_189 : Is 194 189 20 := ⟨by decide, rfl⟩
theorem sz_189 : (ax_s 189).2 = 24 := rfl
theorem is_190 : Is 194 190 20 := ⟨by decide, rfl⟩
theorem sz_190 : (ax_s 190).2 = 24 := rfl
theorem is_191 : Is 194 191 20 := ⟨by decide, rfl⟩
theorem sz_191 : (ax_s 191).2 = 72 := rfl
theorem is_192 : Is 194 192 20 := ⟨by decide, rfl⟩
theorem sz_192 : (ax_s 192).2 = 72 := rfl
theorem is_193 : Is 194 193 20 := ⟨by decide, rfl⟩
theorem sz_193 : (ax_s 193).2 = 72 := rfl
theorem is_194 : Is 194 194 21 := ⟨by decide, rfl⟩
theorem sz_194 : (ax_s 194).2 = 1 := rfl
theorem isA_0 {x : Nat} (hx : isA x) : Is 194 (x + 0) 0 := (shA_0 hx).1
theorem szA_0 {x : Nat} (hx : isA x) : (ax_s (x + 0)).2 = 19 := (shA_0 hx).2
theorem isA_1 {x : Nat} (hx : isA x) : Is 194 (x + 1) 21 := (shA_1 hx).1
theorem szA_1 {x : Nat} (hx : isA x) : (ax_s (x + 1)).2 = 6 := (shA_1 hx).2
theorem isA_2 {x : Nat} (hx : isA x) : Is 194 (x + 2) 21 := (shA_2 hx).1
theorem szA_2 {x : Nat} (hx : isA x) : (ax_s (x + 2)).2 = 8 := (shA_2 hx).2
theorem isA_3 {x : Nat} (hx : isA x) : Is 194 (x + 3) 21 := (shA_3 hx).1
theorem szA_3 {x : Nat} (hx : isA x) : (ax_s (x + 3)).2 = 24 := (shA_3 hx).2
theorem isA_4 {x : Nat} (hx : isA x) : Is 194 (x + 4) 20 := (shA_4 hx).1
theorem szA_4 {x : Nat} (hx : isA x) : (ax_s (x + 4)).2 = 6 := (shA_4 hx).2
theorem isA_5 {x : Nat} (hx : isA x) : Is 194 (x + 5) 20 := (shA_5 hx).1
theorem szA_5 {x : Nat} (hx : isA x) : (ax_s (x + 5)).2 = 8 := (shA_5 hx).2
theorem isA_6 {x : Nat} (hx : isA x) : Is 194 (x + 6) 20 := (shA_6 hx).1
theorem szA_6 {x : Nat} (hx : isA x) : (ax_s (x + 6)).2 = 48 := (shA_6 hx).2
theorem isA_7 {x : Nat} (hx : isA x) : Is 194 (x + 7) 20 := (shA_7 hx).1
theorem szA_7 {x : Nat} (hx : isA x) : (ax_s (x + 7)).2 = 8 := (shA_7 hx).2
theorem isA_8 {x : Nat} (hx : isA x) : Is 194 (x + 8) 20 := (shA_8 hx).1
theorem szA_8 {x : Nat} (hx : isA x) : (ax_s (x + 8)).2 = 8 := (shA_8 hx).2
theorem isA_9 {x : Nat} (hx : isA x) : Is 194 (x + 9) 20 := (shA_9 hx).1
theorem szA_9 {x : Nat} (hx : isA x) : (ax_s (x + 9)).2 = 8 := (shA_9 hx).2
theorem isA_10 {x : Nat} (hx : isA x) : Is 194 (x + 10) 20 := (shA_10 hx).1
theorem szA_10 {x : Nat} (hx : isA x) : (ax_s (x + 10)).2 = 24 := (shA_10 hx).2
theorem isA_11 {x : Nat} (hx : isA x) : Is 194 (x + 11) 3 := (shA_11 hx).1
theorem szA_11 {x : Nat} (hx : isA x) : (ax_s (x + 11)).2 = 4 := (shA_11 hx).2
theorem isA_12 {x : Nat} (hx : isA x) : Is 194 (x + 12) 20 := (shA_12 hx).1
theorem szA_12 {x : Nat} (hx : isA x) : (ax_s (x + 12)).2 = 24 := (shA_12 hx).2
theorem isA_13 {x : Nat} (hx : isA x) : Is 194 (x + 13) 20 := (shA_13 hx).1
theorem szA_13 {x : Nat} (hx : isA x) : (ax_s (x + 13)).2 = 72 := (shA_13 hx).2
theorem isA_14 {x : Nat} (hx : isA x) : Is 194 (x + 14) 20 := (shA_14 hx).1
theorem szA_14 {x : Nat} (hx : isA x) : (ax_s (x + 14)).2 = 72 := (shA_14 hx).2
theorem isA_15 {x : Nat} (hx : isA x) : Is 194 (x + 15) 20 := (shA_15 hx).1
theorem szA_15 {x : Nat} (hx : isA x) : (ax_s (x + 15)).2 = 72 := (shA_15 hx).2
theorem isA_16 {x : Nat} (hx : isA x) : Is 194 (x + 16) 4 := (shA_16 hx).1
theorem szA_16 {x : Nat} (hx : isA x) : (ax_s (x + 16)).2 = 4 := (shA_16 hx).2
theorem isA_17 {x : Nat} (hx : isA x) : Is 194 (x + 17) 20 := (shA_17 hx).1
theorem szA_17 {x : Nat} (hx : isA x) : (ax_s (x + 17)).2 = 32 := (shA_17 hx).2
theorem isA_18 {x : Nat} (hx : isA x) : Is 194 (x + 18) 20 := (shA_18 hx).1
theorem szA_18 {x : Nat} (hx : isA x) : (ax_s (x + 18)).2 = 128 := (shA_18 hx).2
theorem isA_19 {x : Nat} (hx : isA x) : Is 194 (x + 19) 20 := (shA_19 hx).1
theorem szA_19 {x : Nat} (hx : isA x) : (ax_s (x + 19)).2 = 128 := (shA_19 hx).2
theorem isA_20 {x : Nat} (hx : isA x) : Is 194 (x + 20) 20 := (shA_20 hx).1
theorem szA_20 {x : Nat} (hx : isA x) : (ax_s (x + 20)).2 = 128 := (shA_20 hx).2
theorem isB_0 {x : Nat} (hx : isB x) : Is 194 (x + 0) 9 := (shB_0 hx).1
theorem szB_0 {x : Nat} (hx : isB x) : (ax_s (x + 0)).2 = 22 := (shB_0 hx).2
theorem isB_1 {x : Nat} (hx : isB x) : Is 194 (x + 1) 21 := (shB_1 hx).1
theorem szB_1 {x : Nat} (hx : isB x) : (ax_s (x + 1)).2 = 8 := (shB_1 hx).2
theorem isB_2 {x : Nat} (hx : isB x) : Is 194 (x + 2) 21 := (shB_2 hx).1
theorem szB_2 {x : Nat} (hx : isB x) : (ax_s (x + 2)).2 = 24 := (shB_2 hx).2
theorem isB_3 {x : Nat} (hx : isB x) : Is 194 (x + 3) 21 := (shB_3 hx).1
theorem szB_3 {x : Nat} (hx : isB x) : (ax_s (x + 3)).2 = 6 := (shB_3 hx).2
theorem isB_4 {x : Nat} (hx : isB x) : Is 194 (x + 4) 20 := (shB_4 hx).1
theorem szB_4 {x : Nat} (hx : isB x) : (ax_s (x + 4)).2 = 6 := (shB_4 hx).2
theorem isB_5 {x : Nat} (hx : isB x) : Is 194 (x + 5) 20 := (shB_5 hx).1
theorem szB_5 {x : Nat} (hx : isB x) : (ax_s (x + 5)).2 = 8 := (shB_5 hx).2
theorem isB_6 {x : Nat} (hx : isB x) : Is 194 (x + 6) 20 := (shB_6 hx).1
theorem szB_6 {x : Nat} (hx : isB x) : (ax_s (x + 6)).2 = 48 := (shB_6 hx).2
theorem isB_7 {x : Nat} (hx : isB x) : Is 194 (x + 7) 20 := (shB_7 hx).1
theorem szB_7 {x : Nat} (hx : isB x) : (ax_s (x + 7)).2 = 8 := (shB_7 hx).2
theorem isB_8 {x : Nat} (hx : isB x) : Is 194 (x + 8) 23 := (shB_8 hx).1
theorem szB_8 {x : Nat} (hx : isB x) : (ax_s (x + 8)).2 = 6 := (shB_8 hx).2
theorem isB_9 {x : Nat} (hx : isB x) : Is 194 (x + 9) 20 := (shB_9 hx).1
theorem szB_9 {x : Nat} (hx : isB x) : (ax_s (x + 9)).2 = 32 := (shB_9 hx).2
theorem isB_10 {x : Nat} (hx : isB x) : Is 194 (x + 10) 20 := (shB_10 hx).1
theorem szB_10 {x : Nat} (hx : isB x) : (ax_s (x + 10)).2 = 128 := (shB_10 hx).2
theorem isB_11 {x : Nat} (hx : isB x) : Is 194 (x + 11) 20 := (shB_11 hx).1
theorem szB_11 {x : Nat} (hx : isB x) : (ax_s (x + 11)).2 = 128 := (shB_11 hx).2
theorem isB_12 {x : Nat} (hx : isB x) : Is 194 (x + 12) 20 := (shB_12 hx).1
theorem szB_12 {x : Nat} (hx : isB x) : (ax_s (x + 12)).2 = 128 := (shB_12 hx).2
theorem isB_13 {x : Nat} (hx : isB x) : Is 194 (x + 13) 21 := (shB_13 hx).1
theorem szB_13 {x : Nat} (hx : isB x) : (ax_s (x + 13)).2 = 128 := (shB_13 hx).2
theorem isB_14 {x : Nat} (hx : isB x) : Is 194 (x + 14) 20 := (shB_14 hx).1
theorem szB_14 {x : Nat} (hx : isB x) : (ax_s (x + 14)).2 = 128 := (shB_14 hx).2
theorem isB_15 {x : Nat} (hx : isB x) : Is 194 (x + 15) 20 := (shB_15 hx).1
theorem szB_15 {x : Nat} (hx : isB x) : (ax_s (x + 15)).2 = 24 := (shB_15 hx).2
theorem isB_16 {x : Nat} (hx : isB x) : Is 194 (x + 16) 20 := (shB_16 hx).1
theorem szB_16 {x : Nat} (hx : isB x) : (ax_s (x + 16)).2 = 24 := (shB_16 hx).2
theorem isB_17 {x : Nat} (hx : isB x) : Is 194 (x + 17) 20 := (shB_17 hx).1
theorem szB_17 {x : Nat} (hx : isB x) : (ax_s (x + 17)).2 = 72 := (shB_17 hx).2
theorem isB_18 {x : Nat} (hx : isB x) : Is 194 (x + 18) 20 := (shB_18 hx).1
theorem szB_18 {x : Nat} (hx : isB x) : (ax_s (x + 18)).2 = 72 := (shB_18 hx).2
theorem isB_19 {x : Nat} (hx : isB x) : Is 194 (x + 19) 20 := (shB_19 hx).1
theorem szB_19 {x : Nat} (hx : isB x) : (ax_s (x + 19)).2 = 72 := (shB_19 hx).2
theorem isA_x {x : Nat} (hx : isA x) : Is 194 x 0 := (shA_0 hx).1
theorem isB_x {x : Nat} (hx : isB x) : Is 194 x 9 := (shB_0 hx).1
def isM (x : Nat) : Prop := x = 75 ∨ x = 83 ∨ x = 94
theorem isM_x {x : Nat} (hx : isM x) : Is 194 x 5 := by rcases hx with rfl | rfl | rfl <;> exact ⟨by decide, rfl⟩
theorem rfM_1 {h : AH} {x : Nat} (hr : Refs h) (hx : isM x) : h.2.2 x 1 = x + 1 := by
  rcases hx with rfl | rfl | rfl
  · exact rf_75_1 hr
  · exact rf_83_1 hr
  · exact rf_94_1 hr
theorem isM_1 {x : Nat} (hx : isM x) : Is 194 (x + 1) 21 := by rcases hx with rfl | rfl | rfl <;> exact ⟨by decide, rfl⟩
theorem szM_1 {x : Nat} (hx : isM x) : (ax_s (x + 1)).2 = 400 := by rcases hx with rfl | rfl | rfl <;> rfl
theorem rfM_2 {h : AH} {x : Nat} (hr : Refs h) (hx : isM x) : h.2.2 x 2 = x + 2 := by
  rcases hx with rfl | rfl | rfl
  · exact rf_75_2 hr
  · exact rf_83_2 hr
  · exact rf_94_2 hr
theorem isM_2 {x : Nat} (hx : isM x) : Is 194 (x + 2) 21 := by rcases hx with rfl | rfl | rfl <;> exact ⟨by decide, rfl⟩
theorem szM_2 {x : Nat} (hx : isM x) : (ax_s (x + 2)).2 = 400 := by rcases hx with rfl | rfl | rfl <;> rfl
theorem rfM_3 {h : AH} {x : Nat} (hr : Refs h) (hx : isM x) : h.2.2 x 3 = x + 3 := by
  rcases hx with rfl | rfl | rfl
  · exact rf_75_3 hr
  · exact rf_83_3 hr
  · exact rf_94_3 hr
theorem isM_3 {x : Nat} (hx : isM x) : Is 194 (x + 3) 20 := by rcases hx with rfl | rfl | rfl <;> exact ⟨by decide, rfl⟩
theorem szM_3 {x : Nat} (hx : isM x) : (ax_s (x + 3)).2 = 400 := by rcases hx with rfl | rfl | rfl <;> rfl
theorem rfM_4 {h : AH} {x : Nat} (hr : Refs h) (hx : isM x) : h.2.2 x 4 = x + 4 := by
  rcases hx with rfl | rfl | rfl
  · exact rf_75_4 hr
  · exact rf_83_4 hr
  · exact rf_94_4 hr
theorem isM_4 {x : Nat} (hx : isM x) : Is 194 (x + 4) 20 := by rcases hx with rfl | rfl | rfl <;> exact ⟨by decide, rfl⟩
theorem szM_4 {x : Nat} (hx : isM x) : (ax_s (x + 4)).2 = 400 := by rcases hx with rfl | rfl | rfl <;> rfl
theorem rfM_5 {h : AH} {x : Nat} (hr : Refs h) (hx : isM x) : h.2.2 x 5 = x + 5 := by
  rcases hx with rfl | rfl | rfl
  · exact rf_75_5 hr
  · exact rf_83_5 hr
  · exact rf_94_5 hr
theorem isM_5 {x : Nat} (hx : isM x) : Is 194 (x + 5) 20 := by rcases hx with rfl | rfl | rfl <;> exact ⟨by decide, rfl⟩
theorem szM_5 {x : Nat} (hx : isM x) : (ax_s (x + 5)).2 = 400 := by rcases hx with rfl | rfl | rfl <;> rfl
theorem rfM_6 {h : AH} {x : Nat} (hr : Refs h) (hx : isM x) : h.2.2 x 6 = x + 6 := by
  rcases hx with rfl | rfl | rfl
  · exact rf_75_6 hr
  · exact rf_83_6 hr
  · exact rf_94_6 hr
theorem isM_6 {x : Nat} (hx : isM x) : Is 194 (x + 6) 20 := by rcases hx with rfl | rfl | rfl <;> exact ⟨by decide, rfl⟩
theorem szM_6 {x : Nat} (hx : isM x) : (ax_s (x + 6)).2 = 1024 := by rcases hx with rfl | rfl | rfl <;> rfl
theorem li_0 : (0 : Int32) = Int32.ofNat 0 := rfl
theorem li_1 : (1 : Int32) = Int32.ofNat 1 := rfl
theorem li_2 : (2 : Int32) = Int32.ofNat 2 := rfl
theorem li_3 : (3 : Int32) = Int32.ofNat 3 := rfl
theorem li_4 : (4 : Int32) = Int32.ofNat 4 := rfl
theorem li_5 : (5 : Int32) = Int32.ofNat 5 := rfl
theorem li_6 : (6 : Int32) = Int32.ofNat 6 := rfl
theorem li_7 : (7 : Int32) = Int32.ofNat 7 := rfl
theorem li_8 : (8 : Int32) = Int32.ofNat 8 := rfl
theorem li_9 : (9 : Int32) = Int32.ofNat 9 := rfl
theorem li_10 : (10 : Int32) = Int32.ofNat 10 := rfl
theorem li_11 : (11 : Int32) = Int32.ofNat 11 := rfl
theorem li_12 : (12 : Int32) = Int32.ofNat 12 := rfl
theorem li_13 : (13 : Int32) = Int32.ofNat 13 := rfl
theorem li_14 : (14 : Int32) = Int32.ofNat 14 := rfl
theorem li_15 : (15 : Int32) = Int32.ofNat 15 := rfl
theorem li_16 : (16 : Int32) = Int32.ofNat 16 := rfl
theorem li_17 : (17 : Int32) = Int32.ofNat 17 := rfl
theorem li_18 : (18 : Int32) = Int32.ofNat 18 := rfl
theorem li_19 : (19 : Int32) = Int32.ofNat 19 := rfl
theorem li_20 : (20 : Int32) = Int32.ofNat 20 := rfl
theorem li_21 : (21 : Int32) = Int32.ofNat 21 := rfl
theorem li_22 : (22 : Int32) = Int32.ofNat 22 := rfl
theorem li_23 : (23 : Int32) = Int32.ofNat 23 := rfl
theorem li_24 : (24 : Int32) = Int32.ofNat 24 := rfl
theorem li_25 : (25 : Int32) = Int32.ofNat 25 := rfl
theorem li_26 : (26 : Int32) = Int32.ofNat 26 := rfl
theorem li_27 : (27 : Int32) = Int32.ofNat 27 := rfl
theorem li_28 : (28 : Int32) = Int32.ofNat 28 := rfl
theorem li_29 : (29 : Int32) = Int32.ofNat 29 := rfl
theorem li_30 : (30 : Int32) = Int32.ofNat 30 := rfl
theorem li_31 : (31 : Int32) = Int32.ofNat 31 := rfl
theorem li_32 : (32 : Int32) = Int32.ofNat 32 := rfl
theorem li_44 : (44 : Int32) = Int32.ofNat 44 := rfl
theorem li_48 : (48 : Int32) = Int32.ofNat 48 := rfl
theorem li_57 : (57 : Int32) = Int32.ofNat 57 := rfl
theorem li_59 : (59 : Int32) = Int32.ofNat 59 := rfl
theorem li_60 : (60 : Int32) = Int32.ofNat 60 := rfl
theorem li_61 : (61 : Int32) = Int32.ofNat 61 := rfl
theorem li_62 : (62 : Int32) = Int32.ofNat 62 := rfl
theorem li_63 : (63 : Int32) = Int32.ofNat 63 := rfl
theorem li_97 : (97 : Int32) = Int32.ofNat 97 := rfl
theorem li_100 : (100 : Int32) = Int32.ofNat 100 := rfl
theorem li_122 : (122 : Int32) = Int32.ofNat 122 := rfl
theorem li_123 : (123 : Int32) = Int32.ofNat 123 := rfl
theorem li_125 : (125 : Int32) = Int32.ofNat 125 := rfl
theorem li_127 : (127 : Int32) = Int32.ofNat 127 := rfl
theorem li_255 : (255 : Int32) = Int32.ofNat 255 := rfl
theorem li_400 : (400 : Int32) = Int32.ofNat 400 := rfl
theorem li_401 : (401 : Int32) = Int32.ofNat 401 := rfl
theorem li_800 : (800 : Int32) = Int32.ofNat 800 := rfl
theorem li_1023 : (1023 : Int32) = Int32.ofNat 1023 := rfl
theorem li_1024 : (1024 : Int32) = Int32.ofNat 1024 := rfl
theorem li_10827 : (10827 : Int32) = Int32.ofNat 10827 := rfl
theorem i_p1 (a : Nat) : Int32.ofNat a + 1 = Int32.ofNat (a + 1) := i_add a 1
theorem i_m1 {a : Nat} (h : 1 ≤ a) : Int32.ofNat a - 1 = Int32.ofNat (a - 1) := i_sub h
theorem i_nm {a : Nat} (h : a < 2147483648) : (Int32.ofNat a = -1) = False := eq_false (i_ne h)
theorem i_nm2 {a : Nat} (h : a < 2147483648) : (Int32.ofNat a = -Int32.ofNat 1) = False := eq_false (i_ne h)
theorem i_cl0 : (0 : Int32).toNatClampNeg = 0 := rfl
theorem lg_e (x y : Int64) : (lg_cmp x y = Int32.ofNat 0) ↔ x = y := lg_cmp_eq x y
theorem gI_s (h : AH) (i k : Nat) (v : Int32) : (ax_setI h i k v).1 i k = v := by rw [gI_I, if_pos ⟨rfl, rfl⟩]
theorem gI_c {h : AH} {i k : Nat} {v : Int32} {a b : Nat} (e : a ≠ i) : (ax_setI h i k v).1 a b = h.1 a b := by rw [gI_I, if_neg (fun q => e q.1)]
theorem gI_p {h : AH} {i k : Nat} {v : Int32} {a b : Nat} (e : b ≠ k) : (ax_setI h i k v).1 a b = h.1 a b := by rw [gI_I, if_neg (fun q => e q.2)]
theorem gI_t {h : AH} {i k : Nat} {v : Int32} {a b : Nat} (e : a = i) (f : b = k) : (ax_setI h i k v).1 a b = v := by rw [gI_I, if_pos ⟨e, f⟩]
theorem gL_s (h : AH) (i k : Nat) (v : Int64) : (ax_setL h i k v).2.1 i k = v := by rw [gL_L, if_pos ⟨rfl, rfl⟩]
theorem gL_c {h : AH} {i k : Nat} {v : Int64} {a b : Nat} (e : a ≠ i) : (ax_setL h i k v).2.1 a b = h.2.1 a b := by rw [gL_L, if_neg (fun q => e q.1)]
theorem gL_p {h : AH} {i k : Nat} {v : Int64} {a b : Nat} (e : b ≠ k) : (ax_setL h i k v).2.1 a b = h.2.1 a b := by rw [gL_L, if_neg (fun q => e q.2)]
theorem gL_t {h : AH} {i k : Nat} {v : Int64} {a b : Nat} (e : a = i) (f : b = k) : (ax_setL h i k v).2.1 a b = v := by rw [gL_L, if_pos ⟨e, f⟩]
theorem gR_s (h : AH) (i k : Nat) (v : Nat) : (ax_setR h i k v).2.2 i k = v := by rw [gR_R, if_pos ⟨rfl, rfl⟩]
theorem gR_c {h : AH} {i k : Nat} {v : Nat} {a b : Nat} (e : a ≠ i) : (ax_setR h i k v).2.2 a b = h.2.2 a b := by rw [gR_R, if_neg (fun q => e q.1)]
theorem gR_p {h : AH} {i k : Nat} {v : Nat} {a b : Nat} (e : b ≠ k) : (ax_setR h i k v).2.2 a b = h.2.2 a b := by rw [gR_R, if_neg (fun q => e q.2)]
/-- heaps alike outside P -/
def Fr (P : Nat → Nat → Prop) (h h1 : AH) : Prop := ∀ c p, ¬ P c p → h1.1 c p = h.1 c p ∧ h1.2.1 c p = h.2.1 c p ∧ h1.2.2 c p = h.2.2 c p
theorem Fr.refl (P : Nat → Nat → Prop) (h : AH) : Fr P h h := fun _ _ _ => ⟨rfl, rfl, rfl⟩
theorem Fr.trans {P : Nat → Nat → Prop} {h h1 h2 : AH} (a : Fr P h h1) (b : Fr P h1 h2) : Fr P h h2 := fun c p n => ⟨(b c p n).1.trans (a c p n).1, (b c p n).2.1.trans (a c p n).2.1, (b c p n).2.2.trans (a c p n).2.2⟩
theorem Fr.mono {P R : Nat → Nat → Prop} {h h1 : AH} (a : Fr P h h1) (e : ∀ c p, P c p → R c p) : Fr R h h1 := fun c p n => a c p (fun q => n (e c p q))
theorem Fr.setI {P : Nat → Nat → Prop} {h h1 : AH} {i k : Nat} {v : Int32} (a : Fr P h h1) (e : P i k) : Fr P h (ax_setI h1 i k v) := by
  intro c p n
  refine ⟨?_, (a c p n).2.1, (a c p n).2.2⟩
  rw [gI_I, if_neg]
  · exact (a c p n).1
  · intro q
    rw [q.1, q.2] at n
    exact n e
theorem Fr.setL {P : Nat → Nat → Prop} {h h1 : AH} {i k : Nat} {v : Int64} (a : Fr P h h1) (e : P i k) : Fr P h (ax_setL h1 i k v) := by
  intro c p n
  refine ⟨(a c p n).1, ?_, (a c p n).2.2⟩
  rw [gL_L, if_neg]
  · exact (a c p n).2.1
  · intro q
    rw [q.1, q.2] at n
    exact n e
theorem Fr.setR {P : Nat → Nat → Prop} {h h1 : AH} {i k : Nat} {v : Nat} (a : Fr P h h1) (e : P i k) : Fr P h (ax_setR h1 i k v) := by
  intro c p n
  refine ⟨(a c p n).1, (a c p n).2.1, ?_⟩
  rw [gR_R, if_neg]
  · exact (a c p n).2.2
  · intro q
    rw [q.1, q.2] at n
    exact n e
theorem Fr.refs {P : Nat → Nat → Prop} {h h1 : AH} (a : Fr P h h1) (hr : Refs h) (e : ∀ c p, P c p → rf c p = 0) : Refs h1 := by
  intro c p hn
  rw [(a c p (fun q => hn (e c p q))).2.2]
  exact hr c p hn
def PS (c p : Nat) : Prop := c = 130 ∨ c = 131 ∨ c = 132 ∨ (c = 103 ∧ (p = 19 ∨ p = 20))
theorem FrS.fr {h h1 : AH} (a : FrS h h1) : Fr PS h h1 := by
  intro c p n
  refine ⟨a.2 c p (fun e => n (Or.inl e)) (fun e => n (Or.inr (Or.inl e))) (fun e => n (Or.inr (Or.inr (Or.inl e)))) (fun e => n (Or.inr (Or.inr (Or.inr e)))), ?_, ?_⟩
  · rw [a.1]
  · rw [a.1]
