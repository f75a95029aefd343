section
set_option maxRecDepth 100000 in
theorem gp_wsX10_feed_o : GoodIn lw_tbl wsX10_feed_o := by unfold wsX10_feed_o; exact (gi_cons dw_6 (gi_cons dw_5 (gi_cons dw_4 (gi_cons dw_3 (gi_cons dw_2 (gi_cons dw_1 gi_nil))))))
set_option maxRecDepth 100000 in
theorem gp_wsX70 : GoodIn lw_tbl wsX70 := goodIn_r _ [208, 210] (by decide +kernel) (by decide +kernel)
set_option maxRecDepth 100000 in
theorem gp_wsX7_hasRoomFor : GoodIn lw_tbl wsX7_hasRoomFor := by unfold wsX7_hasRoomFor; exact (gi_cons dw_7 (goodIn_app (gi_cons dw_9 (gi_cons dw_8 gi_nil)) gp_wsX70))
set_option maxRecDepth 100000 in
theorem gp_wsX7_addFour : GoodIn lw_tbl wsX7_addFour := by unfold wsX7_addFour; exact (gi_cons dw_10 (goodIn_app (gi_cons dw_8 (gi_cons dw_9 gi_nil)) gp_wsX70))
set_option maxRecDepth 100000 in
theorem gp_wsX100 : GoodIn lw_tbl wsX100 := goodIn_r _ [616, 618, 620, 622, 624, 626, 628, 630, 632] (by decide +kernel) (by decide +kernel)
set_option maxRecDepth 100000 in
theorem gp_wsX10_feed : GoodIn lw_tbl wsX10_feed := by unfold wsX10_feed; exact (gi_cons dw_0 (goodIn_app (goodIn_app (goodIn_app gp_wsX10_feed_o (goodIn_app gp_wsX7_hasRoomFor gp_wsX7_addFour)) gp_wsX100) gp_wsX70))
set_option maxRecDepth 100000 in
theorem gp_wsX11_feed_o : GoodIn lw_tbl wsX11_feed_o := by unfold wsX11_feed_o; exact (gi_cons dw_20 (gi_cons dw_19 (gi_cons dw_18 (gi_cons dw_17 (gi_cons dw_16 gi_nil)))))
set_option maxRecDepth 100000 in
theorem gp_wsX110 : GoodIn lw_tbl wsX110 := goodIn_r _ [1421, 1423, 1425, 1427, 1429, 1431, 1433, 1435, 1437, 1439, 1441, 1443, 1445, 1447, 1449, 1451, 1453, 1455, 1457, 1459, 1461, 1463, 1465, 1467, 1469, 1471, 1473, 1475, 1477, 1479, 1481, 1483, 1485, 1487, 1489, 1491, 1493, 1495, 1497, 1499, 1501, 1503, 1505, 1507, 1509, 1511, 1513, 1515, 1517, 1519, 1521, 1523, 1525, 1527, 1529, 1531, 1533, 1535] (by decide +kernel) (by decide +kernel)
set_option maxRecDepth 100000 in
theorem gp_wsX11_put : GoodIn lw_tbl wsX11_put := by unfold wsX11_put; exact (gi_cons dw_21 (goodIn_app (gi_cons dw_22 (gi_cons dw_20 gi_nil)) gp_wsX110))
set_option maxRecDepth 100000 in
theorem gp_wsX11_feed : GoodIn lw_tbl wsX11_feed := by unfold wsX11_feed; exact (gi_cons dw_15 (goodIn_app (goodIn_app gp_wsX11_feed_o gp_wsX11_put) gp_wsX110))
set_option maxRecDepth 100000 in
theorem gp_wsX10_back : GoodIn lw_tbl wsX10_back := by unfold wsX10_back; exact (gi_cons dw_26 (goodIn_app (goodIn_app (gi_cons dw_6 gi_nil) gp_wsX100) gp_wsX70))
set_option maxRecDepth 100000 in
theorem gp_wsX11_back : GoodIn lw_tbl wsX11_back := by unfold wsX11_back; exact (gi_cons dw_30 (goodIn_app (gi_cons dw_20 gi_nil) gp_wsX110))
set_option maxRecDepth 100000 in
theorem gp_wsX10_read_o : GoodIn lw_tbl wsX10_read_o := by unfold wsX10_read_o; exact (gi_cons dw_51 (gi_cons dw_6 (gi_cons dw_50 (gi_cons dw_49 (gi_cons dw_48 (gi_cons dw_47 (gi_cons dw_46 (gi_cons dw_45 (gi_cons dw_44 (gi_cons dw_43 (gi_cons dw_42 (gi_cons dw_41 (gi_cons dw_40 (gi_cons dw_39 (gi_cons dw_38 (gi_cons dw_37 (gi_cons dw_36 (gi_cons dw_35 gi_nil))))))))))))))))))
set_option maxRecDepth 100000 in
theorem gp_wsX4_readTape_o : GoodIn lw_tbl wsX4_readTape_o := by unfold wsX4_readTape_o; exact (gi_cons dw_72 (gi_cons dw_71 (gi_cons dw_70 (gi_cons dw_69 (gi_cons dw_68 (gi_cons dw_67 (gi_cons dw_66 (gi_cons dw_65 (gi_cons dw_43 (gi_cons dw_64 (gi_cons dw_63 (gi_cons dw_62 (gi_cons dw_61 (gi_cons dw_60 (gi_cons dw_59 (gi_cons dw_58 (gi_cons dw_45 (gi_cons dw_57 (gi_cons dw_56 (gi_cons dw_55 (gi_cons dw_54 (gi_cons dw_53 gi_nil))))))))))))))))))))))
set_option maxRecDepth 100000 in
theorem gp_wsX5_clear_o : GoodIn lw_tbl wsX5_clear_o := by unfold wsX5_clear_o; exact (gi_cons dw_81 (gi_cons dw_80 (gi_cons dw_79 (gi_cons dw_78 (gi_cons dw_77 (gi_cons dw_76 (gi_cons dw_75 (gi_cons dw_74 gi_nil))))))))
set_option maxRecDepth 100000 in
theorem gp_wsX1_clear_o : GoodIn lw_tbl wsX1_clear_o := by unfold wsX1_clear_o; exact (gi_cons dw_95 (gi_cons dw_94 (gi_cons dw_93 (gi_cons dw_92 (gi_cons dw_75 (gi_cons dw_91 (gi_cons dw_90 (gi_cons dw_89 (gi_cons dw_88 (gi_cons dw_87 (gi_cons dw_86 (gi_cons dw_85 (gi_cons dw_84 (gi_cons dw_83 gi_nil))))))))))))))
set_option maxRecDepth 100000 in
theorem gp_wsX10 : GoodIn lw_tbl wsX10 := goodIn_r _ [236, 238, 240, 242, 244, 246, 248, 250, 252] (by decide +kernel) (by decide +kernel)
set_option maxRecDepth 100000 in
theorem gp_wsX1_begin : GoodIn lw_tbl wsX1_begin := by unfold wsX1_begin; exact (gi_cons dw_96 (goodIn_app (gi_cons dw_99 (gi_cons dw_98 (gi_cons dw_95 (gi_cons dw_97 gi_nil)))) gp_wsX10))
set_option maxRecDepth 100000 in
theorem gp_wsX1_putVar_o : GoodIn lw_tbl wsX1_putVar_o := by unfold wsX1_putVar_o; exact (gi_cons dw_103 (gi_cons dw_102 (gi_cons dw_101 (gi_cons dw_75 gi_nil))))
set_option maxRecDepth 100000 in
theorem gp_wsX1_put : GoodIn lw_tbl wsX1_put := by unfold wsX1_put; exact (gi_cons dw_104 (goodIn_app (gi_cons dw_95 (gi_cons dw_105 gi_nil)) gp_wsX10))
set_option maxRecDepth 100000 in
theorem gp_wsX1_putVar : GoodIn lw_tbl wsX1_putVar := by unfold wsX1_putVar; exact (gi_cons dw_100 (goodIn_app (goodIn_app gp_wsX1_putVar_o gp_wsX1_put) gp_wsX10))
set_option maxRecDepth 100000 in
theorem gp_wsX1_endPart : GoodIn lw_tbl wsX1_endPart := by unfold wsX1_endPart; exact (gi_cons dw_106 (goodIn_app (gi_cons dw_97 (gi_cons dw_99 (gi_cons dw_107 (gi_cons dw_95 gi_nil)))) gp_wsX10))
set_option maxRecDepth 100000 in
theorem gp_wsX1_putNumber_o : GoodIn lw_tbl wsX1_putNumber_o := by unfold wsX1_putNumber_o; exact (gi_cons dw_103 (gi_cons dw_102 (gi_cons dw_101 (gi_cons dw_75 gi_nil))))
set_option maxRecDepth 100000 in
theorem gp_wsX1_putNumber : GoodIn lw_tbl wsX1_putNumber := by unfold wsX1_putNumber; exact (gi_cons dw_108 (goodIn_app (goodIn_app gp_wsX1_putNumber_o gp_wsX1_put) gp_wsX10))
set_option maxRecDepth 100000 in
theorem gp_wsX1_clear : GoodIn lw_tbl wsX1_clear := by unfold wsX1_clear; exact (gi_cons dw_82 (goodIn_app (goodIn_app gp_wsX1_clear_o (goodIn_app gp_wsX1_begin (goodIn_app gp_wsX1_putVar (goodIn_app gp_wsX1_endPart gp_wsX1_putNumber)))) gp_wsX10))
set_option maxRecDepth 100000 in
theorem gp_wsX50 : GoodIn lw_tbl wsX50 := goodIn_r _ [315, 317, 319, 321, 323, 325, 327, 329, 331, 333] (by decide +kernel) (by decide +kernel)
set_option maxRecDepth 100000 in
theorem gp_wsX5_clear : GoodIn lw_tbl wsX5_clear := by unfold wsX5_clear; exact (gi_cons dw_73 (goodIn_app (goodIn_app (goodIn_app gp_wsX5_clear_o gp_wsX1_clear) gp_wsX50) gp_wsX10))
set_option maxRecDepth 100000 in
theorem gp_wsX9_split_o : GoodIn lw_tbl wsX9_split_o := by unfold wsX9_split_o; exact (gi_cons dw_120 (gi_cons dw_119 (gi_cons dw_118 (gi_cons dw_117 (gi_cons dw_116 (gi_cons dw_115 (gi_cons dw_114 (gi_cons dw_113 (gi_cons dw_62 (gi_cons dw_112 (gi_cons dw_111 (gi_cons dw_110 gi_nil))))))))))))
set_option maxRecDepth 100000 in
theorem gp_wsX9_skipBlanks_o : GoodIn lw_tbl wsX9_skipBlanks_o := by unfold wsX9_skipBlanks_o; exact (gi_cons dw_120 (gi_cons dw_126 (gi_cons dw_125 (gi_cons dw_4 (gi_cons dw_124 (gi_cons dw_123 (gi_cons dw_122 (gi_cons dw_62 gi_nil))))))))
set_option maxRecDepth 100000 in
theorem gp_wsX7_byteAt : GoodIn lw_tbl wsX7_byteAt := by unfold wsX7_byteAt; exact (gi_cons dw_127 (goodIn_app (gi_cons dw_8 (gi_cons dw_9 gi_nil)) gp_wsX70))
set_option maxRecDepth 100000 in
theorem gp_wsX9_isBlank : GoodIn lw_tbl wsX9_isBlank := by unfold wsX9_isBlank; exact (gi_cons dw_128 gi_nil)
set_option maxRecDepth 100000 in
theorem gp_wsX90 : GoodIn lw_tbl wsX90 := goodIn_r _ [415, 417, 419, 421, 423, 425, 427] (by decide +kernel) (by decide +kernel)
set_option maxRecDepth 100000 in
theorem gp_wsX9_skipBlanks : GoodIn lw_tbl wsX9_skipBlanks := by unfold wsX9_skipBlanks; exact (gi_cons dw_121 (goodIn_app (goodIn_app (goodIn_app gp_wsX9_skipBlanks_o (goodIn_app gp_wsX7_byteAt gp_wsX9_isBlank)) gp_wsX90) gp_wsX70))
set_option maxRecDepth 100000 in
theorem gp_wsX9_splitOne_o : GoodIn lw_tbl wsX9_splitOne_o := by unfold wsX9_splitOne_o; exact (gi_cons dw_116 (gi_cons dw_126 (gi_cons dw_120 (gi_cons dw_125 (gi_cons dw_4 (gi_cons dw_124 (gi_cons dw_148 (gi_cons dw_147 (gi_cons dw_62 (gi_cons dw_146 (gi_cons dw_145 (gi_cons dw_144 (gi_cons dw_143 (gi_cons dw_142 (gi_cons dw_141 (gi_cons dw_140 (gi_cons dw_139 (gi_cons dw_138 (gi_cons dw_137 (gi_cons dw_136 (gi_cons dw_135 (gi_cons dw_134 (gi_cons dw_133 (gi_cons dw_132 (gi_cons dw_131 (gi_cons dw_130 gi_nil))))))))))))))))))))))))))
set_option maxRecDepth 100000 in
theorem gp_wsX9_isLetter : GoodIn lw_tbl wsX9_isLetter := by unfold wsX9_isLetter; exact (gi_cons dw_149 gi_nil)
set_option maxRecDepth 100000 in
theorem gp_wsX9_splitLetters_o : GoodIn lw_tbl wsX9_splitLetters_o := by unfold wsX9_splitLetters_o; exact (gi_cons dw_120 (gi_cons dw_126 (gi_cons dw_116 (gi_cons dw_153 (gi_cons dw_125 (gi_cons dw_4 (gi_cons dw_124 (gi_cons dw_148 (gi_cons dw_147 (gi_cons dw_62 (gi_cons dw_152 (gi_cons dw_151 gi_nil))))))))))))
set_option maxRecDepth 100000 in
theorem gp_wsX9_withLetter : GoodIn lw_tbl wsX9_withLetter := by unfold wsX9_withLetter; exact (gi_cons dw_154 gi_nil)
set_option maxRecDepth 100000 in
theorem gp_wsX9_splitLetters : GoodIn lw_tbl wsX9_splitLetters := by unfold wsX9_splitLetters; exact (gi_cons dw_150 (goodIn_app (goodIn_app (goodIn_app gp_wsX9_splitLetters_o (goodIn_app gp_wsX7_byteAt (goodIn_app gp_wsX9_isLetter gp_wsX9_withLetter))) gp_wsX90) gp_wsX70))
set_option maxRecDepth 100000 in
theorem gp_wsX9_isDigit : GoodIn lw_tbl wsX9_isDigit := by unfold wsX9_isDigit; exact (gi_cons dw_155 gi_nil)
set_option maxRecDepth 100000 in
theorem gp_wsX9_splitDigits_o : GoodIn lw_tbl wsX9_splitDigits_o := by unfold wsX9_splitDigits_o; exact (gi_cons dw_120 (gi_cons dw_126 (gi_cons dw_116 (gi_cons dw_158 (gi_cons dw_157 (gi_cons dw_125 (gi_cons dw_4 (gi_cons dw_124 (gi_cons dw_143 (gi_cons dw_142 (gi_cons dw_62 gi_nil)))))))))))
set_option maxRecDepth 100000 in
theorem gp_wsX9_splitDigits : GoodIn lw_tbl wsX9_splitDigits := by unfold wsX9_splitDigits; exact (gi_cons dw_156 (goodIn_app (goodIn_app (goodIn_app gp_wsX9_splitDigits_o (goodIn_app gp_wsX7_byteAt gp_wsX9_isDigit)) gp_wsX90) gp_wsX70))
set_option maxRecDepth 100000 in
theorem gp_wsJ0_indexOf_0f7a4_o : GoodIn lw_tbl wsJ0_indexOf_0f7a4_o := by unfold wsJ0_indexOf_0f7a4_o; exact (gi_cons dw_162 (gi_cons dw_161 (gi_cons dw_160 (gi_cons dw_135 gi_nil))))
set_option maxRecDepth 100000 in
theorem gp_wsJ0_indexOf_7cf53_o : GoodIn lw_tbl wsJ0_indexOf_7cf53_o := by unfold wsJ0_indexOf_7cf53_o; exact (gi_cons dw_174 (gi_cons dw_173 (gi_cons dw_172 (gi_cons dw_171 (gi_cons dw_135 (gi_cons dw_170 (gi_cons dw_169 (gi_cons dw_168 (gi_cons dw_167 (gi_cons dw_166 (gi_cons dw_134 (gi_cons dw_133 (gi_cons dw_165 (gi_cons dw_164 (gi_cons dw_132 (gi_cons dw_131 (gi_cons dw_130 gi_nil)))))))))))))))))
set_option maxRecDepth 100000 in
theorem gp_wsJ0_isLatin1_aae02 : GoodIn lw_tbl wsJ0_isLatin1_aae02 := by unfold wsJ0_isLatin1_aae02; exact (gi_cons dw_175 (gi_cons dw_177 (gi_cons dw_176 gi_nil)))
set_option maxRecDepth 100000 in
theorem gp_wsJ0_length_8abf5_o : GoodIn lw_tbl wsJ0_length_8abf5_o := by unfold wsJ0_length_8abf5_o; exact (gi_cons dw_174 (gi_cons dw_181 (gi_cons dw_180 (gi_cons dw_179 (gi_cons dw_135 gi_nil)))))
set_option maxRecDepth 100000 in
theorem gp_wsJ0_coder_7d493 : GoodIn lw_tbl wsJ0_coder_7d493 := by unfold wsJ0_coder_7d493; exact (gi_cons dw_182 (gi_cons dw_177 (gi_cons dw_176 gi_nil)))
set_option maxRecDepth 100000 in
theorem gp_wsJ0_length_8abf5 : GoodIn lw_tbl wsJ0_length_8abf5 := by unfold wsJ0_length_8abf5; exact (gi_cons dw_178 (goodIn_app gp_wsJ0_length_8abf5_o gp_wsJ0_coder_7d493))
set_option maxRecDepth 100000 in
theorem gp_wsJ1_indexOf_4cfef_o : GoodIn lw_tbl wsJ1_indexOf_4cfef_o := by unfold wsJ1_indexOf_4cfef_o; exact (gi_cons dw_193 (gi_cons dw_192 (gi_cons dw_133 (gi_cons dw_191 (gi_cons dw_190 (gi_cons dw_189 (gi_cons dw_188 (gi_cons dw_187 (gi_cons dw_186 (gi_cons dw_134 (gi_cons dw_185 (gi_cons dw_184 gi_nil))))))))))))
set_option maxRecDepth 100000 in
theorem gp_wsJ1_canEncode_9a6ad : GoodIn lw_tbl wsJ1_canEncode_9a6ad := by unfold wsJ1_canEncode_9a6ad; exact (gi_cons dw_194 gi_nil)
set_option maxRecDepth 100000 in
theorem gp_wsJ1_indexOfChar_4cfef : GoodIn lw_tbl wsJ1_indexOfChar_4cfef := by unfold wsJ1_indexOfChar_4cfef; exact (gi_cons dw_195 gi_nil)
set_option maxRecDepth 100000 in
theorem gp_wsJ1_indexOf_4cfef : GoodIn lw_tbl wsJ1_indexOf_4cfef := by unfold wsJ1_indexOf_4cfef; exact (gi_cons dw_183 (goodIn_app gp_wsJ1_indexOf_4cfef_o (goodIn_app gp_wsJ1_canEncode_9a6ad gp_wsJ1_indexOfChar_4cfef)))
set_option maxRecDepth 100000 in
theorem gp_wsJ2_indexOf_4cfef_o : GoodIn lw_tbl wsJ2_indexOf_4cfef_o := by unfold wsJ2_indexOf_4cfef_o; exact (gi_cons dw_203 (gi_cons dw_192 (gi_cons dw_133 (gi_cons dw_191 (gi_cons dw_202 (gi_cons dw_189 (gi_cons dw_188 (gi_cons dw_201 (gi_cons dw_200 (gi_cons dw_199 (gi_cons dw_132 (gi_cons dw_135 (gi_cons dw_131 (gi_cons dw_198 (gi_cons dw_197 (gi_cons dw_130 gi_nil))))))))))))))))
set_option maxRecDepth 100000 in
theorem gp_wsJ2_indexOfChar_4cfef_o : GoodIn lw_tbl wsJ2_indexOfChar_4cfef_o := by unfold wsJ2_indexOfChar_4cfef_o; exact (gi_cons dw_208 (gi_cons dw_207 (gi_cons dw_132 (gi_cons dw_135 (gi_cons dw_131 (gi_cons dw_206 (gi_cons dw_205 gi_nil)))))))
set_option maxRecDepth 100000 in
theorem gp_wsJ2_checkBoundsBeginEnd_d044e_o : GoodIn lw_tbl wsJ2_checkBoundsBeginEnd_d044e_o := by unfold wsJ2_checkBoundsBeginEnd_d044e_o; exact (gi_cons dw_213 (gi_cons dw_212 (gi_cons dw_132 (gi_cons dw_211 (gi_cons dw_210 (gi_cons dw_135 (gi_cons dw_131 gi_nil)))))))
set_option maxRecDepth 100000 in
theorem gp_wsJ2_length_9d52b : GoodIn lw_tbl wsJ2_length_9d52b := by unfold wsJ2_length_9d52b; exact (gi_cons dw_214 gi_nil)
set_option maxRecDepth 100000 in
theorem gp_wsJ0_checkBoundsBeginEnd_23922_o : GoodIn lw_tbl wsJ0_checkBoundsBeginEnd_23922_o := by unfold wsJ0_checkBoundsBeginEnd_23922_o; exact (gi_cons dw_218 (gi_cons dw_217 (gi_cons dw_216 (gi_cons dw_131 gi_nil))))
set_option maxRecDepth 100000 in
theorem gp_wsJ3_checkFromToIndex_8c36e : GoodIn lw_tbl wsJ3_checkFromToIndex_8c36e := by unfold wsJ3_checkFromToIndex_8c36e; exact (gi_cons dw_219 gi_nil)
set_option maxRecDepth 100000 in
theorem gp_wsJ0_checkBoundsBeginEnd_23922 : GoodIn lw_tbl wsJ0_checkBoundsBeginEnd_23922 := by unfold wsJ0_checkBoundsBeginEnd_23922; exact (gi_cons dw_215 (goodIn_app gp_wsJ0_checkBoundsBeginEnd_23922_o gp_wsJ3_checkFromToIndex_8c36e))
set_option maxRecDepth 100000 in
theorem gp_wsJ2_checkBoundsBeginEnd_d044e : GoodIn lw_tbl wsJ2_checkBoundsBeginEnd_d044e := by unfold wsJ2_checkBoundsBeginEnd_d044e; exact (gi_cons dw_209 (goodIn_app gp_wsJ2_checkBoundsBeginEnd_d044e_o (goodIn_app gp_wsJ2_length_9d52b gp_wsJ0_checkBoundsBeginEnd_23922)))
set_option maxRecDepth 100000 in
theorem gp_wsJ2_indexOfCharUnsafe_4cfef_o : GoodIn lw_tbl wsJ2_indexOfCharUnsafe_4cfef_o := by unfold wsJ2_indexOfCharUnsafe_4cfef_o; exact (gi_cons dw_222 (gi_cons dw_221 (gi_cons dw_132 gi_nil)))
set_option maxRecDepth 100000 in
theorem gp_wsJ2_getChar_3b067_o : GoodIn lw_tbl wsJ2_getChar_3b067_o := by unfold wsJ2_getChar_3b067_o; exact (gi_cons dw_226 (gi_cons dw_225 (gi_cons dw_224 (gi_cons dw_213 (gi_cons dw_212 (gi_cons dw_132 gi_nil))))))
set_option maxRecDepth 100000 in
theorem gp_wsJ2_getChar_3b067 : GoodIn lw_tbl wsJ2_getChar_3b067 := by unfold wsJ2_getChar_3b067; exact (gi_cons dw_223 (goodIn_app gp_wsJ2_getChar_3b067_o gp_wsJ2_length_9d52b))
set_option maxRecDepth 100000 in
theorem gp_wsJ2_indexOfCharUnsafe_4cfef : GoodIn lw_tbl wsJ2_indexOfCharUnsafe_4cfef := by unfold wsJ2_indexOfCharUnsafe_4cfef; exact (gi_cons dw_220 (goodIn_app gp_wsJ2_indexOfCharUnsafe_4cfef_o gp_wsJ2_getChar_3b067))
set_option maxRecDepth 100000 in
theorem gp_wsJ2_indexOfChar_4cfef : GoodIn lw_tbl wsJ2_indexOfChar_4cfef := by unfold wsJ2_indexOfChar_4cfef; exact (gi_cons dw_204 (goodIn_app gp_wsJ2_indexOfChar_4cfef_o (goodIn_app gp_wsJ2_checkBoundsBeginEnd_d044e gp_wsJ2_indexOfCharUnsafe_4cfef)))
set_option maxRecDepth 100000 in
theorem gp_wsJ2_indexOfSupplementary_4cfef_o : GoodIn lw_tbl wsJ2_indexOfSupplementary_4cfef_o := by unfold wsJ2_indexOfSupplementary_4cfef_o; exact (gi_cons dw_233 (gi_cons dw_232 (gi_cons dw_130 (gi_cons dw_231 (gi_cons dw_230 (gi_cons dw_229 (gi_cons dw_228 (gi_cons dw_208 (gi_cons dw_207 (gi_cons dw_132 (gi_cons dw_135 (gi_cons dw_131 (gi_cons dw_222 (gi_cons dw_221 gi_nil))))))))))))))
set_option maxRecDepth 100000 in
theorem gp_wsJ11_isValidCodePoint_9a6ad : GoodIn lw_tbl wsJ11_isValidCodePoint_9a6ad := by unfold wsJ11_isValidCodePoint_9a6ad; exact (gi_cons dw_234 gi_nil)
set_option maxRecDepth 100000 in
theorem gp_wsJ11_highSurrogate_5068e : GoodIn lw_tbl wsJ11_highSurrogate_5068e := by unfold wsJ11_highSurrogate_5068e; exact (gi_cons dw_235 (gi_cons dw_236 gi_nil))
set_option maxRecDepth 100000 in
theorem gp_wsJ11_lowSurrogate_5068e : GoodIn lw_tbl wsJ11_lowSurrogate_5068e := by unfold wsJ11_lowSurrogate_5068e; exact (gi_cons dw_237 (gi_cons dw_238 gi_nil))
set_option maxRecDepth 100000 in
theorem gp_wsJ2_indexOfSupplementary_4cfef : GoodIn lw_tbl wsJ2_indexOfSupplementary_4cfef := by unfold wsJ2_indexOfSupplementary_4cfef; exact (gi_cons dw_227 (goodIn_app gp_wsJ2_indexOfSupplementary_4cfef_o (goodIn_app gp_wsJ11_isValidCodePoint_9a6ad (goodIn_app gp_wsJ11_highSurrogate_5068e (goodIn_app gp_wsJ11_lowSurrogate_5068e (goodIn_app gp_wsJ2_checkBoundsBeginEnd_d044e gp_wsJ2_getChar_3b067))))))
set_option maxRecDepth 100000 in
theorem gp_wsJ2_indexOf_4cfef : GoodIn lw_tbl wsJ2_indexOf_4cfef := by unfold wsJ2_indexOf_4cfef; exact (gi_cons dw_196 (goodIn_app gp_wsJ2_indexOf_4cfef_o (goodIn_app gp_wsJ2_indexOfChar_4cfef gp_wsJ2_indexOfSupplementary_4cfef)))
set_option maxRecDepth 100000 in
theorem gp_wsJ0_indexOf_7cf53 : GoodIn lw_tbl wsJ0_indexOf_7cf53 := by unfold wsJ0_indexOf_7cf53; exact (gi_cons dw_163 (goodIn_app gp_wsJ0_indexOf_7cf53_o (goodIn_app gp_wsJ0_isLatin1_aae02 (goodIn_app gp_wsJ0_length_8abf5 (goodIn_app gp_wsJ1_indexOf_4cfef gp_wsJ2_indexOf_4cfef)))))
set_option maxRecDepth 100000 in
theorem gp_wsJ0_indexOf_0f7a4 : GoodIn lw_tbl wsJ0_indexOf_0f7a4 := by unfold wsJ0_indexOf_0f7a4; exact (gi_cons dw_159 (goodIn_app gp_wsJ0_indexOf_0f7a4_o gp_wsJ0_indexOf_7cf53))
set_option maxRecDepth 100000 in
theorem gp_wsX9_splitOne : GoodIn lw_tbl wsX9_splitOne := by unfold wsX9_splitOne; exact (gi_cons dw_129 (goodIn_app (goodIn_app (goodIn_app gp_wsX9_splitOne_o (goodIn_app gp_wsX7_byteAt (goodIn_app gp_wsX9_isLetter (goodIn_app gp_wsX9_splitLetters (goodIn_app gp_wsX9_isDigit (goodIn_app gp_wsX9_splitDigits gp_wsJ0_indexOf_0f7a4)))))) gp_wsX90) gp_wsX70))
set_option maxRecDepth 100000 in
theorem gp_wsX9_split : GoodIn lw_tbl wsX9_split := by unfold wsX9_split; exact (gi_cons dw_109 (goodIn_app (goodIn_app (goodIn_app gp_wsX9_split_o (goodIn_app gp_wsX9_skipBlanks gp_wsX9_splitOne)) gp_wsX90) gp_wsX70))
set_option maxRecDepth 100000 in
theorem gp_wsX40 : GoodIn lw_tbl wsX40 := goodIn_r _ [441, 443, 445, 447, 449, 451, 453, 455] (by decide +kernel) (by decide +kernel)
set_option maxRecDepth 100000 in
theorem gp_wsX4_isAt : GoodIn lw_tbl wsX4_isAt := by unfold wsX4_isAt; exact (gi_cons dw_239 (goodIn_app (goodIn_app (gi_cons dw_70 (gi_cons dw_66 (gi_cons dw_71 gi_nil))) gp_wsX40) gp_wsX90))
set_option maxRecDepth 100000 in
theorem gp_wsX4_readTell_o : GoodIn lw_tbl wsX4_readTell_o := by unfold wsX4_readTell_o; exact (gi_cons dw_66 (gi_cons dw_71 (gi_cons dw_72 (gi_cons dw_258 (gi_cons dw_257 (gi_cons dw_256 (gi_cons dw_45 (gi_cons dw_255 (gi_cons dw_254 (gi_cons dw_253 (gi_cons dw_252 (gi_cons dw_251 (gi_cons dw_250 (gi_cons dw_249 (gi_cons dw_248 (gi_cons dw_247 (gi_cons dw_246 (gi_cons dw_245 (gi_cons dw_244 (gi_cons dw_243 (gi_cons dw_242 (gi_cons dw_241 gi_nil))))))))))))))))))))))
set_option maxRecDepth 100000 in
theorem gp_wsX4_readWave_o : GoodIn lw_tbl wsX4_readWave_o := by unfold wsX4_readWave_o; exact (gi_cons dw_72 (gi_cons dw_66 (gi_cons dw_71 (gi_cons dw_255 (gi_cons dw_254 (gi_cons dw_253 (gi_cons dw_45 (gi_cons dw_252 (gi_cons dw_251 (gi_cons dw_250 (gi_cons dw_249 (gi_cons dw_248 (gi_cons dw_247 (gi_cons dw_262 (gi_cons dw_261 (gi_cons dw_260 gi_nil))))))))))))))))
set_option maxRecDepth 100000 in
theorem gp_wsX4_fail : GoodIn lw_tbl wsX4_fail := by unfold wsX4_fail; exact (gi_cons dw_263 (goodIn_app (goodIn_app (gi_cons dw_70 (gi_cons dw_66 (gi_cons dw_71 (gi_cons dw_69 gi_nil)))) gp_wsX40) gp_wsX90))
set_option maxRecDepth 100000 in
theorem gp_wsX4_take_o : GoodIn lw_tbl wsX4_take_o := by unfold wsX4_take_o; exact (gi_cons dw_71 (gi_cons dw_60 (gi_cons dw_59 (gi_cons dw_58 (gi_cons dw_45 (gi_cons dw_255 (gi_cons dw_254 (gi_cons dw_253 gi_nil))))))))
set_option maxRecDepth 100000 in
theorem gp_wsX4_take : GoodIn lw_tbl wsX4_take := by unfold wsX4_take; exact (gi_cons dw_264 (goodIn_app (goodIn_app (goodIn_app gp_wsX4_take_o (goodIn_app gp_wsX4_isAt gp_wsX4_fail)) gp_wsX40) gp_wsX90))
set_option maxRecDepth 100000 in
theorem gp_wsX4_takeInt_o : GoodIn lw_tbl wsX4_takeInt_o := by unfold wsX4_takeInt_o; exact (gi_cons dw_66 (gi_cons dw_71 (gi_cons dw_60 (gi_cons dw_59 (gi_cons dw_58 (gi_cons dw_45 (gi_cons dw_262 (gi_cons dw_261 (gi_cons dw_260 (gi_cons dw_252 (gi_cons dw_251 (gi_cons dw_250 gi_nil))))))))))))
set_option maxRecDepth 100000 in
theorem gp_wsX4_failLater : GoodIn lw_tbl wsX4_failLater := by unfold wsX4_failLater; exact (gi_cons dw_266 (goodIn_app (gi_cons dw_68 (gi_cons dw_67 gi_nil)) gp_wsX40))
set_option maxRecDepth 100000 in
theorem gp_wsX4_takeInt : GoodIn lw_tbl wsX4_takeInt := by unfold wsX4_takeInt; exact (gi_cons dw_265 (goodIn_app (goodIn_app (goodIn_app gp_wsX4_takeInt_o (goodIn_app gp_wsX4_isAt (goodIn_app gp_wsX4_failLater gp_wsX4_take))) gp_wsX40) gp_wsX90))
set_option maxRecDepth 100000 in
theorem gp_wsX4_readWave : GoodIn lw_tbl wsX4_readWave := by unfold wsX4_readWave; exact (gi_cons dw_259 (goodIn_app (goodIn_app (goodIn_app (goodIn_app gp_wsX4_readWave_o (goodIn_app gp_wsX4_fail (goodIn_app gp_wsX4_take (goodIn_app gp_wsX4_takeInt gp_wsX4_failLater)))) gp_wsX40) gp_wsX50) gp_wsX90))
set_option maxRecDepth 100000 in
theorem gp_wsX4_readParty_o : GoodIn lw_tbl wsX4_readParty_o := by unfold wsX4_readParty_o; exact (gi_cons dw_72 (gi_cons dw_66 (gi_cons dw_71 (gi_cons dw_271 (gi_cons dw_255 (gi_cons dw_254 (gi_cons dw_253 (gi_cons dw_45 (gi_cons dw_252 (gi_cons dw_251 (gi_cons dw_250 (gi_cons dw_60 (gi_cons dw_59 (gi_cons dw_58 (gi_cons dw_270 (gi_cons dw_269 (gi_cons dw_268 (gi_cons dw_262 (gi_cons dw_261 (gi_cons dw_260 (gi_cons dw_249 (gi_cons dw_248 (gi_cons dw_247 gi_nil)))))))))))))))))))))))
set_option maxRecDepth 100000 in
theorem gp_wsX4_isTold : GoodIn lw_tbl wsX4_isTold := by unfold wsX4_isTold; exact (gi_cons dw_272 (goodIn_app (goodIn_app (gi_cons dw_72 (gi_cons dw_271 gi_nil)) gp_wsX40) gp_wsX50))
set_option maxRecDepth 100000 in
theorem gp_wsX4_readParty : GoodIn lw_tbl wsX4_readParty := by unfold wsX4_readParty; exact (gi_cons dw_267 (goodIn_app (goodIn_app (goodIn_app (goodIn_app gp_wsX4_readParty_o (goodIn_app gp_wsX4_fail (goodIn_app gp_wsX4_take (goodIn_app gp_wsX4_isAt (goodIn_app gp_wsX4_isTold (goodIn_app gp_wsX4_failLater gp_wsX4_takeInt)))))) gp_wsX40) gp_wsX50) gp_wsX90))
set_option maxRecDepth 100000 in
theorem gp_wsX4_readLaw_o : GoodIn lw_tbl wsX4_readLaw_o := by unfold wsX4_readLaw_o; exact (gi_cons dw_72 (gi_cons dw_252 (gi_cons dw_251 (gi_cons dw_250 (gi_cons dw_45 (gi_cons dw_60 (gi_cons dw_59 (gi_cons dw_58 (gi_cons dw_255 (gi_cons dw_254 (gi_cons dw_253 (gi_cons dw_93 (gi_cons dw_75 (gi_cons dw_92 (gi_cons dw_276 (gi_cons dw_275 (gi_cons dw_274 gi_nil)))))))))))))))))
set_option maxRecDepth 100000 in
theorem gp_wsX4_readPart_o : GoodIn lw_tbl wsX4_readPart_o := by unfold wsX4_readPart_o; exact (gi_cons dw_72 (gi_cons dw_280 (gi_cons dw_279 (gi_cons dw_278 (gi_cons dw_45 (gi_cons dw_252 (gi_cons dw_251 (gi_cons dw_250 (gi_cons dw_75 (gi_cons dw_87 (gi_cons dw_86 gi_nil)))))))))))
set_option maxRecDepth 100000 in
theorem gp_wsX4_readProduct_g_o : GoodIn lw_tbl wsX4_readProduct_g_o := by unfold wsX4_readProduct_g_o; exact (gi_cons dw_66 (gi_cons dw_71 (gi_cons dw_72 (gi_cons dw_291 (gi_cons dw_290 (gi_cons dw_289 (gi_cons dw_45 (gi_cons dw_60 (gi_cons dw_59 (gi_cons dw_58 (gi_cons dw_252 (gi_cons dw_251 (gi_cons dw_250 (gi_cons dw_255 (gi_cons dw_254 (gi_cons dw_253 (gi_cons dw_288 (gi_cons dw_75 (gi_cons dw_287 (gi_cons dw_286 (gi_cons dw_285 (gi_cons dw_284 (gi_cons dw_84 (gi_cons dw_83 (gi_cons dw_90 (gi_cons dw_89 (gi_cons dw_280 (gi_cons dw_279 (gi_cons dw_278 (gi_cons dw_283 (gi_cons dw_281 (gi_cons dw_282 gi_nil))))))))))))))))))))))))))))))))
set_option maxRecDepth 100000 in
theorem gp_wsX1_putSign_o : GoodIn lw_tbl wsX1_putSign_o := by unfold wsX1_putSign_o; exact (gi_cons dw_103 (gi_cons dw_102 (gi_cons dw_101 (gi_cons dw_75 gi_nil))))
set_option maxRecDepth 100000 in
theorem gp_wsX1_putSign : GoodIn lw_tbl wsX1_putSign := by unfold wsX1_putSign; exact (gi_cons dw_292 (goodIn_app (goodIn_app gp_wsX1_putSign_o gp_wsX1_put) gp_wsX10))
set_option maxRecDepth 100000 in
theorem gp_wsX4_readProduct_g : GoodIn lw_tbl wsX4_readProduct_g := by unfold wsX4_readProduct_g; exact (goodIn_app (goodIn_app (goodIn_app (goodIn_app (goodIn_app gp_wsX4_readProduct_g_o (goodIn_app gp_wsX4_isAt (goodIn_app gp_wsX4_take (goodIn_app gp_wsX1_putSign (goodIn_app gp_wsX1_putNumber (goodIn_app gp_wsX1_putVar gp_wsX4_fail)))))) gp_wsX40) gp_wsX90) gp_wsX50) gp_wsX10)
set_option maxRecDepth 100000 in
theorem gp_wsX4_readSum : GoodIn lw_tbl wsX4_readSum := by unfold wsX4_readSum; exact (gi_cons dw_281 gp_wsX4_readProduct_g)
set_option maxRecDepth 100000 in
theorem gp_wsX4_readPart : GoodIn lw_tbl wsX4_readPart := by unfold wsX4_readPart; exact (gi_cons dw_277 (goodIn_app (goodIn_app (goodIn_app (goodIn_app (goodIn_app gp_wsX4_readPart_o (goodIn_app gp_wsX4_readSum (goodIn_app gp_wsX1_endPart gp_wsX4_take))) gp_wsX40) gp_wsX50) gp_wsX90) gp_wsX10))
set_option maxRecDepth 100000 in
theorem gp_wsX4_readLaw : GoodIn lw_tbl wsX4_readLaw := by unfold wsX4_readLaw; exact (gi_cons dw_273 (goodIn_app (goodIn_app (goodIn_app (goodIn_app (goodIn_app gp_wsX4_readLaw_o (goodIn_app gp_wsX4_take (goodIn_app gp_wsX1_begin (goodIn_app gp_wsX4_isAt (goodIn_app gp_wsX4_fail gp_wsX4_readPart))))) gp_wsX40) gp_wsX50) gp_wsX90) gp_wsX10))
set_option maxRecDepth 100000 in
theorem gp_wsX4_readTell : GoodIn lw_tbl wsX4_readTell := by unfold wsX4_readTell; exact (gi_cons dw_240 (goodIn_app (goodIn_app (goodIn_app (goodIn_app (goodIn_app gp_wsX4_readTell_o (goodIn_app gp_wsX4_readWave (goodIn_app gp_wsX4_readParty (goodIn_app gp_wsX4_take (goodIn_app gp_wsX4_takeInt (goodIn_app gp_wsX4_readLaw gp_wsX4_fail)))))) gp_wsX40) gp_wsX90) gp_wsX50) gp_wsX10))
set_option maxRecDepth 100000 in
theorem gp_wsX5_addUp_o : GoodIn lw_tbl wsX5_addUp_o := by unfold wsX5_addUp_o; exact (gi_cons dw_79 (gi_cons dw_81 (gi_cons dw_298 (gi_cons dw_297 (gi_cons dw_296 (gi_cons dw_295 (gi_cons dw_294 (gi_cons dw_43 gi_nil))))))))
set_option maxRecDepth 100000 in
theorem gp_wsX5_oddsAt : GoodIn lw_tbl wsX5_oddsAt := by unfold wsX5_oddsAt; exact (gi_cons dw_299 (goodIn_app (gi_cons dw_300 gi_nil) gp_wsX50))
set_option maxRecDepth 100000 in
theorem gp_wsX5_addUp : GoodIn lw_tbl wsX5_addUp := by unfold wsX5_addUp; exact (gi_cons dw_293 (goodIn_app (goodIn_app gp_wsX5_addUp_o gp_wsX5_oddsAt) gp_wsX50))
set_option maxRecDepth 100000 in
theorem gp_wsX4_readTape : GoodIn lw_tbl wsX4_readTape := by unfold wsX4_readTape; exact (gi_cons dw_52 (goodIn_app (goodIn_app (goodIn_app (goodIn_app (goodIn_app (goodIn_app gp_wsX4_readTape_o (goodIn_app gp_wsX5_clear (goodIn_app gp_wsX9_split (goodIn_app gp_wsX4_isAt (goodIn_app gp_wsX4_readTell gp_wsX5_addUp))))) gp_wsX40) gp_wsX50) gp_wsX10) gp_wsX90) gp_wsX70))
set_option maxRecDepth 100000 in
theorem gp_wsX5_copyFrom_o : GoodIn lw_tbl wsX5_copyFrom_o := by unfold wsX5_copyFrom_o; exact (gi_cons dw_300 (gi_cons dw_309 (gi_cons dw_308 (gi_cons dw_307 (gi_cons dw_306 (gi_cons dw_298 (gi_cons dw_297 (gi_cons dw_305 (gi_cons dw_304 (gi_cons dw_77 (gi_cons dw_81 (gi_cons dw_80 (gi_cons dw_79 (gi_cons dw_78 (gi_cons dw_303 (gi_cons dw_75 (gi_cons dw_302 gi_nil)))))))))))))))))
set_option maxRecDepth 100000 in
theorem gp_wsX1_copyFrom : GoodIn lw_tbl wsX1_copyFrom := by unfold wsX1_copyFrom; exact (gi_cons dw_310 (goodIn_app (gi_cons dw_105 (gi_cons dw_311 (gi_cons dw_308 (gi_cons dw_307 (gi_cons dw_306 (gi_cons dw_107 (gi_cons dw_98 (gi_cons dw_97 (gi_cons dw_95 gi_nil))))))))) gp_wsX10))
set_option maxRecDepth 100000 in
theorem gp_wsX5_copyFrom : GoodIn lw_tbl wsX5_copyFrom := by unfold wsX5_copyFrom; exact (gi_cons dw_301 (goodIn_app (goodIn_app (goodIn_app gp_wsX5_copyFrom_o gp_wsX1_copyFrom) gp_wsX50) gp_wsX10))
set_option maxRecDepth 100000 in
theorem gp_wsX6_startOver_o : GoodIn lw_tbl wsX6_startOver_o := by unfold wsX6_startOver_o; exact (gi_cons dw_322 (gi_cons dw_321 (gi_cons dw_320 (gi_cons dw_319 (gi_cons dw_318 (gi_cons dw_317 (gi_cons dw_316 (gi_cons dw_315 (gi_cons dw_314 (gi_cons dw_313 gi_nil))))))))))
set_option maxRecDepth 100000 in
theorem gp_wsJ7_fill_53178 : GoodIn lw_tbl wsJ7_fill_53178 := by unfold wsJ7_fill_53178; exact (gi_cons dw_323 gi_nil)
set_option maxRecDepth 100000 in
theorem gp_wsX60 : GoodIn lw_tbl wsX60 := goodIn_r _ [488, 490, 492, 494, 496, 498, 500] (by decide +kernel) (by decide +kernel)
set_option maxRecDepth 100000 in
theorem gp_wsX6_startOver : GoodIn lw_tbl wsX6_startOver := by unfold wsX6_startOver; exact (gi_cons dw_312 (goodIn_app (goodIn_app gp_wsX6_startOver_o gp_wsJ7_fill_53178) gp_wsX60))
set_option maxRecDepth 100000 in
theorem gp_wsX30 : GoodIn lw_tbl wsX30 := goodIn_r _ [518, 520, 522, 524, 526] (by decide +kernel) (by decide +kernel)
set_option maxRecDepth 100000 in
theorem gp_wsX3_forgetAll : GoodIn lw_tbl wsX3_forgetAll := by unfold wsX3_forgetAll; exact (gi_cons dw_324 (goodIn_app (gi_cons dw_326 (gi_cons dw_325 gi_nil)) gp_wsX30))
set_option maxRecDepth 100000 in
theorem gp_wsX80 : GoodIn lw_tbl wsX80 := goodIn_r _ [583, 585, 587, 589, 591, 593, 595, 597] (by decide +kernel) (by decide +kernel)
set_option maxRecDepth 100000 in
theorem gp_wsX10_read : GoodIn lw_tbl wsX10_read := by unfold wsX10_read; exact (gi_cons dw_34 (goodIn_app (goodIn_app (goodIn_app (goodIn_app (goodIn_app (goodIn_app (goodIn_app (goodIn_app (goodIn_app (goodIn_app gp_wsX10_read_o (goodIn_app gp_wsX4_readTape (goodIn_app gp_wsX5_copyFrom (goodIn_app gp_wsX6_startOver gp_wsX3_forgetAll)))) gp_wsX100) gp_wsX70) gp_wsX40) gp_wsX80) gp_wsX50) gp_wsX10) gp_wsX90) gp_wsX60) gp_wsX30))
set_option maxRecDepth 100000 in
theorem gp_wsX11_read_o : GoodIn lw_tbl wsX11_read_o := by unfold wsX11_read_o; exact (gi_cons dw_20 (gi_cons dw_364 (gi_cons dw_363 (gi_cons dw_22 (gi_cons dw_362 (gi_cons dw_361 (gi_cons dw_360 (gi_cons dw_359 (gi_cons dw_358 (gi_cons dw_357 (gi_cons dw_356 (gi_cons dw_355 (gi_cons dw_354 (gi_cons dw_353 (gi_cons dw_352 (gi_cons dw_351 (gi_cons dw_350 (gi_cons dw_349 (gi_cons dw_348 (gi_cons dw_347 (gi_cons dw_346 (gi_cons dw_16 (gi_cons dw_345 (gi_cons dw_344 (gi_cons dw_343 (gi_cons dw_342 (gi_cons dw_341 (gi_cons dw_340 (gi_cons dw_339 (gi_cons dw_338 (gi_cons dw_337 (gi_cons dw_336 (gi_cons dw_335 (gi_cons dw_334 (gi_cons dw_333 (gi_cons dw_332 (gi_cons dw_331 gi_nil)))))))))))))))))))))))))))))))))))))
set_option maxRecDepth 100000 in
theorem gp_wsX11_cut_o : GoodIn lw_tbl wsX11_cut_o := by unfold wsX11_cut_o; exact (gi_cons dw_382 (gi_cons dw_364 (gi_cons dw_381 (gi_cons dw_380 (gi_cons dw_379 (gi_cons dw_378 (gi_cons dw_16 (gi_cons dw_377 (gi_cons dw_376 (gi_cons dw_375 (gi_cons dw_374 (gi_cons dw_373 (gi_cons dw_372 (gi_cons dw_371 (gi_cons dw_370 (gi_cons dw_369 (gi_cons dw_368 (gi_cons dw_367 (gi_cons dw_366 gi_nil)))))))))))))))))))
set_option maxRecDepth 100000 in
theorem gp_wsX11_byteAt : GoodIn lw_tbl wsX11_byteAt := by unfold wsX11_byteAt; exact (gi_cons dw_383 (goodIn_app (gi_cons dw_364 (gi_cons dw_363 gi_nil)) gp_wsX110))
set_option maxRecDepth 100000 in
theorem gp_wsX11_token : GoodIn lw_tbl wsX11_token := by unfold wsX11_token; exact (gi_cons dw_384 (goodIn_app (gi_cons dw_388 (gi_cons dw_382 (gi_cons dw_387 (gi_cons dw_386 (gi_cons dw_385 gi_nil))))) gp_wsX110))
set_option maxRecDepth 100000 in
theorem gp_wsX11_isLetter : GoodIn lw_tbl wsX11_isLetter := by unfold wsX11_isLetter; exact (gi_cons dw_389 gi_nil)
set_option maxRecDepth 100000 in
theorem gp_wsX11_appends : GoodIn lw_tbl wsX11_appends := by unfold wsX11_appends; exact (gi_cons dw_390 (gi_cons dw_391 gi_nil))
set_option maxRecDepth 100000 in
theorem gp_wsX11_isDigit : GoodIn lw_tbl wsX11_isDigit := by unfold wsX11_isDigit; exact (gi_cons dw_392 gi_nil)
set_option maxRecDepth 100000 in
theorem gp_wsX11_sign_o : GoodIn lw_tbl wsX11_sign_o := by unfold wsX11_sign_o; exact (gi_cons dw_377 (gi_cons dw_376 (gi_cons dw_375 (gi_cons dw_16 gi_nil))))
set_option maxRecDepth 100000 in
theorem gp_wsX11_sign : GoodIn lw_tbl wsX11_sign := by unfold wsX11_sign; exact (gi_cons dw_393 (goodIn_app (goodIn_app gp_wsX11_sign_o gp_wsX11_token) gp_wsX110))
set_option maxRecDepth 100000 in
theorem gp_wsX11_cut : GoodIn lw_tbl wsX11_cut := by unfold wsX11_cut; exact (gi_cons dw_365 (goodIn_app (goodIn_app gp_wsX11_cut_o (goodIn_app gp_wsX11_byteAt (goodIn_app gp_wsX11_token (goodIn_app gp_wsX11_isLetter (goodIn_app gp_wsX11_appends (goodIn_app gp_wsX11_isDigit gp_wsX11_sign)))))) gp_wsX110))
set_option maxRecDepth 100000 in
theorem gp_wsX11_plain : GoodIn lw_tbl wsX11_plain := by unfold wsX11_plain; exact (gi_cons dw_394 (goodIn_app (gi_cons dw_399 (gi_cons dw_398 (gi_cons dw_397 (gi_cons dw_396 (gi_cons dw_395 gi_nil))))) gp_wsX110))
set_option maxRecDepth 100000 in
theorem gp_wsX11_is : GoodIn lw_tbl wsX11_is := by unfold wsX11_is; exact (gi_cons dw_400 (goodIn_app (gi_cons dw_360 (gi_cons dw_388 (gi_cons dw_362 gi_nil))) gp_wsX110))
set_option maxRecDepth 100000 in
theorem gp_wsX11_tellOne_o : GoodIn lw_tbl wsX11_tellOne_o := by unfold wsX11_tellOne_o; exact (gi_cons dw_388 (gi_cons dw_362 (gi_cons dw_399 (gi_cons dw_357 (gi_cons dw_360 (gi_cons dw_398 (gi_cons dw_397 (gi_cons dw_425 (gi_cons dw_424 (gi_cons dw_423 (gi_cons dw_16 (gi_cons dw_422 (gi_cons dw_421 (gi_cons dw_420 (gi_cons dw_419 (gi_cons dw_418 (gi_cons dw_417 (gi_cons dw_416 (gi_cons dw_415 (gi_cons dw_414 (gi_cons dw_413 (gi_cons dw_412 (gi_cons dw_411 (gi_cons dw_410 (gi_cons dw_409 (gi_cons dw_408 (gi_cons dw_407 (gi_cons dw_406 (gi_cons dw_405 (gi_cons dw_404 (gi_cons dw_403 (gi_cons dw_402 gi_nil))))))))))))))))))))))))))))))))
set_option maxRecDepth 100000 in
theorem gp_wsX11_roomFor_o : GoodIn lw_tbl wsX11_roomFor_o := by unfold wsX11_roomFor_o; exact (gi_cons dw_360 (gi_cons dw_422 (gi_cons dw_421 (gi_cons dw_420 (gi_cons dw_16 (gi_cons dw_419 (gi_cons dw_418 (gi_cons dw_417 gi_nil))))))))
set_option maxRecDepth 100000 in
theorem gp_wsX11_fail : GoodIn lw_tbl wsX11_fail := by unfold wsX11_fail; exact (gi_cons dw_427 (goodIn_app (gi_cons dw_360 (gi_cons dw_387 (gi_cons dw_362 (gi_cons dw_354 gi_nil)))) gp_wsX110))
set_option maxRecDepth 100000 in
theorem gp_wsX11_goesOn_o : GoodIn lw_tbl wsX11_goesOn_o := by unfold wsX11_goesOn_o; exact (gi_cons dw_362 (gi_cons dw_422 (gi_cons dw_421 (gi_cons dw_420 (gi_cons dw_16 gi_nil)))))
set_option maxRecDepth 100000 in
theorem gp_wsX11_goesOn : GoodIn lw_tbl wsX11_goesOn := by unfold wsX11_goesOn; exact (gi_cons dw_428 (goodIn_app (goodIn_app gp_wsX11_goesOn_o gp_wsX11_fail) gp_wsX110))
set_option maxRecDepth 100000 in
theorem gp_wsX11_roomFor : GoodIn lw_tbl wsX11_roomFor := by unfold wsX11_roomFor; exact (gi_cons dw_426 (goodIn_app (goodIn_app gp_wsX11_roomFor_o (goodIn_app gp_wsX11_fail gp_wsX11_goesOn)) gp_wsX110))
set_option maxRecDepth 100000 in
theorem gp_wsX11_tellWave_o : GoodIn lw_tbl wsX11_tellWave_o := by unfold wsX11_tellWave_o; exact (gi_cons dw_357 (gi_cons dw_399 (gi_cons dw_362 (gi_cons dw_433 (gi_cons dw_360 (gi_cons dw_413 (gi_cons dw_412 (gi_cons dw_411 (gi_cons dw_16 (gi_cons dw_432 (gi_cons dw_431 (gi_cons dw_430 (gi_cons dw_410 (gi_cons dw_409 (gi_cons dw_408 gi_nil)))))))))))))))
set_option maxRecDepth 100000 in
theorem gp_wsX11_bounded_o : GoodIn lw_tbl wsX11_bounded_o := by unfold wsX11_bounded_o; exact (gi_cons dw_360 (gi_cons dw_386 (gi_cons dw_362 (gi_cons dw_342 (gi_cons dw_341 (gi_cons dw_340 (gi_cons dw_16 (gi_cons dw_422 (gi_cons dw_421 (gi_cons dw_420 (gi_cons dw_432 (gi_cons dw_431 (gi_cons dw_430 (gi_cons dw_419 (gi_cons dw_418 (gi_cons dw_417 gi_nil))))))))))))))))
set_option maxRecDepth 100000 in
theorem gp_wsX11_wrong : GoodIn lw_tbl wsX11_wrong := by unfold wsX11_wrong; exact (gi_cons dw_435 (goodIn_app (gi_cons dw_387 (gi_cons dw_360 (gi_cons dw_359 (gi_cons dw_353 gi_nil)))) gp_wsX110))
set_option maxRecDepth 100000 in
theorem gp_wsX11_bounded : GoodIn lw_tbl wsX11_bounded := by unfold wsX11_bounded; exact (gi_cons dw_434 (goodIn_app (goodIn_app gp_wsX11_bounded_o (goodIn_app gp_wsX11_is (goodIn_app gp_wsX11_fail (goodIn_app gp_wsX11_wrong gp_wsX11_goesOn)))) gp_wsX110))
set_option maxRecDepth 100000 in
theorem gp_wsX11_must_o : GoodIn lw_tbl wsX11_must_o := by unfold wsX11_must_o; exact (gi_cons dw_342 (gi_cons dw_341 (gi_cons dw_340 (gi_cons dw_16 (gi_cons dw_419 (gi_cons dw_418 (gi_cons dw_417 (gi_cons dw_422 (gi_cons dw_421 (gi_cons dw_420 gi_nil))))))))))
set_option maxRecDepth 100000 in
theorem gp_wsX11_must : GoodIn lw_tbl wsX11_must := by unfold wsX11_must; exact (gi_cons dw_436 (goodIn_app (goodIn_app gp_wsX11_must_o (goodIn_app gp_wsX11_is (goodIn_app gp_wsX11_goesOn gp_wsX11_fail))) gp_wsX110))
set_option maxRecDepth 100000 in
theorem gp_wsX11_tellWave : GoodIn lw_tbl wsX11_tellWave := by unfold wsX11_tellWave; exact (gi_cons dw_429 (goodIn_app (goodIn_app gp_wsX11_tellWave_o (goodIn_app gp_wsX11_bounded (goodIn_app gp_wsX11_wrong gp_wsX11_must))) gp_wsX110))
set_option maxRecDepth 100000 in
theorem gp_wsX11_tellParty_o : GoodIn lw_tbl wsX11_tellParty_o := by unfold wsX11_tellParty_o; exact (gi_cons dw_357 (gi_cons dw_398 (gi_cons dw_362 (gi_cons dw_360 (gi_cons dw_440 (gi_cons dw_385 (gi_cons dw_439 (gi_cons dw_438 (gi_cons dw_410 (gi_cons dw_409 (gi_cons dw_408 (gi_cons dw_16 (gi_cons dw_432 (gi_cons dw_431 (gi_cons dw_430 (gi_cons dw_413 (gi_cons dw_412 (gi_cons dw_411 gi_nil))))))))))))))))))
set_option maxRecDepth 100000 in
theorem gp_wsX11_tellParty : GoodIn lw_tbl wsX11_tellParty := by unfold wsX11_tellParty; exact (gi_cons dw_437 (goodIn_app (goodIn_app gp_wsX11_tellParty_o (goodIn_app gp_wsX11_must (goodIn_app gp_wsX11_wrong gp_wsX11_bounded))) gp_wsX110))
set_option maxRecDepth 100000 in
theorem gp_wsX11_tellLaw_o : GoodIn lw_tbl wsX11_tellLaw_o := by unfold wsX11_tellLaw_o; exact (gi_cons dw_356 (gi_cons dw_360 (gi_cons dw_450 (gi_cons dw_449 (gi_cons dw_355 (gi_cons dw_448 (gi_cons dw_396 (gi_cons dw_357 (gi_cons dw_395 (gi_cons dw_410 (gi_cons dw_409 (gi_cons dw_408 (gi_cons dw_16 (gi_cons dw_342 (gi_cons dw_341 (gi_cons dw_340 (gi_cons dw_419 (gi_cons dw_418 (gi_cons dw_417 (gi_cons dw_422 (gi_cons dw_421 (gi_cons dw_420 (gi_cons dw_447 (gi_cons dw_446 (gi_cons dw_445 (gi_cons dw_444 (gi_cons dw_443 (gi_cons dw_442 gi_nil))))))))))))))))))))))))))))
set_option maxRecDepth 100000 in
theorem gp_wsX11_expression_o : GoodIn lw_tbl wsX11_expression_o := by unfold wsX11_expression_o; exact (gi_cons dw_459 (gi_cons dw_361 (gi_cons dw_360 (gi_cons dw_458 (gi_cons dw_388 (gi_cons dw_362 (gi_cons dw_342 (gi_cons dw_341 (gi_cons dw_340 (gi_cons dw_16 (gi_cons dw_422 (gi_cons dw_421 (gi_cons dw_420 (gi_cons dw_419 (gi_cons dw_418 (gi_cons dw_417 (gi_cons dw_457 (gi_cons dw_456 (gi_cons dw_455 (gi_cons dw_454 (gi_cons dw_453 (gi_cons dw_452 gi_nil))))))))))))))))))))))
set_option maxRecDepth 100000 in
theorem gp_wsX11_unit_o : GoodIn lw_tbl wsX11_unit_o := by unfold wsX11_unit_o; exact (gi_cons dw_386 (gi_cons dw_362 (gi_cons dw_360 (gi_cons dw_388 (gi_cons dw_342 (gi_cons dw_341 (gi_cons dw_340 (gi_cons dw_16 (gi_cons dw_463 (gi_cons dw_462 (gi_cons dw_461 (gi_cons dw_419 (gi_cons dw_418 (gi_cons dw_417 (gi_cons dw_422 (gi_cons dw_421 (gi_cons dw_420 gi_nil)))))))))))))))))
set_option maxRecDepth 100000 in
theorem gp_wsX11_emit : GoodIn lw_tbl wsX11_emit := by unfold wsX11_emit; exact (gi_cons dw_464 (goodIn_app (gi_cons dw_466 (gi_cons dw_355 (gi_cons dw_465 gi_nil))) gp_wsX110))
set_option maxRecDepth 100000 in
theorem gp_wsX11_unit : GoodIn lw_tbl wsX11_unit := by unfold wsX11_unit; exact (gi_cons dw_460 (goodIn_app (goodIn_app gp_wsX11_unit_o (goodIn_app gp_wsX11_is (goodIn_app gp_wsX11_emit (goodIn_app gp_wsX11_goesOn gp_wsX11_fail)))) gp_wsX110))
set_option maxRecDepth 100000 in
theorem gp_wsX11_comesOut_o : GoodIn lw_tbl wsX11_comesOut_o := by unfold wsX11_comesOut_o; exact (gi_cons dw_459 (gi_cons dw_458 (gi_cons dw_463 (gi_cons dw_462 (gi_cons dw_461 (gi_cons dw_16 gi_nil))))))
set_option maxRecDepth 100000 in
theorem gp_wsX11_comesOut : GoodIn lw_tbl wsX11_comesOut := by unfold wsX11_comesOut; exact (gi_cons dw_467 (goodIn_app (goodIn_app gp_wsX11_comesOut_o gp_wsX11_emit) gp_wsX110))
set_option maxRecDepth 100000 in
theorem gp_wsX11_expression : GoodIn lw_tbl wsX11_expression := by unfold wsX11_expression; exact (gi_cons dw_451 (goodIn_app (goodIn_app gp_wsX11_expression_o (goodIn_app gp_wsX11_is (goodIn_app gp_wsX11_fail (goodIn_app gp_wsX11_goesOn (goodIn_app gp_wsX11_unit gp_wsX11_comesOut))))) gp_wsX110))
set_option maxRecDepth 100000 in
theorem gp_wsX11_term_o : GoodIn lw_tbl wsX11_term_o := by unfold wsX11_term_o; exact (gi_cons dw_470 (gi_cons dw_356 (gi_cons dw_355 (gi_cons dw_360 (gi_cons dw_469 (gi_cons dw_447 (gi_cons dw_446 (gi_cons dw_445 (gi_cons dw_16 gi_nil)))))))))
set_option maxRecDepth 100000 in
theorem gp_wsX11_term : GoodIn lw_tbl wsX11_term := by unfold wsX11_term; exact (gi_cons dw_468 (goodIn_app (goodIn_app gp_wsX11_term_o gp_wsX11_expression) gp_wsX110))
set_option maxRecDepth 100000 in
theorem gp_wsX11_tellLaw : GoodIn lw_tbl wsX11_tellLaw := by unfold wsX11_tellLaw; exact (gi_cons dw_441 (goodIn_app (goodIn_app gp_wsX11_tellLaw_o (goodIn_app gp_wsX11_must (goodIn_app gp_wsX11_is (goodIn_app gp_wsX11_fail (goodIn_app gp_wsX11_goesOn (goodIn_app gp_wsX11_expression gp_wsX11_term)))))) gp_wsX110))
set_option maxRecDepth 100000 in
theorem gp_wsX11_tellOne : GoodIn lw_tbl wsX11_tellOne := by unfold wsX11_tellOne; exact (gi_cons dw_401 (goodIn_app (goodIn_app gp_wsX11_tellOne_o (goodIn_app gp_wsX11_roomFor (goodIn_app gp_wsX11_tellWave (goodIn_app gp_wsX11_tellParty (goodIn_app gp_wsX11_goesOn (goodIn_app gp_wsX11_bounded (goodIn_app gp_wsX11_must (goodIn_app gp_wsX11_fail gp_wsX11_tellLaw)))))))) gp_wsX110))
set_option maxRecDepth 100000 in
theorem gp_wsX11_begins : GoodIn lw_tbl wsX11_begins := by unfold wsX11_begins; exact (gi_cons dw_471 (goodIn_app (gi_cons dw_474 (gi_cons dw_473 (gi_cons dw_397 (gi_cons dw_358 (gi_cons dw_472 gi_nil))))) gp_wsX110))
set_option maxRecDepth 100000 in
theorem gp_wsX11_keepsRow : GoodIn lw_tbl wsX11_keepsRow := by unfold wsX11_keepsRow; exact (gi_cons dw_475 (goodIn_app (gi_cons dw_476 (gi_cons dw_474 gi_nil)) gp_wsX110))
set_option maxRecDepth 100000 in
theorem gp_wsX11_read : GoodIn lw_tbl wsX11_read := by unfold wsX11_read; exact (gi_cons dw_330 (goodIn_app (goodIn_app gp_wsX11_read_o (goodIn_app gp_wsX11_cut (goodIn_app gp_wsX11_plain (goodIn_app gp_wsX11_is (goodIn_app gp_wsX11_tellOne (goodIn_app gp_wsX11_begins gp_wsX11_keepsRow)))))) gp_wsX110))
set_option maxRecDepth 100000 in
theorem gp_wsX10_place : GoodIn lw_tbl wsX10_place := by unfold wsX10_place; exact (gi_cons dw_480 (goodIn_app (goodIn_app (gi_cons dw_51 gi_nil) gp_wsX100) gp_wsX40))
set_option maxRecDepth 100000 in
theorem gp_wsX11_place : GoodIn lw_tbl wsX11_place := by unfold wsX11_place; exact (gi_cons dw_484 (goodIn_app (gi_cons dw_352 gi_nil) gp_wsX110))
set_option maxRecDepth 100000 in
theorem gp_wsX10_wave_o : GoodIn lw_tbl wsX10_wave_o := by unfold wsX10_wave_o; exact (gi_cons dw_50 (gi_cons dw_498 (gi_cons dw_49 (gi_cons dw_497 (gi_cons dw_43 (gi_cons dw_496 (gi_cons dw_495 (gi_cons dw_494 (gi_cons dw_493 (gi_cons dw_492 (gi_cons dw_491 (gi_cons dw_490 (gi_cons dw_489 gi_nil)))))))))))))
set_option maxRecDepth 100000 in
theorem gp_wsX5_hasWave : GoodIn lw_tbl wsX5_hasWave := by unfold wsX5_hasWave; exact (gi_cons dw_499 (goodIn_app (gi_cons dw_81 gi_nil) gp_wsX50))
set_option maxRecDepth 100000 in
theorem gp_wsX00 : GoodIn lw_tbl wsX00 := goodIn_r _ [538, 540] (by decide +kernel) (by decide +kernel)
set_option maxRecDepth 100000 in
theorem gp_wsX0_mayBe : GoodIn lw_tbl wsX0_mayBe := by unfold wsX0_mayBe; exact (gi_cons dw_500 (goodIn_app (goodIn_app (goodIn_app (gi_cons dw_501 gi_nil) gp_wsX60) gp_wsX00) gp_wsX50))
set_option maxRecDepth 100000 in
theorem gp_wsX0_thereNow_o : GoodIn lw_tbl wsX0_thereNow_o := by unfold wsX0_thereNow_o; exact (gi_cons dw_501 (gi_cons dw_504 (gi_cons dw_43 (gi_cons dw_503 gi_nil))))
set_option maxRecDepth 100000 in
theorem gp_wsX5_thingThere_o : GoodIn lw_tbl wsX5_thingThere_o := by unfold wsX5_thingThere_o; exact (gi_cons dw_298 (gi_cons dw_506 (gi_cons dw_11 (gi_cons dw_296 (gi_cons dw_295 (gi_cons dw_294 (gi_cons dw_43 gi_nil)))))))
set_option maxRecDepth 100000 in
theorem gp_wsX10_lot_o : GoodIn lw_tbl wsX10_lot_o := by unfold wsX10_lot_o; exact (gi_cons dw_509 (gi_cons dw_508 (gi_cons dw_11 gi_nil)))
set_option maxRecDepth 100000 in
theorem gp_wsX10_stirred : GoodIn lw_tbl wsX10_stirred := by unfold wsX10_stirred; exact (gi_cons dw_510 (gi_cons dw_511 gi_nil))
set_option maxRecDepth 100000 in
theorem gp_wsX10_lot : GoodIn lw_tbl wsX10_lot := by unfold wsX10_lot; exact (gi_cons dw_507 (goodIn_app gp_wsX10_lot_o gp_wsX10_stirred))
set_option maxRecDepth 100000 in
theorem gp_wsX5_thingThere : GoodIn lw_tbl wsX5_thingThere := by unfold wsX5_thingThere; exact (gi_cons dw_505 (goodIn_app (goodIn_app gp_wsX5_thingThere_o (goodIn_app gp_wsX10_lot gp_wsX5_oddsAt)) gp_wsX50))
set_option maxRecDepth 100000 in
theorem gp_wsX0_thereNow : GoodIn lw_tbl wsX0_thereNow := by unfold wsX0_thereNow; exact (gi_cons dw_502 (goodIn_app (goodIn_app (goodIn_app (goodIn_app gp_wsX0_thereNow_o gp_wsX5_thingThere) gp_wsX00) gp_wsX60) gp_wsX50))
set_option maxRecDepth 100000 in
theorem gp_wsX0_shiftsOf_o : GoodIn lw_tbl wsX0_shiftsOf_o := by unfold wsX0_shiftsOf_o; exact (gi_cons dw_501 (gi_cons dw_521 (gi_cons dw_520 (gi_cons dw_519 (gi_cons dw_494 (gi_cons dw_518 (gi_cons dw_517 (gi_cons dw_516 (gi_cons dw_515 (gi_cons dw_75 (gi_cons dw_514 (gi_cons dw_513 (gi_cons dw_11 gi_nil)))))))))))))
set_option maxRecDepth 100000 in
theorem gp_wsX0_clearVars_o : GoodIn lw_tbl wsX0_clearVars_o := by unfold wsX0_clearVars_o; exact (gi_cons dw_524 (gi_cons dw_523 (gi_cons dw_314 (gi_cons dw_313 gi_nil))))
set_option maxRecDepth 100000 in
theorem gp_wsX0_clearVars : GoodIn lw_tbl wsX0_clearVars := by unfold wsX0_clearVars; exact (gi_cons dw_522 (goodIn_app (goodIn_app (goodIn_app gp_wsX0_clearVars_o gp_wsJ7_fill_53178) gp_wsX00) gp_wsX60))
set_option maxRecDepth 100000 in
theorem gp_wsX0_setWave_o : GoodIn lw_tbl wsX0_setWave_o := by unfold wsX0_setWave_o; exact (gi_cons dw_524 (gi_cons dw_529 (gi_cons dw_495 (gi_cons dw_493 (gi_cons dw_494 (gi_cons dw_528 (gi_cons dw_527 (gi_cons dw_526 gi_nil))))))))
set_option maxRecDepth 100000 in
theorem gp_wsJ6_bitCount_0f7a4 : GoodIn lw_tbl wsJ6_bitCount_0f7a4 := by unfold wsJ6_bitCount_0f7a4; exact (gi_cons dw_530 (gi_cons dw_533 (gi_cons dw_532 (gi_cons dw_531 gi_nil))))
set_option maxRecDepth 100000 in
theorem gp_wsX0_setWave : GoodIn lw_tbl wsX0_setWave := by unfold wsX0_setWave; exact (gi_cons dw_525 (goodIn_app (goodIn_app (goodIn_app (goodIn_app gp_wsX0_setWave_o (goodIn_app gp_wsX0_mayBe gp_wsJ6_bitCount_0f7a4)) gp_wsX00) gp_wsX60) gp_wsX50))
set_option maxRecDepth 100000 in
theorem gp_wsX1_valueOf_o : GoodIn lw_tbl wsX1_valueOf_o := by unfold wsX1_valueOf_o; exact (gi_cons dw_538 (gi_cons dw_97 (gi_cons dw_537 (gi_cons dw_536 (gi_cons dw_535 (gi_cons dw_75 gi_nil))))))
set_option maxRecDepth 100000 in
theorem gp_wsX1_partValue_o : GoodIn lw_tbl wsX1_partValue_o := by unfold wsX1_partValue_o; exact (gi_cons dw_107 (gi_cons dw_98 (gi_cons dw_105 (gi_cons dw_544 (gi_cons dw_543 (gi_cons dw_542 (gi_cons dw_541 (gi_cons dw_540 (gi_cons dw_75 gi_nil)))))))))
set_option maxRecDepth 100000 in
theorem gp_wsX1_joined : GoodIn lw_tbl wsX1_joined := by unfold wsX1_joined; exact (gi_cons dw_545 (goodIn_app (gi_cons dw_538 gi_nil) gp_wsX10))
set_option maxRecDepth 100000 in
theorem gp_wsX1_partValue : GoodIn lw_tbl wsX1_partValue := by unfold wsX1_partValue; exact (gi_cons dw_539 (goodIn_app (goodIn_app gp_wsX1_partValue_o gp_wsX1_joined) gp_wsX10))
set_option maxRecDepth 100000 in
theorem gp_wsX1_valueOf : GoodIn lw_tbl wsX1_valueOf := by unfold wsX1_valueOf; exact (gi_cons dw_534 (goodIn_app (goodIn_app gp_wsX1_valueOf_o gp_wsX1_partValue) gp_wsX10))
set_option maxRecDepth 100000 in
theorem gp_wsX10_heldTo : GoodIn lw_tbl wsX10_heldTo := by unfold wsX10_heldTo; exact (gi_cons dw_546 (gi_cons dw_548 (gi_cons dw_189 (gi_cons dw_133 (gi_cons dw_188 (gi_cons dw_547 (gi_cons dw_192 (gi_cons dw_191 gi_nil))))))))
set_option maxRecDepth 100000 in
theorem gp_wsX0_shiftsOf : GoodIn lw_tbl wsX0_shiftsOf := by unfold wsX0_shiftsOf; exact (gi_cons dw_512 (goodIn_app (goodIn_app (goodIn_app (goodIn_app (goodIn_app gp_wsX0_shiftsOf_o (goodIn_app gp_wsX0_clearVars (goodIn_app gp_wsX0_setWave (goodIn_app gp_wsX1_valueOf gp_wsX10_heldTo)))) gp_wsX00) gp_wsX50) gp_wsX60) gp_wsX10))
set_option maxRecDepth 100000 in
theorem gp_wsX10_wave : GoodIn lw_tbl wsX10_wave := by unfold wsX10_wave; exact (gi_cons dw_488 (goodIn_app (goodIn_app (goodIn_app (goodIn_app (goodIn_app (goodIn_app gp_wsX10_wave_o (goodIn_app gp_wsX5_hasWave (goodIn_app gp_wsX0_mayBe (goodIn_app gp_wsX0_thereNow gp_wsX0_shiftsOf)))) gp_wsX100) gp_wsX60) gp_wsX50) gp_wsX00) gp_wsX10))
set_option maxRecDepth 100000 in
theorem gp_wsX11_wave_o : GoodIn lw_tbl wsX11_wave_o := by unfold wsX11_wave_o; exact (gi_cons dw_474 (gi_cons dw_567 (gi_cons dw_566 (gi_cons dw_565 (gi_cons dw_16 (gi_cons dw_564 (gi_cons dw_563 (gi_cons dw_562 (gi_cons dw_561 (gi_cons dw_560 (gi_cons dw_559 (gi_cons dw_558 (gi_cons dw_557 (gi_cons dw_556 (gi_cons dw_555 (gi_cons dw_554 (gi_cons dw_553 gi_nil)))))))))))))))))
set_option maxRecDepth 100000 in
theorem gp_wsX11_isWave_o : GoodIn lw_tbl wsX11_isWave_o := by unfold wsX11_isWave_o; exact (gi_cons dw_399 (gi_cons dw_358 (gi_cons dw_570 (gi_cons dw_569 (gi_cons dw_16 gi_nil)))))
set_option maxRecDepth 100000 in
theorem gp_wsX11_in : GoodIn lw_tbl wsX11_in := by unfold wsX11_in; exact (gi_cons dw_571 gi_nil)
set_option maxRecDepth 100000 in
theorem gp_wsX11_isWave : GoodIn lw_tbl wsX11_isWave := by unfold wsX11_isWave; exact (gi_cons dw_568 (goodIn_app (goodIn_app gp_wsX11_isWave_o gp_wsX11_in) gp_wsX110))
set_option maxRecDepth 100000 in
theorem gp_wsX11_copies : GoodIn lw_tbl wsX11_copies := by unfold wsX11_copies; exact (gi_cons dw_572 (goodIn_app (gi_cons dw_474 (gi_cons dw_476 (gi_cons dw_397 (gi_cons dw_358 (gi_cons dw_472 gi_nil))))) gp_wsX110))
set_option maxRecDepth 100000 in
theorem gp_wsX11_mayAt_o : GoodIn lw_tbl wsX11_mayAt_o := by unfold wsX11_mayAt_o; exact (gi_cons dw_474 (gi_cons dw_576 (gi_cons dw_575 (gi_cons dw_574 (gi_cons dw_16 gi_nil)))))
set_option maxRecDepth 100000 in
theorem gp_wsX11_oddsAt : GoodIn lw_tbl wsX11_oddsAt := by unfold wsX11_oddsAt; exact (gi_cons dw_577 (goodIn_app (gi_cons dw_433 (gi_cons dw_358 gi_nil)) gp_wsX110))
set_option maxRecDepth 100000 in
theorem gp_wsX11_mayAt : GoodIn lw_tbl wsX11_mayAt := by unfold wsX11_mayAt; exact (gi_cons dw_573 (goodIn_app (goodIn_app gp_wsX11_mayAt_o gp_wsX11_oddsAt) gp_wsX110))
set_option maxRecDepth 100000 in
theorem gp_wsX11_thereAt_o : GoodIn lw_tbl wsX11_thereAt_o := by unfold wsX11_thereAt_o; exact (gi_cons dw_474 (gi_cons dw_576 (gi_cons dw_575 (gi_cons dw_574 (gi_cons dw_16 (gi_cons dw_581 (gi_cons dw_580 (gi_cons dw_579 gi_nil))))))))
set_option maxRecDepth 100000 in
theorem gp_wsX11_lotOf_o : GoodIn lw_tbl wsX11_lotOf_o := by unfold wsX11_lotOf_o; exact (gi_cons dw_472 (gi_cons dw_584 (gi_cons dw_583 (gi_cons dw_16 gi_nil))))
set_option maxRecDepth 100000 in
theorem gp_wsX11_mixed : GoodIn lw_tbl wsX11_mixed := by unfold wsX11_mixed; exact (gi_cons dw_585 (gi_cons dw_586 gi_nil))
set_option maxRecDepth 100000 in
theorem gp_wsX11_lotOf : GoodIn lw_tbl wsX11_lotOf := by unfold wsX11_lotOf; exact (gi_cons dw_582 (goodIn_app (goodIn_app gp_wsX11_lotOf_o gp_wsX11_mixed) gp_wsX110))
set_option maxRecDepth 100000 in
theorem gp_wsX11_thereAt : GoodIn lw_tbl wsX11_thereAt := by unfold wsX11_thereAt; exact (gi_cons dw_578 (goodIn_app (goodIn_app gp_wsX11_thereAt_o (goodIn_app gp_wsX11_oddsAt gp_wsX11_lotOf)) gp_wsX110))
set_option maxRecDepth 100000 in
theorem gp_wsX11_shiftsOf_o : GoodIn lw_tbl wsX11_shiftsOf_o := by unfold wsX11_shiftsOf_o; exact (gi_cons dw_598 (gi_cons dw_597 (gi_cons dw_596 (gi_cons dw_16 (gi_cons dw_595 (gi_cons dw_594 (gi_cons dw_593 (gi_cons dw_592 (gi_cons dw_591 (gi_cons dw_590 (gi_cons dw_589 (gi_cons dw_588 gi_nil))))))))))))
set_option maxRecDepth 100000 in
theorem gp_wsX11_looks : GoodIn lw_tbl wsX11_looks := by unfold wsX11_looks; exact (gi_cons dw_599 (goodIn_app (gi_cons dw_600 (gi_cons dw_474 (gi_cons dw_439 (gi_cons dw_358 (gi_cons dw_438 gi_nil))))) gp_wsX110))
set_option maxRecDepth 100000 in
theorem gp_wsX11_looksOver_o : GoodIn lw_tbl wsX11_looksOver_o := by unfold wsX11_looksOver_o; exact (gi_cons dw_600 (gi_cons dw_474 (gi_cons dw_561 (gi_cons dw_560 (gi_cons dw_559 (gi_cons dw_16 (gi_cons dw_603 (gi_cons dw_602 gi_nil))))))))
set_option maxRecDepth 100000 in
theorem gp_wsX11_bits : GoodIn lw_tbl wsX11_bits := by unfold wsX11_bits; exact (gi_cons dw_604 gi_nil)
set_option maxRecDepth 100000 in
theorem gp_wsX11_looksOver : GoodIn lw_tbl wsX11_looksOver := by unfold wsX11_looksOver; exact (gi_cons dw_601 (goodIn_app (goodIn_app gp_wsX11_looksOver_o (goodIn_app gp_wsX11_mayAt gp_wsX11_bits)) gp_wsX110))
set_option maxRecDepth 100000 in
theorem gp_wsX11_lawTells_o : GoodIn lw_tbl wsX11_lawTells_o := by unfold wsX11_lawTells_o; exact (gi_cons dw_358 (gi_cons dw_396 (gi_cons dw_395 (gi_cons dw_609 (gi_cons dw_450 (gi_cons dw_449 (gi_cons dw_448 (gi_cons dw_470 (gi_cons dw_469 (gi_cons dw_608 (gi_cons dw_607 (gi_cons dw_606 (gi_cons dw_16 gi_nil)))))))))))))
set_option maxRecDepth 100000 in
theorem gp_wsX11_termOf : GoodIn lw_tbl wsX11_termOf := by unfold wsX11_termOf; exact (gi_cons dw_610 (goodIn_app (gi_cons dw_466 (gi_cons dw_611 (gi_cons dw_465 (gi_cons dw_600 (gi_cons dw_609 gi_nil))))) gp_wsX110))
set_option maxRecDepth 100000 in
theorem gp_wsX11_lawTells : GoodIn lw_tbl wsX11_lawTells := by unfold wsX11_lawTells; exact (gi_cons dw_605 (goodIn_app (goodIn_app gp_wsX11_lawTells_o gp_wsX11_termOf) gp_wsX110))
set_option maxRecDepth 100000 in
theorem gp_wsX11_within : GoodIn lw_tbl wsX11_within := by unfold wsX11_within; exact (gi_cons dw_612 gi_nil)
set_option maxRecDepth 100000 in
theorem gp_wsX11_shiftsOf : GoodIn lw_tbl wsX11_shiftsOf := by unfold wsX11_shiftsOf; exact (gi_cons dw_587 (goodIn_app (goodIn_app gp_wsX11_shiftsOf_o (goodIn_app gp_wsX11_looks (goodIn_app gp_wsX11_looksOver (goodIn_app gp_wsX11_lawTells gp_wsX11_within)))) gp_wsX110))
set_option maxRecDepth 100000 in
theorem gp_wsX11_wave : GoodIn lw_tbl wsX11_wave := by unfold wsX11_wave; exact (gi_cons dw_552 (goodIn_app (goodIn_app gp_wsX11_wave_o (goodIn_app gp_wsX11_isWave (goodIn_app gp_wsX11_copies (goodIn_app gp_wsX11_mayAt (goodIn_app gp_wsX11_thereAt gp_wsX11_shiftsOf))))) gp_wsX110))
set_option maxRecDepth 100000 in
theorem gp_wsX10_odds_o : GoodIn lw_tbl wsX10_odds_o := by unfold wsX10_odds_o; exact (gi_cons dw_50 (gi_cons dw_497 (gi_cons dw_43 (gi_cons dw_496 (gi_cons dw_618 (gi_cons dw_617 (gi_cons dw_11 (gi_cons dw_295 (gi_cons dw_294 gi_nil)))))))))
set_option maxRecDepth 100000 in
theorem gp_wsX10_isThing : GoodIn lw_tbl wsX10_isThing := by unfold wsX10_isThing; exact (gi_cons dw_619 gi_nil)
set_option maxRecDepth 100000 in
theorem gp_wsX10_odds : GoodIn lw_tbl wsX10_odds := by unfold wsX10_odds; exact (gi_cons dw_616 (goodIn_app (goodIn_app (goodIn_app gp_wsX10_odds_o (goodIn_app gp_wsX5_hasWave (goodIn_app gp_wsX10_isThing gp_wsX5_oddsAt))) gp_wsX100) gp_wsX50))
set_option maxRecDepth 100000 in
theorem gp_wsX11_odds_o : GoodIn lw_tbl wsX11_odds_o := by unfold wsX11_odds_o; exact (gi_cons dw_567 (gi_cons dw_566 (gi_cons dw_565 (gi_cons dw_16 (gi_cons dw_625 (gi_cons dw_624 (gi_cons dw_576 (gi_cons dw_575 (gi_cons dw_574 gi_nil)))))))))
set_option maxRecDepth 100000 in
theorem gp_wsX11_isThing_o : GoodIn lw_tbl wsX11_isThing_o := by unfold wsX11_isThing_o; exact (gi_cons dw_570 (gi_cons dw_569 (gi_cons dw_16 gi_nil)))
set_option maxRecDepth 100000 in
theorem gp_wsX11_isThing : GoodIn lw_tbl wsX11_isThing := by unfold wsX11_isThing; exact (gi_cons dw_626 (goodIn_app gp_wsX11_isThing_o gp_wsX11_in))
set_option maxRecDepth 100000 in
theorem gp_wsX11_odds : GoodIn lw_tbl wsX11_odds := by unfold wsX11_odds; exact (gi_cons dw_623 (goodIn_app (goodIn_app gp_wsX11_odds_o (goodIn_app gp_wsX11_isWave (goodIn_app gp_wsX11_isThing gp_wsX11_oddsAt))) gp_wsX110))
set_option maxRecDepth 100000 in
theorem gp_wsX10_party_o : GoodIn lw_tbl wsX10_party_o := by unfold wsX10_party_o; exact (gi_cons dw_50 (gi_cons dw_49 (gi_cons dw_498 (gi_cons dw_636 (gi_cons dw_43 (gi_cons dw_635 (gi_cons dw_634 (gi_cons dw_494 (gi_cons dw_633 (gi_cons dw_632 (gi_cons dw_631 gi_nil)))))))))))
set_option maxRecDepth 100000 in
theorem gp_wsX5_hasParty : GoodIn lw_tbl wsX5_hasParty := by unfold wsX5_hasParty; exact (gi_cons dw_637 (goodIn_app (gi_cons dw_80 gi_nil) gp_wsX50))
set_option maxRecDepth 100000 in
theorem gp_wsX0_fareOf_o : GoodIn lw_tbl wsX0_fareOf_o := by unfold wsX0_fareOf_o; exact (gi_cons dw_501 (gi_cons dw_521 (gi_cons dw_520 (gi_cons dw_519 (gi_cons dw_494 (gi_cons dw_641 (gi_cons dw_640 (gi_cons dw_639 (gi_cons dw_515 (gi_cons dw_75 (gi_cons dw_514 (gi_cons dw_513 (gi_cons dw_11 gi_nil)))))))))))))
set_option maxRecDepth 100000 in
theorem gp_wsX0_setParty : GoodIn lw_tbl wsX0_setParty := by unfold wsX0_setParty; exact (gi_cons dw_642 (goodIn_app (goodIn_app (goodIn_app (gi_cons dw_524 (gi_cons dw_501 gi_nil)) gp_wsX00) gp_wsX50) gp_wsX60))
set_option maxRecDepth 100000 in
theorem gp_wsX0_fareOf : GoodIn lw_tbl wsX0_fareOf := by unfold wsX0_fareOf; exact (gi_cons dw_638 (goodIn_app (goodIn_app (goodIn_app (goodIn_app (goodIn_app gp_wsX0_fareOf_o (goodIn_app gp_wsX0_clearVars (goodIn_app gp_wsX0_setParty (goodIn_app gp_wsX1_valueOf gp_wsX10_heldTo)))) gp_wsX00) gp_wsX50) gp_wsX60) gp_wsX10))
set_option maxRecDepth 100000 in
theorem gp_wsX0_isDaring_o : GoodIn lw_tbl wsX0_isDaring_o := by unfold wsX0_isDaring_o; exact (gi_cons dw_501 (gi_cons dw_521 (gi_cons dw_520 (gi_cons dw_519 (gi_cons dw_494 (gi_cons dw_641 (gi_cons dw_640 (gi_cons dw_639 (gi_cons dw_515 (gi_cons dw_75 (gi_cons dw_514 gi_nil)))))))))))
set_option maxRecDepth 100000 in
theorem gp_wsX0_isDaring : GoodIn lw_tbl wsX0_isDaring := by unfold wsX0_isDaring; exact (gi_cons dw_643 (goodIn_app (goodIn_app (goodIn_app (goodIn_app (goodIn_app gp_wsX0_isDaring_o (goodIn_app gp_wsX0_clearVars (goodIn_app gp_wsX0_setParty gp_wsX1_valueOf))) gp_wsX00) gp_wsX50) gp_wsX60) gp_wsX10))
set_option maxRecDepth 100000 in
theorem gp_wsX10_party : GoodIn lw_tbl wsX10_party := by unfold wsX10_party; exact (gi_cons dw_630 (goodIn_app (goodIn_app (goodIn_app (goodIn_app (goodIn_app (goodIn_app gp_wsX10_party_o (goodIn_app gp_wsX5_hasParty (goodIn_app gp_wsX0_fareOf gp_wsX0_isDaring))) gp_wsX100) gp_wsX50) gp_wsX60) gp_wsX00) gp_wsX10))
set_option maxRecDepth 100000 in
theorem gp_wsX11_party_o : GoodIn lw_tbl wsX11_party_o := by unfold wsX11_party_o; exact (gi_cons dw_439 (gi_cons dw_358 (gi_cons dw_438 (gi_cons dw_474 (gi_cons dw_656 (gi_cons dw_655 (gi_cons dw_654 (gi_cons dw_16 (gi_cons dw_564 (gi_cons dw_563 (gi_cons dw_562 (gi_cons dw_653 (gi_cons dw_652 (gi_cons dw_651 (gi_cons dw_650 (gi_cons dw_649 (gi_cons dw_648 gi_nil)))))))))))))))))
set_option maxRecDepth 100000 in
theorem gp_wsX11_isParty_o : GoodIn lw_tbl wsX11_isParty_o := by unfold wsX11_isParty_o; exact (gi_cons dw_398 (gi_cons dw_358 (gi_cons dw_570 (gi_cons dw_569 (gi_cons dw_16 gi_nil)))))
set_option maxRecDepth 100000 in
theorem gp_wsX11_isParty : GoodIn lw_tbl wsX11_isParty := by unfold wsX11_isParty; exact (gi_cons dw_657 (goodIn_app (goodIn_app gp_wsX11_isParty_o gp_wsX11_in) gp_wsX110))
end
section
set_option maxRecDepth 100000 in
theorem gp_wsX11_faresOf_o : GoodIn lw_tbl wsX11_faresOf_o := by unfold wsX11_faresOf_o; exact (gi_cons dw_598 (gi_cons dw_597 (gi_cons dw_596 (gi_cons dw_16 (gi_cons dw_592 (gi_cons dw_591 (gi_cons dw_590 (gi_cons dw_589 (gi_cons dw_588 gi_nil)))))))))
set_option maxRecDepth 100000 in
theorem gp_wsX11_faresOf : GoodIn lw_tbl wsX11_faresOf := by unfold wsX11_faresOf; exact (gi_cons dw_658 (goodIn_app (goodIn_app gp_wsX11_faresOf_o (goodIn_app gp_wsX11_looks (goodIn_app gp_wsX11_lawTells gp_wsX11_within))) gp_wsX110))
set_option maxRecDepth 100000 in
theorem gp_wsX11_doesDare_o : GoodIn lw_tbl wsX11_doesDare_o := by unfold wsX11_doesDare_o; exact (gi_cons dw_598 (gi_cons dw_597 (gi_cons dw_596 (gi_cons dw_16 (gi_cons dw_592 (gi_cons dw_591 (gi_cons dw_590 gi_nil)))))))
set_option maxRecDepth 100000 in
theorem gp_wsX11_doesDare : GoodIn lw_tbl wsX11_doesDare := by unfold wsX11_doesDare; exact (gi_cons dw_659 (goodIn_app (goodIn_app gp_wsX11_doesDare_o (goodIn_app gp_wsX11_looks gp_wsX11_lawTells)) gp_wsX110))
set_option maxRecDepth 100000 in
theorem gp_wsX11_party : GoodIn lw_tbl wsX11_party := by unfold wsX11_party; exact (gi_cons dw_647 (goodIn_app (goodIn_app gp_wsX11_party_o (goodIn_app gp_wsX11_isParty (goodIn_app gp_wsX11_copies (goodIn_app gp_wsX11_faresOf gp_wsX11_doesDare)))) gp_wsX110))
set_option maxRecDepth 100000 in
theorem gp_wsX10_needs_o : GoodIn lw_tbl wsX10_needs_o := by unfold wsX10_needs_o; exact (gi_cons dw_50 (gi_cons dw_498 (gi_cons dw_49 (gi_cons dw_636 (gi_cons dw_43 (gi_cons dw_635 (gi_cons dw_497 (gi_cons dw_496 (gi_cons dw_618 (gi_cons dw_617 (gi_cons dw_11 (gi_cons dw_665 (gi_cons dw_494 (gi_cons dw_664 (gi_cons dw_313 (gi_cons dw_526 (gi_cons dw_75 (gi_cons dw_133 gi_nil))))))))))))))))))
set_option maxRecDepth 100000 in
theorem gp_wsX0_needOf_o : GoodIn lw_tbl wsX0_needOf_o := by unfold wsX0_needOf_o; exact (gi_cons dw_524 (gi_cons dw_501 (gi_cons dw_521 (gi_cons dw_520 (gi_cons dw_519 (gi_cons dw_494 (gi_cons dw_641 (gi_cons dw_640 (gi_cons dw_639 (gi_cons dw_518 (gi_cons dw_517 (gi_cons dw_516 (gi_cons dw_295 (gi_cons dw_43 (gi_cons dw_294 (gi_cons dw_515 (gi_cons dw_75 (gi_cons dw_514 (gi_cons dw_513 (gi_cons dw_11 gi_nil))))))))))))))))))))
set_option maxRecDepth 100000 in
theorem gp_wsX0_needOf : GoodIn lw_tbl wsX0_needOf := by unfold wsX0_needOf; exact (gi_cons dw_666 (goodIn_app (goodIn_app (goodIn_app (goodIn_app (goodIn_app gp_wsX0_needOf_o (goodIn_app gp_wsX0_clearVars (goodIn_app gp_wsX0_setParty (goodIn_app gp_wsX0_setWave (goodIn_app gp_wsX5_oddsAt (goodIn_app gp_wsX1_valueOf gp_wsX10_heldTo)))))) gp_wsX00) gp_wsX50) gp_wsX60) gp_wsX10))
set_option maxRecDepth 100000 in
theorem gp_wsX10_needs : GoodIn lw_tbl wsX10_needs := by unfold wsX10_needs; exact (gi_cons dw_663 (goodIn_app (goodIn_app (goodIn_app (goodIn_app (goodIn_app (goodIn_app gp_wsX10_needs_o (goodIn_app gp_wsX5_hasParty (goodIn_app gp_wsX5_hasWave (goodIn_app gp_wsX10_isThing gp_wsX0_needOf)))) gp_wsX100) gp_wsX50) gp_wsX00) gp_wsX60) gp_wsX10))
set_option maxRecDepth 100000 in
theorem gp_wsX11_needs_o : GoodIn lw_tbl wsX11_needs_o := by unfold wsX11_needs_o; exact (gi_cons dw_656 (gi_cons dw_655 (gi_cons dw_654 (gi_cons dw_16 (gi_cons dw_567 (gi_cons dw_566 (gi_cons dw_565 (gi_cons dw_625 (gi_cons dw_624 (gi_cons dw_564 (gi_cons dw_563 (gi_cons dw_562 (gi_cons dw_673 (gi_cons dw_672 (gi_cons dw_671 gi_nil)))))))))))))))
set_option maxRecDepth 100000 in
theorem gp_wsX11_needsOf_o : GoodIn lw_tbl wsX11_needsOf_o := by unfold wsX11_needsOf_o; exact (gi_cons dw_600 (gi_cons dw_598 (gi_cons dw_597 (gi_cons dw_596 (gi_cons dw_16 (gi_cons dw_595 (gi_cons dw_594 (gi_cons dw_593 (gi_cons dw_576 (gi_cons dw_575 (gi_cons dw_574 (gi_cons dw_592 (gi_cons dw_591 (gi_cons dw_590 (gi_cons dw_589 (gi_cons dw_588 gi_nil))))))))))))))))
set_option maxRecDepth 100000 in
theorem gp_wsX11_needsOf : GoodIn lw_tbl wsX11_needsOf := by unfold wsX11_needsOf; exact (gi_cons dw_674 (goodIn_app (goodIn_app gp_wsX11_needsOf_o (goodIn_app gp_wsX11_looks (goodIn_app gp_wsX11_looksOver (goodIn_app gp_wsX11_oddsAt (goodIn_app gp_wsX11_lawTells gp_wsX11_within))))) gp_wsX110))
set_option maxRecDepth 100000 in
theorem gp_wsX11_needs : GoodIn lw_tbl wsX11_needs := by unfold wsX11_needs; exact (gi_cons dw_670 (goodIn_app (goodIn_app gp_wsX11_needs_o (goodIn_app gp_wsX11_isParty (goodIn_app gp_wsX11_isWave (goodIn_app gp_wsX11_isThing (goodIn_app gp_wsX11_copies gp_wsX11_needsOf))))) gp_wsX110))
set_option maxRecDepth 100000 in
theorem gp_wsX10_go_o : GoodIn lw_tbl wsX10_go_o := by unfold wsX10_go_o; exact (gi_cons dw_50 (gi_cons dw_48 (gi_cons dw_49 (gi_cons dw_498 (gi_cons dw_687 (gi_cons dw_686 (gi_cons dw_685 (gi_cons dw_11 (gi_cons dw_43 (gi_cons dw_684 (gi_cons dw_683 (gi_cons dw_682 (gi_cons dw_36 (gi_cons dw_681 (gi_cons dw_680 (gi_cons dw_494 (gi_cons dw_679 gi_nil)))))))))))))))))
set_option maxRecDepth 100000 in
theorem gp_wsX10_isHere_o : GoodIn lw_tbl wsX10_isHere_o := by unfold wsX10_isHere_o; exact (gi_cons dw_50 (gi_cons dw_49 (gi_cons dw_636 (gi_cons dw_43 (gi_cons dw_635 gi_nil)))))
set_option maxRecDepth 100000 in
theorem gp_wsX10_isHere : GoodIn lw_tbl wsX10_isHere := by unfold wsX10_isHere; exact (gi_cons dw_688 (goodIn_app (goodIn_app (goodIn_app (goodIn_app gp_wsX10_isHere_o gp_wsX5_hasParty) gp_wsX100) gp_wsX60) gp_wsX50))
set_option maxRecDepth 100000 in
theorem gp_wsX5_hasGuess : GoodIn lw_tbl wsX5_hasGuess := by unfold wsX5_hasGuess; exact (gi_cons dw_689 (goodIn_app (gi_cons dw_79 gi_nil) gp_wsX50))
set_option maxRecDepth 100000 in
theorem gp_wsX3_remember_o : GoodIn lw_tbl wsX3_remember_o := by unfold wsX3_remember_o; exact (gi_cons dw_694 (gi_cons dw_693 (gi_cons dw_326 (gi_cons dw_692 (gi_cons dw_39 (gi_cons dw_691 gi_nil))))))
set_option maxRecDepth 100000 in
theorem gp_wsX6_copyFrom : GoodIn lw_tbl wsX6_copyFrom := by unfold wsX6_copyFrom; exact (gi_cons dw_695 (goodIn_app (gi_cons dw_322 (gi_cons dw_696 (gi_cons dw_308 (gi_cons dw_307 (gi_cons dw_306 (gi_cons dw_321 (gi_cons dw_320 (gi_cons dw_319 (gi_cons dw_318 (gi_cons dw_317 (gi_cons dw_316 gi_nil))))))))))) gp_wsX60))
set_option maxRecDepth 100000 in
theorem gp_wsX3_remember : GoodIn lw_tbl wsX3_remember := by unfold wsX3_remember; exact (gi_cons dw_690 (goodIn_app (goodIn_app (goodIn_app gp_wsX3_remember_o gp_wsX6_copyFrom) gp_wsX30) gp_wsX60))
set_option maxRecDepth 100000 in
theorem gp_wsX0_sendBy_o : GoodIn lw_tbl wsX0_sendBy_o := by unfold wsX0_sendBy_o; exact (gi_cons dw_501 (gi_cons dw_703 (gi_cons dw_634 (gi_cons dw_633 (gi_cons dw_494 (gi_cons dw_11 (gi_cons dw_702 (gi_cons dw_701 (gi_cons dw_700 (gi_cons dw_699 (gi_cons dw_698 (gi_cons dw_492 (gi_cons dw_491 gi_nil)))))))))))))
set_option maxRecDepth 100000 in
theorem gp_wsX10_thingIn : GoodIn lw_tbl wsX10_thingIn := by unfold wsX10_thingIn; exact (gi_cons dw_704 gi_nil)
set_option maxRecDepth 100000 in
theorem gp_wsX0_isBearing_o : GoodIn lw_tbl wsX0_isBearing_o := by unfold wsX0_isBearing_o; exact (gi_cons dw_501 (gi_cons dw_295 (gi_cons dw_43 (gi_cons dw_294 (gi_cons dw_706 (gi_cons dw_665 (gi_cons dw_664 (gi_cons dw_494 gi_nil))))))))
set_option maxRecDepth 100000 in
theorem gp_wsX0_isBearing : GoodIn lw_tbl wsX0_isBearing := by unfold wsX0_isBearing; exact (gi_cons dw_705 (goodIn_app (goodIn_app (goodIn_app (goodIn_app (goodIn_app gp_wsX0_isBearing_o (goodIn_app gp_wsX5_oddsAt gp_wsX0_needOf)) gp_wsX00) gp_wsX50) gp_wsX60) gp_wsX10))
set_option maxRecDepth 100000 in
theorem gp_wsX0_sendBy : GoodIn lw_tbl wsX0_sendBy := by unfold wsX0_sendBy; exact (gi_cons dw_697 (goodIn_app (goodIn_app (goodIn_app (goodIn_app (goodIn_app gp_wsX0_sendBy_o (goodIn_app gp_wsX0_fareOf (goodIn_app gp_wsX10_thingIn (goodIn_app gp_wsX0_isBearing gp_wsX0_thereNow)))) gp_wsX60) gp_wsX00) gp_wsX50) gp_wsX10))
set_option maxRecDepth 100000 in
theorem gp_wsX10_go : GoodIn lw_tbl wsX10_go := by unfold wsX10_go; exact (gi_cons dw_678 (goodIn_app (goodIn_app (goodIn_app (goodIn_app (goodIn_app (goodIn_app (goodIn_app gp_wsX10_go_o (goodIn_app gp_wsX10_isHere (goodIn_app gp_wsX5_hasGuess (goodIn_app gp_wsX3_remember gp_wsX0_sendBy)))) gp_wsX100) gp_wsX50) gp_wsX60) gp_wsX30) gp_wsX00) gp_wsX10))
set_option maxRecDepth 100000 in
theorem gp_wsX11_go_o : GoodIn lw_tbl wsX11_go_o := by unfold wsX11_go_o; exact (gi_cons dw_399 (gi_cons dw_358 (gi_cons dw_725 (gi_cons dw_724 (gi_cons dw_723 (gi_cons dw_16 (gi_cons dw_722 (gi_cons dw_721 (gi_cons dw_720 (gi_cons dw_564 (gi_cons dw_563 (gi_cons dw_562 (gi_cons dw_719 (gi_cons dw_718 (gi_cons dw_717 (gi_cons dw_716 (gi_cons dw_715 (gi_cons dw_714 (gi_cons dw_713 (gi_cons dw_712 (gi_cons dw_711 gi_nil)))))))))))))))))))))
set_option maxRecDepth 100000 in
theorem gp_wsX11_isHere_o : GoodIn lw_tbl wsX11_isHere_o := by unfold wsX11_isHere_o; exact (gi_cons dw_476 (gi_cons dw_656 (gi_cons dw_655 (gi_cons dw_654 (gi_cons dw_16 gi_nil)))))
set_option maxRecDepth 100000 in
theorem gp_wsX11_isHere : GoodIn lw_tbl wsX11_isHere := by unfold wsX11_isHere; exact (gi_cons dw_726 (goodIn_app (goodIn_app gp_wsX11_isHere_o gp_wsX11_isParty) gp_wsX110))
set_option maxRecDepth 100000 in
theorem gp_wsX11_isGuess_o : GoodIn lw_tbl wsX11_isGuess_o := by unfold wsX11_isGuess_o; exact (gi_cons dw_730 (gi_cons dw_729 (gi_cons dw_728 (gi_cons dw_16 (gi_cons dw_570 (gi_cons dw_569 gi_nil))))))
set_option maxRecDepth 100000 in
theorem gp_wsX11_guesses : GoodIn lw_tbl wsX11_guesses := by unfold wsX11_guesses; exact (gi_cons dw_731 (goodIn_app (gi_cons dw_473 (gi_cons dw_399 (gi_cons dw_358 gi_nil))) gp_wsX110))
set_option maxRecDepth 100000 in
theorem gp_wsX11_isGuess : GoodIn lw_tbl wsX11_isGuess := by unfold wsX11_isGuess; exact (gi_cons dw_727 (goodIn_app (goodIn_app gp_wsX11_isGuess_o (goodIn_app gp_wsX11_guesses gp_wsX11_in)) gp_wsX110))
set_option maxRecDepth 100000 in
theorem gp_wsX11_thereNumber_o : GoodIn lw_tbl wsX11_thereNumber_o := by unfold wsX11_thereNumber_o; exact (gi_cons dw_399 (gi_cons dw_358 (gi_cons dw_473 (gi_cons dw_558 (gi_cons dw_557 (gi_cons dw_556 (gi_cons dw_16 gi_nil)))))))
set_option maxRecDepth 100000 in
theorem gp_wsX11_thereNumber : GoodIn lw_tbl wsX11_thereNumber := by unfold wsX11_thereNumber; exact (gi_cons dw_732 (goodIn_app (goodIn_app gp_wsX11_thereNumber_o gp_wsX11_thereAt) gp_wsX110))
set_option maxRecDepth 100000 in
theorem gp_wsX11_goesBy_o : GoodIn lw_tbl wsX11_goesBy_o := by unfold wsX11_goesBy_o; exact (gi_cons dw_474 (gi_cons dw_399 (gi_cons dw_358 (gi_cons dw_739 (gi_cons dw_738 (gi_cons dw_737 (gi_cons dw_16 (gi_cons dw_736 (gi_cons dw_735 (gi_cons dw_734 (gi_cons dw_653 (gi_cons dw_652 (gi_cons dw_651 gi_nil)))))))))))))
set_option maxRecDepth 100000 in
theorem gp_wsX11_bearsBy_o : GoodIn lw_tbl wsX11_bearsBy_o := by unfold wsX11_bearsBy_o; exact (gi_cons dw_399 (gi_cons dw_358 (gi_cons dw_736 (gi_cons dw_735 (gi_cons dw_734 (gi_cons dw_16 (gi_cons dw_743 (gi_cons dw_742 (gi_cons dw_741 gi_nil)))))))))
set_option maxRecDepth 100000 in
theorem gp_wsX11_thingAt : GoodIn lw_tbl wsX11_thingAt := by unfold wsX11_thingAt; exact (gi_cons dw_744 (goodIn_app (gi_cons dw_473 gi_nil) gp_wsX110))
set_option maxRecDepth 100000 in
theorem gp_wsX11_doesBear_o : GoodIn lw_tbl wsX11_doesBear_o := by unfold wsX11_doesBear_o; exact (gi_cons dw_576 (gi_cons dw_575 (gi_cons dw_574 (gi_cons dw_16 (gi_cons dw_673 (gi_cons dw_672 (gi_cons dw_671 gi_nil)))))))
set_option maxRecDepth 100000 in
theorem gp_wsX11_doesBear : GoodIn lw_tbl wsX11_doesBear := by unfold wsX11_doesBear; exact (gi_cons dw_745 (goodIn_app (goodIn_app gp_wsX11_doesBear_o (goodIn_app gp_wsX11_oddsAt gp_wsX11_needsOf)) gp_wsX110))
set_option maxRecDepth 100000 in
theorem gp_wsX11_bearsBy : GoodIn lw_tbl wsX11_bearsBy := by unfold wsX11_bearsBy; exact (gi_cons dw_740 (goodIn_app (goodIn_app gp_wsX11_bearsBy_o (goodIn_app gp_wsX11_thingAt gp_wsX11_doesBear)) gp_wsX110))
set_option maxRecDepth 100000 in
theorem gp_wsX11_goesBy : GoodIn lw_tbl wsX11_goesBy := by unfold wsX11_goesBy; exact (gi_cons dw_733 (goodIn_app (goodIn_app gp_wsX11_goesBy_o (goodIn_app gp_wsX11_bearsBy (goodIn_app gp_wsX11_faresOf gp_wsX11_thingAt))) gp_wsX110))
set_option maxRecDepth 100000 in
theorem gp_wsX11_records_o : GoodIn lw_tbl wsX11_records_o := by unfold wsX11_records_o; exact (gi_cons dw_351 (gi_cons dw_747 (gi_cons dw_476 (gi_cons dw_333 (gi_cons dw_332 (gi_cons dw_331 (gi_cons dw_16 gi_nil)))))))
set_option maxRecDepth 100000 in
theorem gp_wsX11_records : GoodIn lw_tbl wsX11_records := by unfold wsX11_records; exact (gi_cons dw_746 (goodIn_app (goodIn_app gp_wsX11_records_o gp_wsX11_keepsRow) gp_wsX110))
set_option maxRecDepth 100000 in
theorem gp_wsX11_go : GoodIn lw_tbl wsX11_go := by unfold wsX11_go; exact (gi_cons dw_710 (goodIn_app (goodIn_app gp_wsX11_go_o (goodIn_app gp_wsX11_isHere (goodIn_app gp_wsX11_isGuess (goodIn_app gp_wsX11_copies (goodIn_app gp_wsX11_thereNumber (goodIn_app gp_wsX11_goesBy gp_wsX11_records)))))) gp_wsX110))
set_option maxRecDepth 100000 in
theorem gp_wsX10_buoy_o : GoodIn lw_tbl wsX10_buoy_o := by unfold wsX10_buoy_o; exact (gi_cons dw_50 (gi_cons dw_49 (gi_cons dw_48 (gi_cons dw_497 (gi_cons dw_43 (gi_cons dw_496 (gi_cons dw_618 (gi_cons dw_617 (gi_cons dw_11 (gi_cons dw_753 (gi_cons dw_752 (gi_cons dw_682 (gi_cons dw_36 (gi_cons dw_681 (gi_cons dw_39 (gi_cons dw_306 gi_nil))))))))))))))))
set_option maxRecDepth 100000 in
theorem gp_wsX10_has : GoodIn lw_tbl wsX10_has := by unfold wsX10_has; exact (gi_cons dw_754 gi_nil)
set_option maxRecDepth 100000 in
theorem gp_wsX10_buoy : GoodIn lw_tbl wsX10_buoy := by unfold wsX10_buoy; exact (gi_cons dw_751 (goodIn_app (goodIn_app (goodIn_app (goodIn_app (goodIn_app gp_wsX10_buoy_o (goodIn_app gp_wsX5_hasWave (goodIn_app gp_wsX10_isThing (goodIn_app gp_wsX10_has gp_wsX3_remember)))) gp_wsX100) gp_wsX60) gp_wsX50) gp_wsX30))
set_option maxRecDepth 100000 in
theorem gp_wsX11_buoy_o : GoodIn lw_tbl wsX11_buoy_o := by unfold wsX11_buoy_o; exact (gi_cons dw_476 (gi_cons dw_474 (gi_cons dw_567 (gi_cons dw_566 (gi_cons dw_565 (gi_cons dw_16 (gi_cons dw_625 (gi_cons dw_624 (gi_cons dw_564 (gi_cons dw_563 (gi_cons dw_562 (gi_cons dw_713 (gi_cons dw_712 (gi_cons dw_711 gi_nil))))))))))))))
set_option maxRecDepth 100000 in
theorem gp_wsX11_buoy : GoodIn lw_tbl wsX11_buoy := by unfold wsX11_buoy; exact (gi_cons dw_758 (goodIn_app (goodIn_app gp_wsX11_buoy_o (goodIn_app gp_wsX11_isWave (goodIn_app gp_wsX11_isThing (goodIn_app gp_wsX11_copies gp_wsX11_records)))) gp_wsX110))
set_option maxRecDepth 100000 in
theorem gp_wsX10_fetch_o : GoodIn lw_tbl wsX10_fetch_o := by unfold wsX10_fetch_o; exact (gi_cons dw_50 (gi_cons dw_49 (gi_cons dw_48 (gi_cons dw_636 (gi_cons dw_43 (gi_cons dw_635 (gi_cons dw_682 (gi_cons dw_36 (gi_cons dw_681 gi_nil)))))))))
set_option maxRecDepth 100000 in
theorem gp_wsX10_fetch : GoodIn lw_tbl wsX10_fetch := by unfold wsX10_fetch; exact (gi_cons dw_762 (goodIn_app (goodIn_app (goodIn_app (goodIn_app (goodIn_app gp_wsX10_fetch_o (goodIn_app gp_wsX5_hasParty gp_wsX3_remember)) gp_wsX100) gp_wsX60) gp_wsX50) gp_wsX30))
set_option maxRecDepth 100000 in
theorem gp_wsX11_fetch_o : GoodIn lw_tbl wsX11_fetch_o := by unfold wsX11_fetch_o; exact (gi_cons dw_476 (gi_cons dw_474 (gi_cons dw_656 (gi_cons dw_655 (gi_cons dw_654 (gi_cons dw_16 (gi_cons dw_564 (gi_cons dw_563 (gi_cons dw_562 (gi_cons dw_713 (gi_cons dw_712 (gi_cons dw_711 gi_nil))))))))))))
set_option maxRecDepth 100000 in
theorem gp_wsX11_fetch : GoodIn lw_tbl wsX11_fetch := by unfold wsX11_fetch; exact (gi_cons dw_766 (goodIn_app (goodIn_app gp_wsX11_fetch_o (goodIn_app gp_wsX11_isParty (goodIn_app gp_wsX11_copies gp_wsX11_records))) gp_wsX110))
set_option maxRecDepth 100000 in
theorem gp_wsX10_years_o : GoodIn lw_tbl wsX10_years_o := by unfold wsX10_years_o; exact (gi_cons dw_48 (gi_cons dw_49 (gi_cons dw_498 (gi_cons dw_682 (gi_cons dw_36 (gi_cons dw_681 (gi_cons dw_772 (gi_cons dw_494 (gi_cons dw_771 gi_nil)))))))))
set_option maxRecDepth 100000 in
theorem gp_wsX0_passYears_o : GoodIn lw_tbl wsX0_passYears_o := by unfold wsX0_passYears_o; exact (gi_cons dw_501 (gi_cons dw_776 (gi_cons dw_775 (gi_cons dw_774 (gi_cons dw_494 gi_nil)))))
set_option maxRecDepth 100000 in
theorem gp_wsX0_passYearOver_o : GoodIn lw_tbl wsX0_passYearOver_o := by unfold wsX0_passYearOver_o; exact (gi_cons dw_501 (gi_cons dw_779 (gi_cons dw_506 (gi_cons dw_11 (gi_cons dw_778 (gi_cons dw_490 (gi_cons dw_489 (gi_cons dw_494 gi_nil))))))))
set_option maxRecDepth 100000 in
theorem gp_wsX0_passYearOver : GoodIn lw_tbl wsX0_passYearOver := by unfold wsX0_passYearOver; exact (gi_cons dw_777 (goodIn_app (goodIn_app (goodIn_app (goodIn_app (goodIn_app gp_wsX0_passYearOver_o (goodIn_app gp_wsX10_lot gp_wsX0_shiftsOf)) gp_wsX00) gp_wsX50) gp_wsX60) gp_wsX10))
set_option maxRecDepth 100000 in
theorem gp_wsX0_passYears : GoodIn lw_tbl wsX0_passYears := by unfold wsX0_passYears; exact (gi_cons dw_773 (goodIn_app (goodIn_app (goodIn_app (goodIn_app (goodIn_app gp_wsX0_passYears_o gp_wsX0_passYearOver) gp_wsX00) gp_wsX50) gp_wsX60) gp_wsX10))
set_option maxRecDepth 100000 in
theorem gp_wsX10_years : GoodIn lw_tbl wsX10_years := by unfold wsX10_years; exact (gi_cons dw_770 (goodIn_app (goodIn_app (goodIn_app (goodIn_app (goodIn_app (goodIn_app (goodIn_app gp_wsX10_years_o (goodIn_app gp_wsX3_remember gp_wsX0_passYears)) gp_wsX100) gp_wsX60) gp_wsX30) gp_wsX00) gp_wsX50) gp_wsX10))
set_option maxRecDepth 100000 in
theorem gp_wsX11_years_o : GoodIn lw_tbl wsX11_years_o := by unfold wsX11_years_o; exact (gi_cons dw_476 (gi_cons dw_788 (gi_cons dw_787 (gi_cons dw_16 (gi_cons dw_564 (gi_cons dw_563 (gi_cons dw_562 (gi_cons dw_786 (gi_cons dw_785 (gi_cons dw_784 (gi_cons dw_713 (gi_cons dw_712 (gi_cons dw_711 gi_nil)))))))))))))
set_option maxRecDepth 100000 in
theorem gp_wsX11_isLong_o : GoodIn lw_tbl wsX11_isLong_o := by unfold wsX11_isLong_o; exact (gi_cons dw_570 (gi_cons dw_569 (gi_cons dw_16 gi_nil)))
set_option maxRecDepth 100000 in
theorem gp_wsX11_isLong : GoodIn lw_tbl wsX11_isLong := by unfold wsX11_isLong; exact (gi_cons dw_789 (goodIn_app gp_wsX11_isLong_o gp_wsX11_in))
set_option maxRecDepth 100000 in
theorem gp_wsX11_yearsGo_o : GoodIn lw_tbl wsX11_yearsGo_o := by unfold wsX11_yearsGo_o; exact (gi_cons dw_793 (gi_cons dw_792 (gi_cons dw_791 (gi_cons dw_16 gi_nil))))
set_option maxRecDepth 100000 in
theorem gp_wsX11_yearGoes_o : GoodIn lw_tbl wsX11_yearGoes_o := by unfold wsX11_yearGoes_o; exact (gi_cons dw_399 (gi_cons dw_358 (gi_cons dw_796 (gi_cons dw_474 (gi_cons dw_795 (gi_cons dw_581 (gi_cons dw_580 (gi_cons dw_579 (gi_cons dw_16 (gi_cons dw_555 (gi_cons dw_554 (gi_cons dw_553 gi_nil))))))))))))
set_option maxRecDepth 100000 in
theorem gp_wsX11_yearGoes : GoodIn lw_tbl wsX11_yearGoes := by unfold wsX11_yearGoes; exact (gi_cons dw_794 (goodIn_app (goodIn_app gp_wsX11_yearGoes_o (goodIn_app gp_wsX11_lotOf gp_wsX11_shiftsOf)) gp_wsX110))
set_option maxRecDepth 100000 in
theorem gp_wsX11_yearsGo : GoodIn lw_tbl wsX11_yearsGo := by unfold wsX11_yearsGo; exact (gi_cons dw_790 (goodIn_app (goodIn_app gp_wsX11_yearsGo_o gp_wsX11_yearGoes) gp_wsX110))
set_option maxRecDepth 100000 in
theorem gp_wsX11_years : GoodIn lw_tbl wsX11_years := by unfold wsX11_years; exact (gi_cons dw_783 (goodIn_app (goodIn_app gp_wsX11_years_o (goodIn_app gp_wsX11_isLong (goodIn_app gp_wsX11_copies (goodIn_app gp_wsX11_yearsGo gp_wsX11_records)))) gp_wsX110))
set_option maxRecDepth 100000 in
theorem gp_wsX10_undo_o : GoodIn lw_tbl wsX10_undo_o := by unfold wsX10_undo_o; exact (gi_cons dw_48 (gi_cons dw_49 (gi_cons dw_802 (gi_cons dw_36 (gi_cons dw_801 gi_nil)))))
set_option maxRecDepth 100000 in
theorem gp_wsX3_takeBack_o : GoodIn lw_tbl wsX3_takeBack_o := by unfold wsX3_takeBack_o; exact (gi_cons dw_326 (gi_cons dw_694 (gi_cons dw_693 (gi_cons dw_692 (gi_cons dw_39 (gi_cons dw_691 gi_nil))))))
set_option maxRecDepth 100000 in
theorem gp_wsX3_takeBack : GoodIn lw_tbl wsX3_takeBack := by unfold wsX3_takeBack; exact (gi_cons dw_803 (goodIn_app (goodIn_app (goodIn_app gp_wsX3_takeBack_o gp_wsX6_copyFrom) gp_wsX30) gp_wsX60))
set_option maxRecDepth 100000 in
theorem gp_wsX10_undo : GoodIn lw_tbl wsX10_undo := by unfold wsX10_undo; exact (gi_cons dw_800 (goodIn_app (goodIn_app (goodIn_app (goodIn_app gp_wsX10_undo_o gp_wsX3_takeBack) gp_wsX100) gp_wsX30) gp_wsX60))
set_option maxRecDepth 100000 in
theorem gp_wsX11_undo : GoodIn lw_tbl wsX11_undo := by unfold wsX11_undo; exact (gi_cons dw_807 (goodIn_app (gi_cons dw_351 (gi_cons dw_476 (gi_cons dw_747 gi_nil))) gp_wsX110))
set_option maxRecDepth 100000 in
theorem gp_wsX10_cases_o : GoodIn lw_tbl wsX10_cases_o := by unfold wsX10_cases_o; exact (gi_cons dw_815 (gi_cons dw_49 (gi_cons dw_814 (gi_cons dw_813 (gi_cons dw_812 gi_nil)))))
set_option maxRecDepth 100000 in
theorem gp_wsX2_caseCount_o : GoodIn lw_tbl wsX2_caseCount_o := by unfold wsX2_caseCount_o; exact (gi_cons dw_820 (gi_cons dw_819 (gi_cons dw_818 (gi_cons dw_817 (gi_cons dw_813 gi_nil)))))
set_option maxRecDepth 100000 in
theorem gp_wsX2_mayCount_o : GoodIn lw_tbl wsX2_mayCount_o := by unfold wsX2_mayCount_o; exact (gi_cons dw_823 (gi_cons dw_495 (gi_cons dw_494 (gi_cons dw_493 (gi_cons dw_822 (gi_cons dw_527 (gi_cons dw_526 gi_nil)))))))
set_option maxRecDepth 100000 in
theorem gp_wsX20 : GoodIn lw_tbl wsX20 := goodIn_r _ [555, 557, 559, 561, 563, 565] (by decide +kernel) (by decide +kernel)
set_option maxRecDepth 100000 in
theorem gp_wsX2_mayCount : GoodIn lw_tbl wsX2_mayCount := by unfold wsX2_mayCount; exact (gi_cons dw_821 (goodIn_app (goodIn_app (goodIn_app (goodIn_app (goodIn_app gp_wsX2_mayCount_o (goodIn_app gp_wsX0_mayBe gp_wsJ6_bitCount_0f7a4)) gp_wsX20) gp_wsX60) gp_wsX00) gp_wsX50))
set_option maxRecDepth 100000 in
theorem gp_wsX2_caseCount : GoodIn lw_tbl wsX2_caseCount := by unfold wsX2_caseCount; exact (gi_cons dw_816 (goodIn_app (goodIn_app (goodIn_app (goodIn_app (goodIn_app gp_wsX2_caseCount_o gp_wsX2_mayCount) gp_wsX20) gp_wsX50) gp_wsX60) gp_wsX00))
set_option maxRecDepth 100000 in
theorem gp_wsX10_cases : GoodIn lw_tbl wsX10_cases := by unfold wsX10_cases; exact (gi_cons dw_811 (goodIn_app (goodIn_app (goodIn_app (goodIn_app (goodIn_app (goodIn_app gp_wsX10_cases_o gp_wsX2_caseCount) gp_wsX100) gp_wsX20) gp_wsX50) gp_wsX60) gp_wsX00))
set_option maxRecDepth 100000 in
theorem gp_wsX11_cases_o : GoodIn lw_tbl wsX11_cases_o := by unfold wsX11_cases_o; exact (gi_cons dw_564 (gi_cons dw_563 (gi_cons dw_562 (gi_cons dw_16 (gi_cons dw_830 (gi_cons dw_829 (gi_cons dw_828 gi_nil)))))))
set_option maxRecDepth 100000 in
theorem gp_wsX11_casesNow_o : GoodIn lw_tbl wsX11_casesNow_o := by unfold wsX11_casesNow_o; exact (gi_cons dw_399 (gi_cons dw_358 (gi_cons dw_561 (gi_cons dw_560 (gi_cons dw_559 (gi_cons dw_16 (gi_cons dw_603 (gi_cons dw_602 gi_nil))))))))
set_option maxRecDepth 100000 in
theorem gp_wsX11_casesNow : GoodIn lw_tbl wsX11_casesNow := by unfold wsX11_casesNow; exact (gi_cons dw_831 (goodIn_app (goodIn_app gp_wsX11_casesNow_o (goodIn_app gp_wsX11_mayAt gp_wsX11_bits)) gp_wsX110))
set_option maxRecDepth 100000 in
theorem gp_wsX11_cases : GoodIn lw_tbl wsX11_cases := by unfold wsX11_cases; exact (gi_cons dw_827 (goodIn_app (goodIn_app gp_wsX11_cases_o (goodIn_app gp_wsX11_copies gp_wsX11_casesNow)) gp_wsX110))
set_option maxRecDepth 100000 in
theorem gp_wsX10_chance_o : GoodIn lw_tbl wsX10_chance_o := by unfold wsX10_chance_o; exact (gi_cons dw_50 (gi_cons dw_815 (gi_cons dw_49 (gi_cons dw_684 (gi_cons dw_43 (gi_cons dw_683 (gi_cons dw_837 (gi_cons dw_813 (gi_cons dw_836 gi_nil)))))))))
set_option maxRecDepth 100000 in
theorem gp_wsX2_oddsOf_o : GoodIn lw_tbl wsX2_oddsOf_o := by unfold wsX2_oddsOf_o; exact (gi_cons dw_820 (gi_cons dw_702 (gi_cons dw_11 (gi_cons dw_841 (gi_cons dw_840 (gi_cons dw_839 (gi_cons dw_813 gi_nil)))))))
set_option maxRecDepth 100000 in
theorem gp_wsX2_oddsIfMay_o : GoodIn lw_tbl wsX2_oddsIfMay_o := by unfold wsX2_oddsIfMay_o; exact (gi_cons dw_823 (gi_cons dw_820 (gi_cons dw_495 (gi_cons dw_494 (gi_cons dw_493 (gi_cons dw_752 (gi_cons dw_11 (gi_cons dw_295 (gi_cons dw_43 (gi_cons dw_294 gi_nil))))))))))
set_option maxRecDepth 100000 in
theorem gp_wsX2_oddsIfMay : GoodIn lw_tbl wsX2_oddsIfMay := by unfold wsX2_oddsIfMay; exact (gi_cons dw_842 (goodIn_app (goodIn_app (goodIn_app (goodIn_app (goodIn_app gp_wsX2_oddsIfMay_o (goodIn_app gp_wsX0_mayBe (goodIn_app gp_wsX10_has gp_wsX5_oddsAt))) gp_wsX20) gp_wsX60) gp_wsX00) gp_wsX50))
set_option maxRecDepth 100000 in
theorem gp_wsX2_oddsOf : GoodIn lw_tbl wsX2_oddsOf := by unfold wsX2_oddsOf; exact (gi_cons dw_838 (goodIn_app (goodIn_app (goodIn_app (goodIn_app (goodIn_app gp_wsX2_oddsOf_o (goodIn_app gp_wsX10_thingIn gp_wsX2_oddsIfMay)) gp_wsX20) gp_wsX50) gp_wsX60) gp_wsX00))
set_option maxRecDepth 100000 in
theorem gp_wsX10_chance : GoodIn lw_tbl wsX10_chance := by unfold wsX10_chance; exact (gi_cons dw_835 (goodIn_app (goodIn_app (goodIn_app (goodIn_app (goodIn_app (goodIn_app gp_wsX10_chance_o (goodIn_app gp_wsX5_hasGuess gp_wsX2_oddsOf)) gp_wsX100) gp_wsX50) gp_wsX20) gp_wsX60) gp_wsX00))
set_option maxRecDepth 100000 in
theorem gp_wsX11_chance_o : GoodIn lw_tbl wsX11_chance_o := by unfold wsX11_chance_o; exact (gi_cons dw_722 (gi_cons dw_721 (gi_cons dw_720 (gi_cons dw_16 (gi_cons dw_564 (gi_cons dw_563 (gi_cons dw_562 (gi_cons dw_849 (gi_cons dw_848 (gi_cons dw_847 gi_nil))))))))))
set_option maxRecDepth 100000 in
theorem gp_wsX11_chanceOf_o : GoodIn lw_tbl wsX11_chanceOf_o := by unfold wsX11_chanceOf_o; exact (gi_cons dw_399 (gi_cons dw_358 (gi_cons dw_736 (gi_cons dw_735 (gi_cons dw_734 (gi_cons dw_16 (gi_cons dw_853 (gi_cons dw_852 (gi_cons dw_851 (gi_cons dw_576 (gi_cons dw_575 (gi_cons dw_574 gi_nil))))))))))))
set_option maxRecDepth 100000 in
theorem gp_wsX11_mayBe_o : GoodIn lw_tbl wsX11_mayBe_o := by unfold wsX11_mayBe_o; exact (gi_cons dw_561 (gi_cons dw_560 (gi_cons dw_559 (gi_cons dw_16 gi_nil))))
set_option maxRecDepth 100000 in
theorem gp_wsX11_mayBe : GoodIn lw_tbl wsX11_mayBe := by unfold wsX11_mayBe; exact (gi_cons dw_854 (goodIn_app (goodIn_app gp_wsX11_mayBe_o gp_wsX11_mayAt) gp_wsX110))
set_option maxRecDepth 100000 in
theorem gp_wsX11_chanceOf : GoodIn lw_tbl wsX11_chanceOf := by unfold wsX11_chanceOf; exact (gi_cons dw_850 (goodIn_app (goodIn_app gp_wsX11_chanceOf_o (goodIn_app gp_wsX11_thingAt (goodIn_app gp_wsX11_mayBe gp_wsX11_oddsAt))) gp_wsX110))
set_option maxRecDepth 100000 in
theorem gp_wsX11_chance : GoodIn lw_tbl wsX11_chance := by unfold wsX11_chance; exact (gi_cons dw_846 (goodIn_app (goodIn_app gp_wsX11_chance_o (goodIn_app gp_wsX11_isGuess (goodIn_app gp_wsX11_copies gp_wsX11_chanceOf))) gp_wsX110))
set_option maxRecDepth 100000 in
theorem gp_wsX10_all_o : GoodIn lw_tbl wsX10_all_o := by unfold wsX10_all_o; exact (gi_cons dw_815 (gi_cons dw_49 (gi_cons dw_860 (gi_cons dw_813 (gi_cons dw_859 gi_nil)))))
set_option maxRecDepth 100000 in
theorem gp_wsX2_oddsOfAll_o : GoodIn lw_tbl wsX2_oddsOfAll_o := by unfold wsX2_oddsOfAll_o; exact (gi_cons dw_820 (gi_cons dw_841 (gi_cons dw_840 (gi_cons dw_839 (gi_cons dw_813 gi_nil)))))
set_option maxRecDepth 100000 in
theorem gp_wsX2_oddsOfAll : GoodIn lw_tbl wsX2_oddsOfAll := by unfold wsX2_oddsOfAll; exact (gi_cons dw_861 (goodIn_app (goodIn_app (goodIn_app (goodIn_app (goodIn_app gp_wsX2_oddsOfAll_o gp_wsX2_oddsIfMay) gp_wsX20) gp_wsX50) gp_wsX60) gp_wsX00))
set_option maxRecDepth 100000 in
theorem gp_wsX10_all : GoodIn lw_tbl wsX10_all := by unfold wsX10_all; exact (gi_cons dw_858 (goodIn_app (goodIn_app (goodIn_app (goodIn_app (goodIn_app (goodIn_app gp_wsX10_all_o gp_wsX2_oddsOfAll) gp_wsX100) gp_wsX20) gp_wsX50) gp_wsX60) gp_wsX00))
set_option maxRecDepth 100000 in
theorem gp_wsX11_all_o : GoodIn lw_tbl wsX11_all_o := by unfold wsX11_all_o; exact (gi_cons dw_399 (gi_cons dw_358 (gi_cons dw_564 (gi_cons dw_563 (gi_cons dw_562 (gi_cons dw_16 (gi_cons dw_868 (gi_cons dw_867 (gi_cons dw_866 gi_nil)))))))))
set_option maxRecDepth 100000 in
theorem gp_wsX11_sumAt_o : GoodIn lw_tbl wsX11_sumAt_o := by unfold wsX11_sumAt_o; exact (gi_cons dw_853 (gi_cons dw_852 (gi_cons dw_851 (gi_cons dw_16 (gi_cons dw_576 (gi_cons dw_575 (gi_cons dw_574 gi_nil)))))))
set_option maxRecDepth 100000 in
theorem gp_wsX11_sumAt : GoodIn lw_tbl wsX11_sumAt := by unfold wsX11_sumAt; exact (gi_cons dw_869 (goodIn_app (goodIn_app gp_wsX11_sumAt_o (goodIn_app gp_wsX11_mayBe gp_wsX11_oddsAt)) gp_wsX110))
set_option maxRecDepth 100000 in
theorem gp_wsX11_all : GoodIn lw_tbl wsX11_all := by unfold wsX11_all; exact (gi_cons dw_865 (goodIn_app (goodIn_app gp_wsX11_all_o (goodIn_app gp_wsX11_copies gp_wsX11_sumAt)) gp_wsX110))
set_option maxRecDepth 100000 in
theorem gp_wsX10_likeliest_o : GoodIn lw_tbl wsX10_likeliest_o := by unfold wsX10_likeliest_o; exact (gi_cons dw_815 (gi_cons dw_49 (gi_cons dw_875 (gi_cons dw_813 (gi_cons dw_874 gi_nil)))))
set_option maxRecDepth 100000 in
theorem gp_wsX2_bestGuess_o : GoodIn lw_tbl wsX2_bestGuess_o := by unfold wsX2_bestGuess_o; exact (gi_cons dw_820 (gi_cons dw_879 (gi_cons dw_878 (gi_cons dw_877 (gi_cons dw_813 gi_nil)))))
set_option maxRecDepth 100000 in
theorem gp_wsX2_bestThing_o : GoodIn lw_tbl wsX2_bestThing_o := by unfold wsX2_bestThing_o; exact (gi_cons dw_823 (gi_cons dw_841 (gi_cons dw_840 (gi_cons dw_839 (gi_cons dw_813 (gi_cons dw_494 (gi_cons dw_665 (gi_cons dw_664 gi_nil))))))))
set_option maxRecDepth 100000 in
theorem gp_wsX2_bestThing : GoodIn lw_tbl wsX2_bestThing := by unfold wsX2_bestThing; exact (gi_cons dw_880 (goodIn_app (goodIn_app (goodIn_app (goodIn_app (goodIn_app (goodIn_app gp_wsX2_bestThing_o (goodIn_app gp_wsX2_oddsIfMay gp_wsX0_needOf)) gp_wsX20) gp_wsX60) gp_wsX00) gp_wsX50) gp_wsX10))
set_option maxRecDepth 100000 in
theorem gp_wsX2_bestGuess : GoodIn lw_tbl wsX2_bestGuess := by unfold wsX2_bestGuess; exact (gi_cons dw_876 (goodIn_app (goodIn_app (goodIn_app (goodIn_app (goodIn_app (goodIn_app gp_wsX2_bestGuess_o gp_wsX2_bestThing) gp_wsX20) gp_wsX50) gp_wsX60) gp_wsX00) gp_wsX10))
set_option maxRecDepth 100000 in
theorem gp_wsX10_likeliest : GoodIn lw_tbl wsX10_likeliest := by unfold wsX10_likeliest; exact (gi_cons dw_873 (goodIn_app (goodIn_app (goodIn_app (goodIn_app (goodIn_app (goodIn_app (goodIn_app gp_wsX10_likeliest_o gp_wsX2_bestGuess) gp_wsX100) gp_wsX20) gp_wsX50) gp_wsX60) gp_wsX00) gp_wsX10))
set_option maxRecDepth 100000 in
theorem gp_wsX11_likeliest_o : GoodIn lw_tbl wsX11_likeliest_o := by unfold wsX11_likeliest_o; exact (gi_cons dw_564 (gi_cons dw_563 (gi_cons dw_562 (gi_cons dw_16 (gi_cons dw_887 (gi_cons dw_886 (gi_cons dw_885 gi_nil)))))))
set_option maxRecDepth 100000 in
theorem gp_wsX11_bestFor_o : GoodIn lw_tbl wsX11_bestFor_o := by unfold wsX11_bestFor_o; exact (gi_cons dw_399 (gi_cons dw_358 (gi_cons dw_473 (gi_cons dw_853 (gi_cons dw_852 (gi_cons dw_851 (gi_cons dw_16 (gi_cons dw_576 (gi_cons dw_575 (gi_cons dw_574 (gi_cons dw_743 (gi_cons dw_742 (gi_cons dw_741 gi_nil)))))))))))))
set_option maxRecDepth 100000 in
theorem gp_wsX11_bestFor : GoodIn lw_tbl wsX11_bestFor := by unfold wsX11_bestFor; exact (gi_cons dw_888 (goodIn_app (goodIn_app gp_wsX11_bestFor_o (goodIn_app gp_wsX11_mayBe (goodIn_app gp_wsX11_doesBear gp_wsX11_oddsAt))) gp_wsX110))
set_option maxRecDepth 100000 in
theorem gp_wsX11_likeliest : GoodIn lw_tbl wsX11_likeliest := by unfold wsX11_likeliest; exact (gi_cons dw_884 (goodIn_app (goodIn_app gp_wsX11_likeliest_o (goodIn_app gp_wsX11_copies gp_wsX11_bestFor)) gp_wsX110))
set_option maxRecDepth 100000 in
theorem gp_wsX10_bears_o : GoodIn lw_tbl wsX10_bears_o := by unfold wsX10_bears_o; exact (gi_cons dw_50 (gi_cons dw_815 (gi_cons dw_49 (gi_cons dw_636 (gi_cons dw_43 (gi_cons dw_635 (gi_cons dw_684 (gi_cons dw_683 (gi_cons dw_894 (gi_cons dw_813 (gi_cons dw_893 gi_nil)))))))))))
set_option maxRecDepth 100000 in
theorem gp_wsX2_borneOver_o : GoodIn lw_tbl wsX2_borneOver_o := by unfold wsX2_borneOver_o; exact (gi_cons dw_820 (gi_cons dw_823 (gi_cons dw_702 (gi_cons dw_11 (gi_cons dw_700 (gi_cons dw_494 (gi_cons dw_699 gi_nil)))))))
set_option maxRecDepth 100000 in
theorem gp_wsX2_borneOver : GoodIn lw_tbl wsX2_borneOver := by unfold wsX2_borneOver; exact (gi_cons dw_895 (goodIn_app (goodIn_app (goodIn_app (goodIn_app (goodIn_app (goodIn_app gp_wsX2_borneOver_o (goodIn_app gp_wsX10_thingIn gp_wsX0_isBearing)) gp_wsX20) gp_wsX50) gp_wsX00) gp_wsX60) gp_wsX10))
set_option maxRecDepth 100000 in
theorem gp_wsX10_bears : GoodIn lw_tbl wsX10_bears := by unfold wsX10_bears; exact (gi_cons dw_892 (goodIn_app (goodIn_app (goodIn_app (goodIn_app (goodIn_app (goodIn_app (goodIn_app gp_wsX10_bears_o (goodIn_app gp_wsX5_hasParty (goodIn_app gp_wsX5_hasGuess gp_wsX2_borneOver))) gp_wsX100) gp_wsX50) gp_wsX20) gp_wsX00) gp_wsX60) gp_wsX10))
set_option maxRecDepth 100000 in
theorem gp_wsX11_bears_o : GoodIn lw_tbl wsX11_bears_o := by unfold wsX11_bears_o; exact (gi_cons dw_656 (gi_cons dw_655 (gi_cons dw_654 (gi_cons dw_16 (gi_cons dw_722 (gi_cons dw_721 (gi_cons dw_720 (gi_cons dw_564 (gi_cons dw_563 (gi_cons dw_562 (gi_cons dw_739 (gi_cons dw_738 (gi_cons dw_737 gi_nil)))))))))))))
set_option maxRecDepth 100000 in
theorem gp_wsX11_bears : GoodIn lw_tbl wsX11_bears := by unfold wsX11_bears; exact (gi_cons dw_899 (goodIn_app (goodIn_app gp_wsX11_bears_o (goodIn_app gp_wsX11_isParty (goodIn_app gp_wsX11_isGuess (goodIn_app gp_wsX11_copies gp_wsX11_bearsBy)))) gp_wsX110))
set_option maxRecDepth 100000 in
theorem gp_wsX10_safest_o : GoodIn lw_tbl wsX10_safest_o := by unfold wsX10_safest_o; exact (gi_cons dw_50 (gi_cons dw_815 (gi_cons dw_49 (gi_cons dw_636 (gi_cons dw_43 (gi_cons dw_635 (gi_cons dw_875 (gi_cons dw_813 (gi_cons dw_874 gi_nil)))))))))
set_option maxRecDepth 100000 in
theorem gp_wsX10_safest : GoodIn lw_tbl wsX10_safest := by unfold wsX10_safest; exact (gi_cons dw_903 (goodIn_app (goodIn_app (goodIn_app (goodIn_app (goodIn_app (goodIn_app (goodIn_app gp_wsX10_safest_o (goodIn_app gp_wsX5_hasParty gp_wsX2_bestGuess)) gp_wsX100) gp_wsX50) gp_wsX20) gp_wsX60) gp_wsX00) gp_wsX10))
set_option maxRecDepth 100000 in
theorem gp_wsX11_safest_o : GoodIn lw_tbl wsX11_safest_o := by unfold wsX11_safest_o; exact (gi_cons dw_656 (gi_cons dw_655 (gi_cons dw_654 (gi_cons dw_16 (gi_cons dw_564 (gi_cons dw_563 (gi_cons dw_562 (gi_cons dw_887 (gi_cons dw_886 (gi_cons dw_885 gi_nil))))))))))
set_option maxRecDepth 100000 in
theorem gp_wsX11_safest : GoodIn lw_tbl wsX11_safest := by unfold wsX11_safest; exact (gi_cons dw_907 (goodIn_app (goodIn_app gp_wsX11_safest_o (goodIn_app gp_wsX11_isParty (goodIn_app gp_wsX11_copies gp_wsX11_bestFor))) gp_wsX110))
set_option maxRecDepth 100000 in
theorem gp_wsX10_enough_o : GoodIn lw_tbl wsX10_enough_o := by unfold wsX10_enough_o; exact (gi_cons dw_815 (gi_cons dw_49 (gi_cons dw_814 (gi_cons dw_813 (gi_cons dw_812 (gi_cons dw_913 (gi_cons dw_912 gi_nil)))))))
set_option maxRecDepth 100000 in
theorem gp_wsX2_goesAtMost_o : GoodIn lw_tbl wsX2_goesAtMost_o := by unfold wsX2_goesAtMost_o; exact (gi_cons dw_820 (gi_cons dw_819 (gi_cons dw_818 (gi_cons dw_817 (gi_cons dw_813 gi_nil)))))
set_option maxRecDepth 100000 in
theorem gp_wsX2_goesAtMost : GoodIn lw_tbl wsX2_goesAtMost := by unfold wsX2_goesAtMost; exact (gi_cons dw_914 (goodIn_app (goodIn_app (goodIn_app (goodIn_app (goodIn_app gp_wsX2_goesAtMost_o gp_wsX2_mayCount) gp_wsX20) gp_wsX50) gp_wsX60) gp_wsX00))
set_option maxRecDepth 100000 in
theorem gp_wsX10_enough : GoodIn lw_tbl wsX10_enough := by unfold wsX10_enough; exact (gi_cons dw_911 (goodIn_app (goodIn_app (goodIn_app (goodIn_app (goodIn_app (goodIn_app gp_wsX10_enough_o (goodIn_app gp_wsX2_caseCount gp_wsX2_goesAtMost)) gp_wsX100) gp_wsX20) gp_wsX50) gp_wsX60) gp_wsX00))
set_option maxRecDepth 100000 in
theorem gp_wsX11_enough_o : GoodIn lw_tbl wsX11_enough_o := by unfold wsX11_enough_o; exact (gi_cons dw_399 (gi_cons dw_358 (gi_cons dw_564 (gi_cons dw_563 (gi_cons dw_562 (gi_cons dw_16 (gi_cons dw_830 (gi_cons dw_829 (gi_cons dw_828 (gi_cons dw_561 (gi_cons dw_560 (gi_cons dw_559 (gi_cons dw_603 (gi_cons dw_602 gi_nil))))))))))))))
set_option maxRecDepth 100000 in
theorem gp_wsX11_enough : GoodIn lw_tbl wsX11_enough := by unfold wsX11_enough; exact (gi_cons dw_918 (goodIn_app (goodIn_app gp_wsX11_enough_o (goodIn_app gp_wsX11_copies (goodIn_app gp_wsX11_casesNow (goodIn_app gp_wsX11_mayAt gp_wsX11_bits)))) gp_wsX110))
set_option maxRecDepth 100000 in
theorem gp_wsX10_left_o : GoodIn lw_tbl wsX10_left_o := by unfold wsX10_left_o; exact (gi_cons dw_50 (gi_cons dw_815 (gi_cons dw_49 (gi_cons dw_684 (gi_cons dw_43 (gi_cons dw_683 (gi_cons dw_814 (gi_cons dw_813 (gi_cons dw_812 (gi_cons dw_924 (gi_cons dw_923 gi_nil)))))))))))
set_option maxRecDepth 100000 in
theorem gp_wsX2_leftBehind_o : GoodIn lw_tbl wsX2_leftBehind_o := by unfold wsX2_leftBehind_o; exact (gi_cons dw_820 (gi_cons dw_823 (gi_cons dw_926 (gi_cons dw_192 (gi_cons dw_133 (gi_cons dw_191 (gi_cons dw_819 (gi_cons dw_818 (gi_cons dw_817 (gi_cons dw_813 (gi_cons dw_495 (gi_cons dw_494 (gi_cons dw_493 (gi_cons dw_702 (gi_cons dw_11 (gi_cons dw_752 gi_nil))))))))))))))))
set_option maxRecDepth 100000 in
theorem gp_wsX2_leftBehind : GoodIn lw_tbl wsX2_leftBehind := by unfold wsX2_leftBehind; exact (gi_cons dw_925 (goodIn_app (goodIn_app (goodIn_app (goodIn_app (goodIn_app gp_wsX2_leftBehind_o (goodIn_app gp_wsX2_mayCount (goodIn_app gp_wsX0_mayBe (goodIn_app gp_wsX10_thingIn gp_wsX10_has)))) gp_wsX20) gp_wsX50) gp_wsX60) gp_wsX00))
set_option maxRecDepth 100000 in
theorem gp_wsX10_left : GoodIn lw_tbl wsX10_left := by unfold wsX10_left; exact (gi_cons dw_922 (goodIn_app (goodIn_app (goodIn_app (goodIn_app (goodIn_app (goodIn_app gp_wsX10_left_o (goodIn_app gp_wsX5_hasGuess (goodIn_app gp_wsX2_caseCount gp_wsX2_leftBehind))) gp_wsX100) gp_wsX50) gp_wsX20) gp_wsX60) gp_wsX00))
set_option maxRecDepth 100000 in
theorem gp_wsX11_left_o : GoodIn lw_tbl wsX11_left_o := by unfold wsX11_left_o; exact (gi_cons dw_722 (gi_cons dw_721 (gi_cons dw_720 (gi_cons dw_16 (gi_cons dw_564 (gi_cons dw_563 (gi_cons dw_562 (gi_cons dw_830 (gi_cons dw_829 (gi_cons dw_828 (gi_cons dw_933 (gi_cons dw_932 (gi_cons dw_931 gi_nil)))))))))))))
set_option maxRecDepth 100000 in
theorem gp_wsX11_leftOf_o : GoodIn lw_tbl wsX11_leftOf_o := by unfold wsX11_leftOf_o; exact (gi_cons dw_399 (gi_cons dw_358 (gi_cons dw_830 (gi_cons dw_829 (gi_cons dw_828 (gi_cons dw_16 (gi_cons dw_561 (gi_cons dw_560 (gi_cons dw_559 (gi_cons dw_603 (gi_cons dw_602 (gi_cons dw_736 (gi_cons dw_735 (gi_cons dw_734 gi_nil))))))))))))))
set_option maxRecDepth 100000 in
theorem gp_wsX11_leftOf : GoodIn lw_tbl wsX11_leftOf := by unfold wsX11_leftOf; exact (gi_cons dw_934 (goodIn_app (goodIn_app gp_wsX11_leftOf_o (goodIn_app gp_wsX11_casesNow (goodIn_app gp_wsX11_mayAt (goodIn_app gp_wsX11_bits gp_wsX11_thingAt)))) gp_wsX110))
set_option maxRecDepth 100000 in
theorem gp_wsX11_left : GoodIn lw_tbl wsX11_left := by unfold wsX11_left; exact (gi_cons dw_930 (goodIn_app (goodIn_app gp_wsX11_left_o (goodIn_app gp_wsX11_isGuess (goodIn_app gp_wsX11_copies (goodIn_app gp_wsX11_casesNow gp_wsX11_leftOf)))) gp_wsX110))
set_option maxRecDepth 100000 in
theorem gp_wsX10_wisest_o : GoodIn lw_tbl wsX10_wisest_o := by unfold wsX10_wisest_o; exact (gi_cons dw_815 (gi_cons dw_49 (gi_cons dw_814 (gi_cons dw_813 (gi_cons dw_812 (gi_cons dw_940 (gi_cons dw_939 (gi_cons dw_924 (gi_cons dw_923 gi_nil)))))))))
set_option maxRecDepth 100000 in
theorem gp_wsX2_wisestGuess_o : GoodIn lw_tbl wsX2_wisestGuess_o := by unfold wsX2_wisestGuess_o; exact (gi_cons dw_820 (gi_cons dw_823 (gi_cons dw_495 (gi_cons dw_494 (gi_cons dw_493 (gi_cons dw_943 (gi_cons dw_942 (gi_cons dw_526 (gi_cons dw_819 (gi_cons dw_818 (gi_cons dw_817 (gi_cons dw_813 gi_nil))))))))))))
set_option maxRecDepth 100000 in
theorem gp_wsJ6_numberOfTrailingZeros_0f7a4 : GoodIn lw_tbl wsJ6_numberOfTrailingZeros_0f7a4 := by unfold wsJ6_numberOfTrailingZeros_0f7a4; exact (gi_cons dw_944 (gi_cons dw_945 gi_nil))
set_option maxRecDepth 100000 in
theorem gp_wsX2_wisestGuess : GoodIn lw_tbl wsX2_wisestGuess := by unfold wsX2_wisestGuess; exact (gi_cons dw_941 (goodIn_app (goodIn_app (goodIn_app (goodIn_app (goodIn_app gp_wsX2_wisestGuess_o (goodIn_app gp_wsX0_mayBe (goodIn_app gp_wsJ6_numberOfTrailingZeros_0f7a4 gp_wsX2_mayCount))) gp_wsX20) gp_wsX50) gp_wsX60) gp_wsX00))
set_option maxRecDepth 100000 in
theorem gp_wsX10_wisest : GoodIn lw_tbl wsX10_wisest := by unfold wsX10_wisest; exact (gi_cons dw_938 (goodIn_app (goodIn_app (goodIn_app (goodIn_app (goodIn_app (goodIn_app gp_wsX10_wisest_o (goodIn_app gp_wsX2_caseCount (goodIn_app gp_wsX2_wisestGuess gp_wsX2_leftBehind))) gp_wsX100) gp_wsX20) gp_wsX50) gp_wsX60) gp_wsX00))
set_option maxRecDepth 100000 in
theorem gp_wsX11_wisest_o : GoodIn lw_tbl wsX11_wisest_o := by unfold wsX11_wisest_o; exact (gi_cons dw_570 (gi_cons dw_569 (gi_cons dw_16 (gi_cons dw_564 (gi_cons dw_563 (gi_cons dw_562 (gi_cons dw_830 (gi_cons dw_829 (gi_cons dw_828 (gi_cons dw_933 (gi_cons dw_932 (gi_cons dw_931 (gi_cons dw_730 (gi_cons dw_729 (gi_cons dw_728 gi_nil)))))))))))))))
set_option maxRecDepth 100000 in
theorem gp_wsX11_wisest : GoodIn lw_tbl wsX11_wisest := by unfold wsX11_wisest; exact (gi_cons dw_949 (goodIn_app (goodIn_app gp_wsX11_wisest_o (goodIn_app gp_wsX11_in (goodIn_app gp_wsX11_copies (goodIn_app gp_wsX11_casesNow (goodIn_app gp_wsX11_leftOf gp_wsX11_guesses))))) gp_wsX110))
set_option maxRecDepth 100000 in
theorem gp_wsX10_rank_o : GoodIn lw_tbl wsX10_rank_o := by unfold wsX10_rank_o; exact (gi_cons dw_50 (gi_cons dw_815 (gi_cons dw_49 (gi_cons dw_684 (gi_cons dw_43 (gi_cons dw_683 (gi_cons dw_837 (gi_cons dw_813 (gi_cons dw_836 (gi_cons dw_955 (gi_cons dw_954 gi_nil)))))))))))
set_option maxRecDepth 100000 in
theorem gp_wsX2_casesAheadOf_o : GoodIn lw_tbl wsX2_casesAheadOf_o := by unfold wsX2_casesAheadOf_o; exact (gi_cons dw_964 (gi_cons dw_963 (gi_cons dw_962 (gi_cons dw_961 (gi_cons dw_960 (gi_cons dw_813 (gi_cons dw_959 (gi_cons dw_958 (gi_cons dw_957 gi_nil)))))))))
set_option maxRecDepth 100000 in
theorem gp_wsX2_fillNear_o : GoodIn lw_tbl wsX2_fillNear_o := by unfold wsX2_fillNear_o; exact (gi_cons dw_963 (gi_cons dw_820 (gi_cons dw_969 (gi_cons dw_189 (gi_cons dw_133 (gi_cons dw_188 (gi_cons dw_968 (gi_cons dw_967 (gi_cons dw_966 (gi_cons dw_813 gi_nil))))))))))
set_option maxRecDepth 100000 in
theorem gp_wsX2_fillRow_o : GoodIn lw_tbl wsX2_fillRow_o := by unfold wsX2_fillRow_o; exact (gi_cons dw_841 (gi_cons dw_840 (gi_cons dw_839 (gi_cons dw_813 gi_nil))))
set_option maxRecDepth 100000 in
theorem gp_wsX2_fillRow : GoodIn lw_tbl wsX2_fillRow := by unfold wsX2_fillRow; exact (gi_cons dw_970 (goodIn_app (goodIn_app (goodIn_app (goodIn_app (goodIn_app gp_wsX2_fillRow_o gp_wsX2_oddsIfMay) gp_wsX20) gp_wsX60) gp_wsX00) gp_wsX50))
set_option maxRecDepth 100000 in
theorem gp_wsX2_fillNear : GoodIn lw_tbl wsX2_fillNear := by unfold wsX2_fillNear; exact (gi_cons dw_965 (goodIn_app (goodIn_app (goodIn_app (goodIn_app (goodIn_app gp_wsX2_fillNear_o gp_wsX2_fillRow) gp_wsX20) gp_wsX50) gp_wsX60) gp_wsX00))
set_option maxRecDepth 100000 in
theorem gp_wsX2_fillFar_o : GoodIn lw_tbl wsX2_fillFar_o := by unfold wsX2_fillFar_o; exact (gi_cons dw_964 (gi_cons dw_820 (gi_cons dw_968 (gi_cons dw_967 (gi_cons dw_966 (gi_cons dw_813 gi_nil))))))
set_option maxRecDepth 100000 in
theorem gp_wsX2_fillFar : GoodIn lw_tbl wsX2_fillFar := by unfold wsX2_fillFar; exact (gi_cons dw_971 (goodIn_app (goodIn_app (goodIn_app (goodIn_app (goodIn_app gp_wsX2_fillFar_o gp_wsX2_fillRow) gp_wsX20) gp_wsX50) gp_wsX60) gp_wsX00))
set_option maxRecDepth 100000 in
theorem gp_wsX2_casesAheadOf : GoodIn lw_tbl wsX2_casesAheadOf := by unfold wsX2_casesAheadOf; exact (gi_cons dw_956 (goodIn_app (goodIn_app (goodIn_app (goodIn_app (goodIn_app gp_wsX2_casesAheadOf_o (goodIn_app gp_wsX2_fillNear gp_wsX2_fillFar)) gp_wsX20) gp_wsX50) gp_wsX60) gp_wsX00))
set_option maxRecDepth 100000 in
theorem gp_wsX10_rank : GoodIn lw_tbl wsX10_rank := by unfold wsX10_rank; exact (gi_cons dw_953 (goodIn_app (goodIn_app (goodIn_app (goodIn_app (goodIn_app (goodIn_app gp_wsX10_rank_o (goodIn_app gp_wsX5_hasGuess (goodIn_app gp_wsX2_oddsOf gp_wsX2_casesAheadOf))) gp_wsX100) gp_wsX50) gp_wsX20) gp_wsX60) gp_wsX00))
set_option maxRecDepth 100000 in
theorem gp_wsX11_rank_o : GoodIn lw_tbl wsX11_rank_o := by unfold wsX11_rank_o; exact (gi_cons dw_722 (gi_cons dw_721 (gi_cons dw_720 (gi_cons dw_16 (gi_cons dw_730 (gi_cons dw_729 (gi_cons dw_728 (gi_cons dw_984 (gi_cons dw_983 (gi_cons dw_982 (gi_cons dw_981 (gi_cons dw_980 (gi_cons dw_979 (gi_cons dw_978 (gi_cons dw_977 (gi_cons dw_976 gi_nil))))))))))))))))
set_option maxRecDepth 100000 in
theorem gp_wsX11_fillsChances_o : GoodIn lw_tbl wsX11_fillsChances_o := by unfold wsX11_fillsChances_o; exact (gi_cons dw_986 (gi_cons dw_564 (gi_cons dw_563 (gi_cons dw_562 (gi_cons dw_16 (gi_cons dw_730 (gi_cons dw_729 (gi_cons dw_728 (gi_cons dw_849 (gi_cons dw_848 (gi_cons dw_847 gi_nil)))))))))))
set_option maxRecDepth 100000 in
theorem gp_wsX11_fillsChances : GoodIn lw_tbl wsX11_fillsChances := by unfold wsX11_fillsChances; exact (gi_cons dw_985 (goodIn_app (goodIn_app gp_wsX11_fillsChances_o (goodIn_app gp_wsX11_copies (goodIn_app gp_wsX11_guesses gp_wsX11_chanceOf))) gp_wsX110))
set_option maxRecDepth 100000 in
theorem gp_wsX11_isCase_o : GoodIn lw_tbl wsX11_isCase_o := by unfold wsX11_isCase_o; exact (gi_cons dw_399 (gi_cons dw_358 (gi_cons dw_736 (gi_cons dw_735 (gi_cons dw_734 (gi_cons dw_16 (gi_cons dw_853 (gi_cons dw_852 (gi_cons dw_851 gi_nil)))))))))
set_option maxRecDepth 100000 in
theorem gp_wsX11_isCase : GoodIn lw_tbl wsX11_isCase := by unfold wsX11_isCase; exact (gi_cons dw_987 (goodIn_app (goodIn_app gp_wsX11_isCase_o (goodIn_app gp_wsX11_thingAt gp_wsX11_mayBe)) gp_wsX110))
set_option maxRecDepth 100000 in
theorem gp_wsX11_isAhead : GoodIn lw_tbl wsX11_isAhead := by unfold wsX11_isAhead; exact (gi_cons dw_988 (goodIn_app (gi_cons dw_986 gi_nil) gp_wsX110))
set_option maxRecDepth 100000 in
theorem gp_wsX11_rank : GoodIn lw_tbl wsX11_rank := by unfold wsX11_rank; exact (gi_cons dw_975 (goodIn_app (goodIn_app gp_wsX11_rank_o (goodIn_app gp_wsX11_isGuess (goodIn_app gp_wsX11_fillsChances (goodIn_app gp_wsX11_isCase (goodIn_app gp_wsX11_guesses gp_wsX11_isAhead))))) gp_wsX110))
set_option maxRecDepth 100000 in
theorem gp_wsX10_ranked_o : GoodIn lw_tbl wsX10_ranked_o := by unfold wsX10_ranked_o; exact (gi_cons dw_815 (gi_cons dw_49 (gi_cons dw_994 (gi_cons dw_813 (gi_cons dw_993 gi_nil)))))
set_option maxRecDepth 100000 in
theorem gp_wsX2_caseAtRank_o : GoodIn lw_tbl wsX2_caseAtRank_o := by unfold wsX2_caseAtRank_o; exact (gi_cons dw_1001 (gi_cons dw_1000 (gi_cons dw_964 (gi_cons dw_963 (gi_cons dw_962 (gi_cons dw_961 (gi_cons dw_960 (gi_cons dw_813 (gi_cons dw_133 (gi_cons dw_494 (gi_cons dw_11 (gi_cons dw_43 (gi_cons dw_959 (gi_cons dw_958 (gi_cons dw_957 (gi_cons dw_999 (gi_cons dw_314 (gi_cons dw_313 (gi_cons dw_998 (gi_cons dw_997 (gi_cons dw_996 gi_nil)))))))))))))))))))))
set_option maxRecDepth 100000 in
theorem gp_wsX2_putOnTop : GoodIn lw_tbl wsX2_putOnTop := by unfold wsX2_putOnTop; exact (gi_cons dw_1002 (goodIn_app (gi_cons dw_1001 (gi_cons dw_1000 gi_nil)) gp_wsX20))
set_option maxRecDepth 100000 in
theorem gp_wsX2_caseAtRank : GoodIn lw_tbl wsX2_caseAtRank := by unfold wsX2_caseAtRank; exact (gi_cons dw_995 (goodIn_app (goodIn_app (goodIn_app (goodIn_app (goodIn_app gp_wsX2_caseAtRank_o (goodIn_app gp_wsX2_fillNear (goodIn_app gp_wsX2_fillFar (goodIn_app gp_wsJ7_fill_53178 gp_wsX2_putOnTop)))) gp_wsX20) gp_wsX50) gp_wsX60) gp_wsX00))
set_option maxRecDepth 100000 in
theorem gp_wsX10_ranked : GoodIn lw_tbl wsX10_ranked := by unfold wsX10_ranked; exact (gi_cons dw_992 (goodIn_app (goodIn_app (goodIn_app (goodIn_app (goodIn_app (goodIn_app gp_wsX10_ranked_o gp_wsX2_caseAtRank) gp_wsX100) gp_wsX20) gp_wsX50) gp_wsX60) gp_wsX00))
set_option maxRecDepth 100000 in
theorem gp_wsX11_ranked_o : GoodIn lw_tbl wsX11_ranked_o := by unfold wsX11_ranked_o; exact (gi_cons dw_986 (gi_cons dw_570 (gi_cons dw_569 (gi_cons dw_16 (gi_cons dw_984 (gi_cons dw_983 (gi_cons dw_982 (gi_cons dw_730 (gi_cons dw_729 (gi_cons dw_728 (gi_cons dw_978 (gi_cons dw_977 (gi_cons dw_976 gi_nil)))))))))))))
set_option maxRecDepth 100000 in
theorem gp_wsX11_ranked : GoodIn lw_tbl wsX11_ranked := by unfold wsX11_ranked; exact (gi_cons dw_1006 (goodIn_app (goodIn_app gp_wsX11_ranked_o (goodIn_app gp_wsX11_in (goodIn_app gp_wsX11_fillsChances (goodIn_app gp_wsX11_guesses gp_wsX11_isAhead)))) gp_wsX110))
set_option maxRecDepth 100000 in
theorem gp_wsX10_share_o : GoodIn lw_tbl wsX10_share_o := by unfold wsX10_share_o; exact (gi_cons dw_50 (gi_cons dw_498 (gi_cons dw_49 (gi_cons dw_815 (gi_cons dw_497 (gi_cons dw_43 (gi_cons dw_496 (gi_cons dw_618 (gi_cons dw_617 (gi_cons dw_11 (gi_cons dw_495 (gi_cons dw_494 (gi_cons dw_493 (gi_cons dw_753 (gi_cons dw_752 (gi_cons dw_295 (gi_cons dw_294 (gi_cons dw_860 (gi_cons dw_813 (gi_cons dw_859 gi_nil))))))))))))))))))))
set_option maxRecDepth 100000 in
theorem gp_wsX10_share : GoodIn lw_tbl wsX10_share := by unfold wsX10_share; exact (gi_cons dw_1010 (goodIn_app (goodIn_app (goodIn_app (goodIn_app (goodIn_app (goodIn_app gp_wsX10_share_o (goodIn_app gp_wsX5_hasWave (goodIn_app gp_wsX10_isThing (goodIn_app gp_wsX0_mayBe (goodIn_app gp_wsX10_has (goodIn_app gp_wsX5_oddsAt gp_wsX2_oddsOfAll)))))) gp_wsX100) gp_wsX50) gp_wsX60) gp_wsX00) gp_wsX20))
set_option maxRecDepth 100000 in
theorem gp_wsX11_share_o : GoodIn lw_tbl wsX11_share_o := by unfold wsX11_share_o; exact (gi_cons dw_399 (gi_cons dw_358 (gi_cons dw_567 (gi_cons dw_566 (gi_cons dw_565 (gi_cons dw_16 (gi_cons dw_625 (gi_cons dw_624 (gi_cons dw_564 (gi_cons dw_563 (gi_cons dw_562 (gi_cons dw_853 (gi_cons dw_852 (gi_cons dw_851 (gi_cons dw_576 (gi_cons dw_575 (gi_cons dw_574 (gi_cons dw_868 (gi_cons dw_867 (gi_cons dw_866 gi_nil))))))))))))))))))))
set_option maxRecDepth 100000 in
theorem gp_wsX11_share : GoodIn lw_tbl wsX11_share := by unfold wsX11_share; exact (gi_cons dw_1014 (goodIn_app (goodIn_app gp_wsX11_share_o (goodIn_app gp_wsX11_isWave (goodIn_app gp_wsX11_isThing (goodIn_app gp_wsX11_copies (goodIn_app gp_wsX11_mayBe (goodIn_app gp_wsX11_oddsAt gp_wsX11_sumAt)))))) gp_wsX110))
set_option maxRecDepth 100000 in
theorem gp_wsX10_sure_o : GoodIn lw_tbl wsX10_sure_o := by unfold wsX10_sure_o; exact (gi_cons dw_50 (gi_cons dw_1021 (gi_cons dw_49 (gi_cons dw_815 (gi_cons dw_687 (gi_cons dw_686 (gi_cons dw_685 (gi_cons dw_11 (gi_cons dw_692 (gi_cons dw_39 (gi_cons dw_691 (gi_cons dw_1020 (gi_cons dw_813 (gi_cons dw_1019 gi_nil))))))))))))))
set_option maxRecDepth 100000 in
theorem gp_wsX2_oddsOverWithin_o : GoodIn lw_tbl wsX2_oddsOverWithin_o := by unfold wsX2_oddsOverWithin_o; exact (gi_cons dw_820 (gi_cons dw_1028 (gi_cons dw_875 (gi_cons dw_874 (gi_cons dw_813 (gi_cons dw_11 (gi_cons dw_1027 (gi_cons dw_837 (gi_cons dw_836 (gi_cons dw_702 (gi_cons dw_819 (gi_cons dw_818 (gi_cons dw_817 (gi_cons dw_1026 (gi_cons dw_1020 (gi_cons dw_1019 (gi_cons dw_1025 (gi_cons dw_1024 (gi_cons dw_1023 gi_nil)))))))))))))))))))
set_option maxRecDepth 100000 in
theorem gp_wsX2_unfind_o : GoodIn lw_tbl wsX2_unfind_o := by unfold wsX2_unfind_o; exact (gi_cons dw_820 (gi_cons dw_752 (gi_cons dw_11 gi_nil)))
set_option maxRecDepth 100000 in
theorem gp_wsX2_unfind : GoodIn lw_tbl wsX2_unfind := by unfold wsX2_unfind; exact (gi_cons dw_1029 (goodIn_app (goodIn_app (goodIn_app (goodIn_app gp_wsX2_unfind_o gp_wsX10_has) gp_wsX20) gp_wsX50) gp_wsX60))
set_option maxRecDepth 100000 in
theorem gp_wsX2_oddsOverWithin : GoodIn lw_tbl wsX2_oddsOverWithin := by unfold wsX2_oddsOverWithin; exact (gi_cons dw_1022 (goodIn_app (goodIn_app (goodIn_app (goodIn_app (goodIn_app (goodIn_app gp_wsX2_oddsOverWithin_o (goodIn_app gp_wsX2_bestGuess (goodIn_app gp_wsX2_oddsOf (goodIn_app gp_wsX10_thingIn (goodIn_app gp_wsX2_mayCount gp_wsX2_unfind))))) gp_wsX60) gp_wsX20) gp_wsX50) gp_wsX00) gp_wsX10))
set_option maxRecDepth 100000 in
theorem gp_wsX10_sure : GoodIn lw_tbl wsX10_sure := by unfold wsX10_sure; exact (gi_cons dw_1018 (goodIn_app (goodIn_app (goodIn_app (goodIn_app (goodIn_app (goodIn_app (goodIn_app gp_wsX10_sure_o (goodIn_app gp_wsX10_isHere (goodIn_app gp_wsX6_copyFrom gp_wsX2_oddsOverWithin))) gp_wsX100) gp_wsX50) gp_wsX60) gp_wsX20) gp_wsX00) gp_wsX10))
set_option maxRecDepth 100000 in
theorem gp_wsX11_sure_o : GoodIn lw_tbl wsX11_sure_o := by unfold wsX11_sure_o; exact (gi_cons dw_399 (gi_cons dw_358 (gi_cons dw_986 (gi_cons dw_725 (gi_cons dw_724 (gi_cons dw_723 (gi_cons dw_16 (gi_cons dw_570 (gi_cons dw_569 (gi_cons dw_984 (gi_cons dw_983 (gi_cons dw_982 (gi_cons dw_730 (gi_cons dw_729 (gi_cons dw_728 (gi_cons dw_1036 (gi_cons dw_1035 (gi_cons dw_1034 gi_nil))))))))))))))))))
set_option maxRecDepth 100000 in
theorem gp_wsX11_comesOver_o : GoodIn lw_tbl wsX11_comesOver_o := by unfold wsX11_comesOver_o; exact (gi_cons dw_474 (gi_cons dw_564 (gi_cons dw_563 (gi_cons dw_562 (gi_cons dw_16 (gi_cons dw_887 (gi_cons dw_886 (gi_cons dw_885 (gi_cons dw_716 (gi_cons dw_715 (gi_cons dw_714 gi_nil)))))))))))
set_option maxRecDepth 100000 in
theorem gp_wsX11_comesOver : GoodIn lw_tbl wsX11_comesOver := by unfold wsX11_comesOver; exact (gi_cons dw_1037 (goodIn_app (goodIn_app gp_wsX11_comesOver_o (goodIn_app gp_wsX11_copies (goodIn_app gp_wsX11_bestFor gp_wsX11_goesBy))) gp_wsX110))
set_option maxRecDepth 100000 in
theorem gp_wsX11_sure : GoodIn lw_tbl wsX11_sure := by unfold wsX11_sure; exact (gi_cons dw_1033 (goodIn_app (goodIn_app gp_wsX11_sure_o (goodIn_app gp_wsX11_isHere (goodIn_app gp_wsX11_in (goodIn_app gp_wsX11_fillsChances (goodIn_app gp_wsX11_guesses gp_wsX11_comesOver))))) gp_wsX110))
set_option maxRecDepth 100000 in
theorem gp_wsX10_alike_o : GoodIn lw_tbl wsX10_alike_o := by unfold wsX10_alike_o; exact (gi_cons dw_50 (gi_cons dw_684 (gi_cons dw_43 (gi_cons dw_683 (gi_cons dw_1042 (gi_cons dw_702 (gi_cons dw_11 gi_nil)))))))
set_option maxRecDepth 100000 in
theorem gp_wsX10_alike : GoodIn lw_tbl wsX10_alike := by unfold wsX10_alike; exact (gi_cons dw_1041 (goodIn_app (goodIn_app (goodIn_app gp_wsX10_alike_o (goodIn_app gp_wsX5_hasGuess gp_wsX10_thingIn)) gp_wsX100) gp_wsX50))
set_option maxRecDepth 100000 in
theorem gp_wsX11_alike_o : GoodIn lw_tbl wsX11_alike_o := by unfold wsX11_alike_o; exact (gi_cons dw_399 (gi_cons dw_358 (gi_cons dw_722 (gi_cons dw_721 (gi_cons dw_720 (gi_cons dw_16 (gi_cons dw_736 (gi_cons dw_735 (gi_cons dw_734 gi_nil)))))))))
set_option maxRecDepth 100000 in
theorem gp_wsX11_alike : GoodIn lw_tbl wsX11_alike := by unfold wsX11_alike; exact (gi_cons dw_1046 (goodIn_app (goodIn_app gp_wsX11_alike_o (goodIn_app gp_wsX11_isGuess gp_wsX11_thingAt)) gp_wsX110))
set_option maxRecDepth 100000 in
theorem gp_wsX10_sunk_o : GoodIn lw_tbl wsX10_sunk_o := by unfold wsX10_sunk_o; exact (gi_cons dw_50 (gi_cons dw_49 (gi_cons dw_815 (gi_cons dw_684 (gi_cons dw_43 (gi_cons dw_683 (gi_cons dw_894 (gi_cons dw_813 (gi_cons dw_893 gi_nil)))))))))
set_option maxRecDepth 100000 in
theorem gp_wsX10_sunk : GoodIn lw_tbl wsX10_sunk := by unfold wsX10_sunk; exact (gi_cons dw_1050 (goodIn_app (goodIn_app (goodIn_app (goodIn_app (goodIn_app (goodIn_app (goodIn_app gp_wsX10_sunk_o (goodIn_app gp_wsX5_hasGuess gp_wsX2_borneOver)) gp_wsX100) gp_wsX50) gp_wsX60) gp_wsX20) gp_wsX00) gp_wsX10))
set_option maxRecDepth 100000 in
theorem gp_wsX11_sunk_o : GoodIn lw_tbl wsX11_sunk_o := by unfold wsX11_sunk_o; exact (gi_cons dw_398 (gi_cons dw_358 (gi_cons dw_399 (gi_cons dw_722 (gi_cons dw_721 (gi_cons dw_720 (gi_cons dw_16 (gi_cons dw_564 (gi_cons dw_563 (gi_cons dw_562 (gi_cons dw_725 (gi_cons dw_724 (gi_cons dw_723 (gi_cons dw_739 (gi_cons dw_738 (gi_cons dw_737 gi_nil))))))))))))))))
set_option maxRecDepth 100000 in
theorem gp_wsX11_sunk : GoodIn lw_tbl wsX11_sunk := by unfold wsX11_sunk; exact (gi_cons dw_1054 (goodIn_app (goodIn_app gp_wsX11_sunk_o (goodIn_app gp_wsX11_isGuess (goodIn_app gp_wsX11_copies (goodIn_app gp_wsX11_isHere gp_wsX11_bearsBy)))) gp_wsX110))
set_option maxRecDepth 100000 in
theorem gp_wsX10_stuck_o : GoodIn lw_tbl wsX10_stuck_o := by unfold wsX10_stuck_o; exact (gi_cons dw_50 (gi_cons dw_49 (gi_cons dw_815 (gi_cons dw_875 (gi_cons dw_813 (gi_cons dw_874 gi_nil))))))
set_option maxRecDepth 100000 in
theorem gp_wsX10_stuck : GoodIn lw_tbl wsX10_stuck := by unfold wsX10_stuck; exact (gi_cons dw_1058 (goodIn_app (goodIn_app (goodIn_app (goodIn_app (goodIn_app (goodIn_app (goodIn_app gp_wsX10_stuck_o gp_wsX2_bestGuess) gp_wsX100) gp_wsX50) gp_wsX60) gp_wsX20) gp_wsX00) gp_wsX10))
set_option maxRecDepth 100000 in
theorem gp_wsX11_stuck_o : GoodIn lw_tbl wsX11_stuck_o := by unfold wsX11_stuck_o; exact (gi_cons dw_398 (gi_cons dw_358 (gi_cons dw_564 (gi_cons dw_563 (gi_cons dw_562 (gi_cons dw_16 (gi_cons dw_725 (gi_cons dw_724 (gi_cons dw_723 (gi_cons dw_887 (gi_cons dw_886 (gi_cons dw_885 gi_nil))))))))))))
set_option maxRecDepth 100000 in
theorem gp_wsX11_stuck : GoodIn lw_tbl wsX11_stuck := by unfold wsX11_stuck; exact (gi_cons dw_1062 (goodIn_app (goodIn_app gp_wsX11_stuck_o (goodIn_app gp_wsX11_copies (goodIn_app gp_wsX11_isHere gp_wsX11_bestFor))) gp_wsX110))
set_option maxRecDepth 100000 in
theorem gp_wsX10_spread_o : GoodIn lw_tbl wsX10_spread_o := by unfold wsX10_spread_o; exact (gi_cons dw_50 (gi_cons dw_815 (gi_cons dw_49 (gi_cons dw_497 (gi_cons dw_43 (gi_cons dw_496 (gi_cons dw_1068 (gi_cons dw_813 (gi_cons dw_1067 gi_nil)))))))))
set_option maxRecDepth 100000 in
theorem gp_wsX2_oddsApart_o : GoodIn lw_tbl wsX2_oddsApart_o := by unfold wsX2_oddsApart_o; exact (gi_cons dw_969 (gi_cons dw_189 (gi_cons dw_133 (gi_cons dw_188 (gi_cons dw_926 (gi_cons dw_192 (gi_cons dw_191 (gi_cons dw_841 (gi_cons dw_840 (gi_cons dw_839 (gi_cons dw_813 gi_nil)))))))))))
set_option maxRecDepth 100000 in
theorem gp_wsX2_oddsApart : GoodIn lw_tbl wsX2_oddsApart := by unfold wsX2_oddsApart; exact (gi_cons dw_1069 (goodIn_app (goodIn_app (goodIn_app (goodIn_app (goodIn_app gp_wsX2_oddsApart_o gp_wsX2_oddsIfMay) gp_wsX20) gp_wsX60) gp_wsX00) gp_wsX50))
set_option maxRecDepth 100000 in
theorem gp_wsX10_spread : GoodIn lw_tbl wsX10_spread := by unfold wsX10_spread; exact (gi_cons dw_1066 (goodIn_app (goodIn_app (goodIn_app (goodIn_app (goodIn_app (goodIn_app gp_wsX10_spread_o (goodIn_app gp_wsX5_hasWave gp_wsX2_oddsApart)) gp_wsX100) gp_wsX50) gp_wsX20) gp_wsX60) gp_wsX00))
set_option maxRecDepth 100000 in
theorem gp_wsX11_spread_o : GoodIn lw_tbl wsX11_spread_o := by unfold wsX11_spread_o; exact (gi_cons dw_567 (gi_cons dw_566 (gi_cons dw_565 (gi_cons dw_16 (gi_cons dw_564 (gi_cons dw_563 (gi_cons dw_562 (gi_cons dw_853 (gi_cons dw_852 (gi_cons dw_851 (gi_cons dw_576 (gi_cons dw_575 (gi_cons dw_574 gi_nil)))))))))))))
set_option maxRecDepth 100000 in
theorem gp_wsX11_spread : GoodIn lw_tbl wsX11_spread := by unfold wsX11_spread; exact (gi_cons dw_1073 (goodIn_app (goodIn_app gp_wsX11_spread_o (goodIn_app gp_wsX11_isWave (goodIn_app gp_wsX11_copies (goodIn_app gp_wsX11_mayBe gp_wsX11_oddsAt)))) gp_wsX110))
set_option maxRecDepth 100000 in
theorem gp_wsX10_dearest_o : GoodIn lw_tbl wsX10_dearest_o := by unfold wsX10_dearest_o; exact (gi_cons dw_50 (gi_cons dw_498 (gi_cons dw_49 (gi_cons dw_634 (gi_cons dw_494 (gi_cons dw_633 gi_nil))))))
set_option maxRecDepth 100000 in
theorem gp_wsX10_dearest : GoodIn lw_tbl wsX10_dearest := by unfold wsX10_dearest; exact (gi_cons dw_1077 (goodIn_app (goodIn_app (goodIn_app (goodIn_app (goodIn_app (goodIn_app gp_wsX10_dearest_o gp_wsX0_fareOf) gp_wsX100) gp_wsX50) gp_wsX00) gp_wsX60) gp_wsX10))
set_option maxRecDepth 100000 in
theorem gp_wsX11_dearest_o : GoodIn lw_tbl wsX11_dearest_o := by unfold wsX11_dearest_o; exact (gi_cons dw_398 (gi_cons dw_358 (gi_cons dw_570 (gi_cons dw_569 (gi_cons dw_16 (gi_cons dw_564 (gi_cons dw_563 (gi_cons dw_562 (gi_cons dw_653 (gi_cons dw_652 (gi_cons dw_651 gi_nil)))))))))))
set_option maxRecDepth 100000 in
theorem gp_wsX11_dearest : GoodIn lw_tbl wsX11_dearest := by unfold wsX11_dearest; exact (gi_cons dw_1081 (goodIn_app (goodIn_app gp_wsX11_dearest_o (goodIn_app gp_wsX11_in (goodIn_app gp_wsX11_copies gp_wsX11_faresOf))) gp_wsX110))
set_option maxRecDepth 100000 in
theorem gp_wsX10_chosen_o : GoodIn lw_tbl wsX10_chosen_o := by unfold wsX10_chosen_o; exact (gi_cons dw_50 (gi_cons dw_49 (gi_cons dw_815 (gi_cons dw_875 (gi_cons dw_813 (gi_cons dw_874 (gi_cons dw_837 (gi_cons dw_836 gi_nil))))))))
set_option maxRecDepth 100000 in
theorem gp_wsX10_chosen : GoodIn lw_tbl wsX10_chosen := by unfold wsX10_chosen; exact (gi_cons dw_1085 (goodIn_app (goodIn_app (goodIn_app (goodIn_app (goodIn_app (goodIn_app (goodIn_app gp_wsX10_chosen_o (goodIn_app gp_wsX2_bestGuess gp_wsX2_oddsOf)) gp_wsX100) gp_wsX50) gp_wsX60) gp_wsX20) gp_wsX00) gp_wsX10))
end
section
set_option maxRecDepth 100000 in
theorem gp_wsX11_chosen_o : GoodIn lw_tbl wsX11_chosen_o := by unfold wsX11_chosen_o; exact (gi_cons dw_398 (gi_cons dw_358 (gi_cons dw_564 (gi_cons dw_563 (gi_cons dw_562 (gi_cons dw_16 (gi_cons dw_725 (gi_cons dw_724 (gi_cons dw_723 (gi_cons dw_887 (gi_cons dw_886 (gi_cons dw_885 (gi_cons dw_849 (gi_cons dw_848 (gi_cons dw_847 gi_nil)))))))))))))))
set_option maxRecDepth 100000 in
theorem gp_wsX11_chosen : GoodIn lw_tbl wsX11_chosen := by unfold wsX11_chosen; exact (gi_cons dw_1089 (goodIn_app (goodIn_app gp_wsX11_chosen_o (goodIn_app gp_wsX11_copies (goodIn_app gp_wsX11_isHere (goodIn_app gp_wsX11_bestFor gp_wsX11_chanceOf)))) gp_wsX110))
set_option maxRecDepth 100000 in
theorem gp_wsX10_allGo_o : GoodIn lw_tbl wsX10_allGo_o := by unfold wsX10_allGo_o; exact (gi_cons dw_1021 (gi_cons dw_49 (gi_cons dw_50 (gi_cons dw_498 (gi_cons dw_815 (gi_cons dw_692 (gi_cons dw_39 (gi_cons dw_691 (gi_cons dw_306 (gi_cons dw_632 (gi_cons dw_494 (gi_cons dw_631 (gi_cons dw_313 (gi_cons dw_75 (gi_cons dw_875 (gi_cons dw_813 (gi_cons dw_874 (gi_cons dw_11 (gi_cons dw_43 (gi_cons dw_527 (gi_cons dw_526 (gi_cons dw_133 (gi_cons dw_680 (gi_cons dw_679 (gi_cons dw_1097 (gi_cons dw_1096 (gi_cons dw_1095 (gi_cons dw_1094 gi_nil))))))))))))))))))))))))))))
set_option maxRecDepth 100000 in
theorem gp_wsX10_partiesThatAre : GoodIn lw_tbl wsX10_partiesThatAre := by unfold wsX10_partiesThatAre; exact (gi_cons dw_1098 (goodIn_app (goodIn_app (goodIn_app (gi_cons dw_50 gi_nil) gp_wsX100) gp_wsX50) gp_wsX60))
set_option maxRecDepth 100000 in
theorem gp_wsX10_allGo : GoodIn lw_tbl wsX10_allGo := by unfold wsX10_allGo; exact (gi_cons dw_1093 (goodIn_app (goodIn_app (goodIn_app (goodIn_app (goodIn_app (goodIn_app (goodIn_app gp_wsX10_allGo_o (goodIn_app gp_wsX6_copyFrom (goodIn_app gp_wsX0_isDaring (goodIn_app gp_wsX2_bestGuess (goodIn_app gp_wsX0_sendBy (goodIn_app gp_wsX10_partiesThatAre gp_wsJ6_bitCount_0f7a4)))))) gp_wsX100) gp_wsX50) gp_wsX60) gp_wsX00) gp_wsX10) gp_wsX20))
set_option maxRecDepth 100000 in
theorem gp_wsX11_allGo_o : GoodIn lw_tbl wsX11_allGo_o := by unfold wsX11_allGo_o; exact (gi_cons dw_398 (gi_cons dw_358 (gi_cons dw_399 (gi_cons dw_474 (gi_cons dw_476 (gi_cons dw_570 (gi_cons dw_569 (gi_cons dw_16 (gi_cons dw_564 (gi_cons dw_563 (gi_cons dw_562 (gi_cons dw_719 (gi_cons dw_718 (gi_cons dw_717 (gi_cons dw_725 (gi_cons dw_724 (gi_cons dw_723 (gi_cons dw_650 (gi_cons dw_649 (gi_cons dw_648 (gi_cons dw_887 (gi_cons dw_886 (gi_cons dw_885 (gi_cons dw_716 (gi_cons dw_715 (gi_cons dw_714 (gi_cons dw_1105 (gi_cons dw_1104 (gi_cons dw_1103 gi_nil)))))))))))))))))))))))))))))
set_option maxRecDepth 100000 in
theorem gp_wsX11_manyIn : GoodIn lw_tbl wsX11_manyIn := by unfold wsX11_manyIn; exact (gi_cons dw_1106 (goodIn_app (gi_cons dw_398 (gi_cons dw_358 (gi_cons dw_474 gi_nil))) gp_wsX110))
set_option maxRecDepth 100000 in
theorem gp_wsX11_allGo : GoodIn lw_tbl wsX11_allGo := by unfold wsX11_allGo; exact (gi_cons dw_1102 (goodIn_app (goodIn_app gp_wsX11_allGo_o (goodIn_app gp_wsX11_in (goodIn_app gp_wsX11_copies (goodIn_app gp_wsX11_thereNumber (goodIn_app gp_wsX11_isHere (goodIn_app gp_wsX11_doesDare (goodIn_app gp_wsX11_bestFor (goodIn_app gp_wsX11_goesBy gp_wsX11_manyIn)))))))) gp_wsX110))
set_option maxRecDepth 100000 in
theorem gp_wsX10_darers_o : GoodIn lw_tbl wsX10_darers_o := by unfold wsX10_darers_o; exact (gi_cons dw_50 (gi_cons dw_49 (gi_cons dw_498 (gi_cons dw_632 (gi_cons dw_494 (gi_cons dw_631 gi_nil))))))
set_option maxRecDepth 100000 in
theorem gp_wsX10_darers : GoodIn lw_tbl wsX10_darers := by unfold wsX10_darers; exact (gi_cons dw_1110 (goodIn_app (goodIn_app (goodIn_app (goodIn_app (goodIn_app (goodIn_app gp_wsX10_darers_o gp_wsX0_isDaring) gp_wsX100) gp_wsX50) gp_wsX60) gp_wsX00) gp_wsX10))
set_option maxRecDepth 100000 in
theorem gp_wsX11_darers_o : GoodIn lw_tbl wsX11_darers_o := by unfold wsX11_darers_o; exact (gi_cons dw_398 (gi_cons dw_358 (gi_cons dw_564 (gi_cons dw_563 (gi_cons dw_562 (gi_cons dw_16 (gi_cons dw_725 (gi_cons dw_724 (gi_cons dw_723 (gi_cons dw_650 (gi_cons dw_649 (gi_cons dw_648 gi_nil))))))))))))
set_option maxRecDepth 100000 in
theorem gp_wsX11_darers : GoodIn lw_tbl wsX11_darers := by unfold wsX11_darers; exact (gi_cons dw_1114 (goodIn_app (goodIn_app gp_wsX11_darers_o (goodIn_app gp_wsX11_copies (goodIn_app gp_wsX11_isHere gp_wsX11_doesDare))) gp_wsX110))
set_option maxRecDepth 100000 in
theorem gp_wsX10_open_o : GoodIn lw_tbl wsX10_open_o := by unfold wsX10_open_o; exact (gi_cons dw_50 (gi_cons dw_498 (gi_cons dw_49 (gi_cons dw_495 (gi_cons dw_494 (gi_cons dw_493 (gi_cons dw_1094 (gi_cons dw_527 (gi_cons dw_526 gi_nil)))))))))
set_option maxRecDepth 100000 in
theorem gp_wsX10_open : GoodIn lw_tbl wsX10_open := by unfold wsX10_open; exact (gi_cons dw_1118 (goodIn_app (goodIn_app (goodIn_app (goodIn_app (goodIn_app gp_wsX10_open_o (goodIn_app gp_wsX0_mayBe gp_wsJ6_bitCount_0f7a4)) gp_wsX100) gp_wsX50) gp_wsX60) gp_wsX00))
set_option maxRecDepth 100000 in
theorem gp_wsX11_open_o : GoodIn lw_tbl wsX11_open_o := by unfold wsX11_open_o; exact (gi_cons dw_399 (gi_cons dw_358 (gi_cons dw_564 (gi_cons dw_563 (gi_cons dw_562 (gi_cons dw_16 (gi_cons dw_561 (gi_cons dw_560 (gi_cons dw_559 (gi_cons dw_603 (gi_cons dw_602 gi_nil)))))))))))
set_option maxRecDepth 100000 in
theorem gp_wsX11_open : GoodIn lw_tbl wsX11_open := by unfold wsX11_open; exact (gi_cons dw_1122 (goodIn_app (goodIn_app gp_wsX11_open_o (goodIn_app gp_wsX11_copies (goodIn_app gp_wsX11_mayAt gp_wsX11_bits))) gp_wsX110))
set_option maxRecDepth 100000 in
theorem gp_wsX10_then_o : GoodIn lw_tbl wsX10_then_o := by unfold wsX10_then_o; exact (gi_cons dw_50 (gi_cons dw_1021 (gi_cons dw_49 (gi_cons dw_498 (gi_cons dw_497 (gi_cons dw_43 (gi_cons dw_496 (gi_cons dw_692 (gi_cons dw_39 (gi_cons dw_691 (gi_cons dw_772 (gi_cons dw_494 (gi_cons dw_771 (gi_cons dw_495 (gi_cons dw_493 (gi_cons dw_492 (gi_cons dw_491 gi_nil)))))))))))))))))
set_option maxRecDepth 100000 in
theorem gp_wsX10_then : GoodIn lw_tbl wsX10_then := by unfold wsX10_then; exact (gi_cons dw_1126 (goodIn_app (goodIn_app (goodIn_app (goodIn_app (goodIn_app (goodIn_app gp_wsX10_then_o (goodIn_app gp_wsX5_hasWave (goodIn_app gp_wsX6_copyFrom (goodIn_app gp_wsX0_passYears (goodIn_app gp_wsX0_mayBe gp_wsX0_thereNow))))) gp_wsX100) gp_wsX60) gp_wsX50) gp_wsX00) gp_wsX10))
set_option maxRecDepth 100000 in
theorem gp_wsX11_then_o : GoodIn lw_tbl wsX11_then_o := by unfold wsX11_then_o; exact (gi_cons dw_474 (gi_cons dw_567 (gi_cons dw_566 (gi_cons dw_565 (gi_cons dw_16 (gi_cons dw_570 (gi_cons dw_569 (gi_cons dw_788 (gi_cons dw_787 (gi_cons dw_564 (gi_cons dw_563 (gi_cons dw_562 (gi_cons dw_786 (gi_cons dw_785 (gi_cons dw_784 (gi_cons dw_561 (gi_cons dw_560 (gi_cons dw_559 (gi_cons dw_558 (gi_cons dw_557 (gi_cons dw_556 gi_nil)))))))))))))))))))))
set_option maxRecDepth 100000 in
theorem gp_wsX11_then : GoodIn lw_tbl wsX11_then := by unfold wsX11_then; exact (gi_cons dw_1130 (goodIn_app (goodIn_app gp_wsX11_then_o (goodIn_app gp_wsX11_isWave (goodIn_app gp_wsX11_isLong (goodIn_app gp_wsX11_in (goodIn_app gp_wsX11_copies (goodIn_app gp_wsX11_yearsGo (goodIn_app gp_wsX11_mayAt gp_wsX11_thereAt))))))) gp_wsX110))
set_option maxRecDepth 100000 in
theorem gp_wsX10_next_o : GoodIn lw_tbl wsX10_next_o := by unfold wsX10_next_o; exact (gi_cons dw_50 (gi_cons dw_1021 (gi_cons dw_49 (gi_cons dw_498 (gi_cons dw_497 (gi_cons dw_43 (gi_cons dw_496 (gi_cons dw_692 (gi_cons dw_39 (gi_cons dw_691 (gi_cons dw_772 (gi_cons dw_494 (gi_cons dw_771 gi_nil)))))))))))))
set_option maxRecDepth 100000 in
theorem gp_wsX10_next : GoodIn lw_tbl wsX10_next := by unfold wsX10_next; exact (gi_cons dw_1134 (goodIn_app (goodIn_app (goodIn_app (goodIn_app (goodIn_app (goodIn_app gp_wsX10_next_o (goodIn_app gp_wsX5_hasWave (goodIn_app gp_wsX6_copyFrom gp_wsX0_passYears))) gp_wsX100) gp_wsX60) gp_wsX50) gp_wsX00) gp_wsX10))
set_option maxRecDepth 100000 in
theorem gp_wsX11_next_o : GoodIn lw_tbl wsX11_next_o := by unfold wsX11_next_o; exact (gi_cons dw_474 (gi_cons dw_476 (gi_cons dw_567 (gi_cons dw_566 (gi_cons dw_565 (gi_cons dw_16 (gi_cons dw_564 (gi_cons dw_563 (gi_cons dw_562 (gi_cons dw_793 (gi_cons dw_792 (gi_cons dw_791 gi_nil))))))))))))
set_option maxRecDepth 100000 in
theorem gp_wsX11_next : GoodIn lw_tbl wsX11_next := by unfold wsX11_next; exact (gi_cons dw_1138 (goodIn_app (goodIn_app gp_wsX11_next_o (goodIn_app gp_wsX11_isWave (goodIn_app gp_wsX11_copies gp_wsX11_yearGoes))) gp_wsX110))
set_option maxRecDepth 100000 in
theorem gp_wsX10_year_o : GoodIn lw_tbl wsX10_year_o := by unfold wsX10_year_o; exact (gi_cons dw_50 (gi_cons dw_498 (gi_cons dw_49 (gi_cons dw_684 (gi_cons dw_43 (gi_cons dw_683 (gi_cons dw_1144 (gi_cons dw_494 (gi_cons dw_1143 gi_nil)))))))))
set_option maxRecDepth 100000 in
theorem gp_wsX0_guessThere_o : GoodIn lw_tbl wsX0_guessThere_o := by unfold wsX0_guessThere_o; exact (gi_cons dw_501 (gi_cons dw_504 (gi_cons dw_43 (gi_cons dw_503 gi_nil))))
set_option maxRecDepth 100000 in
theorem gp_wsX0_guessThere : GoodIn lw_tbl wsX0_guessThere := by unfold wsX0_guessThere; exact (gi_cons dw_1145 (goodIn_app (goodIn_app (goodIn_app (goodIn_app gp_wsX0_guessThere_o gp_wsX5_thingThere) gp_wsX00) gp_wsX50) gp_wsX60))
set_option maxRecDepth 100000 in
theorem gp_wsX10_year : GoodIn lw_tbl wsX10_year := by unfold wsX10_year; exact (gi_cons dw_1142 (goodIn_app (goodIn_app (goodIn_app (goodIn_app (goodIn_app gp_wsX10_year_o (goodIn_app gp_wsX5_hasGuess gp_wsX0_guessThere)) gp_wsX100) gp_wsX50) gp_wsX00) gp_wsX60))
set_option maxRecDepth 100000 in
theorem gp_wsX11_year_o : GoodIn lw_tbl wsX11_year_o := by unfold wsX11_year_o; exact (gi_cons dw_472 (gi_cons dw_722 (gi_cons dw_721 (gi_cons dw_720 (gi_cons dw_16 (gi_cons dw_570 (gi_cons dw_569 (gi_cons dw_564 (gi_cons dw_563 (gi_cons dw_562 (gi_cons dw_719 (gi_cons dw_718 (gi_cons dw_717 gi_nil)))))))))))))
set_option maxRecDepth 100000 in
theorem gp_wsX11_year : GoodIn lw_tbl wsX11_year := by unfold wsX11_year; exact (gi_cons dw_1149 (goodIn_app (goodIn_app gp_wsX11_year_o (goodIn_app gp_wsX11_isGuess (goodIn_app gp_wsX11_in (goodIn_app gp_wsX11_copies gp_wsX11_thereNumber)))) gp_wsX110))
set_option maxRecDepth 100000 in
theorem gp_wsX10_drawn_o : GoodIn lw_tbl wsX10_drawn_o := by unfold wsX10_drawn_o; exact (gi_cons dw_50 (gi_cons dw_49 (gi_cons dw_497 (gi_cons dw_43 (gi_cons dw_496 (gi_cons dw_504 (gi_cons dw_503 (gi_cons dw_11 (gi_cons dw_1094 (gi_cons dw_527 (gi_cons dw_526 gi_nil)))))))))))
set_option maxRecDepth 100000 in
theorem gp_wsX10_drawn : GoodIn lw_tbl wsX10_drawn := by unfold wsX10_drawn; exact (gi_cons dw_1153 (goodIn_app (goodIn_app (goodIn_app (goodIn_app gp_wsX10_drawn_o (goodIn_app gp_wsX5_hasWave (goodIn_app gp_wsX5_thingThere gp_wsJ6_bitCount_0f7a4))) gp_wsX100) gp_wsX60) gp_wsX50))
set_option maxRecDepth 100000 in
theorem gp_wsX11_drawn_o : GoodIn lw_tbl wsX11_drawn_o := by unfold wsX11_drawn_o; exact (gi_cons dw_472 (gi_cons dw_567 (gi_cons dw_566 (gi_cons dw_565 (gi_cons dw_16 (gi_cons dw_570 (gi_cons dw_569 (gi_cons dw_564 (gi_cons dw_563 (gi_cons dw_562 (gi_cons dw_558 (gi_cons dw_557 (gi_cons dw_556 (gi_cons dw_603 (gi_cons dw_602 gi_nil)))))))))))))))
set_option maxRecDepth 100000 in
theorem gp_wsX11_drawn : GoodIn lw_tbl wsX11_drawn := by unfold wsX11_drawn; exact (gi_cons dw_1157 (goodIn_app (goodIn_app gp_wsX11_drawn_o (goodIn_app gp_wsX11_isWave (goodIn_app gp_wsX11_in (goodIn_app gp_wsX11_copies (goodIn_app gp_wsX11_thereAt gp_wsX11_bits))))) gp_wsX110))
set_option maxRecDepth 100000 in
theorem gp_wsX10_tell_o : GoodIn lw_tbl wsX10_tell_o := by unfold wsX10_tell_o; exact (gi_cons dw_50 (gi_cons dw_47 (gi_cons dw_497 (gi_cons dw_43 (gi_cons dw_496 (gi_cons dw_1164 (gi_cons dw_1163 (gi_cons dw_1162 gi_nil))))))))
set_option maxRecDepth 100000 in
theorem gp_wsX8_add : GoodIn lw_tbl wsX8_add := by unfold wsX8_add; exact (gi_cons dw_1165 (goodIn_app (gi_cons dw_1168 (gi_cons dw_1167 (gi_cons dw_1166 gi_nil))) gp_wsX80))
set_option maxRecDepth 100000 in
theorem gp_wsX10_tell : GoodIn lw_tbl wsX10_tell := by unfold wsX10_tell; exact (gi_cons dw_1161 (goodIn_app (goodIn_app (goodIn_app (goodIn_app gp_wsX10_tell_o (goodIn_app gp_wsX5_hasWave gp_wsX8_add)) gp_wsX100) gp_wsX50) gp_wsX80))
set_option maxRecDepth 100000 in
theorem gp_wsX11_tell_o : GoodIn lw_tbl wsX11_tell_o := by unfold wsX11_tell_o; exact (gi_cons dw_350 (gi_cons dw_1175 (gi_cons dw_1174 (gi_cons dw_1173 (gi_cons dw_567 (gi_cons dw_566 (gi_cons dw_565 (gi_cons dw_16 (gi_cons dw_570 (gi_cons dw_569 gi_nil))))))))))
set_option maxRecDepth 100000 in
theorem gp_wsX11_tell : GoodIn lw_tbl wsX11_tell := by unfold wsX11_tell; exact (gi_cons dw_1172 (goodIn_app (goodIn_app gp_wsX11_tell_o (goodIn_app gp_wsX11_isWave gp_wsX11_in)) gp_wsX110))
set_option maxRecDepth 100000 in
theorem gp_wsX10_forget : GoodIn lw_tbl wsX10_forget := by unfold wsX10_forget; exact (gi_cons dw_1179 (goodIn_app (goodIn_app (gi_cons dw_47 gi_nil) gp_wsX100) gp_wsX80))
set_option maxRecDepth 100000 in
theorem gp_wsX11_forget : GoodIn lw_tbl wsX11_forget := by unfold wsX11_forget; exact (gi_cons dw_1183 (goodIn_app (gi_cons dw_350 gi_nil) gp_wsX110))
set_option maxRecDepth 100000 in
theorem gp_wsX10_fit_o : GoodIn lw_tbl wsX10_fit_o := by unfold wsX10_fit_o; exact (gi_cons dw_47 (gi_cons dw_49 (gi_cons dw_1193 (gi_cons dw_1163 (gi_cons dw_1192 (gi_cons dw_1191 (gi_cons dw_1190 (gi_cons dw_1189 (gi_cons dw_1188 gi_nil)))))))))
set_option maxRecDepth 100000 in
theorem gp_wsX8_areSuch : GoodIn lw_tbl wsX8_areSuch := by unfold wsX8_areSuch; exact (gi_cons dw_1194 (goodIn_app (gi_cons dw_1168 gi_nil) gp_wsX80))
set_option maxRecDepth 100000 in
theorem gp_wsX8_believe_o : GoodIn lw_tbl wsX8_believe_o := by unfold wsX8_believe_o; exact (gi_cons dw_1202 (gi_cons dw_1201 (gi_cons dw_1200 (gi_cons dw_1199 (gi_cons dw_495 (gi_cons dw_494 (gi_cons dw_493 (gi_cons dw_752 (gi_cons dw_11 (gi_cons dw_295 (gi_cons dw_43 (gi_cons dw_294 (gi_cons dw_1198 (gi_cons dw_1197 (gi_cons dw_1196 (gi_cons dw_1163 gi_nil))))))))))))))))
set_option maxRecDepth 100000 in
theorem gp_wsX8_beliedBy_o : GoodIn lw_tbl wsX8_beliedBy_o := by unfold wsX8_beliedBy_o; exact (gi_cons dw_1167 (gi_cons dw_1166 (gi_cons dw_752 (gi_cons dw_11 gi_nil))))
set_option maxRecDepth 100000 in
theorem gp_wsX8_beliedBy : GoodIn lw_tbl wsX8_beliedBy := by unfold wsX8_beliedBy; exact (gi_cons dw_1203 (goodIn_app (goodIn_app gp_wsX8_beliedBy_o gp_wsX10_has) gp_wsX80))
set_option maxRecDepth 100000 in
theorem gp_wsX8_believe : GoodIn lw_tbl wsX8_believe := by unfold wsX8_believe; exact (gi_cons dw_1195 (goodIn_app (goodIn_app (goodIn_app (goodIn_app (goodIn_app gp_wsX8_believe_o (goodIn_app gp_wsX0_mayBe (goodIn_app gp_wsX10_has (goodIn_app gp_wsX5_oddsAt gp_wsX8_beliedBy)))) gp_wsX80) gp_wsX50) gp_wsX60) gp_wsX00))
set_option maxRecDepth 100000 in
theorem gp_wsX8_fitting_o : GoodIn lw_tbl wsX8_fitting_o := by unfold wsX8_fitting_o; exact (gi_cons dw_1210 (gi_cons dw_1209 (gi_cons dw_1208 (gi_cons dw_1163 (gi_cons dw_1207 (gi_cons dw_1206 (gi_cons dw_1205 gi_nil)))))))
set_option maxRecDepth 100000 in
theorem gp_wsX8_sortByLies_o : GoodIn lw_tbl wsX8_sortByLies_o := by unfold wsX8_sortByLies_o; exact (gi_cons dw_1216 (gi_cons dw_1202 (gi_cons dw_1215 (gi_cons dw_314 (gi_cons dw_313 (gi_cons dw_1214 (gi_cons dw_1213 (gi_cons dw_1212 (gi_cons dw_1163 gi_nil)))))))))
set_option maxRecDepth 100000 in
theorem gp_wsX8_withWave : GoodIn lw_tbl wsX8_withWave := by unfold wsX8_withWave; exact (gi_cons dw_1217 (goodIn_app (gi_cons dw_1200 (gi_cons dw_1199 (gi_cons dw_1216 gi_nil))) gp_wsX80))
set_option maxRecDepth 100000 in
theorem gp_wsX8_sortByLies : GoodIn lw_tbl wsX8_sortByLies := by unfold wsX8_sortByLies; exact (gi_cons dw_1211 (goodIn_app (goodIn_app (goodIn_app gp_wsX8_sortByLies_o (goodIn_app gp_wsJ7_fill_53178 gp_wsX8_withWave)) gp_wsX80) gp_wsX50))
set_option maxRecDepth 100000 in
theorem gp_wsX8_upTo : GoodIn lw_tbl wsX8_upTo := by unfold wsX8_upTo; exact (gi_cons dw_1218 (goodIn_app (gi_cons dw_1216 gi_nil) gp_wsX80))
set_option maxRecDepth 100000 in
theorem gp_wsX8_fitting : GoodIn lw_tbl wsX8_fitting := by unfold wsX8_fitting; exact (gi_cons dw_1204 (goodIn_app (goodIn_app (goodIn_app gp_wsX8_fitting_o (goodIn_app gp_wsX8_sortByLies gp_wsX8_upTo)) gp_wsX80) gp_wsX50))
set_option maxRecDepth 100000 in
theorem gp_wsX10_fit : GoodIn lw_tbl wsX10_fit := by unfold wsX10_fit; exact (gi_cons dw_1187 (goodIn_app (goodIn_app (goodIn_app (goodIn_app (goodIn_app (goodIn_app gp_wsX10_fit_o (goodIn_app gp_wsX8_areSuch (goodIn_app gp_wsX8_believe gp_wsX8_fitting))) gp_wsX100) gp_wsX80) gp_wsX50) gp_wsX60) gp_wsX00))
set_option maxRecDepth 100000 in
theorem gp_wsX11_fit_o : GoodIn lw_tbl wsX11_fit_o := by unfold wsX11_fit_o; exact (gi_cons dw_986 (gi_cons dw_1228 (gi_cons dw_1227 (gi_cons dw_1226 (gi_cons dw_16 (gi_cons dw_570 (gi_cons dw_569 (gi_cons dw_984 (gi_cons dw_983 (gi_cons dw_982 (gi_cons dw_730 (gi_cons dw_729 (gi_cons dw_728 (gi_cons dw_1225 (gi_cons dw_1224 (gi_cons dw_1223 gi_nil))))))))))))))))
set_option maxRecDepth 100000 in
theorem gp_wsX11_isAsked_o : GoodIn lw_tbl wsX11_isAsked_o := by unfold wsX11_isAsked_o; exact (gi_cons dw_350 (gi_cons dw_570 (gi_cons dw_569 (gi_cons dw_16 gi_nil))))
set_option maxRecDepth 100000 in
theorem gp_wsX11_isAsked : GoodIn lw_tbl wsX11_isAsked := by unfold wsX11_isAsked; exact (gi_cons dw_1229 (goodIn_app (goodIn_app gp_wsX11_isAsked_o gp_wsX11_in) gp_wsX110))
set_option maxRecDepth 100000 in
theorem gp_wsX11_doesFit_o : GoodIn lw_tbl wsX11_doesFit_o := by unfold wsX11_doesFit_o; exact (gi_cons dw_986 (gi_cons dw_1233 (gi_cons dw_1232 (gi_cons dw_1231 (gi_cons dw_16 gi_nil)))))
set_option maxRecDepth 100000 in
theorem gp_wsX11_isSo_o : GoodIn lw_tbl wsX11_isSo_o := by unfold wsX11_isSo_o; exact (gi_cons dw_1174 (gi_cons dw_1175 (gi_cons dw_1173 (gi_cons dw_736 (gi_cons dw_735 (gi_cons dw_734 (gi_cons dw_16 gi_nil)))))))
set_option maxRecDepth 100000 in
theorem gp_wsX11_isSo : GoodIn lw_tbl wsX11_isSo := by unfold wsX11_isSo; exact (gi_cons dw_1234 (goodIn_app (goodIn_app gp_wsX11_isSo_o gp_wsX11_thingAt) gp_wsX110))
set_option maxRecDepth 100000 in
theorem gp_wsX11_doesFit : GoodIn lw_tbl wsX11_doesFit := by unfold wsX11_doesFit; exact (gi_cons dw_1230 (goodIn_app (goodIn_app gp_wsX11_doesFit_o gp_wsX11_isSo) gp_wsX110))
set_option maxRecDepth 100000 in
theorem gp_wsX11_fit : GoodIn lw_tbl wsX11_fit := by unfold wsX11_fit; exact (gi_cons dw_1222 (goodIn_app (goodIn_app gp_wsX11_fit_o (goodIn_app gp_wsX11_isAsked (goodIn_app gp_wsX11_in (goodIn_app gp_wsX11_fillsChances (goodIn_app gp_wsX11_guesses gp_wsX11_doesFit))))) gp_wsX110))
set_option maxRecDepth 100000 in
theorem gp_wsX10_lie_o : GoodIn lw_tbl wsX10_lie_o := by unfold wsX10_lie_o; exact (gi_cons dw_47 (gi_cons dw_49 (gi_cons dw_1193 (gi_cons dw_1163 (gi_cons dw_1192 (gi_cons dw_1191 (gi_cons dw_1190 (gi_cons dw_1240 (gi_cons dw_1239 gi_nil)))))))))
set_option maxRecDepth 100000 in
theorem gp_wsX8_liars_o : GoodIn lw_tbl wsX8_liars_o := by unfold wsX8_liars_o; exact (gi_cons dw_1202 (gi_cons dw_1167 (gi_cons dw_1166 (gi_cons dw_1210 (gi_cons dw_1209 (gi_cons dw_1208 (gi_cons dw_1163 (gi_cons dw_1244 (gi_cons dw_1243 (gi_cons dw_1242 gi_nil))))))))))
set_option maxRecDepth 100000 in
theorem gp_wsX8_fittingWith_o : GoodIn lw_tbl wsX8_fittingWith_o := by unfold wsX8_fittingWith_o; exact (gi_cons dw_1200 (gi_cons dw_1199 (gi_cons dw_1207 (gi_cons dw_1206 (gi_cons dw_1205 (gi_cons dw_1163 gi_nil))))))
set_option maxRecDepth 100000 in
theorem gp_wsX8_fittingWith : GoodIn lw_tbl wsX8_fittingWith := by unfold wsX8_fittingWith; exact (gi_cons dw_1245 (goodIn_app (goodIn_app gp_wsX8_fittingWith_o gp_wsX8_upTo) gp_wsX80))
set_option maxRecDepth 100000 in
theorem gp_wsX8_liars : GoodIn lw_tbl wsX8_liars := by unfold wsX8_liars; exact (gi_cons dw_1241 (goodIn_app (goodIn_app (goodIn_app gp_wsX8_liars_o (goodIn_app gp_wsX8_sortByLies gp_wsX8_fittingWith)) gp_wsX80) gp_wsX50))
set_option maxRecDepth 100000 in
theorem gp_wsX10_lie : GoodIn lw_tbl wsX10_lie := by unfold wsX10_lie; exact (gi_cons dw_1238 (goodIn_app (goodIn_app (goodIn_app (goodIn_app (goodIn_app (goodIn_app gp_wsX10_lie_o (goodIn_app gp_wsX8_areSuch (goodIn_app gp_wsX8_believe gp_wsX8_liars))) gp_wsX100) gp_wsX80) gp_wsX50) gp_wsX60) gp_wsX00))
set_option maxRecDepth 100000 in
theorem gp_wsX11_lie_o : GoodIn lw_tbl wsX11_lie_o := by unfold wsX11_lie_o; exact (gi_cons dw_1228 (gi_cons dw_1227 (gi_cons dw_1226 (gi_cons dw_16 (gi_cons dw_984 (gi_cons dw_983 (gi_cons dw_982 (gi_cons dw_730 (gi_cons dw_729 (gi_cons dw_728 (gi_cons dw_1225 (gi_cons dw_1224 (gi_cons dw_1223 (gi_cons dw_1233 (gi_cons dw_1232 (gi_cons dw_1231 gi_nil))))))))))))))))
set_option maxRecDepth 100000 in
theorem gp_wsX11_lie : GoodIn lw_tbl wsX11_lie := by unfold wsX11_lie; exact (gi_cons dw_1249 (goodIn_app (goodIn_app gp_wsX11_lie_o (goodIn_app gp_wsX11_isAsked (goodIn_app gp_wsX11_fillsChances (goodIn_app gp_wsX11_guesses (goodIn_app gp_wsX11_doesFit gp_wsX11_isSo))))) gp_wsX110))
set_option maxRecDepth 100000 in
theorem gp_wsX10_ask_o : GoodIn lw_tbl wsX10_ask_o := by unfold wsX10_ask_o; exact (gi_cons dw_47 (gi_cons dw_49 (gi_cons dw_1193 (gi_cons dw_1163 (gi_cons dw_1192 (gi_cons dw_1191 (gi_cons dw_1190 (gi_cons dw_1255 (gi_cons dw_1254 gi_nil)))))))))
set_option maxRecDepth 100000 in
theorem gp_wsX8_waveToAsk_o : GoodIn lw_tbl wsX8_waveToAsk_o := by unfold wsX8_waveToAsk_o; exact (gi_cons dw_1202 (gi_cons dw_1257 (gi_cons dw_192 (gi_cons dw_133 (gi_cons dw_191 (gi_cons dw_1210 (gi_cons dw_1209 (gi_cons dw_1208 (gi_cons dw_1163 (gi_cons dw_1244 (gi_cons dw_1243 (gi_cons dw_1242 gi_nil))))))))))))
set_option maxRecDepth 100000 in
theorem gp_wsX8_waveToAsk : GoodIn lw_tbl wsX8_waveToAsk := by unfold wsX8_waveToAsk; exact (gi_cons dw_1256 (goodIn_app (goodIn_app (goodIn_app gp_wsX8_waveToAsk_o (goodIn_app gp_wsX8_sortByLies gp_wsX8_fittingWith)) gp_wsX80) gp_wsX50))
set_option maxRecDepth 100000 in
theorem gp_wsX10_ask : GoodIn lw_tbl wsX10_ask := by unfold wsX10_ask; exact (gi_cons dw_1253 (goodIn_app (goodIn_app (goodIn_app (goodIn_app (goodIn_app (goodIn_app gp_wsX10_ask_o (goodIn_app gp_wsX8_areSuch (goodIn_app gp_wsX8_believe gp_wsX8_waveToAsk))) gp_wsX100) gp_wsX80) gp_wsX50) gp_wsX60) gp_wsX00))
set_option maxRecDepth 100000 in
theorem gp_wsX11_ask_o : GoodIn lw_tbl wsX11_ask_o := by unfold wsX11_ask_o; exact (gi_cons dw_1265 (gi_cons dw_399 (gi_cons dw_358 (gi_cons dw_1228 (gi_cons dw_1227 (gi_cons dw_1226 (gi_cons dw_16 (gi_cons dw_984 (gi_cons dw_983 (gi_cons dw_982 (gi_cons dw_730 (gi_cons dw_729 (gi_cons dw_728 (gi_cons dw_736 (gi_cons dw_735 (gi_cons dw_734 (gi_cons dw_1225 (gi_cons dw_1224 (gi_cons dw_1223 (gi_cons dw_1264 (gi_cons dw_1263 (gi_cons dw_1262 gi_nil))))))))))))))))))))))
set_option maxRecDepth 100000 in
theorem gp_wsX11_worstAt : GoodIn lw_tbl wsX11_worstAt := by unfold wsX11_worstAt; exact (gi_cons dw_1266 (goodIn_app (gi_cons dw_1265 gi_nil) gp_wsX110))
set_option maxRecDepth 100000 in
theorem gp_wsX11_ask : GoodIn lw_tbl wsX11_ask := by unfold wsX11_ask; exact (gi_cons dw_1261 (goodIn_app (goodIn_app gp_wsX11_ask_o (goodIn_app gp_wsX11_isAsked (goodIn_app gp_wsX11_fillsChances (goodIn_app gp_wsX11_guesses (goodIn_app gp_wsX11_doesFit (goodIn_app gp_wsX11_thingAt gp_wsX11_worstAt)))))) gp_wsX110))
set_option maxRecDepth 100000 in
theorem gp_wsX10_hold_o : GoodIn lw_tbl wsX10_hold_o := by unfold wsX10_hold_o; exact (gi_cons dw_48 (gi_cons dw_49 (gi_cons dw_1272 (gi_cons dw_36 (gi_cons dw_1271 gi_nil)))))
set_option maxRecDepth 100000 in
theorem gp_wsX3_keepIn_o : GoodIn lw_tbl wsX3_keepIn_o := by unfold wsX3_keepIn_o; exact (gi_cons dw_1274 (gi_cons dw_325 (gi_cons dw_692 (gi_cons dw_39 (gi_cons dw_691 gi_nil)))))
set_option maxRecDepth 100000 in
theorem gp_wsX3_keepIn : GoodIn lw_tbl wsX3_keepIn := by unfold wsX3_keepIn; exact (gi_cons dw_1273 (goodIn_app (goodIn_app (goodIn_app gp_wsX3_keepIn_o gp_wsX6_copyFrom) gp_wsX30) gp_wsX60))
set_option maxRecDepth 100000 in
theorem gp_wsX10_hold : GoodIn lw_tbl wsX10_hold := by unfold wsX10_hold; exact (gi_cons dw_1270 (goodIn_app (goodIn_app (goodIn_app (goodIn_app gp_wsX10_hold_o gp_wsX3_keepIn) gp_wsX100) gp_wsX30) gp_wsX60))
set_option maxRecDepth 100000 in
theorem gp_wsX11_hold_o : GoodIn lw_tbl wsX11_hold_o := by unfold wsX11_hold_o; exact (gi_cons dw_349 (gi_cons dw_1279 (gi_cons dw_476 (gi_cons dw_570 (gi_cons dw_569 (gi_cons dw_16 gi_nil))))))
set_option maxRecDepth 100000 in
theorem gp_wsX11_hold : GoodIn lw_tbl wsX11_hold := by unfold wsX11_hold; exact (gi_cons dw_1278 (goodIn_app (goodIn_app gp_wsX11_hold_o gp_wsX11_in) gp_wsX110))
set_option maxRecDepth 100000 in
theorem gp_wsX10_restore_o : GoodIn lw_tbl wsX10_restore_o := by unfold wsX10_restore_o; exact (gi_cons dw_48 (gi_cons dw_49 (gi_cons dw_1285 (gi_cons dw_36 (gi_cons dw_1284 gi_nil)))))
set_option maxRecDepth 100000 in
theorem gp_wsX3_goOnFrom_o : GoodIn lw_tbl wsX3_goOnFrom_o := by unfold wsX3_goOnFrom_o; exact (gi_cons dw_325 (gi_cons dw_1274 (gi_cons dw_326 (gi_cons dw_692 (gi_cons dw_39 (gi_cons dw_691 gi_nil))))))
set_option maxRecDepth 100000 in
theorem gp_wsX3_goOnFrom : GoodIn lw_tbl wsX3_goOnFrom := by unfold wsX3_goOnFrom; exact (gi_cons dw_1286 (goodIn_app (goodIn_app (goodIn_app gp_wsX3_goOnFrom_o gp_wsX6_copyFrom) gp_wsX30) gp_wsX60))
set_option maxRecDepth 100000 in
theorem gp_wsX10_restore : GoodIn lw_tbl wsX10_restore := by unfold wsX10_restore; exact (gi_cons dw_1283 (goodIn_app (goodIn_app (goodIn_app (goodIn_app gp_wsX10_restore_o gp_wsX3_goOnFrom) gp_wsX100) gp_wsX30) gp_wsX60))
set_option maxRecDepth 100000 in
theorem gp_wsX11_restore_o : GoodIn lw_tbl wsX11_restore_o := by unfold wsX11_restore_o; exact (gi_cons dw_349 (gi_cons dw_476 (gi_cons dw_1279 (gi_cons dw_351 (gi_cons dw_570 (gi_cons dw_569 (gi_cons dw_16 gi_nil)))))))
set_option maxRecDepth 100000 in
theorem gp_wsX11_restore : GoodIn lw_tbl wsX11_restore := by unfold wsX11_restore; exact (gi_cons dw_1290 (goodIn_app (goodIn_app gp_wsX11_restore_o gp_wsX11_in) gp_wsX110))
set_option maxRecDepth 100000 in
theorem gp_wsX10_count_o : GoodIn lw_tbl wsX10_count_o := by unfold wsX10_count_o; exact (gi_cons dw_50 (gi_cons dw_49 (gi_cons dw_6 (gi_cons dw_48 (gi_cons dw_47 (gi_cons dw_498 (gi_cons dw_1097 (gi_cons dw_1096 (gi_cons dw_1095 (gi_cons dw_11 (gi_cons dw_1310 (gi_cons dw_1309 (gi_cons dw_1308 (gi_cons dw_36 (gi_cons dw_1307 (gi_cons dw_1306 (gi_cons dw_1305 (gi_cons dw_1304 (gi_cons dw_526 (gi_cons dw_1303 (gi_cons dw_1302 (gi_cons dw_1301 (gi_cons dw_1144 (gi_cons dw_494 (gi_cons dw_1143 (gi_cons dw_43 (gi_cons dw_1300 (gi_cons dw_1299 (gi_cons dw_1298 (gi_cons dw_1297 (gi_cons dw_1296 (gi_cons dw_1295 (gi_cons dw_313 (gi_cons dw_75 (gi_cons dw_133 gi_nil)))))))))))))))))))))))))))))))))))
set_option maxRecDepth 100000 in
theorem gp_wsX10_sumOf : GoodIn lw_tbl wsX10_sumOf := by unfold wsX10_sumOf; exact (gi_cons dw_1311 gi_nil)
set_option maxRecDepth 100000 in
theorem gp_wsX3_slotsHeld : GoodIn lw_tbl wsX3_slotsHeld := by unfold wsX3_slotsHeld; exact (gi_cons dw_1312 (goodIn_app (gi_cons dw_325 gi_nil) gp_wsX30))
set_option maxRecDepth 100000 in
theorem gp_wsX10_buoysLying_o : GoodIn lw_tbl wsX10_buoysLying_o := by unfold wsX10_buoysLying_o; exact (gi_cons dw_50 (gi_cons dw_49 (gi_cons dw_1094 (gi_cons dw_527 (gi_cons dw_526 gi_nil)))))
set_option maxRecDepth 100000 in
theorem gp_wsX10_buoysLying : GoodIn lw_tbl wsX10_buoysLying := by unfold wsX10_buoysLying; exact (gi_cons dw_1313 (goodIn_app (goodIn_app (goodIn_app (goodIn_app gp_wsX10_buoysLying_o gp_wsJ6_bitCount_0f7a4) gp_wsX100) gp_wsX50) gp_wsX60))
set_option maxRecDepth 100000 in
theorem gp_wsX10_wavesFound : GoodIn lw_tbl wsX10_wavesFound := by unfold wsX10_wavesFound; exact (gi_cons dw_1314 (goodIn_app (goodIn_app (goodIn_app (gi_cons dw_50 (gi_cons dw_49 gi_nil)) gp_wsX100) gp_wsX50) gp_wsX60))
set_option maxRecDepth 100000 in
theorem gp_wsX10_wavesWithNothing_o : GoodIn lw_tbl wsX10_wavesWithNothing_o := by unfold wsX10_wavesWithNothing_o; exact (gi_cons dw_50 (gi_cons dw_498 (gi_cons dw_49 (gi_cons dw_495 (gi_cons dw_494 (gi_cons dw_493 gi_nil))))))
set_option maxRecDepth 100000 in
theorem gp_wsX10_wavesWithNothing : GoodIn lw_tbl wsX10_wavesWithNothing := by unfold wsX10_wavesWithNothing; exact (gi_cons dw_1315 (goodIn_app (goodIn_app (goodIn_app (goodIn_app (goodIn_app gp_wsX10_wavesWithNothing_o gp_wsX0_mayBe) gp_wsX100) gp_wsX50) gp_wsX60) gp_wsX00))
set_option maxRecDepth 100000 in
theorem gp_wsX10_faresOfAllHere_o : GoodIn lw_tbl wsX10_faresOfAllHere_o := by unfold wsX10_faresOfAllHere_o; exact (gi_cons dw_50 (gi_cons dw_49 (gi_cons dw_498 (gi_cons dw_634 (gi_cons dw_494 (gi_cons dw_633 gi_nil))))))
set_option maxRecDepth 100000 in
theorem gp_wsX10_faresOfAllHere : GoodIn lw_tbl wsX10_faresOfAllHere := by unfold wsX10_faresOfAllHere; exact (gi_cons dw_1316 (goodIn_app (goodIn_app (goodIn_app (goodIn_app (goodIn_app (goodIn_app gp_wsX10_faresOfAllHere_o gp_wsX0_fareOf) gp_wsX100) gp_wsX50) gp_wsX60) gp_wsX00) gp_wsX10))
set_option maxRecDepth 100000 in
theorem gp_wsX10_count : GoodIn lw_tbl wsX10_count := by unfold wsX10_count; exact (gi_cons dw_1294 (goodIn_app (goodIn_app (goodIn_app (goodIn_app (goodIn_app (goodIn_app (goodIn_app (goodIn_app (goodIn_app gp_wsX10_count_o (goodIn_app gp_wsX10_partiesThatAre (goodIn_app gp_wsX10_sumOf (goodIn_app gp_wsX3_slotsHeld (goodIn_app gp_wsX10_buoysLying (goodIn_app gp_wsX10_wavesFound (goodIn_app gp_wsX0_guessThere (goodIn_app gp_wsX10_wavesWithNothing gp_wsX10_faresOfAllHere)))))))) gp_wsX100) gp_wsX50) gp_wsX60) gp_wsX70) gp_wsX30) gp_wsX80) gp_wsX00) gp_wsX10))
set_option maxRecDepth 100000 in
theorem gp_wsX11_count_o : GoodIn lw_tbl wsX11_count_o := by unfold wsX11_count_o; exact (gi_cons dw_399 (gi_cons dw_358 (gi_cons dw_398 (gi_cons dw_474 (gi_cons dw_20 (gi_cons dw_351 (gi_cons dw_350 (gi_cons dw_349 (gi_cons dw_564 (gi_cons dw_563 (gi_cons dw_562 (gi_cons dw_16 (gi_cons dw_1326 (gi_cons dw_1325 (gi_cons dw_1324 (gi_cons dw_1323 (gi_cons dw_1322 (gi_cons dw_1321 (gi_cons dw_603 (gi_cons dw_602 (gi_cons dw_730 (gi_cons dw_729 (gi_cons dw_728 (gi_cons dw_719 (gi_cons dw_718 (gi_cons dw_717 (gi_cons dw_561 (gi_cons dw_560 (gi_cons dw_559 (gi_cons dw_725 (gi_cons dw_724 (gi_cons dw_723 (gi_cons dw_653 (gi_cons dw_652 (gi_cons dw_651 gi_nil)))))))))))))))))))))))))))))))))))
set_option maxRecDepth 100000 in
theorem gp_wsX11_partiesIn : GoodIn lw_tbl wsX11_partiesIn := by unfold wsX11_partiesIn; exact (gi_cons dw_1327 (goodIn_app (gi_cons dw_398 (gi_cons dw_358 (gi_cons dw_474 gi_nil))) gp_wsX110))
set_option maxRecDepth 100000 in
theorem gp_wsX11_sumNow : GoodIn lw_tbl wsX11_sumNow := by unfold wsX11_sumNow; exact (gi_cons dw_1328 (goodIn_app (gi_cons dw_476 gi_nil) gp_wsX110))
set_option maxRecDepth 100000 in
theorem gp_wsX11_count : GoodIn lw_tbl wsX11_count := by unfold wsX11_count; exact (gi_cons dw_1320 (goodIn_app (goodIn_app gp_wsX11_count_o (goodIn_app gp_wsX11_copies (goodIn_app gp_wsX11_partiesIn (goodIn_app gp_wsX11_sumNow (goodIn_app gp_wsX11_bits (goodIn_app gp_wsX11_guesses (goodIn_app gp_wsX11_thereNumber (goodIn_app gp_wsX11_mayAt (goodIn_app gp_wsX11_isHere gp_wsX11_faresOf))))))))) gp_wsX110))
set_option maxRecDepth 100000 in
theorem gp_wsX10_init_o : GoodIn lw_tbl wsX10_init_o := by unfold wsX10_init_o; exact (gi_cons dw_1353 (gi_cons dw_1352 (gi_cons dw_1351 (gi_cons dw_4 (gi_cons dw_6 (gi_cons dw_1350 (gi_cons dw_50 (gi_cons dw_1349 (gi_cons dw_1348 (gi_cons dw_45 (gi_cons dw_51 (gi_cons dw_1347 (gi_cons dw_49 (gi_cons dw_1021 (gi_cons dw_1346 (gi_cons dw_1345 (gi_cons dw_36 (gi_cons dw_48 (gi_cons dw_1344 (gi_cons dw_1343 (gi_cons dw_494 (gi_cons dw_498 (gi_cons dw_1342 (gi_cons dw_1341 (gi_cons dw_813 (gi_cons dw_815 (gi_cons dw_1340 (gi_cons dw_1339 (gi_cons dw_1163 (gi_cons dw_47 (gi_cons dw_1338 (gi_cons dw_1337 (gi_cons dw_1336 (gi_cons dw_1335 (gi_cons dw_1334 (gi_cons dw_1333 (gi_cons dw_40 (gi_cons dw_38 gi_nil))))))))))))))))))))))))))))))))))))))
set_option maxRecDepth 100000 in
theorem gp_wsX7_init : GoodIn lw_tbl wsX7_init := by unfold wsX7_init; exact (gi_cons dw_1354 (goodIn_app (gi_cons dw_1358 (gi_cons dw_1357 (gi_cons dw_1356 (gi_cons dw_1355 (gi_cons dw_9 gi_nil))))) gp_wsX70))
set_option maxRecDepth 100000 in
theorem gp_wsX5_init_o : GoodIn lw_tbl wsX5_init_o := by unfold wsX5_init_o; exact (gi_cons dw_1364 (gi_cons dw_300 (gi_cons dw_298 (gi_cons dw_297 (gi_cons dw_305 (gi_cons dw_304 (gi_cons dw_1363 (gi_cons dw_1362 (gi_cons dw_1361 (gi_cons dw_1360 (gi_cons dw_65 (gi_cons dw_64 (gi_cons dw_43 gi_nil)))))))))))))
set_option maxRecDepth 100000 in
theorem gp_wsX1_init : GoodIn lw_tbl wsX1_init := by unfold wsX1_init; exact (gi_cons dw_1365 (goodIn_app (gi_cons dw_1367 (gi_cons dw_1357 (gi_cons dw_1356 (gi_cons dw_1366 (gi_cons dw_105 (gi_cons dw_107 (gi_cons dw_98 (gi_cons dw_97 (gi_cons dw_543 (gi_cons dw_544 gi_nil)))))))))) gp_wsX10))
set_option maxRecDepth 100000 in
theorem gp_wsX5_init : GoodIn lw_tbl wsX5_init := by unfold wsX5_init; exact (gi_cons dw_1359 (goodIn_app (goodIn_app (goodIn_app gp_wsX5_init_o (goodIn_app gp_wsX1_init gp_wsX5_clear)) gp_wsX50) gp_wsX10))
set_option maxRecDepth 100000 in
theorem gp_wsX4_init_o : GoodIn lw_tbl wsX4_init_o := by unfold wsX4_init_o; exact (gi_cons dw_1375 (gi_cons dw_1374 (gi_cons dw_1373 (gi_cons dw_72 (gi_cons dw_271 (gi_cons dw_69 (gi_cons dw_1372 (gi_cons dw_1371 (gi_cons dw_66 (gi_cons dw_1370 (gi_cons dw_1369 gi_nil)))))))))))
set_option maxRecDepth 100000 in
theorem gp_wsX9_init_o : GoodIn lw_tbl wsX9_init_o := by unfold wsX9_init_o; exact (gi_cons dw_1382 (gi_cons dw_1357 (gi_cons dw_1356 (gi_cons dw_1381 (gi_cons dw_153 (gi_cons dw_1366 (gi_cons dw_118 (gi_cons dw_119 (gi_cons dw_117 (gi_cons dw_126 (gi_cons dw_1380 (gi_cons dw_169 (gi_cons dw_168 (gi_cons dw_135 (gi_cons dw_1379 (gi_cons dw_1378 (gi_cons dw_1377 (gi_cons dw_134 (gi_cons dw_131 (gi_cons dw_132 (gi_cons dw_148 (gi_cons dw_147 (gi_cons dw_62 (gi_cons dw_152 (gi_cons dw_151 gi_nil)))))))))))))))))))))))))
set_option maxRecDepth 100000 in
theorem gp_wsJ0_charAt_5068e_o : GoodIn lw_tbl wsJ0_charAt_5068e_o := by unfold wsJ0_charAt_5068e_o; exact (gi_cons dw_174 (gi_cons dw_173 (gi_cons dw_172 (gi_cons dw_171 (gi_cons dw_135 (gi_cons dw_1387 (gi_cons dw_1386 (gi_cons dw_134 (gi_cons dw_131 (gi_cons dw_1385 (gi_cons dw_1384 (gi_cons dw_132 gi_nil))))))))))))
set_option maxRecDepth 100000 in
theorem gp_wsJ1_charAt_3b067_o : GoodIn lw_tbl wsJ1_charAt_3b067_o := by unfold wsJ1_charAt_3b067_o; exact (gi_cons dw_1390 (gi_cons dw_1389 (gi_cons dw_135 (gi_cons dw_131 gi_nil))))
set_option maxRecDepth 100000 in
theorem gp_wsJ0_checkIndex_df160_o : GoodIn lw_tbl wsJ0_checkIndex_df160_o := by unfold wsJ0_checkIndex_df160_o; exact (gi_cons dw_218 (gi_cons dw_1393 (gi_cons dw_1392 (gi_cons dw_131 gi_nil))))
set_option maxRecDepth 100000 in
theorem gp_wsJ3_checkIndex_8e157 : GoodIn lw_tbl wsJ3_checkIndex_8e157 := by unfold wsJ3_checkIndex_8e157; exact (gi_cons dw_1394 gi_nil)
set_option maxRecDepth 100000 in
theorem gp_wsJ0_checkIndex_df160 : GoodIn lw_tbl wsJ0_checkIndex_df160 := by unfold wsJ0_checkIndex_df160; exact (gi_cons dw_1391 (goodIn_app gp_wsJ0_checkIndex_df160_o gp_wsJ3_checkIndex_8e157))
set_option maxRecDepth 100000 in
theorem gp_wsJ1_charAt_3b067 : GoodIn lw_tbl wsJ1_charAt_3b067 := by unfold wsJ1_charAt_3b067; exact (gi_cons dw_1388 (goodIn_app gp_wsJ1_charAt_3b067_o gp_wsJ0_checkIndex_df160))
set_option maxRecDepth 100000 in
theorem gp_wsJ2_charAt_3b067_o : GoodIn lw_tbl wsJ2_charAt_3b067_o := by unfold wsJ2_charAt_3b067_o; exact (gi_cons dw_1397 (gi_cons dw_1396 (gi_cons dw_132 (gi_cons dw_135 (gi_cons dw_131 (gi_cons dw_222 (gi_cons dw_221 gi_nil)))))))
set_option maxRecDepth 100000 in
theorem gp_wsJ2_checkIndex_2214a_o : GoodIn lw_tbl wsJ2_checkIndex_2214a_o := by unfold wsJ2_checkIndex_2214a_o; exact (gi_cons dw_213 (gi_cons dw_212 (gi_cons dw_132 (gi_cons dw_1399 (gi_cons dw_1389 (gi_cons dw_135 (gi_cons dw_131 gi_nil)))))))
set_option maxRecDepth 100000 in
theorem gp_wsJ2_checkIndex_2214a : GoodIn lw_tbl wsJ2_checkIndex_2214a := by unfold wsJ2_checkIndex_2214a; exact (gi_cons dw_1398 (goodIn_app gp_wsJ2_checkIndex_2214a_o (goodIn_app gp_wsJ2_length_9d52b gp_wsJ0_checkIndex_df160)))
set_option maxRecDepth 100000 in
theorem gp_wsJ2_charAt_3b067 : GoodIn lw_tbl wsJ2_charAt_3b067 := by unfold wsJ2_charAt_3b067; exact (gi_cons dw_1395 (goodIn_app gp_wsJ2_charAt_3b067_o (goodIn_app gp_wsJ2_checkIndex_2214a gp_wsJ2_getChar_3b067)))
set_option maxRecDepth 100000 in
theorem gp_wsJ0_charAt_5068e : GoodIn lw_tbl wsJ0_charAt_5068e := by unfold wsJ0_charAt_5068e; exact (gi_cons dw_1383 (goodIn_app gp_wsJ0_charAt_5068e_o (goodIn_app gp_wsJ0_isLatin1_aae02 (goodIn_app gp_wsJ1_charAt_3b067 gp_wsJ2_charAt_3b067))))
set_option maxRecDepth 100000 in
theorem gp_wsX9_init : GoodIn lw_tbl wsX9_init := by unfold wsX9_init; exact (gi_cons dw_1376 (goodIn_app (goodIn_app gp_wsX9_init_o (goodIn_app gp_wsJ0_length_8abf5 (goodIn_app gp_wsJ0_charAt_5068e (goodIn_app gp_wsX9_isLetter gp_wsX9_withLetter)))) gp_wsX90))
set_option maxRecDepth 100000 in
theorem gp_wsX4_init : GoodIn lw_tbl wsX4_init := by unfold wsX4_init; exact (gi_cons dw_1368 (goodIn_app (goodIn_app (goodIn_app (goodIn_app (goodIn_app gp_wsX4_init_o (goodIn_app gp_wsX5_init gp_wsX9_init)) gp_wsX50) gp_wsX40) gp_wsX90) gp_wsX10))
set_option maxRecDepth 100000 in
theorem gp_wsX6_init : GoodIn lw_tbl wsX6_init := by unfold wsX6_init; exact (gi_cons dw_1400 (goodIn_app (gi_cons dw_1401 (gi_cons dw_1357 (gi_cons dw_1356 (gi_cons dw_1366 (gi_cons dw_322 (gi_cons dw_321 (gi_cons dw_320 (gi_cons dw_319 (gi_cons dw_318 gi_nil))))))))) gp_wsX60))
set_option maxRecDepth 100000 in
theorem gp_wsX3_init_o : GoodIn lw_tbl wsX3_init_o := by unfold wsX3_init_o; exact (gi_cons dw_1407 (gi_cons dw_1406 (gi_cons dw_694 (gi_cons dw_1274 (gi_cons dw_1405 (gi_cons dw_325 (gi_cons dw_1404 (gi_cons dw_39 (gi_cons dw_1403 gi_nil)))))))))
set_option maxRecDepth 100000 in
theorem gp_wsX3_init : GoodIn lw_tbl wsX3_init := by unfold wsX3_init; exact (gi_cons dw_1402 (goodIn_app (goodIn_app (goodIn_app gp_wsX3_init_o gp_wsX6_init) gp_wsX30) gp_wsX60))
set_option maxRecDepth 100000 in
theorem gp_wsX0_init : GoodIn lw_tbl wsX0_init := by unfold wsX0_init; exact (gi_cons dw_1408 (goodIn_app (goodIn_app (goodIn_app (gi_cons dw_1409 (gi_cons dw_1357 (gi_cons dw_1356 (gi_cons dw_501 (gi_cons dw_524 gi_nil))))) gp_wsX00) gp_wsX50) gp_wsX10))
set_option maxRecDepth 100000 in
theorem gp_wsX2_init : GoodIn lw_tbl wsX2_init := by unfold wsX2_init; exact (gi_cons dw_1410 (goodIn_app (gi_cons dw_1411 (gi_cons dw_1357 (gi_cons dw_1356 (gi_cons dw_1366 (gi_cons dw_963 (gi_cons dw_964 (gi_cons dw_1000 (gi_cons dw_1001 (gi_cons dw_820 (gi_cons dw_823 gi_nil)))))))))) gp_wsX20))
set_option maxRecDepth 100000 in
theorem gp_wsX8_init : GoodIn lw_tbl wsX8_init := by unfold wsX8_init; exact (gi_cons dw_1412 (goodIn_app (gi_cons dw_1413 (gi_cons dw_1357 (gi_cons dw_1356 (gi_cons dw_1366 (gi_cons dw_1167 (gi_cons dw_1166 (gi_cons dw_1200 (gi_cons dw_1199 (gi_cons dw_1216 (gi_cons dw_1202 (gi_cons dw_1201 gi_nil))))))))))) gp_wsX80))
set_option maxRecDepth 100000 in
theorem gp_wsX10_init : GoodIn lw_tbl wsX10_init := by unfold wsX10_init; exact (gi_cons dw_1332 (goodIn_app (goodIn_app (goodIn_app (goodIn_app (goodIn_app (goodIn_app (goodIn_app (goodIn_app (goodIn_app (goodIn_app (goodIn_app (goodIn_app gp_wsX10_init_o (goodIn_app gp_wsX7_init (goodIn_app gp_wsX5_init (goodIn_app gp_wsX4_init (goodIn_app gp_wsX6_init (goodIn_app gp_wsX3_init (goodIn_app gp_wsX0_init (goodIn_app gp_wsX2_init (goodIn_app gp_wsX8_init gp_wsX6_startOver))))))))) gp_wsX70) gp_wsX100) gp_wsX50) gp_wsX40) gp_wsX60) gp_wsX30) gp_wsX00) gp_wsX20) gp_wsX80) gp_wsX10) gp_wsX90))
set_option maxRecDepth 100000 in
theorem gp_wsX11_init_o : GoodIn lw_tbl wsX11_init_o := by unfold wsX11_init_o; exact (gi_cons dw_1417 (gi_cons dw_1357 (gi_cons dw_1356 (gi_cons dw_1355 (gi_cons dw_22 (gi_cons dw_363 (gi_cons dw_1366 (gi_cons dw_388 (gi_cons dw_387 (gi_cons dw_386 (gi_cons dw_1381 (gi_cons dw_385 (gi_cons dw_381 (gi_cons dw_352 (gi_cons dw_433 (gi_cons dw_440 (gi_cons dw_439 (gi_cons dw_438 (gi_cons dw_1405 (gi_cons dw_450 (gi_cons dw_449 (gi_cons dw_448 (gi_cons dw_470 (gi_cons dw_469 (gi_cons dw_466 (gi_cons dw_465 (gi_cons dw_458 (gi_cons dw_600 (gi_cons dw_611 (gi_cons dw_796 (gi_cons dw_747 (gi_cons dw_986 (gi_cons dw_1175 (gi_cons dw_1174 (gi_cons dw_1173 (gi_cons dw_1265 (gi_cons dw_349 (gi_cons dw_1279 (gi_cons dw_345 (gi_cons dw_344 (gi_cons dw_343 (gi_cons dw_16 (gi_cons dw_1416 (gi_cons dw_1415 (gi_cons dw_336 (gi_cons dw_335 (gi_cons dw_334 (gi_cons dw_333 (gi_cons dw_332 (gi_cons dw_331 gi_nil))))))))))))))))))))))))))))))))))))))))))))))))))
set_option maxRecDepth 100000 in
theorem gp_wsX11_word_o : GoodIn lw_tbl wsX11_word_o := by unfold wsX11_word_o; exact (gi_cons dw_372 (gi_cons dw_371 (gi_cons dw_16 gi_nil)))
set_option maxRecDepth 100000 in
theorem gp_wsX11_word : GoodIn lw_tbl wsX11_word := by unfold wsX11_word; exact (gi_cons dw_1418 (goodIn_app gp_wsX11_word_o gp_wsX11_appends))
set_option maxRecDepth 100000 in
theorem gp_wsX11_init : GoodIn lw_tbl wsX11_init := by unfold wsX11_init; exact (gi_cons dw_1414 (goodIn_app (goodIn_app gp_wsX11_init_o (goodIn_app gp_wsX11_plain (goodIn_app gp_wsX11_word (goodIn_app gp_wsX11_begins gp_wsX11_keepsRow)))) gp_wsX110))
theorem glv_X10_alike : GoodIn lw_tbl (wsV R_law 125 RX10 yX10_alike wsX10_alike) := goodIn_app (gi_cons dw_1045 (gi_cons dw_1044 (gi_cons dw_1043 (gi_cons dw_11 gi_nil)))) gp_wsX10_alike
theorem glv_X10_all : GoodIn lw_tbl (wsV R_law 81 RX10 yX10_all wsX10_all) := goodIn_app (gi_cons dw_864 (gi_cons dw_863 (gi_cons dw_862 (gi_cons dw_11 gi_nil)))) gp_wsX10_all
theorem glv_X10_allGo : GoodIn lw_tbl (wsV R_law 149 RX10 yX10_allGo wsX10_allGo) := goodIn_app (gi_cons dw_1101 (gi_cons dw_1100 (gi_cons dw_1099 (gi_cons dw_11 gi_nil)))) gp_wsX10_allGo
theorem glv_X10_ask : GoodIn lw_tbl (wsV R_law 194 RX10 yX10_ask wsX10_ask) := goodIn_app (gi_cons dw_1260 (gi_cons dw_1259 (gi_cons dw_1258 (gi_cons dw_11 gi_nil)))) gp_wsX10_ask
theorem glv_X10_back : GoodIn lw_tbl (wsV R_law 18 RX10 yX10_back wsX10_back) := goodIn_app (gi_cons dw_29 (gi_cons dw_28 (gi_cons dw_27 (gi_cons dw_11 gi_nil)))) gp_wsX10_back
theorem glv_X10_bears : GoodIn lw_tbl (wsV R_law 89 RX10 yX10_bears wsX10_bears) := goodIn_app (gi_cons dw_898 (gi_cons dw_897 (gi_cons dw_896 (gi_cons dw_11 gi_nil)))) gp_wsX10_bears
theorem glv_X10_buoy : GoodIn lw_tbl (wsV R_law 54 RX10 yX10_buoy wsX10_buoy) := goodIn_app (gi_cons dw_757 (gi_cons dw_756 (gi_cons dw_755 (gi_cons dw_11 gi_nil)))) gp_wsX10_buoy
theorem glv_X10_cases : GoodIn lw_tbl (wsV R_law 73 RX10 yX10_cases wsX10_cases) := goodIn_app (gi_cons dw_826 (gi_cons dw_825 (gi_cons dw_824 (gi_cons dw_11 gi_nil)))) gp_wsX10_cases
theorem glv_X10_chance : GoodIn lw_tbl (wsV R_law 77 RX10 yX10_chance wsX10_chance) := goodIn_app (gi_cons dw_845 (gi_cons dw_844 (gi_cons dw_843 (gi_cons dw_11 gi_nil)))) gp_wsX10_chance
theorem glv_X10_chosen : GoodIn lw_tbl (wsV R_law 145 RX10 yX10_chosen wsX10_chosen) := goodIn_app (gi_cons dw_1088 (gi_cons dw_1087 (gi_cons dw_1086 (gi_cons dw_11 gi_nil)))) gp_wsX10_chosen
theorem glv_X10_count : GoodIn lw_tbl (wsV R_law 206 RX10 yX10_count wsX10_count) := goodIn_app (gi_cons dw_1319 (gi_cons dw_1318 (gi_cons dw_1317 (gi_cons dw_11 gi_nil)))) gp_wsX10_count
theorem glv_X10_darers : GoodIn lw_tbl (wsV R_law 153 RX10 yX10_darers wsX10_darers) := goodIn_app (gi_cons dw_1113 (gi_cons dw_1112 (gi_cons dw_1111 (gi_cons dw_11 gi_nil)))) gp_wsX10_darers
theorem glv_X10_dearest : GoodIn lw_tbl (wsV R_law 141 RX10 yX10_dearest wsX10_dearest) := goodIn_app (gi_cons dw_1080 (gi_cons dw_1079 (gi_cons dw_1078 (gi_cons dw_11 gi_nil)))) gp_wsX10_dearest
theorem glv_X10_drawn : GoodIn lw_tbl (wsV R_law 173 RX10 yX10_drawn wsX10_drawn) := goodIn_app (gi_cons dw_1156 (gi_cons dw_1155 (gi_cons dw_1154 (gi_cons dw_11 gi_nil)))) gp_wsX10_drawn
theorem glv_X10_enough : GoodIn lw_tbl (wsV R_law 97 RX10 yX10_enough wsX10_enough) := goodIn_app (gi_cons dw_917 (gi_cons dw_916 (gi_cons dw_915 (gi_cons dw_11 gi_nil)))) gp_wsX10_enough
theorem glv_X10_feed : GoodIn lw_tbl (wsV R_law 13 RX10 yX10_feed wsX10_feed) := goodIn_app (gi_cons dw_14 (gi_cons dw_13 (gi_cons dw_12 (gi_cons dw_11 gi_nil)))) gp_wsX10_feed
theorem glv_X10_fetch : GoodIn lw_tbl (wsV R_law 59 RX10 yX10_fetch wsX10_fetch) := goodIn_app (gi_cons dw_765 (gi_cons dw_764 (gi_cons dw_763 (gi_cons dw_11 gi_nil)))) gp_wsX10_fetch
theorem glv_X10_fit : GoodIn lw_tbl (wsV R_law 186 RX10 yX10_fit wsX10_fit) := goodIn_app (gi_cons dw_1221 (gi_cons dw_1220 (gi_cons dw_1219 (gi_cons dw_11 gi_nil)))) gp_wsX10_fit
theorem glv_X10_forget : GoodIn lw_tbl (wsV R_law 182 RX10 yX10_forget wsX10_forget) := goodIn_app (gi_cons dw_1182 (gi_cons dw_1181 (gi_cons dw_1180 (gi_cons dw_11 gi_nil)))) gp_wsX10_forget
theorem glv_X10_go : GoodIn lw_tbl (wsV R_law 50 RX10 yX10_go wsX10_go) := goodIn_app (gi_cons dw_709 (gi_cons dw_708 (gi_cons dw_707 (gi_cons dw_11 gi_nil)))) gp_wsX10_go
theorem glv_X10_hold : GoodIn lw_tbl (wsV R_law 198 RX10 yX10_hold wsX10_hold) := goodIn_app (gi_cons dw_1277 (gi_cons dw_1276 (gi_cons dw_1275 (gi_cons dw_11 gi_nil)))) gp_wsX10_hold
theorem glv_X10_left : GoodIn lw_tbl (wsV R_law 101 RX10 yX10_left wsX10_left) := goodIn_app (gi_cons dw_929 (gi_cons dw_928 (gi_cons dw_927 (gi_cons dw_11 gi_nil)))) gp_wsX10_left
theorem glv_X10_lie : GoodIn lw_tbl (wsV R_law 190 RX10 yX10_lie wsX10_lie) := goodIn_app (gi_cons dw_1248 (gi_cons dw_1247 (gi_cons dw_1246 (gi_cons dw_11 gi_nil)))) gp_wsX10_lie
theorem glv_X10_likeliest : GoodIn lw_tbl (wsV R_law 85 RX10 yX10_likeliest wsX10_likeliest) := goodIn_app (gi_cons dw_883 (gi_cons dw_882 (gi_cons dw_881 (gi_cons dw_11 gi_nil)))) gp_wsX10_likeliest
theorem glv_X10_needs : GoodIn lw_tbl (wsV R_law 45 RX10 yX10_needs wsX10_needs) := goodIn_app (gi_cons dw_669 (gi_cons dw_668 (gi_cons dw_667 (gi_cons dw_11 gi_nil)))) gp_wsX10_needs
theorem glv_X10_next : GoodIn lw_tbl (wsV R_law 165 RX10 yX10_next wsX10_next) := goodIn_app (gi_cons dw_1137 (gi_cons dw_1136 (gi_cons dw_1135 (gi_cons dw_11 gi_nil)))) gp_wsX10_next
theorem glv_X10_odds : GoodIn lw_tbl (wsV R_law 37 RX10 yX10_odds wsX10_odds) := goodIn_app (gi_cons dw_622 (gi_cons dw_621 (gi_cons dw_620 (gi_cons dw_11 gi_nil)))) gp_wsX10_odds
theorem glv_X10_open : GoodIn lw_tbl (wsV R_law 157 RX10 yX10_open wsX10_open) := goodIn_app (gi_cons dw_1121 (gi_cons dw_1120 (gi_cons dw_1119 (gi_cons dw_11 gi_nil)))) gp_wsX10_open
theorem glv_X10_party : GoodIn lw_tbl (wsV R_law 41 RX10 yX10_party wsX10_party) := goodIn_app (gi_cons dw_646 (gi_cons dw_645 (gi_cons dw_644 (gi_cons dw_11 gi_nil)))) gp_wsX10_party
theorem glv_X10_place : GoodIn lw_tbl (wsV R_law 28 RX10 yX10_place wsX10_place) := goodIn_app (gi_cons dw_483 (gi_cons dw_482 (gi_cons dw_481 (gi_cons dw_11 gi_nil)))) gp_wsX10_place
theorem glv_X10_rank : GoodIn lw_tbl (wsV R_law 109 RX10 yX10_rank wsX10_rank) := goodIn_app (gi_cons dw_974 (gi_cons dw_973 (gi_cons dw_972 (gi_cons dw_11 gi_nil)))) gp_wsX10_rank
theorem glv_X10_ranked : GoodIn lw_tbl (wsV R_law 113 RX10 yX10_ranked wsX10_ranked) := goodIn_app (gi_cons dw_1005 (gi_cons dw_1004 (gi_cons dw_1003 (gi_cons dw_11 gi_nil)))) gp_wsX10_ranked
theorem glv_X10_read : GoodIn lw_tbl (wsV R_law 23 RX10 yX10_read wsX10_read) := goodIn_app (gi_cons dw_329 (gi_cons dw_328 (gi_cons dw_327 (gi_cons dw_11 gi_nil)))) gp_wsX10_read
theorem glv_X10_restore : GoodIn lw_tbl (wsV R_law 202 RX10 yX10_restore wsX10_restore) := goodIn_app (gi_cons dw_1289 (gi_cons dw_1288 (gi_cons dw_1287 (gi_cons dw_11 gi_nil)))) gp_wsX10_restore
theorem glv_X10_safest : GoodIn lw_tbl (wsV R_law 93 RX10 yX10_safest wsX10_safest) := goodIn_app (gi_cons dw_906 (gi_cons dw_905 (gi_cons dw_904 (gi_cons dw_11 gi_nil)))) gp_wsX10_safest
theorem glv_X10_share : GoodIn lw_tbl (wsV R_law 117 RX10 yX10_share wsX10_share) := goodIn_app (gi_cons dw_1013 (gi_cons dw_1012 (gi_cons dw_1011 (gi_cons dw_11 gi_nil)))) gp_wsX10_share
theorem glv_X10_spread : GoodIn lw_tbl (wsV R_law 137 RX10 yX10_spread wsX10_spread) := goodIn_app (gi_cons dw_1072 (gi_cons dw_1071 (gi_cons dw_1070 (gi_cons dw_11 gi_nil)))) gp_wsX10_spread
theorem glv_X10_stuck : GoodIn lw_tbl (wsV R_law 133 RX10 yX10_stuck wsX10_stuck) := goodIn_app (gi_cons dw_1061 (gi_cons dw_1060 (gi_cons dw_1059 (gi_cons dw_11 gi_nil)))) gp_wsX10_stuck
theorem glv_X10_sunk : GoodIn lw_tbl (wsV R_law 129 RX10 yX10_sunk wsX10_sunk) := goodIn_app (gi_cons dw_1053 (gi_cons dw_1052 (gi_cons dw_1051 (gi_cons dw_11 gi_nil)))) gp_wsX10_sunk
theorem glv_X10_sure : GoodIn lw_tbl (wsV R_law 121 RX10 yX10_sure wsX10_sure) := goodIn_app (gi_cons dw_1032 (gi_cons dw_1031 (gi_cons dw_1030 (gi_cons dw_11 gi_nil)))) gp_wsX10_sure
theorem glv_X10_tell : GoodIn lw_tbl (wsV R_law 177 RX10 yX10_tell wsX10_tell) := goodIn_app (gi_cons dw_1171 (gi_cons dw_1170 (gi_cons dw_1169 (gi_cons dw_11 gi_nil)))) gp_wsX10_tell
theorem glv_X10_then : GoodIn lw_tbl (wsV R_law 161 RX10 yX10_then wsX10_then) := goodIn_app (gi_cons dw_1129 (gi_cons dw_1128 (gi_cons dw_1127 (gi_cons dw_11 gi_nil)))) gp_wsX10_then
theorem glv_X10_undo : GoodIn lw_tbl (wsV R_law 68 RX10 yX10_undo wsX10_undo) := goodIn_app (gi_cons dw_806 (gi_cons dw_805 (gi_cons dw_804 (gi_cons dw_11 gi_nil)))) gp_wsX10_undo
theorem glv_X10_wave : GoodIn lw_tbl (wsV R_law 32 RX10 yX10_wave wsX10_wave) := goodIn_app (gi_cons dw_551 (gi_cons dw_550 (gi_cons dw_549 (gi_cons dw_11 gi_nil)))) gp_wsX10_wave
theorem glv_X10_wisest : GoodIn lw_tbl (wsV R_law 105 RX10 yX10_wisest wsX10_wisest) := goodIn_app (gi_cons dw_948 (gi_cons dw_947 (gi_cons dw_946 (gi_cons dw_11 gi_nil)))) gp_wsX10_wisest
theorem glv_X10_year : GoodIn lw_tbl (wsV R_law 169 RX10 yX10_year wsX10_year) := goodIn_app (gi_cons dw_1148 (gi_cons dw_1147 (gi_cons dw_1146 (gi_cons dw_11 gi_nil)))) gp_wsX10_year
theorem glv_X10_years : GoodIn lw_tbl (wsV R_law 64 RX10 yX10_years wsX10_years) := goodIn_app (gi_cons dw_782 (gi_cons dw_781 (gi_cons dw_780 (gi_cons dw_11 gi_nil)))) gp_wsX10_years
theorem glv_X11_alike : GoodIn lw_tbl (wsV R_law 128 RX11 yX11_alike wsX11_alike) := goodIn_app (gi_cons dw_1049 (gi_cons dw_1048 (gi_cons dw_1047 (gi_cons dw_16 gi_nil)))) gp_wsX11_alike
theorem glv_X11_all : GoodIn lw_tbl (wsV R_law 84 RX11 yX11_all wsX11_all) := goodIn_app (gi_cons dw_872 (gi_cons dw_871 (gi_cons dw_870 (gi_cons dw_16 gi_nil)))) gp_wsX11_all
theorem glv_X11_allGo : GoodIn lw_tbl (wsV R_law 152 RX11 yX11_allGo wsX11_allGo) := goodIn_app (gi_cons dw_1109 (gi_cons dw_1108 (gi_cons dw_1107 (gi_cons dw_16 gi_nil)))) gp_wsX11_allGo
theorem glv_X11_ask : GoodIn lw_tbl (wsV R_law 197 RX11 yX11_ask wsX11_ask) := goodIn_app (gi_cons dw_1269 (gi_cons dw_1268 (gi_cons dw_1267 (gi_cons dw_16 gi_nil)))) gp_wsX11_ask
theorem glv_X11_back : GoodIn lw_tbl (wsV R_law 22 RX11 yX11_back wsX11_back) := goodIn_app (gi_cons dw_33 (gi_cons dw_32 (gi_cons dw_31 (gi_cons dw_16 gi_nil)))) gp_wsX11_back
theorem glv_X11_bears : GoodIn lw_tbl (wsV R_law 92 RX11 yX11_bears wsX11_bears) := goodIn_app (gi_cons dw_902 (gi_cons dw_901 (gi_cons dw_900 (gi_cons dw_16 gi_nil)))) gp_wsX11_bears
theorem glv_X11_buoy : GoodIn lw_tbl (wsV R_law 58 RX11 yX11_buoy wsX11_buoy) := goodIn_app (gi_cons dw_761 (gi_cons dw_760 (gi_cons dw_759 (gi_cons dw_16 gi_nil)))) gp_wsX11_buoy
theorem glv_X11_cases : GoodIn lw_tbl (wsV R_law 76 RX11 yX11_cases wsX11_cases) := goodIn_app (gi_cons dw_834 (gi_cons dw_833 (gi_cons dw_832 (gi_cons dw_16 gi_nil)))) gp_wsX11_cases
theorem glv_X11_chance : GoodIn lw_tbl (wsV R_law 80 RX11 yX11_chance wsX11_chance) := goodIn_app (gi_cons dw_857 (gi_cons dw_856 (gi_cons dw_855 (gi_cons dw_16 gi_nil)))) gp_wsX11_chance
theorem glv_X11_chosen : GoodIn lw_tbl (wsV R_law 148 RX11 yX11_chosen wsX11_chosen) := goodIn_app (gi_cons dw_1092 (gi_cons dw_1091 (gi_cons dw_1090 (gi_cons dw_16 gi_nil)))) gp_wsX11_chosen
theorem glv_X11_count : GoodIn lw_tbl (wsV R_law 209 RX11 yX11_count wsX11_count) := goodIn_app (gi_cons dw_1331 (gi_cons dw_1330 (gi_cons dw_1329 (gi_cons dw_16 gi_nil)))) gp_wsX11_count
theorem glv_X11_darers : GoodIn lw_tbl (wsV R_law 156 RX11 yX11_darers wsX11_darers) := goodIn_app (gi_cons dw_1117 (gi_cons dw_1116 (gi_cons dw_1115 (gi_cons dw_16 gi_nil)))) gp_wsX11_darers
theorem glv_X11_dearest : GoodIn lw_tbl (wsV R_law 144 RX11 yX11_dearest wsX11_dearest) := goodIn_app (gi_cons dw_1084 (gi_cons dw_1083 (gi_cons dw_1082 (gi_cons dw_16 gi_nil)))) gp_wsX11_dearest
theorem glv_X11_drawn : GoodIn lw_tbl (wsV R_law 176 RX11 yX11_drawn wsX11_drawn) := goodIn_app (gi_cons dw_1160 (gi_cons dw_1159 (gi_cons dw_1158 (gi_cons dw_16 gi_nil)))) gp_wsX11_drawn
theorem glv_X11_enough : GoodIn lw_tbl (wsV R_law 100 RX11 yX11_enough wsX11_enough) := goodIn_app (gi_cons dw_921 (gi_cons dw_920 (gi_cons dw_919 (gi_cons dw_16 gi_nil)))) gp_wsX11_enough
theorem glv_X11_feed : GoodIn lw_tbl (wsV R_law 17 RX11 yX11_feed wsX11_feed) := goodIn_app (gi_cons dw_25 (gi_cons dw_24 (gi_cons dw_23 (gi_cons dw_16 gi_nil)))) gp_wsX11_feed
theorem glv_X11_fetch : GoodIn lw_tbl (wsV R_law 63 RX11 yX11_fetch wsX11_fetch) := goodIn_app (gi_cons dw_769 (gi_cons dw_768 (gi_cons dw_767 (gi_cons dw_16 gi_nil)))) gp_wsX11_fetch
theorem glv_X11_fit : GoodIn lw_tbl (wsV R_law 189 RX11 yX11_fit wsX11_fit) := goodIn_app (gi_cons dw_1237 (gi_cons dw_1236 (gi_cons dw_1235 (gi_cons dw_16 gi_nil)))) gp_wsX11_fit
theorem glv_X11_forget : GoodIn lw_tbl (wsV R_law 185 RX11 yX11_forget wsX11_forget) := goodIn_app (gi_cons dw_1186 (gi_cons dw_1185 (gi_cons dw_1184 (gi_cons dw_16 gi_nil)))) gp_wsX11_forget
theorem glv_X11_go : GoodIn lw_tbl (wsV R_law 53 RX11 yX11_go wsX11_go) := goodIn_app (gi_cons dw_750 (gi_cons dw_749 (gi_cons dw_748 (gi_cons dw_16 gi_nil)))) gp_wsX11_go
theorem glv_X11_hold : GoodIn lw_tbl (wsV R_law 201 RX11 yX11_hold wsX11_hold) := goodIn_app (gi_cons dw_1282 (gi_cons dw_1281 (gi_cons dw_1280 (gi_cons dw_16 gi_nil)))) gp_wsX11_hold
theorem glv_X11_left : GoodIn lw_tbl (wsV R_law 104 RX11 yX11_left wsX11_left) := goodIn_app (gi_cons dw_937 (gi_cons dw_936 (gi_cons dw_935 (gi_cons dw_16 gi_nil)))) gp_wsX11_left
theorem glv_X11_lie : GoodIn lw_tbl (wsV R_law 193 RX11 yX11_lie wsX11_lie) := goodIn_app (gi_cons dw_1252 (gi_cons dw_1251 (gi_cons dw_1250 (gi_cons dw_16 gi_nil)))) gp_wsX11_lie
theorem glv_X11_likeliest : GoodIn lw_tbl (wsV R_law 88 RX11 yX11_likeliest wsX11_likeliest) := goodIn_app (gi_cons dw_891 (gi_cons dw_890 (gi_cons dw_889 (gi_cons dw_16 gi_nil)))) gp_wsX11_likeliest
theorem glv_X11_needs : GoodIn lw_tbl (wsV R_law 49 RX11 yX11_needs wsX11_needs) := goodIn_app (gi_cons dw_677 (gi_cons dw_676 (gi_cons dw_675 (gi_cons dw_16 gi_nil)))) gp_wsX11_needs
theorem glv_X11_next : GoodIn lw_tbl (wsV R_law 168 RX11 yX11_next wsX11_next) := goodIn_app (gi_cons dw_1141 (gi_cons dw_1140 (gi_cons dw_1139 (gi_cons dw_16 gi_nil)))) gp_wsX11_next
theorem glv_X11_odds : GoodIn lw_tbl (wsV R_law 40 RX11 yX11_odds wsX11_odds) := goodIn_app (gi_cons dw_629 (gi_cons dw_628 (gi_cons dw_627 (gi_cons dw_16 gi_nil)))) gp_wsX11_odds
theorem glv_X11_open : GoodIn lw_tbl (wsV R_law 160 RX11 yX11_open wsX11_open) := goodIn_app (gi_cons dw_1125 (gi_cons dw_1124 (gi_cons dw_1123 (gi_cons dw_16 gi_nil)))) gp_wsX11_open
theorem glv_X11_party : GoodIn lw_tbl (wsV R_law 44 RX11 yX11_party wsX11_party) := goodIn_app (gi_cons dw_662 (gi_cons dw_661 (gi_cons dw_660 (gi_cons dw_16 gi_nil)))) gp_wsX11_party
theorem glv_X11_place : GoodIn lw_tbl (wsV R_law 31 RX11 yX11_place wsX11_place) := goodIn_app (gi_cons dw_487 (gi_cons dw_486 (gi_cons dw_485 (gi_cons dw_16 gi_nil)))) gp_wsX11_place
theorem glv_X11_rank : GoodIn lw_tbl (wsV R_law 112 RX11 yX11_rank wsX11_rank) := goodIn_app (gi_cons dw_991 (gi_cons dw_990 (gi_cons dw_989 (gi_cons dw_16 gi_nil)))) gp_wsX11_rank
theorem glv_X11_ranked : GoodIn lw_tbl (wsV R_law 116 RX11 yX11_ranked wsX11_ranked) := goodIn_app (gi_cons dw_1009 (gi_cons dw_1008 (gi_cons dw_1007 (gi_cons dw_16 gi_nil)))) gp_wsX11_ranked
theorem glv_X11_read : GoodIn lw_tbl (wsV R_law 27 RX11 yX11_read wsX11_read) := goodIn_app (gi_cons dw_479 (gi_cons dw_478 (gi_cons dw_477 (gi_cons dw_16 gi_nil)))) gp_wsX11_read
theorem glv_X11_restore : GoodIn lw_tbl (wsV R_law 205 RX11 yX11_restore wsX11_restore) := goodIn_app (gi_cons dw_1293 (gi_cons dw_1292 (gi_cons dw_1291 (gi_cons dw_16 gi_nil)))) gp_wsX11_restore
theorem glv_X11_safest : GoodIn lw_tbl (wsV R_law 96 RX11 yX11_safest wsX11_safest) := goodIn_app (gi_cons dw_910 (gi_cons dw_909 (gi_cons dw_908 (gi_cons dw_16 gi_nil)))) gp_wsX11_safest
theorem glv_X11_share : GoodIn lw_tbl (wsV R_law 120 RX11 yX11_share wsX11_share) := goodIn_app (gi_cons dw_1017 (gi_cons dw_1016 (gi_cons dw_1015 (gi_cons dw_16 gi_nil)))) gp_wsX11_share
theorem glv_X11_spread : GoodIn lw_tbl (wsV R_law 140 RX11 yX11_spread wsX11_spread) := goodIn_app (gi_cons dw_1076 (gi_cons dw_1075 (gi_cons dw_1074 (gi_cons dw_16 gi_nil)))) gp_wsX11_spread
theorem glv_X11_stuck : GoodIn lw_tbl (wsV R_law 136 RX11 yX11_stuck wsX11_stuck) := goodIn_app (gi_cons dw_1065 (gi_cons dw_1064 (gi_cons dw_1063 (gi_cons dw_16 gi_nil)))) gp_wsX11_stuck
theorem glv_X11_sunk : GoodIn lw_tbl (wsV R_law 132 RX11 yX11_sunk wsX11_sunk) := goodIn_app (gi_cons dw_1057 (gi_cons dw_1056 (gi_cons dw_1055 (gi_cons dw_16 gi_nil)))) gp_wsX11_sunk
theorem glv_X11_sure : GoodIn lw_tbl (wsV R_law 124 RX11 yX11_sure wsX11_sure) := goodIn_app (gi_cons dw_1040 (gi_cons dw_1039 (gi_cons dw_1038 (gi_cons dw_16 gi_nil)))) gp_wsX11_sure
theorem glv_X11_tell : GoodIn lw_tbl (wsV R_law 181 RX11 yX11_tell wsX11_tell) := goodIn_app (gi_cons dw_1178 (gi_cons dw_1177 (gi_cons dw_1176 (gi_cons dw_16 gi_nil)))) gp_wsX11_tell
theorem glv_X11_then : GoodIn lw_tbl (wsV R_law 164 RX11 yX11_then wsX11_then) := goodIn_app (gi_cons dw_1133 (gi_cons dw_1132 (gi_cons dw_1131 (gi_cons dw_16 gi_nil)))) gp_wsX11_then
theorem glv_X11_undo : GoodIn lw_tbl (wsV R_law 72 RX11 yX11_undo wsX11_undo) := goodIn_app (gi_cons dw_810 (gi_cons dw_809 (gi_cons dw_808 (gi_cons dw_16 gi_nil)))) gp_wsX11_undo
theorem glv_X11_wave : GoodIn lw_tbl (wsV R_law 36 RX11 yX11_wave wsX11_wave) := goodIn_app (gi_cons dw_615 (gi_cons dw_614 (gi_cons dw_613 (gi_cons dw_16 gi_nil)))) gp_wsX11_wave
theorem glv_X11_wisest : GoodIn lw_tbl (wsV R_law 108 RX11 yX11_wisest wsX11_wisest) := goodIn_app (gi_cons dw_952 (gi_cons dw_951 (gi_cons dw_950 (gi_cons dw_16 gi_nil)))) gp_wsX11_wisest
theorem glv_X11_year : GoodIn lw_tbl (wsV R_law 172 RX11 yX11_year wsX11_year) := goodIn_app (gi_cons dw_1152 (gi_cons dw_1151 (gi_cons dw_1150 (gi_cons dw_16 gi_nil)))) gp_wsX11_year
theorem glv_X11_years : GoodIn lw_tbl (wsV R_law 67 RX11 yX11_years wsX11_years) := goodIn_app (gi_cons dw_799 (gi_cons dw_798 (gi_cons dw_797 (gi_cons dw_16 gi_nil)))) gp_wsX11_years
end
