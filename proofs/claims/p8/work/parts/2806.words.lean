set_option maxRecDepth 100000 in
theorem gp_wsX10_feed_o : GoodIn lw_tbl wsX10_feed_o := by unfold wsX10_feed_o; exact (gi_cons dw_6 (gi_cons dw_5 (gi_cons dw_4 (gi_cons dw_3 (gi_cons dw_2 (gi_cons dw_1 gi_nil))))))
set_option maxRecDepth 100000 in
theorem gp_wsX70 : GoodIn lw_tbl wsX70 := goodIn_r _ [208, 210] (by decide +kernel) (by decide +kernel)
set_option maxRecDepth 100000 in
theorem gp_wsX7_hasRoomFor : GoodIn lw_tbl wsX7_hasRoomFor := by unfold wsX7_hasRoomFor; exact (gi_cons dw_7 (goodIn_app (gi_cons dw_9 (gi_cons dw_8 gi_nil)) gp_wsX70))
set_option maxRecDepth 100000 in
theorem gp_wsX7_addFour : GoodIn lw_tbl wsX7_addFour := by unfold wsX7_addFour; exact (gi_cons dw_10 (goodIn_app (gi_cons dw_8 (gi_cons dw_9 gi_nil)) gp_wsX70))
set_option maxRecDepth 100000 in
theorem gp_wsX100 : GoodIn lw_tbl wsX100 := goodIn_r _ [616, 618, 620, 622, 624, 626, 628, 630, 632] (by decide +kernel) (by decide +kernel)
set_option maxRecDepth 100000 in
theorem gp_wsX10_feed : GoodIn lw_tbl wsX10_feed := by unfold wsX10_feed; exact (gi_cons dw_0 (goodIn_app (goodIn_app (goodIn_app gp_wsX10_feed_o (goodIn_app gp_wsX7_hasRoomFor gp_wsX7_addFour)) gp_wsX100) gp_wsX70))
set_option maxRecDepth 100000 in
theorem gp_wsX11_feed_o : GoodIn lw_tbl wsX11_feed_o := by unfold wsX11_feed_o; exact (gi_cons dw_20 (gi_cons dw_19 (gi_cons dw_18 (gi_cons dw_17 (gi_cons dw_16 gi_nil)))))
set_option maxRecDepth 100000 in
theorem gp_wsX110 : GoodIn lw_tbl wsX110 := goodIn_r _ [1421, 1423, 1425, 1427, 1429, 1431, 1433, 1435, 1437, 1439, 1441, 1443, 1445, 1447, 1449, 1451, 1453, 1455, 1457, 1459, 1461, 1463, 1465, 1467, 1469, 1471, 1473, 1475, 1477, 1479, 1481, 1483, 1485, 1487, 1489, 1491, 1493, 1495, 1497, 1499, 1501, 1503, 1505, 1507, 1509, 1511, 1513, 1515, 1517, 1519, 1521, 1523, 1525, 1527, 1529, 1531, 1533, 1535] (by decide +kernel) (by decide +kernel)
set_option maxRecDepth 100000 in
theorem gp_wsX11_put : GoodIn lw_tbl wsX11_put := by unfold wsX11_put; exact (gi_cons dw_21 (goodIn_app (gi_cons dw_22 (gi_cons dw_20 gi_nil)) gp_wsX110))
set_option maxRecDepth 100000 in
theorem gp_wsX11_feed : GoodIn lw_tbl wsX11_feed := by unfold wsX11_feed; exact (gi_cons dw_15 (goodIn_app (goodIn_app gp_wsX11_feed_o gp_wsX11_put) gp_wsX110))
set_option maxRecDepth 100000 in
theorem gp_wsX10_back : GoodIn lw_tbl wsX10_back := by unfold wsX10_back; exact (gi_cons dw_26 (goodIn_app (goodIn_app (gi_cons dw_6 gi_nil) gp_wsX100) gp_wsX70))
set_option maxRecDepth 100000 in
theorem gp_wsX11_back : GoodIn lw_tbl wsX11_back := by unfold wsX11_back; exact (gi_cons dw_30 (goodIn_app (gi_cons dw_20 gi_nil) gp_wsX110))
set_option maxRecDepth 100000 in
theorem gp_wsX10_read_o : GoodIn lw_tbl wsX10_read_o := by unfold wsX10_read_o; exact (gi_cons dw_51 (gi_cons dw_6 (gi_cons dw_50 (gi_cons dw_49 (gi_cons dw_48 (gi_cons dw_47 (gi_cons dw_46 (gi_cons dw_45 (gi_cons dw_44 (gi_cons dw_43 (gi_cons dw_42 (gi_cons dw_41 (gi_cons dw_40 (gi_cons dw_39 (gi_cons dw_38 (gi_cons dw_37 (gi_cons dw_36 (gi_cons dw_35 gi_nil))))))))))))))))))
set_option maxRecDepth 100000 in
theorem gp_wsX4_readTape_o : GoodIn lw_tbl wsX4_readTape_o := by unfold wsX4_readTape_o; exact (gi_cons dw_72 (gi_cons dw_71 (gi_cons dw_70 (gi_cons dw_69 (gi_cons dw_68 (gi_cons dw_67 (gi_cons dw_66 (gi_cons dw_65 (gi_cons dw_43 (gi_cons dw_64 (gi_cons dw_63 (gi_cons dw_62 (gi_cons dw_61 (gi_cons dw_60 (gi_cons dw_59 (gi_cons dw_58 (gi_cons dw_45 (gi_cons dw_57 (gi_cons dw_56 (gi_cons dw_55 (gi_cons dw_54 (gi_cons dw_53 gi_nil))))))))))))))))))))))
set_option maxRecDepth 100000 in
theorem gp_wsX5_clear_o : GoodIn lw_tbl wsX5_clear_o := by unfold wsX5_clear_o; exact (gi_cons dw_81 (gi_cons dw_80 (gi_cons dw_79 (gi_cons dw_78 (gi_cons dw_77 (gi_cons dw_76 (gi_cons dw_75 (gi_cons dw_74 gi_nil))))))))
set_option maxRecDepth 100000 in
theorem gp_wsX1_clear_o : GoodIn lw_tbl wsX1_clear_o := by unfold wsX1_clear_o; exact (gi_cons dw_95 (gi_cons dw_94 (gi_cons dw_93 (gi_cons dw_92 (gi_cons dw_75 (gi_cons dw_91 (gi_cons dw_90 (gi_cons dw_89 (gi_cons dw_88 (gi_cons dw_87 (gi_cons dw_86 (gi_cons dw_85 (gi_cons dw_84 (gi_cons dw_83 gi_nil))))))))))))))
set_option maxRecDepth 100000 in
theorem gp_wsX10 : GoodIn lw_tbl wsX10 := goodIn_r _ [236, 238, 240, 242, 244, 246, 248, 250, 252] (by decide +kernel) (by decide +kernel)
set_option maxRecDepth 100000 in
theorem gp_wsX1_begin : GoodIn lw_tbl wsX1_begin := by unfold wsX1_begin; exact (gi_cons dw_96 (goodIn_app (gi_cons dw_99 (gi_cons dw_98 (gi_cons dw_95 (gi_cons dw_97 gi_nil)))) gp_wsX10))
set_option maxRecDepth 100000 in
theorem gp_wsX1_putVar_o : GoodIn lw_tbl wsX1_putVar_o := by unfold wsX1_putVar_o; exact (gi_cons dw_103 (gi_cons dw_102 (gi_cons dw_101 (gi_cons dw_75 gi_nil))))
set_option maxRecDepth 100000 in
theorem gp_wsX1_put : GoodIn lw_tbl wsX1_put := by unfold wsX1_put; exact (gi_cons dw_104 (goodIn_app (gi_cons dw_95 (gi_cons dw_105 gi_nil)) gp_wsX10))
set_option maxRecDepth 100000 in
theorem gp_wsX1_putVar : GoodIn lw_tbl wsX1_putVar := by unfold wsX1_putVar; exact (gi_cons dw_100 (goodIn_app (goodIn_app gp_wsX1_putVar_o gp_wsX1_put) gp_wsX10))
set_option maxRecDepth 100000 in
theorem gp_wsX1_endPart : GoodIn lw_tbl wsX1_endPart := by unfold wsX1_endPart; exact (gi_cons dw_106 (goodIn_app (gi_cons dw_97 (gi_cons dw_99 (gi_cons dw_107 (gi_cons dw_95 gi_nil)))) gp_wsX10))
set_option maxRecDepth 100000 in
theorem gp_wsX1_putNumber_o : GoodIn lw_tbl wsX1_putNumber_o := by unfold wsX1_putNumber_o; exact (gi_cons dw_103 (gi_cons dw_102 (gi_cons dw_101 (gi_cons dw_75 gi_nil))))
set_option maxRecDepth 100000 in
theorem gp_wsX1_putNumber : GoodIn lw_tbl wsX1_putNumber := by unfold wsX1_putNumber; exact (gi_cons dw_108 (goodIn_app (goodIn_app gp_wsX1_putNumber_o gp_wsX1_put) gp_wsX10))
set_option maxRecDepth 100000 in
theorem gp_wsX1_clear : GoodIn lw_tbl wsX1_clear := by unfold wsX1_clear; exact (gi_cons dw_82 (goodIn_app (goodIn_app gp_wsX1_clear_o (goodIn_app gp_wsX1_begin (goodIn_app gp_wsX1_putVar (goodIn_app gp_wsX1_endPart gp_wsX1_putNumber)))) gp_wsX10))
set_option maxRecDepth 100000 in
theorem gp_wsX50 : GoodIn lw_tbl wsX50 := goodIn_r _ [315, 317, 319, 321, 323, 325, 327, 329, 331, 333] (by decide +kernel) (by decide +kernel)
set_option maxRecDepth 100000 in
theorem gp_wsX5_clear : GoodIn lw_tbl wsX5_clear := by unfold wsX5_clear; exact (gi_cons dw_73 (goodIn_app (goodIn_app (goodIn_app gp_wsX5_clear_o gp_wsX1_clear) gp_wsX50) gp_wsX10))
set_option maxRecDepth 100000 in
theorem gp_wsX9_split_o : GoodIn lw_tbl wsX9_split_o := by unfold wsX9_split_o; exact (gi_cons dw_120 (gi_cons dw_119 (gi_cons dw_118 (gi_cons dw_117 (gi_cons dw_116 (gi_cons dw_115 (gi_cons dw_114 (gi_cons dw_113 (gi_cons dw_62 (gi_cons dw_112 (gi_cons dw_111 (gi_cons dw_110 gi_nil))))))))))))
set_option maxRecDepth 100000 in
theorem gp_wsX9_skipBlanks_o : GoodIn lw_tbl wsX9_skipBlanks_o := by unfold wsX9_skipBlanks_o; exact (gi_cons dw_120 (gi_cons dw_126 (gi_cons dw_125 (gi_cons dw_4 (gi_cons dw_124 (gi_cons dw_123 (gi_cons dw_122 (gi_cons dw_62 gi_nil))))))))
set_option maxRecDepth 100000 in
theorem gp_wsX7_byteAt : GoodIn lw_tbl wsX7_byteAt := by unfold wsX7_byteAt; exact (gi_cons dw_127 (goodIn_app (gi_cons dw_8 (gi_cons dw_9 gi_nil)) gp_wsX70))
set_option maxRecDepth 100000 in
theorem gp_wsX9_isBlank : GoodIn lw_tbl wsX9_isBlank := by unfold wsX9_isBlank; exact (gi_cons dw_128 gi_nil)
set_option maxRecDepth 100000 in
theorem gp_wsX90 : GoodIn lw_tbl wsX90 := goodIn_r _ [415, 417, 419, 421, 423, 425, 427] (by decide +kernel) (by decide +kernel)
set_option maxRecDepth 100000 in
theorem gp_wsX9_skipBlanks : GoodIn lw_tbl wsX9_skipBlanks := by unfold wsX9_skipBlanks; exact (gi_cons dw_121 (goodIn_app (goodIn_app (goodIn_app gp_wsX9_skipBlanks_o (goodIn_app gp_wsX7_byteAt gp_wsX9_isBlank)) gp_wsX90) gp_wsX70))
set_option maxRecDepth 100000 in
theorem gp_wsX9_splitOne_o : GoodIn lw_tbl wsX9_splitOne_o := by unfold wsX9_splitOne_o; exact (gi_cons dw_116 (gi_cons dw_126 (gi_cons dw_120 (gi_cons dw_125 (gi_cons dw_4 (gi_cons dw_124 (gi_cons dw_148 (gi_cons dw_147 (gi_cons dw_62 (gi_cons dw_146 (gi_cons dw_145 (gi_cons dw_144 (gi_cons dw_143 (gi_cons dw_142 (gi_cons dw_141 (gi_cons dw_140 (gi_cons dw_139 (gi_cons dw_138 (gi_cons dw_137 (gi_cons dw_136 (gi_cons dw_135 (gi_cons dw_134 (gi_cons dw_133 (gi_cons dw_132 (gi_cons dw_131 (gi_cons dw_130 gi_nil))))))))))))))))))))))))))
set_option maxRecDepth 100000 in
theorem gp_wsX9_isLetter : GoodIn lw_tbl wsX9_isLetter := by unfold wsX9_isLetter; exact (gi_cons dw_149 gi_nil)
set_option maxRecDepth 100000 in
theorem gp_wsX9_splitLetters_o : GoodIn lw_tbl wsX9_splitLetters_o := by unfold wsX9_splitLetters_o; exact (gi_cons dw_120 (gi_cons dw_126 (gi_cons dw_116 (gi_cons dw_153 (gi_cons dw_125 (gi_cons dw_4 (gi_cons dw_124 (gi_cons dw_148 (gi_cons dw_147 (gi_cons dw_62 (gi_cons dw_152 (gi_cons dw_151 gi_nil))))))))))))
set_option maxRecDepth 100000 in
theorem gp_wsX9_withLetter : GoodIn lw_tbl wsX9_withLetter := by unfold wsX9_withLetter; exact (gi_cons dw_154 gi_nil)
set_option maxRecDepth 100000 in
theorem gp_wsX9_splitLetters : GoodIn lw_tbl wsX9_splitLetters := by unfold wsX9_splitLetters; exact (gi_cons dw_150 (goodIn_app (goodIn_app (goodIn_app gp_wsX9_splitLetters_o (goodIn_app gp_wsX7_byteAt (goodIn_app gp_wsX9_isLetter gp_wsX9_withLetter))) gp_wsX90) gp_wsX70))
set_option maxRecDepth 100000 in
theorem gp_wsX9_isDigit : GoodIn lw_tbl wsX9_isDigit := by unfold wsX9_isDigit; exact (gi_cons dw_155 gi_nil)
set_option maxRecDepth 100000 in
theorem gp_wsX9_splitDigits_o : GoodIn lw_tbl wsX9_splitDigits_o := by unfold wsX9_splitDigits_o; exact (gi_cons dw_120 (gi_cons dw_126 (gi_cons dw_116 (gi_cons dw_158 (gi_cons dw_157 (gi_cons dw_125 (gi_cons dw_4 (gi_cons dw_124 (gi_cons dw_143 (gi_cons dw_142 (gi_cons dw_62 gi_nil)))))))))))
set_option maxRecDepth 100000 in
theorem gp_wsX9_splitDigits : GoodIn lw_tbl wsX9_splitDigits := by unfold wsX9_splitDigits; exact (gi_cons dw_156 (goodIn_app (goodIn_app (goodIn_app gp_wsX9_splitDigits_o (goodIn_app gp_wsX7_byteAt gp_wsX9_isDigit)) gp_wsX90) gp_wsX70))
set_option maxRecDepth 100000 in
theorem gp_wsJ0_indexOf_0f7a4_o : GoodIn lw_tbl wsJ0_indexOf_0f7a4_o := by unfold wsJ0_indexOf_0f7a4_o; exact (gi_cons dw_162 (gi_cons dw_161 (gi_cons dw_160 (gi_cons dw_135 gi_nil))))
set_option maxRecDepth 100000 in
theorem gp_wsJ0_indexOf_7cf53_o : GoodIn lw_tbl wsJ0_indexOf_7cf53_o := by unfold wsJ0_indexOf_7cf53_o; exact (gi_cons dw_174 (gi_cons dw_173 (gi_cons dw_172 (gi_cons dw_171 (gi_cons dw_135 (gi_cons dw_170 (gi_cons dw_169 (gi_cons dw_168 (gi_cons dw_167 (gi_cons dw_166 (gi_cons dw_134 (gi_cons dw_133 (gi_cons dw_165 (gi_cons dw_164 (gi_cons dw_132 (gi_cons dw_131 (gi_cons dw_130 gi_nil)))))))))))))))))
set_option maxRecDepth 100000 in
theorem gp_wsJ0_isLatin1_aae02 : GoodIn lw_tbl wsJ0_isLatin1_aae02 := by unfold wsJ0_isLatin1_aae02; exact (gi_cons dw_175 (gi_cons dw_177 (gi_cons dw_176 gi_nil)))
set_option maxRecDepth 100000 in
theorem gp_wsJ0_length_8abf5_o : GoodIn lw_tbl wsJ0_length_8abf5_o := by unfold wsJ0_length_8abf5_o; exact (gi_cons dw_174 (gi_cons dw_181 (gi_cons dw_180 (gi_cons dw_179 (gi_cons dw_135 gi_nil)))))
set_option maxRecDepth 100000 in
theorem gp_wsJ0_coder_7d493 : GoodIn lw_tbl wsJ0_coder_7d493 := by unfold wsJ0_coder_7d493; exact (gi_cons dw_182 (gi_cons dw_177 (gi_cons dw_176 gi_nil)))
set_option maxRecDepth 100000 in
theorem gp_wsJ0_length_8abf5 : GoodIn lw_tbl wsJ0_length_8abf5 := by unfold wsJ0_length_8abf5; exact (gi_cons dw_178 (goodIn_app gp_wsJ0_length_8abf5_o gp_wsJ0_coder_7d493))
set_option maxRecDepth 100000 in
theorem gp_wsJ1_indexOf_4cfef_o : GoodIn lw_tbl wsJ1_indexOf_4cfef_o := by unfold wsJ1_indexOf_4cfef_o; exact (gi_cons dw_193 (gi_cons dw_192 (gi_cons dw_133 (gi_cons dw_191 (gi_cons dw_190 (gi_cons dw_189 (gi_cons dw_188 (gi_cons dw_187 (gi_cons dw_186 (gi_cons dw_134 (gi_cons dw_185 (gi_cons dw_184 gi_nil))))))))))))
set_option maxRecDepth 100000 in
theorem gp_wsJ1_canEncode_9a6ad : GoodIn lw_tbl wsJ1_canEncode_9a6ad := by unfold wsJ1_canEncode_9a6ad; exact (gi_cons dw_194 gi_nil)
set_option maxRecDepth 100000 in
theorem gp_wsJ1_indexOfChar_4cfef : GoodIn lw_tbl wsJ1_indexOfChar_4cfef := by unfold wsJ1_indexOfChar_4cfef; exact (gi_cons dw_195 gi_nil)
set_option maxRecDepth 100000 in
theorem gp_wsJ1_indexOf_4cfef : GoodIn lw_tbl wsJ1_indexOf_4cfef := by unfold wsJ1_indexOf_4cfef; exact (gi_cons dw_183 (goodIn_app gp_wsJ1_indexOf_4cfef_o (goodIn_app gp_wsJ1_canEncode_9a6ad gp_wsJ1_indexOfChar_4cfef)))
set_option maxRecDepth 100000 in
theorem gp_wsJ2_indexOf_4cfef_o : GoodIn lw_tbl wsJ2_indexOf_4cfef_o := by unfold wsJ2_indexOf_4cfef_o; exact (gi_cons dw_203 (gi_cons dw_192 (gi_cons dw_133 (gi_cons dw_191 (gi_cons dw_202 (gi_cons dw_189 (gi_cons dw_188 (gi_cons dw_201 (gi_cons dw_200 (gi_cons dw_199 (gi_cons dw_132 (gi_cons dw_135 (gi_cons dw_131 (gi_cons dw_198 (gi_cons dw_197 (gi_cons dw_130 gi_nil))))))))))))))))
set_option maxRecDepth 100000 in
theorem gp_wsJ2_indexOfChar_4cfef_o : GoodIn lw_tbl wsJ2_indexOfChar_4cfef_o := by unfold wsJ2_indexOfChar_4cfef_o; exact (gi_cons dw_208 (gi_cons dw_207 (gi_cons dw_132 (gi_cons dw_135 (gi_cons dw_131 (gi_cons dw_206 (gi_cons dw_205 gi_nil)))))))
set_option maxRecDepth 100000 in
theorem gp_wsJ2_checkBoundsBeginEnd_d044e_o : GoodIn lw_tbl wsJ2_checkBoundsBeginEnd_d044e_o := by unfold wsJ2_checkBoundsBeginEnd_d044e_o; exact (gi_cons dw_213 (gi_cons dw_212 (gi_cons dw_132 (gi_cons dw_211 (gi_cons dw_210 (gi_cons dw_135 (gi_cons dw_131 gi_nil)))))))
set_option maxRecDepth 100000 in
theorem gp_wsJ2_length_9d52b : GoodIn lw_tbl wsJ2_length_9d52b := by unfold wsJ2_length_9d52b; exact (gi_cons dw_214 gi_nil)
set_option maxRecDepth 100000 in
theorem gp_wsJ0_checkBoundsBeginEnd_23922_o : GoodIn lw_tbl wsJ0_checkBoundsBeginEnd_23922_o := by unfold wsJ0_checkBoundsBeginEnd_23922_o; exact (gi_cons dw_218 (gi_cons dw_217 (gi_cons dw_216 (gi_cons dw_131 gi_nil))))
set_option maxRecDepth 100000 in
theorem gp_wsJ3_checkFromToIndex_8c36e : GoodIn lw_tbl wsJ3_checkFromToIndex_8c36e := by unfold wsJ3_checkFromToIndex_8c36e; exact (gi_cons dw_219 gi_nil)
set_option maxRecDepth 100000 in
theorem gp_wsJ0_checkBoundsBeginEnd_23922 : GoodIn lw_tbl wsJ0_checkBoundsBeginEnd_23922 := by unfold wsJ0_checkBoundsBeginEnd_23922; exact (gi_cons dw_215 (goodIn_app gp_wsJ0_checkBoundsBeginEnd_23922_o gp_wsJ3_checkFromToIndex_8c36e))
set_option maxRecDepth 100000 in
theorem gp_wsJ2_checkBoundsBeginEnd_d044e : GoodIn lw_tbl wsJ2_checkBoundsBeginEnd_d044e := by unfold wsJ2_checkBoundsBeginEnd_d044e; exact (gi_cons dw_209 (goodIn_app gp_wsJ2_checkBoundsBeginEnd_d044e_o (goodIn_app gp_wsJ2_length_9d52b gp_wsJ0_checkBoundsBeginEnd_23922)))
set_option maxRecDepth 100000 in
theorem gp_wsJ2_indexOfCharUnsafe_4cfef_o : GoodIn lw_tbl wsJ2_indexOfCharUnsafe_4cfef_o := by unfold wsJ2_indexOfCharUnsafe_4cfef_o; exact (gi_cons dw_222 (gi_cons dw_221 (gi_cons dw_132 gi_nil)))
set_option maxRecDepth 100000 in
theorem gp_wsJ2_getChar_3b067_o : GoodIn lw_tbl wsJ2_getChar_3b067_o := by unfold wsJ2_getChar_3b067_o; exact (gi_cons dw_226 (gi_cons dw_225 (gi_cons dw_224 (gi_cons dw_213 (gi_cons dw_212 (gi_cons dw_132 gi_nil))))))
set_option maxRecDepth 100000 in
theorem gp_wsJ2_getChar_3b067 : GoodIn lw_tbl wsJ2_getChar_3b067 := by unfold wsJ2_getChar_3b067; exact (gi_cons dw_223 (goodIn_app gp_wsJ2_getChar_3b067_o gp_wsJ2_length_9d52b))
set_option maxRecDepth 100000 in
theorem gp_wsJ2_indexOfCharUnsafe_4cfef : GoodIn lw_tbl wsJ2_indexOfCharUnsafe_4cfef := by unfold wsJ2_indexOfCharUnsafe_4cfef; exact (gi_cons dw_220 (goodIn_app gp_wsJ2_indexOfCharUnsafe_4cfef_o gp_wsJ2_getChar_3b067))
set_option maxRecDepth 100000 in
theorem gp_wsJ2_indexOfChar_4cfef : GoodIn lw_tbl wsJ2_indexOfChar_4cfef := by unfold wsJ2_indexOfChar_4cfef; exact (gi_cons dw_204 (goodIn_app gp_wsJ2_indexOfChar_4cfef_o (goodIn_app gp_wsJ2_checkBoundsBeginEnd_d044e gp_wsJ2_indexOfCharUnsafe_4cfef)))
set_option maxRecDepth 100000 in
theorem gp_wsJ2_indexOfSupplementary_4cfef_o : GoodIn lw_tbl wsJ2_indexOfSupplementary_4cfef_o := by unfold wsJ2_indexOfSupplementary_4cfef_o; exact (gi_cons dw_233 (gi_cons dw_232 (gi_cons dw_130 (gi_cons dw_231 (gi_cons dw_230 (gi_cons dw_229 (gi_cons dw_228 (gi_cons dw_208 (gi_cons dw_207 (gi_cons dw_132 (gi_cons dw_135 (gi_cons dw_131 (gi_cons dw_222 (gi_cons dw_221 gi_nil))))))))))))))
set_option maxRecDepth 100000 in
theorem gp_wsJ11_isValidCodePoint_9a6ad : GoodIn lw_tbl wsJ11_isValidCodePoint_9a6ad := by unfold wsJ11_isValidCodePoint_9a6ad; exact (gi_cons dw_234 gi_nil)
set_option maxRecDepth 100000 in
theorem gp_wsJ11_highSurrogate_5068e : GoodIn lw_tbl wsJ11_highSurrogate_5068e := by unfold wsJ11_highSurrogate_5068e; exact (gi_cons dw_235 (gi_cons dw_236 gi_nil))
set_option maxRecDepth 100000 in
theorem gp_wsJ11_lowSurrogate_5068e : GoodIn lw_tbl wsJ11_lowSurrogate_5068e := by unfold wsJ11_lowSurrogate_5068e; exact (gi_cons dw_237 (gi_cons dw_238 gi_nil))
set_option maxRecDepth 100000 in
theorem gp_wsJ2_indexOfSupplementary_4cfef : GoodIn lw_tbl wsJ2_indexOfSupplementary_4cfef := by unfold wsJ2_indexOfSupplementary_4cfef; exact (gi_cons dw_227 (goodIn_app gp_wsJ2_indexOfSupplementary_4cfef_o (goodIn_app gp_wsJ11_isValidCodePoint_9a6ad (goodIn_app gp_wsJ11_highSurrogate_5068e (goodIn_app gp_wsJ11_lowSurrogate_5068e (goodIn_app gp_wsJ2_checkBoundsBeginEnd_d044e gp_wsJ2_getChar_3b067))))))
set_option maxRecDepth 100000 in
theorem gp_wsJ2_indexOf_4cfef : GoodIn lw_tbl wsJ2_indexOf_4cfef := by unfold wsJ2_indexOf_4cfef; exact (gi_cons dw_196 (goodIn_app gp_wsJ2_indexOf_4cfef_o (goodIn_app gp_wsJ2_indexOfChar_4cfef gp_wsJ2_indexOfSupplementary_4cfef)))
set_option maxRecDepth 100000 in
theorem gp_wsJ0_indexOf_7cf53 : GoodIn lw_tbl wsJ0_indexOf_7cf53 := by unfold wsJ0_indexOf_7cf53; exact (gi_cons dw_163 (goodIn_app gp_wsJ0_indexOf_7cf53_o (goodIn_app gp_wsJ0_isLatin1_aae02 (goodIn_app gp_wsJ0_length_8abf5 (goodIn_app gp_wsJ1_indexOf_4cfef gp_wsJ2_indexOf_4cfef)))))
set_option maxRecDepth 100000 in
theorem gp_wsJ0_indexOf_0f7a4 : GoodIn lw_tbl wsJ0_indexOf_0f7a4 := by unfold wsJ0_indexOf_0f7a4; exact (gi_cons dw_159 (goodIn_app gp_wsJ0_indexOf_0f7a4_o gp_wsJ0_indexOf_7cf53))
set_option maxRecDepth 100000 in
theorem gp_wsX9_splitOne : GoodIn lw_tbl wsX9_splitOne := by unfold wsX9_splitOne; exact (gi_cons dw_129 (goodIn_app (goodIn_app (goodIn_app gp_wsX9_splitOne_o (goodIn_app gp_wsX7_byteAt (goodIn_app gp_wsX9_isLetter (goodIn_app gp_wsX9_splitLetters (goodIn_app gp_wsX9_isDigit (goodIn_app gp_wsX9_splitDigits gp_wsJ0_indexOf_0f7a4)))))) gp_wsX90) gp_wsX70))
set_option maxRecDepth 100000 in
theorem gp_wsX9_split : GoodIn lw_tbl wsX9_split := by unfold wsX9_split; exact (gi_cons dw_109 (goodIn_app (goodIn_app (goodIn_app gp_wsX9_split_o (goodIn_app gp_wsX9_skipBlanks gp_wsX9_splitOne)) gp_wsX90) gp_wsX70))
set_option maxRecDepth 100000 in
theorem gp_wsX40 : GoodIn lw_tbl wsX40 := goodIn_r _ [441, 443, 445, 447, 449, 451, 453, 455] (by decide +kernel) (by decide +kernel)
set_option maxRecDepth 100000 in
theorem gp_wsX4_isAt : GoodIn lw_tbl wsX4_isAt := by unfold wsX4_isAt; exact (gi_cons dw_239 (goodIn_app (goodIn_app (gi_cons dw_70 (gi_cons dw_66 (gi_cons dw_71 gi_nil))) gp_wsX40) gp_wsX90))
set_option maxRecDepth 100000 in
theorem gp_wsX4_readTell_o : GoodIn lw_tbl wsX4_readTell_o := by unfold wsX4_readTell_o; exact (gi_cons dw_66 (gi_cons dw_71 (gi_cons dw_72 (gi_cons dw_258 (gi_cons dw_257 (gi_cons dw_256 (gi_cons dw_45 (gi_cons dw_255 (gi_cons dw_254 (gi_cons dw_253 (gi_cons dw_252 (gi_cons dw_251 (gi_cons dw_250 (gi_cons dw_249 (gi_cons dw_248 (gi_cons dw_247 (gi_cons dw_246 (gi_cons dw_245 (gi_cons dw_244 (gi_cons dw_243 (gi_cons dw_242 (gi_cons dw_241 gi_nil))))))))))))))))))))))
set_option maxRecDepth 100000 in
theorem gp_wsX4_readWave_o : GoodIn lw_tbl wsX4_readWave_o := by unfold wsX4_readWave_o; exact (gi_cons dw_72 (gi_cons dw_66 (gi_cons dw_71 (gi_cons dw_255 (gi_cons dw_254 (gi_cons dw_253 (gi_cons dw_45 (gi_cons dw_252 (gi_cons dw_251 (gi_cons dw_250 (gi_cons dw_249 (gi_cons dw_248 (gi_cons dw_247 (gi_cons dw_262 (gi_cons dw_261 (gi_cons dw_260 gi_nil))))))))))))))))
set_option maxRecDepth 100000 in
theorem gp_wsX4_fail : GoodIn lw_tbl wsX4_fail := by unfold wsX4_fail; exact (gi_cons dw_263 (goodIn_app (goodIn_app (gi_cons dw_70 (gi_cons dw_66 (gi_cons dw_71 (gi_cons dw_69 gi_nil)))) gp_wsX40) gp_wsX90))
set_option maxRecDepth 100000 in
theorem gp_wsX4_take_o : GoodIn lw_tbl wsX4_take_o := by unfold wsX4_take_o; exact (gi_cons dw_71 (gi_cons dw_60 (gi_cons dw_59 (gi_cons dw_58 (gi_cons dw_45 (gi_cons dw_255 (gi_cons dw_254 (gi_cons dw_253 gi_nil))))))))
set_option maxRecDepth 100000 in
theorem gp_wsX4_take : GoodIn lw_tbl wsX4_take := by unfold wsX4_take; exact (gi_cons dw_264 (goodIn_app (goodIn_app (goodIn_app gp_wsX4_take_o (goodIn_app gp_wsX4_isAt gp_wsX4_fail)) gp_wsX40) gp_wsX90))
set_option maxRecDepth 100000 in
theorem gp_wsX4_takeInt_o : GoodIn lw_tbl wsX4_takeInt_o := by unfold wsX4_takeInt_o; exact (gi_cons dw_66 (gi_cons dw_71 (gi_cons dw_60 (gi_cons dw_59 (gi_cons dw_58 (gi_cons dw_45 (gi_cons dw_262 (gi_cons dw_261 (gi_cons dw_260 (gi_cons dw_252 (gi_cons dw_251 (gi_cons dw_250 gi_nil))))))))))))
set_option maxRecDepth 100000 in
theorem gp_wsX4_failLater : GoodIn lw_tbl wsX4_failLater := by unfold wsX4_failLater; exact (gi_cons dw_266 (goodIn_app (gi_cons dw_68 (gi_cons dw_67 gi_nil)) gp_wsX40))
set_option maxRecDepth 100000 in
theorem gp_wsX4_takeInt : GoodIn lw_tbl wsX4_takeInt := by unfold wsX4_takeInt; exact (gi_cons dw_265 (goodIn_app (goodIn_app (goodIn_app gp_wsX4_takeInt_o (goodIn_app gp_wsX4_isAt (goodIn_app gp_wsX4_failLater gp_wsX4_take))) gp_wsX40) gp_wsX90))
set_option maxRecDepth 100000 in
theorem gp_wsX4_readWave : GoodIn lw_tbl wsX4_readWave := by unfold wsX4_readWave; exact (gi_cons dw_259 (goodIn_app (goodIn_app (goodIn_app (goodIn_app gp_wsX4_readWave_o (goodIn_app gp_wsX4_fail (goodIn_app gp_wsX4_take (goodIn_app gp_wsX4_takeInt gp_wsX4_failLater)))) gp_wsX40) gp_wsX50) gp_wsX90))
set_option maxRecDepth 100000 in
theorem gp_wsX4_readParty_o : GoodIn lw_tbl wsX4_readParty_o := by unfold wsX4_readParty_o; exact (gi_cons dw_72 (gi_cons dw_66 (gi_cons dw_71 (gi_cons dw_271 (gi_cons dw_255 (gi_cons dw_254 (gi_cons dw_253 (gi_cons dw_45 (gi_cons dw_252 (gi_cons dw_251 (gi_cons dw_250 (gi_cons dw_60 (gi_cons dw_59 (gi_cons dw_58 (gi_cons dw_270 (gi_cons dw_269 (gi_cons dw_268 (gi_cons dw_262 (gi_cons dw_261 (gi_cons dw_260 (gi_cons dw_249 (gi_cons dw_248 (gi_cons dw_247 gi_nil)))))))))))))))))))))))
set_option maxRecDepth 100000 in
theorem gp_wsX4_isTold : GoodIn lw_tbl wsX4_isTold := by unfold wsX4_isTold; exact (gi_cons dw_272 (goodIn_app (goodIn_app (gi_cons dw_72 (gi_cons dw_271 gi_nil)) gp_wsX40) gp_wsX50))
set_option maxRecDepth 100000 in
theorem gp_wsX4_readParty : GoodIn lw_tbl wsX4_readParty := by unfold wsX4_readParty; exact (gi_cons dw_267 (goodIn_app (goodIn_app (goodIn_app (goodIn_app gp_wsX4_readParty_o (goodIn_app gp_wsX4_fail (goodIn_app gp_wsX4_take (goodIn_app gp_wsX4_isAt (goodIn_app gp_wsX4_isTold (goodIn_app gp_wsX4_failLater gp_wsX4_takeInt)))))) gp_wsX40) gp_wsX50) gp_wsX90))
set_option maxRecDepth 100000 in
theorem gp_wsX4_readLaw_o : GoodIn lw_tbl wsX4_readLaw_o := by unfold wsX4_readLaw_o; exact (gi_cons dw_72 (gi_cons dw_252 (gi_cons dw_251 (gi_cons dw_250 (gi_cons dw_45 (gi_cons dw_60 (gi_cons dw_59 (gi_cons dw_58 (gi_cons dw_255 (gi_cons dw_254 (gi_cons dw_253 (gi_cons dw_93 (gi_cons dw_75 (gi_cons dw_92 (gi_cons dw_276 (gi_cons dw_275 (gi_cons dw_274 gi_nil)))))))))))))))))
set_option maxRecDepth 100000 in
theorem gp_wsX4_readPart_o : GoodIn lw_tbl wsX4_readPart_o := by unfold wsX4_readPart_o; exact (gi_cons dw_72 (gi_cons dw_280 (gi_cons dw_279 (gi_cons dw_278 (gi_cons dw_45 (gi_cons dw_252 (gi_cons dw_251 (gi_cons dw_250 (gi_cons dw_75 (gi_cons dw_87 (gi_cons dw_86 gi_nil)))))))))))
set_option maxRecDepth 100000 in
theorem gp_wsX4_readSum_r1 : GoodIn lw_tbl wsX4_readSum_r1 := by unfold wsX4_readSum_r1; exact (gi_cons dw_66 (gi_cons dw_71 (gi_cons dw_72 (gi_cons dw_286 (gi_cons dw_285 (gi_cons dw_284 (gi_cons dw_45 (gi_cons dw_60 (gi_cons dw_59 (gi_cons dw_58 (gi_cons dw_239 (gi_cons dw_70 (gi_cons dw_252 (gi_cons dw_251 (gi_cons dw_250 (gi_cons dw_264 (gi_cons dw_255 (gi_cons dw_254 (gi_cons dw_253 (gi_cons dw_263 (gi_cons dw_69 (gi_cons dw_283 (gi_cons dw_75 (gi_cons dw_282 gi_nil))))))))))))))))))))))))
set_option maxRecDepth 100000 in
theorem gp_wsX4_readSum_r2 : GoodIn lw_tbl wsX4_readSum_r2 := by unfold wsX4_readSum_r2; exact (gi_cons dw_292 (gi_cons dw_103 (gi_cons dw_102 (gi_cons dw_101 (gi_cons dw_104 (gi_cons dw_95 (gi_cons dw_105 (gi_cons dw_291 (gi_cons dw_290 (gi_cons dw_289 (gi_cons dw_288 (gi_cons dw_287 (gi_cons dw_84 (gi_cons dw_83 (gi_cons dw_108 (gi_cons dw_90 (gi_cons dw_89 (gi_cons dw_100 (gi_cons dw_280 (gi_cons dw_279 (gi_cons dw_278 gi_nil)))))))))))))))))))))
set_option maxRecDepth 100000 in
theorem gp_wsX4_readSum : GoodIn lw_tbl wsX4_readSum := by unfold wsX4_readSum; exact (gi_cons dw_281 (goodIn_app (goodIn_app (goodIn_app (goodIn_app (goodIn_app gp_wsX4_readSum_r1 gp_wsX4_readSum_r2) gp_wsX40) gp_wsX90) gp_wsX50) gp_wsX10))
set_option maxRecDepth 100000 in
theorem gp_wsX4_readPart : GoodIn lw_tbl wsX4_readPart := by unfold wsX4_readPart; exact (gi_cons dw_277 (goodIn_app (goodIn_app (goodIn_app (goodIn_app (goodIn_app gp_wsX4_readPart_o (goodIn_app gp_wsX4_readSum (goodIn_app gp_wsX1_endPart gp_wsX4_take))) gp_wsX40) gp_wsX50) gp_wsX90) gp_wsX10))
set_option maxRecDepth 100000 in
theorem gp_wsX4_readLaw : GoodIn lw_tbl wsX4_readLaw := by unfold wsX4_readLaw; exact (gi_cons dw_273 (goodIn_app (goodIn_app (goodIn_app (goodIn_app (goodIn_app gp_wsX4_readLaw_o (goodIn_app gp_wsX4_take (goodIn_app gp_wsX1_begin (goodIn_app gp_wsX4_isAt (goodIn_app gp_wsX4_fail gp_wsX4_readPart))))) gp_wsX40) gp_wsX50) gp_wsX90) gp_wsX10))
set_option maxRecDepth 100000 in
theorem gp_wsX4_readTell : GoodIn lw_tbl wsX4_readTell := by unfold wsX4_readTell; exact (gi_cons dw_240 (goodIn_app (goodIn_app (goodIn_app (goodIn_app (goodIn_app gp_wsX4_readTell_o (goodIn_app gp_wsX4_readWave (goodIn_app gp_wsX4_readParty (goodIn_app gp_wsX4_take (goodIn_app gp_wsX4_takeInt (goodIn_app gp_wsX4_readLaw gp_wsX4_fail)))))) gp_wsX40) gp_wsX90) gp_wsX50) gp_wsX10))
set_option maxRecDepth 100000 in
theorem gp_wsX5_addUp_o : GoodIn lw_tbl wsX5_addUp_o := by unfold wsX5_addUp_o; exact (gi_cons dw_79 (gi_cons dw_81 (gi_cons dw_298 (gi_cons dw_297 (gi_cons dw_296 (gi_cons dw_295 (gi_cons dw_294 (gi_cons dw_43 gi_nil))))))))
set_option maxRecDepth 100000 in
theorem gp_wsX5_oddsAt : GoodIn lw_tbl wsX5_oddsAt := by unfold wsX5_oddsAt; exact (gi_cons dw_299 (goodIn_app (gi_cons dw_300 gi_nil) gp_wsX50))
set_option maxRecDepth 100000 in
theorem gp_wsX5_addUp : GoodIn lw_tbl wsX5_addUp := by unfold wsX5_addUp; exact (gi_cons dw_293 (goodIn_app (goodIn_app gp_wsX5_addUp_o gp_wsX5_oddsAt) gp_wsX50))
set_option maxRecDepth 100000 in
theorem gp_wsX4_readTape : GoodIn lw_tbl wsX4_readTape := by unfold wsX4_readTape; exact (gi_cons dw_52 (goodIn_app (goodIn_app (goodIn_app (goodIn_app (goodIn_app (goodIn_app gp_wsX4_readTape_o (goodIn_app gp_wsX5_clear (goodIn_app gp_wsX9_split (goodIn_app gp_wsX4_isAt (goodIn_app gp_wsX4_readTell gp_wsX5_addUp))))) gp_wsX40) gp_wsX50) gp_wsX10) gp_wsX90) gp_wsX70))
set_option maxRecDepth 100000 in
theorem gp_wsX5_copyFrom_o : GoodIn lw_tbl wsX5_copyFrom_o := by unfold wsX5_copyFrom_o; exact (gi_cons dw_300 (gi_cons dw_309 (gi_cons dw_308 (gi_cons dw_307 (gi_cons dw_306 (gi_cons dw_298 (gi_cons dw_297 (gi_cons dw_305 (gi_cons dw_304 (gi_cons dw_77 (gi_cons dw_81 (gi_cons dw_80 (gi_cons dw_79 (gi_cons dw_78 (gi_cons dw_303 (gi_cons dw_75 (gi_cons dw_302 gi_nil)))))))))))))))))
set_option maxRecDepth 100000 in
theorem gp_wsX1_copyFrom : GoodIn lw_tbl wsX1_copyFrom := by unfold wsX1_copyFrom; exact (gi_cons dw_310 (goodIn_app (gi_cons dw_105 (gi_cons dw_311 (gi_cons dw_308 (gi_cons dw_307 (gi_cons dw_306 (gi_cons dw_107 (gi_cons dw_98 (gi_cons dw_97 (gi_cons dw_95 gi_nil))))))))) gp_wsX10))
set_option maxRecDepth 100000 in
theorem gp_wsX5_copyFrom : GoodIn lw_tbl wsX5_copyFrom := by unfold wsX5_copyFrom; exact (gi_cons dw_301 (goodIn_app (goodIn_app (goodIn_app gp_wsX5_copyFrom_o gp_wsX1_copyFrom) gp_wsX50) gp_wsX10))
set_option maxRecDepth 100000 in
theorem gp_wsX6_startOver_o : GoodIn lw_tbl wsX6_startOver_o := by unfold wsX6_startOver_o; exact (gi_cons dw_322 (gi_cons dw_321 (gi_cons dw_320 (gi_cons dw_319 (gi_cons dw_318 (gi_cons dw_317 (gi_cons dw_316 (gi_cons dw_315 (gi_cons dw_314 (gi_cons dw_313 gi_nil))))))))))
set_option maxRecDepth 100000 in
theorem gp_wsJ7_fill_53178 : GoodIn lw_tbl wsJ7_fill_53178 := by unfold wsJ7_fill_53178; exact (gi_cons dw_323 gi_nil)
set_option maxRecDepth 100000 in
theorem gp_wsX60 : GoodIn lw_tbl wsX60 := goodIn_r _ [488, 490, 492, 494, 496, 498, 500] (by decide +kernel) (by decide +kernel)
set_option maxRecDepth 100000 in
theorem gp_wsX6_startOver : GoodIn lw_tbl wsX6_startOver := by unfold wsX6_startOver; exact (gi_cons dw_312 (goodIn_app (goodIn_app gp_wsX6_startOver_o gp_wsJ7_fill_53178) gp_wsX60))
set_option maxRecDepth 100000 in
theorem gp_wsX30 : GoodIn lw_tbl wsX30 := goodIn_r _ [518, 520, 522, 524, 526] (by decide +kernel) (by decide +kernel)
set_option maxRecDepth 100000 in
theorem gp_wsX3_forgetAll : GoodIn lw_tbl wsX3_forgetAll := by unfold wsX3_forgetAll; exact (gi_cons dw_324 (goodIn_app (gi_cons dw_326 (gi_cons dw_325 gi_nil)) gp_wsX30))
set_option maxRecDepth 100000 in
theorem gp_wsX80 : GoodIn lw_tbl wsX80 := goodIn_r _ [583, 585, 587, 589, 591, 593, 595, 597] (by decide +kernel) (by decide +kernel)
set_option maxRecDepth 100000 in
theorem gp_wsX10_read : GoodIn lw_tbl wsX10_read := by unfold wsX10_read; exact (gi_cons dw_34 (goodIn_app (goodIn_app (goodIn_app (goodIn_app (goodIn_app (goodIn_app (goodIn_app (goodIn_app (goodIn_app (goodIn_app gp_wsX10_read_o (goodIn_app gp_wsX4_readTape (goodIn_app gp_wsX5_copyFrom (goodIn_app gp_wsX6_startOver gp_wsX3_forgetAll)))) gp_wsX100) gp_wsX70) gp_wsX40) gp_wsX80) gp_wsX50) gp_wsX10) gp_wsX90) gp_wsX60) gp_wsX30))
set_option maxRecDepth 100000 in
theorem gp_wsX11_read_o : GoodIn lw_tbl wsX11_read_o := by unfold wsX11_read_o; exact (gi_cons dw_20 (gi_cons dw_364 (gi_cons dw_363 (gi_cons dw_22 (gi_cons dw_362 (gi_cons dw_361 (gi_cons dw_360 (gi_cons dw_359 (gi_cons dw_358 (gi_cons dw_357 (gi_cons dw_356 (gi_cons dw_355 (gi_cons dw_354 (gi_cons dw_353 (gi_cons dw_352 (gi_cons dw_351 (gi_cons dw_350 (gi_cons dw_349 (gi_cons dw_348 (gi_cons dw_347 (gi_cons dw_346 (gi_cons dw_16 (gi_cons dw_345 (gi_cons dw_344 (gi_cons dw_343 (gi_cons dw_342 (gi_cons dw_341 (gi_cons dw_340 (gi_cons dw_339 (gi_cons dw_338 (gi_cons dw_337 (gi_cons dw_336 (gi_cons dw_335 (gi_cons dw_334 (gi_cons dw_333 (gi_cons dw_332 (gi_cons dw_331 gi_nil)))))))))))))))))))))))))))))))))))))
set_option maxRecDepth 100000 in
theorem gp_wsX11_cut_o : GoodIn lw_tbl wsX11_cut_o := by unfold wsX11_cut_o; exact (gi_cons dw_382 (gi_cons dw_364 (gi_cons dw_381 (gi_cons dw_380 (gi_cons dw_379 (gi_cons dw_378 (gi_cons dw_16 (gi_cons dw_377 (gi_cons dw_376 (gi_cons dw_375 (gi_cons dw_374 (gi_cons dw_373 (gi_cons dw_372 (gi_cons dw_371 (gi_cons dw_370 (gi_cons dw_369 (gi_cons dw_368 (gi_cons dw_367 (gi_cons dw_366 gi_nil)))))))))))))))))))
set_option maxRecDepth 100000 in
theorem gp_wsX11_byteAt : GoodIn lw_tbl wsX11_byteAt := by unfold wsX11_byteAt; exact (gi_cons dw_383 (goodIn_app (gi_cons dw_364 (gi_cons dw_363 gi_nil)) gp_wsX110))
set_option maxRecDepth 100000 in
theorem gp_wsX11_token : GoodIn lw_tbl wsX11_token := by unfold wsX11_token; exact (gi_cons dw_384 (goodIn_app (gi_cons dw_388 (gi_cons dw_382 (gi_cons dw_387 (gi_cons dw_386 (gi_cons dw_385 gi_nil))))) gp_wsX110))
set_option maxRecDepth 100000 in
theorem gp_wsX11_isLetter : GoodIn lw_tbl wsX11_isLetter := by unfold wsX11_isLetter; exact (gi_cons dw_389 gi_nil)
set_option maxRecDepth 100000 in
theorem gp_wsX11_appends : GoodIn lw_tbl wsX11_appends := by unfold wsX11_appends; exact (gi_cons dw_390 (gi_cons dw_391 gi_nil))
set_option maxRecDepth 100000 in
theorem gp_wsX11_isDigit : GoodIn lw_tbl wsX11_isDigit := by unfold wsX11_isDigit; exact (gi_cons dw_392 gi_nil)
set_option maxRecDepth 100000 in
theorem gp_wsX11_sign_o : GoodIn lw_tbl wsX11_sign_o := by unfold wsX11_sign_o; exact (gi_cons dw_377 (gi_cons dw_376 (gi_cons dw_375 (gi_cons dw_16 gi_nil))))
set_option maxRecDepth 100000 in
theorem gp_wsX11_sign : GoodIn lw_tbl wsX11_sign := by unfold wsX11_sign; exact (gi_cons dw_393 (goodIn_app (goodIn_app gp_wsX11_sign_o gp_wsX11_token) gp_wsX110))
set_option maxRecDepth 100000 in
theorem gp_wsX11_cut : GoodIn lw_tbl wsX11_cut := by unfold wsX11_cut; exact (gi_cons dw_365 (goodIn_app (goodIn_app gp_wsX11_cut_o (goodIn_app gp_wsX11_byteAt (goodIn_app gp_wsX11_token (goodIn_app gp_wsX11_isLetter (goodIn_app gp_wsX11_appends (goodIn_app gp_wsX11_isDigit gp_wsX11_sign)))))) gp_wsX110))
set_option maxRecDepth 100000 in
theorem gp_wsX11_plain : GoodIn lw_tbl wsX11_plain := by unfold wsX11_plain; exact (gi_cons dw_394 (goodIn_app (gi_cons dw_399 (gi_cons dw_398 (gi_cons dw_397 (gi_cons dw_396 (gi_cons dw_395 gi_nil))))) gp_wsX110))
set_option maxRecDepth 100000 in
theorem gp_wsX11_is : GoodIn lw_tbl wsX11_is := by unfold wsX11_is; exact (gi_cons dw_400 (goodIn_app (gi_cons dw_360 (gi_cons dw_388 (gi_cons dw_362 gi_nil))) gp_wsX110))
set_option maxRecDepth 100000 in
theorem gp_wsX11_tellOne_o : GoodIn lw_tbl wsX11_tellOne_o := by unfold wsX11_tellOne_o; exact (gi_cons dw_388 (gi_cons dw_362 (gi_cons dw_399 (gi_cons dw_357 (gi_cons dw_360 (gi_cons dw_398 (gi_cons dw_397 (gi_cons dw_425 (gi_cons dw_424 (gi_cons dw_423 (gi_cons dw_16 (gi_cons dw_422 (gi_cons dw_421 (gi_cons dw_420 (gi_cons dw_419 (gi_cons dw_418 (gi_cons dw_417 (gi_cons dw_416 (gi_cons dw_415 (gi_cons dw_414 (gi_cons dw_413 (gi_cons dw_412 (gi_cons dw_411 (gi_cons dw_410 (gi_cons dw_409 (gi_cons dw_408 (gi_cons dw_407 (gi_cons dw_406 (gi_cons dw_405 (gi_cons dw_404 (gi_cons dw_403 (gi_cons dw_402 gi_nil))))))))))))))))))))))))))))))))
set_option maxRecDepth 100000 in
theorem gp_wsX11_roomFor_o : GoodIn lw_tbl wsX11_roomFor_o := by unfold wsX11_roomFor_o; exact (gi_cons dw_360 (gi_cons dw_422 (gi_cons dw_421 (gi_cons dw_420 (gi_cons dw_16 (gi_cons dw_419 (gi_cons dw_418 (gi_cons dw_417 gi_nil))))))))
set_option maxRecDepth 100000 in
theorem gp_wsX11_fail : GoodIn lw_tbl wsX11_fail := by unfold wsX11_fail; exact (gi_cons dw_427 (goodIn_app (gi_cons dw_360 (gi_cons dw_387 (gi_cons dw_362 (gi_cons dw_354 gi_nil)))) gp_wsX110))
set_option maxRecDepth 100000 in
theorem gp_wsX11_goesOn_o : GoodIn lw_tbl wsX11_goesOn_o := by unfold wsX11_goesOn_o; exact (gi_cons dw_362 (gi_cons dw_422 (gi_cons dw_421 (gi_cons dw_420 (gi_cons dw_16 gi_nil)))))
set_option maxRecDepth 100000 in
theorem gp_wsX11_goesOn : GoodIn lw_tbl wsX11_goesOn := by unfold wsX11_goesOn; exact (gi_cons dw_428 (goodIn_app (goodIn_app gp_wsX11_goesOn_o gp_wsX11_fail) gp_wsX110))
set_option maxRecDepth 100000 in
theorem gp_wsX11_roomFor : GoodIn lw_tbl wsX11_roomFor := by unfold wsX11_roomFor; exact (gi_cons dw_426 (goodIn_app (goodIn_app gp_wsX11_roomFor_o (goodIn_app gp_wsX11_fail gp_wsX11_goesOn)) gp_wsX110))
set_option maxRecDepth 100000 in
theorem gp_wsX11_tellWave_o : GoodIn lw_tbl wsX11_tellWave_o := by unfold wsX11_tellWave_o; exact (gi_cons dw_357 (gi_cons dw_399 (gi_cons dw_362 (gi_cons dw_433 (gi_cons dw_360 (gi_cons dw_413 (gi_cons dw_412 (gi_cons dw_411 (gi_cons dw_16 (gi_cons dw_432 (gi_cons dw_431 (gi_cons dw_430 (gi_cons dw_410 (gi_cons dw_409 (gi_cons dw_408 gi_nil)))))))))))))))
set_option maxRecDepth 100000 in
theorem gp_wsX11_bounded_o : GoodIn lw_tbl wsX11_bounded_o := by unfold wsX11_bounded_o; exact (gi_cons dw_360 (gi_cons dw_386 (gi_cons dw_362 (gi_cons dw_342 (gi_cons dw_341 (gi_cons dw_340 (gi_cons dw_16 (gi_cons dw_422 (gi_cons dw_421 (gi_cons dw_420 (gi_cons dw_432 (gi_cons dw_431 (gi_cons dw_430 (gi_cons dw_419 (gi_cons dw_418 (gi_cons dw_417 gi_nil))))))))))))))))
set_option maxRecDepth 100000 in
theorem gp_wsX11_wrong : GoodIn lw_tbl wsX11_wrong := by unfold wsX11_wrong; exact (gi_cons dw_435 (goodIn_app (gi_cons dw_387 (gi_cons dw_360 (gi_cons dw_359 (gi_cons dw_353 gi_nil)))) gp_wsX110))
set_option maxRecDepth 100000 in
theorem gp_wsX11_bounded : GoodIn lw_tbl wsX11_bounded := by unfold wsX11_bounded; exact (gi_cons dw_434 (goodIn_app (goodIn_app gp_wsX11_bounded_o (goodIn_app gp_wsX11_is (goodIn_app gp_wsX11_fail (goodIn_app gp_wsX11_wrong gp_wsX11_goesOn)))) gp_wsX110))
set_option maxRecDepth 100000 in
theorem gp_wsX11_must_o : GoodIn lw_tbl wsX11_must_o := by unfold wsX11_must_o; exact (gi_cons dw_342 (gi_cons dw_341 (gi_cons dw_340 (gi_cons dw_16 (gi_cons dw_419 (gi_cons dw_418 (gi_cons dw_417 (gi_cons dw_422 (gi_cons dw_421 (gi_cons dw_420 gi_nil))))))))))
set_option maxRecDepth 100000 in
theorem gp_wsX11_must : GoodIn lw_tbl wsX11_must := by unfold wsX11_must; exact (gi_cons dw_436 (goodIn_app (goodIn_app gp_wsX11_must_o (goodIn_app gp_wsX11_is (goodIn_app gp_wsX11_goesOn gp_wsX11_fail))) gp_wsX110))
set_option maxRecDepth 100000 in
theorem gp_wsX11_tellWave : GoodIn lw_tbl wsX11_tellWave := by unfold wsX11_tellWave; exact (gi_cons dw_429 (goodIn_app (goodIn_app gp_wsX11_tellWave_o (goodIn_app gp_wsX11_bounded (goodIn_app gp_wsX11_wrong gp_wsX11_must))) gp_wsX110))
set_option maxRecDepth 100000 in
theorem gp_wsX11_tellParty_o : GoodIn lw_tbl wsX11_tellParty_o := by unfold wsX11_tellParty_o; exact (gi_cons dw_357 (gi_cons dw_398 (gi_cons dw_362 (gi_cons dw_360 (gi_cons dw_440 (gi_cons dw_385 (gi_cons dw_439 (gi_cons dw_438 (gi_cons dw_410 (gi_cons dw_409 (gi_cons dw_408 (gi_cons dw_16 (gi_cons dw_432 (gi_cons dw_431 (gi_cons dw_430 (gi_cons dw_413 (gi_cons dw_412 (gi_cons dw_411 gi_nil))))))))))))))))))
set_option maxRecDepth 100000 in
theorem gp_wsX11_tellParty : GoodIn lw_tbl wsX11_tellParty := by unfold wsX11_tellParty; exact (gi_cons dw_437 (goodIn_app (goodIn_app gp_wsX11_tellParty_o (goodIn_app gp_wsX11_must (goodIn_app gp_wsX11_wrong gp_wsX11_bounded))) gp_wsX110))
set_option maxRecDepth 100000 in
theorem gp_wsX11_tellLaw_o : GoodIn lw_tbl wsX11_tellLaw_o := by unfold wsX11_tellLaw_o; exact (gi_cons dw_356 (gi_cons dw_360 (gi_cons dw_450 (gi_cons dw_449 (gi_cons dw_355 (gi_cons dw_448 (gi_cons dw_396 (gi_cons dw_357 (gi_cons dw_395 (gi_cons dw_410 (gi_cons dw_409 (gi_cons dw_408 (gi_cons dw_16 (gi_cons dw_342 (gi_cons dw_341 (gi_cons dw_340 (gi_cons dw_419 (gi_cons dw_418 (gi_cons dw_417 (gi_cons dw_422 (gi_cons dw_421 (gi_cons dw_420 (gi_cons dw_447 (gi_cons dw_446 (gi_cons dw_445 (gi_cons dw_444 (gi_cons dw_443 (gi_cons dw_442 gi_nil))))))))))))))))))))))))))))
set_option maxRecDepth 100000 in
theorem gp_wsX11_expression_o : GoodIn lw_tbl wsX11_expression_o := by unfold wsX11_expression_o; exact (gi_cons dw_459 (gi_cons dw_361 (gi_cons dw_360 (gi_cons dw_458 (gi_cons dw_388 (gi_cons dw_362 (gi_cons dw_342 (gi_cons dw_341 (gi_cons dw_340 (gi_cons dw_16 (gi_cons dw_422 (gi_cons dw_421 (gi_cons dw_420 (gi_cons dw_419 (gi_cons dw_418 (gi_cons dw_417 (gi_cons dw_457 (gi_cons dw_456 (gi_cons dw_455 (gi_cons dw_454 (gi_cons dw_453 (gi_cons dw_452 gi_nil))))))))))))))))))))))
set_option maxRecDepth 100000 in
theorem gp_wsX11_unit_o : GoodIn lw_tbl wsX11_unit_o := by unfold wsX11_unit_o; exact (gi_cons dw_386 (gi_cons dw_362 (gi_cons dw_360 (gi_cons dw_388 (gi_cons dw_342 (gi_cons dw_341 (gi_cons dw_340 (gi_cons dw_16 (gi_cons dw_463 (gi_cons dw_462 (gi_cons dw_461 (gi_cons dw_419 (gi_cons dw_418 (gi_cons dw_417 (gi_cons dw_422 (gi_cons dw_421 (gi_cons dw_420 gi_nil)))))))))))))))))
set_option maxRecDepth 100000 in
theorem gp_wsX11_emit : GoodIn lw_tbl wsX11_emit := by unfold wsX11_emit; exact (gi_cons dw_464 (goodIn_app (gi_cons dw_466 (gi_cons dw_355 (gi_cons dw_465 gi_nil))) gp_wsX110))
set_option maxRecDepth 100000 in
theorem gp_wsX11_unit : GoodIn lw_tbl wsX11_unit := by unfold wsX11_unit; exact (gi_cons dw_460 (goodIn_app (goodIn_app gp_wsX11_unit_o (goodIn_app gp_wsX11_is (goodIn_app gp_wsX11_emit (goodIn_app gp_wsX11_goesOn gp_wsX11_fail)))) gp_wsX110))
set_option maxRecDepth 100000 in
theorem gp_wsX11_comesOut_o : GoodIn lw_tbl wsX11_comesOut_o := by unfold wsX11_comesOut_o; exact (gi_cons dw_459 (gi_cons dw_458 (gi_cons dw_463 (gi_cons dw_462 (gi_cons dw_461 (gi_cons dw_16 gi_nil))))))
set_option maxRecDepth 100000 in
theorem gp_wsX11_comesOut : GoodIn lw_tbl wsX11_comesOut := by unfold wsX11_comesOut; exact (gi_cons dw_467 (goodIn_app (goodIn_app gp_wsX11_comesOut_o gp_wsX11_emit) gp_wsX110))
set_option maxRecDepth 100000 in
theorem gp_wsX11_expression : GoodIn lw_tbl wsX11_expression := by unfold wsX11_expression; exact (gi_cons dw_451 (goodIn_app (goodIn_app gp_wsX11_expression_o (goodIn_app gp_wsX11_is (goodIn_app gp_wsX11_fail (goodIn_app gp_wsX11_goesOn (goodIn_app gp_wsX11_unit gp_wsX11_comesOut))))) gp_wsX110))
set_option maxRecDepth 100000 in
theorem gp_wsX11_term_o : GoodIn lw_tbl wsX11_term_o := by unfold wsX11_term_o; exact (gi_cons dw_470 (gi_cons dw_356 (gi_cons dw_355 (gi_cons dw_360 (gi_cons dw_469 (gi_cons dw_447 (gi_cons dw_446 (gi_cons dw_445 (gi_cons dw_16 gi_nil)))))))))
set_option maxRecDepth 100000 in
theorem gp_wsX11_term : GoodIn lw_tbl wsX11_term := by unfold wsX11_term; exact (gi_cons dw_468 (goodIn_app (goodIn_app gp_wsX11_term_o gp_wsX11_expression) gp_wsX110))
set_option maxRecDepth 100000 in
theorem gp_wsX11_tellLaw : GoodIn lw_tbl wsX11_tellLaw := by unfold wsX11_tellLaw; exact (gi_cons dw_441 (goodIn_app (goodIn_app gp_wsX11_tellLaw_o (goodIn_app gp_wsX11_must (goodIn_app gp_wsX11_is (goodIn_app gp_wsX11_fail (goodIn_app gp_wsX11_goesOn (goodIn_app gp_wsX11_expression gp_wsX11_term)))))) gp_wsX110))
set_option maxRecDepth 100000 in
theorem gp_wsX11_tellOne : GoodIn lw_tbl wsX11_tellOne := by unfold wsX11_tellOne; exact (gi_cons dw_401 (goodIn_app (goodIn_app gp_wsX11_tellOne_o (goodIn_app gp_wsX11_roomFor (goodIn_app gp_wsX11_tellWave (goodIn_app gp_wsX11_tellParty (goodIn_app gp_wsX11_goesOn (goodIn_app gp_wsX11_bounded (goodIn_app gp_wsX11_must (goodIn_app gp_wsX11_fail gp_wsX11_tellLaw)))))))) gp_wsX110))
set_option maxRecDepth 100000 in
theorem gp_wsX11_begins : GoodIn lw_tbl wsX11_begins := by unfold wsX11_begins; exact (gi_cons dw_471 (goodIn_app (gi_cons dw_474 (gi_cons dw_473 (gi_cons dw_397 (gi_cons dw_358 (gi_cons dw_472 gi_nil))))) gp_wsX110))
set_option maxRecDepth 100000 in
theorem gp_wsX11_keepsRow : GoodIn lw_tbl wsX11_keepsRow := by unfold wsX11_keepsRow; exact (gi_cons dw_475 (goodIn_app (gi_cons dw_476 (gi_cons dw_474 gi_nil)) gp_wsX110))
set_option maxRecDepth 100000 in
theorem gp_wsX11_read : GoodIn lw_tbl wsX11_read := by unfold wsX11_read; exact (gi_cons dw_330 (goodIn_app (goodIn_app gp_wsX11_read_o (goodIn_app gp_wsX11_cut (goodIn_app gp_wsX11_plain (goodIn_app gp_wsX11_is (goodIn_app gp_wsX11_tellOne (goodIn_app gp_wsX11_begins gp_wsX11_keepsRow)))))) gp_wsX110))
set_option maxRecDepth 100000 in
theorem gp_wsX10_place : GoodIn lw_tbl wsX10_place := by unfold wsX10_place; exact (gi_cons dw_480 (goodIn_app (goodIn_app (gi_cons dw_51 gi_nil) gp_wsX100) gp_wsX40))
set_option maxRecDepth 100000 in
theorem gp_wsX11_place : GoodIn lw_tbl wsX11_place := by unfold wsX11_place; exact (gi_cons dw_484 (goodIn_app (gi_cons dw_352 gi_nil) gp_wsX110))
set_option maxRecDepth 100000 in
theorem gp_wsX10_wave_o : GoodIn lw_tbl wsX10_wave_o := by unfold wsX10_wave_o; exact (gi_cons dw_50 (gi_cons dw_498 (gi_cons dw_49 (gi_cons dw_497 (gi_cons dw_43 (gi_cons dw_496 (gi_cons dw_495 (gi_cons dw_494 (gi_cons dw_493 (gi_cons dw_492 (gi_cons dw_491 (gi_cons dw_490 (gi_cons dw_489 gi_nil)))))))))))))
set_option maxRecDepth 100000 in
theorem gp_wsX5_hasWave : GoodIn lw_tbl wsX5_hasWave := by unfold wsX5_hasWave; exact (gi_cons dw_499 (goodIn_app (gi_cons dw_81 gi_nil) gp_wsX50))
set_option maxRecDepth 100000 in
theorem gp_wsX00 : GoodIn lw_tbl wsX00 := goodIn_r _ [538, 540] (by decide +kernel) (by decide +kernel)
set_option maxRecDepth 100000 in
theorem gp_wsX0_mayBe : GoodIn lw_tbl wsX0_mayBe := by unfold wsX0_mayBe; exact (gi_cons dw_500 (goodIn_app (goodIn_app (goodIn_app (gi_cons dw_501 gi_nil) gp_wsX60) gp_wsX00) gp_wsX50))
set_option maxRecDepth 100000 in
theorem gp_wsX0_thereNow_o : GoodIn lw_tbl wsX0_thereNow_o := by unfold wsX0_thereNow_o; exact (gi_cons dw_501 (gi_cons dw_504 (gi_cons dw_43 (gi_cons dw_503 gi_nil))))
set_option maxRecDepth 100000 in
theorem gp_wsX5_thingThere_o : GoodIn lw_tbl wsX5_thingThere_o := by unfold wsX5_thingThere_o; exact (gi_cons dw_298 (gi_cons dw_506 (gi_cons dw_11 (gi_cons dw_296 (gi_cons dw_295 (gi_cons dw_294 (gi_cons dw_43 gi_nil)))))))
set_option maxRecDepth 100000 in
theorem gp_wsX10_lot_o : GoodIn lw_tbl wsX10_lot_o := by unfold wsX10_lot_o; exact (gi_cons dw_509 (gi_cons dw_508 (gi_cons dw_11 gi_nil)))
set_option maxRecDepth 100000 in
theorem gp_wsX10_stirred : GoodIn lw_tbl wsX10_stirred := by unfold wsX10_stirred; exact (gi_cons dw_510 (gi_cons dw_511 gi_nil))
set_option maxRecDepth 100000 in
theorem gp_wsX10_lot : GoodIn lw_tbl wsX10_lot := by unfold wsX10_lot; exact (gi_cons dw_507 (goodIn_app gp_wsX10_lot_o gp_wsX10_stirred))
set_option maxRecDepth 100000 in
theorem gp_wsX5_thingThere : GoodIn lw_tbl wsX5_thingThere := by unfold wsX5_thingThere; exact (gi_cons dw_505 (goodIn_app (goodIn_app gp_wsX5_thingThere_o (goodIn_app gp_wsX10_lot gp_wsX5_oddsAt)) gp_wsX50))
set_option maxRecDepth 100000 in
theorem gp_wsX0_thereNow : GoodIn lw_tbl wsX0_thereNow := by unfold wsX0_thereNow; exact (gi_cons dw_502 (goodIn_app (goodIn_app (goodIn_app (goodIn_app gp_wsX0_thereNow_o gp_wsX5_thingThere) gp_wsX00) gp_wsX60) gp_wsX50))
set_option maxRecDepth 100000 in
theorem gp_wsX0_shiftsOf_o : GoodIn lw_tbl wsX0_shiftsOf_o := by unfold wsX0_shiftsOf_o; exact (gi_cons dw_501 (gi_cons dw_521 (gi_cons dw_520 (gi_cons dw_519 (gi_cons dw_494 (gi_cons dw_518 (gi_cons dw_517 (gi_cons dw_516 (gi_cons dw_515 (gi_cons dw_75 (gi_cons dw_514 (gi_cons dw_513 (gi_cons dw_11 gi_nil)))))))))))))
set_option maxRecDepth 100000 in
theorem gp_wsX0_clearVars_o : GoodIn lw_tbl wsX0_clearVars_o := by unfold wsX0_clearVars_o; exact (gi_cons dw_524 (gi_cons dw_523 (gi_cons dw_314 (gi_cons dw_313 gi_nil))))
set_option maxRecDepth 100000 in
theorem gp_wsX0_clearVars : GoodIn lw_tbl wsX0_clearVars := by unfold wsX0_clearVars; exact (gi_cons dw_522 (goodIn_app (goodIn_app (goodIn_app gp_wsX0_clearVars_o gp_wsJ7_fill_53178) gp_wsX00) gp_wsX60))
set_option maxRecDepth 100000 in
theorem gp_wsX0_setWave_o : GoodIn lw_tbl wsX0_setWave_o := by unfold wsX0_setWave_o; exact (gi_cons dw_524 (gi_cons dw_529 (gi_cons dw_495 (gi_cons dw_493 (gi_cons dw_494 (gi_cons dw_528 (gi_cons dw_527 (gi_cons dw_526 gi_nil))))))))
set_option maxRecDepth 100000 in
theorem gp_wsJ6_bitCount_0f7a4 : GoodIn lw_tbl wsJ6_bitCount_0f7a4 := by unfold wsJ6_bitCount_0f7a4; exact (gi_cons dw_530 (gi_cons dw_533 (gi_cons dw_532 (gi_cons dw_531 gi_nil))))
set_option maxRecDepth 100000 in
theorem gp_wsX0_setWave : GoodIn lw_tbl wsX0_setWave := by unfold wsX0_setWave; exact (gi_cons dw_525 (goodIn_app (goodIn_app (goodIn_app (goodIn_app gp_wsX0_setWave_o (goodIn_app gp_wsX0_mayBe gp_wsJ6_bitCount_0f7a4)) gp_wsX00) gp_wsX60) gp_wsX50))
set_option maxRecDepth 100000 in
theorem gp_wsX1_valueOf_o : GoodIn lw_tbl wsX1_valueOf_o := by unfold wsX1_valueOf_o; exact (gi_cons dw_538 (gi_cons dw_97 (gi_cons dw_537 (gi_cons dw_536 (gi_cons dw_535 (gi_cons dw_75 gi_nil))))))
set_option maxRecDepth 100000 in
theorem gp_wsX1_partValue_o : GoodIn lw_tbl wsX1_partValue_o := by unfold wsX1_partValue_o; exact (gi_cons dw_107 (gi_cons dw_98 (gi_cons dw_105 (gi_cons dw_544 (gi_cons dw_543 (gi_cons dw_542 (gi_cons dw_541 (gi_cons dw_540 (gi_cons dw_75 gi_nil)))))))))
set_option maxRecDepth 100000 in
theorem gp_wsX1_joined : GoodIn lw_tbl wsX1_joined := by unfold wsX1_joined; exact (gi_cons dw_545 (goodIn_app (gi_cons dw_538 gi_nil) gp_wsX10))
set_option maxRecDepth 100000 in
theorem gp_wsX1_partValue : GoodIn lw_tbl wsX1_partValue := by unfold wsX1_partValue; exact (gi_cons dw_539 (goodIn_app (goodIn_app gp_wsX1_partValue_o gp_wsX1_joined) gp_wsX10))
set_option maxRecDepth 100000 in
theorem gp_wsX1_valueOf : GoodIn lw_tbl wsX1_valueOf := by unfold wsX1_valueOf; exact (gi_cons dw_534 (goodIn_app (goodIn_app gp_wsX1_valueOf_o gp_wsX1_partValue) gp_wsX10))
set_option maxRecDepth 100000 in
theorem gp_wsX10_heldTo : GoodIn lw_tbl wsX10_heldTo := by unfold wsX10_heldTo; exact (gi_cons dw_546 (gi_cons dw_548 (gi_cons dw_189 (gi_cons dw_133 (gi_cons dw_188 (gi_cons dw_547 (gi_cons dw_192 (gi_cons dw_191 gi_nil))))))))
set_option maxRecDepth 100000 in
theorem gp_wsX0_shiftsOf : GoodIn lw_tbl wsX0_shiftsOf := by unfold wsX0_shiftsOf; exact (gi_cons dw_512 (goodIn_app (goodIn_app (goodIn_app (goodIn_app (goodIn_app gp_wsX0_shiftsOf_o (goodIn_app gp_wsX0_clearVars (goodIn_app gp_wsX0_setWave (goodIn_app gp_wsX1_valueOf gp_wsX10_heldTo)))) gp_wsX00) gp_wsX50) gp_wsX60) gp_wsX10))
set_option maxRecDepth 100000 in
theorem gp_wsX10_wave : GoodIn lw_tbl wsX10_wave := by unfold wsX10_wave; exact (gi_cons dw_488 (goodIn_app (goodIn_app (goodIn_app (goodIn_app (goodIn_app (goodIn_app gp_wsX10_wave_o (goodIn_app gp_wsX5_hasWave (goodIn_app gp_wsX0_mayBe (goodIn_app gp_wsX0_thereNow gp_wsX0_shiftsOf)))) gp_wsX100) gp_wsX60) gp_wsX50) gp_wsX00) gp_wsX10))
set_option maxRecDepth 100000 in
theorem gp_wsX11_wave_o : GoodIn lw_tbl wsX11_wave_o := by unfold wsX11_wave_o; exact (gi_cons dw_474 (gi_cons dw_567 (gi_cons dw_566 (gi_cons dw_565 (gi_cons dw_16 (gi_cons dw_564 (gi_cons dw_563 (gi_cons dw_562 (gi_cons dw_561 (gi_cons dw_560 (gi_cons dw_559 (gi_cons dw_558 (gi_cons dw_557 (gi_cons dw_556 (gi_cons dw_555 (gi_cons dw_554 (gi_cons dw_553 gi_nil)))))))))))))))))
set_option maxRecDepth 100000 in
theorem gp_wsX11_isWave_o : GoodIn lw_tbl wsX11_isWave_o := by unfold wsX11_isWave_o; exact (gi_cons dw_399 (gi_cons dw_358 (gi_cons dw_570 (gi_cons dw_569 (gi_cons dw_16 gi_nil)))))
set_option maxRecDepth 100000 in
theorem gp_wsX11_in : GoodIn lw_tbl wsX11_in := by unfold wsX11_in; exact (gi_cons dw_571 gi_nil)
set_option maxRecDepth 100000 in
theorem gp_wsX11_isWave : GoodIn lw_tbl wsX11_isWave := by unfold wsX11_isWave; exact (gi_cons dw_568 (goodIn_app (goodIn_app gp_wsX11_isWave_o gp_wsX11_in) gp_wsX110))
set_option maxRecDepth 100000 in
theorem gp_wsX11_copies : GoodIn lw_tbl wsX11_copies := by unfold wsX11_copies; exact (gi_cons dw_572 (goodIn_app (gi_cons dw_474 (gi_cons dw_476 (gi_cons dw_397 (gi_cons dw_358 (gi_cons dw_472 gi_nil))))) gp_wsX110))
set_option maxRecDepth 100000 in
theorem gp_wsX11_mayAt_o : GoodIn lw_tbl wsX11_mayAt_o := by unfold wsX11_mayAt_o; exact (gi_cons dw_474 (gi_cons dw_576 (gi_cons dw_575 (gi_cons dw_574 (gi_cons dw_16 gi_nil)))))
set_option maxRecDepth 100000 in
theorem gp_wsX11_oddsAt : GoodIn lw_tbl wsX11_oddsAt := by unfold wsX11_oddsAt; exact (gi_cons dw_577 (goodIn_app (gi_cons dw_433 (gi_cons dw_358 gi_nil)) gp_wsX110))
set_option maxRecDepth 100000 in
theorem gp_wsX11_mayAt : GoodIn lw_tbl wsX11_mayAt := by unfold wsX11_mayAt; exact (gi_cons dw_573 (goodIn_app (goodIn_app gp_wsX11_mayAt_o gp_wsX11_oddsAt) gp_wsX110))
set_option maxRecDepth 100000 in
theorem gp_wsX11_thereAt_o : GoodIn lw_tbl wsX11_thereAt_o := by unfold wsX11_thereAt_o; exact (gi_cons dw_474 (gi_cons dw_576 (gi_cons dw_575 (gi_cons dw_574 (gi_cons dw_16 (gi_cons dw_581 (gi_cons dw_580 (gi_cons dw_579 gi_nil))))))))
set_option maxRecDepth 100000 in
theorem gp_wsX11_lotOf_o : GoodIn lw_tbl wsX11_lotOf_o := by unfold wsX11_lotOf_o; exact (gi_cons dw_472 (gi_cons dw_584 (gi_cons dw_583 (gi_cons dw_16 gi_nil))))
set_option maxRecDepth 100000 in
theorem gp_wsX11_mixed : GoodIn lw_tbl wsX11_mixed := by unfold wsX11_mixed; exact (gi_cons dw_585 (gi_cons dw_586 gi_nil))
set_option maxRecDepth 100000 in
theorem gp_wsX11_lotOf : GoodIn lw_tbl wsX11_lotOf := by unfold wsX11_lotOf; exact (gi_cons dw_582 (goodIn_app (goodIn_app gp_wsX11_lotOf_o gp_wsX11_mixed) gp_wsX110))
set_option maxRecDepth 100000 in
theorem gp_wsX11_thereAt : GoodIn lw_tbl wsX11_thereAt := by unfold wsX11_thereAt; exact (gi_cons dw_578 (goodIn_app (goodIn_app gp_wsX11_thereAt_o (goodIn_app gp_wsX11_oddsAt gp_wsX11_lotOf)) gp_wsX110))
set_option maxRecDepth 100000 in
theorem gp_wsX11_shiftsOf_o : GoodIn lw_tbl wsX11_shiftsOf_o := by unfold wsX11_shiftsOf_o; exact (gi_cons dw_598 (gi_cons dw_597 (gi_cons dw_596 (gi_cons dw_16 (gi_cons dw_595 (gi_cons dw_594 (gi_cons dw_593 (gi_cons dw_592 (gi_cons dw_591 (gi_cons dw_590 (gi_cons dw_589 (gi_cons dw_588 gi_nil))))))))))))
set_option maxRecDepth 100000 in
theorem gp_wsX11_looks : GoodIn lw_tbl wsX11_looks := by unfold wsX11_looks; exact (gi_cons dw_599 (goodIn_app (gi_cons dw_600 (gi_cons dw_474 (gi_cons dw_439 (gi_cons dw_358 (gi_cons dw_438 gi_nil))))) gp_wsX110))
set_option maxRecDepth 100000 in
theorem gp_wsX11_looksOver_o : GoodIn lw_tbl wsX11_looksOver_o := by unfold wsX11_looksOver_o; exact (gi_cons dw_600 (gi_cons dw_474 (gi_cons dw_561 (gi_cons dw_560 (gi_cons dw_559 (gi_cons dw_16 (gi_cons dw_603 (gi_cons dw_602 gi_nil))))))))
set_option maxRecDepth 100000 in
theorem gp_wsX11_bits : GoodIn lw_tbl wsX11_bits := by unfold wsX11_bits; exact (gi_cons dw_604 gi_nil)
set_option maxRecDepth 100000 in
theorem gp_wsX11_looksOver : GoodIn lw_tbl wsX11_looksOver := by unfold wsX11_looksOver; exact (gi_cons dw_601 (goodIn_app (goodIn_app gp_wsX11_looksOver_o (goodIn_app gp_wsX11_mayAt gp_wsX11_bits)) gp_wsX110))
set_option maxRecDepth 100000 in
theorem gp_wsX11_lawTells_o : GoodIn lw_tbl wsX11_lawTells_o := by unfold wsX11_lawTells_o; exact (gi_cons dw_358 (gi_cons dw_396 (gi_cons dw_395 (gi_cons dw_609 (gi_cons dw_450 (gi_cons dw_449 (gi_cons dw_448 (gi_cons dw_470 (gi_cons dw_469 (gi_cons dw_608 (gi_cons dw_607 (gi_cons dw_606 (gi_cons dw_16 gi_nil)))))))))))))
set_option maxRecDepth 100000 in
theorem gp_wsX11_termOf : GoodIn lw_tbl wsX11_termOf := by unfold wsX11_termOf; exact (gi_cons dw_610 (goodIn_app (gi_cons dw_466 (gi_cons dw_611 (gi_cons dw_465 (gi_cons dw_600 (gi_cons dw_609 gi_nil))))) gp_wsX110))
set_option maxRecDepth 100000 in
theorem gp_wsX11_lawTells : GoodIn lw_tbl wsX11_lawTells := by unfold wsX11_lawTells; exact (gi_cons dw_605 (goodIn_app (goodIn_app gp_wsX11_lawTells_o gp_wsX11_termOf) gp_wsX110))
set_option maxRecDepth 100000 in
theorem gp_wsX11_within : GoodIn lw_tbl wsX11_within := by unfold wsX11_within; exact (gi_cons dw_612 gi_nil)
set_option maxRecDepth 100000 in
theorem gp_wsX11_shiftsOf : GoodIn lw_tbl wsX11_shiftsOf := by unfold wsX11_shiftsOf; exact (gi_cons dw_587 (goodIn_app (goodIn_app gp_wsX11_shiftsOf_o (goodIn_app gp_wsX11_looks (goodIn_app gp_wsX11_looksOver (goodIn_app gp_wsX11_lawTells gp_wsX11_within)))) gp_wsX110))
set_option maxRecDepth 100000 in
theorem gp_wsX11_wave : GoodIn lw_tbl wsX11_wave := by unfold wsX11_wave; exact (gi_cons dw_552 (goodIn_app (goodIn_app gp_wsX11_wave_o (goodIn_app gp_wsX11_isWave (goodIn_app gp_wsX11_copies (goodIn_app gp_wsX11_mayAt (goodIn_app gp_wsX11_thereAt gp_wsX11_shiftsOf))))) gp_wsX110))
set_option maxRecDepth 100000 in
theorem gp_wsX10_odds_o : GoodIn lw_tbl wsX10_odds_o := by unfold wsX10_odds_o; exact (gi_cons dw_50 (gi_cons dw_497 (gi_cons dw_43 (gi_cons dw_496 (gi_cons dw_618 (gi_cons dw_617 (gi_cons dw_11 (gi_cons dw_295 (gi_cons dw_294 gi_nil)))))))))
set_option maxRecDepth 100000 in
theorem gp_wsX10_isThing : GoodIn lw_tbl wsX10_isThing := by unfold wsX10_isThing; exact (gi_cons dw_619 gi_nil)
set_option maxRecDepth 100000 in
theorem gp_wsX10_odds : GoodIn lw_tbl wsX10_odds := by unfold wsX10_odds; exact (gi_cons dw_616 (goodIn_app (goodIn_app (goodIn_app gp_wsX10_odds_o (goodIn_app gp_wsX5_hasWave (goodIn_app gp_wsX10_isThing gp_wsX5_oddsAt))) gp_wsX100) gp_wsX50))
set_option maxRecDepth 100000 in
theorem gp_wsX11_odds_o : GoodIn lw_tbl wsX11_odds_o := by unfold wsX11_odds_o; exact (gi_cons dw_567 (gi_cons dw_566 (gi_cons dw_565 (gi_cons dw_16 (gi_cons dw_625 (gi_cons dw_624 (gi_cons dw_576 (gi_cons dw_575 (gi_cons dw_574 gi_nil)))))))))
set_option maxRecDepth 100000 in
theorem gp_wsX11_isThing_o : GoodIn lw_tbl wsX11_isThing_o := by unfold wsX11_isThing_o; exact (gi_cons dw_570 (gi_cons dw_569 (gi_cons dw_16 gi_nil)))
set_option maxRecDepth 100000 in
theorem gp_wsX11_isThing : GoodIn lw_tbl wsX11_isThing := by unfold wsX11_isThing; exact (gi_cons dw_626 (goodIn_app gp_wsX11_isThing_o gp_wsX11_in))
set_option maxRecDepth 100000 in
theorem gp_wsX11_odds : GoodIn lw_tbl wsX11_odds := by unfold wsX11_odds; exact (gi_cons dw_623 (goodIn_app (goodIn_app gp_wsX11_odds_o (goodIn_app gp_wsX11_isWave (goodIn_app gp_wsX11_isThing gp_wsX11_oddsAt))) gp_wsX110))
set_option maxRecDepth 100000 in
theorem gp_wsX10_party_o : GoodIn lw_tbl wsX10_party_o := by unfold wsX10_party_o; exact (gi_cons dw_50 (gi_cons dw_49 (gi_cons dw_498 (gi_cons dw_636 (gi_cons dw_43 (gi_cons dw_635 (gi_cons dw_634 (gi_cons dw_494 (gi_cons dw_633 (gi_cons dw_632 (gi_cons dw_631 gi_nil)))))))))))
set_option maxRecDepth 100000 in
theorem gp_wsX5_hasParty : GoodIn lw_tbl wsX5_hasParty := by unfold wsX5_hasParty; exact (gi_cons dw_637 (goodIn_app (gi_cons dw_80 gi_nil) gp_wsX50))
set_option maxRecDepth 100000 in
theorem gp_wsX0_fareOf_o : GoodIn lw_tbl wsX0_fareOf_o := by unfold wsX0_fareOf_o; exact (gi_cons dw_501 (gi_cons dw_521 (gi_cons dw_520 (gi_cons dw_519 (gi_cons dw_494 (gi_cons dw_641 (gi_cons dw_640 (gi_cons dw_639 (gi_cons dw_515 (gi_cons dw_75 (gi_cons dw_514 (gi_cons dw_513 (gi_cons dw_11 gi_nil)))))))))))))
set_option maxRecDepth 100000 in
theorem gp_wsX0_setParty : GoodIn lw_tbl wsX0_setParty := by unfold wsX0_setParty; exact (gi_cons dw_642 (goodIn_app (goodIn_app (goodIn_app (gi_cons dw_524 (gi_cons dw_501 gi_nil)) gp_wsX00) gp_wsX50) gp_wsX60))
set_option maxRecDepth 100000 in
theorem gp_wsX0_fareOf : GoodIn lw_tbl wsX0_fareOf := by unfold wsX0_fareOf; exact (gi_cons dw_638 (goodIn_app (goodIn_app (goodIn_app (goodIn_app (goodIn_app gp_wsX0_fareOf_o (goodIn_app gp_wsX0_clearVars (goodIn_app gp_wsX0_setParty (goodIn_app gp_wsX1_valueOf gp_wsX10_heldTo)))) gp_wsX00) gp_wsX50) gp_wsX60) gp_wsX10))
set_option maxRecDepth 100000 in
theorem gp_wsX0_isDaring_o : GoodIn lw_tbl wsX0_isDaring_o := by unfold wsX0_isDaring_o; exact (gi_cons dw_501 (gi_cons dw_521 (gi_cons dw_520 (gi_cons dw_519 (gi_cons dw_494 (gi_cons dw_641 (gi_cons dw_640 (gi_cons dw_639 (gi_cons dw_515 (gi_cons dw_75 (gi_cons dw_514 gi_nil)))))))))))
set_option maxRecDepth 100000 in
theorem gp_wsX0_isDaring : GoodIn lw_tbl wsX0_isDaring := by unfold wsX0_isDaring; exact (gi_cons dw_643 (goodIn_app (goodIn_app (goodIn_app (goodIn_app (goodIn_app gp_wsX0_isDaring_o (goodIn_app gp_wsX0_clearVars (goodIn_app gp_wsX0_setParty gp_wsX1_valueOf))) gp_wsX00) gp_wsX50) gp_wsX60) gp_wsX10))
set_option maxRecDepth 100000 in
theorem gp_wsX10_party : GoodIn lw_tbl wsX10_party := by unfold wsX10_party; exact (gi_cons dw_630 (goodIn_app (goodIn_app (goodIn_app (goodIn_app (goodIn_app (goodIn_app gp_wsX10_party_o (goodIn_app gp_wsX5_hasParty (goodIn_app gp_wsX0_fareOf gp_wsX0_isDaring))) gp_wsX100) gp_wsX50) gp_wsX60) gp_wsX00) gp_wsX10))
set_option maxRecDepth 100000 in
theorem gp_wsX11_party_o : GoodIn lw_tbl wsX11_party_o := by unfold wsX11_party_o; exact (gi_cons dw_439 (gi_cons dw_358 (gi_cons dw_438 (gi_cons dw_474 (gi_cons dw_656 (gi_cons dw_655 (gi_cons dw_654 (gi_cons dw_16 (gi_cons dw_564 (gi_cons dw_563 (gi_cons dw_562 (gi_cons dw_653 (gi_cons dw_652 (gi_cons dw_651 (gi_cons dw_650 (gi_cons dw_649 (gi_cons dw_648 gi_nil)))))))))))))))))
set_option maxRecDepth 100000 in
theorem gp_wsX11_isParty_o : GoodIn lw_tbl wsX11_isParty_o := by unfold wsX11_isParty_o; exact (gi_cons dw_398 (gi_cons dw_358 (gi_cons dw_570 (gi_cons dw_569 (gi_cons dw_16 gi_nil)))))
set_option maxRecDepth 100000 in
theorem gp_wsX11_isParty : GoodIn lw_tbl wsX11_isParty := by unfold wsX11_isParty; exact (gi_cons dw_657 (goodIn_app (goodIn_app gp_wsX11_isParty_o gp_wsX11_in) gp_wsX110))
set_option maxRecDepth 100000 in
theorem gp_wsX11_faresOf_o : GoodIn lw_tbl wsX11_faresOf_o := by unfold wsX11_faresOf_o; exact (gi_cons dw_598 (gi_cons dw_597 (gi_cons dw_596 (gi_cons dw_16 (gi_cons dw_592 (gi_cons dw_591 (gi_cons dw_590 (gi_cons dw_589 (gi_cons dw_588 gi_nil)))))))))
