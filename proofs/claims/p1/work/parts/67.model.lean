theorem mw_X12_init_0 : Cond.methodLink "GuardedTreeModel" 1 Lib.objectInit ∈ tb := tb_at 1130 (by decide +kernel) (by decide +kernel)
theorem mw_X12_init_1 : Cond.instanceMethod Lib.objectInit ∈ tb := tb_at 134 (by decide +kernel) (by decide +kernel)
theorem mw_X12_init_2 : Cond.code Lib.objectInit ⟨#[0xb1]⟩ 1 none ∈ tb := tb_at 135 (by decide +kernel) (by decide +kernel)
theorem mw_X12_init_3 : Cond.arrayClass .int ∈ tb := tb_at 172 (by decide +kernel) (by decide +kernel)
theorem mw_X12_init_4 : Cond.fieldLink "GuardedTreeModel" 7 "GuardedTreeModel" "state" "[I" ∈ tb := tb_at 1239 (by decide +kernel) (by decide +kernel)
theorem mw_X12_init_5 : Cond.fieldLink "GuardedTreeModel" 13 "GuardedTreeModel" "credit" "[I" ∈ tb := tb_at 1240 (by decide +kernel) (by decide +kernel)
theorem mw_X12_init_6 : Cond.fieldLink "GuardedTreeModel" 16 "GuardedTreeModel" "due" "[I" ∈ tb := tb_at 1241 (by decide +kernel) (by decide +kernel)
theorem mw_X12_init_7 : Cond.arrayClass .byte ∈ tb := tb_at 173 (by decide +kernel) (by decide +kernel)
theorem mw_X12_init_8 : Cond.fieldLink "GuardedTreeModel" 19 "GuardedTreeModel" "came" "[B" ∈ tb := tb_at 1242 (by decide +kernel) (by decide +kernel)
theorem mw_X12_init_9 : Cond.fieldLink "GuardedTreeModel" 23 "GuardedTreeModel" "cameSize" "[I" ∈ tb := tb_at 1243 (by decide +kernel) (by decide +kernel)
theorem mw_X12_init_10 : Cond.fieldLink "GuardedTreeModel" 26 "GuardedTreeModel" "way" "[B" ∈ tb := tb_at 1244 (by decide +kernel) (by decide +kernel)
theorem mw_X12_init_11 : Cond.fieldLink "GuardedTreeModel" 29 "GuardedTreeModel" "waySize" "[I" ∈ tb := tb_at 1245 (by decide +kernel) (by decide +kernel)
theorem mw_X12_init_12 : Cond.fieldLink "GuardedTreeModel" 32 "GuardedTreeModel" "keys" "[I" ∈ tb := tb_at 1246 (by decide +kernel) (by decide +kernel)
theorem mw_X12_init_13 : Cond.fieldLink "GuardedTreeModel" 35 "GuardedTreeModel" "sentCount" "[I" ∈ tb := tb_at 1247 (by decide +kernel) (by decide +kernel)
theorem mw_X12_init_14 : Cond.fieldLink "GuardedTreeModel" 38 "GuardedTreeModel" "openCount" "[I" ∈ tb := tb_at 1248 (by decide +kernel) (by decide +kernel)
theorem mw_X12_init_15 : Cond.arrayClass .boolean ∈ tb := tb_at 1469 (by decide +kernel) (by decide +kernel)
theorem mw_X12_init_16 : Cond.fieldLink "GuardedTreeModel" 41 "GuardedTreeModel" "seen" "[Z" ∈ tb := tb_at 1249 (by decide +kernel) (by decide +kernel)
theorem mw_X12_init_17 : Cond.fieldLink "GuardedTreeModel" 45 "GuardedTreeModel" "length" "[I" ∈ tb := tb_at 1250 (by decide +kernel) (by decide +kernel)
theorem mw_X12_init_18 : Cond.fieldLink "GuardedTreeModel" 48 "GuardedTreeModel" "packet" "[B" ∈ tb := tb_at 1251 (by decide +kernel) (by decide +kernel)
theorem mw_X12_init_19 : Cond.fieldLink "GuardedTreeModel" 51 "GuardedTreeModel" "payload" "[B" ∈ tb := tb_at 1252 (by decide +kernel) (by decide +kernel)
theorem mw_X12_init_20 : Cond.fieldLink "GuardedTreeModel" 54 "GuardedTreeModel" "statuses" "[I" ∈ tb := tb_at 1255 (by decide +kernel) (by decide +kernel)
theorem mw_X12_init_21 : Cond.fieldLink "GuardedTreeModel" 57 "GuardedTreeModel" "dataAt" "[I" ∈ tb := tb_at 1256 (by decide +kernel) (by decide +kernel)
theorem mw_X12_init_22 : Cond.fieldLink "GuardedTreeModel" 60 "GuardedTreeModel" "dataSize" "[I" ∈ tb := tb_at 1257 (by decide +kernel) (by decide +kernel)
theorem mw_X12_init_23 : Cond.constant "GuardedTreeModel" 63 270000 ∈ tb := tb_at 1131 (by decide +kernel) (by decide +kernel)
theorem mw_X12_init_24 : Cond.fieldLink "GuardedTreeModel" 64 "GuardedTreeModel" "data" "[B" ∈ tb := tb_at 1258 (by decide +kernel) (by decide +kernel)
theorem mw_X12_init_25 : Cond.fieldLink "GuardedTreeModel" 67 "GuardedTreeModel" "putWords" "[I" ∈ tb := tb_at 1261 (by decide +kernel) (by decide +kernel)
theorem mw_X12_init_26 : Cond.fieldLink "GuardedTreeModel" 70 "GuardedTreeModel" "replyId" "[I" ∈ tb := tb_at 1263 (by decide +kernel) (by decide +kernel)
theorem mw_X12_init_27 : Cond.fieldLink "GuardedTreeModel" 73 "GuardedTreeModel" "replyStatus" "[I" ∈ tb := tb_at 1264 (by decide +kernel) (by decide +kernel)
theorem mw_X12_init_28 : Cond.fieldLink "GuardedTreeModel" 76 "GuardedTreeModel" "replySize" "[I" ∈ tb := tb_at 1265 (by decide +kernel) (by decide +kernel)
theorem mw_X12_init_29 : Cond.fieldLink "GuardedTreeModel" 79 "GuardedTreeModel" "replyFor" "[I" ∈ tb := tb_at 1266 (by decide +kernel) (by decide +kernel)
theorem mw_X12_init_30 : Cond.fieldLink "GuardedTreeModel" 82 "GuardedTreeModel" "replyData" "[B" ∈ tb := tb_at 1267 (by decide +kernel) (by decide +kernel)
theorem mw_X12_init_31 : Cond.fieldLink "GuardedTreeModel" 85 "GuardedTreeModel" "kinds" "[I" ∈ tb := tb_at 1268 (by decide +kernel) (by decide +kernel)
theorem mw_X12_init_32 : Cond.fieldLink "GuardedTreeModel" 88 "GuardedTreeModel" "parents" "[I" ∈ tb := tb_at 1269 (by decide +kernel) (by decide +kernel)
theorem mw_X12_init_33 : Cond.fieldLink "GuardedTreeModel" 91 "GuardedTreeModel" "firstName" "[I" ∈ tb := tb_at 1270 (by decide +kernel) (by decide +kernel)
theorem mw_X12_init_34 : Cond.fieldLink "GuardedTreeModel" 94 "GuardedTreeModel" "secondName" "[I" ∈ tb := tb_at 1271 (by decide +kernel) (by decide +kernel)
theorem mw_X12_init_35 : Cond.fieldLink "GuardedTreeModel" 97 "GuardedTreeModel" "sizes" "[I" ∈ tb := tb_at 1272 (by decide +kernel) (by decide +kernel)
theorem mw_X12_init_36 : Cond.constant "GuardedTreeModel" 100 65536 ∈ tb := tb_at 1132 (by decide +kernel) (by decide +kernel)
theorem mw_X12_init_37 : Cond.fieldLink "GuardedTreeModel" 101 "GuardedTreeModel" "bytes" "[B" ∈ tb := tb_at 1273 (by decide +kernel) (by decide +kernel)
theorem mw_X12_init_38 : Cond.fieldLink "GuardedTreeModel" 104 "GuardedTreeModel" "read" "[B" ∈ tb := tb_at 1274 (by decide +kernel) (by decide +kernel)
theorem mw_X12_init_39 : Cond.fieldLink "GuardedTreeModel" 107 "GuardedTreeModel" "power" "Z" ∈ tb := tb_at 1276 (by decide +kernel) (by decide +kernel)
theorem mw_X12_init_40 : Cond.fieldLink "GuardedTreeModel" 111 "GuardedTreeModel" "left" "I" ∈ tb := tb_at 1277 (by decide +kernel) (by decide +kernel)
theorem mw_X12_init_41 : Cond.fieldLink "GuardedTreeModel" 115 "GuardedTreeModel" "box" "[I" ∈ tb := tb_at 1280 (by decide +kernel) (by decide +kernel)
theorem mw_X12_init_42 : Cond.fieldLink "GuardedTreeModel" 118 "GuardedTreeModel" "words" "[I" ∈ tb := tb_at 1281 (by decide +kernel) (by decide +kernel)
theorem mw_X12_init_43 : Cond.fieldLink "GuardedTreeModel" 121 "GuardedTreeModel" "block" "[I" ∈ tb := tb_at 1282 (by decide +kernel) (by decide +kernel)
theorem mw_X12_init_44 : Cond.fieldLink "GuardedTreeModel" 124 "GuardedTreeModel" "moved" "[I" ∈ tb := tb_at 1283 (by decide +kernel) (by decide +kernel)
theorem mw_X12_init_45 : Cond.fieldLink "GuardedTreeModel" 127 "GuardedTreeModel" "row" "[B" ∈ tb := tb_at 1284 (by decide +kernel) (by decide +kernel)
theorem mw_X12_init_46 : Cond.fieldLink "GuardedTreeModel" 130 "GuardedTreeModel" "digest" "[I" ∈ tb := tb_at 1286 (by decide +kernel) (by decide +kernel)
theorem mw_X12_init_47 : Cond.fieldLink "GuardedTreeModel" 133 "GuardedTreeModel" "state8" "[I" ∈ tb := tb_at 1287 (by decide +kernel) (by decide +kernel)
theorem mw_X12_init_48 : Cond.fieldLink "GuardedTreeModel" 136 "GuardedTreeModel" "w" "[I" ∈ tb := tb_at 1288 (by decide +kernel) (by decide +kernel)
theorem mw_X12_init_49 : Cond.fieldLink "GuardedTreeModel" 139 "GuardedTreeModel" "begun" "[I" ∈ tb := tb_at 1289 (by decide +kernel) (by decide +kernel)
theorem mw_X12_init_50 : Cond.constant "GuardedTreeModel" 142 1116352408 ∈ tb := tb_at 1133 (by decide +kernel) (by decide +kernel)
theorem mw_X12_init_51 : Cond.constant "GuardedTreeModel" 143 1899447441 ∈ tb := tb_at 1134 (by decide +kernel) (by decide +kernel)
theorem mw_X12_init_52 : Cond.constant "GuardedTreeModel" 144 (-1245643825) ∈ tb := tb_at 1135 (by decide +kernel) (by decide +kernel)
theorem mw_X12_init_53 : Cond.constant "GuardedTreeModel" 145 (-373957723) ∈ tb := tb_at 1136 (by decide +kernel) (by decide +kernel)
theorem mw_X12_init_54 : Cond.constant "GuardedTreeModel" 146 961987163 ∈ tb := tb_at 1137 (by decide +kernel) (by decide +kernel)
theorem mw_X12_init_55 : Cond.constant "GuardedTreeModel" 147 1508970993 ∈ tb := tb_at 1138 (by decide +kernel) (by decide +kernel)
theorem mw_X12_init_56 : Cond.constant "GuardedTreeModel" 148 (-1841331548) ∈ tb := tb_at 1139 (by decide +kernel) (by decide +kernel)
theorem mw_X12_init_57 : Cond.constant "GuardedTreeModel" 149 (-1424204075) ∈ tb := tb_at 1140 (by decide +kernel) (by decide +kernel)
theorem mw_X12_init_58 : Cond.constant "GuardedTreeModel" 150 (-670586216) ∈ tb := tb_at 1141 (by decide +kernel) (by decide +kernel)
theorem mw_X12_init_59 : Cond.constant "GuardedTreeModel" 151 310598401 ∈ tb := tb_at 1142 (by decide +kernel) (by decide +kernel)
theorem mw_X12_init_60 : Cond.constant "GuardedTreeModel" 152 607225278 ∈ tb := tb_at 1143 (by decide +kernel) (by decide +kernel)
theorem mw_X12_init_61 : Cond.constant "GuardedTreeModel" 153 1426881987 ∈ tb := tb_at 1144 (by decide +kernel) (by decide +kernel)
theorem mw_X12_init_62 : Cond.constant "GuardedTreeModel" 154 1925078388 ∈ tb := tb_at 1145 (by decide +kernel) (by decide +kernel)
theorem mw_X12_init_63 : Cond.constant "GuardedTreeModel" 155 (-2132889090) ∈ tb := tb_at 1146 (by decide +kernel) (by decide +kernel)
theorem mw_X12_init_64 : Cond.constant "GuardedTreeModel" 156 (-1680079193) ∈ tb := tb_at 1147 (by decide +kernel) (by decide +kernel)
theorem mw_X12_init_65 : Cond.constant "GuardedTreeModel" 157 (-1046744716) ∈ tb := tb_at 1148 (by decide +kernel) (by decide +kernel)
theorem mw_X12_init_66 : Cond.constant "GuardedTreeModel" 158 (-459576895) ∈ tb := tb_at 1149 (by decide +kernel) (by decide +kernel)
theorem mw_X12_init_67 : Cond.constant "GuardedTreeModel" 159 (-272742522) ∈ tb := tb_at 1150 (by decide +kernel) (by decide +kernel)
theorem mw_X12_init_68 : Cond.constant "GuardedTreeModel" 160 264347078 ∈ tb := tb_at 1151 (by decide +kernel) (by decide +kernel)
theorem mw_X12_init_69 : Cond.constant "GuardedTreeModel" 161 604807628 ∈ tb := tb_at 1152 (by decide +kernel) (by decide +kernel)
theorem mw_X12_init_70 : Cond.constant "GuardedTreeModel" 162 770255983 ∈ tb := tb_at 1153 (by decide +kernel) (by decide +kernel)
theorem mw_X12_init_71 : Cond.constant "GuardedTreeModel" 163 1249150122 ∈ tb := tb_at 1154 (by decide +kernel) (by decide +kernel)
theorem mw_X12_init_72 : Cond.constant "GuardedTreeModel" 164 1555081692 ∈ tb := tb_at 1155 (by decide +kernel) (by decide +kernel)
theorem mw_X12_init_73 : Cond.constant "GuardedTreeModel" 165 1996064986 ∈ tb := tb_at 1156 (by decide +kernel) (by decide +kernel)
theorem mw_X12_init_74 : Cond.constant "GuardedTreeModel" 166 (-1740746414) ∈ tb := tb_at 1157 (by decide +kernel) (by decide +kernel)
theorem mw_X12_init_75 : Cond.constant "GuardedTreeModel" 167 (-1473132947) ∈ tb := tb_at 1158 (by decide +kernel) (by decide +kernel)
theorem mw_X12_init_76 : Cond.constant "GuardedTreeModel" 168 (-1341970488) ∈ tb := tb_at 1159 (by decide +kernel) (by decide +kernel)
theorem mw_X12_init_77 : Cond.constant "GuardedTreeModel" 169 (-1084653625) ∈ tb := tb_at 1160 (by decide +kernel) (by decide +kernel)
theorem mw_X12_init_78 : Cond.constant "GuardedTreeModel" 170 (-958395405) ∈ tb := tb_at 1161 (by decide +kernel) (by decide +kernel)
theorem mw_X12_init_79 : Cond.constant "GuardedTreeModel" 171 (-710438585) ∈ tb := tb_at 1162 (by decide +kernel) (by decide +kernel)
theorem mw_X12_init_80 : Cond.constant "GuardedTreeModel" 172 113926993 ∈ tb := tb_at 1163 (by decide +kernel) (by decide +kernel)
theorem mw_X12_init_81 : Cond.constant "GuardedTreeModel" 173 338241895 ∈ tb := tb_at 1164 (by decide +kernel) (by decide +kernel)
theorem mw_X12_init_82 : Cond.constant "GuardedTreeModel" 174 666307205 ∈ tb := tb_at 1165 (by decide +kernel) (by decide +kernel)
theorem mw_X12_init_83 : Cond.constant "GuardedTreeModel" 175 773529912 ∈ tb := tb_at 1166 (by decide +kernel) (by decide +kernel)
theorem mw_X12_init_84 : Cond.constant "GuardedTreeModel" 176 1294757372 ∈ tb := tb_at 1167 (by decide +kernel) (by decide +kernel)
theorem mw_X12_init_85 : Cond.constant "GuardedTreeModel" 177 1396182291 ∈ tb := tb_at 1168 (by decide +kernel) (by decide +kernel)
theorem mw_X12_init_86 : Cond.constant "GuardedTreeModel" 178 1695183700 ∈ tb := tb_at 1169 (by decide +kernel) (by decide +kernel)
theorem mw_X12_init_87 : Cond.constant "GuardedTreeModel" 179 1986661051 ∈ tb := tb_at 1170 (by decide +kernel) (by decide +kernel)
theorem mw_X12_init_88 : Cond.constant "GuardedTreeModel" 180 (-2117940946) ∈ tb := tb_at 1171 (by decide +kernel) (by decide +kernel)
theorem mw_X12_init_89 : Cond.constant "GuardedTreeModel" 181 (-1838011259) ∈ tb := tb_at 1172 (by decide +kernel) (by decide +kernel)
theorem mw_X12_init_90 : Cond.constant "GuardedTreeModel" 182 (-1564481375) ∈ tb := tb_at 1173 (by decide +kernel) (by decide +kernel)
theorem mw_X12_init_91 : Cond.constant "GuardedTreeModel" 183 (-1474664885) ∈ tb := tb_at 1174 (by decide +kernel) (by decide +kernel)
theorem mw_X12_init_92 : Cond.constant "GuardedTreeModel" 184 (-1035236496) ∈ tb := tb_at 1175 (by decide +kernel) (by decide +kernel)
theorem mw_X12_init_93 : Cond.constant "GuardedTreeModel" 185 (-949202525) ∈ tb := tb_at 1176 (by decide +kernel) (by decide +kernel)
theorem mw_X12_init_94 : Cond.constant "GuardedTreeModel" 186 (-778901479) ∈ tb := tb_at 1177 (by decide +kernel) (by decide +kernel)
theorem mw_X12_init_95 : Cond.constant "GuardedTreeModel" 187 (-694614492) ∈ tb := tb_at 1178 (by decide +kernel) (by decide +kernel)
theorem mw_X12_init_96 : Cond.constant "GuardedTreeModel" 188 (-200395387) ∈ tb := tb_at 1179 (by decide +kernel) (by decide +kernel)
theorem mw_X12_init_97 : Cond.constant "GuardedTreeModel" 189 275423344 ∈ tb := tb_at 1180 (by decide +kernel) (by decide +kernel)
theorem mw_X12_init_98 : Cond.constant "GuardedTreeModel" 190 430227734 ∈ tb := tb_at 1181 (by decide +kernel) (by decide +kernel)
theorem mw_X12_init_99 : Cond.constant "GuardedTreeModel" 191 506948616 ∈ tb := tb_at 1182 (by decide +kernel) (by decide +kernel)
theorem mw_X12_init_100 : Cond.constant "GuardedTreeModel" 192 659060556 ∈ tb := tb_at 1183 (by decide +kernel) (by decide +kernel)
theorem mw_X12_init_101 : Cond.constant "GuardedTreeModel" 193 883997877 ∈ tb := tb_at 1184 (by decide +kernel) (by decide +kernel)
theorem mw_X12_init_102 : Cond.constant "GuardedTreeModel" 194 958139571 ∈ tb := tb_at 1185 (by decide +kernel) (by decide +kernel)
theorem mw_X12_init_103 : Cond.constant "GuardedTreeModel" 195 1322822218 ∈ tb := tb_at 1186 (by decide +kernel) (by decide +kernel)
theorem mw_X12_init_104 : Cond.constant "GuardedTreeModel" 196 1537002063 ∈ tb := tb_at 1187 (by decide +kernel) (by decide +kernel)
theorem mw_X12_init_105 : Cond.constant "GuardedTreeModel" 197 1747873779 ∈ tb := tb_at 1188 (by decide +kernel) (by decide +kernel)
theorem mw_X12_init_106 : Cond.constant "GuardedTreeModel" 198 1955562222 ∈ tb := tb_at 1189 (by decide +kernel) (by decide +kernel)
theorem mw_X12_init_107 : Cond.constant "GuardedTreeModel" 199 2024104815 ∈ tb := tb_at 1190 (by decide +kernel) (by decide +kernel)
theorem mw_X12_init_108 : Cond.constant "GuardedTreeModel" 200 (-2067236844) ∈ tb := tb_at 1191 (by decide +kernel) (by decide +kernel)
theorem mw_X12_init_109 : Cond.constant "GuardedTreeModel" 201 (-1933114872) ∈ tb := tb_at 1192 (by decide +kernel) (by decide +kernel)
theorem mw_X12_init_110 : Cond.constant "GuardedTreeModel" 202 (-1866530822) ∈ tb := tb_at 1193 (by decide +kernel) (by decide +kernel)
theorem mw_X12_init_111 : Cond.constant "GuardedTreeModel" 203 (-1538233109) ∈ tb := tb_at 1194 (by decide +kernel) (by decide +kernel)
theorem mw_X12_init_112 : Cond.constant "GuardedTreeModel" 204 (-1090935817) ∈ tb := tb_at 1195 (by decide +kernel) (by decide +kernel)
theorem mw_X12_init_113 : Cond.constant "GuardedTreeModel" 205 (-965641998) ∈ tb := tb_at 1196 (by decide +kernel) (by decide +kernel)
theorem mw_X12_init_114 : Cond.fieldLink "GuardedTreeModel" 206 "GuardedTreeModel" "roots" "[I" ∈ tb := tb_at 1290 (by decide +kernel) (by decide +kernel)
theorem mw_X12_init_115 : Cond.constant "GuardedTreeModel" 209 1779033703 ∈ tb := tb_at 1197 (by decide +kernel) (by decide +kernel)
theorem mw_X12_init_116 : Cond.constant "GuardedTreeModel" 210 (-1150833019) ∈ tb := tb_at 1198 (by decide +kernel) (by decide +kernel)
theorem mw_X12_init_117 : Cond.constant "GuardedTreeModel" 211 1013904242 ∈ tb := tb_at 1199 (by decide +kernel) (by decide +kernel)
theorem mw_X12_init_118 : Cond.constant "GuardedTreeModel" 212 (-1521486534) ∈ tb := tb_at 1200 (by decide +kernel) (by decide +kernel)
theorem mw_X12_init_119 : Cond.constant "GuardedTreeModel" 213 1359893119 ∈ tb := tb_at 1201 (by decide +kernel) (by decide +kernel)
theorem mw_X12_init_120 : Cond.constant "GuardedTreeModel" 214 (-1694144372) ∈ tb := tb_at 1202 (by decide +kernel) (by decide +kernel)
theorem mw_X12_init_121 : Cond.constant "GuardedTreeModel" 215 528734635 ∈ tb := tb_at 1203 (by decide +kernel) (by decide +kernel)
theorem mw_X12_init_122 : Cond.constant "GuardedTreeModel" 216 1541459225 ∈ tb := tb_at 1204 (by decide +kernel) (by decide +kernel)
theorem mw_X12_init_123 : Cond.fieldLink "GuardedTreeModel" 217 "GuardedTreeModel" "begins" "[I" ∈ tb := tb_at 1291 (by decide +kernel) (by decide +kernel)
theorem mw_X12_init_124 : Cond.fieldLink "GuardedTreeModel" 220 "GuardedTreeModel" "groupP" "[I" ∈ tb := tb_at 1292 (by decide +kernel) (by decide +kernel)
theorem mw_X12_init_125 : Cond.fieldLink "GuardedTreeModel" 223 "GuardedTreeModel" "groupG" "[I" ∈ tb := tb_at 1293 (by decide +kernel) (by decide +kernel)
theorem mw_X12_init_126 : Cond.fieldLink "GuardedTreeModel" 226 "GuardedTreeModel" "hostN" "[I" ∈ tb := tb_at 1294 (by decide +kernel) (by decide +kernel)
theorem mw_X12_init_127 : Cond.fieldLink "GuardedTreeModel" 229 "GuardedTreeModel" "hostD" "[I" ∈ tb := tb_at 1295 (by decide +kernel) (by decide +kernel)
theorem mw_X12_init_128 : Cond.fieldLink "GuardedTreeModel" 232 "GuardedTreeModel" "secrets" "[I" ∈ tb := tb_at 1296 (by decide +kernel) (by decide +kernel)
theorem mw_X12_init_129 : Cond.fieldLink "GuardedTreeModel" 235 "GuardedTreeModel" "sentX" "[I" ∈ tb := tb_at 1297 (by decide +kernel) (by decide +kernel)
theorem mw_X12_init_130 : Cond.fieldLink "GuardedTreeModel" 238 "GuardedTreeModel" "sentY" "[I" ∈ tb := tb_at 1298 (by decide +kernel) (by decide +kernel)
theorem mw_X12_init_131 : Cond.fieldLink "GuardedTreeModel" 241 "GuardedTreeModel" "sentS" "[I" ∈ tb := tb_at 1299 (by decide +kernel) (by decide +kernel)
theorem mw_X12_init_132 : Cond.fieldLink "GuardedTreeModel" 244 "GuardedTreeModel" "cameX" "[I" ∈ tb := tb_at 1300 (by decide +kernel) (by decide +kernel)
theorem mw_X12_init_133 : Cond.fieldLink "GuardedTreeModel" 247 "GuardedTreeModel" "cameY" "[I" ∈ tb := tb_at 1301 (by decide +kernel) (by decide +kernel)
theorem mw_X12_init_134 : Cond.fieldLink "GuardedTreeModel" 250 "GuardedTreeModel" "cameS" "[I" ∈ tb := tb_at 1302 (by decide +kernel) (by decide +kernel)
theorem mw_X12_init_135 : Cond.fieldLink "GuardedTreeModel" 253 "GuardedTreeModel" "common" "[I" ∈ tb := tb_at 1303 (by decide +kernel) (by decide +kernel)
theorem mw_X12_init_136 : Cond.fieldLink "GuardedTreeModel" 256 "GuardedTreeModel" "hashes" "[I" ∈ tb := tb_at 1304 (by decide +kernel) (by decide +kernel)
theorem mw_X12_init_137 : Cond.fieldLink "GuardedTreeModel" 259 "GuardedTreeModel" "p" "[I" ∈ tb := tb_at 1305 (by decide +kernel) (by decide +kernel)
theorem mw_X12_init_138 : Cond.fieldLink "GuardedTreeModel" 262 "GuardedTreeModel" "m" "[I" ∈ tb := tb_at 1306 (by decide +kernel) (by decide +kernel)
theorem mw_X12_init_139 : Cond.fieldLink "GuardedTreeModel" 265 "GuardedTreeModel" "base" "[I" ∈ tb := tb_at 1307 (by decide +kernel) (by decide +kernel)
theorem mw_X12_init_140 : Cond.fieldLink "GuardedTreeModel" 268 "GuardedTreeModel" "powers" "[I" ∈ tb := tb_at 1308 (by decide +kernel) (by decide +kernel)
theorem mw_X12_init_141 : Cond.fieldLink "GuardedTreeModel" 271 "GuardedTreeModel" "result" "[I" ∈ tb := tb_at 1309 (by decide +kernel) (by decide +kernel)
theorem mw_X12_init_142 : Cond.fieldLink "GuardedTreeModel" 274 "GuardedTreeModel" "product" "[I" ∈ tb := tb_at 1310 (by decide +kernel) (by decide +kernel)
theorem mw_X12_init_143 : Cond.fieldLink "GuardedTreeModel" 277 "GuardedTreeModel" "rest" "[I" ∈ tb := tb_at 1311 (by decide +kernel) (by decide +kernel)
theorem mw_X12_init_144 : Cond.fieldLink "GuardedTreeModel" 280 "GuardedTreeModel" "one" "[I" ∈ tb := tb_at 1312 (by decide +kernel) (by decide +kernel)
theorem mw_X12_init_145 : Cond.fieldLink "GuardedTreeModel" 283 "GuardedTreeModel" "other" "[I" ∈ tb := tb_at 1313 (by decide +kernel) (by decide +kernel)
theorem mw_X12_init_146 : Cond.methodLink "GuardedTreeModel" 290 yX12_host ∈ tb := tb_at 1211 (by decide +kernel) (by decide +kernel)
theorem mw_X12_init_147 : Cond.methodLink "GuardedTreeModel" 286 yX12_boxOf ∈ tb := tb_at 1205 (by decide +kernel) (by decide +kernel)
theorem dX12_init_0 : decode cX12_init 0 = .ok (.aload_n 0, 1) := by decide +kernel
theorem dX12_init_1 : decode cX12_init 1 = .ok (.invokespecial 1, 3) := by decide +kernel
theorem dX12_init_4 : decode cX12_init 4 = .ok (.aload_n 0, 1) := by decide +kernel
theorem dX12_init_5 : decode cX12_init 5 = .ok (.iconst 2, 1) := by decide +kernel
theorem dX12_init_6 : decode cX12_init 6 = .ok (.newarray .int, 2) := by decide +kernel
theorem dX12_init_8 : decode cX12_init 8 = .ok (.putfield 7, 3) := by decide +kernel
theorem dX12_init_11 : decode cX12_init 11 = .ok (.aload_n 0, 1) := by decide +kernel
theorem dX12_init_12 : decode cX12_init 12 = .ok (.iconst 2, 1) := by decide +kernel
theorem dX12_init_13 : decode cX12_init 13 = .ok (.newarray .int, 2) := by decide +kernel
theorem dX12_init_15 : decode cX12_init 15 = .ok (.putfield 13, 3) := by decide +kernel
theorem dX12_init_18 : decode cX12_init 18 = .ok (.aload_n 0, 1) := by decide +kernel
theorem dX12_init_19 : decode cX12_init 19 = .ok (.iconst 2, 1) := by decide +kernel
theorem dX12_init_20 : decode cX12_init 20 = .ok (.newarray .int, 2) := by decide +kernel
theorem dX12_init_22 : decode cX12_init 22 = .ok (.putfield 16, 3) := by decide +kernel
theorem dX12_init_25 : decode cX12_init 25 = .ok (.aload_n 0, 1) := by decide +kernel
theorem dX12_init_26 : decode cX12_init 26 = .ok (.sipush 20000, 3) := by decide +kernel
theorem dX12_init_29 : decode cX12_init 29 = .ok (.newarray .byte, 2) := by decide +kernel
theorem dX12_init_31 : decode cX12_init 31 = .ok (.putfield 19, 3) := by decide +kernel
theorem dX12_init_34 : decode cX12_init 34 = .ok (.aload_n 0, 1) := by decide +kernel
theorem dX12_init_35 : decode cX12_init 35 = .ok (.iconst 2, 1) := by decide +kernel
theorem dX12_init_36 : decode cX12_init 36 = .ok (.newarray .int, 2) := by decide +kernel
theorem dX12_init_38 : decode cX12_init 38 = .ok (.putfield 23, 3) := by decide +kernel
theorem dX12_init_41 : decode cX12_init 41 = .ok (.aload_n 0, 1) := by decide +kernel
theorem dX12_init_42 : decode cX12_init 42 = .ok (.sipush 20000, 3) := by decide +kernel
theorem dX12_init_45 : decode cX12_init 45 = .ok (.newarray .byte, 2) := by decide +kernel
theorem dX12_init_47 : decode cX12_init 47 = .ok (.putfield 26, 3) := by decide +kernel
theorem dX12_init_50 : decode cX12_init 50 = .ok (.aload_n 0, 1) := by decide +kernel
theorem dX12_init_51 : decode cX12_init 51 = .ok (.iconst 2, 1) := by decide +kernel
theorem dX12_init_52 : decode cX12_init 52 = .ok (.newarray .int, 2) := by decide +kernel
theorem dX12_init_54 : decode cX12_init 54 = .ok (.putfield 29, 3) := by decide +kernel
theorem dX12_init_57 : decode cX12_init 57 = .ok (.aload_n 0, 1) := by decide +kernel
theorem dX12_init_58 : decode cX12_init 58 = .ok (.bipush 64, 2) := by decide +kernel
theorem dX12_init_60 : decode cX12_init 60 = .ok (.newarray .int, 2) := by decide +kernel
theorem dX12_init_62 : decode cX12_init 62 = .ok (.putfield 32, 3) := by decide +kernel
theorem dX12_init_65 : decode cX12_init 65 = .ok (.aload_n 0, 1) := by decide +kernel
theorem dX12_init_66 : decode cX12_init 66 = .ok (.iconst 2, 1) := by decide +kernel
theorem dX12_init_67 : decode cX12_init 67 = .ok (.newarray .int, 2) := by decide +kernel
theorem dX12_init_69 : decode cX12_init 69 = .ok (.putfield 35, 3) := by decide +kernel
theorem dX12_init_72 : decode cX12_init 72 = .ok (.aload_n 0, 1) := by decide +kernel
theorem dX12_init_73 : decode cX12_init 73 = .ok (.iconst 2, 1) := by decide +kernel
theorem dX12_init_74 : decode cX12_init 74 = .ok (.newarray .int, 2) := by decide +kernel
theorem dX12_init_76 : decode cX12_init 76 = .ok (.putfield 38, 3) := by decide +kernel
theorem dX12_init_79 : decode cX12_init 79 = .ok (.aload_n 0, 1) := by decide +kernel
theorem dX12_init_80 : decode cX12_init 80 = .ok (.iconst 2, 1) := by decide +kernel
theorem dX12_init_81 : decode cX12_init 81 = .ok (.newarray .boolean, 2) := by decide +kernel
theorem dX12_init_83 : decode cX12_init 83 = .ok (.putfield 41, 3) := by decide +kernel
theorem dX12_init_86 : decode cX12_init 86 = .ok (.aload_n 0, 1) := by decide +kernel
theorem dX12_init_87 : decode cX12_init 87 = .ok (.iconst 2, 1) := by decide +kernel
theorem dX12_init_88 : decode cX12_init 88 = .ok (.newarray .int, 2) := by decide +kernel
theorem dX12_init_90 : decode cX12_init 90 = .ok (.putfield 45, 3) := by decide +kernel
theorem dX12_init_93 : decode cX12_init 93 = .ok (.aload_n 0, 1) := by decide +kernel
theorem dX12_init_94 : decode cX12_init 94 = .ok (.sipush 200, 3) := by decide +kernel
theorem dX12_init_97 : decode cX12_init 97 = .ok (.newarray .byte, 2) := by decide +kernel
theorem dX12_init_99 : decode cX12_init 99 = .ok (.putfield 48, 3) := by decide +kernel
theorem dX12_init_102 : decode cX12_init 102 = .ok (.aload_n 0, 1) := by decide +kernel
theorem dX12_init_103 : decode cX12_init 103 = .ok (.sipush 128, 3) := by decide +kernel
theorem dX12_init_106 : decode cX12_init 106 = .ok (.newarray .byte, 2) := by decide +kernel
theorem dX12_init_108 : decode cX12_init 108 = .ok (.putfield 51, 3) := by decide +kernel
theorem dX12_init_111 : decode cX12_init 111 = .ok (.aload_n 0, 1) := by decide +kernel
theorem dX12_init_112 : decode cX12_init 112 = .ok (.sipush 4200, 3) := by decide +kernel
theorem dX12_init_115 : decode cX12_init 115 = .ok (.newarray .int, 2) := by decide +kernel
theorem dX12_init_117 : decode cX12_init 117 = .ok (.putfield 54, 3) := by decide +kernel
theorem dX12_init_120 : decode cX12_init 120 = .ok (.aload_n 0, 1) := by decide +kernel
theorem dX12_init_121 : decode cX12_init 121 = .ok (.sipush 4200, 3) := by decide +kernel
theorem dX12_init_124 : decode cX12_init 124 = .ok (.newarray .int, 2) := by decide +kernel
theorem dX12_init_126 : decode cX12_init 126 = .ok (.putfield 57, 3) := by decide +kernel
theorem dX12_init_129 : decode cX12_init 129 = .ok (.aload_n 0, 1) := by decide +kernel
theorem dX12_init_130 : decode cX12_init 130 = .ok (.sipush 4200, 3) := by decide +kernel
theorem dX12_init_133 : decode cX12_init 133 = .ok (.newarray .int, 2) := by decide +kernel
theorem dX12_init_135 : decode cX12_init 135 = .ok (.putfield 60, 3) := by decide +kernel
theorem dX12_init_138 : decode cX12_init 138 = .ok (.aload_n 0, 1) := by decide +kernel
theorem dX12_init_139 : decode cX12_init 139 = .ok (.ldc 63, 2) := by decide +kernel
theorem dX12_init_141 : decode cX12_init 141 = .ok (.newarray .byte, 2) := by decide +kernel
theorem dX12_init_143 : decode cX12_init 143 = .ok (.putfield 64, 3) := by decide +kernel
theorem dX12_init_146 : decode cX12_init 146 = .ok (.aload_n 0, 1) := by decide +kernel
theorem dX12_init_147 : decode cX12_init 147 = .ok (.bipush 16, 2) := by decide +kernel
theorem dX12_init_149 : decode cX12_init 149 = .ok (.newarray .int, 2) := by decide +kernel
theorem dX12_init_151 : decode cX12_init 151 = .ok (.putfield 67, 3) := by decide +kernel
theorem dX12_init_154 : decode cX12_init 154 = .ok (.aload_n 0, 1) := by decide +kernel
theorem dX12_init_155 : decode cX12_init 155 = .ok (.bipush 100, 2) := by decide +kernel
theorem dX12_init_157 : decode cX12_init 157 = .ok (.newarray .int, 2) := by decide +kernel
theorem dX12_init_159 : decode cX12_init 159 = .ok (.putfield 70, 3) := by decide +kernel
theorem dX12_init_162 : decode cX12_init 162 = .ok (.aload_n 0, 1) := by decide +kernel
theorem dX12_init_163 : decode cX12_init 163 = .ok (.bipush 100, 2) := by decide +kernel
theorem dX12_init_165 : decode cX12_init 165 = .ok (.newarray .int, 2) := by decide +kernel
theorem dX12_init_167 : decode cX12_init 167 = .ok (.putfield 73, 3) := by decide +kernel
theorem dX12_init_170 : decode cX12_init 170 = .ok (.aload_n 0, 1) := by decide +kernel
theorem dX12_init_171 : decode cX12_init 171 = .ok (.bipush 100, 2) := by decide +kernel
theorem dX12_init_173 : decode cX12_init 173 = .ok (.newarray .int, 2) := by decide +kernel
theorem dX12_init_175 : decode cX12_init 175 = .ok (.putfield 76, 3) := by decide +kernel
theorem dX12_init_178 : decode cX12_init 178 = .ok (.aload_n 0, 1) := by decide +kernel
theorem dX12_init_179 : decode cX12_init 179 = .ok (.bipush 100, 2) := by decide +kernel
theorem dX12_init_181 : decode cX12_init 181 = .ok (.newarray .int, 2) := by decide +kernel
theorem dX12_init_183 : decode cX12_init 183 = .ok (.putfield 79, 3) := by decide +kernel
theorem dX12_init_186 : decode cX12_init 186 = .ok (.aload_n 0, 1) := by decide +kernel
theorem dX12_init_187 : decode cX12_init 187 = .ok (.sipush 6400, 3) := by decide +kernel
theorem dX12_init_190 : decode cX12_init 190 = .ok (.newarray .byte, 2) := by decide +kernel
theorem dX12_init_192 : decode cX12_init 192 = .ok (.putfield 82, 3) := by decide +kernel
theorem dX12_init_195 : decode cX12_init 195 = .ok (.aload_n 0, 1) := by decide +kernel
theorem dX12_init_196 : decode cX12_init 196 = .ok (.bipush 64, 2) := by decide +kernel
theorem dX12_init_198 : decode cX12_init 198 = .ok (.newarray .int, 2) := by decide +kernel
theorem dX12_init_200 : decode cX12_init 200 = .ok (.putfield 85, 3) := by decide +kernel
theorem dX12_init_203 : decode cX12_init 203 = .ok (.aload_n 0, 1) := by decide +kernel
theorem dX12_init_204 : decode cX12_init 204 = .ok (.bipush 64, 2) := by decide +kernel
theorem dX12_init_206 : decode cX12_init 206 = .ok (.newarray .int, 2) := by decide +kernel
theorem dX12_init_208 : decode cX12_init 208 = .ok (.putfield 88, 3) := by decide +kernel
theorem dX12_init_211 : decode cX12_init 211 = .ok (.aload_n 0, 1) := by decide +kernel
theorem dX12_init_212 : decode cX12_init 212 = .ok (.bipush 64, 2) := by decide +kernel
theorem dX12_init_214 : decode cX12_init 214 = .ok (.newarray .int, 2) := by decide +kernel
theorem dX12_init_216 : decode cX12_init 216 = .ok (.putfield 91, 3) := by decide +kernel
theorem dX12_init_219 : decode cX12_init 219 = .ok (.aload_n 0, 1) := by decide +kernel
theorem dX12_init_220 : decode cX12_init 220 = .ok (.bipush 64, 2) := by decide +kernel
theorem dX12_init_222 : decode cX12_init 222 = .ok (.newarray .int, 2) := by decide +kernel
theorem dX12_init_224 : decode cX12_init 224 = .ok (.putfield 94, 3) := by decide +kernel
theorem dX12_init_227 : decode cX12_init 227 = .ok (.aload_n 0, 1) := by decide +kernel
theorem dX12_init_228 : decode cX12_init 228 = .ok (.bipush 64, 2) := by decide +kernel
theorem dX12_init_230 : decode cX12_init 230 = .ok (.newarray .int, 2) := by decide +kernel
theorem dX12_init_232 : decode cX12_init 232 = .ok (.putfield 97, 3) := by decide +kernel
theorem dX12_init_235 : decode cX12_init 235 = .ok (.aload_n 0, 1) := by decide +kernel
theorem dX12_init_236 : decode cX12_init 236 = .ok (.ldc 100, 2) := by decide +kernel
theorem dX12_init_238 : decode cX12_init 238 = .ok (.newarray .byte, 2) := by decide +kernel
theorem dX12_init_240 : decode cX12_init 240 = .ok (.putfield 101, 3) := by decide +kernel
theorem dX12_init_243 : decode cX12_init 243 = .ok (.aload_n 0, 1) := by decide +kernel
theorem dX12_init_244 : decode cX12_init 244 = .ok (.bipush 64, 2) := by decide +kernel
theorem dX12_init_246 : decode cX12_init 246 = .ok (.newarray .byte, 2) := by decide +kernel
theorem dX12_init_248 : decode cX12_init 248 = .ok (.putfield 104, 3) := by decide +kernel
theorem dX12_init_251 : decode cX12_init 251 = .ok (.aload_n 0, 1) := by decide +kernel
theorem dX12_init_252 : decode cX12_init 252 = .ok (.iconst 1, 1) := by decide +kernel
theorem dX12_init_253 : decode cX12_init 253 = .ok (.putfield 107, 3) := by decide +kernel
theorem dX12_init_256 : decode cX12_init 256 = .ok (.aload_n 0, 1) := by decide +kernel
theorem dX12_init_257 : decode cX12_init 257 = .ok (.iconst (-1), 1) := by decide +kernel
theorem dX12_init_258 : decode cX12_init 258 = .ok (.putfield 111, 3) := by decide +kernel
theorem dX12_init_261 : decode cX12_init 261 = .ok (.aload_n 0, 1) := by decide +kernel
theorem dX12_init_262 : decode cX12_init 262 = .ok (.sipush 256, 3) := by decide +kernel
theorem dX12_init_265 : decode cX12_init 265 = .ok (.newarray .int, 2) := by decide +kernel
theorem dX12_init_267 : decode cX12_init 267 = .ok (.putfield 115, 3) := by decide +kernel
theorem dX12_init_270 : decode cX12_init 270 = .ok (.aload_n 0, 1) := by decide +kernel
theorem dX12_init_271 : decode cX12_init 271 = .ok (.bipush 44, 2) := by decide +kernel
theorem dX12_init_273 : decode cX12_init 273 = .ok (.newarray .int, 2) := by decide +kernel
theorem dX12_init_275 : decode cX12_init 275 = .ok (.putfield 118, 3) := by decide +kernel
theorem dX12_init_278 : decode cX12_init 278 = .ok (.aload_n 0, 1) := by decide +kernel
theorem dX12_init_279 : decode cX12_init 279 = .ok (.bipush 16, 2) := by decide +kernel
theorem dX12_init_281 : decode cX12_init 281 = .ok (.newarray .int, 2) := by decide +kernel
theorem dX12_init_283 : decode cX12_init 283 = .ok (.putfield 121, 3) := by decide +kernel
theorem dX12_init_286 : decode cX12_init 286 = .ok (.aload_n 0, 1) := by decide +kernel
theorem dX12_init_287 : decode cX12_init 287 = .ok (.bipush 16, 2) := by decide +kernel
theorem dX12_init_289 : decode cX12_init 289 = .ok (.newarray .int, 2) := by decide +kernel
theorem dX12_init_291 : decode cX12_init 291 = .ok (.putfield 124, 3) := by decide +kernel
theorem dX12_init_294 : decode cX12_init 294 = .ok (.aload_n 0, 1) := by decide +kernel
theorem dX12_init_295 : decode cX12_init 295 = .ok (.sipush 800, 3) := by decide +kernel
theorem dX12_init_298 : decode cX12_init 298 = .ok (.newarray .byte, 2) := by decide +kernel
theorem dX12_init_300 : decode cX12_init 300 = .ok (.putfield 127, 3) := by decide +kernel
theorem dX12_init_303 : decode cX12_init 303 = .ok (.aload_n 0, 1) := by decide +kernel
theorem dX12_init_304 : decode cX12_init 304 = .ok (.bipush 8, 2) := by decide +kernel
theorem dX12_init_306 : decode cX12_init 306 = .ok (.newarray .int, 2) := by decide +kernel
theorem dX12_init_308 : decode cX12_init 308 = .ok (.putfield 130, 3) := by decide +kernel
theorem dX12_init_311 : decode cX12_init 311 = .ok (.aload_n 0, 1) := by decide +kernel
theorem dX12_init_312 : decode cX12_init 312 = .ok (.bipush 8, 2) := by decide +kernel
theorem dX12_init_314 : decode cX12_init 314 = .ok (.newarray .int, 2) := by decide +kernel
theorem dX12_init_316 : decode cX12_init 316 = .ok (.putfield 133, 3) := by decide +kernel
theorem dX12_init_319 : decode cX12_init 319 = .ok (.aload_n 0, 1) := by decide +kernel
theorem dX12_init_320 : decode cX12_init 320 = .ok (.bipush 64, 2) := by decide +kernel
theorem dX12_init_322 : decode cX12_init 322 = .ok (.newarray .int, 2) := by decide +kernel
theorem dX12_init_324 : decode cX12_init 324 = .ok (.putfield 136, 3) := by decide +kernel
theorem dX12_init_327 : decode cX12_init 327 = .ok (.aload_n 0, 1) := by decide +kernel
theorem dX12_init_328 : decode cX12_init 328 = .ok (.bipush 8, 2) := by decide +kernel
theorem dX12_init_330 : decode cX12_init 330 = .ok (.newarray .int, 2) := by decide +kernel
theorem dX12_init_332 : decode cX12_init 332 = .ok (.putfield 139, 3) := by decide +kernel
theorem dX12_init_335 : decode cX12_init 335 = .ok (.aload_n 0, 1) := by decide +kernel
theorem dX12_init_336 : decode cX12_init 336 = .ok (.bipush 64, 2) := by decide +kernel
theorem dX12_init_338 : decode cX12_init 338 = .ok (.newarray .int, 2) := by decide +kernel
theorem dX12_init_340 : decode cX12_init 340 = .ok (.dup, 1) := by decide +kernel
theorem dX12_init_341 : decode cX12_init 341 = .ok (.iconst 0, 1) := by decide +kernel
theorem dX12_init_342 : decode cX12_init 342 = .ok (.ldc 142, 2) := by decide +kernel
theorem dX12_init_344 : decode cX12_init 344 = .ok (.iastore, 1) := by decide +kernel
theorem dX12_init_345 : decode cX12_init 345 = .ok (.dup, 1) := by decide +kernel
theorem dX12_init_346 : decode cX12_init 346 = .ok (.iconst 1, 1) := by decide +kernel
theorem dX12_init_347 : decode cX12_init 347 = .ok (.ldc 143, 2) := by decide +kernel
theorem dX12_init_349 : decode cX12_init 349 = .ok (.iastore, 1) := by decide +kernel
theorem dX12_init_350 : decode cX12_init 350 = .ok (.dup, 1) := by decide +kernel
theorem dX12_init_351 : decode cX12_init 351 = .ok (.iconst 2, 1) := by decide +kernel
theorem dX12_init_352 : decode cX12_init 352 = .ok (.ldc 144, 2) := by decide +kernel
theorem dX12_init_354 : decode cX12_init 354 = .ok (.iastore, 1) := by decide +kernel
theorem dX12_init_355 : decode cX12_init 355 = .ok (.dup, 1) := by decide +kernel
theorem dX12_init_356 : decode cX12_init 356 = .ok (.iconst 3, 1) := by decide +kernel
theorem dX12_init_357 : decode cX12_init 357 = .ok (.ldc 145, 2) := by decide +kernel
theorem dX12_init_359 : decode cX12_init 359 = .ok (.iastore, 1) := by decide +kernel
theorem dX12_init_360 : decode cX12_init 360 = .ok (.dup, 1) := by decide +kernel
theorem dX12_init_361 : decode cX12_init 361 = .ok (.iconst 4, 1) := by decide +kernel
theorem dX12_init_362 : decode cX12_init 362 = .ok (.ldc 146, 2) := by decide +kernel
theorem dX12_init_364 : decode cX12_init 364 = .ok (.iastore, 1) := by decide +kernel
theorem dX12_init_365 : decode cX12_init 365 = .ok (.dup, 1) := by decide +kernel
theorem dX12_init_366 : decode cX12_init 366 = .ok (.iconst 5, 1) := by decide +kernel
theorem dX12_init_367 : decode cX12_init 367 = .ok (.ldc 147, 2) := by decide +kernel
theorem dX12_init_369 : decode cX12_init 369 = .ok (.iastore, 1) := by decide +kernel
theorem dX12_init_370 : decode cX12_init 370 = .ok (.dup, 1) := by decide +kernel
theorem dX12_init_371 : decode cX12_init 371 = .ok (.bipush 6, 2) := by decide +kernel
theorem dX12_init_373 : decode cX12_init 373 = .ok (.ldc 148, 2) := by decide +kernel
theorem dX12_init_375 : decode cX12_init 375 = .ok (.iastore, 1) := by decide +kernel
theorem dX12_init_376 : decode cX12_init 376 = .ok (.dup, 1) := by decide +kernel
theorem dX12_init_377 : decode cX12_init 377 = .ok (.bipush 7, 2) := by decide +kernel
theorem dX12_init_379 : decode cX12_init 379 = .ok (.ldc 149, 2) := by decide +kernel
theorem dX12_init_381 : decode cX12_init 381 = .ok (.iastore, 1) := by decide +kernel
theorem dX12_init_382 : decode cX12_init 382 = .ok (.dup, 1) := by decide +kernel
theorem dX12_init_383 : decode cX12_init 383 = .ok (.bipush 8, 2) := by decide +kernel
theorem dX12_init_385 : decode cX12_init 385 = .ok (.ldc 150, 2) := by decide +kernel
theorem dX12_init_387 : decode cX12_init 387 = .ok (.iastore, 1) := by decide +kernel
theorem dX12_init_388 : decode cX12_init 388 = .ok (.dup, 1) := by decide +kernel
theorem dX12_init_389 : decode cX12_init 389 = .ok (.bipush 9, 2) := by decide +kernel
theorem dX12_init_391 : decode cX12_init 391 = .ok (.ldc 151, 2) := by decide +kernel
theorem dX12_init_393 : decode cX12_init 393 = .ok (.iastore, 1) := by decide +kernel
theorem dX12_init_394 : decode cX12_init 394 = .ok (.dup, 1) := by decide +kernel
theorem dX12_init_395 : decode cX12_init 395 = .ok (.bipush 10, 2) := by decide +kernel
theorem dX12_init_397 : decode cX12_init 397 = .ok (.ldc 152, 2) := by decide +kernel
theorem dX12_init_399 : decode cX12_init 399 = .ok (.iastore, 1) := by decide +kernel
theorem dX12_init_400 : decode cX12_init 400 = .ok (.dup, 1) := by decide +kernel
theorem dX12_init_401 : decode cX12_init 401 = .ok (.bipush 11, 2) := by decide +kernel
theorem dX12_init_403 : decode cX12_init 403 = .ok (.ldc 153, 2) := by decide +kernel
theorem dX12_init_405 : decode cX12_init 405 = .ok (.iastore, 1) := by decide +kernel
theorem dX12_init_406 : decode cX12_init 406 = .ok (.dup, 1) := by decide +kernel
theorem dX12_init_407 : decode cX12_init 407 = .ok (.bipush 12, 2) := by decide +kernel
theorem dX12_init_409 : decode cX12_init 409 = .ok (.ldc 154, 2) := by decide +kernel
theorem dX12_init_411 : decode cX12_init 411 = .ok (.iastore, 1) := by decide +kernel
theorem dX12_init_412 : decode cX12_init 412 = .ok (.dup, 1) := by decide +kernel
theorem dX12_init_413 : decode cX12_init 413 = .ok (.bipush 13, 2) := by decide +kernel
theorem dX12_init_415 : decode cX12_init 415 = .ok (.ldc 155, 2) := by decide +kernel
theorem dX12_init_417 : decode cX12_init 417 = .ok (.iastore, 1) := by decide +kernel
theorem dX12_init_418 : decode cX12_init 418 = .ok (.dup, 1) := by decide +kernel
theorem dX12_init_419 : decode cX12_init 419 = .ok (.bipush 14, 2) := by decide +kernel
theorem dX12_init_421 : decode cX12_init 421 = .ok (.ldc 156, 2) := by decide +kernel
theorem dX12_init_423 : decode cX12_init 423 = .ok (.iastore, 1) := by decide +kernel
theorem dX12_init_424 : decode cX12_init 424 = .ok (.dup, 1) := by decide +kernel
theorem dX12_init_425 : decode cX12_init 425 = .ok (.bipush 15, 2) := by decide +kernel
theorem dX12_init_427 : decode cX12_init 427 = .ok (.ldc 157, 2) := by decide +kernel
theorem dX12_init_429 : decode cX12_init 429 = .ok (.iastore, 1) := by decide +kernel
theorem dX12_init_430 : decode cX12_init 430 = .ok (.dup, 1) := by decide +kernel
theorem dX12_init_431 : decode cX12_init 431 = .ok (.bipush 16, 2) := by decide +kernel
theorem dX12_init_433 : decode cX12_init 433 = .ok (.ldc 158, 2) := by decide +kernel
theorem dX12_init_435 : decode cX12_init 435 = .ok (.iastore, 1) := by decide +kernel
theorem dX12_init_436 : decode cX12_init 436 = .ok (.dup, 1) := by decide +kernel
theorem dX12_init_437 : decode cX12_init 437 = .ok (.bipush 17, 2) := by decide +kernel
theorem dX12_init_439 : decode cX12_init 439 = .ok (.ldc 159, 2) := by decide +kernel
theorem dX12_init_441 : decode cX12_init 441 = .ok (.iastore, 1) := by decide +kernel
theorem dX12_init_442 : decode cX12_init 442 = .ok (.dup, 1) := by decide +kernel
theorem dX12_init_443 : decode cX12_init 443 = .ok (.bipush 18, 2) := by decide +kernel
theorem dX12_init_445 : decode cX12_init 445 = .ok (.ldc 160, 2) := by decide +kernel
theorem dX12_init_447 : decode cX12_init 447 = .ok (.iastore, 1) := by decide +kernel
theorem dX12_init_448 : decode cX12_init 448 = .ok (.dup, 1) := by decide +kernel
theorem dX12_init_449 : decode cX12_init 449 = .ok (.bipush 19, 2) := by decide +kernel
theorem dX12_init_451 : decode cX12_init 451 = .ok (.ldc 161, 2) := by decide +kernel
theorem dX12_init_453 : decode cX12_init 453 = .ok (.iastore, 1) := by decide +kernel
theorem dX12_init_454 : decode cX12_init 454 = .ok (.dup, 1) := by decide +kernel
theorem dX12_init_455 : decode cX12_init 455 = .ok (.bipush 20, 2) := by decide +kernel
theorem dX12_init_457 : decode cX12_init 457 = .ok (.ldc 162, 2) := by decide +kernel
theorem dX12_init_459 : decode cX12_init 459 = .ok (.iastore, 1) := by decide +kernel
theorem dX12_init_460 : decode cX12_init 460 = .ok (.dup, 1) := by decide +kernel
theorem dX12_init_461 : decode cX12_init 461 = .ok (.bipush 21, 2) := by decide +kernel
theorem dX12_init_463 : decode cX12_init 463 = .ok (.ldc 163, 2) := by decide +kernel
theorem dX12_init_465 : decode cX12_init 465 = .ok (.iastore, 1) := by decide +kernel
theorem dX12_init_466 : decode cX12_init 466 = .ok (.dup, 1) := by decide +kernel
theorem dX12_init_467 : decode cX12_init 467 = .ok (.bipush 22, 2) := by decide +kernel
theorem dX12_init_469 : decode cX12_init 469 = .ok (.ldc 164, 2) := by decide +kernel
theorem dX12_init_471 : decode cX12_init 471 = .ok (.iastore, 1) := by decide +kernel
theorem dX12_init_472 : decode cX12_init 472 = .ok (.dup, 1) := by decide +kernel
theorem dX12_init_473 : decode cX12_init 473 = .ok (.bipush 23, 2) := by decide +kernel
theorem dX12_init_475 : decode cX12_init 475 = .ok (.ldc 165, 2) := by decide +kernel
theorem dX12_init_477 : decode cX12_init 477 = .ok (.iastore, 1) := by decide +kernel
theorem dX12_init_478 : decode cX12_init 478 = .ok (.dup, 1) := by decide +kernel
theorem dX12_init_479 : decode cX12_init 479 = .ok (.bipush 24, 2) := by decide +kernel
theorem dX12_init_481 : decode cX12_init 481 = .ok (.ldc 166, 2) := by decide +kernel
theorem dX12_init_483 : decode cX12_init 483 = .ok (.iastore, 1) := by decide +kernel
theorem dX12_init_484 : decode cX12_init 484 = .ok (.dup, 1) := by decide +kernel
theorem dX12_init_485 : decode cX12_init 485 = .ok (.bipush 25, 2) := by decide +kernel
theorem dX12_init_487 : decode cX12_init 487 = .ok (.ldc 167, 2) := by decide +kernel
theorem dX12_init_489 : decode cX12_init 489 = .ok (.iastore, 1) := by decide +kernel
theorem dX12_init_490 : decode cX12_init 490 = .ok (.dup, 1) := by decide +kernel
theorem dX12_init_491 : decode cX12_init 491 = .ok (.bipush 26, 2) := by decide +kernel
theorem dX12_init_493 : decode cX12_init 493 = .ok (.ldc 168, 2) := by decide +kernel
theorem dX12_init_495 : decode cX12_init 495 = .ok (.iastore, 1) := by decide +kernel
theorem dX12_init_496 : decode cX12_init 496 = .ok (.dup, 1) := by decide +kernel
theorem dX12_init_497 : decode cX12_init 497 = .ok (.bipush 27, 2) := by decide +kernel
theorem dX12_init_499 : decode cX12_init 499 = .ok (.ldc 169, 2) := by decide +kernel
theorem dX12_init_501 : decode cX12_init 501 = .ok (.iastore, 1) := by decide +kernel
theorem dX12_init_502 : decode cX12_init 502 = .ok (.dup, 1) := by decide +kernel
theorem dX12_init_503 : decode cX12_init 503 = .ok (.bipush 28, 2) := by decide +kernel
theorem dX12_init_505 : decode cX12_init 505 = .ok (.ldc 170, 2) := by decide +kernel
theorem dX12_init_507 : decode cX12_init 507 = .ok (.iastore, 1) := by decide +kernel
theorem dX12_init_508 : decode cX12_init 508 = .ok (.dup, 1) := by decide +kernel
theorem dX12_init_509 : decode cX12_init 509 = .ok (.bipush 29, 2) := by decide +kernel
theorem dX12_init_511 : decode cX12_init 511 = .ok (.ldc 171, 2) := by decide +kernel
theorem dX12_init_513 : decode cX12_init 513 = .ok (.iastore, 1) := by decide +kernel
theorem dX12_init_514 : decode cX12_init 514 = .ok (.dup, 1) := by decide +kernel
theorem dX12_init_515 : decode cX12_init 515 = .ok (.bipush 30, 2) := by decide +kernel
theorem dX12_init_517 : decode cX12_init 517 = .ok (.ldc 172, 2) := by decide +kernel
theorem dX12_init_519 : decode cX12_init 519 = .ok (.iastore, 1) := by decide +kernel
theorem dX12_init_520 : decode cX12_init 520 = .ok (.dup, 1) := by decide +kernel
theorem dX12_init_521 : decode cX12_init 521 = .ok (.bipush 31, 2) := by decide +kernel
theorem dX12_init_523 : decode cX12_init 523 = .ok (.ldc 173, 2) := by decide +kernel
theorem dX12_init_525 : decode cX12_init 525 = .ok (.iastore, 1) := by decide +kernel
theorem dX12_init_526 : decode cX12_init 526 = .ok (.dup, 1) := by decide +kernel
theorem dX12_init_527 : decode cX12_init 527 = .ok (.bipush 32, 2) := by decide +kernel
theorem dX12_init_529 : decode cX12_init 529 = .ok (.ldc 174, 2) := by decide +kernel
theorem dX12_init_531 : decode cX12_init 531 = .ok (.iastore, 1) := by decide +kernel
theorem dX12_init_532 : decode cX12_init 532 = .ok (.dup, 1) := by decide +kernel
theorem dX12_init_533 : decode cX12_init 533 = .ok (.bipush 33, 2) := by decide +kernel
theorem dX12_init_535 : decode cX12_init 535 = .ok (.ldc 175, 2) := by decide +kernel
theorem dX12_init_537 : decode cX12_init 537 = .ok (.iastore, 1) := by decide +kernel
theorem dX12_init_538 : decode cX12_init 538 = .ok (.dup, 1) := by decide +kernel
theorem dX12_init_539 : decode cX12_init 539 = .ok (.bipush 34, 2) := by decide +kernel
theorem dX12_init_541 : decode cX12_init 541 = .ok (.ldc 176, 2) := by decide +kernel
theorem dX12_init_543 : decode cX12_init 543 = .ok (.iastore, 1) := by decide +kernel
theorem dX12_init_544 : decode cX12_init 544 = .ok (.dup, 1) := by decide +kernel
theorem dX12_init_545 : decode cX12_init 545 = .ok (.bipush 35, 2) := by decide +kernel
theorem dX12_init_547 : decode cX12_init 547 = .ok (.ldc 177, 2) := by decide +kernel
theorem dX12_init_549 : decode cX12_init 549 = .ok (.iastore, 1) := by decide +kernel
theorem dX12_init_550 : decode cX12_init 550 = .ok (.dup, 1) := by decide +kernel
theorem dX12_init_551 : decode cX12_init 551 = .ok (.bipush 36, 2) := by decide +kernel
theorem dX12_init_553 : decode cX12_init 553 = .ok (.ldc 178, 2) := by decide +kernel
theorem dX12_init_555 : decode cX12_init 555 = .ok (.iastore, 1) := by decide +kernel
theorem dX12_init_556 : decode cX12_init 556 = .ok (.dup, 1) := by decide +kernel
theorem dX12_init_557 : decode cX12_init 557 = .ok (.bipush 37, 2) := by decide +kernel
theorem dX12_init_559 : decode cX12_init 559 = .ok (.ldc 179, 2) := by decide +kernel
theorem dX12_init_561 : decode cX12_init 561 = .ok (.iastore, 1) := by decide +kernel
theorem dX12_init_562 : decode cX12_init 562 = .ok (.dup, 1) := by decide +kernel
theorem dX12_init_563 : decode cX12_init 563 = .ok (.bipush 38, 2) := by decide +kernel
theorem dX12_init_565 : decode cX12_init 565 = .ok (.ldc 180, 2) := by decide +kernel
theorem dX12_init_567 : decode cX12_init 567 = .ok (.iastore, 1) := by decide +kernel
theorem dX12_init_568 : decode cX12_init 568 = .ok (.dup, 1) := by decide +kernel
theorem dX12_init_569 : decode cX12_init 569 = .ok (.bipush 39, 2) := by decide +kernel
theorem dX12_init_571 : decode cX12_init 571 = .ok (.ldc 181, 2) := by decide +kernel
theorem dX12_init_573 : decode cX12_init 573 = .ok (.iastore, 1) := by decide +kernel
theorem dX12_init_574 : decode cX12_init 574 = .ok (.dup, 1) := by decide +kernel
theorem dX12_init_575 : decode cX12_init 575 = .ok (.bipush 40, 2) := by decide +kernel
theorem dX12_init_577 : decode cX12_init 577 = .ok (.ldc 182, 2) := by decide +kernel
theorem dX12_init_579 : decode cX12_init 579 = .ok (.iastore, 1) := by decide +kernel
theorem dX12_init_580 : decode cX12_init 580 = .ok (.dup, 1) := by decide +kernel
theorem dX12_init_581 : decode cX12_init 581 = .ok (.bipush 41, 2) := by decide +kernel
theorem dX12_init_583 : decode cX12_init 583 = .ok (.ldc 183, 2) := by decide +kernel
theorem dX12_init_585 : decode cX12_init 585 = .ok (.iastore, 1) := by decide +kernel
theorem dX12_init_586 : decode cX12_init 586 = .ok (.dup, 1) := by decide +kernel
theorem dX12_init_587 : decode cX12_init 587 = .ok (.bipush 42, 2) := by decide +kernel
theorem dX12_init_589 : decode cX12_init 589 = .ok (.ldc 184, 2) := by decide +kernel
theorem dX12_init_591 : decode cX12_init 591 = .ok (.iastore, 1) := by decide +kernel
theorem dX12_init_592 : decode cX12_init 592 = .ok (.dup, 1) := by decide +kernel
theorem dX12_init_593 : decode cX12_init 593 = .ok (.bipush 43, 2) := by decide +kernel
theorem dX12_init_595 : decode cX12_init 595 = .ok (.ldc 185, 2) := by decide +kernel
theorem dX12_init_597 : decode cX12_init 597 = .ok (.iastore, 1) := by decide +kernel
theorem dX12_init_598 : decode cX12_init 598 = .ok (.dup, 1) := by decide +kernel
theorem dX12_init_599 : decode cX12_init 599 = .ok (.bipush 44, 2) := by decide +kernel
theorem dX12_init_601 : decode cX12_init 601 = .ok (.ldc 186, 2) := by decide +kernel
theorem dX12_init_603 : decode cX12_init 603 = .ok (.iastore, 1) := by decide +kernel
theorem dX12_init_604 : decode cX12_init 604 = .ok (.dup, 1) := by decide +kernel
theorem dX12_init_605 : decode cX12_init 605 = .ok (.bipush 45, 2) := by decide +kernel
theorem dX12_init_607 : decode cX12_init 607 = .ok (.ldc 187, 2) := by decide +kernel
theorem dX12_init_609 : decode cX12_init 609 = .ok (.iastore, 1) := by decide +kernel
theorem dX12_init_610 : decode cX12_init 610 = .ok (.dup, 1) := by decide +kernel
theorem dX12_init_611 : decode cX12_init 611 = .ok (.bipush 46, 2) := by decide +kernel
theorem dX12_init_613 : decode cX12_init 613 = .ok (.ldc 188, 2) := by decide +kernel
theorem dX12_init_615 : decode cX12_init 615 = .ok (.iastore, 1) := by decide +kernel
theorem dX12_init_616 : decode cX12_init 616 = .ok (.dup, 1) := by decide +kernel
theorem dX12_init_617 : decode cX12_init 617 = .ok (.bipush 47, 2) := by decide +kernel
theorem dX12_init_619 : decode cX12_init 619 = .ok (.ldc 189, 2) := by decide +kernel
theorem dX12_init_621 : decode cX12_init 621 = .ok (.iastore, 1) := by decide +kernel
theorem dX12_init_622 : decode cX12_init 622 = .ok (.dup, 1) := by decide +kernel
theorem dX12_init_623 : decode cX12_init 623 = .ok (.bipush 48, 2) := by decide +kernel
theorem dX12_init_625 : decode cX12_init 625 = .ok (.ldc 190, 2) := by decide +kernel
theorem dX12_init_627 : decode cX12_init 627 = .ok (.iastore, 1) := by decide +kernel
theorem dX12_init_628 : decode cX12_init 628 = .ok (.dup, 1) := by decide +kernel
theorem dX12_init_629 : decode cX12_init 629 = .ok (.bipush 49, 2) := by decide +kernel
theorem dX12_init_631 : decode cX12_init 631 = .ok (.ldc 191, 2) := by decide +kernel
theorem dX12_init_633 : decode cX12_init 633 = .ok (.iastore, 1) := by decide +kernel
theorem dX12_init_634 : decode cX12_init 634 = .ok (.dup, 1) := by decide +kernel
theorem dX12_init_635 : decode cX12_init 635 = .ok (.bipush 50, 2) := by decide +kernel
theorem dX12_init_637 : decode cX12_init 637 = .ok (.ldc 192, 2) := by decide +kernel
theorem dX12_init_639 : decode cX12_init 639 = .ok (.iastore, 1) := by decide +kernel
theorem dX12_init_640 : decode cX12_init 640 = .ok (.dup, 1) := by decide +kernel
theorem dX12_init_641 : decode cX12_init 641 = .ok (.bipush 51, 2) := by decide +kernel
theorem dX12_init_643 : decode cX12_init 643 = .ok (.ldc 193, 2) := by decide +kernel
theorem dX12_init_645 : decode cX12_init 645 = .ok (.iastore, 1) := by decide +kernel
theorem dX12_init_646 : decode cX12_init 646 = .ok (.dup, 1) := by decide +kernel
theorem dX12_init_647 : decode cX12_init 647 = .ok (.bipush 52, 2) := by decide +kernel
theorem dX12_init_649 : decode cX12_init 649 = .ok (.ldc 194, 2) := by decide +kernel
theorem dX12_init_651 : decode cX12_init 651 = .ok (.iastore, 1) := by decide +kernel
theorem dX12_init_652 : decode cX12_init 652 = .ok (.dup, 1) := by decide +kernel
theorem dX12_init_653 : decode cX12_init 653 = .ok (.bipush 53, 2) := by decide +kernel
theorem dX12_init_655 : decode cX12_init 655 = .ok (.ldc 195, 2) := by decide +kernel
theorem dX12_init_657 : decode cX12_init 657 = .ok (.iastore, 1) := by decide +kernel
theorem dX12_init_658 : decode cX12_init 658 = .ok (.dup, 1) := by decide +kernel
theorem dX12_init_659 : decode cX12_init 659 = .ok (.bipush 54, 2) := by decide +kernel
theorem dX12_init_661 : decode cX12_init 661 = .ok (.ldc 196, 2) := by decide +kernel
theorem dX12_init_663 : decode cX12_init 663 = .ok (.iastore, 1) := by decide +kernel
theorem dX12_init_664 : decode cX12_init 664 = .ok (.dup, 1) := by decide +kernel
theorem dX12_init_665 : decode cX12_init 665 = .ok (.bipush 55, 2) := by decide +kernel
theorem dX12_init_667 : decode cX12_init 667 = .ok (.ldc 197, 2) := by decide +kernel
theorem dX12_init_669 : decode cX12_init 669 = .ok (.iastore, 1) := by decide +kernel
theorem dX12_init_670 : decode cX12_init 670 = .ok (.dup, 1) := by decide +kernel
theorem dX12_init_671 : decode cX12_init 671 = .ok (.bipush 56, 2) := by decide +kernel
theorem dX12_init_673 : decode cX12_init 673 = .ok (.ldc 198, 2) := by decide +kernel
theorem dX12_init_675 : decode cX12_init 675 = .ok (.iastore, 1) := by decide +kernel
theorem dX12_init_676 : decode cX12_init 676 = .ok (.dup, 1) := by decide +kernel
theorem dX12_init_677 : decode cX12_init 677 = .ok (.bipush 57, 2) := by decide +kernel
theorem dX12_init_679 : decode cX12_init 679 = .ok (.ldc 199, 2) := by decide +kernel
theorem dX12_init_681 : decode cX12_init 681 = .ok (.iastore, 1) := by decide +kernel
theorem dX12_init_682 : decode cX12_init 682 = .ok (.dup, 1) := by decide +kernel
theorem dX12_init_683 : decode cX12_init 683 = .ok (.bipush 58, 2) := by decide +kernel
theorem dX12_init_685 : decode cX12_init 685 = .ok (.ldc 200, 2) := by decide +kernel
theorem dX12_init_687 : decode cX12_init 687 = .ok (.iastore, 1) := by decide +kernel
theorem dX12_init_688 : decode cX12_init 688 = .ok (.dup, 1) := by decide +kernel
theorem dX12_init_689 : decode cX12_init 689 = .ok (.bipush 59, 2) := by decide +kernel
theorem dX12_init_691 : decode cX12_init 691 = .ok (.ldc 201, 2) := by decide +kernel
theorem dX12_init_693 : decode cX12_init 693 = .ok (.iastore, 1) := by decide +kernel
theorem dX12_init_694 : decode cX12_init 694 = .ok (.dup, 1) := by decide +kernel
theorem dX12_init_695 : decode cX12_init 695 = .ok (.bipush 60, 2) := by decide +kernel
theorem dX12_init_697 : decode cX12_init 697 = .ok (.ldc 202, 2) := by decide +kernel
theorem dX12_init_699 : decode cX12_init 699 = .ok (.iastore, 1) := by decide +kernel
theorem dX12_init_700 : decode cX12_init 700 = .ok (.dup, 1) := by decide +kernel
theorem dX12_init_701 : decode cX12_init 701 = .ok (.bipush 61, 2) := by decide +kernel
theorem dX12_init_703 : decode cX12_init 703 = .ok (.ldc 203, 2) := by decide +kernel
theorem dX12_init_705 : decode cX12_init 705 = .ok (.iastore, 1) := by decide +kernel
theorem dX12_init_706 : decode cX12_init 706 = .ok (.dup, 1) := by decide +kernel
theorem dX12_init_707 : decode cX12_init 707 = .ok (.bipush 62, 2) := by decide +kernel
theorem dX12_init_709 : decode cX12_init 709 = .ok (.ldc 204, 2) := by decide +kernel
theorem dX12_init_711 : decode cX12_init 711 = .ok (.iastore, 1) := by decide +kernel
theorem dX12_init_712 : decode cX12_init 712 = .ok (.dup, 1) := by decide +kernel
theorem dX12_init_713 : decode cX12_init 713 = .ok (.bipush 63, 2) := by decide +kernel
theorem dX12_init_715 : decode cX12_init 715 = .ok (.ldc 205, 2) := by decide +kernel
theorem dX12_init_717 : decode cX12_init 717 = .ok (.iastore, 1) := by decide +kernel
theorem dX12_init_718 : decode cX12_init 718 = .ok (.putfield 206, 3) := by decide +kernel
theorem dX12_init_721 : decode cX12_init 721 = .ok (.aload_n 0, 1) := by decide +kernel
theorem dX12_init_722 : decode cX12_init 722 = .ok (.bipush 8, 2) := by decide +kernel
theorem dX12_init_724 : decode cX12_init 724 = .ok (.newarray .int, 2) := by decide +kernel
theorem dX12_init_726 : decode cX12_init 726 = .ok (.dup, 1) := by decide +kernel
theorem dX12_init_727 : decode cX12_init 727 = .ok (.iconst 0, 1) := by decide +kernel
theorem dX12_init_728 : decode cX12_init 728 = .ok (.ldc 209, 2) := by decide +kernel
theorem dX12_init_730 : decode cX12_init 730 = .ok (.iastore, 1) := by decide +kernel
theorem dX12_init_731 : decode cX12_init 731 = .ok (.dup, 1) := by decide +kernel
theorem dX12_init_732 : decode cX12_init 732 = .ok (.iconst 1, 1) := by decide +kernel
theorem dX12_init_733 : decode cX12_init 733 = .ok (.ldc 210, 2) := by decide +kernel
theorem dX12_init_735 : decode cX12_init 735 = .ok (.iastore, 1) := by decide +kernel
theorem dX12_init_736 : decode cX12_init 736 = .ok (.dup, 1) := by decide +kernel
theorem dX12_init_737 : decode cX12_init 737 = .ok (.iconst 2, 1) := by decide +kernel
theorem dX12_init_738 : decode cX12_init 738 = .ok (.ldc 211, 2) := by decide +kernel
theorem dX12_init_740 : decode cX12_init 740 = .ok (.iastore, 1) := by decide +kernel
theorem dX12_init_741 : decode cX12_init 741 = .ok (.dup, 1) := by decide +kernel
theorem dX12_init_742 : decode cX12_init 742 = .ok (.iconst 3, 1) := by decide +kernel
theorem dX12_init_743 : decode cX12_init 743 = .ok (.ldc 212, 2) := by decide +kernel
theorem dX12_init_745 : decode cX12_init 745 = .ok (.iastore, 1) := by decide +kernel
theorem dX12_init_746 : decode cX12_init 746 = .ok (.dup, 1) := by decide +kernel
theorem dX12_init_747 : decode cX12_init 747 = .ok (.iconst 4, 1) := by decide +kernel
theorem dX12_init_748 : decode cX12_init 748 = .ok (.ldc 213, 2) := by decide +kernel
theorem dX12_init_750 : decode cX12_init 750 = .ok (.iastore, 1) := by decide +kernel
theorem dX12_init_751 : decode cX12_init 751 = .ok (.dup, 1) := by decide +kernel
theorem dX12_init_752 : decode cX12_init 752 = .ok (.iconst 5, 1) := by decide +kernel
theorem dX12_init_753 : decode cX12_init 753 = .ok (.ldc 214, 2) := by decide +kernel
theorem dX12_init_755 : decode cX12_init 755 = .ok (.iastore, 1) := by decide +kernel
theorem dX12_init_756 : decode cX12_init 756 = .ok (.dup, 1) := by decide +kernel
theorem dX12_init_757 : decode cX12_init 757 = .ok (.bipush 6, 2) := by decide +kernel
theorem dX12_init_759 : decode cX12_init 759 = .ok (.ldc 215, 2) := by decide +kernel
theorem dX12_init_761 : decode cX12_init 761 = .ok (.iastore, 1) := by decide +kernel
theorem dX12_init_762 : decode cX12_init 762 = .ok (.dup, 1) := by decide +kernel
theorem dX12_init_763 : decode cX12_init 763 = .ok (.bipush 7, 2) := by decide +kernel
theorem dX12_init_765 : decode cX12_init 765 = .ok (.ldc 216, 2) := by decide +kernel
theorem dX12_init_767 : decode cX12_init 767 = .ok (.iastore, 1) := by decide +kernel
theorem dX12_init_768 : decode cX12_init 768 = .ok (.putfield 217, 3) := by decide +kernel
theorem dX12_init_771 : decode cX12_init 771 = .ok (.aload_n 0, 1) := by decide +kernel
theorem dX12_init_772 : decode cX12_init 772 = .ok (.bipush 8, 2) := by decide +kernel
theorem dX12_init_774 : decode cX12_init 774 = .ok (.newarray .int, 2) := by decide +kernel
theorem dX12_init_776 : decode cX12_init 776 = .ok (.putfield 220, 3) := by decide +kernel
theorem dX12_init_779 : decode cX12_init 779 = .ok (.aload_n 0, 1) := by decide +kernel
theorem dX12_init_780 : decode cX12_init 780 = .ok (.bipush 8, 2) := by decide +kernel
theorem dX12_init_782 : decode cX12_init 782 = .ok (.newarray .int, 2) := by decide +kernel
theorem dX12_init_784 : decode cX12_init 784 = .ok (.putfield 223, 3) := by decide +kernel
theorem dX12_init_787 : decode cX12_init 787 = .ok (.aload_n 0, 1) := by decide +kernel
theorem dX12_init_788 : decode cX12_init 788 = .ok (.bipush 8, 2) := by decide +kernel
theorem dX12_init_790 : decode cX12_init 790 = .ok (.newarray .int, 2) := by decide +kernel
theorem dX12_init_792 : decode cX12_init 792 = .ok (.putfield 226, 3) := by decide +kernel
theorem dX12_init_795 : decode cX12_init 795 = .ok (.aload_n 0, 1) := by decide +kernel
theorem dX12_init_796 : decode cX12_init 796 = .ok (.bipush 18, 2) := by decide +kernel
theorem dX12_init_798 : decode cX12_init 798 = .ok (.newarray .int, 2) := by decide +kernel
theorem dX12_init_800 : decode cX12_init 800 = .ok (.putfield 229, 3) := by decide +kernel
theorem dX12_init_803 : decode cX12_init 803 = .ok (.aload_n 0, 1) := by decide +kernel
theorem dX12_init_804 : decode cX12_init 804 = .ok (.bipush 16, 2) := by decide +kernel
theorem dX12_init_806 : decode cX12_init 806 = .ok (.newarray .int, 2) := by decide +kernel
theorem dX12_init_808 : decode cX12_init 808 = .ok (.putfield 232, 3) := by decide +kernel
theorem dX12_init_811 : decode cX12_init 811 = .ok (.aload_n 0, 1) := by decide +kernel
theorem dX12_init_812 : decode cX12_init 812 = .ok (.bipush 8, 2) := by decide +kernel
theorem dX12_init_814 : decode cX12_init 814 = .ok (.newarray .int, 2) := by decide +kernel
theorem dX12_init_816 : decode cX12_init 816 = .ok (.putfield 235, 3) := by decide +kernel
theorem dX12_init_819 : decode cX12_init 819 = .ok (.aload_n 0, 1) := by decide +kernel
theorem dX12_init_820 : decode cX12_init 820 = .ok (.bipush 8, 2) := by decide +kernel
theorem dX12_init_822 : decode cX12_init 822 = .ok (.newarray .int, 2) := by decide +kernel
theorem dX12_init_824 : decode cX12_init 824 = .ok (.putfield 238, 3) := by decide +kernel
theorem dX12_init_827 : decode cX12_init 827 = .ok (.aload_n 0, 1) := by decide +kernel
theorem dX12_init_828 : decode cX12_init 828 = .ok (.bipush 8, 2) := by decide +kernel
theorem dX12_init_830 : decode cX12_init 830 = .ok (.newarray .int, 2) := by decide +kernel
theorem dX12_init_832 : decode cX12_init 832 = .ok (.putfield 241, 3) := by decide +kernel
theorem dX12_init_835 : decode cX12_init 835 = .ok (.aload_n 0, 1) := by decide +kernel
theorem dX12_init_836 : decode cX12_init 836 = .ok (.bipush 8, 2) := by decide +kernel
theorem dX12_init_838 : decode cX12_init 838 = .ok (.newarray .int, 2) := by decide +kernel
theorem dX12_init_840 : decode cX12_init 840 = .ok (.putfield 244, 3) := by decide +kernel
theorem dX12_init_843 : decode cX12_init 843 = .ok (.aload_n 0, 1) := by decide +kernel
theorem dX12_init_844 : decode cX12_init 844 = .ok (.bipush 8, 2) := by decide +kernel
theorem dX12_init_846 : decode cX12_init 846 = .ok (.newarray .int, 2) := by decide +kernel
theorem dX12_init_848 : decode cX12_init 848 = .ok (.putfield 247, 3) := by decide +kernel
theorem dX12_init_851 : decode cX12_init 851 = .ok (.aload_n 0, 1) := by decide +kernel
theorem dX12_init_852 : decode cX12_init 852 = .ok (.bipush 8, 2) := by decide +kernel
theorem dX12_init_854 : decode cX12_init 854 = .ok (.newarray .int, 2) := by decide +kernel
theorem dX12_init_856 : decode cX12_init 856 = .ok (.putfield 250, 3) := by decide +kernel
theorem dX12_init_859 : decode cX12_init 859 = .ok (.aload_n 0, 1) := by decide +kernel
theorem dX12_init_860 : decode cX12_init 860 = .ok (.bipush 16, 2) := by decide +kernel
theorem dX12_init_862 : decode cX12_init 862 = .ok (.newarray .int, 2) := by decide +kernel
theorem dX12_init_864 : decode cX12_init 864 = .ok (.putfield 253, 3) := by decide +kernel
theorem dX12_init_867 : decode cX12_init 867 = .ok (.aload_n 0, 1) := by decide +kernel
theorem dX12_init_868 : decode cX12_init 868 = .ok (.bipush 16, 2) := by decide +kernel
theorem dX12_init_870 : decode cX12_init 870 = .ok (.newarray .int, 2) := by decide +kernel
theorem dX12_init_872 : decode cX12_init 872 = .ok (.putfield 256, 3) := by decide +kernel
theorem dX12_init_875 : decode cX12_init 875 = .ok (.aload_n 0, 1) := by decide +kernel
theorem dX12_init_876 : decode cX12_init 876 = .ok (.bipush 16, 2) := by decide +kernel
theorem dX12_init_878 : decode cX12_init 878 = .ok (.newarray .int, 2) := by decide +kernel
theorem dX12_init_880 : decode cX12_init 880 = .ok (.putfield 259, 3) := by decide +kernel
theorem dX12_init_883 : decode cX12_init 883 = .ok (.aload_n 0, 1) := by decide +kernel
theorem dX12_init_884 : decode cX12_init 884 = .ok (.bipush 16, 2) := by decide +kernel
theorem dX12_init_886 : decode cX12_init 886 = .ok (.newarray .int, 2) := by decide +kernel
theorem dX12_init_888 : decode cX12_init 888 = .ok (.putfield 262, 3) := by decide +kernel
theorem dX12_init_891 : decode cX12_init 891 = .ok (.aload_n 0, 1) := by decide +kernel
theorem dX12_init_892 : decode cX12_init 892 = .ok (.bipush 16, 2) := by decide +kernel
theorem dX12_init_894 : decode cX12_init 894 = .ok (.newarray .int, 2) := by decide +kernel
theorem dX12_init_896 : decode cX12_init 896 = .ok (.putfield 265, 3) := by decide +kernel
theorem dX12_init_899 : decode cX12_init 899 = .ok (.aload_n 0, 1) := by decide +kernel
theorem dX12_init_900 : decode cX12_init 900 = .ok (.bipush 16, 2) := by decide +kernel
theorem dX12_init_902 : decode cX12_init 902 = .ok (.newarray .int, 2) := by decide +kernel
theorem dX12_init_904 : decode cX12_init 904 = .ok (.putfield 268, 3) := by decide +kernel
theorem dX12_init_907 : decode cX12_init 907 = .ok (.aload_n 0, 1) := by decide +kernel
theorem dX12_init_908 : decode cX12_init 908 = .ok (.bipush 16, 2) := by decide +kernel
theorem dX12_init_910 : decode cX12_init 910 = .ok (.newarray .int, 2) := by decide +kernel
theorem dX12_init_912 : decode cX12_init 912 = .ok (.putfield 271, 3) := by decide +kernel
theorem dX12_init_915 : decode cX12_init 915 = .ok (.aload_n 0, 1) := by decide +kernel
theorem dX12_init_916 : decode cX12_init 916 = .ok (.bipush 32, 2) := by decide +kernel
theorem dX12_init_918 : decode cX12_init 918 = .ok (.newarray .int, 2) := by decide +kernel
theorem dX12_init_920 : decode cX12_init 920 = .ok (.putfield 274, 3) := by decide +kernel
theorem dX12_init_923 : decode cX12_init 923 = .ok (.aload_n 0, 1) := by decide +kernel
theorem dX12_init_924 : decode cX12_init 924 = .ok (.bipush 18, 2) := by decide +kernel
theorem dX12_init_926 : decode cX12_init 926 = .ok (.newarray .int, 2) := by decide +kernel
theorem dX12_init_928 : decode cX12_init 928 = .ok (.putfield 277, 3) := by decide +kernel
theorem dX12_init_931 : decode cX12_init 931 = .ok (.aload_n 0, 1) := by decide +kernel
theorem dX12_init_932 : decode cX12_init 932 = .ok (.bipush 16, 2) := by decide +kernel
theorem dX12_init_934 : decode cX12_init 934 = .ok (.newarray .int, 2) := by decide +kernel
theorem dX12_init_936 : decode cX12_init 936 = .ok (.putfield 280, 3) := by decide +kernel
theorem dX12_init_939 : decode cX12_init 939 = .ok (.aload_n 0, 1) := by decide +kernel
theorem dX12_init_940 : decode cX12_init 940 = .ok (.bipush 16, 2) := by decide +kernel
theorem dX12_init_942 : decode cX12_init 942 = .ok (.newarray .int, 2) := by decide +kernel
theorem dX12_init_944 : decode cX12_init 944 = .ok (.putfield 283, 3) := by decide +kernel
theorem dX12_init_947 : decode cX12_init 947 = .ok (.iconst 0, 1) := by decide +kernel
theorem dX12_init_948 : decode cX12_init 948 = .ok (.istore_n 1, 1) := by decide +kernel
theorem dX12_init_949 : decode cX12_init 949 = .ok (.iload_n 1, 1) := by decide +kernel
theorem dX12_init_950 : decode cX12_init 950 = .ok (.sipush 256, 3) := by decide +kernel
theorem dX12_init_953 : decode cX12_init 953 = .ok (.if_icmp .ge 19, 3) := by decide +kernel
theorem dX12_init_956 : decode cX12_init 956 = .ok (.aload_n 0, 1) := by decide +kernel
theorem dX12_init_957 : decode cX12_init 957 = .ok (.getfield 115, 3) := by decide +kernel
theorem dX12_init_960 : decode cX12_init 960 = .ok (.iload_n 1, 1) := by decide +kernel
theorem dX12_init_961 : decode cX12_init 961 = .ok (.iload_n 1, 1) := by decide +kernel
theorem dX12_init_962 : decode cX12_init 962 = .ok (.invokestatic 286, 3) := by decide +kernel
theorem dX12_init_965 : decode cX12_init 965 = .ok (.iastore, 1) := by decide +kernel
theorem dX12_init_966 : decode cX12_init 966 = .ok (.iinc 1 1, 3) := by decide +kernel
theorem dX12_init_969 : decode cX12_init 969 = .ok (.goto (-20), 3) := by decide +kernel
theorem dX12_init_972 : decode cX12_init 972 = .ok (.iconst 0, 1) := by decide +kernel
theorem dX12_init_973 : decode cX12_init 973 = .ok (.istore_n 1, 1) := by decide +kernel
theorem dX12_init_974 : decode cX12_init 974 = .ok (.iload_n 1, 1) := by decide +kernel
theorem dX12_init_975 : decode cX12_init 975 = .ok (.bipush 8, 2) := by decide +kernel
theorem dX12_init_977 : decode cX12_init 977 = .ok (.if_icmp .ge 45, 3) := by decide +kernel
theorem dX12_init_980 : decode cX12_init 980 = .ok (.aload_n 0, 1) := by decide +kernel
theorem dX12_init_981 : decode cX12_init 981 = .ok (.getfield 220, 3) := by decide +kernel
theorem dX12_init_984 : decode cX12_init 984 = .ok (.iload_n 1, 1) := by decide +kernel
theorem dX12_init_985 : decode cX12_init 985 = .ok (.iload_n 1, 1) := by decide +kernel
theorem dX12_init_986 : decode cX12_init 986 = .ok (.bipush 7, 2) := by decide +kernel
theorem dX12_init_988 : decode cX12_init 988 = .ok (.if_icmp .ne 9, 3) := by decide +kernel
theorem dX12_init_991 : decode cX12_init 991 = .ok (.sipush (-189), 3) := by decide +kernel
theorem dX12_init_994 : decode cX12_init 994 = .ok (.goto 4, 3) := by decide +kernel
theorem dX12_init_997 : decode cX12_init 997 = .ok (.iconst (-1), 1) := by decide +kernel
theorem dX12_init_998 : decode cX12_init 998 = .ok (.iastore, 1) := by decide +kernel
theorem dX12_init_999 : decode cX12_init 999 = .ok (.aload_n 0, 1) := by decide +kernel
theorem dX12_init_1000 : decode cX12_init 1000 = .ok (.getfield 223, 3) := by decide +kernel
theorem dX12_init_1003 : decode cX12_init 1003 = .ok (.iload_n 1, 1) := by decide +kernel
theorem dX12_init_1004 : decode cX12_init 1004 = .ok (.iload_n 1, 1) := by decide +kernel
theorem dX12_init_1005 : decode cX12_init 1005 = .ok (.bipush 7, 2) := by decide +kernel
theorem dX12_init_1007 : decode cX12_init 1007 = .ok (.if_icmp .ne 7, 3) := by decide +kernel
theorem dX12_init_1010 : decode cX12_init 1010 = .ok (.iconst 2, 1) := by decide +kernel
theorem dX12_init_1011 : decode cX12_init 1011 = .ok (.goto 4, 3) := by decide +kernel
theorem dX12_init_1014 : decode cX12_init 1014 = .ok (.iconst 0, 1) := by decide +kernel
theorem dX12_init_1015 : decode cX12_init 1015 = .ok (.iastore, 1) := by decide +kernel
theorem dX12_init_1016 : decode cX12_init 1016 = .ok (.iinc 1 1, 3) := by decide +kernel
theorem dX12_init_1019 : decode cX12_init 1019 = .ok (.goto (-45), 3) := by decide +kernel
theorem dX12_init_1022 : decode cX12_init 1022 = .ok (.aload_n 0, 1) := by decide +kernel
theorem dX12_init_1023 : decode cX12_init 1023 = .ok (.invokevirtual 290, 3) := by decide +kernel
theorem dX12_init_1026 : decode cX12_init 1026 = .ok (.aload_n 0, 1) := by decide +kernel
theorem dX12_init_1027 : decode cX12_init 1027 = .ok (.getfield 85, 3) := by decide +kernel
theorem dX12_init_1030 : decode cX12_init 1030 = .ok (.iconst 0, 1) := by decide +kernel
theorem dX12_init_1031 : decode cX12_init 1031 = .ok (.iconst 1, 1) := by decide +kernel
theorem dX12_init_1032 : decode cX12_init 1032 = .ok (.iastore, 1) := by decide +kernel
theorem dX12_init_1033 : decode cX12_init 1033 = .ok (.return_, 1) := by decide +kernel
noncomputable def X12_init_m1007 (k974_38 : Nat) : (Nat) :=
  if k974_38 = 7 then
  (2)
  else
  (0)
noncomputable def X12_init_m988 (k974_38 : Nat) : (Int32) :=
  if k974_38 = 7 then
  ((-189))
  else
  ((-1))
noncomputable def X12_init_l974  (k974_38 : Nat) (t974_38 : (Nat → Int32) × (Nat → Int32)) : (Nat → Int32) × (Nat → Int32) :=
  let g988_43 := X12_init_m988 k974_38
  let g1007_45 := X12_init_m1007 k974_38
  (upd t974_38.1 k974_38 (nI g1007_45), upd t974_38.2 k974_38 g988_43)
noncomputable def X12_init_l949  (k949_36 : Nat) (t949_36 : (Nat → Int32)) : (Nat → Int32) :=
  let y51 := f_X12_boxOf (nI k949_36)
  upd t949_36 k949_36 y51
noncomputable def f_X12_init : (Int32) × (Int32) × (Nat) × (Nat) × (Nat) × (Nat) × (Nat) × (Nat) × (Int32) × (Int32) × (Int32) × (Int32) × (Nat) × (Nat → Int32) × (Nat → Int32) × (Nat → Int32) × (Nat → Int32) × (Nat → Int32) × (Nat → Int32) × (Nat → Int32) × (Nat → Int32) × (Nat → Int32) × (Nat → Int32) × (Nat → Int32) × (Nat → Int32) × (Nat → Int32) × (Nat → Int32) × (Nat → Int32) × (Nat → Int32) × (Nat → Int32) × (Nat → Int32) × (Nat → Int32) × (Nat → Int32) × (Nat → Int32) × (Nat → Int32) × (Nat → Int32) × (Nat → Int32) × (Nat → Int32) × (Nat → Int32) × (Nat → Int32) × (Nat → Int32) × (Nat → Int32) × (Nat → Int32) × (Nat → Int32) × (Nat → Int32) × (Nat → Int32) × (Nat → Int32) × (Nat → Int32) × (Nat → Int32) × (Nat → Int32) × (Nat → Int32) × (Nat → Int32) × (Nat → Int32) × (Nat → Int32) × (Nat → Int32) × (Nat → Int32) × (Nat → Int32) × (Nat → Int32) × (Nat → Int32) × (Nat → Int32) × (Nat → Int32) × (Nat → Int32) × (Nat → Int32) × (Nat → Int32) × (Nat → Int32) × (Nat → Int32) × (Nat → Int32) × (Nat → Int32) × (Nat → Int32) × (Nat → Int32) × (Nat → Int32) × (Nat → Int32) × (Nat → Int32) × (Nat → Int32) × (Nat → Int32) × (Nat → Int32) × (Nat → Int32) :=
  let y1 := (-1)
  let y2 := (-1245643825)
  let y3 := (-373957723)
  let y4 := (-1841331548)
  let y5 := (-1424204075)
  let y6 := (-670586216)
  let y7 := (-2132889090)
  let y8 := (-1680079193)
  let y9 := (-1046744716)
  let y10 := (-459576895)
  let y11 := (-272742522)
  let y12 := (-1740746414)
  let y13 := (-1473132947)
  let y14 := (-1341970488)
  let y15 := (-1084653625)
  let y16 := (-958395405)
  let y17 := (-710438585)
  let y18 := (-2117940946)
  let y19 := (-1838011259)
  let y20 := (-1564481375)
  let y21 := (-1474664885)
  let y22 := (-1035236496)
  let y23 := (-949202525)
  let y24 := (-778901479)
  let y25 := (-694614492)
  let y26 := (-200395387)
  let y27 := (-2067236844)
  let y28 := (-1933114872)
  let y29 := (-1866530822)
  let y30 := (-1538233109)
  let y31 := (-1090935817)
  let y32 := (-965641998)
  let y33 := (-1150833019)
  let y34 := (-1521486534)
  let y35 := (-1694144372)
  let t949_36 := itr X12_init_l949 (fun _ => 0) 256
  let t974_38 := itr X12_init_l974 ((fun _ => 0, fun _ => 0)) 8
  let u40 := f_X12_host (fun _ => 0) (fun _ => 0) (fun _ => 0) (fun _ => 0) (fun _ => 0) (fun _ => 0)
  (0, 0, 0, 0, 0, 0, 0, 0, nI 1, y1, 0, 0, 0, fun _ => 0, fun _ => 0, fun _ => 0, fun _ => 0, fun _ => 0, fun _ => 0, fun _ => 0, fun _ => 0, fun _ => 0, fun _ => 0, fun _ => 0, fun _ => 0, fun _ => 0, fun _ => 0, fun _ => 0, fun _ => 0, fun _ => 0, fun _ => 0, fun _ => 0, fun _ => 0, fun _ => 0, fun _ => 0, fun _ => 0, fun _ => 0, upd (fun _ => 0) 0 (nI 1), fun _ => 0, fun _ => 0, fun _ => 0, fun _ => 0, fun _ => 0, fun _ => 0, t949_36, fun _ => 0, fun _ => 0, fun _ => 0, fun _ => 0, fun _ => 0, fun _ => 0, fun _ => 0, fun _ => 0, upd (upd (upd (upd (upd (upd (upd (upd (upd (upd (upd (upd (upd (upd (upd (upd (upd (upd (upd (upd (upd (upd (upd (upd (upd (upd (upd (upd (upd (upd (upd (upd (upd (upd (upd (upd (upd (upd (upd (upd (upd (upd (upd (upd (upd (upd (upd (upd (upd (upd (upd (upd (upd (upd (upd (upd (upd (upd (upd (upd (upd (upd (upd (upd (fun _ => 0) 0 (nI 1116352408)) 1 (nI 1899447441)) 2 y2) 3 y3) 4 (nI 961987163)) 5 (nI 1508970993)) 6 y4) 7 y5) 8 y6) 9 (nI 310598401)) 10 (nI 607225278)) 11 (nI 1426881987)) 12 (nI 1925078388)) 13 y7) 14 y8) 15 y9) 16 y10) 17 y11) 18 (nI 264347078)) 19 (nI 604807628)) 20 (nI 770255983)) 21 (nI 1249150122)) 22 (nI 1555081692)) 23 (nI 1996064986)) 24 y12) 25 y13) 26 y14) 27 y15) 28 y16) 29 y17) 30 (nI 113926993)) 31 (nI 338241895)) 32 (nI 666307205)) 33 (nI 773529912)) 34 (nI 1294757372)) 35 (nI 1396182291)) 36 (nI 1695183700)) 37 (nI 1986661051)) 38 y18) 39 y19) 40 y20) 41 y21) 42 y22) 43 y23) 44 y24) 45 y25) 46 y26) 47 (nI 275423344)) 48 (nI 430227734)) 49 (nI 506948616)) 50 (nI 659060556)) 51 (nI 883997877)) 52 (nI 958139571)) 53 (nI 1322822218)) 54 (nI 1537002063)) 55 (nI 1747873779)) 56 (nI 1955562222)) 57 (nI 2024104815)) 58 y27) 59 y28) 60 y29) 61 y30) 62 y31) 63 y32, upd (upd (upd (upd (upd (upd (upd (upd (fun _ => 0) 0 (nI 1779033703)) 1 y33) 2 (nI 1013904242)) 3 y34) 4 (nI 1359893119)) 5 y35) 6 (nI 528734635)) 7 (nI 1541459225), t974_38.2, t974_38.1, u40.2.1, u40.1, fun _ => 0, fun _ => 0, fun _ => 0, fun _ => 0, fun _ => 0, fun _ => 0, fun _ => 0, fun _ => 0, fun _ => 0, fun _ => 0, fun _ => 0, fun _ => 0, fun _ => 0, u40.2.2.2.2.2, u40.2.2.2.2.1, fun _ => 0, u40.2.2.1, u40.2.2.2.1)
set_option maxRecDepth 1000000 in
theorem calc_X12_init : lw_tbl[1129]? = some (Cond.code yX12_init cX12_init 2 none) := rfl
theorem cal_X12_init : Cal yX12_init cX12_init 2 none 0 := ⟨tb_at 120 (by decide +kernel) (by decide +kernel), tb_at 1129 calc_X12_init rfl, by decide +kernel, by decide +kernel, by decide +kernel⟩
theorem cwi_X12_init : Cond.instanceMethod yX12_init ∈ tb := tb_at 1128 (by decide +kernel) (by decide +kernel)

