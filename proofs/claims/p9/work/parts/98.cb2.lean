set_option maxRecDepth 100000 in
theorem gw1200 : Cond.code yX13_compare cX13_compare 3 (some .int) ∈ lw_tbl := pk_t14 _ (List.mem_of_getElem? (i := 42) rfl)
set_option maxRecDepth 100000 in
theorem gw1201 : Cond.methodLink RX13 890 yX13_compare ∈ lw_tbl := pk_t14 _ (List.mem_of_getElem? (i := 40) rfl)
set_option maxRecDepth 100000 in
theorem gw1202 : Cond.static yX13_compare ∈ lw_tbl := pk_t14 _ (List.mem_of_getElem? (i := 41) rfl)
set_option maxRecDepth 100000 in
theorem gw1203 : Cond.code yX13_fitted cX13_fitted 6 (some .int) ∈ lw_tbl := pk_t14 _ (List.mem_of_getElem? (i := 61) rfl)
set_option maxRecDepth 100000 in
theorem gw1204 : Cond.methodLink RX13 946 yX13_fitted ∈ lw_tbl := pk_t14 _ (List.mem_of_getElem? (i := 59) rfl)
set_option maxRecDepth 100000 in
theorem gw1205 : Cond.static yX13_fitted ∈ lw_tbl := pk_t14 _ (List.mem_of_getElem? (i := 60) rfl)
set_option maxRecDepth 100000 in
theorem gw1206 : Cond.code yX13_plus cX13_plus 4 (some .long) ∈ lw_tbl := pk_t14 _ (List.mem_of_getElem? (i := 76) rfl)
set_option maxRecDepth 100000 in
theorem gw1207 : Cond.methodLink RX13 963 yX13_plus ∈ lw_tbl := pk_t14 _ (List.mem_of_getElem? (i := 74) rfl)
set_option maxRecDepth 100000 in
theorem gw1208 : Cond.static yX13_plus ∈ lw_tbl := pk_t14 _ (List.mem_of_getElem? (i := 75) rfl)
set_option maxRecDepth 100000 in
theorem gw1209 : Cond.code yX13_times cX13_times 4 (some .long) ∈ lw_tbl := pk_t14 _ (List.mem_of_getElem? (i := 89) rfl)
set_option maxRecDepth 100000 in
theorem gw1210 : Cond.methodLink RX13 970 yX13_times ∈ lw_tbl := pk_t14 _ (List.mem_of_getElem? (i := 87) rfl)
set_option maxRecDepth 100000 in
theorem gw1211 : Cond.static yX13_times ∈ lw_tbl := pk_t14 _ (List.mem_of_getElem? (i := 88) rfl)
set_option maxRecDepth 100000 in
theorem gw1212 : Cond.code yJ0_indexOf_0f7a4 cJ0_indexOf_0f7a4 2 (some .int) ∈ lw_tbl := pk_t12 _ (List.mem_of_getElem? (i := 185) rfl)
set_option maxRecDepth 100000 in
theorem gw1213 : Cond.methodLink RX13 621 yJ0_indexOf_0f7a4 ∈ lw_tbl := pk_t12 _ (List.mem_of_getElem? (i := 182) rfl)
set_option maxRecDepth 100000 in
theorem gw1214 : Cond.instanceMethod yJ0_indexOf_0f7a4 ∈ lw_tbl := pk_t12 _ (List.mem_of_getElem? (i := 183) rfl)
set_option maxRecDepth 100000 in
theorem gw1215 : Cond.selects "java/lang/String" yJ0_indexOf_0f7a4 yJ0_indexOf_0f7a4 ∈ lw_tbl := pk_t12 _ (List.mem_of_getElem? (i := 184) rfl)
set_option maxRecDepth 100000 in
theorem gw1216 : Cond.initialized "java/lang/String" ∈ lw_tbl := pk_t1 _ (List.mem_of_getElem? (i := 12) rfl)
set_option maxRecDepth 100000 in
theorem gw1217 : Cond.methodLink RX13 873 yJ9_min_7cf53 ∈ lw_tbl := pk_t13 _ (List.mem_of_getElem? (i := 230) rfl)
set_option maxRecDepth 100000 in
theorem gw1218 : Cond.methodLink RX13 957 yJ9_min_f86c9 ∈ lw_tbl := pk_t14 _ (List.mem_of_getElem? (i := 78) rfl)
set_option maxRecDepth 100000 in
theorem gw1219 : Cond.code yJ7_copyOf_9075b cJ7_copyOf_9075b 3 (some (.array .byte)) ∈ lw_tbl := pk_t8 _ (List.mem_of_getElem? (i := 216) rfl)
set_option maxRecDepth 100000 in
theorem gw1220 : Cond.methodLink RX1 161 yJ7_copyOf_9075b ∈ lw_tbl := pk_t8 _ (List.mem_of_getElem? (i := 214) rfl)
set_option maxRecDepth 100000 in
theorem gw1221 : Cond.static yJ7_copyOf_9075b ∈ lw_tbl := pk_t8 _ (List.mem_of_getElem? (i := 215) rfl)
set_option maxRecDepth 100000 in
theorem gw1222 : Cond.methodLink "java/util/Arrays" 310 ⟨"[B", "clone", "()Ljava/lang/Object;"⟩ ∈ lw_tbl := pk_t8 _ (List.mem_of_getElem? (i := 217) rfl)
set_option maxRecDepth 100000 in
theorem gw1223 : Cond.sameMethod "[B" "java/lang/Object" "clone" "()Ljava/lang/Object;" ∈ lw_tbl := pk_t8 _ (List.mem_of_getElem? (i := 218) rfl)
set_option maxRecDepth 100000 in
theorem gw1224 : Cond.native ⟨"java/lang/Object", "clone", "()Ljava/lang/Object;"⟩ ∈ lw_tbl := pk_t8 _ (List.mem_of_getElem? (i := 219) rfl)
set_option maxRecDepth 100000 in
theorem gw1225 : Cond.instanceMethod ⟨"java/lang/Object", "clone", "()Ljava/lang/Object;"⟩ ∈ lw_tbl := pk_t8 _ (List.mem_of_getElem? (i := 220) rfl)
set_option maxRecDepth 100000 in
theorem gw1226 : Cond.selects "[B" ⟨"[B", "clone", "()Ljava/lang/Object;"⟩ ⟨"java/lang/Object", "clone", "()Ljava/lang/Object;"⟩ ∈ lw_tbl := pk_t8 _ (List.mem_of_getElem? (i := 221) rfl)
set_option maxRecDepth 100000 in
theorem gw1227 : Cond.classLink "java/util/Arrays" 311 "[B" ∈ lw_tbl := pk_t8 _ (List.mem_of_getElem? (i := 223) rfl)
set_option maxRecDepth 100000 in
theorem gw1228 : Cond.arrayClass .byte ∈ lw_tbl := pk_t1 _ (List.mem_of_getElem? (i := 169) rfl)
set_option maxRecDepth 100000 in
theorem gw1229 : Cond.methodLink "java/util/Arrays" 304 yJ9_min_7cf53 ∈ lw_tbl := pk_t8 _ (List.mem_of_getElem? (i := 224) rfl)
set_option maxRecDepth 100000 in
theorem gw1230 : Cond.methodLink "java/util/Arrays" 150 arraycopyName ∈ lw_tbl := pk_t8 _ (List.mem_of_getElem? (i := 225) rfl)
set_option maxRecDepth 100000 in
theorem gw1231 : Cond.methodLink RX3 3 objectInit ∈ lw_tbl := pk_t5 _ (List.mem_of_getElem? (i := 111) rfl)
set_option maxRecDepth 100000 in
theorem gw1232 : Cond.instanceMethod objectInit ∈ lw_tbl := pk_t1 _ (List.mem_of_getElem? (i := 34) rfl)
set_option maxRecDepth 100000 in
theorem gw1233 : Cond.code objectInit ⟨#[0xb1]⟩ 1 none ∈ lw_tbl := pk_t1 _ (List.mem_of_getElem? (i := 35) rfl)
set_option maxRecDepth 100000 in
theorem gw1234 : Cond.arrayClass .int ∈ lw_tbl := pk_t1 _ (List.mem_of_getElem? (i := 168) rfl)
set_option maxRecDepth 100000 in
theorem gw1235 : Cond.methodLink RX4 3 objectInit ∈ lw_tbl := pk_t1 _ (List.mem_of_getElem? (i := 47) rfl)
set_option maxRecDepth 100000 in
theorem gw1236 : Cond.arrayClass .long ∈ lw_tbl := pk_t1 _ (List.mem_of_getElem? (i := 63) rfl)
set_option maxRecDepth 100000 in
theorem gw1237 : Cond.methodLink RX2 3 objectInit ∈ lw_tbl := pk_t4 _ (List.mem_of_getElem? (i := 64) rfl)
set_option maxRecDepth 100000 in
theorem gw1238 : Cond.methodLink RX11 3 objectInit ∈ lw_tbl := pk_t4 _ (List.mem_of_getElem? (i := 54) rfl)
set_option maxRecDepth 100000 in
theorem gw1239 : Cond.classLink RX11 9 RX4 ∈ lw_tbl := pk_t4 _ (List.mem_of_getElem? (i := 55) rfl)
set_option maxRecDepth 100000 in
theorem gw1240 : Cond.code yX4_init cX4_init 2 none ∈ lw_tbl := pk_t1 _ (List.mem_of_getElem? (i := 46) rfl)
set_option maxRecDepth 100000 in
theorem gw1241 : Cond.instanceMethod yX4_init ∈ lw_tbl := pk_t1 _ (List.mem_of_getElem? (i := 45) rfl)
set_option maxRecDepth 100000 in
theorem gw1242 : Cond.methodLink RX11 11 yX4_init ∈ lw_tbl := pk_t4 _ (List.mem_of_getElem? (i := 56) rfl)
set_option maxRecDepth 100000 in
theorem gw1243 : Cond.classLink RX11 51 RX3 ∈ lw_tbl := pk_t4 _ (List.mem_of_getElem? (i := 57) rfl)
set_option maxRecDepth 100000 in
theorem gw1244 : Cond.classLink RX11 57 RX2 ∈ lw_tbl := pk_t4 _ (List.mem_of_getElem? (i := 59) rfl)
set_option maxRecDepth 100000 in
theorem gw1245 : Cond.code yX2_init cX2_init 2 none ∈ lw_tbl := pk_t4 _ (List.mem_of_getElem? (i := 63) rfl)
set_option maxRecDepth 100000 in
theorem gw1246 : Cond.instanceMethod yX2_init ∈ lw_tbl := pk_t4 _ (List.mem_of_getElem? (i := 62) rfl)
set_option maxRecDepth 100000 in
theorem gw1247 : Cond.methodLink RX11 59 yX2_init ∈ lw_tbl := pk_t4 _ (List.mem_of_getElem? (i := 61) rfl)
set_option maxRecDepth 100000 in
theorem gw1248 : Cond.classLink RX6 359 RX3 ∈ lw_tbl := pk_t5 _ (List.mem_of_getElem? (i := 106) rfl)
set_option maxRecDepth 100000 in
theorem gw1249 : Cond.code yX3_init cX3_init 1 none ∈ lw_tbl := pk_t5 _ (List.mem_of_getElem? (i := 110) rfl)
set_option maxRecDepth 100000 in
theorem gw1250 : Cond.instanceMethod yX3_init ∈ lw_tbl := pk_t5 _ (List.mem_of_getElem? (i := 109) rfl)
set_option maxRecDepth 100000 in
theorem gw1251 : Cond.classLink RX8 3 RX11 ∈ lw_tbl := pk_t1 _ (List.mem_of_getElem? (i := 64) rfl)
set_option maxRecDepth 100000 in
theorem gw1252 : Cond.code yX11_init cX11_init 2 none ∈ lw_tbl := pk_t4 _ (List.mem_of_getElem? (i := 53) rfl)
set_option maxRecDepth 100000 in
theorem gw1253 : Cond.instanceMethod yX11_init ∈ lw_tbl := pk_t4 _ (List.mem_of_getElem? (i := 52) rfl)
set_option maxRecDepth 100000 in
theorem gw1254 : Cond.methodLink RX8 104 yX11_init ∈ lw_tbl := pk_t4 _ (List.mem_of_getElem? (i := 51) rfl)
set_option maxRecDepth 100000 in
theorem gw1255 : Cond.instantiable RX3 16 ∈ lw_tbl := pk_t5 _ (List.mem_of_getElem? (i := 107) rfl)
set_option maxRecDepth 100000 in
theorem gw1256 : Cond.instantiable RX4 2 ∈ lw_tbl := pk_t1 _ (List.mem_of_getElem? (i := 43) rfl)
set_option maxRecDepth 100000 in
theorem gw1257 : Cond.instantiable RX2 10 ∈ lw_tbl := pk_t4 _ (List.mem_of_getElem? (i := 60) rfl)
set_option maxRecDepth 100000 in
theorem gw1258 : Cond.instantiable RX11 16 ∈ lw_tbl := pk_t4 _ (List.mem_of_getElem? (i := 50) rfl)
set_option maxRecDepth 100000 in
theorem gw1259 : Cond.fieldLink RJ0 38 "java/lang/String" "COMPACT_STRINGS" "Z" ∈ lw_tbl := pk_t9 _ (List.mem_of_getElem? (i := 103) rfl)
set_option maxRecDepth 100000 in
theorem gw1260 : Cond.fieldLink RJ0 15 "java/lang/String" "coder" "B" ∈ lw_tbl := pk_t15 _ (List.mem_of_getElem? (i := 37) rfl)
set_option maxRecDepth 100000 in
theorem gw1261 : Cond.fieldLink RJ0 9 "java/lang/String" "value" "[B" ∈ lw_tbl := pk_t15 _ (List.mem_of_getElem? (i := 36) rfl)
set_option maxRecDepth 100000 in
theorem gw1262 : Cond.code yJ0_coder_7d493 cJ0_coder_7d493 1 (some .byte) ∈ lw_tbl := pk_t9 _ (List.mem_of_getElem? (i := 102) rfl)
set_option maxRecDepth 100000 in
theorem gw1263 : Cond.methodLink RJ0 335 yJ0_coder_7d493 ∈ lw_tbl := pk_t9 _ (List.mem_of_getElem? (i := 99) rfl)
set_option maxRecDepth 100000 in
theorem gw1264 : Cond.instanceMethod yJ0_coder_7d493 ∈ lw_tbl := pk_t9 _ (List.mem_of_getElem? (i := 100) rfl)
set_option maxRecDepth 100000 in
theorem gw1265 : Cond.selects RJ0 yJ0_coder_7d493 yJ0_coder_7d493 ∈ lw_tbl := pk_t9 _ (List.mem_of_getElem? (i := 101) rfl)
set_option maxRecDepth 100000 in
theorem gw1266 : Cond.code yJ1_canEncode_9a6ad cJ1_canEncode_9a6ad 1 (some .boolean) ∈ lw_tbl := pk_t12 _ (List.mem_of_getElem? (i := 196) rfl)
set_option maxRecDepth 100000 in
theorem gw1267 : Cond.methodLink RJ1 88 yJ1_canEncode_9a6ad ∈ lw_tbl := pk_t12 _ (List.mem_of_getElem? (i := 194) rfl)
set_option maxRecDepth 100000 in
theorem gw1268 : Cond.static yJ1_canEncode_9a6ad ∈ lw_tbl := pk_t12 _ (List.mem_of_getElem? (i := 195) rfl)
set_option maxRecDepth 100000 in
theorem gw1269 : Cond.initialized RJ1 ∈ lw_tbl := pk_t1 _ (List.mem_of_getElem? (i := 13) rfl)
set_option maxRecDepth 100000 in
theorem gw1270 : Cond.methodLink RJ1 92 yJ9_max_7cf53 ∈ lw_tbl := pk_t12 _ (List.mem_of_getElem? (i := 197) rfl)
set_option maxRecDepth 100000 in
theorem gw1271 : Cond.methodLink RJ1 38 yJ9_min_7cf53 ∈ lw_tbl := pk_t12 _ (List.mem_of_getElem? (i := 198) rfl)
set_option maxRecDepth 100000 in
theorem gw1272 : Cond.code yJ1_indexOfChar_4cfef cJ1_indexOfChar_4cfef 6 (some .int) ∈ lw_tbl := pk_t12 _ (List.mem_of_getElem? (i := 201) rfl)
set_option maxRecDepth 100000 in
theorem gw1273 : Cond.methodLink RJ1 95 yJ1_indexOfChar_4cfef ∈ lw_tbl := pk_t12 _ (List.mem_of_getElem? (i := 199) rfl)
set_option maxRecDepth 100000 in
theorem gw1274 : Cond.static yJ1_indexOfChar_4cfef ∈ lw_tbl := pk_t12 _ (List.mem_of_getElem? (i := 200) rfl)
set_option maxRecDepth 100000 in
theorem gw1275 : Cond.code yJ0_isLatin1_aae02 cJ0_isLatin1_aae02 1 (some .boolean) ∈ lw_tbl := pk_t9 _ (List.mem_of_getElem? (i := 112) rfl)
set_option maxRecDepth 100000 in
theorem gw1276 : Cond.methodLink RJ0 492 yJ0_isLatin1_aae02 ∈ lw_tbl := pk_t9 _ (List.mem_of_getElem? (i := 109) rfl)
set_option maxRecDepth 100000 in
theorem gw1277 : Cond.instanceMethod yJ0_isLatin1_aae02 ∈ lw_tbl := pk_t9 _ (List.mem_of_getElem? (i := 110) rfl)
set_option maxRecDepth 100000 in
theorem gw1278 : Cond.selects RJ0 yJ0_isLatin1_aae02 yJ0_isLatin1_aae02 ∈ lw_tbl := pk_t9 _ (List.mem_of_getElem? (i := 111) rfl)
set_option maxRecDepth 100000 in
theorem gw1279 : Cond.code yJ0_length_8abf5 cJ0_length_8abf5 1 (some .int) ∈ lw_tbl := pk_t9 _ (List.mem_of_getElem? (i := 98) rfl)
set_option maxRecDepth 100000 in
theorem gw1280 : Cond.methodLink RJ0 505 yJ0_length_8abf5 ∈ lw_tbl := pk_t12 _ (List.mem_of_getElem? (i := 190) rfl)
set_option maxRecDepth 100000 in
theorem gw1281 : Cond.instanceMethod yJ0_length_8abf5 ∈ lw_tbl := pk_t9 _ (List.mem_of_getElem? (i := 96) rfl)
set_option maxRecDepth 100000 in
theorem gw1282 : Cond.selects RJ0 yJ0_length_8abf5 yJ0_length_8abf5 ∈ lw_tbl := pk_t9 _ (List.mem_of_getElem? (i := 97) rfl)
set_option maxRecDepth 100000 in
theorem gw1283 : Cond.code yJ1_indexOf_4cfef cJ1_indexOf_4cfef 4 (some .int) ∈ lw_tbl := pk_t12 _ (List.mem_of_getElem? (i := 193) rfl)
set_option maxRecDepth 100000 in
theorem gw1284 : Cond.methodLink RJ0 637 yJ1_indexOf_4cfef ∈ lw_tbl := pk_t12 _ (List.mem_of_getElem? (i := 191) rfl)
set_option maxRecDepth 100000 in
theorem gw1285 : Cond.static yJ1_indexOf_4cfef ∈ lw_tbl := pk_t12 _ (List.mem_of_getElem? (i := 192) rfl)
set_option maxRecDepth 100000 in
theorem gw1286 : Cond.code yJ0_indexOf_7cf53 cJ0_indexOf_7cf53 3 (some .int) ∈ lw_tbl := pk_t12 _ (List.mem_of_getElem? (i := 189) rfl)
set_option maxRecDepth 100000 in
theorem gw1287 : Cond.methodLink RJ0 633 yJ0_indexOf_7cf53 ∈ lw_tbl := pk_t12 _ (List.mem_of_getElem? (i := 186) rfl)
set_option maxRecDepth 100000 in
theorem gw1288 : Cond.instanceMethod yJ0_indexOf_7cf53 ∈ lw_tbl := pk_t12 _ (List.mem_of_getElem? (i := 187) rfl)
set_option maxRecDepth 100000 in
theorem gw1289 : Cond.selects RJ0 yJ0_indexOf_7cf53 yJ0_indexOf_7cf53 ∈ lw_tbl := pk_t12 _ (List.mem_of_getElem? (i := 188) rfl)
set_option maxRecDepth 100000 in
theorem gw1290 : Cond.codeWith yL_feed cL_feed 8 (some .int) [(0, 16, 19, 13)] ∈ lw_tbl := pk_t6 _ (List.mem_of_getElem? (i := 102) rfl)
set_option maxRecDepth 100000 in
theorem gw1291 : Cond.methodLink RL 95 yL_feed ∈ lw_tbl := pk_t6 _ (List.mem_of_getElem? (i := 100) rfl)
set_option maxRecDepth 100000 in
theorem gw1292 : Cond.static yL_feed ∈ lw_tbl := pk_t6 _ (List.mem_of_getElem? (i := 101) rfl)
set_option maxRecDepth 100000 in
theorem gw1293 : Cond.initialized RL ∈ lw_tbl := pk_t1 _ (List.mem_of_getElem? (i := 0) rfl)
set_option maxRecDepth 100000 in
theorem gw1294 : Cond.code yX12_feed cX12_feed 6 (some .int) ∈ lw_tbl := pk_t6 _ (List.mem_of_getElem? (i := 107) rfl)
set_option maxRecDepth 100000 in
theorem gw1295 : Cond.methodLink RL 7 yX12_feed ∈ lw_tbl := pk_t6 _ (List.mem_of_getElem? (i := 104) rfl)
set_option maxRecDepth 100000 in
theorem gw1296 : Cond.instanceMethod yX12_feed ∈ lw_tbl := pk_t6 _ (List.mem_of_getElem? (i := 105) rfl)
set_option maxRecDepth 100000 in
theorem gw1297 : Cond.selects RX12 yX12_feed yX12_feed ∈ lw_tbl := pk_t6 _ (List.mem_of_getElem? (i := 106) rfl)
set_option maxRecDepth 100000 in
theorem gw1298 : Cond.code yX13_feed cX13_feed 6 (some .int) ∈ lw_tbl := pk_t12 _ (List.mem_of_getElem? (i := 140) rfl)
set_option maxRecDepth 100000 in
theorem gw1299 : Cond.methodLink RL 100 yX13_feed ∈ lw_tbl := pk_t12 _ (List.mem_of_getElem? (i := 137) rfl)
set_option maxRecDepth 100000 in
theorem gw1300 : Cond.instanceMethod yX13_feed ∈ lw_tbl := pk_t12 _ (List.mem_of_getElem? (i := 138) rfl)
set_option maxRecDepth 100000 in
theorem gw1301 : Cond.selects RX13 yX13_feed yX13_feed ∈ lw_tbl := pk_t12 _ (List.mem_of_getElem? (i := 139) rfl)
set_option maxRecDepth 100000 in
theorem gw1302 : Cond.classLink RL 13 "java/lang/IllegalStateException" ∈ lw_tbl := pk_t6 _ (List.mem_of_getElem? (i := 103) rfl)
set_option maxRecDepth 100000 in
theorem gw1303 : Cond.codeWith yL_end cL_end 4 (some .int) [(0, 9, 12, 19)] ∈ lw_tbl := pk_t6 _ (List.mem_of_getElem? (i := 180) rfl)
set_option maxRecDepth 100000 in
theorem gw1304 : Cond.methodLink RL 101 yL_end ∈ lw_tbl := pk_t6 _ (List.mem_of_getElem? (i := 178) rfl)
set_option maxRecDepth 100000 in
theorem gw1305 : Cond.static yL_end ∈ lw_tbl := pk_t6 _ (List.mem_of_getElem? (i := 179) rfl)
set_option maxRecDepth 100000 in
theorem gw1306 : Cond.code yX12_end cX12_end 2 (some .int) ∈ lw_tbl := pk_t6 _ (List.mem_of_getElem? (i := 185) rfl)
set_option maxRecDepth 100000 in
theorem gw1307 : Cond.methodLink RL 15 yX12_end ∈ lw_tbl := pk_t6 _ (List.mem_of_getElem? (i := 182) rfl)
set_option maxRecDepth 100000 in
theorem gw1308 : Cond.instanceMethod yX12_end ∈ lw_tbl := pk_t6 _ (List.mem_of_getElem? (i := 183) rfl)
set_option maxRecDepth 100000 in
theorem gw1309 : Cond.selects RX12 yX12_end yX12_end ∈ lw_tbl := pk_t6 _ (List.mem_of_getElem? (i := 184) rfl)
set_option maxRecDepth 100000 in
theorem gw1310 : Cond.code yX13_end cX13_end 2 (some .int) ∈ lw_tbl := pk_t12 _ (List.mem_of_getElem? (i := 152) rfl)
set_option maxRecDepth 100000 in
theorem gw1311 : Cond.methodLink RL 104 yX13_end ∈ lw_tbl := pk_t12 _ (List.mem_of_getElem? (i := 149) rfl)
set_option maxRecDepth 100000 in
theorem gw1312 : Cond.instanceMethod yX13_end ∈ lw_tbl := pk_t12 _ (List.mem_of_getElem? (i := 150) rfl)
set_option maxRecDepth 100000 in
theorem gw1313 : Cond.selects RX13 yX13_end yX13_end ∈ lw_tbl := pk_t12 _ (List.mem_of_getElem? (i := 151) rfl)
set_option maxRecDepth 100000 in
theorem gw1314 : Cond.classLink RL 19 "java/lang/IllegalArgumentException" ∈ lw_tbl := pk_t6 _ (List.mem_of_getElem? (i := 181) rfl)
set_option maxRecDepth 100000 in
theorem gw1315 : Cond.code yX12_module cX12_module 2 (some .int) ∈ lw_tbl := pk_t3 _ (List.mem_of_getElem? (i := 210) rfl)
set_option maxRecDepth 100000 in
theorem gw1316 : Cond.methodLink RL 105 yX12_module ∈ lw_tbl := pk_t3 _ (List.mem_of_getElem? (i := 207) rfl)
set_option maxRecDepth 100000 in
theorem gw1317 : Cond.instanceMethod yX12_module ∈ lw_tbl := pk_t3 _ (List.mem_of_getElem? (i := 208) rfl)
set_option maxRecDepth 100000 in
theorem gw1318 : Cond.selects RX12 yX12_module yX12_module ∈ lw_tbl := pk_t3 _ (List.mem_of_getElem? (i := 209) rfl)
set_option maxRecDepth 100000 in
theorem gw1319 : Cond.code yX13_module cX13_module 2 (some .int) ∈ lw_tbl := pk_t12 _ (List.mem_of_getElem? (i := 160) rfl)
set_option maxRecDepth 100000 in
theorem gw1320 : Cond.methodLink RL 109 yX13_module ∈ lw_tbl := pk_t12 _ (List.mem_of_getElem? (i := 157) rfl)
set_option maxRecDepth 100000 in
theorem gw1321 : Cond.instanceMethod yX13_module ∈ lw_tbl := pk_t12 _ (List.mem_of_getElem? (i := 158) rfl)
set_option maxRecDepth 100000 in
theorem gw1322 : Cond.selects RX13 yX13_module yX13_module ∈ lw_tbl := pk_t12 _ (List.mem_of_getElem? (i := 159) rfl)
set_option maxRecDepth 100000 in
theorem gw1323 : Cond.code yX12_rule cX12_rule 1 (some .int) ∈ lw_tbl := pk_t5 _ (List.mem_of_getElem? (i := 237) rfl)
set_option maxRecDepth 100000 in
theorem gw1324 : Cond.methodLink RL 110 yX12_rule ∈ lw_tbl := pk_t5 _ (List.mem_of_getElem? (i := 234) rfl)
set_option maxRecDepth 100000 in
theorem gw1325 : Cond.instanceMethod yX12_rule ∈ lw_tbl := pk_t5 _ (List.mem_of_getElem? (i := 235) rfl)
set_option maxRecDepth 100000 in
theorem gw1326 : Cond.selects RX12 yX12_rule yX12_rule ∈ lw_tbl := pk_t5 _ (List.mem_of_getElem? (i := 236) rfl)
set_option maxRecDepth 100000 in
theorem gw1327 : Cond.code yX13_rule cX13_rule 1 (some .int) ∈ lw_tbl := pk_t13 _ (List.mem_of_getElem? (i := 153) rfl)
set_option maxRecDepth 100000 in
theorem gw1328 : Cond.methodLink RL 113 yX13_rule ∈ lw_tbl := pk_t13 _ (List.mem_of_getElem? (i := 150) rfl)
set_option maxRecDepth 100000 in
theorem gw1329 : Cond.instanceMethod yX13_rule ∈ lw_tbl := pk_t13 _ (List.mem_of_getElem? (i := 151) rfl)
set_option maxRecDepth 100000 in
theorem gw1330 : Cond.selects RX13 yX13_rule yX13_rule ∈ lw_tbl := pk_t13 _ (List.mem_of_getElem? (i := 152) rfl)
set_option maxRecDepth 100000 in
theorem gw1331 : Cond.code yX12_out cX12_out 2 (some .int) ∈ lw_tbl := pk_t6 _ (List.mem_of_getElem? (i := 1) rfl)
set_option maxRecDepth 100000 in
theorem gw1332 : Cond.methodLink RL 114 yX12_out ∈ lw_tbl := pk_t5 _ (List.mem_of_getElem? (i := 238) rfl)
set_option maxRecDepth 100000 in
theorem gw1333 : Cond.instanceMethod yX12_out ∈ lw_tbl := pk_t5 _ (List.mem_of_getElem? (i := 239) rfl)
set_option maxRecDepth 100000 in
theorem gw1334 : Cond.selects RX12 yX12_out yX12_out ∈ lw_tbl := pk_t6 _ (List.mem_of_getElem? (i := 0) rfl)
set_option maxRecDepth 100000 in
theorem gw1335 : Cond.code yX13_out cX13_out 2 (some .int) ∈ lw_tbl := pk_t12 _ (List.mem_of_getElem? (i := 156) rfl)
set_option maxRecDepth 100000 in
theorem gw1336 : Cond.methodLink RL 117 yX13_out ∈ lw_tbl := pk_t12 _ (List.mem_of_getElem? (i := 153) rfl)
set_option maxRecDepth 100000 in
theorem gw1337 : Cond.instanceMethod yX13_out ∈ lw_tbl := pk_t12 _ (List.mem_of_getElem? (i := 154) rfl)
set_option maxRecDepth 100000 in
theorem gw1338 : Cond.selects RX13 yX13_out yX13_out ∈ lw_tbl := pk_t12 _ (List.mem_of_getElem? (i := 155) rfl)
set_option maxRecDepth 100000 in
theorem gw1339 : Cond.codeWith yL_number cL_number 5 (some .int) [(0, 10, 13, 19)] ∈ lw_tbl := pk_t6 _ (List.mem_of_getElem? (i := 204) rfl)
set_option maxRecDepth 100000 in
theorem gw1340 : Cond.methodLink RL 118 yL_number ∈ lw_tbl := pk_t6 _ (List.mem_of_getElem? (i := 202) rfl)
set_option maxRecDepth 100000 in
theorem gw1341 : Cond.static yL_number ∈ lw_tbl := pk_t6 _ (List.mem_of_getElem? (i := 203) rfl)
set_option maxRecDepth 100000 in
theorem gw1342 : Cond.code yX12_number cX12_number 6 (some .int) ∈ lw_tbl := pk_t6 _ (List.mem_of_getElem? (i := 208) rfl)
set_option maxRecDepth 100000 in
theorem gw1343 : Cond.methodLink RL 21 yX12_number ∈ lw_tbl := pk_t6 _ (List.mem_of_getElem? (i := 205) rfl)
set_option maxRecDepth 100000 in
theorem gw1344 : Cond.instanceMethod yX12_number ∈ lw_tbl := pk_t6 _ (List.mem_of_getElem? (i := 206) rfl)
set_option maxRecDepth 100000 in
theorem gw1345 : Cond.selects RX12 yX12_number yX12_number ∈ lw_tbl := pk_t6 _ (List.mem_of_getElem? (i := 207) rfl)
set_option maxRecDepth 100000 in
theorem gw1346 : Cond.code yX13_number cX13_number 5 (some .int) ∈ lw_tbl := pk_t14 _ (List.mem_of_getElem? (i := 2) rfl)
set_option maxRecDepth 100000 in
theorem gw1347 : Cond.methodLink RL 121 yX13_number ∈ lw_tbl := pk_t13 _ (List.mem_of_getElem? (i := 239) rfl)
set_option maxRecDepth 100000 in
theorem gw1348 : Cond.instanceMethod yX13_number ∈ lw_tbl := pk_t14 _ (List.mem_of_getElem? (i := 0) rfl)
set_option maxRecDepth 100000 in
theorem gw1349 : Cond.selects RX13 yX13_number yX13_number ∈ lw_tbl := pk_t14 _ (List.mem_of_getElem? (i := 1) rfl)
set_option maxRecDepth 100000 in
theorem gw1350 : Cond.codeWith yL_sounds cL_sounds 4 (some .int) [(0, 9, 12, 19)] ∈ lw_tbl := pk_t6 _ (List.mem_of_getElem? (i := 227) rfl)
set_option maxRecDepth 100000 in
theorem gw1351 : Cond.methodLink RL 122 yL_sounds ∈ lw_tbl := pk_t6 _ (List.mem_of_getElem? (i := 225) rfl)
set_option maxRecDepth 100000 in
theorem gw1352 : Cond.static yL_sounds ∈ lw_tbl := pk_t6 _ (List.mem_of_getElem? (i := 226) rfl)
set_option maxRecDepth 100000 in
theorem gw1353 : Cond.code yX12_sounds cX12_sounds 4 (some .int) ∈ lw_tbl := pk_t6 _ (List.mem_of_getElem? (i := 231) rfl)
set_option maxRecDepth 100000 in
theorem gw1354 : Cond.methodLink RL 25 yX12_sounds ∈ lw_tbl := pk_t6 _ (List.mem_of_getElem? (i := 228) rfl)
set_option maxRecDepth 100000 in
theorem gw1355 : Cond.instanceMethod yX12_sounds ∈ lw_tbl := pk_t6 _ (List.mem_of_getElem? (i := 229) rfl)
set_option maxRecDepth 100000 in
theorem gw1356 : Cond.selects RX12 yX12_sounds yX12_sounds ∈ lw_tbl := pk_t6 _ (List.mem_of_getElem? (i := 230) rfl)
set_option maxRecDepth 100000 in
theorem gw1357 : Cond.code yX13_sounds cX13_sounds 3 (some .int) ∈ lw_tbl := pk_t13 _ (List.mem_of_getElem? (i := 157) rfl)
set_option maxRecDepth 100000 in
theorem gw1358 : Cond.methodLink RL 124 yX13_sounds ∈ lw_tbl := pk_t13 _ (List.mem_of_getElem? (i := 154) rfl)
set_option maxRecDepth 100000 in
theorem gw1359 : Cond.instanceMethod yX13_sounds ∈ lw_tbl := pk_t13 _ (List.mem_of_getElem? (i := 155) rfl)
set_option maxRecDepth 100000 in
theorem gw1360 : Cond.selects RX13 yX13_sounds yX13_sounds ∈ lw_tbl := pk_t13 _ (List.mem_of_getElem? (i := 156) rfl)
set_option maxRecDepth 100000 in
theorem gw1361 : Cond.codeWith yL_analyse cL_analyse 4 (some .int) [(0, 9, 12, 19)] ∈ lw_tbl := pk_t7 _ (List.mem_of_getElem? (i := 23) rfl)
set_option maxRecDepth 100000 in
theorem gw1362 : Cond.methodLink RL 125 yL_analyse ∈ lw_tbl := pk_t7 _ (List.mem_of_getElem? (i := 21) rfl)
set_option maxRecDepth 100000 in
theorem gw1363 : Cond.static yL_analyse ∈ lw_tbl := pk_t7 _ (List.mem_of_getElem? (i := 22) rfl)
set_option maxRecDepth 100000 in
theorem gw1364 : Cond.code yX12_analyse cX12_analyse 4 (some .int) ∈ lw_tbl := pk_t7 _ (List.mem_of_getElem? (i := 27) rfl)
set_option maxRecDepth 100000 in
theorem gw1365 : Cond.methodLink RL 28 yX12_analyse ∈ lw_tbl := pk_t7 _ (List.mem_of_getElem? (i := 24) rfl)
set_option maxRecDepth 100000 in
theorem gw1366 : Cond.instanceMethod yX12_analyse ∈ lw_tbl := pk_t7 _ (List.mem_of_getElem? (i := 25) rfl)
set_option maxRecDepth 100000 in
theorem gw1367 : Cond.selects RX12 yX12_analyse yX12_analyse ∈ lw_tbl := pk_t7 _ (List.mem_of_getElem? (i := 26) rfl)
set_option maxRecDepth 100000 in
theorem gw1368 : Cond.code yX13_analyse cX13_analyse 5 (some .int) ∈ lw_tbl := pk_t13 _ (List.mem_of_getElem? (i := 197) rfl)
set_option maxRecDepth 100000 in
theorem gw1369 : Cond.methodLink RL 127 yX13_analyse ∈ lw_tbl := pk_t13 _ (List.mem_of_getElem? (i := 194) rfl)
set_option maxRecDepth 100000 in
theorem gw1370 : Cond.instanceMethod yX13_analyse ∈ lw_tbl := pk_t13 _ (List.mem_of_getElem? (i := 195) rfl)
set_option maxRecDepth 100000 in
theorem gw1371 : Cond.selects RX13 yX13_analyse yX13_analyse ∈ lw_tbl := pk_t13 _ (List.mem_of_getElem? (i := 196) rfl)
set_option maxRecDepth 100000 in
theorem gw1372 : Cond.code yX13_thrown cX13_thrown 1 (some .int) ∈ lw_tbl := pk_t9 _ (List.mem_of_getElem? (i := 82) rfl)
set_option maxRecDepth 100000 in
theorem gw1373 : Cond.methodLink RL 128 yX13_thrown ∈ lw_tbl := pk_t9 _ (List.mem_of_getElem? (i := 79) rfl)
set_option maxRecDepth 100000 in
theorem gw1374 : Cond.instanceMethod yX13_thrown ∈ lw_tbl := pk_t9 _ (List.mem_of_getElem? (i := 80) rfl)
set_option maxRecDepth 100000 in
theorem gw1375 : Cond.selects RX13 yX13_thrown yX13_thrown ∈ lw_tbl := pk_t9 _ (List.mem_of_getElem? (i := 81) rfl)
set_option maxRecDepth 100000 in
theorem gw1376 : Cond.codeWith yL_analysis cL_analysis 5 (some .int) [(0, 10, 13, 19)] ∈ lw_tbl := pk_t7 _ (List.mem_of_getElem? (i := 64) rfl)
set_option maxRecDepth 100000 in
theorem gw1377 : Cond.methodLink RL 131 yL_analysis ∈ lw_tbl := pk_t7 _ (List.mem_of_getElem? (i := 62) rfl)
set_option maxRecDepth 100000 in
theorem gw1378 : Cond.static yL_analysis ∈ lw_tbl := pk_t7 _ (List.mem_of_getElem? (i := 63) rfl)
set_option maxRecDepth 100000 in
theorem gw1379 : Cond.code yX12_analysis cX12_analysis 3 (some .int) ∈ lw_tbl := pk_t7 _ (List.mem_of_getElem? (i := 68) rfl)
set_option maxRecDepth 100000 in
theorem gw1380 : Cond.methodLink RL 31 yX12_analysis ∈ lw_tbl := pk_t7 _ (List.mem_of_getElem? (i := 65) rfl)
set_option maxRecDepth 100000 in
theorem gw1381 : Cond.instanceMethod yX12_analysis ∈ lw_tbl := pk_t7 _ (List.mem_of_getElem? (i := 66) rfl)
set_option maxRecDepth 100000 in
theorem gw1382 : Cond.selects RX12 yX12_analysis yX12_analysis ∈ lw_tbl := pk_t7 _ (List.mem_of_getElem? (i := 67) rfl)
set_option maxRecDepth 100000 in
theorem gw1383 : Cond.code yX13_analysis cX13_analysis 6 (some .int) ∈ lw_tbl := pk_t13 _ (List.mem_of_getElem? (i := 217) rfl)
set_option maxRecDepth 100000 in
theorem gw1384 : Cond.methodLink RL 133 yX13_analysis ∈ lw_tbl := pk_t13 _ (List.mem_of_getElem? (i := 214) rfl)
set_option maxRecDepth 100000 in
theorem gw1385 : Cond.instanceMethod yX13_analysis ∈ lw_tbl := pk_t13 _ (List.mem_of_getElem? (i := 215) rfl)
set_option maxRecDepth 100000 in
theorem gw1386 : Cond.selects RX13 yX13_analysis yX13_analysis ∈ lw_tbl := pk_t13 _ (List.mem_of_getElem? (i := 216) rfl)
set_option maxRecDepth 100000 in
theorem gw1387 : Cond.codeWith yL_cell cL_cell 6 (some .int) [(0, 12, 15, 19)] ∈ lw_tbl := pk_t7 _ (List.mem_of_getElem? (i := 82) rfl)
set_option maxRecDepth 100000 in
theorem gw1388 : Cond.methodLink RL 134 yL_cell ∈ lw_tbl := pk_t7 _ (List.mem_of_getElem? (i := 80) rfl)
set_option maxRecDepth 100000 in
theorem gw1389 : Cond.static yL_cell ∈ lw_tbl := pk_t7 _ (List.mem_of_getElem? (i := 81) rfl)
set_option maxRecDepth 100000 in
theorem gw1390 : Cond.code yX12_cell cX12_cell 7 (some .int) ∈ lw_tbl := pk_t7 _ (List.mem_of_getElem? (i := 86) rfl)
set_option maxRecDepth 100000 in
theorem gw1391 : Cond.methodLink RL 34 yX12_cell ∈ lw_tbl := pk_t7 _ (List.mem_of_getElem? (i := 83) rfl)
set_option maxRecDepth 100000 in
theorem gw1392 : Cond.instanceMethod yX12_cell ∈ lw_tbl := pk_t7 _ (List.mem_of_getElem? (i := 84) rfl)
set_option maxRecDepth 100000 in
theorem gw1393 : Cond.selects RX12 yX12_cell yX12_cell ∈ lw_tbl := pk_t7 _ (List.mem_of_getElem? (i := 85) rfl)
set_option maxRecDepth 100000 in
theorem gw1394 : Cond.code yX13_cell cX13_cell 5 (some .int) ∈ lw_tbl := pk_t13 _ (List.mem_of_getElem? (i := 225) rfl)
set_option maxRecDepth 100000 in
theorem gw1395 : Cond.methodLink RL 137 yX13_cell ∈ lw_tbl := pk_t13 _ (List.mem_of_getElem? (i := 222) rfl)
set_option maxRecDepth 100000 in
theorem gw1396 : Cond.instanceMethod yX13_cell ∈ lw_tbl := pk_t13 _ (List.mem_of_getElem? (i := 223) rfl)
set_option maxRecDepth 100000 in
theorem gw1397 : Cond.selects RX13 yX13_cell yX13_cell ∈ lw_tbl := pk_t13 _ (List.mem_of_getElem? (i := 224) rfl)
set_option maxRecDepth 100000 in
theorem gw1398 : Cond.codeWith yL_guess cL_guess 4 (some .int) [(0, 9, 12, 19)] ∈ lw_tbl := pk_t7 _ (List.mem_of_getElem? (i := 92) rfl)
set_option maxRecDepth 100000 in
theorem gw1399 : Cond.methodLink RL 138 yL_guess ∈ lw_tbl := pk_t7 _ (List.mem_of_getElem? (i := 90) rfl)
set_option maxRecDepth 100000 in
theorem gw1400 : Cond.static yL_guess ∈ lw_tbl := pk_t7 _ (List.mem_of_getElem? (i := 91) rfl)
set_option maxRecDepth 100000 in
theorem gw1401 : Cond.code yX12_guess cX12_guess 4 (some .int) ∈ lw_tbl := pk_t7 _ (List.mem_of_getElem? (i := 96) rfl)
set_option maxRecDepth 100000 in
theorem gw1402 : Cond.methodLink RL 38 yX12_guess ∈ lw_tbl := pk_t7 _ (List.mem_of_getElem? (i := 93) rfl)
set_option maxRecDepth 100000 in
theorem gw1403 : Cond.instanceMethod yX12_guess ∈ lw_tbl := pk_t7 _ (List.mem_of_getElem? (i := 94) rfl)
set_option maxRecDepth 100000 in
theorem gw1404 : Cond.selects RX12 yX12_guess yX12_guess ∈ lw_tbl := pk_t7 _ (List.mem_of_getElem? (i := 95) rfl)
set_option maxRecDepth 100000 in
theorem gw1405 : Cond.code yX13_guess cX13_guess 8 (some .int) ∈ lw_tbl := pk_t13 _ (List.mem_of_getElem? (i := 229) rfl)
set_option maxRecDepth 100000 in
theorem gw1406 : Cond.methodLink RL 140 yX13_guess ∈ lw_tbl := pk_t13 _ (List.mem_of_getElem? (i := 226) rfl)
set_option maxRecDepth 100000 in
theorem gw1407 : Cond.instanceMethod yX13_guess ∈ lw_tbl := pk_t13 _ (List.mem_of_getElem? (i := 227) rfl)
set_option maxRecDepth 100000 in
theorem gw1408 : Cond.selects RX13 yX13_guess yX13_guess ∈ lw_tbl := pk_t13 _ (List.mem_of_getElem? (i := 228) rfl)
set_option maxRecDepth 100000 in
theorem gw1409 : Cond.codeWith yL_guessed cL_guessed 5 (some .int) [(0, 10, 13, 19)] ∈ lw_tbl := pk_t7 _ (List.mem_of_getElem? (i := 112) rfl)
set_option maxRecDepth 100000 in
theorem gw1410 : Cond.methodLink RL 141 yL_guessed ∈ lw_tbl := pk_t7 _ (List.mem_of_getElem? (i := 110) rfl)
set_option maxRecDepth 100000 in
theorem gw1411 : Cond.static yL_guessed ∈ lw_tbl := pk_t7 _ (List.mem_of_getElem? (i := 111) rfl)
set_option maxRecDepth 100000 in
theorem gw1412 : Cond.code yX12_guessed cX12_guessed 3 (some .int) ∈ lw_tbl := pk_t7 _ (List.mem_of_getElem? (i := 116) rfl)
set_option maxRecDepth 100000 in
theorem gw1413 : Cond.methodLink RL 41 yX12_guessed ∈ lw_tbl := pk_t7 _ (List.mem_of_getElem? (i := 113) rfl)
set_option maxRecDepth 100000 in
theorem gw1414 : Cond.instanceMethod yX12_guessed ∈ lw_tbl := pk_t7 _ (List.mem_of_getElem? (i := 114) rfl)
set_option maxRecDepth 100000 in
theorem gw1415 : Cond.selects RX12 yX12_guessed yX12_guessed ∈ lw_tbl := pk_t7 _ (List.mem_of_getElem? (i := 115) rfl)
set_option maxRecDepth 100000 in
theorem gw1416 : Cond.code yX13_guessed cX13_guessed 3 (some .int) ∈ lw_tbl := pk_t13 _ (List.mem_of_getElem? (i := 238) rfl)
set_option maxRecDepth 100000 in
theorem gw1417 : Cond.methodLink RL 143 yX13_guessed ∈ lw_tbl := pk_t13 _ (List.mem_of_getElem? (i := 235) rfl)
set_option maxRecDepth 100000 in
theorem gw1418 : Cond.instanceMethod yX13_guessed ∈ lw_tbl := pk_t13 _ (List.mem_of_getElem? (i := 236) rfl)
set_option maxRecDepth 100000 in
theorem gw1419 : Cond.selects RX13 yX13_guessed yX13_guessed ∈ lw_tbl := pk_t13 _ (List.mem_of_getElem? (i := 237) rfl)
set_option maxRecDepth 100000 in
theorem gw1420 : Cond.codeWith yL_parse cL_parse 5 (some .int) [(0, 10, 13, 19)] ∈ lw_tbl := pk_t7 _ (List.mem_of_getElem? (i := 123) rfl)
set_option maxRecDepth 100000 in
theorem gw1421 : Cond.methodLink RL 144 yL_parse ∈ lw_tbl := pk_t7 _ (List.mem_of_getElem? (i := 121) rfl)
set_option maxRecDepth 100000 in
theorem gw1422 : Cond.static yL_parse ∈ lw_tbl := pk_t7 _ (List.mem_of_getElem? (i := 122) rfl)
set_option maxRecDepth 100000 in
theorem gw1423 : Cond.code yX12_parse cX12_parse 5 (some .int) ∈ lw_tbl := pk_t7 _ (List.mem_of_getElem? (i := 127) rfl)
set_option maxRecDepth 100000 in
theorem gw1424 : Cond.methodLink RL 44 yX12_parse ∈ lw_tbl := pk_t7 _ (List.mem_of_getElem? (i := 124) rfl)
set_option maxRecDepth 100000 in
theorem gw1425 : Cond.instanceMethod yX12_parse ∈ lw_tbl := pk_t7 _ (List.mem_of_getElem? (i := 125) rfl)
set_option maxRecDepth 100000 in
theorem gw1426 : Cond.selects RX12 yX12_parse yX12_parse ∈ lw_tbl := pk_t7 _ (List.mem_of_getElem? (i := 126) rfl)
set_option maxRecDepth 100000 in
theorem gw1427 : Cond.code yX13_parse cX13_parse 3 (some .int) ∈ lw_tbl := pk_t14 _ (List.mem_of_getElem? (i := 6) rfl)
set_option maxRecDepth 100000 in
theorem gw1428 : Cond.methodLink RL 146 yX13_parse ∈ lw_tbl := pk_t14 _ (List.mem_of_getElem? (i := 3) rfl)
set_option maxRecDepth 100000 in
theorem gw1429 : Cond.instanceMethod yX13_parse ∈ lw_tbl := pk_t14 _ (List.mem_of_getElem? (i := 4) rfl)
set_option maxRecDepth 100000 in
theorem gw1430 : Cond.selects RX13 yX13_parse yX13_parse ∈ lw_tbl := pk_t14 _ (List.mem_of_getElem? (i := 5) rfl)
set_option maxRecDepth 100000 in
theorem gw1431 : Cond.code yX12_trees cX12_trees 1 (some .long) ∈ lw_tbl := pk_t6 _ (List.mem_of_getElem? (i := 5) rfl)
set_option maxRecDepth 100000 in
theorem gw1432 : Cond.methodLink RL 147 yX12_trees ∈ lw_tbl := pk_t6 _ (List.mem_of_getElem? (i := 2) rfl)
set_option maxRecDepth 100000 in
theorem gw1433 : Cond.instanceMethod yX12_trees ∈ lw_tbl := pk_t6 _ (List.mem_of_getElem? (i := 3) rfl)
set_option maxRecDepth 100000 in
theorem gw1434 : Cond.selects RX12 yX12_trees yX12_trees ∈ lw_tbl := pk_t6 _ (List.mem_of_getElem? (i := 4) rfl)
set_option maxRecDepth 100000 in
theorem gw1435 : Cond.code yX13_trees cX13_trees 1 (some .long) ∈ lw_tbl := pk_t14 _ (List.mem_of_getElem? (i := 97) rfl)
set_option maxRecDepth 100000 in
theorem gw1436 : Cond.methodLink RL 151 yX13_trees ∈ lw_tbl := pk_t14 _ (List.mem_of_getElem? (i := 94) rfl)
set_option maxRecDepth 100000 in
theorem gw1437 : Cond.instanceMethod yX13_trees ∈ lw_tbl := pk_t14 _ (List.mem_of_getElem? (i := 95) rfl)
set_option maxRecDepth 100000 in
theorem gw1438 : Cond.selects RX13 yX13_trees yX13_trees ∈ lw_tbl := pk_t14 _ (List.mem_of_getElem? (i := 96) rfl)
set_option maxRecDepth 100000 in
theorem gw1439 : Cond.codeWith yL_bar cL_bar 5 (some .int) [(0, 9, 12, 19)] ∈ lw_tbl := pk_t7 _ (List.mem_of_getElem? (i := 203) rfl)
set_option maxRecDepth 100000 in
theorem gw1440 : Cond.methodLink RL 152 yL_bar ∈ lw_tbl := pk_t7 _ (List.mem_of_getElem? (i := 201) rfl)
set_option maxRecDepth 100000 in
theorem gw1441 : Cond.static yL_bar ∈ lw_tbl := pk_t7 _ (List.mem_of_getElem? (i := 202) rfl)
set_option maxRecDepth 100000 in
theorem gw1442 : Cond.code yX12_bar cX12_bar 3 (some .long) ∈ lw_tbl := pk_t7 _ (List.mem_of_getElem? (i := 207) rfl)
set_option maxRecDepth 100000 in
theorem gw1443 : Cond.methodLink RL 47 yX12_bar ∈ lw_tbl := pk_t7 _ (List.mem_of_getElem? (i := 204) rfl)
set_option maxRecDepth 100000 in
theorem gw1444 : Cond.instanceMethod yX12_bar ∈ lw_tbl := pk_t7 _ (List.mem_of_getElem? (i := 205) rfl)
set_option maxRecDepth 100000 in
theorem gw1445 : Cond.selects RX12 yX12_bar yX12_bar ∈ lw_tbl := pk_t7 _ (List.mem_of_getElem? (i := 206) rfl)
set_option maxRecDepth 100000 in
theorem gw1446 : Cond.code yX13_bar cX13_bar 3 (some .long) ∈ lw_tbl := pk_t14 _ (List.mem_of_getElem? (i := 101) rfl)
set_option maxRecDepth 100000 in
theorem gw1447 : Cond.methodLink RL 155 yX13_bar ∈ lw_tbl := pk_t14 _ (List.mem_of_getElem? (i := 98) rfl)
set_option maxRecDepth 100000 in
theorem gw1448 : Cond.instanceMethod yX13_bar ∈ lw_tbl := pk_t14 _ (List.mem_of_getElem? (i := 99) rfl)
set_option maxRecDepth 100000 in
theorem gw1449 : Cond.selects RX13 yX13_bar yX13_bar ∈ lw_tbl := pk_t14 _ (List.mem_of_getElem? (i := 100) rfl)
set_option maxRecDepth 100000 in
theorem gw1450 : Cond.code yX12_price cX12_price 2 (some .int) ∈ lw_tbl := pk_t6 _ (List.mem_of_getElem? (i := 32) rfl)
set_option maxRecDepth 100000 in
theorem gw1451 : Cond.methodLink RL 156 yX12_price ∈ lw_tbl := pk_t6 _ (List.mem_of_getElem? (i := 29) rfl)
set_option maxRecDepth 100000 in
theorem gw1452 : Cond.instanceMethod yX12_price ∈ lw_tbl := pk_t6 _ (List.mem_of_getElem? (i := 30) rfl)
set_option maxRecDepth 100000 in
theorem gw1453 : Cond.selects RX12 yX12_price yX12_price ∈ lw_tbl := pk_t6 _ (List.mem_of_getElem? (i := 31) rfl)
set_option maxRecDepth 100000 in
theorem gw1454 : Cond.code yX13_price cX13_price 2 (some .int) ∈ lw_tbl := pk_t14 _ (List.mem_of_getElem? (i := 105) rfl)
set_option maxRecDepth 100000 in
theorem gw1455 : Cond.methodLink RL 159 yX13_price ∈ lw_tbl := pk_t14 _ (List.mem_of_getElem? (i := 102) rfl)
set_option maxRecDepth 100000 in
theorem gw1456 : Cond.instanceMethod yX13_price ∈ lw_tbl := pk_t14 _ (List.mem_of_getElem? (i := 103) rfl)
set_option maxRecDepth 100000 in
theorem gw1457 : Cond.selects RX13 yX13_price yX13_price ∈ lw_tbl := pk_t14 _ (List.mem_of_getElem? (i := 104) rfl)
set_option maxRecDepth 100000 in
theorem gw1458 : Cond.codeWith yL_reading cL_reading 5 (some .int) [(0, 10, 13, 19)] ∈ lw_tbl := pk_t7 _ (List.mem_of_getElem? (i := 215) rfl)
set_option maxRecDepth 100000 in
theorem gw1459 : Cond.methodLink RL 160 yL_reading ∈ lw_tbl := pk_t7 _ (List.mem_of_getElem? (i := 213) rfl)
set_option maxRecDepth 100000 in
theorem gw1460 : Cond.static yL_reading ∈ lw_tbl := pk_t7 _ (List.mem_of_getElem? (i := 214) rfl)
set_option maxRecDepth 100000 in
theorem gw1461 : Cond.code yX12_reading cX12_reading 4 (some .int) ∈ lw_tbl := pk_t7 _ (List.mem_of_getElem? (i := 219) rfl)
set_option maxRecDepth 100000 in
theorem gw1462 : Cond.methodLink RL 51 yX12_reading ∈ lw_tbl := pk_t7 _ (List.mem_of_getElem? (i := 216) rfl)
set_option maxRecDepth 100000 in
theorem gw1463 : Cond.instanceMethod yX12_reading ∈ lw_tbl := pk_t7 _ (List.mem_of_getElem? (i := 217) rfl)
set_option maxRecDepth 100000 in
theorem gw1464 : Cond.selects RX12 yX12_reading yX12_reading ∈ lw_tbl := pk_t7 _ (List.mem_of_getElem? (i := 218) rfl)
set_option maxRecDepth 100000 in
theorem gw1465 : Cond.code yX13_reading cX13_reading 4 (some .int) ∈ lw_tbl := pk_t14 _ (List.mem_of_getElem? (i := 109) rfl)
set_option maxRecDepth 100000 in
theorem gw1466 : Cond.methodLink RL 162 yX13_reading ∈ lw_tbl := pk_t14 _ (List.mem_of_getElem? (i := 106) rfl)
set_option maxRecDepth 100000 in
theorem gw1467 : Cond.instanceMethod yX13_reading ∈ lw_tbl := pk_t14 _ (List.mem_of_getElem? (i := 107) rfl)
set_option maxRecDepth 100000 in
theorem gw1468 : Cond.selects RX13 yX13_reading yX13_reading ∈ lw_tbl := pk_t14 _ (List.mem_of_getElem? (i := 108) rfl)
set_option maxRecDepth 100000 in
theorem gw1469 : Cond.codeWith yL_tree cL_tree 4 (some .int) [(0, 9, 12, 19)] ∈ lw_tbl := pk_t7 _ (List.mem_of_getElem? (i := 231) rfl)
set_option maxRecDepth 100000 in
theorem gw1470 : Cond.methodLink RL 163 yL_tree ∈ lw_tbl := pk_t7 _ (List.mem_of_getElem? (i := 229) rfl)
set_option maxRecDepth 100000 in
theorem gw1471 : Cond.static yL_tree ∈ lw_tbl := pk_t7 _ (List.mem_of_getElem? (i := 230) rfl)
set_option maxRecDepth 100000 in
theorem gw1472 : Cond.code yX12_tree cX12_tree 3 (some .int) ∈ lw_tbl := pk_t7 _ (List.mem_of_getElem? (i := 235) rfl)
set_option maxRecDepth 100000 in
theorem gw1473 : Cond.methodLink RL 54 yX12_tree ∈ lw_tbl := pk_t7 _ (List.mem_of_getElem? (i := 232) rfl)
set_option maxRecDepth 100000 in
theorem gw1474 : Cond.instanceMethod yX12_tree ∈ lw_tbl := pk_t7 _ (List.mem_of_getElem? (i := 233) rfl)
set_option maxRecDepth 100000 in
theorem gw1475 : Cond.selects RX12 yX12_tree yX12_tree ∈ lw_tbl := pk_t7 _ (List.mem_of_getElem? (i := 234) rfl)
set_option maxRecDepth 100000 in
theorem gw1476 : Cond.code yX13_tree cX13_tree 3 (some .int) ∈ lw_tbl := pk_t14 _ (List.mem_of_getElem? (i := 121) rfl)
set_option maxRecDepth 100000 in
theorem gw1477 : Cond.methodLink RL 165 yX13_tree ∈ lw_tbl := pk_t14 _ (List.mem_of_getElem? (i := 118) rfl)
set_option maxRecDepth 100000 in
theorem gw1478 : Cond.instanceMethod yX13_tree ∈ lw_tbl := pk_t14 _ (List.mem_of_getElem? (i := 119) rfl)
set_option maxRecDepth 100000 in
theorem gw1479 : Cond.selects RX13 yX13_tree yX13_tree ∈ lw_tbl := pk_t14 _ (List.mem_of_getElem? (i := 120) rfl)
set_option maxRecDepth 100000 in
theorem gw1480 : Cond.codeWith yL_show cL_show 4 (some .int) [(0, 9, 12, 19)] ∈ lw_tbl := pk_t8 _ (List.mem_of_getElem? (i := 10) rfl)
set_option maxRecDepth 100000 in
theorem gw1481 : Cond.methodLink RL 166 yL_show ∈ lw_tbl := pk_t8 _ (List.mem_of_getElem? (i := 8) rfl)
set_option maxRecDepth 100000 in
theorem gw1482 : Cond.static yL_show ∈ lw_tbl := pk_t8 _ (List.mem_of_getElem? (i := 9) rfl)
set_option maxRecDepth 100000 in
theorem gw1483 : Cond.code yX12_show cX12_show 2 (some .int) ∈ lw_tbl := pk_t8 _ (List.mem_of_getElem? (i := 14) rfl)
set_option maxRecDepth 100000 in
theorem gw1484 : Cond.methodLink RL 57 yX12_show ∈ lw_tbl := pk_t8 _ (List.mem_of_getElem? (i := 11) rfl)
set_option maxRecDepth 100000 in
theorem gw1485 : Cond.instanceMethod yX12_show ∈ lw_tbl := pk_t8 _ (List.mem_of_getElem? (i := 12) rfl)
set_option maxRecDepth 100000 in
theorem gw1486 : Cond.selects RX12 yX12_show yX12_show ∈ lw_tbl := pk_t8 _ (List.mem_of_getElem? (i := 13) rfl)
set_option maxRecDepth 100000 in
theorem gw1487 : Cond.code yX13_show cX13_show 2 (some .int) ∈ lw_tbl := pk_t14 _ (List.mem_of_getElem? (i := 129) rfl)
set_option maxRecDepth 100000 in
theorem gw1488 : Cond.methodLink RL 168 yX13_show ∈ lw_tbl := pk_t14 _ (List.mem_of_getElem? (i := 126) rfl)
set_option maxRecDepth 100000 in
theorem gw1489 : Cond.instanceMethod yX13_show ∈ lw_tbl := pk_t14 _ (List.mem_of_getElem? (i := 127) rfl)
set_option maxRecDepth 100000 in
theorem gw1490 : Cond.selects RX13 yX13_show yX13_show ∈ lw_tbl := pk_t14 _ (List.mem_of_getElem? (i := 128) rfl)
set_option maxRecDepth 100000 in
theorem gw1491 : Cond.codeWith yL_same cL_same 5 (some .int) [(0, 17, 20, 19)] ∈ lw_tbl := pk_t8 _ (List.mem_of_getElem? (i := 26) rfl)
set_option maxRecDepth 100000 in
theorem gw1492 : Cond.methodLink RL 169 yL_same ∈ lw_tbl := pk_t8 _ (List.mem_of_getElem? (i := 24) rfl)
set_option maxRecDepth 100000 in
theorem gw1493 : Cond.static yL_same ∈ lw_tbl := pk_t8 _ (List.mem_of_getElem? (i := 25) rfl)
set_option maxRecDepth 100000 in
theorem gw1494 : Cond.code yX12_same cX12_same 4 (some .boolean) ∈ lw_tbl := pk_t8 _ (List.mem_of_getElem? (i := 30) rfl)
set_option maxRecDepth 100000 in
theorem gw1495 : Cond.methodLink RL 60 yX12_same ∈ lw_tbl := pk_t8 _ (List.mem_of_getElem? (i := 27) rfl)
set_option maxRecDepth 100000 in
theorem gw1496 : Cond.instanceMethod yX12_same ∈ lw_tbl := pk_t8 _ (List.mem_of_getElem? (i := 28) rfl)
set_option maxRecDepth 100000 in
theorem gw1497 : Cond.selects RX12 yX12_same yX12_same ∈ lw_tbl := pk_t8 _ (List.mem_of_getElem? (i := 29) rfl)
set_option maxRecDepth 100000 in
theorem gw1498 : Cond.code yX13_same cX13_same 4 (some .boolean) ∈ lw_tbl := pk_t14 _ (List.mem_of_getElem? (i := 146) rfl)
set_option maxRecDepth 100000 in
theorem gw1499 : Cond.methodLink RL 171 yX13_same ∈ lw_tbl := pk_t14 _ (List.mem_of_getElem? (i := 143) rfl)
set_option maxRecDepth 100000 in
theorem gw1500 : Cond.instanceMethod yX13_same ∈ lw_tbl := pk_t14 _ (List.mem_of_getElem? (i := 144) rfl)
set_option maxRecDepth 100000 in
theorem gw1501 : Cond.selects RX13 yX13_same yX13_same ∈ lw_tbl := pk_t14 _ (List.mem_of_getElem? (i := 145) rfl)
set_option maxRecDepth 100000 in
theorem gw1502 : Cond.codeWith yL_say cL_say 6 (some .int) [(0, 12, 15, 19)] ∈ lw_tbl := pk_t8 _ (List.mem_of_getElem? (i := 33) rfl)
set_option maxRecDepth 100000 in
theorem gw1503 : Cond.methodLink RL 172 yL_say ∈ lw_tbl := pk_t8 _ (List.mem_of_getElem? (i := 31) rfl)
set_option maxRecDepth 100000 in
theorem gw1504 : Cond.static yL_say ∈ lw_tbl := pk_t8 _ (List.mem_of_getElem? (i := 32) rfl)
set_option maxRecDepth 100000 in
theorem gw1505 : Cond.code yX12_say cX12_say 5 (some .int) ∈ lw_tbl := pk_t8 _ (List.mem_of_getElem? (i := 37) rfl)
set_option maxRecDepth 100000 in
theorem gw1506 : Cond.methodLink RL 64 yX12_say ∈ lw_tbl := pk_t8 _ (List.mem_of_getElem? (i := 34) rfl)
set_option maxRecDepth 100000 in
theorem gw1507 : Cond.instanceMethod yX12_say ∈ lw_tbl := pk_t8 _ (List.mem_of_getElem? (i := 35) rfl)
set_option maxRecDepth 100000 in
theorem gw1508 : Cond.selects RX12 yX12_say yX12_say ∈ lw_tbl := pk_t8 _ (List.mem_of_getElem? (i := 36) rfl)
set_option maxRecDepth 100000 in
theorem gw1509 : Cond.code yX13_say cX13_say 6 (some .int) ∈ lw_tbl := pk_t14 _ (List.mem_of_getElem? (i := 150) rfl)
set_option maxRecDepth 100000 in
theorem gw1510 : Cond.methodLink RL 174 yX13_say ∈ lw_tbl := pk_t14 _ (List.mem_of_getElem? (i := 147) rfl)
set_option maxRecDepth 100000 in
theorem gw1511 : Cond.instanceMethod yX13_say ∈ lw_tbl := pk_t14 _ (List.mem_of_getElem? (i := 148) rfl)
set_option maxRecDepth 100000 in
theorem gw1512 : Cond.selects RX13 yX13_say yX13_say ∈ lw_tbl := pk_t14 _ (List.mem_of_getElem? (i := 149) rfl)
set_option maxRecDepth 100000 in
theorem gw1513 : Cond.codeWith yL_mean cL_mean 4 (some .int) [(0, 9, 12, 19)] ∈ lw_tbl := pk_t8 _ (List.mem_of_getElem? (i := 84) rfl)
set_option maxRecDepth 100000 in
theorem gw1514 : Cond.methodLink RL 175 yL_mean ∈ lw_tbl := pk_t8 _ (List.mem_of_getElem? (i := 82) rfl)
set_option maxRecDepth 100000 in
theorem gw1515 : Cond.static yL_mean ∈ lw_tbl := pk_t8 _ (List.mem_of_getElem? (i := 83) rfl)
set_option maxRecDepth 100000 in
theorem gw1516 : Cond.code yX12_mean cX12_mean 3 (some .int) ∈ lw_tbl := pk_t8 _ (List.mem_of_getElem? (i := 88) rfl)
set_option maxRecDepth 100000 in
theorem gw1517 : Cond.methodLink RL 67 yX12_mean ∈ lw_tbl := pk_t8 _ (List.mem_of_getElem? (i := 85) rfl)
set_option maxRecDepth 100000 in
theorem gw1518 : Cond.instanceMethod yX12_mean ∈ lw_tbl := pk_t8 _ (List.mem_of_getElem? (i := 86) rfl)
set_option maxRecDepth 100000 in
theorem gw1519 : Cond.selects RX12 yX12_mean yX12_mean ∈ lw_tbl := pk_t8 _ (List.mem_of_getElem? (i := 87) rfl)
set_option maxRecDepth 100000 in
theorem gw1520 : Cond.code yX13_mean_ cX13_mean_ 3 (some .int) ∈ lw_tbl := pk_t14 _ (List.mem_of_getElem? (i := 214) rfl)
set_option maxRecDepth 100000 in
theorem gw1521 : Cond.methodLink RL 177 yX13_mean_ ∈ lw_tbl := pk_t14 _ (List.mem_of_getElem? (i := 211) rfl)
set_option maxRecDepth 100000 in
theorem gw1522 : Cond.instanceMethod yX13_mean_ ∈ lw_tbl := pk_t14 _ (List.mem_of_getElem? (i := 212) rfl)
set_option maxRecDepth 100000 in
theorem gw1523 : Cond.selects RX13 yX13_mean_ yX13_mean_ ∈ lw_tbl := pk_t14 _ (List.mem_of_getElem? (i := 213) rfl)
set_option maxRecDepth 100000 in
theorem gw1524 : Cond.codeWith yL_truth cL_truth 4 (some .int) [(0, 9, 12, 19)] ∈ lw_tbl := pk_t8 _ (List.mem_of_getElem? (i := 141) rfl)
set_option maxRecDepth 100000 in
theorem gw1525 : Cond.methodLink RL 178 yL_truth ∈ lw_tbl := pk_t8 _ (List.mem_of_getElem? (i := 139) rfl)
set_option maxRecDepth 100000 in
theorem gw1526 : Cond.static yL_truth ∈ lw_tbl := pk_t8 _ (List.mem_of_getElem? (i := 140) rfl)
set_option maxRecDepth 100000 in
theorem gw1527 : Cond.code yX12_truth cX12_truth 3 (some .int) ∈ lw_tbl := pk_t8 _ (List.mem_of_getElem? (i := 145) rfl)
set_option maxRecDepth 100000 in
theorem gw1528 : Cond.methodLink RL 70 yX12_truth ∈ lw_tbl := pk_t8 _ (List.mem_of_getElem? (i := 142) rfl)
set_option maxRecDepth 100000 in
theorem gw1529 : Cond.instanceMethod yX12_truth ∈ lw_tbl := pk_t8 _ (List.mem_of_getElem? (i := 143) rfl)
set_option maxRecDepth 100000 in
theorem gw1530 : Cond.selects RX12 yX12_truth yX12_truth ∈ lw_tbl := pk_t8 _ (List.mem_of_getElem? (i := 144) rfl)
set_option maxRecDepth 100000 in
theorem gw1531 : Cond.code yX13_truth cX13_truth 3 (some .int) ∈ lw_tbl := pk_t15 _ (List.mem_of_getElem? (i := 22) rfl)
set_option maxRecDepth 100000 in
theorem gw1532 : Cond.methodLink RL 180 yX13_truth ∈ lw_tbl := pk_t15 _ (List.mem_of_getElem? (i := 19) rfl)
set_option maxRecDepth 100000 in
theorem gw1533 : Cond.instanceMethod yX13_truth ∈ lw_tbl := pk_t15 _ (List.mem_of_getElem? (i := 20) rfl)
set_option maxRecDepth 100000 in
theorem gw1534 : Cond.selects RX13 yX13_truth yX13_truth ∈ lw_tbl := pk_t15 _ (List.mem_of_getElem? (i := 21) rfl)
set_option maxRecDepth 100000 in
theorem gw1535 : Cond.codeWith yL_swap cL_swap 6 (some .int) [(0, 12, 15, 19)] ∈ lw_tbl := pk_t8 _ (List.mem_of_getElem? (i := 185) rfl)
set_option maxRecDepth 100000 in
theorem gw1536 : Cond.methodLink RL 181 yL_swap ∈ lw_tbl := pk_t8 _ (List.mem_of_getElem? (i := 183) rfl)
set_option maxRecDepth 100000 in
theorem gw1537 : Cond.static yL_swap ∈ lw_tbl := pk_t8 _ (List.mem_of_getElem? (i := 184) rfl)
set_option maxRecDepth 100000 in
theorem gw1538 : Cond.code yX12_swap cX12_swap 9 (some .int) ∈ lw_tbl := pk_t8 _ (List.mem_of_getElem? (i := 189) rfl)
set_option maxRecDepth 100000 in
theorem gw1539 : Cond.methodLink RL 73 yX12_swap ∈ lw_tbl := pk_t8 _ (List.mem_of_getElem? (i := 186) rfl)
set_option maxRecDepth 100000 in
theorem gw1540 : Cond.instanceMethod yX12_swap ∈ lw_tbl := pk_t8 _ (List.mem_of_getElem? (i := 187) rfl)
set_option maxRecDepth 100000 in
theorem gw1541 : Cond.selects RX12 yX12_swap yX12_swap ∈ lw_tbl := pk_t8 _ (List.mem_of_getElem? (i := 188) rfl)
set_option maxRecDepth 100000 in
theorem gw1542 : Cond.code yX13_swap cX13_swap 9 (some .int) ∈ lw_tbl := pk_t14 _ (List.mem_of_getElem? (i := 170) rfl)
set_option maxRecDepth 100000 in
theorem gw1543 : Cond.methodLink RL 183 yX13_swap ∈ lw_tbl := pk_t14 _ (List.mem_of_getElem? (i := 167) rfl)
set_option maxRecDepth 100000 in
theorem gw1544 : Cond.instanceMethod yX13_swap ∈ lw_tbl := pk_t14 _ (List.mem_of_getElem? (i := 168) rfl)
set_option maxRecDepth 100000 in
theorem gw1545 : Cond.selects RX13 yX13_swap yX13_swap ∈ lw_tbl := pk_t14 _ (List.mem_of_getElem? (i := 169) rfl)
set_option maxRecDepth 100000 in
theorem gw1546 : Cond.code yX12_candidate cX12_candidate 2 (some .int) ∈ lw_tbl := pk_t6 _ (List.mem_of_getElem? (i := 91) rfl)
set_option maxRecDepth 100000 in
theorem gw1547 : Cond.methodLink RL 184 yX12_candidate ∈ lw_tbl := pk_t6 _ (List.mem_of_getElem? (i := 88) rfl)
set_option maxRecDepth 100000 in
theorem gw1548 : Cond.instanceMethod yX12_candidate ∈ lw_tbl := pk_t6 _ (List.mem_of_getElem? (i := 89) rfl)
set_option maxRecDepth 100000 in
theorem gw1549 : Cond.selects RX12 yX12_candidate yX12_candidate ∈ lw_tbl := pk_t6 _ (List.mem_of_getElem? (i := 90) rfl)
set_option maxRecDepth 100000 in
theorem gw1550 : Cond.code yX13_candidate cX13_candidate 3 (some .int) ∈ lw_tbl := pk_t14 _ (List.mem_of_getElem? (i := 174) rfl)
set_option maxRecDepth 100000 in
theorem gw1551 : Cond.methodLink RL 187 yX13_candidate ∈ lw_tbl := pk_t14 _ (List.mem_of_getElem? (i := 171) rfl)
set_option maxRecDepth 100000 in
theorem gw1552 : Cond.instanceMethod yX13_candidate ∈ lw_tbl := pk_t14 _ (List.mem_of_getElem? (i := 172) rfl)
set_option maxRecDepth 100000 in
theorem gw1553 : Cond.selects RX13 yX13_candidate yX13_candidate ∈ lw_tbl := pk_t14 _ (List.mem_of_getElem? (i := 173) rfl)
set_option maxRecDepth 100000 in
theorem gw1554 : Cond.codeWith yL_add cL_add 4 (some .int) [(0, 9, 12, 19), (0, 9, 15, 13)] ∈ lw_tbl := pk_t8 _ (List.mem_of_getElem? (i := 200) rfl)
set_option maxRecDepth 100000 in
theorem gw1555 : Cond.methodLink RL 188 yL_add ∈ lw_tbl := pk_t8 _ (List.mem_of_getElem? (i := 198) rfl)
set_option maxRecDepth 100000 in
theorem gw1556 : Cond.static yL_add ∈ lw_tbl := pk_t8 _ (List.mem_of_getElem? (i := 199) rfl)
set_option maxRecDepth 100000 in
theorem gw1557 : Cond.code yX12_add cX12_add 3 (some .int) ∈ lw_tbl := pk_t8 _ (List.mem_of_getElem? (i := 204) rfl)
set_option maxRecDepth 100000 in
theorem gw1558 : Cond.methodLink RL 76 yX12_add ∈ lw_tbl := pk_t8 _ (List.mem_of_getElem? (i := 201) rfl)
set_option maxRecDepth 100000 in
theorem gw1559 : Cond.instanceMethod yX12_add ∈ lw_tbl := pk_t8 _ (List.mem_of_getElem? (i := 202) rfl)
set_option maxRecDepth 100000 in
theorem gw1560 : Cond.selects RX12 yX12_add yX12_add ∈ lw_tbl := pk_t8 _ (List.mem_of_getElem? (i := 203) rfl)
set_option maxRecDepth 100000 in
theorem gw1561 : Cond.code yX13_add cX13_add 4 (some .int) ∈ lw_tbl := pk_t14 _ (List.mem_of_getElem? (i := 178) rfl)
set_option maxRecDepth 100000 in
theorem gw1562 : Cond.methodLink RL 190 yX13_add ∈ lw_tbl := pk_t14 _ (List.mem_of_getElem? (i := 175) rfl)
set_option maxRecDepth 100000 in
theorem gw1563 : Cond.instanceMethod yX13_add ∈ lw_tbl := pk_t14 _ (List.mem_of_getElem? (i := 176) rfl)
set_option maxRecDepth 100000 in
theorem gw1564 : Cond.selects RX13 yX13_add yX13_add ∈ lw_tbl := pk_t14 _ (List.mem_of_getElem? (i := 177) rfl)
set_option maxRecDepth 100000 in
theorem gw1565 : Cond.codeWith yL_ask cL_ask 4 (some .int) [(0, 9, 12, 19)] ∈ lw_tbl := pk_t8 _ (List.mem_of_getElem? (i := 228) rfl)
set_option maxRecDepth 100000 in
theorem gw1566 : Cond.methodLink RL 191 yL_ask ∈ lw_tbl := pk_t8 _ (List.mem_of_getElem? (i := 226) rfl)
set_option maxRecDepth 100000 in
theorem gw1567 : Cond.static yL_ask ∈ lw_tbl := pk_t8 _ (List.mem_of_getElem? (i := 227) rfl)
set_option maxRecDepth 100000 in
theorem gw1568 : Cond.code yX12_ask cX12_ask 4 (some .int) ∈ lw_tbl := pk_t8 _ (List.mem_of_getElem? (i := 232) rfl)
set_option maxRecDepth 100000 in
theorem gw1569 : Cond.methodLink RL 79 yX12_ask ∈ lw_tbl := pk_t8 _ (List.mem_of_getElem? (i := 229) rfl)
set_option maxRecDepth 100000 in
theorem gw1570 : Cond.instanceMethod yX12_ask ∈ lw_tbl := pk_t8 _ (List.mem_of_getElem? (i := 230) rfl)
set_option maxRecDepth 100000 in
theorem gw1571 : Cond.selects RX12 yX12_ask yX12_ask ∈ lw_tbl := pk_t8 _ (List.mem_of_getElem? (i := 231) rfl)
set_option maxRecDepth 100000 in
theorem gw1572 : Cond.code yX13_ask cX13_ask 7 (some .int) ∈ lw_tbl := pk_t14 _ (List.mem_of_getElem? (i := 182) rfl)
set_option maxRecDepth 100000 in
theorem gw1573 : Cond.methodLink RL 193 yX13_ask ∈ lw_tbl := pk_t14 _ (List.mem_of_getElem? (i := 179) rfl)
set_option maxRecDepth 100000 in
theorem gw1574 : Cond.instanceMethod yX13_ask ∈ lw_tbl := pk_t14 _ (List.mem_of_getElem? (i := 180) rfl)
set_option maxRecDepth 100000 in
theorem gw1575 : Cond.selects RX13 yX13_ask yX13_ask ∈ lw_tbl := pk_t14 _ (List.mem_of_getElem? (i := 181) rfl)
set_option maxRecDepth 100000 in
theorem gw1576 : Cond.codeWith yL_hit cL_hit 5 (some .int) [(0, 10, 13, 19)] ∈ lw_tbl := pk_t9 _ (List.mem_of_getElem? (i := 21) rfl)
set_option maxRecDepth 100000 in
theorem gw1577 : Cond.methodLink RL 194 yL_hit ∈ lw_tbl := pk_t9 _ (List.mem_of_getElem? (i := 19) rfl)
set_option maxRecDepth 100000 in
theorem gw1578 : Cond.static yL_hit ∈ lw_tbl := pk_t9 _ (List.mem_of_getElem? (i := 20) rfl)
set_option maxRecDepth 100000 in
theorem gw1579 : Cond.code yX12_hit cX12_hit 3 (some .int) ∈ lw_tbl := pk_t9 _ (List.mem_of_getElem? (i := 25) rfl)
set_option maxRecDepth 100000 in
theorem gw1580 : Cond.methodLink RL 82 yX12_hit ∈ lw_tbl := pk_t9 _ (List.mem_of_getElem? (i := 22) rfl)
set_option maxRecDepth 100000 in
theorem gw1581 : Cond.instanceMethod yX12_hit ∈ lw_tbl := pk_t9 _ (List.mem_of_getElem? (i := 23) rfl)
set_option maxRecDepth 100000 in
theorem gw1582 : Cond.selects RX12 yX12_hit yX12_hit ∈ lw_tbl := pk_t9 _ (List.mem_of_getElem? (i := 24) rfl)
set_option maxRecDepth 100000 in
theorem gw1583 : Cond.code yX13_hit cX13_hit 3 (some .int) ∈ lw_tbl := pk_t14 _ (List.mem_of_getElem? (i := 190) rfl)
set_option maxRecDepth 100000 in
theorem gw1584 : Cond.methodLink RL 196 yX13_hit ∈ lw_tbl := pk_t14 _ (List.mem_of_getElem? (i := 187) rfl)
set_option maxRecDepth 100000 in
theorem gw1585 : Cond.instanceMethod yX13_hit ∈ lw_tbl := pk_t14 _ (List.mem_of_getElem? (i := 188) rfl)
set_option maxRecDepth 100000 in
theorem gw1586 : Cond.selects RX13 yX13_hit yX13_hit ∈ lw_tbl := pk_t14 _ (List.mem_of_getElem? (i := 189) rfl)
set_option maxRecDepth 100000 in
theorem gw1587 : Cond.codeWith yL_mend cL_mend 5 (some .int) [(0, 10, 13, 19)] ∈ lw_tbl := pk_t9 _ (List.mem_of_getElem? (i := 32) rfl)
set_option maxRecDepth 100000 in
theorem gw1588 : Cond.methodLink RL 197 yL_mend ∈ lw_tbl := pk_t9 _ (List.mem_of_getElem? (i := 30) rfl)
set_option maxRecDepth 100000 in
theorem gw1589 : Cond.static yL_mend ∈ lw_tbl := pk_t9 _ (List.mem_of_getElem? (i := 31) rfl)
set_option maxRecDepth 100000 in
theorem gw1590 : Cond.code yX12_mend cX12_mend 10 (some .int) ∈ lw_tbl := pk_t9 _ (List.mem_of_getElem? (i := 36) rfl)
set_option maxRecDepth 100000 in
theorem gw1591 : Cond.methodLink RL 85 yX12_mend ∈ lw_tbl := pk_t9 _ (List.mem_of_getElem? (i := 33) rfl)
set_option maxRecDepth 100000 in
theorem gw1592 : Cond.instanceMethod yX12_mend ∈ lw_tbl := pk_t9 _ (List.mem_of_getElem? (i := 34) rfl)
set_option maxRecDepth 100000 in
theorem gw1593 : Cond.selects RX12 yX12_mend yX12_mend ∈ lw_tbl := pk_t9 _ (List.mem_of_getElem? (i := 35) rfl)
set_option maxRecDepth 100000 in
theorem gw1594 : Cond.code yX13_mend cX13_mend 4 (some .int) ∈ lw_tbl := pk_t14 _ (List.mem_of_getElem? (i := 194) rfl)
set_option maxRecDepth 100000 in
theorem gw1595 : Cond.methodLink RL 199 yX13_mend ∈ lw_tbl := pk_t14 _ (List.mem_of_getElem? (i := 191) rfl)
set_option maxRecDepth 100000 in
theorem gw1596 : Cond.instanceMethod yX13_mend ∈ lw_tbl := pk_t14 _ (List.mem_of_getElem? (i := 192) rfl)
set_option maxRecDepth 100000 in
theorem gw1597 : Cond.selects RX13 yX13_mend yX13_mend ∈ lw_tbl := pk_t14 _ (List.mem_of_getElem? (i := 193) rfl)
set_option maxRecDepth 100000 in
theorem gw1598 : Cond.codeWith yL_count cL_count 5 (some .int) [(0, 10, 13, 19)] ∈ lw_tbl := pk_t9 _ (List.mem_of_getElem? (i := 66) rfl)
set_option maxRecDepth 100000 in
theorem gw1599 : Cond.methodLink RL 200 yL_count ∈ lw_tbl := pk_t9 _ (List.mem_of_getElem? (i := 64) rfl)
set_option maxRecDepth 100000 in
theorem gw1600 : Cond.static yL_count ∈ lw_tbl := pk_t9 _ (List.mem_of_getElem? (i := 65) rfl)
set_option maxRecDepth 100000 in
theorem gw1601 : Cond.code yX12_count cX12_count 3 (some .int) ∈ lw_tbl := pk_t9 _ (List.mem_of_getElem? (i := 70) rfl)
set_option maxRecDepth 100000 in
theorem gw1602 : Cond.methodLink RL 88 yX12_count ∈ lw_tbl := pk_t9 _ (List.mem_of_getElem? (i := 67) rfl)
set_option maxRecDepth 100000 in
theorem gw1603 : Cond.instanceMethod yX12_count ∈ lw_tbl := pk_t9 _ (List.mem_of_getElem? (i := 68) rfl)
set_option maxRecDepth 100000 in
theorem gw1604 : Cond.selects RX12 yX12_count yX12_count ∈ lw_tbl := pk_t9 _ (List.mem_of_getElem? (i := 69) rfl)
set_option maxRecDepth 100000 in
theorem gw1605 : Cond.code yX13_count cX13_count 3 (some .int) ∈ lw_tbl := pk_t15 _ (List.mem_of_getElem? (i := 34) rfl)
set_option maxRecDepth 100000 in
theorem gw1606 : Cond.methodLink RL 202 yX13_count ∈ lw_tbl := pk_t15 _ (List.mem_of_getElem? (i := 31) rfl)
set_option maxRecDepth 100000 in
theorem gw1607 : Cond.instanceMethod yX13_count ∈ lw_tbl := pk_t15 _ (List.mem_of_getElem? (i := 32) rfl)
set_option maxRecDepth 100000 in
theorem gw1608 : Cond.selects RX13 yX13_count yX13_count ∈ lw_tbl := pk_t15 _ (List.mem_of_getElem? (i := 33) rfl)
set_option maxRecDepth 100000 in
theorem gw1609 : Cond.fieldLink RJ0 1053 "jdk/internal/util/Preconditions" "SIOOBE_FORMATTER" "Ljava/util/function/BiFunction;" ∈ lw_tbl := pk_t9 _ (List.mem_of_getElem? (i := 119) rfl)
set_option maxRecDepth 100000 in
theorem gw1610 : Cond.code yJ3_checkIndex_8e157 cJ3_checkIndex_8e157 3 (some .int) ∈ lw_tbl := pk_t9 _ (List.mem_of_getElem? (i := 123) rfl)
set_option maxRecDepth 100000 in
theorem gw1611 : Cond.methodLink RJ0 1059 yJ3_checkIndex_8e157 ∈ lw_tbl := pk_t9 _ (List.mem_of_getElem? (i := 121) rfl)
set_option maxRecDepth 100000 in
theorem gw1612 : Cond.static yJ3_checkIndex_8e157 ∈ lw_tbl := pk_t9 _ (List.mem_of_getElem? (i := 122) rfl)
set_option maxRecDepth 100000 in
theorem gw1613 : Cond.initialized RJ3 ∈ lw_tbl := pk_t1 _ (List.mem_of_getElem? (i := 14) rfl)
set_option maxRecDepth 100000 in
theorem gw1614 : Cond.code yJ0_checkIndex_df160 cJ0_checkIndex_df160 2 none ∈ lw_tbl := pk_t9 _ (List.mem_of_getElem? (i := 118) rfl)
set_option maxRecDepth 100000 in
theorem gw1615 : Cond.methodLink RJ1 9 yJ0_checkIndex_df160 ∈ lw_tbl := pk_t9 _ (List.mem_of_getElem? (i := 116) rfl)
set_option maxRecDepth 100000 in
theorem gw1616 : Cond.static yJ0_checkIndex_df160 ∈ lw_tbl := pk_t9 _ (List.mem_of_getElem? (i := 117) rfl)
set_option maxRecDepth 100000 in
theorem gw1617 : Cond.code yJ1_charAt_3b067 cJ1_charAt_3b067 2 (some .char) ∈ lw_tbl := pk_t9 _ (List.mem_of_getElem? (i := 115) rfl)
set_option maxRecDepth 100000 in
theorem gw1618 : Cond.methodLink RJ0 495 yJ1_charAt_3b067 ∈ lw_tbl := pk_t9 _ (List.mem_of_getElem? (i := 113) rfl)
set_option maxRecDepth 100000 in
theorem gw1619 : Cond.static yJ1_charAt_3b067 ∈ lw_tbl := pk_t9 _ (List.mem_of_getElem? (i := 114) rfl)
set_option maxRecDepth 100000 in
theorem gw1620 : Cond.methodLink RX13 627 yJ0_length_8abf5 ∈ lw_tbl := pk_t9 _ (List.mem_of_getElem? (i := 95) rfl)
set_option maxRecDepth 100000 in
theorem gw1621 : Cond.code yJ0_charAt_5068e cJ0_charAt_5068e 2 (some .char) ∈ lw_tbl := pk_t9 _ (List.mem_of_getElem? (i := 108) rfl)
set_option maxRecDepth 100000 in
theorem gw1622 : Cond.methodLink RX13 630 yJ0_charAt_5068e ∈ lw_tbl := pk_t9 _ (List.mem_of_getElem? (i := 105) rfl)
set_option maxRecDepth 100000 in
theorem gw1623 : Cond.instanceMethod yJ0_charAt_5068e ∈ lw_tbl := pk_t9 _ (List.mem_of_getElem? (i := 106) rfl)
set_option maxRecDepth 100000 in
theorem gw1624 : Cond.selects RJ0 yJ0_charAt_5068e yJ0_charAt_5068e ∈ lw_tbl := pk_t9 _ (List.mem_of_getElem? (i := 107) rfl)
set_option maxRecDepth 100000 in
theorem gw1625 : Cond.methodLink RX13 9 objectInit ∈ lw_tbl := pk_t9 _ (List.mem_of_getElem? (i := 88) rfl)
set_option maxRecDepth 100000 in
theorem gw1626 : Cond.arrayClass .boolean ∈ lw_tbl := pk_t2 _ (List.mem_of_getElem? (i := 209) rfl)
set_option maxRecDepth 100000 in
theorem gw1627 : Cond.fieldLink RX13 15 "TongueHouseModel" "current" "I" ∈ lw_tbl := pk_t9 _ (List.mem_of_getElem? (i := 177) rfl)
set_option maxRecDepth 100000 in
theorem gw1628 : Cond.fieldLink RX13 18 "TongueHouseModel" "tongueName" "[J" ∈ lw_tbl := pk_t9 _ (List.mem_of_getElem? (i := 178) rfl)
set_option maxRecDepth 100000 in
theorem gw1629 : Cond.fieldLink RX13 22 "TongueHouseModel" "kindName" "[J" ∈ lw_tbl := pk_t9 _ (List.mem_of_getElem? (i := 179) rfl)
set_option maxRecDepth 100000 in
theorem gw1630 : Cond.fieldLink RX13 25 "TongueHouseModel" "funName" "[J" ∈ lw_tbl := pk_t9 _ (List.mem_of_getElem? (i := 180) rfl)
set_option maxRecDepth 100000 in
theorem gw1631 : Cond.fieldLink RX13 28 "TongueHouseModel" "thingName" "[J" ∈ lw_tbl := pk_t9 _ (List.mem_of_getElem? (i := 181) rfl)
set_option maxRecDepth 100000 in
theorem gw1632 : Cond.fieldLink RX13 31 "TongueHouseModel" "factName" "[J" ∈ lw_tbl := pk_t9 _ (List.mem_of_getElem? (i := 182) rfl)
set_option maxRecDepth 100000 in
theorem gw1633 : Cond.fieldLink RX13 34 "TongueHouseModel" "funArgs" "[I" ∈ lw_tbl := pk_t9 _ (List.mem_of_getElem? (i := 183) rfl)
set_option maxRecDepth 100000 in
theorem gw1634 : Cond.fieldLink RX13 38 "TongueHouseModel" "funArg" "[I" ∈ lw_tbl := pk_t9 _ (List.mem_of_getElem? (i := 184) rfl)
set_option maxRecDepth 100000 in
theorem gw1635 : Cond.fieldLink RX13 41 "TongueHouseModel" "funKind" "[I" ∈ lw_tbl := pk_t9 _ (List.mem_of_getElem? (i := 185) rfl)
set_option maxRecDepth 100000 in
theorem gw1636 : Cond.fieldLink RX13 44 "TongueHouseModel" "funPrice" "[I" ∈ lw_tbl := pk_t9 _ (List.mem_of_getElem? (i := 186) rfl)
set_option maxRecDepth 100000 in
theorem gw1637 : Cond.fieldLink RX13 47 "TongueHouseModel" "funMean" "[I" ∈ lw_tbl := pk_t9 _ (List.mem_of_getElem? (i := 187) rfl)
set_option maxRecDepth 100000 in
theorem gw1638 : Cond.fieldLink RX13 50 "TongueHouseModel" "factA" "[I" ∈ lw_tbl := pk_t9 _ (List.mem_of_getElem? (i := 188) rfl)
set_option maxRecDepth 100000 in
theorem gw1639 : Cond.fieldLink RX13 53 "TongueHouseModel" "factB" "[I" ∈ lw_tbl := pk_t9 _ (List.mem_of_getElem? (i := 189) rfl)
set_option maxRecDepth 100000 in
theorem gw1640 : Cond.fieldLink RX13 56 "TongueHouseModel" "features" "[I" ∈ lw_tbl := pk_t9 _ (List.mem_of_getElem? (i := 190) rfl)
set_option maxRecDepth 100000 in
theorem gw1641 : Cond.fieldLink RX13 59 "TongueHouseModel" "values" "[I" ∈ lw_tbl := pk_t9 _ (List.mem_of_getElem? (i := 191) rfl)
set_option maxRecDepth 100000 in
theorem gw1642 : Cond.fieldLink RX13 62 "TongueHouseModel" "classes" "[I" ∈ lw_tbl := pk_t9 _ (List.mem_of_getElem? (i := 192) rfl)
set_option maxRecDepth 100000 in
theorem gw1643 : Cond.fieldLink RX13 65 "TongueHouseModel" "sounds" "[I" ∈ lw_tbl := pk_t9 _ (List.mem_of_getElem? (i := 193) rfl)
set_option maxRecDepth 100000 in
theorem gw1644 : Cond.fieldLink RX13 68 "TongueHouseModel" "patterns" "[I" ∈ lw_tbl := pk_t9 _ (List.mem_of_getElem? (i := 194) rfl)
set_option maxRecDepth 100000 in
theorem gw1645 : Cond.fieldLink RX13 71 "TongueHouseModel" "words" "[I" ∈ lw_tbl := pk_t9 _ (List.mem_of_getElem? (i := 195) rfl)
set_option maxRecDepth 100000 in
theorem gw1646 : Cond.fieldLink RX13 74 "TongueHouseModel" "lins" "[I" ∈ lw_tbl := pk_t9 _ (List.mem_of_getElem? (i := 196) rfl)
set_option maxRecDepth 100000 in
theorem gw1647 : Cond.fieldLink RX13 77 "TongueHouseModel" "featureName" "[J" ∈ lw_tbl := pk_t9 _ (List.mem_of_getElem? (i := 197) rfl)
set_option maxRecDepth 100000 in
theorem gw1648 : Cond.fieldLink RX13 80 "TongueHouseModel" "valueName" "[J" ∈ lw_tbl := pk_t9 _ (List.mem_of_getElem? (i := 198) rfl)
set_option maxRecDepth 100000 in
theorem gw1649 : Cond.fieldLink RX13 83 "TongueHouseModel" "className" "[J" ∈ lw_tbl := pk_t9 _ (List.mem_of_getElem? (i := 199) rfl)
set_option maxRecDepth 100000 in
theorem gw1650 : Cond.fieldLink RX13 86 "TongueHouseModel" "patternName" "[J" ∈ lw_tbl := pk_t9 _ (List.mem_of_getElem? (i := 200) rfl)
set_option maxRecDepth 100000 in
theorem gw1651 : Cond.fieldLink RX13 89 "TongueHouseModel" "valueFeature" "[I" ∈ lw_tbl := pk_t9 _ (List.mem_of_getElem? (i := 201) rfl)
set_option maxRecDepth 100000 in
theorem gw1652 : Cond.fieldLink RX13 92 "TongueHouseModel" "valueNumber" "[I" ∈ lw_tbl := pk_t9 _ (List.mem_of_getElem? (i := 202) rfl)
set_option maxRecDepth 100000 in
theorem gw1653 : Cond.fieldLink RX13 95 "TongueHouseModel" "classLetters" "[I" ∈ lw_tbl := pk_t9 _ (List.mem_of_getElem? (i := 203) rfl)
set_option maxRecDepth 100000 in
theorem gw1654 : Cond.fieldLink RX13 98 "TongueHouseModel" "soundFrom" "[I" ∈ lw_tbl := pk_t9 _ (List.mem_of_getElem? (i := 204) rfl)
set_option maxRecDepth 100000 in
theorem gw1655 : Cond.fieldLink RX13 101 "TongueHouseModel" "soundTo" "[I" ∈ lw_tbl := pk_t9 _ (List.mem_of_getElem? (i := 205) rfl)
set_option maxRecDepth 100000 in
theorem gw1656 : Cond.fieldLink RX13 104 "TongueHouseModel" "soundLeft" "[I" ∈ lw_tbl := pk_t9 _ (List.mem_of_getElem? (i := 206) rfl)
set_option maxRecDepth 100000 in
theorem gw1657 : Cond.fieldLink RX13 107 "TongueHouseModel" "soundRight" "[I" ∈ lw_tbl := pk_t9 _ (List.mem_of_getElem? (i := 207) rfl)
set_option maxRecDepth 100000 in
theorem gw1658 : Cond.fieldLink RX13 110 "TongueHouseModel" "cells" "[I" ∈ lw_tbl := pk_t9 _ (List.mem_of_getElem? (i := 208) rfl)
set_option maxRecDepth 100000 in
theorem gw1659 : Cond.fieldLink RX13 113 "TongueHouseModel" "cellValues" "[I" ∈ lw_tbl := pk_t9 _ (List.mem_of_getElem? (i := 209) rfl)
set_option maxRecDepth 100000 in
theorem gw1660 : Cond.fieldLink RX13 116 "TongueHouseModel" "cellParts" "[I" ∈ lw_tbl := pk_t9 _ (List.mem_of_getElem? (i := 210) rfl)
set_option maxRecDepth 100000 in
theorem gw1661 : Cond.fieldLink RX13 119 "TongueHouseModel" "cellMany" "[I" ∈ lw_tbl := pk_t9 _ (List.mem_of_getElem? (i := 211) rfl)
set_option maxRecDepth 100000 in
theorem gw1662 : Cond.fieldLink RX13 123 "TongueHouseModel" "part" "[I" ∈ lw_tbl := pk_t9 _ (List.mem_of_getElem? (i := 212) rfl)
set_option maxRecDepth 100000 in
theorem gw1663 : Cond.fieldLink RX13 126 "TongueHouseModel" "wordFun" "[I" ∈ lw_tbl := pk_t9 _ (List.mem_of_getElem? (i := 214) rfl)
set_option maxRecDepth 100000 in
theorem gw1664 : Cond.fieldLink RX13 129 "TongueHouseModel" "wordPattern" "[I" ∈ lw_tbl := pk_t9 _ (List.mem_of_getElem? (i := 215) rfl)
set_option maxRecDepth 100000 in
theorem gw1665 : Cond.fieldLink RX13 132 "TongueHouseModel" "wordStem" "[I" ∈ lw_tbl := pk_t9 _ (List.mem_of_getElem? (i := 216) rfl)
set_option maxRecDepth 100000 in
theorem gw1666 : Cond.fieldLink RX13 135 "TongueHouseModel" "wordValues" "[I" ∈ lw_tbl := pk_t9 _ (List.mem_of_getElem? (i := 217) rfl)
set_option maxRecDepth 100000 in
theorem gw1667 : Cond.fieldLink RX13 138 "TongueHouseModel" "wordPrice" "[I" ∈ lw_tbl := pk_t9 _ (List.mem_of_getElem? (i := 218) rfl)
set_option maxRecDepth 100000 in
theorem gw1668 : Cond.fieldLink RX13 141 "TongueHouseModel" "linFun" "[I" ∈ lw_tbl := pk_t9 _ (List.mem_of_getElem? (i := 219) rfl)
set_option maxRecDepth 100000 in
theorem gw1669 : Cond.fieldLink RX13 144 "TongueHouseModel" "linItems" "[I" ∈ lw_tbl := pk_t9 _ (List.mem_of_getElem? (i := 220) rfl)
set_option maxRecDepth 100000 in
theorem gw1670 : Cond.fieldLink RX13 147 "TongueHouseModel" "linItem" "[I" ∈ lw_tbl := pk_t9 _ (List.mem_of_getElem? (i := 221) rfl)
set_option maxRecDepth 100000 in
theorem gw1671 : Cond.fieldLink RX13 150 "TongueHouseModel" "linAsked" "[I" ∈ lw_tbl := pk_t9 _ (List.mem_of_getElem? (i := 222) rfl)
set_option maxRecDepth 100000 in
theorem gw1672 : Cond.fieldLink RX13 153 "TongueHouseModel" "linSaid" "[I" ∈ lw_tbl := pk_t9 _ (List.mem_of_getElem? (i := 223) rfl)
set_option maxRecDepth 100000 in
theorem gw1673 : Cond.fieldLink RX13 156 "TongueHouseModel" "linHow" "[I" ∈ lw_tbl := pk_t9 _ (List.mem_of_getElem? (i := 224) rfl)
set_option maxRecDepth 100000 in
theorem gw1674 : Cond.fieldLink RX13 159 "TongueHouseModel" "linA" "[I" ∈ lw_tbl := pk_t9 _ (List.mem_of_getElem? (i := 225) rfl)
set_option maxRecDepth 100000 in
theorem gw1675 : Cond.fieldLink RX13 162 "TongueHouseModel" "linB" "[I" ∈ lw_tbl := pk_t9 _ (List.mem_of_getElem? (i := 226) rfl)
set_option maxRecDepth 100000 in
theorem gw1676 : Cond.fieldLink RX13 165 "TongueHouseModel" "linF" "[I" ∈ lw_tbl := pk_t9 _ (List.mem_of_getElem? (i := 227) rfl)
set_option maxRecDepth 100000 in
theorem gw1677 : Cond.fieldLink RX13 168 "TongueHouseModel" "linPrice" "[I" ∈ lw_tbl := pk_t9 _ (List.mem_of_getElem? (i := 228) rfl)
set_option maxRecDepth 100000 in
theorem gw1678 : Cond.fieldLink RX13 172 "TongueHouseModel" "letter" "[B" ∈ lw_tbl := pk_t9 _ (List.mem_of_getElem? (i := 229) rfl)
set_option maxRecDepth 100000 in
theorem gw1679 : Cond.fieldLink RX13 176 "TongueHouseModel" "termKind" "[I" ∈ lw_tbl := pk_t9 _ (List.mem_of_getElem? (i := 231) rfl)
set_option maxRecDepth 100000 in
theorem gw1680 : Cond.fieldLink RX13 179 "TongueHouseModel" "termA" "[I" ∈ lw_tbl := pk_t9 _ (List.mem_of_getElem? (i := 232) rfl)
set_option maxRecDepth 100000 in
theorem gw1681 : Cond.fieldLink RX13 182 "TongueHouseModel" "termB" "[I" ∈ lw_tbl := pk_t9 _ (List.mem_of_getElem? (i := 233) rfl)
set_option maxRecDepth 100000 in
theorem gw1682 : Cond.fieldLink RX13 185 "TongueHouseModel" "termName" "[J" ∈ lw_tbl := pk_t9 _ (List.mem_of_getElem? (i := 234) rfl)
set_option maxRecDepth 100000 in
theorem gw1683 : Cond.fieldLink RX13 188 "TongueHouseModel" "tape" "[B" ∈ lw_tbl := pk_t9 _ (List.mem_of_getElem? (i := 236) rfl)
set_option maxRecDepth 100000 in
theorem gw1684 : Cond.fieldLink RX13 191 "TongueHouseModel" "text" "[B" ∈ lw_tbl := pk_t9 _ (List.mem_of_getElem? (i := 237) rfl)
set_option maxRecDepth 100000 in
theorem gw1685 : Cond.fieldLink RX13 194 "TongueHouseModel" "out" "[B" ∈ lw_tbl := pk_t9 _ (List.mem_of_getElem? (i := 238) rfl)
set_option maxRecDepth 100000 in
theorem gw1686 : Cond.fieldLink RX13 203 "TongueHouseModel" "W_TONGUE" "J" ∈ lw_tbl := pk_t10 _ (List.mem_of_getElem? (i := 11) rfl)
set_option maxRecDepth 100000 in
theorem gw1687 : Cond.fieldLink RX13 209 "TongueHouseModel" "W_KIND" "J" ∈ lw_tbl := pk_t10 _ (List.mem_of_getElem? (i := 12) rfl)
set_option maxRecDepth 100000 in
theorem gw1688 : Cond.fieldLink RX13 214 "TongueHouseModel" "W_FUN" "J" ∈ lw_tbl := pk_t10 _ (List.mem_of_getElem? (i := 13) rfl)
set_option maxRecDepth 100000 in
theorem gw1689 : Cond.fieldLink RX13 219 "TongueHouseModel" "W_FEATURE" "J" ∈ lw_tbl := pk_t10 _ (List.mem_of_getElem? (i := 14) rfl)
set_option maxRecDepth 100000 in
theorem gw1690 : Cond.fieldLink RX13 224 "TongueHouseModel" "W_LETTERS" "J" ∈ lw_tbl := pk_t10 _ (List.mem_of_getElem? (i := 15) rfl)
set_option maxRecDepth 100000 in
theorem gw1691 : Cond.fieldLink RX13 229 "TongueHouseModel" "W_SOUND" "J" ∈ lw_tbl := pk_t10 _ (List.mem_of_getElem? (i := 16) rfl)
set_option maxRecDepth 100000 in
theorem gw1692 : Cond.fieldLink RX13 234 "TongueHouseModel" "W_PATTERN" "J" ∈ lw_tbl := pk_t10 _ (List.mem_of_getElem? (i := 17) rfl)
set_option maxRecDepth 100000 in
theorem gw1693 : Cond.fieldLink RX13 238 "TongueHouseModel" "W_WORD" "J" ∈ lw_tbl := pk_t10 _ (List.mem_of_getElem? (i := 18) rfl)
set_option maxRecDepth 100000 in
theorem gw1694 : Cond.fieldLink RX13 243 "TongueHouseModel" "W_LIN" "J" ∈ lw_tbl := pk_t10 _ (List.mem_of_getElem? (i := 19) rfl)
set_option maxRecDepth 100000 in
theorem gw1695 : Cond.fieldLink RX13 248 "TongueHouseModel" "W_MEAN" "J" ∈ lw_tbl := pk_t10 _ (List.mem_of_getElem? (i := 20) rfl)
set_option maxRecDepth 100000 in
theorem gw1696 : Cond.fieldLink RX13 253 "TongueHouseModel" "W_THING" "J" ∈ lw_tbl := pk_t10 _ (List.mem_of_getElem? (i := 21) rfl)
set_option maxRecDepth 100000 in
theorem gw1697 : Cond.fieldLink RX13 258 "TongueHouseModel" "W_FACT" "J" ∈ lw_tbl := pk_t10 _ (List.mem_of_getElem? (i := 22) rfl)
set_option maxRecDepth 100000 in
theorem gw1698 : Cond.fieldLink RX13 263 "TongueHouseModel" "W_COST" "J" ∈ lw_tbl := pk_t10 _ (List.mem_of_getElem? (i := 23) rfl)
set_option maxRecDepth 100000 in
theorem gw1699 : Cond.fieldLink RX13 268 "TongueHouseModel" "W_HAS" "J" ∈ lw_tbl := pk_t10 _ (List.mem_of_getElem? (i := 24) rfl)
set_option maxRecDepth 100000 in
theorem gw1700 : Cond.fieldLink RX13 273 "TongueHouseModel" "W_OF" "J" ∈ lw_tbl := pk_t10 _ (List.mem_of_getElem? (i := 25) rfl)
set_option maxRecDepth 100000 in
theorem gw1701 : Cond.fieldLink RX13 278 "TongueHouseModel" "W_AGREE" "J" ∈ lw_tbl := pk_t10 _ (List.mem_of_getElem? (i := 26) rfl)
set_option maxRecDepth 100000 in
theorem gw1702 : Cond.fieldLink RX13 283 "TongueHouseModel" "W_GIVE" "J" ∈ lw_tbl := pk_t10 _ (List.mem_of_getElem? (i := 27) rfl)
set_option maxRecDepth 100000 in
theorem gw1703 : Cond.fieldLink RX13 286 "TongueHouseModel" "had" "[I" ∈ lw_tbl := pk_t10 _ (List.mem_of_getElem? (i := 28) rfl)
set_option maxRecDepth 100000 in
theorem gw1704 : Cond.fieldLink RX13 289 "TongueHouseModel" "meant" "[I" ∈ lw_tbl := pk_t10 _ (List.mem_of_getElem? (i := 29) rfl)
set_option maxRecDepth 100000 in
theorem gw1705 : Cond.fieldLink RX13 292 "TongueHouseModel" "four" "[I" ∈ lw_tbl := pk_t10 _ (List.mem_of_getElem? (i := 33) rfl)
set_option maxRecDepth 100000 in
theorem gw1706 : Cond.fieldLink RX13 295 "TongueHouseModel" "six" "[J" ∈ lw_tbl := pk_t10 _ (List.mem_of_getElem? (i := 34) rfl)
set_option maxRecDepth 100000 in
theorem gw1707 : Cond.fieldLink RX13 298 "TongueHouseModel" "sides" "[I" ∈ lw_tbl := pk_t10 _ (List.mem_of_getElem? (i := 36) rfl)
set_option maxRecDepth 100000 in
theorem gw1708 : Cond.fieldLink RX13 301 "TongueHouseModel" "newValues" "[I" ∈ lw_tbl := pk_t10 _ (List.mem_of_getElem? (i := 38) rfl)
set_option maxRecDepth 100000 in
theorem gw1709 : Cond.fieldLink RX13 304 "TongueHouseModel" "newParts" "[I" ∈ lw_tbl := pk_t10 _ (List.mem_of_getElem? (i := 39) rfl)
set_option maxRecDepth 100000 in
theorem gw1710 : Cond.fieldLink RX13 307 "TongueHouseModel" "newMany" "[I" ∈ lw_tbl := pk_t10 _ (List.mem_of_getElem? (i := 40) rfl)
set_option maxRecDepth 100000 in
theorem gw1711 : Cond.fieldLink RX13 310 "TongueHouseModel" "stems" "[I" ∈ lw_tbl := pk_t10 _ (List.mem_of_getElem? (i := 41) rfl)
set_option maxRecDepth 100000 in
theorem gw1712 : Cond.fieldLink RX13 313 "TongueHouseModel" "itemIs" "[I" ∈ lw_tbl := pk_t10 _ (List.mem_of_getElem? (i := 42) rfl)
set_option maxRecDepth 100000 in
theorem gw1713 : Cond.fieldLink RX13 316 "TongueHouseModel" "itemAsks" "[I" ∈ lw_tbl := pk_t10 _ (List.mem_of_getElem? (i := 43) rfl)
set_option maxRecDepth 100000 in
theorem gw1714 : Cond.fieldLink RX13 319 "TongueHouseModel" "saidHow" "[I" ∈ lw_tbl := pk_t10 _ (List.mem_of_getElem? (i := 44) rfl)
set_option maxRecDepth 100000 in
theorem gw1715 : Cond.fieldLink RX13 322 "TongueHouseModel" "saidA" "[I" ∈ lw_tbl := pk_t10 _ (List.mem_of_getElem? (i := 45) rfl)
set_option maxRecDepth 100000 in
theorem gw1716 : Cond.fieldLink RX13 325 "TongueHouseModel" "saidB" "[I" ∈ lw_tbl := pk_t10 _ (List.mem_of_getElem? (i := 46) rfl)
set_option maxRecDepth 100000 in
theorem gw1717 : Cond.fieldLink RX13 328 "TongueHouseModel" "saidF" "[I" ∈ lw_tbl := pk_t10 _ (List.mem_of_getElem? (i := 47) rfl)
set_option maxRecDepth 100000 in
theorem gw1718 : Cond.fieldLink RX13 331 "TongueHouseModel" "argAt" "[I" ∈ lw_tbl := pk_t10 _ (List.mem_of_getElem? (i := 48) rfl)
set_option maxRecDepth 100000 in
theorem gw1719 : Cond.fieldLink RX13 334 "TongueHouseModel" "binder" "[J" ∈ lw_tbl := pk_t10 _ (List.mem_of_getElem? (i := 52) rfl)
set_option maxRecDepth 100000 in
theorem gw1720 : Cond.fieldLink RX13 337 "TongueHouseModel" "buf" "[B" ∈ lw_tbl := pk_t10 _ (List.mem_of_getElem? (i := 55) rfl)
set_option maxRecDepth 100000 in
theorem gw1721 : Cond.fieldLink RX13 340 "TongueHouseModel" "made" "[B" ∈ lw_tbl := pk_t10 _ (List.mem_of_getElem? (i := 56) rfl)
set_option maxRecDepth 100000 in
theorem gw1722 : Cond.fieldLink RX13 343 "TongueHouseModel" "formsOf" "I" ∈ lw_tbl := pk_t10 _ (List.mem_of_getElem? (i := 58) rfl)
set_option maxRecDepth 100000 in
theorem gw1723 : Cond.fieldLink RX13 346 "TongueHouseModel" "formsAt" "I" ∈ lw_tbl := pk_t10 _ (List.mem_of_getElem? (i := 59) rfl)
set_option maxRecDepth 100000 in
theorem gw1724 : Cond.fieldLink RX13 350 "TongueHouseModel" "formLetter" "[B" ∈ lw_tbl := pk_t10 _ (List.mem_of_getElem? (i := 60) rfl)
set_option maxRecDepth 100000 in
theorem gw1725 : Cond.fieldLink RX13 353 "TongueHouseModel" "formSize" "[I" ∈ lw_tbl := pk_t10 _ (List.mem_of_getElem? (i := 61) rfl)
set_option maxRecDepth 100000 in
theorem gw1726 : Cond.fieldLink RX13 356 "TongueHouseModel" "found" "[I" ∈ lw_tbl := pk_t10 _ (List.mem_of_getElem? (i := 62) rfl)
set_option maxRecDepth 100000 in
theorem gw1727 : Cond.fieldLink RX13 359 "TongueHouseModel" "guessP" "[I" ∈ lw_tbl := pk_t10 _ (List.mem_of_getElem? (i := 65) rfl)
set_option maxRecDepth 100000 in
theorem gw1728 : Cond.fieldLink RX13 362 "TongueHouseModel" "guessN" "[I" ∈ lw_tbl := pk_t10 _ (List.mem_of_getElem? (i := 66) rfl)
set_option maxRecDepth 100000 in
theorem gw1729 : Cond.fieldLink RX13 365 "TongueHouseModel" "said" "[B" ∈ lw_tbl := pk_t10 _ (List.mem_of_getElem? (i := 70) rfl)
set_option maxRecDepth 100000 in
theorem gw1730 : Cond.fieldLink RX13 368 "TongueHouseModel" "other" "[B" ∈ lw_tbl := pk_t10 _ (List.mem_of_getElem? (i := 71) rfl)
set_option maxRecDepth 100000 in
theorem gw1731 : Cond.fieldLink RX13 371 "TongueHouseModel" "saidN" "[I" ∈ lw_tbl := pk_t10 _ (List.mem_of_getElem? (i := 72) rfl)
set_option maxRecDepth 100000 in
theorem gw1732 : Cond.fieldLink RX13 374 "TongueHouseModel" "otherN" "[I" ∈ lw_tbl := pk_t10 _ (List.mem_of_getElem? (i := 73) rfl)
set_option maxRecDepth 100000 in
theorem gw1733 : Cond.fieldLink RX13 377 "TongueHouseModel" "nKind" "[I" ∈ lw_tbl := pk_t10 _ (List.mem_of_getElem? (i := 75) rfl)
set_option maxRecDepth 100000 in
theorem gw1734 : Cond.fieldLink RX13 380 "TongueHouseModel" "nTo" "[I" ∈ lw_tbl := pk_t10 _ (List.mem_of_getElem? (i := 76) rfl)
set_option maxRecDepth 100000 in
theorem gw1735 : Cond.fieldLink RX13 383 "TongueHouseModel" "nValues" "[I" ∈ lw_tbl := pk_t10 _ (List.mem_of_getElem? (i := 77) rfl)
set_option maxRecDepth 100000 in
theorem gw1736 : Cond.fieldLink RX13 386 "TongueHouseModel" "nNext" "[I" ∈ lw_tbl := pk_t10 _ (List.mem_of_getElem? (i := 78) rfl)
set_option maxRecDepth 100000 in
theorem gw1737 : Cond.fieldLink RX13 389 "TongueHouseModel" "nAt" "[I" ∈ lw_tbl := pk_t10 _ (List.mem_of_getElem? (i := 79) rfl)
set_option maxRecDepth 100000 in
theorem gw1738 : Cond.fieldLink RX13 392 "TongueHouseModel" "nMany" "[I" ∈ lw_tbl := pk_t10 _ (List.mem_of_getElem? (i := 80) rfl)
set_option maxRecDepth 100000 in
theorem gw1739 : Cond.fieldLink RX13 395 "TongueHouseModel" "span" "[I" ∈ lw_tbl := pk_t10 _ (List.mem_of_getElem? (i := 81) rfl)
set_option maxRecDepth 100000 in
theorem gw1740 : Cond.fieldLink RX13 398 "TongueHouseModel" "yNode" "[I" ∈ lw_tbl := pk_t10 _ (List.mem_of_getElem? (i := 82) rfl)
set_option maxRecDepth 100000 in
theorem gw1741 : Cond.fieldLink RX13 401 "TongueHouseModel" "yA" "[I" ∈ lw_tbl := pk_t10 _ (List.mem_of_getElem? (i := 83) rfl)
set_option maxRecDepth 100000 in
theorem gw1742 : Cond.fieldLink RX13 404 "TongueHouseModel" "yB" "[I" ∈ lw_tbl := pk_t10 _ (List.mem_of_getElem? (i := 84) rfl)
set_option maxRecDepth 100000 in
theorem gw1743 : Cond.fieldLink RX13 407 "TongueHouseModel" "yLin" "[I" ∈ lw_tbl := pk_t10 _ (List.mem_of_getElem? (i := 85) rfl)
set_option maxRecDepth 100000 in
theorem gw1744 : Cond.fieldLink RX13 411 "TongueHouseModel" "yArg" "[I" ∈ lw_tbl := pk_t10 _ (List.mem_of_getElem? (i := 86) rfl)
set_option maxRecDepth 100000 in
theorem gw1745 : Cond.fieldLink RX13 414 "TongueHouseModel" "yOrder" "[I" ∈ lw_tbl := pk_t10 _ (List.mem_of_getElem? (i := 87) rfl)
set_option maxRecDepth 100000 in
theorem gw1746 : Cond.fieldLink RX13 417 "TongueHouseModel" "eff" "[I" ∈ lw_tbl := pk_t10 _ (List.mem_of_getElem? (i := 93) rfl)
set_option maxRecDepth 100000 in
theorem gw1747 : Cond.fieldLink RX13 420 "TongueHouseModel" "fin" "[I" ∈ lw_tbl := pk_t10 _ (List.mem_of_getElem? (i := 94) rfl)
set_option maxRecDepth 100000 in
theorem gw1748 : Cond.fieldLink RX13 423 "TongueHouseModel" "argNode" "[I" ∈ lw_tbl := pk_t10 _ (List.mem_of_getElem? (i := 95) rfl)
set_option maxRecDepth 100000 in
theorem gw1749 : Cond.fieldLink RX13 426 "TongueHouseModel" "itemNode" "[I" ∈ lw_tbl := pk_t10 _ (List.mem_of_getElem? (i := 96) rfl)
set_option maxRecDepth 100000 in
theorem gw1750 : Cond.fieldLink RX13 429 "TongueHouseModel" "nTrees" "[J" ∈ lw_tbl := pk_t10 _ (List.mem_of_getElem? (i := 102) rfl)
set_option maxRecDepth 100000 in
theorem gw1751 : Cond.fieldLink RX13 432 "TongueHouseModel" "topN" "[I" ∈ lw_tbl := pk_t10 _ (List.mem_of_getElem? (i := 103) rfl)
set_option maxRecDepth 100000 in
theorem gw1752 : Cond.fieldLink RX13 436 "TongueHouseModel" "topPrice" "[I" ∈ lw_tbl := pk_t10 _ (List.mem_of_getElem? (i := 104) rfl)
set_option maxRecDepth 100000 in
theorem gw1753 : Cond.fieldLink RX13 439 "TongueHouseModel" "topWay" "[I" ∈ lw_tbl := pk_t10 _ (List.mem_of_getElem? (i := 105) rfl)
set_option maxRecDepth 100000 in
theorem gw1754 : Cond.fieldLink RX13 442 "TongueHouseModel" "topRanks" "[I" ∈ lw_tbl := pk_t10 _ (List.mem_of_getElem? (i := 106) rfl)
set_option maxRecDepth 100000 in
theorem gw1755 : Cond.fieldLink RX13 445 "TongueHouseModel" "barred" "[Z" ∈ lw_tbl := pk_t10 _ (List.mem_of_getElem? (i := 107) rfl)
set_option maxRecDepth 100000 in
theorem gw1756 : Cond.fieldLink RX13 449 "TongueHouseModel" "forest" "I" ∈ lw_tbl := pk_t10 _ (List.mem_of_getElem? (i := 108) rfl)
set_option maxRecDepth 100000 in
theorem gw1757 : Cond.fieldLink RX13 452 "TongueHouseModel" "readNode" "[I" ∈ lw_tbl := pk_t10 _ (List.mem_of_getElem? (i := 112) rfl)
set_option maxRecDepth 100000 in
theorem gw1758 : Cond.fieldLink RX13 455 "TongueHouseModel" "readRank" "[I" ∈ lw_tbl := pk_t10 _ (List.mem_of_getElem? (i := 113) rfl)
set_option maxRecDepth 100000 in
theorem gw1759 : Cond.fieldLink RX13 458 "TongueHouseModel" "readPrice" "[I" ∈ lw_tbl := pk_t10 _ (List.mem_of_getElem? (i := 114) rfl)
set_option maxRecDepth 100000 in
theorem gw1760 : Cond.fieldLink RX13 461 "TongueHouseModel" "tree" "[I" ∈ lw_tbl := pk_t10 _ (List.mem_of_getElem? (i := 116) rfl)
set_option maxRecDepth 100000 in
theorem gw1761 : Cond.fieldLink RX13 464 "TongueHouseModel" "placeFun" "[I" ∈ lw_tbl := pk_t10 _ (List.mem_of_getElem? (i := 118) rfl)
set_option maxRecDepth 100000 in
theorem gw1762 : Cond.fieldLink RX13 467 "TongueHouseModel" "placeN" "[I" ∈ lw_tbl := pk_t10 _ (List.mem_of_getElem? (i := 119) rfl)
set_option maxRecDepth 100000 in
theorem gw1763 : Cond.fieldLink RX13 471 "TongueHouseModel" "optText" "[B" ∈ lw_tbl := pk_t10 _ (List.mem_of_getElem? (i := 120) rfl)
set_option maxRecDepth 100000 in
theorem gw1764 : Cond.fieldLink RX13 474 "TongueHouseModel" "optSize" "[I" ∈ lw_tbl := pk_t10 _ (List.mem_of_getElem? (i := 121) rfl)
set_option maxRecDepth 100000 in
theorem gw1765 : Cond.fieldLink RX13 477 "TongueHouseModel" "optValues" "[I" ∈ lw_tbl := pk_t10 _ (List.mem_of_getElem? (i := 122) rfl)
set_option maxRecDepth 100000 in
theorem gw1766 : Cond.fieldLink RX13 480 "TongueHouseModel" "optPrice" "[I" ∈ lw_tbl := pk_t10 _ (List.mem_of_getElem? (i := 123) rfl)
set_option maxRecDepth 100000 in
theorem gw1767 : Cond.fieldLink RX13 483 "TongueHouseModel" "optOrder" "[I" ∈ lw_tbl := pk_t10 _ (List.mem_of_getElem? (i := 124) rfl)
set_option maxRecDepth 100000 in
theorem gw1768 : Cond.fieldLink RX13 486 "TongueHouseModel" "optN" "[I" ∈ lw_tbl := pk_t10 _ (List.mem_of_getElem? (i := 125) rfl)
set_option maxRecDepth 100000 in
theorem gw1769 : Cond.fieldLink RX13 489 "TongueHouseModel" "argTree" "[I" ∈ lw_tbl := pk_t10 _ (List.mem_of_getElem? (i := 126) rfl)
set_option maxRecDepth 100000 in
theorem gw1770 : Cond.fieldLink RX13 492 "TongueHouseModel" "picked" "[I" ∈ lw_tbl := pk_t10 _ (List.mem_of_getElem? (i := 127) rfl)
set_option maxRecDepth 100000 in
theorem gw1771 : Cond.fieldLink RX13 495 "TongueHouseModel" "candidate" "[B" ∈ lw_tbl := pk_t10 _ (List.mem_of_getElem? (i := 128) rfl)
set_option maxRecDepth 100000 in
theorem gw1772 : Cond.fieldLink RX13 498 "TongueHouseModel" "candidateN" "[I" ∈ lw_tbl := pk_t10 _ (List.mem_of_getElem? (i := 129) rfl)
set_option maxRecDepth 100000 in
theorem gw1773 : Cond.fieldLink RX13 502 "TongueHouseModel" "kept" "[B" ∈ lw_tbl := pk_t10 _ (List.mem_of_getElem? (i := 131) rfl)
set_option maxRecDepth 100000 in
theorem gw1774 : Cond.fieldLink RX13 505 "TongueHouseModel" "keptN" "[I" ∈ lw_tbl := pk_t10 _ (List.mem_of_getElem? (i := 132) rfl)
set_option maxRecDepth 100000 in
theorem gw1775 : Cond.fieldLink RX13 508 "TongueHouseModel" "keptTongue" "[I" ∈ lw_tbl := pk_t10 _ (List.mem_of_getElem? (i := 133) rfl)
set_option maxRecDepth 100000 in
theorem gw1776 : Cond.fieldLink RX13 511 "TongueHouseModel" "keptSize" "[I" ∈ lw_tbl := pk_t10 _ (List.mem_of_getElem? (i := 134) rfl)
set_option maxRecDepth 100000 in
theorem gw1777 : Cond.fieldLink RX13 514 "TongueHouseModel" "asked" "[I" ∈ lw_tbl := pk_t10 _ (List.mem_of_getElem? (i := 136) rfl)
set_option maxRecDepth 100000 in
theorem gw1778 : Cond.fieldLink RX13 517 "TongueHouseModel" "askedN" "[I" ∈ lw_tbl := pk_t10 _ (List.mem_of_getElem? (i := 137) rfl)
set_option maxRecDepth 100000 in
theorem gw1779 : Cond.fieldLink RX13 520 "TongueHouseModel" "hitAt" "[I" ∈ lw_tbl := pk_t10 _ (List.mem_of_getElem? (i := 138) rfl)
set_option maxRecDepth 100000 in
theorem gw1780 : Cond.fieldLink RX13 523 "TongueHouseModel" "hitWord" "[I" ∈ lw_tbl := pk_t10 _ (List.mem_of_getElem? (i := 139) rfl)
set_option maxRecDepth 100000 in
theorem gw1781 : Cond.fieldLink RX13 526 "TongueHouseModel" "hKind" "[I" ∈ lw_tbl := pk_t10 _ (List.mem_of_getElem? (i := 141) rfl)
set_option maxRecDepth 100000 in
theorem gw1782 : Cond.fieldLink RX13 529 "TongueHouseModel" "hA" "[I" ∈ lw_tbl := pk_t10 _ (List.mem_of_getElem? (i := 142) rfl)
set_option maxRecDepth 100000 in
theorem gw1783 : Cond.fieldLink RX13 532 "TongueHouseModel" "hB" "[I" ∈ lw_tbl := pk_t10 _ (List.mem_of_getElem? (i := 143) rfl)
set_option maxRecDepth 100000 in
theorem gw1784 : Cond.fieldLink RX13 535 "TongueHouseModel" "hName" "[J" ∈ lw_tbl := pk_t10 _ (List.mem_of_getElem? (i := 144) rfl)
set_option maxRecDepth 100000 in
theorem gw1785 : Cond.fieldLink RX13 538 "TongueHouseModel" "bound" "[I" ∈ lw_tbl := pk_t10 _ (List.mem_of_getElem? (i := 148) rfl)
set_option maxRecDepth 100000 in
theorem gw1786 : Cond.fieldLink RX13 543 "TongueHouseModel" "W_AND" "J" ∈ lw_tbl := pk_t10 _ (List.mem_of_getElem? (i := 151) rfl)
set_option maxRecDepth 100000 in
theorem gw1787 : Cond.fieldLink RX13 548 "TongueHouseModel" "W_OR" "J" ∈ lw_tbl := pk_t10 _ (List.mem_of_getElem? (i := 152) rfl)
set_option maxRecDepth 100000 in
theorem gw1788 : Cond.fieldLink RX13 553 "TongueHouseModel" "W_IF" "J" ∈ lw_tbl := pk_t10 _ (List.mem_of_getElem? (i := 153) rfl)
set_option maxRecDepth 100000 in
theorem gw1789 : Cond.fieldLink RX13 558 "TongueHouseModel" "W_NOT" "J" ∈ lw_tbl := pk_t10 _ (List.mem_of_getElem? (i := 154) rfl)
set_option maxRecDepth 100000 in
theorem gw1790 : Cond.fieldLink RX13 563 "TongueHouseModel" "W_ALL" "J" ∈ lw_tbl := pk_t10 _ (List.mem_of_getElem? (i := 155) rfl)
set_option maxRecDepth 100000 in
theorem gw1791 : Cond.fieldLink RX13 568 "TongueHouseModel" "W_SOME" "J" ∈ lw_tbl := pk_t10 _ (List.mem_of_getElem? (i := 156) rfl)
set_option maxRecDepth 100000 in
theorem gw1792 : Cond.fieldLink RX13 573 "TongueHouseModel" "W_IS" "J" ∈ lw_tbl := pk_t10 _ (List.mem_of_getElem? (i := 157) rfl)
set_option maxRecDepth 100000 in
theorem gw1793 : Cond.constant RX13 122 (Int32.ofInt 42000) ∈ lw_tbl := pk_t9 _ (List.mem_of_getElem? (i := 89) rfl)
set_option maxRecDepth 100000 in
theorem gw1794 : Cond.constant RX13 171 (Int32.ofInt 82000) ∈ lw_tbl := pk_t9 _ (List.mem_of_getElem? (i := 90) rfl)
set_option maxRecDepth 100000 in
theorem gw1795 : Cond.constant RX13 349 (Int32.ofInt 36864) ∈ lw_tbl := pk_t9 _ (List.mem_of_getElem? (i := 159) rfl)
set_option maxRecDepth 100000 in
theorem gw1796 : Cond.constant RX13 410 (Int32.ofInt 36000) ∈ lw_tbl := pk_t9 _ (List.mem_of_getElem? (i := 160) rfl)
set_option maxRecDepth 100000 in
theorem gw1797 : Cond.constant RX13 435 (Int32.ofInt 48000) ∈ lw_tbl := pk_t9 _ (List.mem_of_getElem? (i := 161) rfl)
set_option maxRecDepth 100000 in
theorem gw1798 : Cond.constant RX13 470 (Int32.ofInt 288000) ∈ lw_tbl := pk_t9 _ (List.mem_of_getElem? (i := 162) rfl)
set_option maxRecDepth 100000 in
theorem gw1799 : Cond.constant RX13 501 (Int32.ofInt 57600) ∈ lw_tbl := pk_t9 _ (List.mem_of_getElem? (i := 163) rfl)
