/-! the checks -/
-- FatVolume.cut(I)I()
set_option maxRecDepth 100000 in
theorem ia_h1269 : ia_Holds ia_m1269 := ib_hold1 (cal := [ia_m1251, ia_m1252, ia_m1253, ia_m1254, ia_m1022, ia_m1023, ia_m1024, ia_m1025, ia_m1017, ia_m881, ia_m883, ia_m885, ia_m887, ia_m1097, ia_m1098, ia_m1099, ia_m1100, ia_m216, ia_m888, ia_m244]) (ic_c ia_h1251 (ic_c ia_h1252 (ic_c ia_h1253 (ic_c ia_h1254 (ic_c ia_h1022 (ic_c ia_h1023 (ic_c ia_h1024 (ic_c ia_h1025 (ic_c ia_h1017 (ic_c ia_h881 (ic_c ia_h883 (ic_c ia_h885 (ic_c ia_h887 (ic_c ia_h1097 (ic_c ia_h1098 (ic_c ia_h1099 (ic_c ia_h1100 (ic_c ia_h216 (ic_c ia_h888 (ic_c ia_h244 ic_n)))))))))))))))))))) (ic_inc (by decide +kernel)) (by decide +kernel)
-- FatVolume.remove()I()
set_option maxRecDepth 100000 in
theorem ia_h1270 : ia_Holds ia_m1270 := ib_hold1 (cal := [ia_m1251, ia_m1252, ia_m1102, ia_m1101, ia_m1104, ia_m1253, ia_m880, ia_m1103, ia_m1106, ia_m882, ia_m1105, ia_m1108, ia_m1254, ia_m884, ia_m1107, ia_m886, ia_m1017, ia_m244]) (ic_c ia_h1251 (ic_c ia_h1252 (ic_c ia_h1102 (ic_c ia_h1101 (ic_c ia_h1104 (ic_c ia_h1253 (ic_c ia_h880 (ic_c ia_h1103 (ic_c ia_h1106 (ic_c ia_h882 (ic_c ia_h1105 (ic_c ia_h1108 (ic_c ia_h1254 (ic_c ia_h884 (ic_c ia_h1107 (ic_c ia_h886 (ic_c ia_h1017 (ic_c ia_h244 ic_n)))))))))))))))))) (ic_inc (by decide +kernel)) (by decide +kernel)
-- FatVolume.make(ZI)I()
def ia_c1271 : List ia_M := [ia_m1251, ia_m1036, ia_m1252, ia_m1040, ia_m1253, ia_m880, ia_m1042, ia_m882, ia_m1254, ia_m884, ia_m1044, ia_m207, ia_m210, ia_m212, ia_m214, ia_m220, ia_m245, ia_m246, ia_m247, ia_m886, ia_m251, ia_m1017, ia_m1109, ia_m1113, ia_m1117, ia_m1121, ia_m902, ia_m911, ia_m912, ia_m1110, ia_m1114, ia_m1118, ia_m1122, ia_m1111, ia_m1115, ia_m1119, ia_m1123, ia_m1112, ia_m1116, ia_m1120, ia_m1124, ia_m244, ia_m9]
set_option maxRecDepth 100000 in
theorem ia_h1271 : ia_Holds ia_m1271 := by
  refine ib_hold (cal := ia_c1271) (ic_c ia_h1251 (ic_c ia_h1036 (ic_c ia_h1252 (ic_c ia_h1040 (ic_c ia_h1253 (ic_c ia_h880 (ic_c ia_h1042 (ic_c ia_h882 (ic_c ia_h1254 (ic_c ia_h884 (ic_c ia_h1044 (ic_c ia_h207 (ic_c ia_h210 (ic_c ia_h212 (ic_c ia_h214 (ic_c ia_h220 (ic_c ia_h245 (ic_c ia_h246 (ic_c ia_h247 (ic_c ia_h886 (ic_c ia_h251 (ic_c ia_h1017 (ic_c ia_h1109 (ic_c ia_h1113 (ic_c ia_h1117 (ic_c ia_h1121 (ic_c ia_h902 (ic_c ia_h911 (ic_c ia_h912 (ic_c ia_h1110 (ic_c ia_h1114 (ic_c ia_h1118 (ic_c ia_h1122 (ic_c ia_h1111 (ic_c ia_h1115 (ic_c ia_h1119 (ic_c ia_h1123 (ic_c ia_h1112 (ic_c ia_h1116 (ic_c ia_h1120 (ic_c ia_h1124 (ic_c ia_h244 (ic_c ia_h9 ic_n))))))))))))))))))))))))))))))))))))))))))) (ic_inc (by decide +kernel)) (by decide +kernel) (by decide +kernel) (ic_ck (k := 8) 0 ia_m1271.2.2.2.2.2.2.2.2.2.2 (Nat.le_of_ble_eq_true (by decide +kernel)) (fun j hj => ?_))
  rw [← ib_ch_eq]
  match j, hj with

  | x + 0, h => exact absurd h (by omega)
-- FatVolume.write(IJII)I()
def ia_c1272 : List ia_M := [ia_m1251, ia_m1252, ia_m1253, ia_m1254, ia_m1022, ia_m1023, ia_m1024, ia_m1025, ia_m1017, ia_m881, ia_m883, ia_m885, ia_m887, ia_m1097, ia_m1098, ia_m1099, ia_m1100, ia_m252, ia_m891, ia_m897, ia_m898, ia_m899, ia_m888, ia_m244, ia_m9]
theorem ia_h1272_0 : ib_ch ia_c1272 ia_m1272 ((ia_m1272.2.2.2.2.2.2.2.2.2.2.drop (8 * 0)).take 8) = true := by decide +kernel
theorem ia_h1272_1 : ib_ch ia_c1272 ia_m1272 ((ia_m1272.2.2.2.2.2.2.2.2.2.2.drop (8 * 1)).take 8) = true := by decide +kernel
theorem ia_h1272_2 : ib_ch ia_c1272 ia_m1272 ((ia_m1272.2.2.2.2.2.2.2.2.2.2.drop (8 * 2)).take 8) = true := by decide +kernel
theorem ia_h1272_3 : ib_ch ia_c1272 ia_m1272 ((ia_m1272.2.2.2.2.2.2.2.2.2.2.drop (8 * 3)).take 8) = true := by decide +kernel
theorem ia_h1272_4 : ib_ch ia_c1272 ia_m1272 ((ia_m1272.2.2.2.2.2.2.2.2.2.2.drop (8 * 4)).take 8) = true := by decide +kernel
set_option maxRecDepth 100000 in
theorem ia_h1272 : ia_Holds ia_m1272 := by
  refine ib_hold (cal := ia_c1272) (ic_c ia_h1251 (ic_c ia_h1252 (ic_c ia_h1253 (ic_c ia_h1254 (ic_c ia_h1022 (ic_c ia_h1023 (ic_c ia_h1024 (ic_c ia_h1025 (ic_c ia_h1017 (ic_c ia_h881 (ic_c ia_h883 (ic_c ia_h885 (ic_c ia_h887 (ic_c ia_h1097 (ic_c ia_h1098 (ic_c ia_h1099 (ic_c ia_h1100 (ic_c ia_h252 (ic_c ia_h891 (ic_c ia_h897 (ic_c ia_h898 (ic_c ia_h899 (ic_c ia_h888 (ic_c ia_h244 (ic_c ia_h9 ic_n))))))))))))))))))))))))) (ic_inc (by decide +kernel)) (by decide +kernel) (by decide +kernel) (ic_ck (k := 8) 5 ia_m1272.2.2.2.2.2.2.2.2.2.2 (Nat.le_of_ble_eq_true (by decide +kernel)) (fun j hj => ?_))
  rw [← ib_ch_eq]
  match j, hj with
  | 0, _ => exact ia_h1272_0
  | 1, _ => exact ia_h1272_1
  | 2, _ => exact ia_h1272_2
  | 3, _ => exact ia_h1272_3
  | 4, _ => exact ia_h1272_4
  | x + 5, h => exact absurd h (by omega)
-- FatVolumeModel.target()I((5410, 4),)
set_option maxRecDepth 100000 in
theorem ia_h1273 : ia_Holds ia_m1273 := ib_hold1 (cal := [ia_m1255, ia_m1248]) (ic_c ia_h1255 (ic_c ia_h1248 ic_n)) (ic_inc (by decide +kernel)) (by decide +kernel)
-- FatVolumeModel.target()I((5410, 3),)
set_option maxRecDepth 100000 in
theorem ia_h1274 : ia_Holds ia_m1274 := ib_hold1 (cal := [ia_m1256, ia_m1247]) (ic_c ia_h1256 (ic_c ia_h1247 ic_n)) (ic_inc (by decide +kernel)) (by decide +kernel)
-- FatVolumeModel.target()I((5410, 2),)
set_option maxRecDepth 100000 in
theorem ia_h1275 : ia_Holds ia_m1275 := ib_hold1 (cal := [ia_m1257, ia_m1246]) (ic_c ia_h1257 (ic_c ia_h1246 ic_n)) (ic_inc (by decide +kernel)) (by decide +kernel)
-- FatVolumeModel.fileTarget()I((5410, 1),)
set_option maxRecDepth 100000 in
theorem ia_h1276 : ia_Holds ia_m1276 := ib_hold1 (cal := [ia_m1258, ia_m255]) (ic_c ia_h1258 (ic_c ia_h255 ic_n)) (ic_inc (by decide +kernel)) (by decide +kernel)
-- FatVolumeModel.make(ZI)I()
def ia_c1277 : List ia_M := [ia_m1255, ia_m522, ia_m1256, ia_m527, ia_m1257, ia_m530, ia_m514, ia_m533, ia_m515, ia_m519, ia_m520, ia_m521, ia_m1057, ia_m1058, ia_m1059, ia_m1060, ia_m524, ia_m922, ia_m966, ia_m968, ia_m254, ia_m525, ia_m528, ia_m531, ia_m534, ia_m1157, ia_m1248, ia_m1158, ia_m1247, ia_m1159, ia_m1246, ia_m1160, ia_m1245, ia_m970, ia_m971, ia_m972, ia_m526, ia_m529, ia_m532, ia_m535, ia_m967]
theorem ia_h1277_0 : ib_ch ia_c1277 ia_m1277 ((ia_m1277.2.2.2.2.2.2.2.2.2.2.drop (8 * 0)).take 8) = true := by decide +kernel
set_option maxRecDepth 100000 in
theorem ia_h1277 : ia_Holds ia_m1277 := by
  refine ib_hold (cal := ia_c1277) (ic_c ia_h1255 (ic_c ia_h522 (ic_c ia_h1256 (ic_c ia_h527 (ic_c ia_h1257 (ic_c ia_h530 (ic_c ia_h514 (ic_c ia_h533 (ic_c ia_h515 (ic_c ia_h519 (ic_c ia_h520 (ic_c ia_h521 (ic_c ia_h1057 (ic_c ia_h1058 (ic_c ia_h1059 (ic_c ia_h1060 (ic_c ia_h524 (ic_c ia_h922 (ic_c ia_h966 (ic_c ia_h968 (ic_c ia_h254 (ic_c ia_h525 (ic_c ia_h528 (ic_c ia_h531 (ic_c ia_h534 (ic_c ia_h1157 (ic_c ia_h1248 (ic_c ia_h1158 (ic_c ia_h1247 (ic_c ia_h1159 (ic_c ia_h1246 (ic_c ia_h1160 (ic_c ia_h1245 (ic_c ia_h970 (ic_c ia_h971 (ic_c ia_h972 (ic_c ia_h526 (ic_c ia_h529 (ic_c ia_h532 (ic_c ia_h535 (ic_c ia_h967 ic_n))))))))))))))))))))))))))))))))))))))))) (ic_inc (by decide +kernel)) (by decide +kernel) (by decide +kernel) (ic_ck (k := 8) 1 ia_m1277.2.2.2.2.2.2.2.2.2.2 (Nat.le_of_ble_eq_true (by decide +kernel)) (fun j hj => ?_))
  rw [← ib_ch_eq]
  match j, hj with
  | 0, _ => exact ia_h1277_0
  | x + 1, h => exact absurd h (by omega)
-- FatVolume$Repairer.goThrough(II)V(4,)
def ia_c1278 : List ia_M := [ia_m40, ia_m65, ia_m69, ia_m73, ia_m77, ia_m81, ia_m85, ia_m89, ia_m93, ia_m1259, ia_m1260, ia_m1261, ia_m1262, ia_m1263, ia_m1264, ia_m1265, ia_m1266, ia_m807, ia_m809, ia_m811, ia_m813, ia_m815, ia_m817, ia_m819, ia_m821, ia_m1209, ia_m1210, ia_m1211, ia_m1212, ia_m1213, ia_m1214, ia_m1215, ia_m1216, ia_m806, ia_m808, ia_m810, ia_m812, ia_m814, ia_m816, ia_m818, ia_m820, ia_m980, ia_m989, ia_m990, ia_m991, ia_m992, ia_m993, ia_m994, ia_m995, ia_m42, ia_m64, ia_m68, ia_m72, ia_m76, ia_m80, ia_m84, ia_m88, ia_m92, ia_m977, ia_m982, ia_m983, ia_m984, ia_m985, ia_m986, ia_m987, ia_m988, ia_m94, ia_m772]
theorem ia_h1278_0 : ib_ch ia_c1278 ia_m1278 ((ia_m1278.2.2.2.2.2.2.2.2.2.2.drop (8 * 0)).take 8) = true := by decide +kernel
theorem ia_h1278_1 : ib_ch ia_c1278 ia_m1278 ((ia_m1278.2.2.2.2.2.2.2.2.2.2.drop (8 * 1)).take 8) = true := by decide +kernel
set_option maxRecDepth 100000 in
theorem ia_h1278 : ia_Holds ia_m1278 := by
  refine ib_hold (cal := ia_c1278) (ic_c ia_h40 (ic_c ia_h65 (ic_c ia_h69 (ic_c ia_h73 (ic_c ia_h77 (ic_c ia_h81 (ic_c ia_h85 (ic_c ia_h89 (ic_c ia_h93 (ic_c ia_h1259 (ic_c ia_h1260 (ic_c ia_h1261 (ic_c ia_h1262 (ic_c ia_h1263 (ic_c ia_h1264 (ic_c ia_h1265 (ic_c ia_h1266 (ic_c ia_h807 (ic_c ia_h809 (ic_c ia_h811 (ic_c ia_h813 (ic_c ia_h815 (ic_c ia_h817 (ic_c ia_h819 (ic_c ia_h821 (ic_c ia_h1209 (ic_c ia_h1210 (ic_c ia_h1211 (ic_c ia_h1212 (ic_c ia_h1213 (ic_c ia_h1214 (ic_c ia_h1215 (ic_c ia_h1216 (ic_c ia_h806 (ic_c ia_h808 (ic_c ia_h810 (ic_c ia_h812 (ic_c ia_h814 (ic_c ia_h816 (ic_c ia_h818 (ic_c ia_h820 (ic_c ia_h980 (ic_c ia_h989 (ic_c ia_h990 (ic_c ia_h991 (ic_c ia_h992 (ic_c ia_h993 (ic_c ia_h994 (ic_c ia_h995 (ic_c ia_h42 (ic_c ia_h64 (ic_c ia_h68 (ic_c ia_h72 (ic_c ia_h76 (ic_c ia_h80 (ic_c ia_h84 (ic_c ia_h88 (ic_c ia_h92 (ic_c ia_h977 (ic_c ia_h982 (ic_c ia_h983 (ic_c ia_h984 (ic_c ia_h985 (ic_c ia_h986 (ic_c ia_h987 (ic_c ia_h988 (ic_c ia_h94 (ic_c ia_h772 ic_n)))))))))))))))))))))))))))))))))))))))))))))))))))))))))))))))))))) (ic_inc (by decide +kernel)) (by decide +kernel) (by decide +kernel) (ic_ck (k := 8) 2 ia_m1278.2.2.2.2.2.2.2.2.2.2 (Nat.le_of_ble_eq_true (by decide +kernel)) (fun j hj => ?_))
  rw [← ib_ch_eq]
  match j, hj with
  | 0, _ => exact ia_h1278_0
  | 1, _ => exact ia_h1278_1
  | x + 2, h => exact absurd h (by omega)
-- FatVolumeLaw.look(LFatVolume;[J)I()
set_option maxRecDepth 100000 in
theorem ia_h1279 : ia_Holds ia_m1279 := ib_hold1 (cal := [ia_m1267]) (ic_c ia_h1267 ic_n) (ic_inc (by decide +kernel)) (by decide +kernel)
-- FatVolumeLaw.read(LFatVolume;I[J)I()
set_option maxRecDepth 100000 in
theorem ia_h1280 : ia_Holds ia_m1280 := ib_hold1 (cal := [ia_m1268]) (ic_c ia_h1268 ic_n) (ic_inc (by decide +kernel)) (by decide +kernel)
-- FatVolumeLaw.cut(LFatVolume;I[J)I()
set_option maxRecDepth 100000 in
theorem ia_h1281 : ia_Holds ia_m1281 := ib_hold1 (cal := [ia_m1269]) (ic_c ia_h1269 ic_n) (ic_inc (by decide +kernel)) (by decide +kernel)
-- FatVolumeLaw.remove(LFatVolume;[J)I()
set_option maxRecDepth 100000 in
theorem ia_h1282 : ia_Holds ia_m1282 := ib_hold1 (cal := [ia_m1270]) (ic_c ia_h1270 ic_n) (ic_inc (by decide +kernel)) (by decide +kernel)
-- FatVolumeLaw.make(LFatVolume;ZI[J)I()
set_option maxRecDepth 100000 in
theorem ia_h1283 : ia_Holds ia_m1283 := ib_hold1 (cal := [ia_m1271]) (ic_c ia_h1271 ic_n) (ic_inc (by decide +kernel)) (by decide +kernel)
-- FatVolumeLaw.write(LFatVolume;IJII[J)I()
set_option maxRecDepth 100000 in
theorem ia_h1284 : ia_Holds ia_m1284 := ib_hold1 (cal := [ia_m1272]) (ic_c ia_h1272 ic_n) (ic_inc (by decide +kernel)) (by decide +kernel)
-- FatVolumeModel.look()I()
set_option maxRecDepth 100000 in
theorem ia_h1285 : ia_Holds ia_m1285 := ib_hold1 (cal := [ia_m1273, ia_m1274, ia_m1275, ia_m1258, ia_m922, ia_m254, ia_m255]) (ic_c ia_h1273 (ic_c ia_h1274 (ic_c ia_h1275 (ic_c ia_h1258 (ic_c ia_h922 (ic_c ia_h254 (ic_c ia_h255 ic_n))))))) (ic_inc (by decide +kernel)) (by decide +kernel)
-- FatVolumeModel.fileTarget()I((5410, 4),)
set_option maxRecDepth 100000 in
theorem ia_h1286 : ia_Holds ia_m1286 := ib_hold1 (cal := [ia_m1273, ia_m255]) (ic_c ia_h1273 (ic_c ia_h255 ic_n)) (ic_inc (by decide +kernel)) (by decide +kernel)
-- FatVolumeModel.fileTarget()I((5410, 3),)
set_option maxRecDepth 100000 in
theorem ia_h1287 : ia_Holds ia_m1287 := ib_hold1 (cal := [ia_m1274, ia_m255]) (ic_c ia_h1274 (ic_c ia_h255 ic_n)) (ic_inc (by decide +kernel)) (by decide +kernel)
-- FatVolumeModel.fileTarget()I((5410, 2),)
set_option maxRecDepth 100000 in
theorem ia_h1288 : ia_Holds ia_m1288 := ib_hold1 (cal := [ia_m1275, ia_m255]) (ic_c ia_h1275 (ic_c ia_h255 ic_n)) (ic_inc (by decide +kernel)) (by decide +kernel)
-- FatVolumeModel.remove()I()
def ia_c1289 : List ia_M := [ia_m1273, ia_m1274, ia_m1275, ia_m1258, ia_m515, ia_m519, ia_m520, ia_m521, ia_m1057, ia_m1058, ia_m1059, ia_m1060, ia_m922, ia_m965, ia_m254, ia_m969, ia_m925, ia_m1047, ia_m1048, ia_m1049, ia_m1050, ia_m1051, ia_m1052, ia_m1053, ia_m964, ia_m255, ia_m967, ia_m5]
theorem ia_h1289_0 : ib_ch ia_c1289 ia_m1289 ((ia_m1289.2.2.2.2.2.2.2.2.2.2.drop (8 * 0)).take 8) = true := by decide +kernel
theorem ia_h1289_1 : ib_ch ia_c1289 ia_m1289 ((ia_m1289.2.2.2.2.2.2.2.2.2.2.drop (8 * 1)).take 8) = true := by decide +kernel
theorem ia_h1289_2 : ib_ch ia_c1289 ia_m1289 ((ia_m1289.2.2.2.2.2.2.2.2.2.2.drop (8 * 2)).take 8) = true := by decide +kernel
theorem ia_h1289_3 : ib_ch ia_c1289 ia_m1289 ((ia_m1289.2.2.2.2.2.2.2.2.2.2.drop (8 * 3)).take 8) = true := by decide +kernel
theorem ia_h1289_4 : ib_ch ia_c1289 ia_m1289 ((ia_m1289.2.2.2.2.2.2.2.2.2.2.drop (8 * 4)).take 8) = true := by decide +kernel
theorem ia_h1289_5 : ib_ch ia_c1289 ia_m1289 ((ia_m1289.2.2.2.2.2.2.2.2.2.2.drop (8 * 5)).take 8) = true := by decide +kernel
theorem ia_h1289_6 : ib_ch ia_c1289 ia_m1289 ((ia_m1289.2.2.2.2.2.2.2.2.2.2.drop (8 * 6)).take 8) = true := by decide +kernel
theorem ia_h1289_7 : ib_ch ia_c1289 ia_m1289 ((ia_m1289.2.2.2.2.2.2.2.2.2.2.drop (8 * 7)).take 8) = true := by decide +kernel
theorem ia_h1289_8 : ib_ch ia_c1289 ia_m1289 ((ia_m1289.2.2.2.2.2.2.2.2.2.2.drop (8 * 8)).take 8) = true := by decide +kernel
set_option maxRecDepth 100000 in
theorem ia_h1289 : ia_Holds ia_m1289 := by
  refine ib_hold (cal := ia_c1289) (ic_c ia_h1273 (ic_c ia_h1274 (ic_c ia_h1275 (ic_c ia_h1258 (ic_c ia_h515 (ic_c ia_h519 (ic_c ia_h520 (ic_c ia_h521 (ic_c ia_h1057 (ic_c ia_h1058 (ic_c ia_h1059 (ic_c ia_h1060 (ic_c ia_h922 (ic_c ia_h965 (ic_c ia_h254 (ic_c ia_h969 (ic_c ia_h925 (ic_c ia_h1047 (ic_c ia_h1048 (ic_c ia_h1049 (ic_c ia_h1050 (ic_c ia_h1051 (ic_c ia_h1052 (ic_c ia_h1053 (ic_c ia_h964 (ic_c ia_h255 (ic_c ia_h967 (ic_c ia_h5 ic_n)))))))))))))))))))))))))))) (ic_inc (by decide +kernel)) (by decide +kernel) (by decide +kernel) (ic_ck (k := 8) 9 ia_m1289.2.2.2.2.2.2.2.2.2.2 (Nat.le_of_ble_eq_true (by decide +kernel)) (fun j hj => ?_))
  rw [← ib_ch_eq]
  match j, hj with
  | 0, _ => exact ia_h1289_0
  | 1, _ => exact ia_h1289_1
  | 2, _ => exact ia_h1289_2
  | 3, _ => exact ia_h1289_3
  | 4, _ => exact ia_h1289_4
  | 5, _ => exact ia_h1289_5
  | 6, _ => exact ia_h1289_6
  | 7, _ => exact ia_h1289_7
  | 8, _ => exact ia_h1289_8
  | x + 9, h => exact absurd h (by omega)
