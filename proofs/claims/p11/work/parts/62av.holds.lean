/-! the checks -/
-- FatVolume$Repairer.mend(LFatVolume$Folder;IZI)V((38,), 0, 1, 3, 2)
set_option maxRecDepth 100000 in
theorem ia_h1290 : ia_Holds ia_m1290 := ib_hold1 (cal := [ia_m39, ia_m37, ia_m36, ia_m1278, ia_m771]) (ic_c ia_h39 (ic_c ia_h37 (ic_c ia_h36 (ic_c ia_h1278 (ic_c ia_h771 ic_n))))) (ic_inc (by decide +kernel)) (by decide +kernel)
-- FatVolume$Repairer.mend(LFatVolume$Folder;IZI)V((38,), 1, 1, 3, 2)
set_option maxRecDepth 100000 in
theorem ia_h1291 : ia_Holds ia_m1291 := ib_hold1 (cal := [ia_m98, ia_m97, ia_m96, ia_m1278, ia_m771]) (ic_c ia_h98 (ic_c ia_h97 (ic_c ia_h96 (ic_c ia_h1278 (ic_c ia_h771 ic_n))))) (ic_inc (by decide +kernel)) (by decide +kernel)
-- FatVolume$Repairer.mend(LFatVolume$Folder;IZI)V((38,), 2, 1, 3, 2)
set_option maxRecDepth 100000 in
theorem ia_h1292 : ia_Holds ia_m1292 := ib_hold1 (cal := [ia_m102, ia_m101, ia_m100, ia_m1278, ia_m771]) (ic_c ia_h102 (ic_c ia_h101 (ic_c ia_h100 (ic_c ia_h1278 (ic_c ia_h771 ic_n))))) (ic_inc (by decide +kernel)) (by decide +kernel)
-- FatVolume$Repairer.mend(LFatVolume$Folder;IZI)V((38,), 3, 1, 3, 2)
set_option maxRecDepth 100000 in
theorem ia_h1293 : ia_Holds ia_m1293 := ib_hold1 (cal := [ia_m106, ia_m105, ia_m104, ia_m1278, ia_m771]) (ic_c ia_h106 (ic_c ia_h105 (ic_c ia_h104 (ic_c ia_h1278 (ic_c ia_h771 ic_n))))) (ic_inc (by decide +kernel)) (by decide +kernel)
-- FatVolume$Repairer.mend(LFatVolume$Folder;IZI)V((38,), 4, 1, 3, 2)
set_option maxRecDepth 100000 in
theorem ia_h1294 : ia_Holds ia_m1294 := ib_hold1 (cal := [ia_m110, ia_m109, ia_m108, ia_m1278, ia_m771]) (ic_c ia_h110 (ic_c ia_h109 (ic_c ia_h108 (ic_c ia_h1278 (ic_c ia_h771 ic_n))))) (ic_inc (by decide +kernel)) (by decide +kernel)
-- FatVolume$Repairer.mend(LFatVolume$Folder;IZI)V((38,), 5, 1, 3, 2)
set_option maxRecDepth 100000 in
theorem ia_h1295 : ia_Holds ia_m1295 := ib_hold1 (cal := [ia_m114, ia_m113, ia_m112, ia_m1278, ia_m771]) (ic_c ia_h114 (ic_c ia_h113 (ic_c ia_h112 (ic_c ia_h1278 (ic_c ia_h771 ic_n))))) (ic_inc (by decide +kernel)) (by decide +kernel)
-- FatVolume$Repairer.mend(LFatVolume$Folder;IZI)V((38,), 6, 1, 3, 2)
set_option maxRecDepth 100000 in
theorem ia_h1296 : ia_Holds ia_m1296 := ib_hold1 (cal := [ia_m118, ia_m117, ia_m116, ia_m1278, ia_m771]) (ic_c ia_h118 (ic_c ia_h117 (ic_c ia_h116 (ic_c ia_h1278 (ic_c ia_h771 ic_n))))) (ic_inc (by decide +kernel)) (by decide +kernel)
-- FatVolume$Repairer.mend(LFatVolume$Folder;IZI)V((38,), 7, 1, 3, 2)
set_option maxRecDepth 100000 in
theorem ia_h1297 : ia_Holds ia_m1297 := ib_hold1 (cal := [ia_m122, ia_m121, ia_m120, ia_m1278, ia_m771]) (ic_c ia_h122 (ic_c ia_h121 (ic_c ia_h120 (ic_c ia_h1278 (ic_c ia_h771 ic_n))))) (ic_inc (by decide +kernel)) (by decide +kernel)
-- FatVolumeModel.read(I)I()
set_option maxRecDepth 100000 in
theorem ia_h1298 : ia_Holds ia_m1298 := ib_hold1 (cal := [ia_m1286, ia_m1287, ia_m1288, ia_m1276, ia_m922, ia_m254, ia_m964]) (ic_c ia_h1286 (ic_c ia_h1287 (ic_c ia_h1288 (ic_c ia_h1276 (ic_c ia_h922 (ic_c ia_h254 (ic_c ia_h964 ic_n))))))) (ic_inc (by decide +kernel)) (by decide +kernel)
-- FatVolumeModel.cut(I)I()
set_option maxRecDepth 100000 in
theorem ia_h1299 : ia_Holds ia_m1299 := ib_hold1 (cal := [ia_m1286, ia_m1287, ia_m1288, ia_m1276, ia_m922, ia_m254, ia_m964, ia_m255, ia_m1153, ia_m1154, ia_m1155, ia_m1156, ia_m967]) (ic_c ia_h1286 (ic_c ia_h1287 (ic_c ia_h1288 (ic_c ia_h1276 (ic_c ia_h922 (ic_c ia_h254 (ic_c ia_h964 (ic_c ia_h255 (ic_c ia_h1153 (ic_c ia_h1154 (ic_c ia_h1155 (ic_c ia_h1156 (ic_c ia_h967 ic_n))))))))))))) (ic_inc (by decide +kernel)) (by decide +kernel)
-- FatVolumeModel.write(IJII)I()
def ia_c1300 : List ia_M := [ia_m1286, ia_m1287, ia_m1288, ia_m1276, ia_m922, ia_m968, ia_m254, ia_m964, ia_m255, ia_m1153, ia_m1154, ia_m1155, ia_m1156, ia_m967]
theorem ia_h1300_0 : ib_ch ia_c1300 ia_m1300 ((ia_m1300.2.2.2.2.2.2.2.2.2.2.drop (8 * 0)).take 8) = true := by decide +kernel
theorem ia_h1300_1 : ib_ch ia_c1300 ia_m1300 ((ia_m1300.2.2.2.2.2.2.2.2.2.2.drop (8 * 1)).take 8) = true := by decide +kernel
theorem ia_h1300_2 : ib_ch ia_c1300 ia_m1300 ((ia_m1300.2.2.2.2.2.2.2.2.2.2.drop (8 * 2)).take 8) = true := by decide +kernel
theorem ia_h1300_3 : ib_ch ia_c1300 ia_m1300 ((ia_m1300.2.2.2.2.2.2.2.2.2.2.drop (8 * 3)).take 8) = true := by decide +kernel
theorem ia_h1300_4 : ib_ch ia_c1300 ia_m1300 ((ia_m1300.2.2.2.2.2.2.2.2.2.2.drop (8 * 4)).take 8) = true := by decide +kernel
set_option maxRecDepth 100000 in
theorem ia_h1300 : ia_Holds ia_m1300 := by
  refine ib_hold (cal := ia_c1300) (ic_c ia_h1286 (ic_c ia_h1287 (ic_c ia_h1288 (ic_c ia_h1276 (ic_c ia_h922 (ic_c ia_h968 (ic_c ia_h254 (ic_c ia_h964 (ic_c ia_h255 (ic_c ia_h1153 (ic_c ia_h1154 (ic_c ia_h1155 (ic_c ia_h1156 (ic_c ia_h967 ic_n)))))))))))))) (ic_inc (by decide +kernel)) (by decide +kernel) (by decide +kernel) (ic_ck (k := 8) 5 ia_m1300.2.2.2.2.2.2.2.2.2.2 (Nat.le_of_ble_eq_true (by decide +kernel)) (fun j hj => ?_))
  rw [← ib_ch_eq]
  match j, hj with
  | 0, _ => exact ia_h1300_0
  | 1, _ => exact ia_h1300_1
  | 2, _ => exact ia_h1300_2
  | 3, _ => exact ia_h1300_3
  | 4, _ => exact ia_h1300_4
  | x + 5, h => exact absurd h (by omega)
-- FatVolume$Repairer.goThrough(II)V(3,)
def ia_c1301 : List ia_M := [ia_m36, ia_m96, ia_m100, ia_m104, ia_m108, ia_m112, ia_m116, ia_m120, ia_m124, ia_m1290, ia_m1291, ia_m1292, ia_m1293, ia_m1294, ia_m1295, ia_m1296, ia_m1297, ia_m823, ia_m825, ia_m827, ia_m829, ia_m831, ia_m833, ia_m835, ia_m837, ia_m1217, ia_m1218, ia_m1219, ia_m1220, ia_m1221, ia_m1222, ia_m1223, ia_m1224, ia_m822, ia_m824, ia_m826, ia_m828, ia_m830, ia_m832, ia_m834, ia_m836, ia_m979, ia_m996, ia_m997, ia_m998, ia_m999, ia_m1000, ia_m1001, ia_m1002, ia_m38, ia_m95, ia_m99, ia_m103, ia_m107, ia_m111, ia_m115, ia_m119, ia_m123, ia_m977, ia_m982, ia_m983, ia_m984, ia_m985, ia_m986, ia_m987, ia_m988, ia_m125, ia_m772]
theorem ia_h1301_0 : ib_ch ia_c1301 ia_m1301 ((ia_m1301.2.2.2.2.2.2.2.2.2.2.drop (8 * 0)).take 8) = true := by decide +kernel
theorem ia_h1301_1 : ib_ch ia_c1301 ia_m1301 ((ia_m1301.2.2.2.2.2.2.2.2.2.2.drop (8 * 1)).take 8) = true := by decide +kernel
set_option maxRecDepth 100000 in
theorem ia_h1301 : ia_Holds ia_m1301 := by
  refine ib_hold (cal := ia_c1301) (ic_c ia_h36 (ic_c ia_h96 (ic_c ia_h100 (ic_c ia_h104 (ic_c ia_h108 (ic_c ia_h112 (ic_c ia_h116 (ic_c ia_h120 (ic_c ia_h124 (ic_c ia_h1290 (ic_c ia_h1291 (ic_c ia_h1292 (ic_c ia_h1293 (ic_c ia_h1294 (ic_c ia_h1295 (ic_c ia_h1296 (ic_c ia_h1297 (ic_c ia_h823 (ic_c ia_h825 (ic_c ia_h827 (ic_c ia_h829 (ic_c ia_h831 (ic_c ia_h833 (ic_c ia_h835 (ic_c ia_h837 (ic_c ia_h1217 (ic_c ia_h1218 (ic_c ia_h1219 (ic_c ia_h1220 (ic_c ia_h1221 (ic_c ia_h1222 (ic_c ia_h1223 (ic_c ia_h1224 (ic_c ia_h822 (ic_c ia_h824 (ic_c ia_h826 (ic_c ia_h828 (ic_c ia_h830 (ic_c ia_h832 (ic_c ia_h834 (ic_c ia_h836 (ic_c ia_h979 (ic_c ia_h996 (ic_c ia_h997 (ic_c ia_h998 (ic_c ia_h999 (ic_c ia_h1000 (ic_c ia_h1001 (ic_c ia_h1002 (ic_c ia_h38 (ic_c ia_h95 (ic_c ia_h99 (ic_c ia_h103 (ic_c ia_h107 (ic_c ia_h111 (ic_c ia_h115 (ic_c ia_h119 (ic_c ia_h123 (ic_c ia_h977 (ic_c ia_h982 (ic_c ia_h983 (ic_c ia_h984 (ic_c ia_h985 (ic_c ia_h986 (ic_c ia_h987 (ic_c ia_h988 (ic_c ia_h125 (ic_c ia_h772 ic_n)))))))))))))))))))))))))))))))))))))))))))))))))))))))))))))))))))) (ic_inc (by decide +kernel)) (by decide +kernel) (by decide +kernel) (ic_ck (k := 8) 2 ia_m1301.2.2.2.2.2.2.2.2.2.2 (Nat.le_of_ble_eq_true (by decide +kernel)) (fun j hj => ?_))
  rw [← ib_ch_eq]
  match j, hj with
  | 0, _ => exact ia_h1301_0
  | 1, _ => exact ia_h1301_1
  | x + 2, h => exact absurd h (by omega)
-- FatVolume$Repairer.mend(LFatVolume$Folder;IZI)V((36,), 0, 1, 2, 2)
set_option maxRecDepth 100000 in
theorem ia_h1302 : ia_Holds ia_m1302 := ib_hold1 (cal := [ia_m35, ia_m33, ia_m32, ia_m1301, ia_m771]) (ic_c ia_h35 (ic_c ia_h33 (ic_c ia_h32 (ic_c ia_h1301 (ic_c ia_h771 ic_n))))) (ic_inc (by decide +kernel)) (by decide +kernel)
-- FatVolume$Repairer.mend(LFatVolume$Folder;IZI)V((36,), 1, 1, 2, 2)
set_option maxRecDepth 100000 in
theorem ia_h1303 : ia_Holds ia_m1303 := ib_hold1 (cal := [ia_m129, ia_m128, ia_m127, ia_m1301, ia_m771]) (ic_c ia_h129 (ic_c ia_h128 (ic_c ia_h127 (ic_c ia_h1301 (ic_c ia_h771 ic_n))))) (ic_inc (by decide +kernel)) (by decide +kernel)
-- FatVolume$Repairer.mend(LFatVolume$Folder;IZI)V((36,), 2, 1, 2, 2)
set_option maxRecDepth 100000 in
theorem ia_h1304 : ia_Holds ia_m1304 := ib_hold1 (cal := [ia_m133, ia_m132, ia_m131, ia_m1301, ia_m771]) (ic_c ia_h133 (ic_c ia_h132 (ic_c ia_h131 (ic_c ia_h1301 (ic_c ia_h771 ic_n))))) (ic_inc (by decide +kernel)) (by decide +kernel)
-- FatVolume$Repairer.mend(LFatVolume$Folder;IZI)V((36,), 3, 1, 2, 2)
set_option maxRecDepth 100000 in
theorem ia_h1305 : ia_Holds ia_m1305 := ib_hold1 (cal := [ia_m137, ia_m136, ia_m135, ia_m1301, ia_m771]) (ic_c ia_h137 (ic_c ia_h136 (ic_c ia_h135 (ic_c ia_h1301 (ic_c ia_h771 ic_n))))) (ic_inc (by decide +kernel)) (by decide +kernel)
-- FatVolume$Repairer.mend(LFatVolume$Folder;IZI)V((36,), 4, 1, 2, 2)
set_option maxRecDepth 100000 in
theorem ia_h1306 : ia_Holds ia_m1306 := ib_hold1 (cal := [ia_m141, ia_m140, ia_m139, ia_m1301, ia_m771]) (ic_c ia_h141 (ic_c ia_h140 (ic_c ia_h139 (ic_c ia_h1301 (ic_c ia_h771 ic_n))))) (ic_inc (by decide +kernel)) (by decide +kernel)
-- FatVolume$Repairer.mend(LFatVolume$Folder;IZI)V((36,), 5, 1, 2, 2)
set_option maxRecDepth 100000 in
theorem ia_h1307 : ia_Holds ia_m1307 := ib_hold1 (cal := [ia_m145, ia_m144, ia_m143, ia_m1301, ia_m771]) (ic_c ia_h145 (ic_c ia_h144 (ic_c ia_h143 (ic_c ia_h1301 (ic_c ia_h771 ic_n))))) (ic_inc (by decide +kernel)) (by decide +kernel)
-- FatVolume$Repairer.mend(LFatVolume$Folder;IZI)V((36,), 6, 1, 2, 2)
set_option maxRecDepth 100000 in
theorem ia_h1308 : ia_Holds ia_m1308 := ib_hold1 (cal := [ia_m149, ia_m148, ia_m147, ia_m1301, ia_m771]) (ic_c ia_h149 (ic_c ia_h148 (ic_c ia_h147 (ic_c ia_h1301 (ic_c ia_h771 ic_n))))) (ic_inc (by decide +kernel)) (by decide +kernel)
-- FatVolume$Repairer.mend(LFatVolume$Folder;IZI)V((36,), 7, 1, 2, 2)
set_option maxRecDepth 100000 in
theorem ia_h1309 : ia_Holds ia_m1309 := ib_hold1 (cal := [ia_m153, ia_m152, ia_m151, ia_m1301, ia_m771]) (ic_c ia_h153 (ic_c ia_h152 (ic_c ia_h151 (ic_c ia_h1301 (ic_c ia_h771 ic_n))))) (ic_inc (by decide +kernel)) (by decide +kernel)
-- FatVolume$Repairer.goThrough(II)V(2,)
def ia_c1310 : List ia_M := [ia_m32, ia_m127, ia_m131, ia_m135, ia_m139, ia_m143, ia_m147, ia_m151, ia_m155, ia_m1302, ia_m1303, ia_m1304, ia_m1305, ia_m1306, ia_m1307, ia_m1308, ia_m1309, ia_m839, ia_m841, ia_m843, ia_m845, ia_m847, ia_m849, ia_m851, ia_m853, ia_m1225, ia_m1226, ia_m1227, ia_m1228, ia_m1229, ia_m1230, ia_m1231, ia_m1232, ia_m838, ia_m840, ia_m842, ia_m844, ia_m846, ia_m848, ia_m850, ia_m852, ia_m978, ia_m1003, ia_m1004, ia_m1005, ia_m1006, ia_m1007, ia_m1008, ia_m1009, ia_m34, ia_m126, ia_m130, ia_m134, ia_m138, ia_m142, ia_m146, ia_m150, ia_m154, ia_m977, ia_m982, ia_m983, ia_m984, ia_m985, ia_m986, ia_m987, ia_m988, ia_m156, ia_m772]
theorem ia_h1310_0 : ib_ch ia_c1310 ia_m1310 ((ia_m1310.2.2.2.2.2.2.2.2.2.2.drop (8 * 0)).take 8) = true := by decide +kernel
theorem ia_h1310_1 : ib_ch ia_c1310 ia_m1310 ((ia_m1310.2.2.2.2.2.2.2.2.2.2.drop (8 * 1)).take 8) = true := by decide +kernel
set_option maxRecDepth 100000 in
theorem ia_h1310 : ia_Holds ia_m1310 := by
  refine ib_hold (cal := ia_c1310) (ic_c ia_h32 (ic_c ia_h127 (ic_c ia_h131 (ic_c ia_h135 (ic_c ia_h139 (ic_c ia_h143 (ic_c ia_h147 (ic_c ia_h151 (ic_c ia_h155 (ic_c ia_h1302 (ic_c ia_h1303 (ic_c ia_h1304 (ic_c ia_h1305 (ic_c ia_h1306 (ic_c ia_h1307 (ic_c ia_h1308 (ic_c ia_h1309 (ic_c ia_h839 (ic_c ia_h841 (ic_c ia_h843 (ic_c ia_h845 (ic_c ia_h847 (ic_c ia_h849 (ic_c ia_h851 (ic_c ia_h853 (ic_c ia_h1225 (ic_c ia_h1226 (ic_c ia_h1227 (ic_c ia_h1228 (ic_c ia_h1229 (ic_c ia_h1230 (ic_c ia_h1231 (ic_c ia_h1232 (ic_c ia_h838 (ic_c ia_h840 (ic_c ia_h842 (ic_c ia_h844 (ic_c ia_h846 (ic_c ia_h848 (ic_c ia_h850 (ic_c ia_h852 (ic_c ia_h978 (ic_c ia_h1003 (ic_c ia_h1004 (ic_c ia_h1005 (ic_c ia_h1006 (ic_c ia_h1007 (ic_c ia_h1008 (ic_c ia_h1009 (ic_c ia_h34 (ic_c ia_h126 (ic_c ia_h130 (ic_c ia_h134 (ic_c ia_h138 (ic_c ia_h142 (ic_c ia_h146 (ic_c ia_h150 (ic_c ia_h154 (ic_c ia_h977 (ic_c ia_h982 (ic_c ia_h983 (ic_c ia_h984 (ic_c ia_h985 (ic_c ia_h986 (ic_c ia_h987 (ic_c ia_h988 (ic_c ia_h156 (ic_c ia_h772 ic_n)))))))))))))))))))))))))))))))))))))))))))))))))))))))))))))))))))) (ic_inc (by decide +kernel)) (by decide +kernel) (by decide +kernel) (ic_ck (k := 8) 2 ia_m1310.2.2.2.2.2.2.2.2.2.2 (Nat.le_of_ble_eq_true (by decide +kernel)) (fun j hj => ?_))
  rw [← ib_ch_eq]
  match j, hj with
  | 0, _ => exact ia_h1310_0
  | 1, _ => exact ia_h1310_1
  | x + 2, h => exact absurd h (by omega)
-- FatVolume$Repairer.mend(LFatVolume$Folder;IZI)V((34,), 0, 1, 1, 2)
set_option maxRecDepth 100000 in
theorem ia_h1311 : ia_Holds ia_m1311 := ib_hold1 (cal := [ia_m31, ia_m26, ia_m25, ia_m1310, ia_m771]) (ic_c ia_h31 (ic_c ia_h26 (ic_c ia_h25 (ic_c ia_h1310 (ic_c ia_h771 ic_n))))) (ic_inc (by decide +kernel)) (by decide +kernel)
-- FatVolume$Repairer.mend(LFatVolume$Folder;IZI)V((34,), 1, 1, 1, 2)
set_option maxRecDepth 100000 in
theorem ia_h1312 : ia_Holds ia_m1312 := ib_hold1 (cal := [ia_m160, ia_m159, ia_m158, ia_m1310, ia_m771]) (ic_c ia_h160 (ic_c ia_h159 (ic_c ia_h158 (ic_c ia_h1310 (ic_c ia_h771 ic_n))))) (ic_inc (by decide +kernel)) (by decide +kernel)
-- FatVolume$Repairer.mend(LFatVolume$Folder;IZI)V((34,), 2, 1, 1, 2)
set_option maxRecDepth 100000 in
theorem ia_h1313 : ia_Holds ia_m1313 := ib_hold1 (cal := [ia_m164, ia_m163, ia_m162, ia_m1310, ia_m771]) (ic_c ia_h164 (ic_c ia_h163 (ic_c ia_h162 (ic_c ia_h1310 (ic_c ia_h771 ic_n))))) (ic_inc (by decide +kernel)) (by decide +kernel)
-- FatVolume$Repairer.mend(LFatVolume$Folder;IZI)V((34,), 3, 1, 1, 2)
set_option maxRecDepth 100000 in
theorem ia_h1314 : ia_Holds ia_m1314 := ib_hold1 (cal := [ia_m168, ia_m167, ia_m166, ia_m1310, ia_m771]) (ic_c ia_h168 (ic_c ia_h167 (ic_c ia_h166 (ic_c ia_h1310 (ic_c ia_h771 ic_n))))) (ic_inc (by decide +kernel)) (by decide +kernel)
-- FatVolume$Repairer.mend(LFatVolume$Folder;IZI)V((34,), 4, 1, 1, 2)
set_option maxRecDepth 100000 in
theorem ia_h1315 : ia_Holds ia_m1315 := ib_hold1 (cal := [ia_m172, ia_m171, ia_m170, ia_m1310, ia_m771]) (ic_c ia_h172 (ic_c ia_h171 (ic_c ia_h170 (ic_c ia_h1310 (ic_c ia_h771 ic_n))))) (ic_inc (by decide +kernel)) (by decide +kernel)
-- FatVolume$Repairer.mend(LFatVolume$Folder;IZI)V((34,), 5, 1, 1, 2)
set_option maxRecDepth 100000 in
theorem ia_h1316 : ia_Holds ia_m1316 := ib_hold1 (cal := [ia_m176, ia_m175, ia_m174, ia_m1310, ia_m771]) (ic_c ia_h176 (ic_c ia_h175 (ic_c ia_h174 (ic_c ia_h1310 (ic_c ia_h771 ic_n))))) (ic_inc (by decide +kernel)) (by decide +kernel)
-- FatVolume$Repairer.mend(LFatVolume$Folder;IZI)V((34,), 6, 1, 1, 2)
set_option maxRecDepth 100000 in
theorem ia_h1317 : ia_Holds ia_m1317 := ib_hold1 (cal := [ia_m180, ia_m179, ia_m178, ia_m1310, ia_m771]) (ic_c ia_h180 (ic_c ia_h179 (ic_c ia_h178 (ic_c ia_h1310 (ic_c ia_h771 ic_n))))) (ic_inc (by decide +kernel)) (by decide +kernel)
-- FatVolume$Repairer.mend(LFatVolume$Folder;IZI)V((34,), 7, 1, 1, 2)
set_option maxRecDepth 100000 in
theorem ia_h1318 : ia_Holds ia_m1318 := ib_hold1 (cal := [ia_m184, ia_m183, ia_m182, ia_m1310, ia_m771]) (ic_c ia_h184 (ic_c ia_h183 (ic_c ia_h182 (ic_c ia_h1310 (ic_c ia_h771 ic_n))))) (ic_inc (by decide +kernel)) (by decide +kernel)
-- FatVolume$Repairer.goThrough(II)V(1,)
def ia_c1319 : List ia_M := [ia_m25, ia_m158, ia_m162, ia_m166, ia_m170, ia_m174, ia_m178, ia_m182, ia_m186, ia_m1311, ia_m1312, ia_m1313, ia_m1314, ia_m1315, ia_m1316, ia_m1317, ia_m1318, ia_m855, ia_m857, ia_m859, ia_m861, ia_m863, ia_m865, ia_m867, ia_m869, ia_m1233, ia_m1234, ia_m1235, ia_m1236, ia_m1237, ia_m1238, ia_m1239, ia_m1240, ia_m854, ia_m856, ia_m858, ia_m860, ia_m862, ia_m864, ia_m866, ia_m868, ia_m976, ia_m1010, ia_m1011, ia_m1012, ia_m1013, ia_m1014, ia_m1015, ia_m1016, ia_m30, ia_m157, ia_m161, ia_m165, ia_m169, ia_m173, ia_m177, ia_m181, ia_m185, ia_m977, ia_m982, ia_m983, ia_m984, ia_m985, ia_m986, ia_m987, ia_m988, ia_m187, ia_m772]
theorem ia_h1319_0 : ib_ch ia_c1319 ia_m1319 ((ia_m1319.2.2.2.2.2.2.2.2.2.2.drop (8 * 0)).take 8) = true := by decide +kernel
theorem ia_h1319_1 : ib_ch ia_c1319 ia_m1319 ((ia_m1319.2.2.2.2.2.2.2.2.2.2.drop (8 * 1)).take 8) = true := by decide +kernel
set_option maxRecDepth 100000 in
theorem ia_h1319 : ia_Holds ia_m1319 := by
  refine ib_hold (cal := ia_c1319) (ic_c ia_h25 (ic_c ia_h158 (ic_c ia_h162 (ic_c ia_h166 (ic_c ia_h170 (ic_c ia_h174 (ic_c ia_h178 (ic_c ia_h182 (ic_c ia_h186 (ic_c ia_h1311 (ic_c ia_h1312 (ic_c ia_h1313 (ic_c ia_h1314 (ic_c ia_h1315 (ic_c ia_h1316 (ic_c ia_h1317 (ic_c ia_h1318 (ic_c ia_h855 (ic_c ia_h857 (ic_c ia_h859 (ic_c ia_h861 (ic_c ia_h863 (ic_c ia_h865 (ic_c ia_h867 (ic_c ia_h869 (ic_c ia_h1233 (ic_c ia_h1234 (ic_c ia_h1235 (ic_c ia_h1236 (ic_c ia_h1237 (ic_c ia_h1238 (ic_c ia_h1239 (ic_c ia_h1240 (ic_c ia_h854 (ic_c ia_h856 (ic_c ia_h858 (ic_c ia_h860 (ic_c ia_h862 (ic_c ia_h864 (ic_c ia_h866 (ic_c ia_h868 (ic_c ia_h976 (ic_c ia_h1010 (ic_c ia_h1011 (ic_c ia_h1012 (ic_c ia_h1013 (ic_c ia_h1014 (ic_c ia_h1015 (ic_c ia_h1016 (ic_c ia_h30 (ic_c ia_h157 (ic_c ia_h161 (ic_c ia_h165 (ic_c ia_h169 (ic_c ia_h173 (ic_c ia_h177 (ic_c ia_h181 (ic_c ia_h185 (ic_c ia_h977 (ic_c ia_h982 (ic_c ia_h983 (ic_c ia_h984 (ic_c ia_h985 (ic_c ia_h986 (ic_c ia_h987 (ic_c ia_h988 (ic_c ia_h187 (ic_c ia_h772 ic_n)))))))))))))))))))))))))))))))))))))))))))))))))))))))))))))))))))) (ic_inc (by decide +kernel)) (by decide +kernel) (by decide +kernel) (ic_ck (k := 8) 2 ia_m1319.2.2.2.2.2.2.2.2.2.2 (Nat.le_of_ble_eq_true (by decide +kernel)) (fun j hj => ?_))
  rw [← ib_ch_eq]
  match j, hj with
  | 0, _ => exact ia_h1319_0
  | 1, _ => exact ia_h1319_1
  | x + 2, h => exact absurd h (by omega)
-- FatVolume$Repairer.run()I()
set_option maxRecDepth 100000 in
theorem ia_h1320 : ia_Holds ia_m1320 := ib_hold1 (cal := [ia_m14, ia_m870, ia_m22, ia_m188, ia_m771, ia_m1319]) (ic_c ia_h14 (ic_c ia_h870 (ic_c ia_h22 (ic_c ia_h188 (ic_c ia_h771 (ic_c ia_h1319 ic_n)))))) (ic_inc (by decide +kernel)) (by decide +kernel)
-- FatVolume.repair()I()
set_option maxRecDepth 100000 in
theorem ia_h1321 : ia_Holds ia_m1321 := ib_hold1 (cal := [ia_m770, ia_m1320]) (ic_c ia_h770 (ic_c ia_h1320 ic_n)) (ic_inc (by decide +kernel)) (by decide +kernel)
-- FatVolumeLaw.repair(LFatVolume;[J)I()
set_option maxRecDepth 100000 in
theorem ia_h1322 : ia_Holds ia_m1322 := ib_hold1 (cal := [ia_m1321]) (ic_c ia_h1321 ic_n) (ic_inc (by decide +kernel)) (by decide +kernel)
