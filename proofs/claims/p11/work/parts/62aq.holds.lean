/-! the checks -/
-- FatVolumeModel.mend(II)Z(2, 7)
def ia_c1197 : List ia_M := [ia_m258, ia_m266, ia_m274, ia_m282, ia_m290, ia_m298, ia_m306, ia_m314, ia_m322, ia_m330, ia_m338, ia_m346, ia_m354, ia_m362, ia_m370, ia_m378, ia_m386, ia_m394, ia_m402, ia_m410, ia_m418, ia_m426, ia_m434, ia_m442, ia_m450, ia_m458, ia_m466, ia_m474, ia_m482, ia_m490, ia_m498, ia_m506, ia_m729, ia_m730, ia_m731, ia_m732, ia_m733, ia_m734, ia_m735, ia_m736, ia_m737, ia_m738, ia_m739, ia_m740, ia_m741, ia_m742, ia_m743, ia_m744, ia_m745, ia_m746, ia_m747, ia_m748, ia_m749, ia_m750, ia_m751, ia_m752, ia_m753, ia_m754, ia_m755, ia_m756, ia_m757, ia_m758, ia_m759, ia_m760, ia_m1053, ia_m536, ia_m1062, ia_m255, ia_m973]
theorem ia_h1197_0 : ib_ch ia_c1197 ia_m1197 ((ia_m1197.2.2.2.2.2.2.2.2.2.2.drop (8 * 0)).take 8) = true := by decide +kernel
theorem ia_h1197_1 : ib_ch ia_c1197 ia_m1197 ((ia_m1197.2.2.2.2.2.2.2.2.2.2.drop (8 * 1)).take 8) = true := by decide +kernel
theorem ia_h1197_2 : ib_ch ia_c1197 ia_m1197 ((ia_m1197.2.2.2.2.2.2.2.2.2.2.drop (8 * 2)).take 8) = true := by decide +kernel
theorem ia_h1197_3 : ib_ch ia_c1197 ia_m1197 ((ia_m1197.2.2.2.2.2.2.2.2.2.2.drop (8 * 3)).take 8) = true := by decide +kernel
theorem ia_h1197_4 : ib_ch ia_c1197 ia_m1197 ((ia_m1197.2.2.2.2.2.2.2.2.2.2.drop (8 * 4)).take 8) = true := by decide +kernel
theorem ia_h1197_5 : ib_ch ia_c1197 ia_m1197 ((ia_m1197.2.2.2.2.2.2.2.2.2.2.drop (8 * 5)).take 8) = true := by decide +kernel
theorem ia_h1197_6 : ib_ch ia_c1197 ia_m1197 ((ia_m1197.2.2.2.2.2.2.2.2.2.2.drop (8 * 6)).take 8) = true := by decide +kernel
theorem ia_h1197_7 : ib_ch ia_c1197 ia_m1197 ((ia_m1197.2.2.2.2.2.2.2.2.2.2.drop (8 * 7)).take 8) = true := by decide +kernel
theorem ia_h1197_8 : ib_ch ia_c1197 ia_m1197 ((ia_m1197.2.2.2.2.2.2.2.2.2.2.drop (8 * 8)).take 8) = true := by decide +kernel
theorem ia_h1197 : ia_Holds ia_m1197 := by
  refine ib_hold (cal := ia_c1197) (ic_c ia_h258 (ic_c ia_h266 (ic_c ia_h274 (ic_c ia_h282 (ic_c ia_h290 (ic_c ia_h298 (ic_c ia_h306 (ic_c ia_h314 (ic_c ia_h322 (ic_c ia_h330 (ic_c ia_h338 (ic_c ia_h346 (ic_c ia_h354 (ic_c ia_h362 (ic_c ia_h370 (ic_c ia_h378 (ic_c ia_h386 (ic_c ia_h394 (ic_c ia_h402 (ic_c ia_h410 (ic_c ia_h418 (ic_c ia_h426 (ic_c ia_h434 (ic_c ia_h442 (ic_c ia_h450 (ic_c ia_h458 (ic_c ia_h466 (ic_c ia_h474 (ic_c ia_h482 (ic_c ia_h490 (ic_c ia_h498 (ic_c ia_h506 (ic_c ia_h729 (ic_c ia_h730 (ic_c ia_h731 (ic_c ia_h732 (ic_c ia_h733 (ic_c ia_h734 (ic_c ia_h735 (ic_c ia_h736 (ic_c ia_h737 (ic_c ia_h738 (ic_c ia_h739 (ic_c ia_h740 (ic_c ia_h741 (ic_c ia_h742 (ic_c ia_h743 (ic_c ia_h744 (ic_c ia_h745 (ic_c ia_h746 (ic_c ia_h747 (ic_c ia_h748 (ic_c ia_h749 (ic_c ia_h750 (ic_c ia_h751 (ic_c ia_h752 (ic_c ia_h753 (ic_c ia_h754 (ic_c ia_h755 (ic_c ia_h756 (ic_c ia_h757 (ic_c ia_h758 (ic_c ia_h759 (ic_c ia_h760 (ic_c ia_h1053 (ic_c ia_h536 (ic_c ia_h1062 (ic_c ia_h255 (ic_c ia_h973 ic_n))))))))))))))))))))))))))))))))))))))))))))))))))))))))))))))))))))) (ic_inc (by decide +kernel)) (by decide +kernel) (by decide +kernel) (ic_ck (k := 8) 9 ia_m1197.2.2.2.2.2.2.2.2.2.2 (Nat.le_of_ble_eq_true (by decide +kernel)) (fun j hj => ?_))
  rw [← ib_ch_eq]
  match j, hj with
  | 0, _ => exact ia_h1197_0
  | 1, _ => exact ia_h1197_1
  | 2, _ => exact ia_h1197_2
  | 3, _ => exact ia_h1197_3
  | 4, _ => exact ia_h1197_4
  | 5, _ => exact ia_h1197_5
  | 6, _ => exact ia_h1197_6
  | 7, _ => exact ia_h1197_7
  | 8, _ => exact ia_h1197_8
  | x + 9, h => exact absurd h (by omega)
-- FatVolumeModel.mend(II)Z(4, 6)
theorem ia_h1198 : ia_Holds ia_m1198 := ib_hold1 (cal := [ia_m1052, ia_m536, ia_m1062, ia_m255]) (ic_c ia_h1052 (ic_c ia_h536 (ic_c ia_h1062 (ic_c ia_h255 ic_n)))) (ic_inc (by decide +kernel)) (by decide +kernel)
-- FatVolumeModel.mend(II)Z(3, 7)
def ia_c1199 : List ia_M := [ia_m258, ia_m266, ia_m274, ia_m282, ia_m290, ia_m298, ia_m306, ia_m314, ia_m322, ia_m330, ia_m338, ia_m346, ia_m354, ia_m362, ia_m370, ia_m378, ia_m386, ia_m394, ia_m402, ia_m410, ia_m418, ia_m426, ia_m434, ia_m442, ia_m450, ia_m458, ia_m466, ia_m474, ia_m482, ia_m490, ia_m498, ia_m506, ia_m729, ia_m730, ia_m731, ia_m732, ia_m733, ia_m734, ia_m735, ia_m736, ia_m737, ia_m738, ia_m739, ia_m740, ia_m741, ia_m742, ia_m743, ia_m744, ia_m745, ia_m746, ia_m747, ia_m748, ia_m749, ia_m750, ia_m751, ia_m752, ia_m753, ia_m754, ia_m755, ia_m756, ia_m757, ia_m758, ia_m759, ia_m760, ia_m1053, ia_m536, ia_m1062, ia_m255, ia_m973]
theorem ia_h1199_0 : ib_ch ia_c1199 ia_m1199 ((ia_m1199.2.2.2.2.2.2.2.2.2.2.drop (8 * 0)).take 8) = true := by decide +kernel
theorem ia_h1199_1 : ib_ch ia_c1199 ia_m1199 ((ia_m1199.2.2.2.2.2.2.2.2.2.2.drop (8 * 1)).take 8) = true := by decide +kernel
theorem ia_h1199_2 : ib_ch ia_c1199 ia_m1199 ((ia_m1199.2.2.2.2.2.2.2.2.2.2.drop (8 * 2)).take 8) = true := by decide +kernel
theorem ia_h1199_3 : ib_ch ia_c1199 ia_m1199 ((ia_m1199.2.2.2.2.2.2.2.2.2.2.drop (8 * 3)).take 8) = true := by decide +kernel
theorem ia_h1199_4 : ib_ch ia_c1199 ia_m1199 ((ia_m1199.2.2.2.2.2.2.2.2.2.2.drop (8 * 4)).take 8) = true := by decide +kernel
theorem ia_h1199_5 : ib_ch ia_c1199 ia_m1199 ((ia_m1199.2.2.2.2.2.2.2.2.2.2.drop (8 * 5)).take 8) = true := by decide +kernel
theorem ia_h1199_6 : ib_ch ia_c1199 ia_m1199 ((ia_m1199.2.2.2.2.2.2.2.2.2.2.drop (8 * 6)).take 8) = true := by decide +kernel
theorem ia_h1199_7 : ib_ch ia_c1199 ia_m1199 ((ia_m1199.2.2.2.2.2.2.2.2.2.2.drop (8 * 7)).take 8) = true := by decide +kernel
theorem ia_h1199_8 : ib_ch ia_c1199 ia_m1199 ((ia_m1199.2.2.2.2.2.2.2.2.2.2.drop (8 * 8)).take 8) = true := by decide +kernel
theorem ia_h1199 : ia_Holds ia_m1199 := by
  refine ib_hold (cal := ia_c1199) (ic_c ia_h258 (ic_c ia_h266 (ic_c ia_h274 (ic_c ia_h282 (ic_c ia_h290 (ic_c ia_h298 (ic_c ia_h306 (ic_c ia_h314 (ic_c ia_h322 (ic_c ia_h330 (ic_c ia_h338 (ic_c ia_h346 (ic_c ia_h354 (ic_c ia_h362 (ic_c ia_h370 (ic_c ia_h378 (ic_c ia_h386 (ic_c ia_h394 (ic_c ia_h402 (ic_c ia_h410 (ic_c ia_h418 (ic_c ia_h426 (ic_c ia_h434 (ic_c ia_h442 (ic_c ia_h450 (ic_c ia_h458 (ic_c ia_h466 (ic_c ia_h474 (ic_c ia_h482 (ic_c ia_h490 (ic_c ia_h498 (ic_c ia_h506 (ic_c ia_h729 (ic_c ia_h730 (ic_c ia_h731 (ic_c ia_h732 (ic_c ia_h733 (ic_c ia_h734 (ic_c ia_h735 (ic_c ia_h736 (ic_c ia_h737 (ic_c ia_h738 (ic_c ia_h739 (ic_c ia_h740 (ic_c ia_h741 (ic_c ia_h742 (ic_c ia_h743 (ic_c ia_h744 (ic_c ia_h745 (ic_c ia_h746 (ic_c ia_h747 (ic_c ia_h748 (ic_c ia_h749 (ic_c ia_h750 (ic_c ia_h751 (ic_c ia_h752 (ic_c ia_h753 (ic_c ia_h754 (ic_c ia_h755 (ic_c ia_h756 (ic_c ia_h757 (ic_c ia_h758 (ic_c ia_h759 (ic_c ia_h760 (ic_c ia_h1053 (ic_c ia_h536 (ic_c ia_h1062 (ic_c ia_h255 (ic_c ia_h973 ic_n))))))))))))))))))))))))))))))))))))))))))))))))))))))))))))))))))))) (ic_inc (by decide +kernel)) (by decide +kernel) (by decide +kernel) (ic_ck (k := 8) 9 ia_m1199.2.2.2.2.2.2.2.2.2.2 (Nat.le_of_ble_eq_true (by decide +kernel)) (fun j hj => ?_))
  rw [← ib_ch_eq]
  match j, hj with
  | 0, _ => exact ia_h1199_0
  | 1, _ => exact ia_h1199_1
  | 2, _ => exact ia_h1199_2
  | 3, _ => exact ia_h1199_3
  | 4, _ => exact ia_h1199_4
  | 5, _ => exact ia_h1199_5
  | 6, _ => exact ia_h1199_6
  | 7, _ => exact ia_h1199_7
  | 8, _ => exact ia_h1199_8
  | x + 9, h => exact absurd h (by omega)
-- FatVolumeModel.mend(II)Z(4, 7)
theorem ia_h1200 : ia_Holds ia_m1200 := ib_hold1 (cal := [ia_m1053, ia_m536, ia_m1062, ia_m255]) (ic_c ia_h1053 (ic_c ia_h536 (ic_c ia_h1062 (ic_c ia_h255 ic_n)))) (ic_inc (by decide +kernel)) (by decide +kernel)
-- FatVolume$Repairer.mend(LFatVolume$Folder;IZI)V((42,), 0, 1, 5, 1)
theorem ia_h1201 : ia_Holds ia_m1201 := ib_hold1 (cal := [ia_m44, ia_m1064]) (ic_c ia_h44 (ic_c ia_h1064 ic_n)) (ic_inc (by decide +kernel)) (by decide +kernel)
-- FatVolume$Repairer.mend(LFatVolume$Folder;IZI)V((42,), 1, 1, 5, 1)
theorem ia_h1202 : ia_Holds ia_m1202 := ib_hold1 (cal := [ia_m48, ia_m1064]) (ic_c ia_h48 (ic_c ia_h1064 ic_n)) (ic_inc (by decide +kernel)) (by decide +kernel)
-- FatVolume$Repairer.mend(LFatVolume$Folder;IZI)V((42,), 2, 1, 5, 1)
theorem ia_h1203 : ia_Holds ia_m1203 := ib_hold1 (cal := [ia_m50, ia_m1064]) (ic_c ia_h50 (ic_c ia_h1064 ic_n)) (ic_inc (by decide +kernel)) (by decide +kernel)
-- FatVolume$Repairer.mend(LFatVolume$Folder;IZI)V((42,), 3, 1, 5, 1)
theorem ia_h1204 : ia_Holds ia_m1204 := ib_hold1 (cal := [ia_m52, ia_m1064]) (ic_c ia_h52 (ic_c ia_h1064 ic_n)) (ic_inc (by decide +kernel)) (by decide +kernel)
-- FatVolume$Repairer.mend(LFatVolume$Folder;IZI)V((42,), 4, 1, 5, 1)
theorem ia_h1205 : ia_Holds ia_m1205 := ib_hold1 (cal := [ia_m54, ia_m1064]) (ic_c ia_h54 (ic_c ia_h1064 ic_n)) (ic_inc (by decide +kernel)) (by decide +kernel)
-- FatVolume$Repairer.mend(LFatVolume$Folder;IZI)V((42,), 5, 1, 5, 1)
theorem ia_h1206 : ia_Holds ia_m1206 := ib_hold1 (cal := [ia_m56, ia_m1064]) (ic_c ia_h56 (ic_c ia_h1064 ic_n)) (ic_inc (by decide +kernel)) (by decide +kernel)
-- FatVolume$Repairer.mend(LFatVolume$Folder;IZI)V((42,), 6, 1, 5, 1)
theorem ia_h1207 : ia_Holds ia_m1207 := ib_hold1 (cal := [ia_m58, ia_m1064]) (ic_c ia_h58 (ic_c ia_h1064 ic_n)) (ic_inc (by decide +kernel)) (by decide +kernel)
-- FatVolume$Repairer.mend(LFatVolume$Folder;IZI)V((42,), 7, 1, 5, 1)
theorem ia_h1208 : ia_Holds ia_m1208 := ib_hold1 (cal := [ia_m60, ia_m1064]) (ic_c ia_h60 (ic_c ia_h1064 ic_n)) (ic_inc (by decide +kernel)) (by decide +kernel)
-- FatVolume$Repairer.mend(LFatVolume$Folder;IZI)V((40,), 0, 1, 4, 1)
theorem ia_h1209 : ia_Holds ia_m1209 := ib_hold1 (cal := [ia_m40, ia_m1064]) (ic_c ia_h40 (ic_c ia_h1064 ic_n)) (ic_inc (by decide +kernel)) (by decide +kernel)
-- FatVolume$Repairer.mend(LFatVolume$Folder;IZI)V((40,), 1, 1, 4, 1)
theorem ia_h1210 : ia_Holds ia_m1210 := ib_hold1 (cal := [ia_m65, ia_m1064]) (ic_c ia_h65 (ic_c ia_h1064 ic_n)) (ic_inc (by decide +kernel)) (by decide +kernel)
-- FatVolume$Repairer.mend(LFatVolume$Folder;IZI)V((40,), 2, 1, 4, 1)
theorem ia_h1211 : ia_Holds ia_m1211 := ib_hold1 (cal := [ia_m69, ia_m1064]) (ic_c ia_h69 (ic_c ia_h1064 ic_n)) (ic_inc (by decide +kernel)) (by decide +kernel)
-- FatVolume$Repairer.mend(LFatVolume$Folder;IZI)V((40,), 3, 1, 4, 1)
theorem ia_h1212 : ia_Holds ia_m1212 := ib_hold1 (cal := [ia_m73, ia_m1064]) (ic_c ia_h73 (ic_c ia_h1064 ic_n)) (ic_inc (by decide +kernel)) (by decide +kernel)
-- FatVolume$Repairer.mend(LFatVolume$Folder;IZI)V((40,), 4, 1, 4, 1)
theorem ia_h1213 : ia_Holds ia_m1213 := ib_hold1 (cal := [ia_m77, ia_m1064]) (ic_c ia_h77 (ic_c ia_h1064 ic_n)) (ic_inc (by decide +kernel)) (by decide +kernel)
-- FatVolume$Repairer.mend(LFatVolume$Folder;IZI)V((40,), 5, 1, 4, 1)
theorem ia_h1214 : ia_Holds ia_m1214 := ib_hold1 (cal := [ia_m81, ia_m1064]) (ic_c ia_h81 (ic_c ia_h1064 ic_n)) (ic_inc (by decide +kernel)) (by decide +kernel)
-- FatVolume$Repairer.mend(LFatVolume$Folder;IZI)V((40,), 6, 1, 4, 1)
theorem ia_h1215 : ia_Holds ia_m1215 := ib_hold1 (cal := [ia_m85, ia_m1064]) (ic_c ia_h85 (ic_c ia_h1064 ic_n)) (ic_inc (by decide +kernel)) (by decide +kernel)
-- FatVolume$Repairer.mend(LFatVolume$Folder;IZI)V((40,), 7, 1, 4, 1)
theorem ia_h1216 : ia_Holds ia_m1216 := ib_hold1 (cal := [ia_m89, ia_m1064]) (ic_c ia_h89 (ic_c ia_h1064 ic_n)) (ic_inc (by decide +kernel)) (by decide +kernel)
-- FatVolume$Repairer.mend(LFatVolume$Folder;IZI)V((38,), 0, 1, 3, 1)
theorem ia_h1217 : ia_Holds ia_m1217 := ib_hold1 (cal := [ia_m36, ia_m1064]) (ic_c ia_h36 (ic_c ia_h1064 ic_n)) (ic_inc (by decide +kernel)) (by decide +kernel)
-- FatVolume$Repairer.mend(LFatVolume$Folder;IZI)V((38,), 1, 1, 3, 1)
theorem ia_h1218 : ia_Holds ia_m1218 := ib_hold1 (cal := [ia_m96, ia_m1064]) (ic_c ia_h96 (ic_c ia_h1064 ic_n)) (ic_inc (by decide +kernel)) (by decide +kernel)
-- FatVolume$Repairer.mend(LFatVolume$Folder;IZI)V((38,), 2, 1, 3, 1)
theorem ia_h1219 : ia_Holds ia_m1219 := ib_hold1 (cal := [ia_m100, ia_m1064]) (ic_c ia_h100 (ic_c ia_h1064 ic_n)) (ic_inc (by decide +kernel)) (by decide +kernel)
-- FatVolume$Repairer.mend(LFatVolume$Folder;IZI)V((38,), 3, 1, 3, 1)
theorem ia_h1220 : ia_Holds ia_m1220 := ib_hold1 (cal := [ia_m104, ia_m1064]) (ic_c ia_h104 (ic_c ia_h1064 ic_n)) (ic_inc (by decide +kernel)) (by decide +kernel)
-- FatVolume$Repairer.mend(LFatVolume$Folder;IZI)V((38,), 4, 1, 3, 1)
theorem ia_h1221 : ia_Holds ia_m1221 := ib_hold1 (cal := [ia_m108, ia_m1064]) (ic_c ia_h108 (ic_c ia_h1064 ic_n)) (ic_inc (by decide +kernel)) (by decide +kernel)
-- FatVolume$Repairer.mend(LFatVolume$Folder;IZI)V((38,), 5, 1, 3, 1)
theorem ia_h1222 : ia_Holds ia_m1222 := ib_hold1 (cal := [ia_m112, ia_m1064]) (ic_c ia_h112 (ic_c ia_h1064 ic_n)) (ic_inc (by decide +kernel)) (by decide +kernel)
-- FatVolume$Repairer.mend(LFatVolume$Folder;IZI)V((38,), 6, 1, 3, 1)
theorem ia_h1223 : ia_Holds ia_m1223 := ib_hold1 (cal := [ia_m116, ia_m1064]) (ic_c ia_h116 (ic_c ia_h1064 ic_n)) (ic_inc (by decide +kernel)) (by decide +kernel)
-- FatVolume$Repairer.mend(LFatVolume$Folder;IZI)V((38,), 7, 1, 3, 1)
theorem ia_h1224 : ia_Holds ia_m1224 := ib_hold1 (cal := [ia_m120, ia_m1064]) (ic_c ia_h120 (ic_c ia_h1064 ic_n)) (ic_inc (by decide +kernel)) (by decide +kernel)
-- FatVolume$Repairer.mend(LFatVolume$Folder;IZI)V((36,), 0, 1, 2, 1)
theorem ia_h1225 : ia_Holds ia_m1225 := ib_hold1 (cal := [ia_m32, ia_m1064]) (ic_c ia_h32 (ic_c ia_h1064 ic_n)) (ic_inc (by decide +kernel)) (by decide +kernel)
-- FatVolume$Repairer.mend(LFatVolume$Folder;IZI)V((36,), 1, 1, 2, 1)
theorem ia_h1226 : ia_Holds ia_m1226 := ib_hold1 (cal := [ia_m127, ia_m1064]) (ic_c ia_h127 (ic_c ia_h1064 ic_n)) (ic_inc (by decide +kernel)) (by decide +kernel)
-- FatVolume$Repairer.mend(LFatVolume$Folder;IZI)V((36,), 2, 1, 2, 1)
theorem ia_h1227 : ia_Holds ia_m1227 := ib_hold1 (cal := [ia_m131, ia_m1064]) (ic_c ia_h131 (ic_c ia_h1064 ic_n)) (ic_inc (by decide +kernel)) (by decide +kernel)
-- FatVolume$Repairer.mend(LFatVolume$Folder;IZI)V((36,), 3, 1, 2, 1)
theorem ia_h1228 : ia_Holds ia_m1228 := ib_hold1 (cal := [ia_m135, ia_m1064]) (ic_c ia_h135 (ic_c ia_h1064 ic_n)) (ic_inc (by decide +kernel)) (by decide +kernel)
-- FatVolume$Repairer.mend(LFatVolume$Folder;IZI)V((36,), 4, 1, 2, 1)
theorem ia_h1229 : ia_Holds ia_m1229 := ib_hold1 (cal := [ia_m139, ia_m1064]) (ic_c ia_h139 (ic_c ia_h1064 ic_n)) (ic_inc (by decide +kernel)) (by decide +kernel)
-- FatVolume$Repairer.mend(LFatVolume$Folder;IZI)V((36,), 5, 1, 2, 1)
theorem ia_h1230 : ia_Holds ia_m1230 := ib_hold1 (cal := [ia_m143, ia_m1064]) (ic_c ia_h143 (ic_c ia_h1064 ic_n)) (ic_inc (by decide +kernel)) (by decide +kernel)
-- FatVolume$Repairer.mend(LFatVolume$Folder;IZI)V((36,), 6, 1, 2, 1)
theorem ia_h1231 : ia_Holds ia_m1231 := ib_hold1 (cal := [ia_m147, ia_m1064]) (ic_c ia_h147 (ic_c ia_h1064 ic_n)) (ic_inc (by decide +kernel)) (by decide +kernel)
-- FatVolume$Repairer.mend(LFatVolume$Folder;IZI)V((36,), 7, 1, 2, 1)
theorem ia_h1232 : ia_Holds ia_m1232 := ib_hold1 (cal := [ia_m151, ia_m1064]) (ic_c ia_h151 (ic_c ia_h1064 ic_n)) (ic_inc (by decide +kernel)) (by decide +kernel)
-- FatVolume$Repairer.mend(LFatVolume$Folder;IZI)V((34,), 0, 1, 1, 1)
theorem ia_h1233 : ia_Holds ia_m1233 := ib_hold1 (cal := [ia_m25, ia_m1064]) (ic_c ia_h25 (ic_c ia_h1064 ic_n)) (ic_inc (by decide +kernel)) (by decide +kernel)
-- FatVolume$Repairer.mend(LFatVolume$Folder;IZI)V((34,), 1, 1, 1, 1)
theorem ia_h1234 : ia_Holds ia_m1234 := ib_hold1 (cal := [ia_m158, ia_m1064]) (ic_c ia_h158 (ic_c ia_h1064 ic_n)) (ic_inc (by decide +kernel)) (by decide +kernel)
-- FatVolume$Repairer.mend(LFatVolume$Folder;IZI)V((34,), 2, 1, 1, 1)
theorem ia_h1235 : ia_Holds ia_m1235 := ib_hold1 (cal := [ia_m162, ia_m1064]) (ic_c ia_h162 (ic_c ia_h1064 ic_n)) (ic_inc (by decide +kernel)) (by decide +kernel)
-- FatVolume$Repairer.mend(LFatVolume$Folder;IZI)V((34,), 3, 1, 1, 1)
theorem ia_h1236 : ia_Holds ia_m1236 := ib_hold1 (cal := [ia_m166, ia_m1064]) (ic_c ia_h166 (ic_c ia_h1064 ic_n)) (ic_inc (by decide +kernel)) (by decide +kernel)
-- FatVolume$Repairer.mend(LFatVolume$Folder;IZI)V((34,), 4, 1, 1, 1)
theorem ia_h1237 : ia_Holds ia_m1237 := ib_hold1 (cal := [ia_m170, ia_m1064]) (ic_c ia_h170 (ic_c ia_h1064 ic_n)) (ic_inc (by decide +kernel)) (by decide +kernel)
-- FatVolume$Repairer.mend(LFatVolume$Folder;IZI)V((34,), 5, 1, 1, 1)
theorem ia_h1238 : ia_Holds ia_m1238 := ib_hold1 (cal := [ia_m174, ia_m1064]) (ic_c ia_h174 (ic_c ia_h1064 ic_n)) (ic_inc (by decide +kernel)) (by decide +kernel)
-- FatVolume$Repairer.mend(LFatVolume$Folder;IZI)V((34,), 6, 1, 1, 1)
theorem ia_h1239 : ia_Holds ia_m1239 := ib_hold1 (cal := [ia_m178, ia_m1064]) (ic_c ia_h178 (ic_c ia_h1064 ic_n)) (ic_inc (by decide +kernel)) (by decide +kernel)
-- FatVolume$Repairer.mend(LFatVolume$Folder;IZI)V((34,), 7, 1, 1, 1)
theorem ia_h1240 : ia_Holds ia_m1240 := ib_hold1 (cal := [ia_m182, ia_m1064]) (ic_c ia_h182 (ic_c ia_h1064 ic_n)) (ic_inc (by decide +kernel)) (by decide +kernel)
-- FatVolume$Folder.find(LFatVolume$Buffer;I)I(0,)
theorem ia_h1241 : ia_Holds ia_m1241 := ib_hold1 (cal := [ia_m1065, ia_m1066, ia_m1067, ia_m1068, ia_m1069, ia_m1070, ia_m1071, ia_m1072, ia_m871, ia_m1018]) (ic_c ia_h1065 (ic_c ia_h1066 (ic_c ia_h1067 (ic_c ia_h1068 (ic_c ia_h1069 (ic_c ia_h1070 (ic_c ia_h1071 (ic_c ia_h1072 (ic_c ia_h871 (ic_c ia_h1018 ic_n)))))))))) (ic_inc (by decide +kernel)) (by decide +kernel)
-- FatVolume$Folder.find(LFatVolume$Buffer;I)I(1,)
theorem ia_h1242 : ia_Holds ia_m1242 := ib_hold1 (cal := [ia_m1073, ia_m1074, ia_m1075, ia_m1076, ia_m1077, ia_m1078, ia_m1079, ia_m1080, ia_m871, ia_m1019]) (ic_c ia_h1073 (ic_c ia_h1074 (ic_c ia_h1075 (ic_c ia_h1076 (ic_c ia_h1077 (ic_c ia_h1078 (ic_c ia_h1079 (ic_c ia_h1080 (ic_c ia_h871 (ic_c ia_h1019 ic_n)))))))))) (ic_inc (by decide +kernel)) (by decide +kernel)
-- FatVolume$Folder.find(LFatVolume$Buffer;I)I(2,)
theorem ia_h1243 : ia_Holds ia_m1243 := ib_hold1 (cal := [ia_m1081, ia_m1082, ia_m1083, ia_m1084, ia_m1085, ia_m1086, ia_m1087, ia_m1088, ia_m871, ia_m1020]) (ic_c ia_h1081 (ic_c ia_h1082 (ic_c ia_h1083 (ic_c ia_h1084 (ic_c ia_h1085 (ic_c ia_h1086 (ic_c ia_h1087 (ic_c ia_h1088 (ic_c ia_h871 (ic_c ia_h1020 ic_n)))))))))) (ic_inc (by decide +kernel)) (by decide +kernel)
-- FatVolume$Folder.find(LFatVolume$Buffer;I)I(3,)
theorem ia_h1244 : ia_Holds ia_m1244 := ib_hold1 (cal := [ia_m1089, ia_m1090, ia_m1091, ia_m1092, ia_m1093, ia_m1094, ia_m1095, ia_m1096, ia_m871, ia_m1021]) (ic_c ia_h1089 (ic_c ia_h1090 (ic_c ia_h1091 (ic_c ia_h1092 (ic_c ia_h1093 (ic_c ia_h1094 (ic_c ia_h1095 (ic_c ia_h1096 (ic_c ia_h871 (ic_c ia_h1021 ic_n)))))))))) (ic_inc (by decide +kernel)) (by decide +kernel)
-- FatVolumeModel.find(II)I(0,)
theorem ia_h1245 : ia_Holds ia_m1245 := ib_hold1 (cal := [ia_m1046, ia_m1125, ia_m1126, ia_m1127, ia_m1128, ia_m1129, ia_m1130, ia_m1131, ia_m923]) (ic_c ia_h1046 (ic_c ia_h1125 (ic_c ia_h1126 (ic_c ia_h1127 (ic_c ia_h1128 (ic_c ia_h1129 (ic_c ia_h1130 (ic_c ia_h1131 (ic_c ia_h923 ic_n))))))))) (ic_inc (by decide +kernel)) (by decide +kernel)
-- FatVolumeModel.find(II)I(1,)
theorem ia_h1246 : ia_Holds ia_m1246 := ib_hold1 (cal := [ia_m1054, ia_m1132, ia_m1133, ia_m1134, ia_m1135, ia_m1136, ia_m1137, ia_m1138, ia_m923]) (ic_c ia_h1054 (ic_c ia_h1132 (ic_c ia_h1133 (ic_c ia_h1134 (ic_c ia_h1135 (ic_c ia_h1136 (ic_c ia_h1137 (ic_c ia_h1138 (ic_c ia_h923 ic_n))))))))) (ic_inc (by decide +kernel)) (by decide +kernel)
