/-! the checks -/
-- FatVolumeModel.named(III)Z(3, 3)
theorem ia_h1148 : ia_Holds ia_m1148 := ib_hold1 (cal := [ia_m1049, ia_m957, ia_m958, ia_m959]) (ic_c ia_h1049 (ic_c ia_h957 (ic_c ia_h958 (ic_c ia_h959 ic_n)))) (ic_inc (by decide +kernel)) (by decide +kernel)
-- FatVolumeModel.named(III)Z(3, 4)
theorem ia_h1149 : ia_Holds ia_m1149 := ib_hold1 (cal := [ia_m1050, ia_m958, ia_m959, ia_m960]) (ic_c ia_h1050 (ic_c ia_h958 (ic_c ia_h959 (ic_c ia_h960 ic_n)))) (ic_inc (by decide +kernel)) (by decide +kernel)
-- FatVolumeModel.named(III)Z(3, 5)
theorem ia_h1150 : ia_Holds ia_m1150 := ib_hold1 (cal := [ia_m1051, ia_m959, ia_m960, ia_m961]) (ic_c ia_h1051 (ic_c ia_h959 (ic_c ia_h960 (ic_c ia_h961 ic_n)))) (ic_inc (by decide +kernel)) (by decide +kernel)
-- FatVolumeModel.named(III)Z(3, 6)
theorem ia_h1151 : ia_Holds ia_m1151 := ib_hold1 (cal := [ia_m1052, ia_m962, ia_m960, ia_m961]) (ic_c ia_h1052 (ic_c ia_h962 (ic_c ia_h960 (ic_c ia_h961 ic_n)))) (ic_inc (by decide +kernel)) (by decide +kernel)
-- FatVolumeModel.named(III)Z(3, 7)
theorem ia_h1152 : ia_Holds ia_m1152 := ib_hold1 (cal := [ia_m963, ia_m1053, ia_m962, ia_m961]) (ic_c ia_h963 (ic_c ia_h1053 (ic_c ia_h962 (ic_c ia_h961 ic_n)))) (ic_inc (by decide +kernel)) (by decide +kernel)
-- FatVolumeModel.store(III)I((5413, 3),)
theorem ia_h1153 : ia_Holds ia_m1153 := ib_hold1 (cal := [ia_m515, ia_m1057, ia_m965, ia_m966]) (ic_c ia_h515 (ic_c ia_h1057 (ic_c ia_h965 (ic_c ia_h966 ic_n)))) (ic_inc (by decide +kernel)) (by decide +kernel)
-- FatVolumeModel.store(III)I((5413, 2),)
theorem ia_h1154 : ia_Holds ia_m1154 := ib_hold1 (cal := [ia_m519, ia_m1058, ia_m965, ia_m966]) (ic_c ia_h519 (ic_c ia_h1058 (ic_c ia_h965 (ic_c ia_h966 ic_n)))) (ic_inc (by decide +kernel)) (by decide +kernel)
-- FatVolumeModel.store(III)I((5413, 1),)
theorem ia_h1155 : ia_Holds ia_m1155 := ib_hold1 (cal := [ia_m520, ia_m1059, ia_m965, ia_m966]) (ic_c ia_h520 (ic_c ia_h1059 (ic_c ia_h965 (ic_c ia_h966 ic_n)))) (ic_inc (by decide +kernel)) (by decide +kernel)
-- FatVolumeModel.store(III)I((5413, 0),)
theorem ia_h1156 : ia_Holds ia_m1156 := ib_hold1 (cal := [ia_m521, ia_m1060, ia_m965, ia_m966]) (ic_c ia_h521 (ic_c ia_h1060 (ic_c ia_h965 (ic_c ia_h966 ic_n)))) (ic_inc (by decide +kernel)) (by decide +kernel)
-- FatVolumeModel.shorten(II)Z(3,)
theorem ia_h1157 : ia_Holds ia_m1157 := ib_hold1 (cal := [ia_m522, ia_m1061, ia_m523]) (ic_c ia_h522 (ic_c ia_h1061 (ic_c ia_h523 ic_n))) (ic_inc (by decide +kernel)) (by decide +kernel)
-- FatVolumeModel.shorten(II)Z(2,)
theorem ia_h1158 : ia_Holds ia_m1158 := ib_hold1 (cal := [ia_m527, ia_m1061, ia_m523]) (ic_c ia_h527 (ic_c ia_h1061 (ic_c ia_h523 ic_n))) (ic_inc (by decide +kernel)) (by decide +kernel)
-- FatVolumeModel.shorten(II)Z(1,)
theorem ia_h1159 : ia_Holds ia_m1159 := ib_hold1 (cal := [ia_m530, ia_m1061, ia_m523]) (ic_c ia_h530 (ic_c ia_h1061 (ic_c ia_h523 ic_n))) (ic_inc (by decide +kernel)) (by decide +kernel)
-- FatVolumeModel.shorten(II)Z(0,)
theorem ia_h1160 : ia_Holds ia_m1160 := ib_hold1 (cal := [ia_m533, ia_m1061, ia_m523]) (ic_c ia_h533 (ic_c ia_h1061 (ic_c ia_h523 ic_n))) (ic_inc (by decide +kernel)) (by decide +kernel)
-- FatVolumeModel.mend(II)Z(0, 0)
def ia_c1161 : List ia_M := [ia_m265, ia_m273, ia_m281, ia_m289, ia_m297, ia_m305, ia_m313, ia_m321, ia_m329, ia_m337, ia_m345, ia_m353, ia_m361, ia_m369, ia_m377, ia_m385, ia_m393, ia_m401, ia_m409, ia_m417, ia_m425, ia_m433, ia_m441, ia_m449, ia_m457, ia_m465, ia_m473, ia_m481, ia_m489, ia_m497, ia_m505, ia_m513, ia_m925, ia_m536, ia_m1062, ia_m255, ia_m973]
theorem ia_h1161_0 : ib_ch ia_c1161 ia_m1161 ((ia_m1161.2.2.2.2.2.2.2.2.2.2.drop (8 * 0)).take 8) = true := by decide +kernel
theorem ia_h1161_1 : ib_ch ia_c1161 ia_m1161 ((ia_m1161.2.2.2.2.2.2.2.2.2.2.drop (8 * 1)).take 8) = true := by decide +kernel
theorem ia_h1161_2 : ib_ch ia_c1161 ia_m1161 ((ia_m1161.2.2.2.2.2.2.2.2.2.2.drop (8 * 2)).take 8) = true := by decide +kernel
theorem ia_h1161_3 : ib_ch ia_c1161 ia_m1161 ((ia_m1161.2.2.2.2.2.2.2.2.2.2.drop (8 * 3)).take 8) = true := by decide +kernel
theorem ia_h1161_4 : ib_ch ia_c1161 ia_m1161 ((ia_m1161.2.2.2.2.2.2.2.2.2.2.drop (8 * 4)).take 8) = true := by decide +kernel
theorem ia_h1161_5 : ib_ch ia_c1161 ia_m1161 ((ia_m1161.2.2.2.2.2.2.2.2.2.2.drop (8 * 5)).take 8) = true := by decide +kernel
theorem ia_h1161_6 : ib_ch ia_c1161 ia_m1161 ((ia_m1161.2.2.2.2.2.2.2.2.2.2.drop (8 * 6)).take 8) = true := by decide +kernel
theorem ia_h1161_7 : ib_ch ia_c1161 ia_m1161 ((ia_m1161.2.2.2.2.2.2.2.2.2.2.drop (8 * 7)).take 8) = true := by decide +kernel
theorem ia_h1161_8 : ib_ch ia_c1161 ia_m1161 ((ia_m1161.2.2.2.2.2.2.2.2.2.2.drop (8 * 8)).take 8) = true := by decide +kernel
theorem ia_h1161 : ia_Holds ia_m1161 := by
  refine ib_hold (cal := ia_c1161) (ic_c ia_h265 (ic_c ia_h273 (ic_c ia_h281 (ic_c ia_h289 (ic_c ia_h297 (ic_c ia_h305 (ic_c ia_h313 (ic_c ia_h321 (ic_c ia_h329 (ic_c ia_h337 (ic_c ia_h345 (ic_c ia_h353 (ic_c ia_h361 (ic_c ia_h369 (ic_c ia_h377 (ic_c ia_h385 (ic_c ia_h393 (ic_c ia_h401 (ic_c ia_h409 (ic_c ia_h417 (ic_c ia_h425 (ic_c ia_h433 (ic_c ia_h441 (ic_c ia_h449 (ic_c ia_h457 (ic_c ia_h465 (ic_c ia_h473 (ic_c ia_h481 (ic_c ia_h489 (ic_c ia_h497 (ic_c ia_h505 (ic_c ia_h513 (ic_c ia_h925 (ic_c ia_h536 (ic_c ia_h1062 (ic_c ia_h255 (ic_c ia_h973 ic_n))))))))))))))))))))))))))))))))))))) (ic_inc (by decide +kernel)) (by decide +kernel) (by decide +kernel) (ic_ck (k := 8) 9 ia_m1161.2.2.2.2.2.2.2.2.2.2 (Nat.le_of_ble_eq_true (by decide +kernel)) (fun j hj => ?_))
  rw [← ib_ch_eq]
  match j, hj with
  | 0, _ => exact ia_h1161_0
  | 1, _ => exact ia_h1161_1
  | 2, _ => exact ia_h1161_2
  | 3, _ => exact ia_h1161_3
  | 4, _ => exact ia_h1161_4
  | 5, _ => exact ia_h1161_5
  | 6, _ => exact ia_h1161_6
  | 7, _ => exact ia_h1161_7
  | 8, _ => exact ia_h1161_8
  | x + 9, h => exact absurd h (by omega)
-- FatVolumeModel.mend(II)Z(1, 0)
def ia_c1162 : List ia_M := [ia_m265, ia_m273, ia_m281, ia_m289, ia_m297, ia_m305, ia_m313, ia_m321, ia_m329, ia_m337, ia_m345, ia_m353, ia_m361, ia_m369, ia_m377, ia_m385, ia_m393, ia_m401, ia_m409, ia_m417, ia_m425, ia_m433, ia_m441, ia_m449, ia_m457, ia_m465, ia_m473, ia_m481, ia_m489, ia_m497, ia_m505, ia_m513, ia_m925, ia_m536, ia_m1062, ia_m255, ia_m973]
theorem ia_h1162_0 : ib_ch ia_c1162 ia_m1162 ((ia_m1162.2.2.2.2.2.2.2.2.2.2.drop (8 * 0)).take 8) = true := by decide +kernel
theorem ia_h1162_1 : ib_ch ia_c1162 ia_m1162 ((ia_m1162.2.2.2.2.2.2.2.2.2.2.drop (8 * 1)).take 8) = true := by decide +kernel
theorem ia_h1162_2 : ib_ch ia_c1162 ia_m1162 ((ia_m1162.2.2.2.2.2.2.2.2.2.2.drop (8 * 2)).take 8) = true := by decide +kernel
theorem ia_h1162_3 : ib_ch ia_c1162 ia_m1162 ((ia_m1162.2.2.2.2.2.2.2.2.2.2.drop (8 * 3)).take 8) = true := by decide +kernel
theorem ia_h1162_4 : ib_ch ia_c1162 ia_m1162 ((ia_m1162.2.2.2.2.2.2.2.2.2.2.drop (8 * 4)).take 8) = true := by decide +kernel
theorem ia_h1162_5 : ib_ch ia_c1162 ia_m1162 ((ia_m1162.2.2.2.2.2.2.2.2.2.2.drop (8 * 5)).take 8) = true := by decide +kernel
theorem ia_h1162_6 : ib_ch ia_c1162 ia_m1162 ((ia_m1162.2.2.2.2.2.2.2.2.2.2.drop (8 * 6)).take 8) = true := by decide +kernel
theorem ia_h1162_7 : ib_ch ia_c1162 ia_m1162 ((ia_m1162.2.2.2.2.2.2.2.2.2.2.drop (8 * 7)).take 8) = true := by decide +kernel
theorem ia_h1162_8 : ib_ch ia_c1162 ia_m1162 ((ia_m1162.2.2.2.2.2.2.2.2.2.2.drop (8 * 8)).take 8) = true := by decide +kernel
theorem ia_h1162 : ia_Holds ia_m1162 := by
  refine ib_hold (cal := ia_c1162) (ic_c ia_h265 (ic_c ia_h273 (ic_c ia_h281 (ic_c ia_h289 (ic_c ia_h297 (ic_c ia_h305 (ic_c ia_h313 (ic_c ia_h321 (ic_c ia_h329 (ic_c ia_h337 (ic_c ia_h345 (ic_c ia_h353 (ic_c ia_h361 (ic_c ia_h369 (ic_c ia_h377 (ic_c ia_h385 (ic_c ia_h393 (ic_c ia_h401 (ic_c ia_h409 (ic_c ia_h417 (ic_c ia_h425 (ic_c ia_h433 (ic_c ia_h441 (ic_c ia_h449 (ic_c ia_h457 (ic_c ia_h465 (ic_c ia_h473 (ic_c ia_h481 (ic_c ia_h489 (ic_c ia_h497 (ic_c ia_h505 (ic_c ia_h513 (ic_c ia_h925 (ic_c ia_h536 (ic_c ia_h1062 (ic_c ia_h255 (ic_c ia_h973 ic_n))))))))))))))))))))))))))))))))))))) (ic_inc (by decide +kernel)) (by decide +kernel) (by decide +kernel) (ic_ck (k := 8) 9 ia_m1162.2.2.2.2.2.2.2.2.2.2 (Nat.le_of_ble_eq_true (by decide +kernel)) (fun j hj => ?_))
  rw [← ib_ch_eq]
  match j, hj with
  | 0, _ => exact ia_h1162_0
  | 1, _ => exact ia_h1162_1
  | 2, _ => exact ia_h1162_2
  | 3, _ => exact ia_h1162_3
  | 4, _ => exact ia_h1162_4
  | 5, _ => exact ia_h1162_5
  | 6, _ => exact ia_h1162_6
  | 7, _ => exact ia_h1162_7
  | 8, _ => exact ia_h1162_8
  | x + 9, h => exact absurd h (by omega)
-- FatVolumeModel.mend(II)Z(0, 1)
def ia_c1163 : List ia_M := [ia_m537, ia_m538, ia_m539, ia_m540, ia_m541, ia_m542, ia_m543, ia_m544, ia_m545, ia_m546, ia_m547, ia_m548, ia_m549, ia_m550, ia_m551, ia_m552, ia_m553, ia_m554, ia_m555, ia_m556, ia_m557, ia_m558, ia_m559, ia_m560, ia_m561, ia_m562, ia_m563, ia_m564, ia_m565, ia_m566, ia_m567, ia_m568, ia_m264, ia_m272, ia_m280, ia_m288, ia_m296, ia_m304, ia_m312, ia_m320, ia_m328, ia_m336, ia_m344, ia_m352, ia_m360, ia_m368, ia_m376, ia_m384, ia_m392, ia_m400, ia_m408, ia_m416, ia_m424, ia_m432, ia_m440, ia_m448, ia_m456, ia_m464, ia_m472, ia_m480, ia_m488, ia_m496, ia_m504, ia_m512, ia_m1047, ia_m536, ia_m1062, ia_m255, ia_m973]
theorem ia_h1163_0 : ib_ch ia_c1163 ia_m1163 ((ia_m1163.2.2.2.2.2.2.2.2.2.2.drop (8 * 0)).take 8) = true := by decide +kernel
theorem ia_h1163_1 : ib_ch ia_c1163 ia_m1163 ((ia_m1163.2.2.2.2.2.2.2.2.2.2.drop (8 * 1)).take 8) = true := by decide +kernel
theorem ia_h1163_2 : ib_ch ia_c1163 ia_m1163 ((ia_m1163.2.2.2.2.2.2.2.2.2.2.drop (8 * 2)).take 8) = true := by decide +kernel
theorem ia_h1163_3 : ib_ch ia_c1163 ia_m1163 ((ia_m1163.2.2.2.2.2.2.2.2.2.2.drop (8 * 3)).take 8) = true := by decide +kernel
theorem ia_h1163_4 : ib_ch ia_c1163 ia_m1163 ((ia_m1163.2.2.2.2.2.2.2.2.2.2.drop (8 * 4)).take 8) = true := by decide +kernel
theorem ia_h1163_5 : ib_ch ia_c1163 ia_m1163 ((ia_m1163.2.2.2.2.2.2.2.2.2.2.drop (8 * 5)).take 8) = true := by decide +kernel
theorem ia_h1163_6 : ib_ch ia_c1163 ia_m1163 ((ia_m1163.2.2.2.2.2.2.2.2.2.2.drop (8 * 6)).take 8) = true := by decide +kernel
theorem ia_h1163_7 : ib_ch ia_c1163 ia_m1163 ((ia_m1163.2.2.2.2.2.2.2.2.2.2.drop (8 * 7)).take 8) = true := by decide +kernel
theorem ia_h1163_8 : ib_ch ia_c1163 ia_m1163 ((ia_m1163.2.2.2.2.2.2.2.2.2.2.drop (8 * 8)).take 8) = true := by decide +kernel
theorem ia_h1163 : ia_Holds ia_m1163 := by
  refine ib_hold (cal := ia_c1163) (ic_c ia_h537 (ic_c ia_h538 (ic_c ia_h539 (ic_c ia_h540 (ic_c ia_h541 (ic_c ia_h542 (ic_c ia_h543 (ic_c ia_h544 (ic_c ia_h545 (ic_c ia_h546 (ic_c ia_h547 (ic_c ia_h548 (ic_c ia_h549 (ic_c ia_h550 (ic_c ia_h551 (ic_c ia_h552 (ic_c ia_h553 (ic_c ia_h554 (ic_c ia_h555 (ic_c ia_h556 (ic_c ia_h557 (ic_c ia_h558 (ic_c ia_h559 (ic_c ia_h560 (ic_c ia_h561 (ic_c ia_h562 (ic_c ia_h563 (ic_c ia_h564 (ic_c ia_h565 (ic_c ia_h566 (ic_c ia_h567 (ic_c ia_h568 (ic_c ia_h264 (ic_c ia_h272 (ic_c ia_h280 (ic_c ia_h288 (ic_c ia_h296 (ic_c ia_h304 (ic_c ia_h312 (ic_c ia_h320 (ic_c ia_h328 (ic_c ia_h336 (ic_c ia_h344 (ic_c ia_h352 (ic_c ia_h360 (ic_c ia_h368 (ic_c ia_h376 (ic_c ia_h384 (ic_c ia_h392 (ic_c ia_h400 (ic_c ia_h408 (ic_c ia_h416 (ic_c ia_h424 (ic_c ia_h432 (ic_c ia_h440 (ic_c ia_h448 (ic_c ia_h456 (ic_c ia_h464 (ic_c ia_h472 (ic_c ia_h480 (ic_c ia_h488 (ic_c ia_h496 (ic_c ia_h504 (ic_c ia_h512 (ic_c ia_h1047 (ic_c ia_h536 (ic_c ia_h1062 (ic_c ia_h255 (ic_c ia_h973 ic_n))))))))))))))))))))))))))))))))))))))))))))))))))))))))))))))))))))) (ic_inc (by decide +kernel)) (by decide +kernel) (by decide +kernel) (ic_ck (k := 8) 9 ia_m1163.2.2.2.2.2.2.2.2.2.2 (Nat.le_of_ble_eq_true (by decide +kernel)) (fun j hj => ?_))
  rw [← ib_ch_eq]
  match j, hj with
  | 0, _ => exact ia_h1163_0
  | 1, _ => exact ia_h1163_1
  | 2, _ => exact ia_h1163_2
  | 3, _ => exact ia_h1163_3
  | 4, _ => exact ia_h1163_4
  | 5, _ => exact ia_h1163_5
  | 6, _ => exact ia_h1163_6
  | 7, _ => exact ia_h1163_7
  | 8, _ => exact ia_h1163_8
  | x + 9, h => exact absurd h (by omega)
