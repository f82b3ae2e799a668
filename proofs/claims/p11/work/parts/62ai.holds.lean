/-! the checks -/
-- FatVolumeModel.mend(II)Z(2, 0)
def ia_c1164 : List ia_M := [ia_m265, ia_m273, ia_m281, ia_m289, ia_m297, ia_m305, ia_m313, ia_m321, ia_m329, ia_m337, ia_m345, ia_m353, ia_m361, ia_m369, ia_m377, ia_m385, ia_m393, ia_m401, ia_m409, ia_m417, ia_m425, ia_m433, ia_m441, ia_m449, ia_m457, ia_m465, ia_m473, ia_m481, ia_m489, ia_m497, ia_m505, ia_m513, ia_m925, ia_m536, ia_m1062, ia_m255, ia_m973]
theorem ia_h1164_0 : ib_ch ia_c1164 ia_m1164 ((ia_m1164.2.2.2.2.2.2.2.2.2.2.drop (8 * 0)).take 8) = true := by decide +kernel
theorem ia_h1164_1 : ib_ch ia_c1164 ia_m1164 ((ia_m1164.2.2.2.2.2.2.2.2.2.2.drop (8 * 1)).take 8) = true := by decide +kernel
theorem ia_h1164_2 : ib_ch ia_c1164 ia_m1164 ((ia_m1164.2.2.2.2.2.2.2.2.2.2.drop (8 * 2)).take 8) = true := by decide +kernel
theorem ia_h1164_3 : ib_ch ia_c1164 ia_m1164 ((ia_m1164.2.2.2.2.2.2.2.2.2.2.drop (8 * 3)).take 8) = true := by decide +kernel
theorem ia_h1164_4 : ib_ch ia_c1164 ia_m1164 ((ia_m1164.2.2.2.2.2.2.2.2.2.2.drop (8 * 4)).take 8) = true := by decide +kernel
theorem ia_h1164_5 : ib_ch ia_c1164 ia_m1164 ((ia_m1164.2.2.2.2.2.2.2.2.2.2.drop (8 * 5)).take 8) = true := by decide +kernel
theorem ia_h1164_6 : ib_ch ia_c1164 ia_m1164 ((ia_m1164.2.2.2.2.2.2.2.2.2.2.drop (8 * 6)).take 8) = true := by decide +kernel
theorem ia_h1164_7 : ib_ch ia_c1164 ia_m1164 ((ia_m1164.2.2.2.2.2.2.2.2.2.2.drop (8 * 7)).take 8) = true := by decide +kernel
theorem ia_h1164_8 : ib_ch ia_c1164 ia_m1164 ((ia_m1164.2.2.2.2.2.2.2.2.2.2.drop (8 * 8)).take 8) = true := by decide +kernel
theorem ia_h1164 : ia_Holds ia_m1164 := by
  refine ib_hold (cal := ia_c1164) (ic_c ia_h265 (ic_c ia_h273 (ic_c ia_h281 (ic_c ia_h289 (ic_c ia_h297 (ic_c ia_h305 (ic_c ia_h313 (ic_c ia_h321 (ic_c ia_h329 (ic_c ia_h337 (ic_c ia_h345 (ic_c ia_h353 (ic_c ia_h361 (ic_c ia_h369 (ic_c ia_h377 (ic_c ia_h385 (ic_c ia_h393 (ic_c ia_h401 (ic_c ia_h409 (ic_c ia_h417 (ic_c ia_h425 (ic_c ia_h433 (ic_c ia_h441 (ic_c ia_h449 (ic_c ia_h457 (ic_c ia_h465 (ic_c ia_h473 (ic_c ia_h481 (ic_c ia_h489 (ic_c ia_h497 (ic_c ia_h505 (ic_c ia_h513 (ic_c ia_h925 (ic_c ia_h536 (ic_c ia_h1062 (ic_c ia_h255 (ic_c ia_h973 ic_n))))))))))))))))))))))))))))))))))))) (ic_inc (by decide +kernel)) (by decide +kernel) (by decide +kernel) (ic_ck (k := 8) 9 ia_m1164.2.2.2.2.2.2.2.2.2.2 (Nat.le_of_ble_eq_true (by decide +kernel)) (fun j hj => ?_))
  rw [← ib_ch_eq]
  match j, hj with
  | 0, _ => exact ia_h1164_0
  | 1, _ => exact ia_h1164_1
  | 2, _ => exact ia_h1164_2
  | 3, _ => exact ia_h1164_3
  | 4, _ => exact ia_h1164_4
  | 5, _ => exact ia_h1164_5
  | 6, _ => exact ia_h1164_6
  | 7, _ => exact ia_h1164_7
  | 8, _ => exact ia_h1164_8
  | x + 9, h => exact absurd h (by omega)
-- FatVolumeModel.mend(II)Z(1, 1)
def ia_c1165 : List ia_M := [ia_m537, ia_m538, ia_m539, ia_m540, ia_m541, ia_m542, ia_m543, ia_m544, ia_m545, ia_m546, ia_m547, ia_m548, ia_m549, ia_m550, ia_m551, ia_m552, ia_m553, ia_m554, ia_m555, ia_m556, ia_m557, ia_m558, ia_m559, ia_m560, ia_m561, ia_m562, ia_m563, ia_m564, ia_m565, ia_m566, ia_m567, ia_m568, ia_m264, ia_m272, ia_m280, ia_m288, ia_m296, ia_m304, ia_m312, ia_m320, ia_m328, ia_m336, ia_m344, ia_m352, ia_m360, ia_m368, ia_m376, ia_m384, ia_m392, ia_m400, ia_m408, ia_m416, ia_m424, ia_m432, ia_m440, ia_m448, ia_m456, ia_m464, ia_m472, ia_m480, ia_m488, ia_m496, ia_m504, ia_m512, ia_m1047, ia_m536, ia_m1062, ia_m255, ia_m973]
theorem ia_h1165_0 : ib_ch ia_c1165 ia_m1165 ((ia_m1165.2.2.2.2.2.2.2.2.2.2.drop (8 * 0)).take 8) = true := by decide +kernel
theorem ia_h1165_1 : ib_ch ia_c1165 ia_m1165 ((ia_m1165.2.2.2.2.2.2.2.2.2.2.drop (8 * 1)).take 8) = true := by decide +kernel
theorem ia_h1165_2 : ib_ch ia_c1165 ia_m1165 ((ia_m1165.2.2.2.2.2.2.2.2.2.2.drop (8 * 2)).take 8) = true := by decide +kernel
theorem ia_h1165_3 : ib_ch ia_c1165 ia_m1165 ((ia_m1165.2.2.2.2.2.2.2.2.2.2.drop (8 * 3)).take 8) = true := by decide +kernel
theorem ia_h1165_4 : ib_ch ia_c1165 ia_m1165 ((ia_m1165.2.2.2.2.2.2.2.2.2.2.drop (8 * 4)).take 8) = true := by decide +kernel
theorem ia_h1165_5 : ib_ch ia_c1165 ia_m1165 ((ia_m1165.2.2.2.2.2.2.2.2.2.2.drop (8 * 5)).take 8) = true := by decide +kernel
theorem ia_h1165_6 : ib_ch ia_c1165 ia_m1165 ((ia_m1165.2.2.2.2.2.2.2.2.2.2.drop (8 * 6)).take 8) = true := by decide +kernel
theorem ia_h1165_7 : ib_ch ia_c1165 ia_m1165 ((ia_m1165.2.2.2.2.2.2.2.2.2.2.drop (8 * 7)).take 8) = true := by decide +kernel
theorem ia_h1165_8 : ib_ch ia_c1165 ia_m1165 ((ia_m1165.2.2.2.2.2.2.2.2.2.2.drop (8 * 8)).take 8) = true := by decide +kernel
theorem ia_h1165 : ia_Holds ia_m1165 := by
  refine ib_hold (cal := ia_c1165) (ic_c ia_h537 (ic_c ia_h538 (ic_c ia_h539 (ic_c ia_h540 (ic_c ia_h541 (ic_c ia_h542 (ic_c ia_h543 (ic_c ia_h544 (ic_c ia_h545 (ic_c ia_h546 (ic_c ia_h547 (ic_c ia_h548 (ic_c ia_h549 (ic_c ia_h550 (ic_c ia_h551 (ic_c ia_h552 (ic_c ia_h553 (ic_c ia_h554 (ic_c ia_h555 (ic_c ia_h556 (ic_c ia_h557 (ic_c ia_h558 (ic_c ia_h559 (ic_c ia_h560 (ic_c ia_h561 (ic_c ia_h562 (ic_c ia_h563 (ic_c ia_h564 (ic_c ia_h565 (ic_c ia_h566 (ic_c ia_h567 (ic_c ia_h568 (ic_c ia_h264 (ic_c ia_h272 (ic_c ia_h280 (ic_c ia_h288 (ic_c ia_h296 (ic_c ia_h304 (ic_c ia_h312 (ic_c ia_h320 (ic_c ia_h328 (ic_c ia_h336 (ic_c ia_h344 (ic_c ia_h352 (ic_c ia_h360 (ic_c ia_h368 (ic_c ia_h376 (ic_c ia_h384 (ic_c ia_h392 (ic_c ia_h400 (ic_c ia_h408 (ic_c ia_h416 (ic_c ia_h424 (ic_c ia_h432 (ic_c ia_h440 (ic_c ia_h448 (ic_c ia_h456 (ic_c ia_h464 (ic_c ia_h472 (ic_c ia_h480 (ic_c ia_h488 (ic_c ia_h496 (ic_c ia_h504 (ic_c ia_h512 (ic_c ia_h1047 (ic_c ia_h536 (ic_c ia_h1062 (ic_c ia_h255 (ic_c ia_h973 ic_n))))))))))))))))))))))))))))))))))))))))))))))))))))))))))))))))))))) (ic_inc (by decide +kernel)) (by decide +kernel) (by decide +kernel) (ic_ck (k := 8) 9 ia_m1165.2.2.2.2.2.2.2.2.2.2 (Nat.le_of_ble_eq_true (by decide +kernel)) (fun j hj => ?_))
  rw [← ib_ch_eq]
  match j, hj with
  | 0, _ => exact ia_h1165_0
  | 1, _ => exact ia_h1165_1
  | 2, _ => exact ia_h1165_2
  | 3, _ => exact ia_h1165_3
  | 4, _ => exact ia_h1165_4
  | 5, _ => exact ia_h1165_5
  | 6, _ => exact ia_h1165_6
  | 7, _ => exact ia_h1165_7
  | 8, _ => exact ia_h1165_8
  | x + 9, h => exact absurd h (by omega)
-- FatVolumeModel.mend(II)Z(0, 2)
def ia_c1166 : List ia_M := [ia_m263, ia_m271, ia_m279, ia_m287, ia_m295, ia_m303, ia_m311, ia_m319, ia_m327, ia_m335, ia_m343, ia_m351, ia_m359, ia_m367, ia_m375, ia_m383, ia_m391, ia_m399, ia_m407, ia_m415, ia_m423, ia_m431, ia_m439, ia_m447, ia_m455, ia_m463, ia_m471, ia_m479, ia_m487, ia_m495, ia_m503, ia_m511, ia_m569, ia_m570, ia_m571, ia_m572, ia_m573, ia_m574, ia_m575, ia_m576, ia_m577, ia_m578, ia_m579, ia_m580, ia_m581, ia_m582, ia_m583, ia_m584, ia_m585, ia_m586, ia_m587, ia_m588, ia_m589, ia_m590, ia_m591, ia_m592, ia_m593, ia_m594, ia_m595, ia_m596, ia_m597, ia_m598, ia_m599, ia_m600, ia_m1048, ia_m536, ia_m1062, ia_m255, ia_m973]
theorem ia_h1166_0 : ib_ch ia_c1166 ia_m1166 ((ia_m1166.2.2.2.2.2.2.2.2.2.2.drop (8 * 0)).take 8) = true := by decide +kernel
theorem ia_h1166_1 : ib_ch ia_c1166 ia_m1166 ((ia_m1166.2.2.2.2.2.2.2.2.2.2.drop (8 * 1)).take 8) = true := by decide +kernel
theorem ia_h1166_2 : ib_ch ia_c1166 ia_m1166 ((ia_m1166.2.2.2.2.2.2.2.2.2.2.drop (8 * 2)).take 8) = true := by decide +kernel
theorem ia_h1166_3 : ib_ch ia_c1166 ia_m1166 ((ia_m1166.2.2.2.2.2.2.2.2.2.2.drop (8 * 3)).take 8) = true := by decide +kernel
theorem ia_h1166_4 : ib_ch ia_c1166 ia_m1166 ((ia_m1166.2.2.2.2.2.2.2.2.2.2.drop (8 * 4)).take 8) = true := by decide +kernel
theorem ia_h1166_5 : ib_ch ia_c1166 ia_m1166 ((ia_m1166.2.2.2.2.2.2.2.2.2.2.drop (8 * 5)).take 8) = true := by decide +kernel
theorem ia_h1166_6 : ib_ch ia_c1166 ia_m1166 ((ia_m1166.2.2.2.2.2.2.2.2.2.2.drop (8 * 6)).take 8) = true := by decide +kernel
theorem ia_h1166_7 : ib_ch ia_c1166 ia_m1166 ((ia_m1166.2.2.2.2.2.2.2.2.2.2.drop (8 * 7)).take 8) = true := by decide +kernel
theorem ia_h1166_8 : ib_ch ia_c1166 ia_m1166 ((ia_m1166.2.2.2.2.2.2.2.2.2.2.drop (8 * 8)).take 8) = true := by decide +kernel
theorem ia_h1166 : ia_Holds ia_m1166 := by
  refine ib_hold (cal := ia_c1166) (ic_c ia_h263 (ic_c ia_h271 (ic_c ia_h279 (ic_c ia_h287 (ic_c ia_h295 (ic_c ia_h303 (ic_c ia_h311 (ic_c ia_h319 (ic_c ia_h327 (ic_c ia_h335 (ic_c ia_h343 (ic_c ia_h351 (ic_c ia_h359 (ic_c ia_h367 (ic_c ia_h375 (ic_c ia_h383 (ic_c ia_h391 (ic_c ia_h399 (ic_c ia_h407 (ic_c ia_h415 (ic_c ia_h423 (ic_c ia_h431 (ic_c ia_h439 (ic_c ia_h447 (ic_c ia_h455 (ic_c ia_h463 (ic_c ia_h471 (ic_c ia_h479 (ic_c ia_h487 (ic_c ia_h495 (ic_c ia_h503 (ic_c ia_h511 (ic_c ia_h569 (ic_c ia_h570 (ic_c ia_h571 (ic_c ia_h572 (ic_c ia_h573 (ic_c ia_h574 (ic_c ia_h575 (ic_c ia_h576 (ic_c ia_h577 (ic_c ia_h578 (ic_c ia_h579 (ic_c ia_h580 (ic_c ia_h581 (ic_c ia_h582 (ic_c ia_h583 (ic_c ia_h584 (ic_c ia_h585 (ic_c ia_h586 (ic_c ia_h587 (ic_c ia_h588 (ic_c ia_h589 (ic_c ia_h590 (ic_c ia_h591 (ic_c ia_h592 (ic_c ia_h593 (ic_c ia_h594 (ic_c ia_h595 (ic_c ia_h596 (ic_c ia_h597 (ic_c ia_h598 (ic_c ia_h599 (ic_c ia_h600 (ic_c ia_h1048 (ic_c ia_h536 (ic_c ia_h1062 (ic_c ia_h255 (ic_c ia_h973 ic_n))))))))))))))))))))))))))))))))))))))))))))))))))))))))))))))))))))) (ic_inc (by decide +kernel)) (by decide +kernel) (by decide +kernel) (ic_ck (k := 8) 9 ia_m1166.2.2.2.2.2.2.2.2.2.2 (Nat.le_of_ble_eq_true (by decide +kernel)) (fun j hj => ?_))
  rw [← ib_ch_eq]
  match j, hj with
  | 0, _ => exact ia_h1166_0
  | 1, _ => exact ia_h1166_1
  | 2, _ => exact ia_h1166_2
  | 3, _ => exact ia_h1166_3
  | 4, _ => exact ia_h1166_4
  | 5, _ => exact ia_h1166_5
  | 6, _ => exact ia_h1166_6
  | 7, _ => exact ia_h1166_7
  | 8, _ => exact ia_h1166_8
  | x + 9, h => exact absurd h (by omega)
-- FatVolumeModel.mend(II)Z(3, 0)
def ia_c1167 : List ia_M := [ia_m265, ia_m273, ia_m281, ia_m289, ia_m297, ia_m305, ia_m313, ia_m321, ia_m329, ia_m337, ia_m345, ia_m353, ia_m361, ia_m369, ia_m377, ia_m385, ia_m393, ia_m401, ia_m409, ia_m417, ia_m425, ia_m433, ia_m441, ia_m449, ia_m457, ia_m465, ia_m473, ia_m481, ia_m489, ia_m497, ia_m505, ia_m513, ia_m925, ia_m536, ia_m1062, ia_m255, ia_m973]
theorem ia_h1167_0 : ib_ch ia_c1167 ia_m1167 ((ia_m1167.2.2.2.2.2.2.2.2.2.2.drop (8 * 0)).take 8) = true := by decide +kernel
theorem ia_h1167_1 : ib_ch ia_c1167 ia_m1167 ((ia_m1167.2.2.2.2.2.2.2.2.2.2.drop (8 * 1)).take 8) = true := by decide +kernel
theorem ia_h1167_2 : ib_ch ia_c1167 ia_m1167 ((ia_m1167.2.2.2.2.2.2.2.2.2.2.drop (8 * 2)).take 8) = true := by decide +kernel
theorem ia_h1167_3 : ib_ch ia_c1167 ia_m1167 ((ia_m1167.2.2.2.2.2.2.2.2.2.2.drop (8 * 3)).take 8) = true := by decide +kernel
theorem ia_h1167_4 : ib_ch ia_c1167 ia_m1167 ((ia_m1167.2.2.2.2.2.2.2.2.2.2.drop (8 * 4)).take 8) = true := by decide +kernel
theorem ia_h1167_5 : ib_ch ia_c1167 ia_m1167 ((ia_m1167.2.2.2.2.2.2.2.2.2.2.drop (8 * 5)).take 8) = true := by decide +kernel
theorem ia_h1167_6 : ib_ch ia_c1167 ia_m1167 ((ia_m1167.2.2.2.2.2.2.2.2.2.2.drop (8 * 6)).take 8) = true := by decide +kernel
theorem ia_h1167_7 : ib_ch ia_c1167 ia_m1167 ((ia_m1167.2.2.2.2.2.2.2.2.2.2.drop (8 * 7)).take 8) = true := by decide +kernel
theorem ia_h1167_8 : ib_ch ia_c1167 ia_m1167 ((ia_m1167.2.2.2.2.2.2.2.2.2.2.drop (8 * 8)).take 8) = true := by decide +kernel
theorem ia_h1167 : ia_Holds ia_m1167 := by
  refine ib_hold (cal := ia_c1167) (ic_c ia_h265 (ic_c ia_h273 (ic_c ia_h281 (ic_c ia_h289 (ic_c ia_h297 (ic_c ia_h305 (ic_c ia_h313 (ic_c ia_h321 (ic_c ia_h329 (ic_c ia_h337 (ic_c ia_h345 (ic_c ia_h353 (ic_c ia_h361 (ic_c ia_h369 (ic_c ia_h377 (ic_c ia_h385 (ic_c ia_h393 (ic_c ia_h401 (ic_c ia_h409 (ic_c ia_h417 (ic_c ia_h425 (ic_c ia_h433 (ic_c ia_h441 (ic_c ia_h449 (ic_c ia_h457 (ic_c ia_h465 (ic_c ia_h473 (ic_c ia_h481 (ic_c ia_h489 (ic_c ia_h497 (ic_c ia_h505 (ic_c ia_h513 (ic_c ia_h925 (ic_c ia_h536 (ic_c ia_h1062 (ic_c ia_h255 (ic_c ia_h973 ic_n))))))))))))))))))))))))))))))))))))) (ic_inc (by decide +kernel)) (by decide +kernel) (by decide +kernel) (ic_ck (k := 8) 9 ia_m1167.2.2.2.2.2.2.2.2.2.2 (Nat.le_of_ble_eq_true (by decide +kernel)) (fun j hj => ?_))
  rw [← ib_ch_eq]
  match j, hj with
  | 0, _ => exact ia_h1167_0
  | 1, _ => exact ia_h1167_1
  | 2, _ => exact ia_h1167_2
  | 3, _ => exact ia_h1167_3
  | 4, _ => exact ia_h1167_4
  | 5, _ => exact ia_h1167_5
  | 6, _ => exact ia_h1167_6
  | 7, _ => exact ia_h1167_7
  | 8, _ => exact ia_h1167_8
  | x + 9, h => exact absurd h (by omega)
