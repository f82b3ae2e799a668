/-! the checks -/
-- FatVolumeModel.mend(II)Z(2, 1)
def ia_c1168 : List ia_M := [ia_m537, ia_m538, ia_m539, ia_m540, ia_m541, ia_m542, ia_m543, ia_m544, ia_m545, ia_m546, ia_m547, ia_m548, ia_m549, ia_m550, ia_m551, ia_m552, ia_m553, ia_m554, ia_m555, ia_m556, ia_m557, ia_m558, ia_m559, ia_m560, ia_m561, ia_m562, ia_m563, ia_m564, ia_m565, ia_m566, ia_m567, ia_m568, ia_m264, ia_m272, ia_m280, ia_m288, ia_m296, ia_m304, ia_m312, ia_m320, ia_m328, ia_m336, ia_m344, ia_m352, ia_m360, ia_m368, ia_m376, ia_m384, ia_m392, ia_m400, ia_m408, ia_m416, ia_m424, ia_m432, ia_m440, ia_m448, ia_m456, ia_m464, ia_m472, ia_m480, ia_m488, ia_m496, ia_m504, ia_m512, ia_m1047, ia_m536, ia_m1062, ia_m255, ia_m973]
theorem ia_h1168_0 : ib_ch ia_c1168 ia_m1168 ((ia_m1168.2.2.2.2.2.2.2.2.2.2.drop (8 * 0)).take 8) = true := by decide +kernel
theorem ia_h1168_1 : ib_ch ia_c1168 ia_m1168 ((ia_m1168.2.2.2.2.2.2.2.2.2.2.drop (8 * 1)).take 8) = true := by decide +kernel
theorem ia_h1168_2 : ib_ch ia_c1168 ia_m1168 ((ia_m1168.2.2.2.2.2.2.2.2.2.2.drop (8 * 2)).take 8) = true := by decide +kernel
theorem ia_h1168_3 : ib_ch ia_c1168 ia_m1168 ((ia_m1168.2.2.2.2.2.2.2.2.2.2.drop (8 * 3)).take 8) = true := by decide +kernel
theorem ia_h1168_4 : ib_ch ia_c1168 ia_m1168 ((ia_m1168.2.2.2.2.2.2.2.2.2.2.drop (8 * 4)).take 8) = true := by decide +kernel
theorem ia_h1168_5 : ib_ch ia_c1168 ia_m1168 ((ia_m1168.2.2.2.2.2.2.2.2.2.2.drop (8 * 5)).take 8) = true := by decide +kernel
theorem ia_h1168_6 : ib_ch ia_c1168 ia_m1168 ((ia_m1168.2.2.2.2.2.2.2.2.2.2.drop (8 * 6)).take 8) = true := by decide +kernel
theorem ia_h1168_7 : ib_ch ia_c1168 ia_m1168 ((ia_m1168.2.2.2.2.2.2.2.2.2.2.drop (8 * 7)).take 8) = true := by decide +kernel
theorem ia_h1168_8 : ib_ch ia_c1168 ia_m1168 ((ia_m1168.2.2.2.2.2.2.2.2.2.2.drop (8 * 8)).take 8) = true := by decide +kernel
theorem ia_h1168 : ia_Holds ia_m1168 := by
  refine ib_hold (cal := ia_c1168) (ic_c ia_h537 (ic_c ia_h538 (ic_c ia_h539 (ic_c ia_h540 (ic_c ia_h541 (ic_c ia_h542 (ic_c ia_h543 (ic_c ia_h544 (ic_c ia_h545 (ic_c ia_h546 (ic_c ia_h547 (ic_c ia_h548 (ic_c ia_h549 (ic_c ia_h550 (ic_c ia_h551 (ic_c ia_h552 (ic_c ia_h553 (ic_c ia_h554 (ic_c ia_h555 (ic_c ia_h556 (ic_c ia_h557 (ic_c ia_h558 (ic_c ia_h559 (ic_c ia_h560 (ic_c ia_h561 (ic_c ia_h562 (ic_c ia_h563 (ic_c ia_h564 (ic_c ia_h565 (ic_c ia_h566 (ic_c ia_h567 (ic_c ia_h568 (ic_c ia_h264 (ic_c ia_h272 (ic_c ia_h280 (ic_c ia_h288 (ic_c ia_h296 (ic_c ia_h304 (ic_c ia_h312 (ic_c ia_h320 (ic_c ia_h328 (ic_c ia_h336 (ic_c ia_h344 (ic_c ia_h352 (ic_c ia_h360 (ic_c ia_h368 (ic_c ia_h376 (ic_c ia_h384 (ic_c ia_h392 (ic_c ia_h400 (ic_c ia_h408 (ic_c ia_h416 (ic_c ia_h424 (ic_c ia_h432 (ic_c ia_h440 (ic_c ia_h448 (ic_c ia_h456 (ic_c ia_h464 (ic_c ia_h472 (ic_c ia_h480 (ic_c ia_h488 (ic_c ia_h496 (ic_c ia_h504 (ic_c ia_h512 (ic_c ia_h1047 (ic_c ia_h536 (ic_c ia_h1062 (ic_c ia_h255 (ic_c ia_h973 ic_n))))))))))))))))))))))))))))))))))))))))))))))))))))))))))))))))))))) (ic_inc (by decide +kernel)) (by decide +kernel) (by decide +kernel) (ic_ck (k := 8) 9 ia_m1168.2.2.2.2.2.2.2.2.2.2 (Nat.le_of_ble_eq_true (by decide +kernel)) (fun j hj => ?_))
  rw [← ib_ch_eq]
  match j, hj with
  | 0, _ => exact ia_h1168_0
  | 1, _ => exact ia_h1168_1
  | 2, _ => exact ia_h1168_2
  | 3, _ => exact ia_h1168_3
  | 4, _ => exact ia_h1168_4
  | 5, _ => exact ia_h1168_5
  | 6, _ => exact ia_h1168_6
  | 7, _ => exact ia_h1168_7
  | 8, _ => exact ia_h1168_8
  | x + 9, h => exact absurd h (by omega)
-- FatVolumeModel.mend(II)Z(1, 2)
def ia_c1169 : List ia_M := [ia_m263, ia_m271, ia_m279, ia_m287, ia_m295, ia_m303, ia_m311, ia_m319, ia_m327, ia_m335, ia_m343, ia_m351, ia_m359, ia_m367, ia_m375, ia_m383, ia_m391, ia_m399, ia_m407, ia_m415, ia_m423, ia_m431, ia_m439, ia_m447, ia_m455, ia_m463, ia_m471, ia_m479, ia_m487, ia_m495, ia_m503, ia_m511, ia_m569, ia_m570, ia_m571, ia_m572, ia_m573, ia_m574, ia_m575, ia_m576, ia_m577, ia_m578, ia_m579, ia_m580, ia_m581, ia_m582, ia_m583, ia_m584, ia_m585, ia_m586, ia_m587, ia_m588, ia_m589, ia_m590, ia_m591, ia_m592, ia_m593, ia_m594, ia_m595, ia_m596, ia_m597, ia_m598, ia_m599, ia_m600, ia_m1048, ia_m536, ia_m1062, ia_m255, ia_m973]
theorem ia_h1169_0 : ib_ch ia_c1169 ia_m1169 ((ia_m1169.2.2.2.2.2.2.2.2.2.2.drop (8 * 0)).take 8) = true := by decide +kernel
theorem ia_h1169_1 : ib_ch ia_c1169 ia_m1169 ((ia_m1169.2.2.2.2.2.2.2.2.2.2.drop (8 * 1)).take 8) = true := by decide +kernel
theorem ia_h1169_2 : ib_ch ia_c1169 ia_m1169 ((ia_m1169.2.2.2.2.2.2.2.2.2.2.drop (8 * 2)).take 8) = true := by decide +kernel
theorem ia_h1169_3 : ib_ch ia_c1169 ia_m1169 ((ia_m1169.2.2.2.2.2.2.2.2.2.2.drop (8 * 3)).take 8) = true := by decide +kernel
theorem ia_h1169_4 : ib_ch ia_c1169 ia_m1169 ((ia_m1169.2.2.2.2.2.2.2.2.2.2.drop (8 * 4)).take 8) = true := by decide +kernel
theorem ia_h1169_5 : ib_ch ia_c1169 ia_m1169 ((ia_m1169.2.2.2.2.2.2.2.2.2.2.drop (8 * 5)).take 8) = true := by decide +kernel
theorem ia_h1169_6 : ib_ch ia_c1169 ia_m1169 ((ia_m1169.2.2.2.2.2.2.2.2.2.2.drop (8 * 6)).take 8) = true := by decide +kernel
theorem ia_h1169_7 : ib_ch ia_c1169 ia_m1169 ((ia_m1169.2.2.2.2.2.2.2.2.2.2.drop (8 * 7)).take 8) = true := by decide +kernel
theorem ia_h1169_8 : ib_ch ia_c1169 ia_m1169 ((ia_m1169.2.2.2.2.2.2.2.2.2.2.drop (8 * 8)).take 8) = true := by decide +kernel
theorem ia_h1169 : ia_Holds ia_m1169 := by
  refine ib_hold (cal := ia_c1169) (ic_c ia_h263 (ic_c ia_h271 (ic_c ia_h279 (ic_c ia_h287 (ic_c ia_h295 (ic_c ia_h303 (ic_c ia_h311 (ic_c ia_h319 (ic_c ia_h327 (ic_c ia_h335 (ic_c ia_h343 (ic_c ia_h351 (ic_c ia_h359 (ic_c ia_h367 (ic_c ia_h375 (ic_c ia_h383 (ic_c ia_h391 (ic_c ia_h399 (ic_c ia_h407 (ic_c ia_h415 (ic_c ia_h423 (ic_c ia_h431 (ic_c ia_h439 (ic_c ia_h447 (ic_c ia_h455 (ic_c ia_h463 (ic_c ia_h471 (ic_c ia_h479 (ic_c ia_h487 (ic_c ia_h495 (ic_c ia_h503 (ic_c ia_h511 (ic_c ia_h569 (ic_c ia_h570 (ic_c ia_h571 (ic_c ia_h572 (ic_c ia_h573 (ic_c ia_h574 (ic_c ia_h575 (ic_c ia_h576 (ic_c ia_h577 (ic_c ia_h578 (ic_c ia_h579 (ic_c ia_h580 (ic_c ia_h581 (ic_c ia_h582 (ic_c ia_h583 (ic_c ia_h584 (ic_c ia_h585 (ic_c ia_h586 (ic_c ia_h587 (ic_c ia_h588 (ic_c ia_h589 (ic_c ia_h590 (ic_c ia_h591 (ic_c ia_h592 (ic_c ia_h593 (ic_c ia_h594 (ic_c ia_h595 (ic_c ia_h596 (ic_c ia_h597 (ic_c ia_h598 (ic_c ia_h599 (ic_c ia_h600 (ic_c ia_h1048 (ic_c ia_h536 (ic_c ia_h1062 (ic_c ia_h255 (ic_c ia_h973 ic_n))))))))))))))))))))))))))))))))))))))))))))))))))))))))))))))))))))) (ic_inc (by decide +kernel)) (by decide +kernel) (by decide +kernel) (ic_ck (k := 8) 9 ia_m1169.2.2.2.2.2.2.2.2.2.2 (Nat.le_of_ble_eq_true (by decide +kernel)) (fun j hj => ?_))
  rw [← ib_ch_eq]
  match j, hj with
  | 0, _ => exact ia_h1169_0
  | 1, _ => exact ia_h1169_1
  | 2, _ => exact ia_h1169_2
  | 3, _ => exact ia_h1169_3
  | 4, _ => exact ia_h1169_4
  | 5, _ => exact ia_h1169_5
  | 6, _ => exact ia_h1169_6
  | 7, _ => exact ia_h1169_7
  | 8, _ => exact ia_h1169_8
  | x + 9, h => exact absurd h (by omega)
-- FatVolumeModel.mend(II)Z(0, 3)
def ia_c1170 : List ia_M := [ia_m262, ia_m270, ia_m278, ia_m286, ia_m294, ia_m302, ia_m310, ia_m318, ia_m326, ia_m334, ia_m342, ia_m350, ia_m358, ia_m366, ia_m374, ia_m382, ia_m390, ia_m398, ia_m406, ia_m414, ia_m422, ia_m430, ia_m438, ia_m446, ia_m454, ia_m462, ia_m470, ia_m478, ia_m486, ia_m494, ia_m502, ia_m510, ia_m601, ia_m602, ia_m603, ia_m604, ia_m605, ia_m606, ia_m607, ia_m608, ia_m609, ia_m610, ia_m611, ia_m612, ia_m613, ia_m614, ia_m615, ia_m616, ia_m617, ia_m618, ia_m619, ia_m620, ia_m621, ia_m622, ia_m623, ia_m624, ia_m625, ia_m626, ia_m627, ia_m628, ia_m629, ia_m630, ia_m631, ia_m632, ia_m1049, ia_m536, ia_m1062, ia_m255, ia_m973]
theorem ia_h1170_0 : ib_ch ia_c1170 ia_m1170 ((ia_m1170.2.2.2.2.2.2.2.2.2.2.drop (8 * 0)).take 8) = true := by decide +kernel
theorem ia_h1170_1 : ib_ch ia_c1170 ia_m1170 ((ia_m1170.2.2.2.2.2.2.2.2.2.2.drop (8 * 1)).take 8) = true := by decide +kernel
theorem ia_h1170_2 : ib_ch ia_c1170 ia_m1170 ((ia_m1170.2.2.2.2.2.2.2.2.2.2.drop (8 * 2)).take 8) = true := by decide +kernel
theorem ia_h1170_3 : ib_ch ia_c1170 ia_m1170 ((ia_m1170.2.2.2.2.2.2.2.2.2.2.drop (8 * 3)).take 8) = true := by decide +kernel
theorem ia_h1170_4 : ib_ch ia_c1170 ia_m1170 ((ia_m1170.2.2.2.2.2.2.2.2.2.2.drop (8 * 4)).take 8) = true := by decide +kernel
theorem ia_h1170_5 : ib_ch ia_c1170 ia_m1170 ((ia_m1170.2.2.2.2.2.2.2.2.2.2.drop (8 * 5)).take 8) = true := by decide +kernel
theorem ia_h1170_6 : ib_ch ia_c1170 ia_m1170 ((ia_m1170.2.2.2.2.2.2.2.2.2.2.drop (8 * 6)).take 8) = true := by decide +kernel
theorem ia_h1170_7 : ib_ch ia_c1170 ia_m1170 ((ia_m1170.2.2.2.2.2.2.2.2.2.2.drop (8 * 7)).take 8) = true := by decide +kernel
theorem ia_h1170_8 : ib_ch ia_c1170 ia_m1170 ((ia_m1170.2.2.2.2.2.2.2.2.2.2.drop (8 * 8)).take 8) = true := by decide +kernel
theorem ia_h1170 : ia_Holds ia_m1170 := by
  refine ib_hold (cal := ia_c1170) (ic_c ia_h262 (ic_c ia_h270 (ic_c ia_h278 (ic_c ia_h286 (ic_c ia_h294 (ic_c ia_h302 (ic_c ia_h310 (ic_c ia_h318 (ic_c ia_h326 (ic_c ia_h334 (ic_c ia_h342 (ic_c ia_h350 (ic_c ia_h358 (ic_c ia_h366 (ic_c ia_h374 (ic_c ia_h382 (ic_c ia_h390 (ic_c ia_h398 (ic_c ia_h406 (ic_c ia_h414 (ic_c ia_h422 (ic_c ia_h430 (ic_c ia_h438 (ic_c ia_h446 (ic_c ia_h454 (ic_c ia_h462 (ic_c ia_h470 (ic_c ia_h478 (ic_c ia_h486 (ic_c ia_h494 (ic_c ia_h502 (ic_c ia_h510 (ic_c ia_h601 (ic_c ia_h602 (ic_c ia_h603 (ic_c ia_h604 (ic_c ia_h605 (ic_c ia_h606 (ic_c ia_h607 (ic_c ia_h608 (ic_c ia_h609 (ic_c ia_h610 (ic_c ia_h611 (ic_c ia_h612 (ic_c ia_h613 (ic_c ia_h614 (ic_c ia_h615 (ic_c ia_h616 (ic_c ia_h617 (ic_c ia_h618 (ic_c ia_h619 (ic_c ia_h620 (ic_c ia_h621 (ic_c ia_h622 (ic_c ia_h623 (ic_c ia_h624 (ic_c ia_h625 (ic_c ia_h626 (ic_c ia_h627 (ic_c ia_h628 (ic_c ia_h629 (ic_c ia_h630 (ic_c ia_h631 (ic_c ia_h632 (ic_c ia_h1049 (ic_c ia_h536 (ic_c ia_h1062 (ic_c ia_h255 (ic_c ia_h973 ic_n))))))))))))))))))))))))))))))))))))))))))))))))))))))))))))))))))))) (ic_inc (by decide +kernel)) (by decide +kernel) (by decide +kernel) (ic_ck (k := 8) 9 ia_m1170.2.2.2.2.2.2.2.2.2.2 (Nat.le_of_ble_eq_true (by decide +kernel)) (fun j hj => ?_))
  rw [← ib_ch_eq]
  match j, hj with
  | 0, _ => exact ia_h1170_0
  | 1, _ => exact ia_h1170_1
  | 2, _ => exact ia_h1170_2
  | 3, _ => exact ia_h1170_3
  | 4, _ => exact ia_h1170_4
  | 5, _ => exact ia_h1170_5
  | 6, _ => exact ia_h1170_6
  | 7, _ => exact ia_h1170_7
  | 8, _ => exact ia_h1170_8
  | x + 9, h => exact absurd h (by omega)
-- FatVolumeModel.mend(II)Z(4, 0)
theorem ia_h1171 : ia_Holds ia_m1171 := ib_hold1 (cal := [ia_m925, ia_m536, ia_m1062, ia_m255]) (ic_c ia_h925 (ic_c ia_h536 (ic_c ia_h1062 (ic_c ia_h255 ic_n)))) (ic_inc (by decide +kernel)) (by decide +kernel)
-- FatVolumeModel.mend(II)Z(3, 1)
def ia_c1172 : List ia_M := [ia_m537, ia_m538, ia_m539, ia_m540, ia_m541, ia_m542, ia_m543, ia_m544, ia_m545, ia_m546, ia_m547, ia_m548, ia_m549, ia_m550, ia_m551, ia_m552, ia_m553, ia_m554, ia_m555, ia_m556, ia_m557, ia_m558, ia_m559, ia_m560, ia_m561, ia_m562, ia_m563, ia_m564, ia_m565, ia_m566, ia_m567, ia_m568, ia_m264, ia_m272, ia_m280, ia_m288, ia_m296, ia_m304, ia_m312, ia_m320, ia_m328, ia_m336, ia_m344, ia_m352, ia_m360, ia_m368, ia_m376, ia_m384, ia_m392, ia_m400, ia_m408, ia_m416, ia_m424, ia_m432, ia_m440, ia_m448, ia_m456, ia_m464, ia_m472, ia_m480, ia_m488, ia_m496, ia_m504, ia_m512, ia_m1047, ia_m536, ia_m1062, ia_m255, ia_m973]
theorem ia_h1172_0 : ib_ch ia_c1172 ia_m1172 ((ia_m1172.2.2.2.2.2.2.2.2.2.2.drop (8 * 0)).take 8) = true := by decide +kernel
theorem ia_h1172_1 : ib_ch ia_c1172 ia_m1172 ((ia_m1172.2.2.2.2.2.2.2.2.2.2.drop (8 * 1)).take 8) = true := by decide +kernel
theorem ia_h1172_2 : ib_ch ia_c1172 ia_m1172 ((ia_m1172.2.2.2.2.2.2.2.2.2.2.drop (8 * 2)).take 8) = true := by decide +kernel
theorem ia_h1172_3 : ib_ch ia_c1172 ia_m1172 ((ia_m1172.2.2.2.2.2.2.2.2.2.2.drop (8 * 3)).take 8) = true := by decide +kernel
theorem ia_h1172_4 : ib_ch ia_c1172 ia_m1172 ((ia_m1172.2.2.2.2.2.2.2.2.2.2.drop (8 * 4)).take 8) = true := by decide +kernel
theorem ia_h1172_5 : ib_ch ia_c1172 ia_m1172 ((ia_m1172.2.2.2.2.2.2.2.2.2.2.drop (8 * 5)).take 8) = true := by decide +kernel
theorem ia_h1172_6 : ib_ch ia_c1172 ia_m1172 ((ia_m1172.2.2.2.2.2.2.2.2.2.2.drop (8 * 6)).take 8) = true := by decide +kernel
theorem ia_h1172_7 : ib_ch ia_c1172 ia_m1172 ((ia_m1172.2.2.2.2.2.2.2.2.2.2.drop (8 * 7)).take 8) = true := by decide +kernel
theorem ia_h1172_8 : ib_ch ia_c1172 ia_m1172 ((ia_m1172.2.2.2.2.2.2.2.2.2.2.drop (8 * 8)).take 8) = true := by decide +kernel
theorem ia_h1172 : ia_Holds ia_m1172 := by
  refine ib_hold (cal := ia_c1172) (ic_c ia_h537 (ic_c ia_h538 (ic_c ia_h539 (ic_c ia_h540 (ic_c ia_h541 (ic_c ia_h542 (ic_c ia_h543 (ic_c ia_h544 (ic_c ia_h545 (ic_c ia_h546 (ic_c ia_h547 (ic_c ia_h548 (ic_c ia_h549 (ic_c ia_h550 (ic_c ia_h551 (ic_c ia_h552 (ic_c ia_h553 (ic_c ia_h554 (ic_c ia_h555 (ic_c ia_h556 (ic_c ia_h557 (ic_c ia_h558 (ic_c ia_h559 (ic_c ia_h560 (ic_c ia_h561 (ic_c ia_h562 (ic_c ia_h563 (ic_c ia_h564 (ic_c ia_h565 (ic_c ia_h566 (ic_c ia_h567 (ic_c ia_h568 (ic_c ia_h264 (ic_c ia_h272 (ic_c ia_h280 (ic_c ia_h288 (ic_c ia_h296 (ic_c ia_h304 (ic_c ia_h312 (ic_c ia_h320 (ic_c ia_h328 (ic_c ia_h336 (ic_c ia_h344 (ic_c ia_h352 (ic_c ia_h360 (ic_c ia_h368 (ic_c ia_h376 (ic_c ia_h384 (ic_c ia_h392 (ic_c ia_h400 (ic_c ia_h408 (ic_c ia_h416 (ic_c ia_h424 (ic_c ia_h432 (ic_c ia_h440 (ic_c ia_h448 (ic_c ia_h456 (ic_c ia_h464 (ic_c ia_h472 (ic_c ia_h480 (ic_c ia_h488 (ic_c ia_h496 (ic_c ia_h504 (ic_c ia_h512 (ic_c ia_h1047 (ic_c ia_h536 (ic_c ia_h1062 (ic_c ia_h255 (ic_c ia_h973 ic_n))))))))))))))))))))))))))))))))))))))))))))))))))))))))))))))))))))) (ic_inc (by decide +kernel)) (by decide +kernel) (by decide +kernel) (ic_ck (k := 8) 9 ia_m1172.2.2.2.2.2.2.2.2.2.2 (Nat.le_of_ble_eq_true (by decide +kernel)) (fun j hj => ?_))
  rw [← ib_ch_eq]
  match j, hj with
  | 0, _ => exact ia_h1172_0
  | 1, _ => exact ia_h1172_1
  | 2, _ => exact ia_h1172_2
  | 3, _ => exact ia_h1172_3
  | 4, _ => exact ia_h1172_4
  | 5, _ => exact ia_h1172_5
  | 6, _ => exact ia_h1172_6
  | 7, _ => exact ia_h1172_7
  | 8, _ => exact ia_h1172_8
  | x + 9, h => exact absurd h (by omega)
