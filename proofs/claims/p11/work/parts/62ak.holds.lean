/-! the checks -/
-- FatVolumeModel.mend(II)Z(2, 2)
def ia_c1173 : List ia_M := [ia_m263, ia_m271, ia_m279, ia_m287, ia_m295, ia_m303, ia_m311, ia_m319, ia_m327, ia_m335, ia_m343, ia_m351, ia_m359, ia_m367, ia_m375, ia_m383, ia_m391, ia_m399, ia_m407, ia_m415, ia_m423, ia_m431, ia_m439, ia_m447, ia_m455, ia_m463, ia_m471, ia_m479, ia_m487, ia_m495, ia_m503, ia_m511, ia_m569, ia_m570, ia_m571, ia_m572, ia_m573, ia_m574, ia_m575, ia_m576, ia_m577, ia_m578, ia_m579, ia_m580, ia_m581, ia_m582, ia_m583, ia_m584, ia_m585, ia_m586, ia_m587, ia_m588, ia_m589, ia_m590, ia_m591, ia_m592, ia_m593, ia_m594, ia_m595, ia_m596, ia_m597, ia_m598, ia_m599, ia_m600, ia_m1048, ia_m536, ia_m1062, ia_m255, ia_m973]
theorem ia_h1173_0 : ib_ch ia_c1173 ia_m1173 ((ia_m1173.2.2.2.2.2.2.2.2.2.2.drop (8 * 0)).take 8) = true := by decide +kernel
theorem ia_h1173_1 : ib_ch ia_c1173 ia_m1173 ((ia_m1173.2.2.2.2.2.2.2.2.2.2.drop (8 * 1)).take 8) = true := by decide +kernel
theorem ia_h1173_2 : ib_ch ia_c1173 ia_m1173 ((ia_m1173.2.2.2.2.2.2.2.2.2.2.drop (8 * 2)).take 8) = true := by decide +kernel
theorem ia_h1173_3 : ib_ch ia_c1173 ia_m1173 ((ia_m1173.2.2.2.2.2.2.2.2.2.2.drop (8 * 3)).take 8) = true := by decide +kernel
theorem ia_h1173_4 : ib_ch ia_c1173 ia_m1173 ((ia_m1173.2.2.2.2.2.2.2.2.2.2.drop (8 * 4)).take 8) = true := by decide +kernel
theorem ia_h1173_5 : ib_ch ia_c1173 ia_m1173 ((ia_m1173.2.2.2.2.2.2.2.2.2.2.drop (8 * 5)).take 8) = true := by decide +kernel
theorem ia_h1173_6 : ib_ch ia_c1173 ia_m1173 ((ia_m1173.2.2.2.2.2.2.2.2.2.2.drop (8 * 6)).take 8) = true := by decide +kernel
theorem ia_h1173_7 : ib_ch ia_c1173 ia_m1173 ((ia_m1173.2.2.2.2.2.2.2.2.2.2.drop (8 * 7)).take 8) = true := by decide +kernel
theorem ia_h1173_8 : ib_ch ia_c1173 ia_m1173 ((ia_m1173.2.2.2.2.2.2.2.2.2.2.drop (8 * 8)).take 8) = true := by decide +kernel
theorem ia_h1173 : ia_Holds ia_m1173 := by
  refine ib_hold (cal := ia_c1173) (ic_c ia_h263 (ic_c ia_h271 (ic_c ia_h279 (ic_c ia_h287 (ic_c ia_h295 (ic_c ia_h303 (ic_c ia_h311 (ic_c ia_h319 (ic_c ia_h327 (ic_c ia_h335 (ic_c ia_h343 (ic_c ia_h351 (ic_c ia_h359 (ic_c ia_h367 (ic_c ia_h375 (ic_c ia_h383 (ic_c ia_h391 (ic_c ia_h399 (ic_c ia_h407 (ic_c ia_h415 (ic_c ia_h423 (ic_c ia_h431 (ic_c ia_h439 (ic_c ia_h447 (ic_c ia_h455 (ic_c ia_h463 (ic_c ia_h471 (ic_c ia_h479 (ic_c ia_h487 (ic_c ia_h495 (ic_c ia_h503 (ic_c ia_h511 (ic_c ia_h569 (ic_c ia_h570 (ic_c ia_h571 (ic_c ia_h572 (ic_c ia_h573 (ic_c ia_h574 (ic_c ia_h575 (ic_c ia_h576 (ic_c ia_h577 (ic_c ia_h578 (ic_c ia_h579 (ic_c ia_h580 (ic_c ia_h581 (ic_c ia_h582 (ic_c ia_h583 (ic_c ia_h584 (ic_c ia_h585 (ic_c ia_h586 (ic_c ia_h587 (ic_c ia_h588 (ic_c ia_h589 (ic_c ia_h590 (ic_c ia_h591 (ic_c ia_h592 (ic_c ia_h593 (ic_c ia_h594 (ic_c ia_h595 (ic_c ia_h596 (ic_c ia_h597 (ic_c ia_h598 (ic_c ia_h599 (ic_c ia_h600 (ic_c ia_h1048 (ic_c ia_h536 (ic_c ia_h1062 (ic_c ia_h255 (ic_c ia_h973 ic_n))))))))))))))))))))))))))))))))))))))))))))))))))))))))))))))))))))) (ic_inc (by decide +kernel)) (by decide +kernel) (by decide +kernel) (ic_ck (k := 8) 9 ia_m1173.2.2.2.2.2.2.2.2.2.2 (Nat.le_of_ble_eq_true (by decide +kernel)) (fun j hj => ?_))
  rw [← ib_ch_eq]
  match j, hj with
  | 0, _ => exact ia_h1173_0
  | 1, _ => exact ia_h1173_1
  | 2, _ => exact ia_h1173_2
  | 3, _ => exact ia_h1173_3
  | 4, _ => exact ia_h1173_4
  | 5, _ => exact ia_h1173_5
  | 6, _ => exact ia_h1173_6
  | 7, _ => exact ia_h1173_7
  | 8, _ => exact ia_h1173_8
  | x + 9, h => exact absurd h (by omega)
-- FatVolumeModel.mend(II)Z(1, 3)
def ia_c1174 : List ia_M := [ia_m262, ia_m270, ia_m278, ia_m286, ia_m294, ia_m302, ia_m310, ia_m318, ia_m326, ia_m334, ia_m342, ia_m350, ia_m358, ia_m366, ia_m374, ia_m382, ia_m390, ia_m398, ia_m406, ia_m414, ia_m422, ia_m430, ia_m438, ia_m446, ia_m454, ia_m462, ia_m470, ia_m478, ia_m486, ia_m494, ia_m502, ia_m510, ia_m601, ia_m602, ia_m603, ia_m604, ia_m605, ia_m606, ia_m607, ia_m608, ia_m609, ia_m610, ia_m611, ia_m612, ia_m613, ia_m614, ia_m615, ia_m616, ia_m617, ia_m618, ia_m619, ia_m620, ia_m621, ia_m622, ia_m623, ia_m624, ia_m625, ia_m626, ia_m627, ia_m628, ia_m629, ia_m630, ia_m631, ia_m632, ia_m1049, ia_m536, ia_m1062, ia_m255, ia_m973]
theorem ia_h1174_0 : ib_ch ia_c1174 ia_m1174 ((ia_m1174.2.2.2.2.2.2.2.2.2.2.drop (8 * 0)).take 8) = true := by decide +kernel
theorem ia_h1174_1 : ib_ch ia_c1174 ia_m1174 ((ia_m1174.2.2.2.2.2.2.2.2.2.2.drop (8 * 1)).take 8) = true := by decide +kernel
theorem ia_h1174_2 : ib_ch ia_c1174 ia_m1174 ((ia_m1174.2.2.2.2.2.2.2.2.2.2.drop (8 * 2)).take 8) = true := by decide +kernel
theorem ia_h1174_3 : ib_ch ia_c1174 ia_m1174 ((ia_m1174.2.2.2.2.2.2.2.2.2.2.drop (8 * 3)).take 8) = true := by decide +kernel
theorem ia_h1174_4 : ib_ch ia_c1174 ia_m1174 ((ia_m1174.2.2.2.2.2.2.2.2.2.2.drop (8 * 4)).take 8) = true := by decide +kernel
theorem ia_h1174_5 : ib_ch ia_c1174 ia_m1174 ((ia_m1174.2.2.2.2.2.2.2.2.2.2.drop (8 * 5)).take 8) = true := by decide +kernel
theorem ia_h1174_6 : ib_ch ia_c1174 ia_m1174 ((ia_m1174.2.2.2.2.2.2.2.2.2.2.drop (8 * 6)).take 8) = true := by decide +kernel
theorem ia_h1174_7 : ib_ch ia_c1174 ia_m1174 ((ia_m1174.2.2.2.2.2.2.2.2.2.2.drop (8 * 7)).take 8) = true := by decide +kernel
theorem ia_h1174_8 : ib_ch ia_c1174 ia_m1174 ((ia_m1174.2.2.2.2.2.2.2.2.2.2.drop (8 * 8)).take 8) = true := by decide +kernel
theorem ia_h1174 : ia_Holds ia_m1174 := by
  refine ib_hold (cal := ia_c1174) (ic_c ia_h262 (ic_c ia_h270 (ic_c ia_h278 (ic_c ia_h286 (ic_c ia_h294 (ic_c ia_h302 (ic_c ia_h310 (ic_c ia_h318 (ic_c ia_h326 (ic_c ia_h334 (ic_c ia_h342 (ic_c ia_h350 (ic_c ia_h358 (ic_c ia_h366 (ic_c ia_h374 (ic_c ia_h382 (ic_c ia_h390 (ic_c ia_h398 (ic_c ia_h406 (ic_c ia_h414 (ic_c ia_h422 (ic_c ia_h430 (ic_c ia_h438 (ic_c ia_h446 (ic_c ia_h454 (ic_c ia_h462 (ic_c ia_h470 (ic_c ia_h478 (ic_c ia_h486 (ic_c ia_h494 (ic_c ia_h502 (ic_c ia_h510 (ic_c ia_h601 (ic_c ia_h602 (ic_c ia_h603 (ic_c ia_h604 (ic_c ia_h605 (ic_c ia_h606 (ic_c ia_h607 (ic_c ia_h608 (ic_c ia_h609 (ic_c ia_h610 (ic_c ia_h611 (ic_c ia_h612 (ic_c ia_h613 (ic_c ia_h614 (ic_c ia_h615 (ic_c ia_h616 (ic_c ia_h617 (ic_c ia_h618 (ic_c ia_h619 (ic_c ia_h620 (ic_c ia_h621 (ic_c ia_h622 (ic_c ia_h623 (ic_c ia_h624 (ic_c ia_h625 (ic_c ia_h626 (ic_c ia_h627 (ic_c ia_h628 (ic_c ia_h629 (ic_c ia_h630 (ic_c ia_h631 (ic_c ia_h632 (ic_c ia_h1049 (ic_c ia_h536 (ic_c ia_h1062 (ic_c ia_h255 (ic_c ia_h973 ic_n))))))))))))))))))))))))))))))))))))))))))))))))))))))))))))))))))))) (ic_inc (by decide +kernel)) (by decide +kernel) (by decide +kernel) (ic_ck (k := 8) 9 ia_m1174.2.2.2.2.2.2.2.2.2.2 (Nat.le_of_ble_eq_true (by decide +kernel)) (fun j hj => ?_))
  rw [← ib_ch_eq]
  match j, hj with
  | 0, _ => exact ia_h1174_0
  | 1, _ => exact ia_h1174_1
  | 2, _ => exact ia_h1174_2
  | 3, _ => exact ia_h1174_3
  | 4, _ => exact ia_h1174_4
  | 5, _ => exact ia_h1174_5
  | 6, _ => exact ia_h1174_6
  | 7, _ => exact ia_h1174_7
  | 8, _ => exact ia_h1174_8
  | x + 9, h => exact absurd h (by omega)
-- FatVolumeModel.mend(II)Z(0, 4)
def ia_c1175 : List ia_M := [ia_m261, ia_m269, ia_m277, ia_m285, ia_m293, ia_m301, ia_m309, ia_m317, ia_m325, ia_m333, ia_m341, ia_m349, ia_m357, ia_m365, ia_m373, ia_m381, ia_m389, ia_m397, ia_m405, ia_m413, ia_m421, ia_m429, ia_m437, ia_m445, ia_m453, ia_m461, ia_m469, ia_m477, ia_m485, ia_m493, ia_m501, ia_m509, ia_m633, ia_m634, ia_m635, ia_m636, ia_m637, ia_m638, ia_m639, ia_m640, ia_m641, ia_m642, ia_m643, ia_m644, ia_m645, ia_m646, ia_m647, ia_m648, ia_m649, ia_m650, ia_m651, ia_m652, ia_m653, ia_m654, ia_m655, ia_m656, ia_m657, ia_m658, ia_m659, ia_m660, ia_m661, ia_m662, ia_m663, ia_m664, ia_m1050, ia_m536, ia_m1062, ia_m255, ia_m973]
theorem ia_h1175_0 : ib_ch ia_c1175 ia_m1175 ((ia_m1175.2.2.2.2.2.2.2.2.2.2.drop (8 * 0)).take 8) = true := by decide +kernel
theorem ia_h1175_1 : ib_ch ia_c1175 ia_m1175 ((ia_m1175.2.2.2.2.2.2.2.2.2.2.drop (8 * 1)).take 8) = true := by decide +kernel
theorem ia_h1175_2 : ib_ch ia_c1175 ia_m1175 ((ia_m1175.2.2.2.2.2.2.2.2.2.2.drop (8 * 2)).take 8) = true := by decide +kernel
theorem ia_h1175_3 : ib_ch ia_c1175 ia_m1175 ((ia_m1175.2.2.2.2.2.2.2.2.2.2.drop (8 * 3)).take 8) = true := by decide +kernel
theorem ia_h1175_4 : ib_ch ia_c1175 ia_m1175 ((ia_m1175.2.2.2.2.2.2.2.2.2.2.drop (8 * 4)).take 8) = true := by decide +kernel
theorem ia_h1175_5 : ib_ch ia_c1175 ia_m1175 ((ia_m1175.2.2.2.2.2.2.2.2.2.2.drop (8 * 5)).take 8) = true := by decide +kernel
theorem ia_h1175_6 : ib_ch ia_c1175 ia_m1175 ((ia_m1175.2.2.2.2.2.2.2.2.2.2.drop (8 * 6)).take 8) = true := by decide +kernel
theorem ia_h1175_7 : ib_ch ia_c1175 ia_m1175 ((ia_m1175.2.2.2.2.2.2.2.2.2.2.drop (8 * 7)).take 8) = true := by decide +kernel
theorem ia_h1175_8 : ib_ch ia_c1175 ia_m1175 ((ia_m1175.2.2.2.2.2.2.2.2.2.2.drop (8 * 8)).take 8) = true := by decide +kernel
theorem ia_h1175 : ia_Holds ia_m1175 := by
  refine ib_hold (cal := ia_c1175) (ic_c ia_h261 (ic_c ia_h269 (ic_c ia_h277 (ic_c ia_h285 (ic_c ia_h293 (ic_c ia_h301 (ic_c ia_h309 (ic_c ia_h317 (ic_c ia_h325 (ic_c ia_h333 (ic_c ia_h341 (ic_c ia_h349 (ic_c ia_h357 (ic_c ia_h365 (ic_c ia_h373 (ic_c ia_h381 (ic_c ia_h389 (ic_c ia_h397 (ic_c ia_h405 (ic_c ia_h413 (ic_c ia_h421 (ic_c ia_h429 (ic_c ia_h437 (ic_c ia_h445 (ic_c ia_h453 (ic_c ia_h461 (ic_c ia_h469 (ic_c ia_h477 (ic_c ia_h485 (ic_c ia_h493 (ic_c ia_h501 (ic_c ia_h509 (ic_c ia_h633 (ic_c ia_h634 (ic_c ia_h635 (ic_c ia_h636 (ic_c ia_h637 (ic_c ia_h638 (ic_c ia_h639 (ic_c ia_h640 (ic_c ia_h641 (ic_c ia_h642 (ic_c ia_h643 (ic_c ia_h644 (ic_c ia_h645 (ic_c ia_h646 (ic_c ia_h647 (ic_c ia_h648 (ic_c ia_h649 (ic_c ia_h650 (ic_c ia_h651 (ic_c ia_h652 (ic_c ia_h653 (ic_c ia_h654 (ic_c ia_h655 (ic_c ia_h656 (ic_c ia_h657 (ic_c ia_h658 (ic_c ia_h659 (ic_c ia_h660 (ic_c ia_h661 (ic_c ia_h662 (ic_c ia_h663 (ic_c ia_h664 (ic_c ia_h1050 (ic_c ia_h536 (ic_c ia_h1062 (ic_c ia_h255 (ic_c ia_h973 ic_n))))))))))))))))))))))))))))))))))))))))))))))))))))))))))))))))))))) (ic_inc (by decide +kernel)) (by decide +kernel) (by decide +kernel) (ic_ck (k := 8) 9 ia_m1175.2.2.2.2.2.2.2.2.2.2 (Nat.le_of_ble_eq_true (by decide +kernel)) (fun j hj => ?_))
  rw [← ib_ch_eq]
  match j, hj with
  | 0, _ => exact ia_h1175_0
  | 1, _ => exact ia_h1175_1
  | 2, _ => exact ia_h1175_2
  | 3, _ => exact ia_h1175_3
  | 4, _ => exact ia_h1175_4
  | 5, _ => exact ia_h1175_5
  | 6, _ => exact ia_h1175_6
  | 7, _ => exact ia_h1175_7
  | 8, _ => exact ia_h1175_8
  | x + 9, h => exact absurd h (by omega)
-- FatVolumeModel.mend(II)Z(4, 1)
theorem ia_h1176 : ia_Holds ia_m1176 := ib_hold1 (cal := [ia_m1047, ia_m536, ia_m1062, ia_m255]) (ic_c ia_h1047 (ic_c ia_h536 (ic_c ia_h1062 (ic_c ia_h255 ic_n)))) (ic_inc (by decide +kernel)) (by decide +kernel)
