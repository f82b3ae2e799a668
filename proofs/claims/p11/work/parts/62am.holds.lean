/-! the checks -/
-- FatVolumeModel.mend(II)Z(4, 2)
theorem ia_h1181 : ia_Holds ia_m1181 := ib_hold1 (cal := [ia_m1048, ia_m536, ia_m1062, ia_m255]) (ic_c ia_h1048 (ic_c ia_h536 (ic_c ia_h1062 (ic_c ia_h255 ic_n)))) (ic_inc (by decide +kernel)) (by decide +kernel)
-- FatVolumeModel.mend(II)Z(3, 3)
def ia_c1182 : List ia_M := [ia_m262, ia_m270, ia_m278, ia_m286, ia_m294, ia_m302, ia_m310, ia_m318, ia_m326, ia_m334, ia_m342, ia_m350, ia_m358, ia_m366, ia_m374, ia_m382, ia_m390, ia_m398, ia_m406, ia_m414, ia_m422, ia_m430, ia_m438, ia_m446, ia_m454, ia_m462, ia_m470, ia_m478, ia_m486, ia_m494, ia_m502, ia_m510, ia_m601, ia_m602, ia_m603, ia_m604, ia_m605, ia_m606, ia_m607, ia_m608, ia_m609, ia_m610, ia_m611, ia_m612, ia_m613, ia_m614, ia_m615, ia_m616, ia_m617, ia_m618, ia_m619, ia_m620, ia_m621, ia_m622, ia_m623, ia_m624, ia_m625, ia_m626, ia_m627, ia_m628, ia_m629, ia_m630, ia_m631, ia_m632, ia_m1049, ia_m536, ia_m1062, ia_m255, ia_m973]
theorem ia_h1182_0 : ib_ch ia_c1182 ia_m1182 ((ia_m1182.2.2.2.2.2.2.2.2.2.2.drop (8 * 0)).take 8) = true := by decide +kernel
theorem ia_h1182_1 : ib_ch ia_c1182 ia_m1182 ((ia_m1182.2.2.2.2.2.2.2.2.2.2.drop (8 * 1)).take 8) = true := by decide +kernel
theorem ia_h1182_2 : ib_ch ia_c1182 ia_m1182 ((ia_m1182.2.2.2.2.2.2.2.2.2.2.drop (8 * 2)).take 8) = true := by decide +kernel
theorem ia_h1182_3 : ib_ch ia_c1182 ia_m1182 ((ia_m1182.2.2.2.2.2.2.2.2.2.2.drop (8 * 3)).take 8) = true := by decide +kernel
theorem ia_h1182_4 : ib_ch ia_c1182 ia_m1182 ((ia_m1182.2.2.2.2.2.2.2.2.2.2.drop (8 * 4)).take 8) = true := by decide +kernel
theorem ia_h1182_5 : ib_ch ia_c1182 ia_m1182 ((ia_m1182.2.2.2.2.2.2.2.2.2.2.drop (8 * 5)).take 8) = true := by decide +kernel
theorem ia_h1182_6 : ib_ch ia_c1182 ia_m1182 ((ia_m1182.2.2.2.2.2.2.2.2.2.2.drop (8 * 6)).take 8) = true := by decide +kernel
theorem ia_h1182_7 : ib_ch ia_c1182 ia_m1182 ((ia_m1182.2.2.2.2.2.2.2.2.2.2.drop (8 * 7)).take 8) = true := by decide +kernel
theorem ia_h1182_8 : ib_ch ia_c1182 ia_m1182 ((ia_m1182.2.2.2.2.2.2.2.2.2.2.drop (8 * 8)).take 8) = true := by decide +kernel
theorem ia_h1182 : ia_Holds ia_m1182 := by
  refine ib_hold (cal := ia_c1182) (ic_c ia_h262 (ic_c ia_h270 (ic_c ia_h278 (ic_c ia_h286 (ic_c ia_h294 (ic_c ia_h302 (ic_c ia_h310 (ic_c ia_h318 (ic_c ia_h326 (ic_c ia_h334 (ic_c ia_h342 (ic_c ia_h350 (ic_c ia_h358 (ic_c ia_h366 (ic_c ia_h374 (ic_c ia_h382 (ic_c ia_h390 (ic_c ia_h398 (ic_c ia_h406 (ic_c ia_h414 (ic_c ia_h422 (ic_c ia_h430 (ic_c ia_h438 (ic_c ia_h446 (ic_c ia_h454 (ic_c ia_h462 (ic_c ia_h470 (ic_c ia_h478 (ic_c ia_h486 (ic_c ia_h494 (ic_c ia_h502 (ic_c ia_h510 (ic_c ia_h601 (ic_c ia_h602 (ic_c ia_h603 (ic_c ia_h604 (ic_c ia_h605 (ic_c ia_h606 (ic_c ia_h607 (ic_c ia_h608 (ic_c ia_h609 (ic_c ia_h610 (ic_c ia_h611 (ic_c ia_h612 (ic_c ia_h613 (ic_c ia_h614 (ic_c ia_h615 (ic_c ia_h616 (ic_c ia_h617 (ic_c ia_h618 (ic_c ia_h619 (ic_c ia_h620 (ic_c ia_h621 (ic_c ia_h622 (ic_c ia_h623 (ic_c ia_h624 (ic_c ia_h625 (ic_c ia_h626 (ic_c ia_h627 (ic_c ia_h628 (ic_c ia_h629 (ic_c ia_h630 (ic_c ia_h631 (ic_c ia_h632 (ic_c ia_h1049 (ic_c ia_h536 (ic_c ia_h1062 (ic_c ia_h255 (ic_c ia_h973 ic_n))))))))))))))))))))))))))))))))))))))))))))))))))))))))))))))))))))) (ic_inc (by decide +kernel)) (by decide +kernel) (by decide +kernel) (ic_ck (k := 8) 9 ia_m1182.2.2.2.2.2.2.2.2.2.2 (Nat.le_of_ble_eq_true (by decide +kernel)) (fun j hj => ?_))
  rw [← ib_ch_eq]
  match j, hj with
  | 0, _ => exact ia_h1182_0
  | 1, _ => exact ia_h1182_1
  | 2, _ => exact ia_h1182_2
  | 3, _ => exact ia_h1182_3
  | 4, _ => exact ia_h1182_4
  | 5, _ => exact ia_h1182_5
  | 6, _ => exact ia_h1182_6
  | 7, _ => exact ia_h1182_7
  | 8, _ => exact ia_h1182_8
  | x + 9, h => exact absurd h (by omega)
-- FatVolumeModel.mend(II)Z(2, 4)
def ia_c1183 : List ia_M := [ia_m261, ia_m269, ia_m277, ia_m285, ia_m293, ia_m301, ia_m309, ia_m317, ia_m325, ia_m333, ia_m341, ia_m349, ia_m357, ia_m365, ia_m373, ia_m381, ia_m389, ia_m397, ia_m405, ia_m413, ia_m421, ia_m429, ia_m437, ia_m445, ia_m453, ia_m461, ia_m469, ia_m477, ia_m485, ia_m493, ia_m501, ia_m509, ia_m633, ia_m634, ia_m635, ia_m636, ia_m637, ia_m638, ia_m639, ia_m640, ia_m641, ia_m642, ia_m643, ia_m644, ia_m645, ia_m646, ia_m647, ia_m648, ia_m649, ia_m650, ia_m651, ia_m652, ia_m653, ia_m654, ia_m655, ia_m656, ia_m657, ia_m658, ia_m659, ia_m660, ia_m661, ia_m662, ia_m663, ia_m664, ia_m1050, ia_m536, ia_m1062, ia_m255, ia_m973]
theorem ia_h1183_0 : ib_ch ia_c1183 ia_m1183 ((ia_m1183.2.2.2.2.2.2.2.2.2.2.drop (8 * 0)).take 8) = true := by decide +kernel
theorem ia_h1183_1 : ib_ch ia_c1183 ia_m1183 ((ia_m1183.2.2.2.2.2.2.2.2.2.2.drop (8 * 1)).take 8) = true := by decide +kernel
theorem ia_h1183_2 : ib_ch ia_c1183 ia_m1183 ((ia_m1183.2.2.2.2.2.2.2.2.2.2.drop (8 * 2)).take 8) = true := by decide +kernel
theorem ia_h1183_3 : ib_ch ia_c1183 ia_m1183 ((ia_m1183.2.2.2.2.2.2.2.2.2.2.drop (8 * 3)).take 8) = true := by decide +kernel
theorem ia_h1183_4 : ib_ch ia_c1183 ia_m1183 ((ia_m1183.2.2.2.2.2.2.2.2.2.2.drop (8 * 4)).take 8) = true := by decide +kernel
theorem ia_h1183_5 : ib_ch ia_c1183 ia_m1183 ((ia_m1183.2.2.2.2.2.2.2.2.2.2.drop (8 * 5)).take 8) = true := by decide +kernel
theorem ia_h1183_6 : ib_ch ia_c1183 ia_m1183 ((ia_m1183.2.2.2.2.2.2.2.2.2.2.drop (8 * 6)).take 8) = true := by decide +kernel
theorem ia_h1183_7 : ib_ch ia_c1183 ia_m1183 ((ia_m1183.2.2.2.2.2.2.2.2.2.2.drop (8 * 7)).take 8) = true := by decide +kernel
theorem ia_h1183_8 : ib_ch ia_c1183 ia_m1183 ((ia_m1183.2.2.2.2.2.2.2.2.2.2.drop (8 * 8)).take 8) = true := by decide +kernel
theorem ia_h1183 : ia_Holds ia_m1183 := by
  refine ib_hold (cal := ia_c1183) (ic_c ia_h261 (ic_c ia_h269 (ic_c ia_h277 (ic_c ia_h285 (ic_c ia_h293 (ic_c ia_h301 (ic_c ia_h309 (ic_c ia_h317 (ic_c ia_h325 (ic_c ia_h333 (ic_c ia_h341 (ic_c ia_h349 (ic_c ia_h357 (ic_c ia_h365 (ic_c ia_h373 (ic_c ia_h381 (ic_c ia_h389 (ic_c ia_h397 (ic_c ia_h405 (ic_c ia_h413 (ic_c ia_h421 (ic_c ia_h429 (ic_c ia_h437 (ic_c ia_h445 (ic_c ia_h453 (ic_c ia_h461 (ic_c ia_h469 (ic_c ia_h477 (ic_c ia_h485 (ic_c ia_h493 (ic_c ia_h501 (ic_c ia_h509 (ic_c ia_h633 (ic_c ia_h634 (ic_c ia_h635 (ic_c ia_h636 (ic_c ia_h637 (ic_c ia_h638 (ic_c ia_h639 (ic_c ia_h640 (ic_c ia_h641 (ic_c ia_h642 (ic_c ia_h643 (ic_c ia_h644 (ic_c ia_h645 (ic_c ia_h646 (ic_c ia_h647 (ic_c ia_h648 (ic_c ia_h649 (ic_c ia_h650 (ic_c ia_h651 (ic_c ia_h652 (ic_c ia_h653 (ic_c ia_h654 (ic_c ia_h655 (ic_c ia_h656 (ic_c ia_h657 (ic_c ia_h658 (ic_c ia_h659 (ic_c ia_h660 (ic_c ia_h661 (ic_c ia_h662 (ic_c ia_h663 (ic_c ia_h664 (ic_c ia_h1050 (ic_c ia_h536 (ic_c ia_h1062 (ic_c ia_h255 (ic_c ia_h973 ic_n))))))))))))))))))))))))))))))))))))))))))))))))))))))))))))))))))))) (ic_inc (by decide +kernel)) (by decide +kernel) (by decide +kernel) (ic_ck (k := 8) 9 ia_m1183.2.2.2.2.2.2.2.2.2.2 (Nat.le_of_ble_eq_true (by decide +kernel)) (fun j hj => ?_))
  rw [← ib_ch_eq]
  match j, hj with
  | 0, _ => exact ia_h1183_0
  | 1, _ => exact ia_h1183_1
  | 2, _ => exact ia_h1183_2
  | 3, _ => exact ia_h1183_3
  | 4, _ => exact ia_h1183_4
  | 5, _ => exact ia_h1183_5
  | 6, _ => exact ia_h1183_6
  | 7, _ => exact ia_h1183_7
  | 8, _ => exact ia_h1183_8
  | x + 9, h => exact absurd h (by omega)
-- FatVolumeModel.mend(II)Z(1, 5)
def ia_c1184 : List ia_M := [ia_m260, ia_m268, ia_m276, ia_m284, ia_m292, ia_m300, ia_m308, ia_m316, ia_m324, ia_m332, ia_m340, ia_m348, ia_m356, ia_m364, ia_m372, ia_m380, ia_m388, ia_m396, ia_m404, ia_m412, ia_m420, ia_m428, ia_m436, ia_m444, ia_m452, ia_m460, ia_m468, ia_m476, ia_m484, ia_m492, ia_m500, ia_m508, ia_m665, ia_m666, ia_m667, ia_m668, ia_m669, ia_m670, ia_m671, ia_m672, ia_m673, ia_m674, ia_m675, ia_m676, ia_m677, ia_m678, ia_m679, ia_m680, ia_m681, ia_m682, ia_m683, ia_m684, ia_m685, ia_m686, ia_m687, ia_m688, ia_m689, ia_m690, ia_m691, ia_m692, ia_m693, ia_m694, ia_m695, ia_m696, ia_m1051, ia_m536, ia_m1062, ia_m255, ia_m973]
theorem ia_h1184_0 : ib_ch ia_c1184 ia_m1184 ((ia_m1184.2.2.2.2.2.2.2.2.2.2.drop (8 * 0)).take 8) = true := by decide +kernel
theorem ia_h1184_1 : ib_ch ia_c1184 ia_m1184 ((ia_m1184.2.2.2.2.2.2.2.2.2.2.drop (8 * 1)).take 8) = true := by decide +kernel
theorem ia_h1184_2 : ib_ch ia_c1184 ia_m1184 ((ia_m1184.2.2.2.2.2.2.2.2.2.2.drop (8 * 2)).take 8) = true := by decide +kernel
theorem ia_h1184_3 : ib_ch ia_c1184 ia_m1184 ((ia_m1184.2.2.2.2.2.2.2.2.2.2.drop (8 * 3)).take 8) = true := by decide +kernel
theorem ia_h1184_4 : ib_ch ia_c1184 ia_m1184 ((ia_m1184.2.2.2.2.2.2.2.2.2.2.drop (8 * 4)).take 8) = true := by decide +kernel
theorem ia_h1184_5 : ib_ch ia_c1184 ia_m1184 ((ia_m1184.2.2.2.2.2.2.2.2.2.2.drop (8 * 5)).take 8) = true := by decide +kernel
theorem ia_h1184_6 : ib_ch ia_c1184 ia_m1184 ((ia_m1184.2.2.2.2.2.2.2.2.2.2.drop (8 * 6)).take 8) = true := by decide +kernel
theorem ia_h1184_7 : ib_ch ia_c1184 ia_m1184 ((ia_m1184.2.2.2.2.2.2.2.2.2.2.drop (8 * 7)).take 8) = true := by decide +kernel
theorem ia_h1184_8 : ib_ch ia_c1184 ia_m1184 ((ia_m1184.2.2.2.2.2.2.2.2.2.2.drop (8 * 8)).take 8) = true := by decide +kernel
theorem ia_h1184 : ia_Holds ia_m1184 := by
  refine ib_hold (cal := ia_c1184) (ic_c ia_h260 (ic_c ia_h268 (ic_c ia_h276 (ic_c ia_h284 (ic_c ia_h292 (ic_c ia_h300 (ic_c ia_h308 (ic_c ia_h316 (ic_c ia_h324 (ic_c ia_h332 (ic_c ia_h340 (ic_c ia_h348 (ic_c ia_h356 (ic_c ia_h364 (ic_c ia_h372 (ic_c ia_h380 (ic_c ia_h388 (ic_c ia_h396 (ic_c ia_h404 (ic_c ia_h412 (ic_c ia_h420 (ic_c ia_h428 (ic_c ia_h436 (ic_c ia_h444 (ic_c ia_h452 (ic_c ia_h460 (ic_c ia_h468 (ic_c ia_h476 (ic_c ia_h484 (ic_c ia_h492 (ic_c ia_h500 (ic_c ia_h508 (ic_c ia_h665 (ic_c ia_h666 (ic_c ia_h667 (ic_c ia_h668 (ic_c ia_h669 (ic_c ia_h670 (ic_c ia_h671 (ic_c ia_h672 (ic_c ia_h673 (ic_c ia_h674 (ic_c ia_h675 (ic_c ia_h676 (ic_c ia_h677 (ic_c ia_h678 (ic_c ia_h679 (ic_c ia_h680 (ic_c ia_h681 (ic_c ia_h682 (ic_c ia_h683 (ic_c ia_h684 (ic_c ia_h685 (ic_c ia_h686 (ic_c ia_h687 (ic_c ia_h688 (ic_c ia_h689 (ic_c ia_h690 (ic_c ia_h691 (ic_c ia_h692 (ic_c ia_h693 (ic_c ia_h694 (ic_c ia_h695 (ic_c ia_h696 (ic_c ia_h1051 (ic_c ia_h536 (ic_c ia_h1062 (ic_c ia_h255 (ic_c ia_h973 ic_n))))))))))))))))))))))))))))))))))))))))))))))))))))))))))))))))))))) (ic_inc (by decide +kernel)) (by decide +kernel) (by decide +kernel) (ic_ck (k := 8) 9 ia_m1184.2.2.2.2.2.2.2.2.2.2 (Nat.le_of_ble_eq_true (by decide +kernel)) (fun j hj => ?_))
  rw [← ib_ch_eq]
  match j, hj with
  | 0, _ => exact ia_h1184_0
  | 1, _ => exact ia_h1184_1
  | 2, _ => exact ia_h1184_2
  | 3, _ => exact ia_h1184_3
  | 4, _ => exact ia_h1184_4
  | 5, _ => exact ia_h1184_5
  | 6, _ => exact ia_h1184_6
  | 7, _ => exact ia_h1184_7
  | 8, _ => exact ia_h1184_8
  | x + 9, h => exact absurd h (by omega)
