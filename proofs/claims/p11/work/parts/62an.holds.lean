/-! the checks -/
-- FatVolumeModel.mend(II)Z(0, 6)
def ia_c1185 : List ia_M := [ia_m259, ia_m267, ia_m275, ia_m283, ia_m291, ia_m299, ia_m307, ia_m315, ia_m323, ia_m331, ia_m339, ia_m347, ia_m355, ia_m363, ia_m371, ia_m379, ia_m387, ia_m395, ia_m403, ia_m411, ia_m419, ia_m427, ia_m435, ia_m443, ia_m451, ia_m459, ia_m467, ia_m475, ia_m483, ia_m491, ia_m499, ia_m507, ia_m697, ia_m698, ia_m699, ia_m700, ia_m701, ia_m702, ia_m703, ia_m704, ia_m705, ia_m706, ia_m707, ia_m708, ia_m709, ia_m710, ia_m711, ia_m712, ia_m713, ia_m714, ia_m715, ia_m716, ia_m717, ia_m718, ia_m719, ia_m720, ia_m721, ia_m722, ia_m723, ia_m724, ia_m725, ia_m726, ia_m727, ia_m728, ia_m1052, ia_m536, ia_m1062, ia_m255, ia_m973]
theorem ia_h1185_0 : ib_ch ia_c1185 ia_m1185 ((ia_m1185.2.2.2.2.2.2.2.2.2.2.drop (8 * 0)).take 8) = true := by decide +kernel
theorem ia_h1185_1 : ib_ch ia_c1185 ia_m1185 ((ia_m1185.2.2.2.2.2.2.2.2.2.2.drop (8 * 1)).take 8) = true := by decide +kernel
theorem ia_h1185_2 : ib_ch ia_c1185 ia_m1185 ((ia_m1185.2.2.2.2.2.2.2.2.2.2.drop (8 * 2)).take 8) = true := by decide +kernel
theorem ia_h1185_3 : ib_ch ia_c1185 ia_m1185 ((ia_m1185.2.2.2.2.2.2.2.2.2.2.drop (8 * 3)).take 8) = true := by decide +kernel
theorem ia_h1185_4 : ib_ch ia_c1185 ia_m1185 ((ia_m1185.2.2.2.2.2.2.2.2.2.2.drop (8 * 4)).take 8) = true := by decide +kernel
theorem ia_h1185_5 : ib_ch ia_c1185 ia_m1185 ((ia_m1185.2.2.2.2.2.2.2.2.2.2.drop (8 * 5)).take 8) = true := by decide +kernel
theorem ia_h1185_6 : ib_ch ia_c1185 ia_m1185 ((ia_m1185.2.2.2.2.2.2.2.2.2.2.drop (8 * 6)).take 8) = true := by decide +kernel
theorem ia_h1185_7 : ib_ch ia_c1185 ia_m1185 ((ia_m1185.2.2.2.2.2.2.2.2.2.2.drop (8 * 7)).take 8) = true := by decide +kernel
theorem ia_h1185_8 : ib_ch ia_c1185 ia_m1185 ((ia_m1185.2.2.2.2.2.2.2.2.2.2.drop (8 * 8)).take 8) = true := by decide +kernel
theorem ia_h1185 : ia_Holds ia_m1185 := by
  refine ib_hold (cal := ia_c1185) (ic_c ia_h259 (ic_c ia_h267 (ic_c ia_h275 (ic_c ia_h283 (ic_c ia_h291 (ic_c ia_h299 (ic_c ia_h307 (ic_c ia_h315 (ic_c ia_h323 (ic_c ia_h331 (ic_c ia_h339 (ic_c ia_h347 (ic_c ia_h355 (ic_c ia_h363 (ic_c ia_h371 (ic_c ia_h379 (ic_c ia_h387 (ic_c ia_h395 (ic_c ia_h403 (ic_c ia_h411 (ic_c ia_h419 (ic_c ia_h427 (ic_c ia_h435 (ic_c ia_h443 (ic_c ia_h451 (ic_c ia_h459 (ic_c ia_h467 (ic_c ia_h475 (ic_c ia_h483 (ic_c ia_h491 (ic_c ia_h499 (ic_c ia_h507 (ic_c ia_h697 (ic_c ia_h698 (ic_c ia_h699 (ic_c ia_h700 (ic_c ia_h701 (ic_c ia_h702 (ic_c ia_h703 (ic_c ia_h704 (ic_c ia_h705 (ic_c ia_h706 (ic_c ia_h707 (ic_c ia_h708 (ic_c ia_h709 (ic_c ia_h710 (ic_c ia_h711 (ic_c ia_h712 (ic_c ia_h713 (ic_c ia_h714 (ic_c ia_h715 (ic_c ia_h716 (ic_c ia_h717 (ic_c ia_h718 (ic_c ia_h719 (ic_c ia_h720 (ic_c ia_h721 (ic_c ia_h722 (ic_c ia_h723 (ic_c ia_h724 (ic_c ia_h725 (ic_c ia_h726 (ic_c ia_h727 (ic_c ia_h728 (ic_c ia_h1052 (ic_c ia_h536 (ic_c ia_h1062 (ic_c ia_h255 (ic_c ia_h973 ic_n))))))))))))))))))))))))))))))))))))))))))))))))))))))))))))))))))))) (ic_inc (by decide +kernel)) (by decide +kernel) (by decide +kernel) (ic_ck (k := 8) 9 ia_m1185.2.2.2.2.2.2.2.2.2.2 (Nat.le_of_ble_eq_true (by decide +kernel)) (fun j hj => ?_))
  rw [← ib_ch_eq]
  match j, hj with
  | 0, _ => exact ia_h1185_0
  | 1, _ => exact ia_h1185_1
  | 2, _ => exact ia_h1185_2
  | 3, _ => exact ia_h1185_3
  | 4, _ => exact ia_h1185_4
  | 5, _ => exact ia_h1185_5
  | 6, _ => exact ia_h1185_6
  | 7, _ => exact ia_h1185_7
  | 8, _ => exact ia_h1185_8
  | x + 9, h => exact absurd h (by omega)
-- FatVolumeModel.mend(II)Z(4, 3)
theorem ia_h1186 : ia_Holds ia_m1186 := ib_hold1 (cal := [ia_m1049, ia_m536, ia_m1062, ia_m255]) (ic_c ia_h1049 (ic_c ia_h536 (ic_c ia_h1062 (ic_c ia_h255 ic_n)))) (ic_inc (by decide +kernel)) (by decide +kernel)
-- FatVolumeModel.mend(II)Z(3, 4)
def ia_c1187 : List ia_M := [ia_m261, ia_m269, ia_m277, ia_m285, ia_m293, ia_m301, ia_m309, ia_m317, ia_m325, ia_m333, ia_m341, ia_m349, ia_m357, ia_m365, ia_m373, ia_m381, ia_m389, ia_m397, ia_m405, ia_m413, ia_m421, ia_m429, ia_m437, ia_m445, ia_m453, ia_m461, ia_m469, ia_m477, ia_m485, ia_m493, ia_m501, ia_m509, ia_m633, ia_m634, ia_m635, ia_m636, ia_m637, ia_m638, ia_m639, ia_m640, ia_m641, ia_m642, ia_m643, ia_m644, ia_m645, ia_m646, ia_m647, ia_m648, ia_m649, ia_m650, ia_m651, ia_m652, ia_m653, ia_m654, ia_m655, ia_m656, ia_m657, ia_m658, ia_m659, ia_m660, ia_m661, ia_m662, ia_m663, ia_m664, ia_m1050, ia_m536, ia_m1062, ia_m255, ia_m973]
theorem ia_h1187_0 : ib_ch ia_c1187 ia_m1187 ((ia_m1187.2.2.2.2.2.2.2.2.2.2.drop (8 * 0)).take 8) = true := by decide +kernel
theorem ia_h1187_1 : ib_ch ia_c1187 ia_m1187 ((ia_m1187.2.2.2.2.2.2.2.2.2.2.drop (8 * 1)).take 8) = true := by decide +kernel
theorem ia_h1187_2 : ib_ch ia_c1187 ia_m1187 ((ia_m1187.2.2.2.2.2.2.2.2.2.2.drop (8 * 2)).take 8) = true := by decide +kernel
theorem ia_h1187_3 : ib_ch ia_c1187 ia_m1187 ((ia_m1187.2.2.2.2.2.2.2.2.2.2.drop (8 * 3)).take 8) = true := by decide +kernel
theorem ia_h1187_4 : ib_ch ia_c1187 ia_m1187 ((ia_m1187.2.2.2.2.2.2.2.2.2.2.drop (8 * 4)).take 8) = true := by decide +kernel
theorem ia_h1187_5 : ib_ch ia_c1187 ia_m1187 ((ia_m1187.2.2.2.2.2.2.2.2.2.2.drop (8 * 5)).take 8) = true := by decide +kernel
theorem ia_h1187_6 : ib_ch ia_c1187 ia_m1187 ((ia_m1187.2.2.2.2.2.2.2.2.2.2.drop (8 * 6)).take 8) = true := by decide +kernel
theorem ia_h1187_7 : ib_ch ia_c1187 ia_m1187 ((ia_m1187.2.2.2.2.2.2.2.2.2.2.drop (8 * 7)).take 8) = true := by decide +kernel
theorem ia_h1187_8 : ib_ch ia_c1187 ia_m1187 ((ia_m1187.2.2.2.2.2.2.2.2.2.2.drop (8 * 8)).take 8) = true := by decide +kernel
theorem ia_h1187 : ia_Holds ia_m1187 := by
  refine ib_hold (cal := ia_c1187) (ic_c ia_h261 (ic_c ia_h269 (ic_c ia_h277 (ic_c ia_h285 (ic_c ia_h293 (ic_c ia_h301 (ic_c ia_h309 (ic_c ia_h317 (ic_c ia_h325 (ic_c ia_h333 (ic_c ia_h341 (ic_c ia_h349 (ic_c ia_h357 (ic_c ia_h365 (ic_c ia_h373 (ic_c ia_h381 (ic_c ia_h389 (ic_c ia_h397 (ic_c ia_h405 (ic_c ia_h413 (ic_c ia_h421 (ic_c ia_h429 (ic_c ia_h437 (ic_c ia_h445 (ic_c ia_h453 (ic_c ia_h461 (ic_c ia_h469 (ic_c ia_h477 (ic_c ia_h485 (ic_c ia_h493 (ic_c ia_h501 (ic_c ia_h509 (ic_c ia_h633 (ic_c ia_h634 (ic_c ia_h635 (ic_c ia_h636 (ic_c ia_h637 (ic_c ia_h638 (ic_c ia_h639 (ic_c ia_h640 (ic_c ia_h641 (ic_c ia_h642 (ic_c ia_h643 (ic_c ia_h644 (ic_c ia_h645 (ic_c ia_h646 (ic_c ia_h647 (ic_c ia_h648 (ic_c ia_h649 (ic_c ia_h650 (ic_c ia_h651 (ic_c ia_h652 (ic_c ia_h653 (ic_c ia_h654 (ic_c ia_h655 (ic_c ia_h656 (ic_c ia_h657 (ic_c ia_h658 (ic_c ia_h659 (ic_c ia_h660 (ic_c ia_h661 (ic_c ia_h662 (ic_c ia_h663 (ic_c ia_h664 (ic_c ia_h1050 (ic_c ia_h536 (ic_c ia_h1062 (ic_c ia_h255 (ic_c ia_h973 ic_n))))))))))))))))))))))))))))))))))))))))))))))))))))))))))))))))))))) (ic_inc (by decide +kernel)) (by decide +kernel) (by decide +kernel) (ic_ck (k := 8) 9 ia_m1187.2.2.2.2.2.2.2.2.2.2 (Nat.le_of_ble_eq_true (by decide +kernel)) (fun j hj => ?_))
  rw [← ib_ch_eq]
  match j, hj with
  | 0, _ => exact ia_h1187_0
  | 1, _ => exact ia_h1187_1
  | 2, _ => exact ia_h1187_2
  | 3, _ => exact ia_h1187_3
  | 4, _ => exact ia_h1187_4
  | 5, _ => exact ia_h1187_5
  | 6, _ => exact ia_h1187_6
  | 7, _ => exact ia_h1187_7
  | 8, _ => exact ia_h1187_8
  | x + 9, h => exact absurd h (by omega)
-- FatVolumeModel.mend(II)Z(2, 5)
def ia_c1188 : List ia_M := [ia_m260, ia_m268, ia_m276, ia_m284, ia_m292, ia_m300, ia_m308, ia_m316, ia_m324, ia_m332, ia_m340, ia_m348, ia_m356, ia_m364, ia_m372, ia_m380, ia_m388, ia_m396, ia_m404, ia_m412, ia_m420, ia_m428, ia_m436, ia_m444, ia_m452, ia_m460, ia_m468, ia_m476, ia_m484, ia_m492, ia_m500, ia_m508, ia_m665, ia_m666, ia_m667, ia_m668, ia_m669, ia_m670, ia_m671, ia_m672, ia_m673, ia_m674, ia_m675, ia_m676, ia_m677, ia_m678, ia_m679, ia_m680, ia_m681, ia_m682, ia_m683, ia_m684, ia_m685, ia_m686, ia_m687, ia_m688, ia_m689, ia_m690, ia_m691, ia_m692, ia_m693, ia_m694, ia_m695, ia_m696, ia_m1051, ia_m536, ia_m1062, ia_m255, ia_m973]
theorem ia_h1188_0 : ib_ch ia_c1188 ia_m1188 ((ia_m1188.2.2.2.2.2.2.2.2.2.2.drop (8 * 0)).take 8) = true := by decide +kernel
theorem ia_h1188_1 : ib_ch ia_c1188 ia_m1188 ((ia_m1188.2.2.2.2.2.2.2.2.2.2.drop (8 * 1)).take 8) = true := by decide +kernel
theorem ia_h1188_2 : ib_ch ia_c1188 ia_m1188 ((ia_m1188.2.2.2.2.2.2.2.2.2.2.drop (8 * 2)).take 8) = true := by decide +kernel
theorem ia_h1188_3 : ib_ch ia_c1188 ia_m1188 ((ia_m1188.2.2.2.2.2.2.2.2.2.2.drop (8 * 3)).take 8) = true := by decide +kernel
theorem ia_h1188_4 : ib_ch ia_c1188 ia_m1188 ((ia_m1188.2.2.2.2.2.2.2.2.2.2.drop (8 * 4)).take 8) = true := by decide +kernel
theorem ia_h1188_5 : ib_ch ia_c1188 ia_m1188 ((ia_m1188.2.2.2.2.2.2.2.2.2.2.drop (8 * 5)).take 8) = true := by decide +kernel
theorem ia_h1188_6 : ib_ch ia_c1188 ia_m1188 ((ia_m1188.2.2.2.2.2.2.2.2.2.2.drop (8 * 6)).take 8) = true := by decide +kernel
theorem ia_h1188_7 : ib_ch ia_c1188 ia_m1188 ((ia_m1188.2.2.2.2.2.2.2.2.2.2.drop (8 * 7)).take 8) = true := by decide +kernel
theorem ia_h1188_8 : ib_ch ia_c1188 ia_m1188 ((ia_m1188.2.2.2.2.2.2.2.2.2.2.drop (8 * 8)).take 8) = true := by decide +kernel
theorem ia_h1188 : ia_Holds ia_m1188 := by
  refine ib_hold (cal := ia_c1188) (ic_c ia_h260 (ic_c ia_h268 (ic_c ia_h276 (ic_c ia_h284 (ic_c ia_h292 (ic_c ia_h300 (ic_c ia_h308 (ic_c ia_h316 (ic_c ia_h324 (ic_c ia_h332 (ic_c ia_h340 (ic_c ia_h348 (ic_c ia_h356 (ic_c ia_h364 (ic_c ia_h372 (ic_c ia_h380 (ic_c ia_h388 (ic_c ia_h396 (ic_c ia_h404 (ic_c ia_h412 (ic_c ia_h420 (ic_c ia_h428 (ic_c ia_h436 (ic_c ia_h444 (ic_c ia_h452 (ic_c ia_h460 (ic_c ia_h468 (ic_c ia_h476 (ic_c ia_h484 (ic_c ia_h492 (ic_c ia_h500 (ic_c ia_h508 (ic_c ia_h665 (ic_c ia_h666 (ic_c ia_h667 (ic_c ia_h668 (ic_c ia_h669 (ic_c ia_h670 (ic_c ia_h671 (ic_c ia_h672 (ic_c ia_h673 (ic_c ia_h674 (ic_c ia_h675 (ic_c ia_h676 (ic_c ia_h677 (ic_c ia_h678 (ic_c ia_h679 (ic_c ia_h680 (ic_c ia_h681 (ic_c ia_h682 (ic_c ia_h683 (ic_c ia_h684 (ic_c ia_h685 (ic_c ia_h686 (ic_c ia_h687 (ic_c ia_h688 (ic_c ia_h689 (ic_c ia_h690 (ic_c ia_h691 (ic_c ia_h692 (ic_c ia_h693 (ic_c ia_h694 (ic_c ia_h695 (ic_c ia_h696 (ic_c ia_h1051 (ic_c ia_h536 (ic_c ia_h1062 (ic_c ia_h255 (ic_c ia_h973 ic_n))))))))))))))))))))))))))))))))))))))))))))))))))))))))))))))))))))) (ic_inc (by decide +kernel)) (by decide +kernel) (by decide +kernel) (ic_ck (k := 8) 9 ia_m1188.2.2.2.2.2.2.2.2.2.2 (Nat.le_of_ble_eq_true (by decide +kernel)) (fun j hj => ?_))
  rw [← ib_ch_eq]
  match j, hj with
  | 0, _ => exact ia_h1188_0
  | 1, _ => exact ia_h1188_1
  | 2, _ => exact ia_h1188_2
  | 3, _ => exact ia_h1188_3
  | 4, _ => exact ia_h1188_4
  | 5, _ => exact ia_h1188_5
  | 6, _ => exact ia_h1188_6
  | 7, _ => exact ia_h1188_7
  | 8, _ => exact ia_h1188_8
  | x + 9, h => exact absurd h (by omega)
