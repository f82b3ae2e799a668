/-! the checks -/
-- FatVolumeModel.mend(II)Z(1, 6)
def ia_c1189 : List ia_M := [ia_m259, ia_m267, ia_m275, ia_m283, ia_m291, ia_m299, ia_m307, ia_m315, ia_m323, ia_m331, ia_m339, ia_m347, ia_m355, ia_m363, ia_m371, ia_m379, ia_m387, ia_m395, ia_m403, ia_m411, ia_m419, ia_m427, ia_m435, ia_m443, ia_m451, ia_m459, ia_m467, ia_m475, ia_m483, ia_m491, ia_m499, ia_m507, ia_m697, ia_m698, ia_m699, ia_m700, ia_m701, ia_m702, ia_m703, ia_m704, ia_m705, ia_m706, ia_m707, ia_m708, ia_m709, ia_m710, ia_m711, ia_m712, ia_m713, ia_m714, ia_m715, ia_m716, ia_m717, ia_m718, ia_m719, ia_m720, ia_m721, ia_m722, ia_m723, ia_m724, ia_m725, ia_m726, ia_m727, ia_m728, ia_m1052, ia_m536, ia_m1062, ia_m255, ia_m973]
theorem ia_h1189_0 : ib_ch ia_c1189 ia_m1189 ((ia_m1189.2.2.2.2.2.2.2.2.2.2.drop (8 * 0)).take 8) = true := by decide +kernel
theorem ia_h1189_1 : ib_ch ia_c1189 ia_m1189 ((ia_m1189.2.2.2.2.2.2.2.2.2.2.drop (8 * 1)).take 8) = true := by decide +kernel
theorem ia_h1189_2 : ib_ch ia_c1189 ia_m1189 ((ia_m1189.2.2.2.2.2.2.2.2.2.2.drop (8 * 2)).take 8) = true := by decide +kernel
theorem ia_h1189_3 : ib_ch ia_c1189 ia_m1189 ((ia_m1189.2.2.2.2.2.2.2.2.2.2.drop (8 * 3)).take 8) = true := by decide +kernel
theorem ia_h1189_4 : ib_ch ia_c1189 ia_m1189 ((ia_m1189.2.2.2.2.2.2.2.2.2.2.drop (8 * 4)).take 8) = true := by decide +kernel
theorem ia_h1189_5 : ib_ch ia_c1189 ia_m1189 ((ia_m1189.2.2.2.2.2.2.2.2.2.2.drop (8 * 5)).take 8) = true := by decide +kernel
theorem ia_h1189_6 : ib_ch ia_c1189 ia_m1189 ((ia_m1189.2.2.2.2.2.2.2.2.2.2.drop (8 * 6)).take 8) = true := by decide +kernel
theorem ia_h1189_7 : ib_ch ia_c1189 ia_m1189 ((ia_m1189.2.2.2.2.2.2.2.2.2.2.drop (8 * 7)).take 8) = true := by decide +kernel
theorem ia_h1189_8 : ib_ch ia_c1189 ia_m1189 ((ia_m1189.2.2.2.2.2.2.2.2.2.2.drop (8 * 8)).take 8) = true := by decide +kernel
theorem ia_h1189 : ia_Holds ia_m1189 := by
  refine ib_hold (cal := ia_c1189) (ic_c ia_h259 (ic_c ia_h267 (ic_c ia_h275 (ic_c ia_h283 (ic_c ia_h291 (ic_c ia_h299 (ic_c ia_h307 (ic_c ia_h315 (ic_c ia_h323 (ic_c ia_h331 (ic_c ia_h339 (ic_c ia_h347 (ic_c ia_h355 (ic_c ia_h363 (ic_c ia_h371 (ic_c ia_h379 (ic_c ia_h387 (ic_c ia_h395 (ic_c ia_h403 (ic_c ia_h411 (ic_c ia_h419 (ic_c ia_h427 (ic_c ia_h435 (ic_c ia_h443 (ic_c ia_h451 (ic_c ia_h459 (ic_c ia_h467 (ic_c ia_h475 (ic_c ia_h483 (ic_c ia_h491 (ic_c ia_h499 (ic_c ia_h507 (ic_c ia_h697 (ic_c ia_h698 (ic_c ia_h699 (ic_c ia_h700 (ic_c ia_h701 (ic_c ia_h702 (ic_c ia_h703 (ic_c ia_h704 (ic_c ia_h705 (ic_c ia_h706 (ic_c ia_h707 (ic_c ia_h708 (ic_c ia_h709 (ic_c ia_h710 (ic_c ia_h711 (ic_c ia_h712 (ic_c ia_h713 (ic_c ia_h714 (ic_c ia_h715 (ic_c ia_h716 (ic_c ia_h717 (ic_c ia_h718 (ic_c ia_h719 (ic_c ia_h720 (ic_c ia_h721 (ic_c ia_h722 (ic_c ia_h723 (ic_c ia_h724 (ic_c ia_h725 (ic_c ia_h726 (ic_c ia_h727 (ic_c ia_h728 (ic_c ia_h1052 (ic_c ia_h536 (ic_c ia_h1062 (ic_c ia_h255 (ic_c ia_h973 ic_n))))))))))))))))))))))))))))))))))))))))))))))))))))))))))))))))))))) (ic_inc (by decide +kernel)) (by decide +kernel) (by decide +kernel) (ic_ck (k := 8) 9 ia_m1189.2.2.2.2.2.2.2.2.2.2 (Nat.le_of_ble_eq_true (by decide +kernel)) (fun j hj => ?_))
  rw [← ib_ch_eq]
  match j, hj with
  | 0, _ => exact ia_h1189_0
  | 1, _ => exact ia_h1189_1
  | 2, _ => exact ia_h1189_2
  | 3, _ => exact ia_h1189_3
  | 4, _ => exact ia_h1189_4
  | 5, _ => exact ia_h1189_5
  | 6, _ => exact ia_h1189_6
  | 7, _ => exact ia_h1189_7
  | 8, _ => exact ia_h1189_8
  | x + 9, h => exact absurd h (by omega)
-- FatVolumeModel.mend(II)Z(0, 7)
def ia_c1190 : List ia_M := [ia_m258, ia_m266, ia_m274, ia_m282, ia_m290, ia_m298, ia_m306, ia_m314, ia_m322, ia_m330, ia_m338, ia_m346, ia_m354, ia_m362, ia_m370, ia_m378, ia_m386, ia_m394, ia_m402, ia_m410, ia_m418, ia_m426, ia_m434, ia_m442, ia_m450, ia_m458, ia_m466, ia_m474, ia_m482, ia_m490, ia_m498, ia_m506, ia_m729, ia_m730, ia_m731, ia_m732, ia_m733, ia_m734, ia_m735, ia_m736, ia_m737, ia_m738, ia_m739, ia_m740, ia_m741, ia_m742, ia_m743, ia_m744, ia_m745, ia_m746, ia_m747, ia_m748, ia_m749, ia_m750, ia_m751, ia_m752, ia_m753, ia_m754, ia_m755, ia_m756, ia_m757, ia_m758, ia_m759, ia_m760, ia_m1053, ia_m536, ia_m1062, ia_m255, ia_m973]
theorem ia_h1190_0 : ib_ch ia_c1190 ia_m1190 ((ia_m1190.2.2.2.2.2.2.2.2.2.2.drop (8 * 0)).take 8) = true := by decide +kernel
theorem ia_h1190_1 : ib_ch ia_c1190 ia_m1190 ((ia_m1190.2.2.2.2.2.2.2.2.2.2.drop (8 * 1)).take 8) = true := by decide +kernel
theorem ia_h1190_2 : ib_ch ia_c1190 ia_m1190 ((ia_m1190.2.2.2.2.2.2.2.2.2.2.drop (8 * 2)).take 8) = true := by decide +kernel
theorem ia_h1190_3 : ib_ch ia_c1190 ia_m1190 ((ia_m1190.2.2.2.2.2.2.2.2.2.2.drop (8 * 3)).take 8) = true := by decide +kernel
theorem ia_h1190_4 : ib_ch ia_c1190 ia_m1190 ((ia_m1190.2.2.2.2.2.2.2.2.2.2.drop (8 * 4)).take 8) = true := by decide +kernel
theorem ia_h1190_5 : ib_ch ia_c1190 ia_m1190 ((ia_m1190.2.2.2.2.2.2.2.2.2.2.drop (8 * 5)).take 8) = true := by decide +kernel
theorem ia_h1190_6 : ib_ch ia_c1190 ia_m1190 ((ia_m1190.2.2.2.2.2.2.2.2.2.2.drop (8 * 6)).take 8) = true := by decide +kernel
theorem ia_h1190_7 : ib_ch ia_c1190 ia_m1190 ((ia_m1190.2.2.2.2.2.2.2.2.2.2.drop (8 * 7)).take 8) = true := by decide +kernel
theorem ia_h1190_8 : ib_ch ia_c1190 ia_m1190 ((ia_m1190.2.2.2.2.2.2.2.2.2.2.drop (8 * 8)).take 8) = true := by decide +kernel
theorem ia_h1190 : ia_Holds ia_m1190 := by
  refine ib_hold (cal := ia_c1190) (ic_c ia_h258 (ic_c ia_h266 (ic_c ia_h274 (ic_c ia_h282 (ic_c ia_h290 (ic_c ia_h298 (ic_c ia_h306 (ic_c ia_h314 (ic_c ia_h322 (ic_c ia_h330 (ic_c ia_h338 (ic_c ia_h346 (ic_c ia_h354 (ic_c ia_h362 (ic_c ia_h370 (ic_c ia_h378 (ic_c ia_h386 (ic_c ia_h394 (ic_c ia_h402 (ic_c ia_h410 (ic_c ia_h418 (ic_c ia_h426 (ic_c ia_h434 (ic_c ia_h442 (ic_c ia_h450 (ic_c ia_h458 (ic_c ia_h466 (ic_c ia_h474 (ic_c ia_h482 (ic_c ia_h490 (ic_c ia_h498 (ic_c ia_h506 (ic_c ia_h729 (ic_c ia_h730 (ic_c ia_h731 (ic_c ia_h732 (ic_c ia_h733 (ic_c ia_h734 (ic_c ia_h735 (ic_c ia_h736 (ic_c ia_h737 (ic_c ia_h738 (ic_c ia_h739 (ic_c ia_h740 (ic_c ia_h741 (ic_c ia_h742 (ic_c ia_h743 (ic_c ia_h744 (ic_c ia_h745 (ic_c ia_h746 (ic_c ia_h747 (ic_c ia_h748 (ic_c ia_h749 (ic_c ia_h750 (ic_c ia_h751 (ic_c ia_h752 (ic_c ia_h753 (ic_c ia_h754 (ic_c ia_h755 (ic_c ia_h756 (ic_c ia_h757 (ic_c ia_h758 (ic_c ia_h759 (ic_c ia_h760 (ic_c ia_h1053 (ic_c ia_h536 (ic_c ia_h1062 (ic_c ia_h255 (ic_c ia_h973 ic_n))))))))))))))))))))))))))))))))))))))))))))))))))))))))))))))))))))) (ic_inc (by decide +kernel)) (by decide +kernel) (by decide +kernel) (ic_ck (k := 8) 9 ia_m1190.2.2.2.2.2.2.2.2.2.2 (Nat.le_of_ble_eq_true (by decide +kernel)) (fun j hj => ?_))
  rw [← ib_ch_eq]
  match j, hj with
  | 0, _ => exact ia_h1190_0
  | 1, _ => exact ia_h1190_1
  | 2, _ => exact ia_h1190_2
  | 3, _ => exact ia_h1190_3
  | 4, _ => exact ia_h1190_4
  | 5, _ => exact ia_h1190_5
  | 6, _ => exact ia_h1190_6
  | 7, _ => exact ia_h1190_7
  | 8, _ => exact ia_h1190_8
  | x + 9, h => exact absurd h (by omega)
-- FatVolumeModel.mend(II)Z(4, 4)
theorem ia_h1191 : ia_Holds ia_m1191 := ib_hold1 (cal := [ia_m1050, ia_m536, ia_m1062, ia_m255]) (ic_c ia_h1050 (ic_c ia_h536 (ic_c ia_h1062 (ic_c ia_h255 ic_n)))) (ic_inc (by decide +kernel)) (by decide +kernel)
-- FatVolumeModel.mend(II)Z(3, 5)
def ia_c1192 : List ia_M := [ia_m260, ia_m268, ia_m276, ia_m284, ia_m292, ia_m300, ia_m308, ia_m316, ia_m324, ia_m332, ia_m340, ia_m348, ia_m356, ia_m364, ia_m372, ia_m380, ia_m388, ia_m396, ia_m404, ia_m412, ia_m420, ia_m428, ia_m436, ia_m444, ia_m452, ia_m460, ia_m468, ia_m476, ia_m484, ia_m492, ia_m500, ia_m508, ia_m665, ia_m666, ia_m667, ia_m668, ia_m669, ia_m670, ia_m671, ia_m672, ia_m673, ia_m674, ia_m675, ia_m676, ia_m677, ia_m678, ia_m679, ia_m680, ia_m681, ia_m682, ia_m683, ia_m684, ia_m685, ia_m686, ia_m687, ia_m688, ia_m689, ia_m690, ia_m691, ia_m692, ia_m693, ia_m694, ia_m695, ia_m696, ia_m1051, ia_m536, ia_m1062, ia_m255, ia_m973]
theorem ia_h1192_0 : ib_ch ia_c1192 ia_m1192 ((ia_m1192.2.2.2.2.2.2.2.2.2.2.drop (8 * 0)).take 8) = true := by decide +kernel
theorem ia_h1192_1 : ib_ch ia_c1192 ia_m1192 ((ia_m1192.2.2.2.2.2.2.2.2.2.2.drop (8 * 1)).take 8) = true := by decide +kernel
theorem ia_h1192_2 : ib_ch ia_c1192 ia_m1192 ((ia_m1192.2.2.2.2.2.2.2.2.2.2.drop (8 * 2)).take 8) = true := by decide +kernel
theorem ia_h1192_3 : ib_ch ia_c1192 ia_m1192 ((ia_m1192.2.2.2.2.2.2.2.2.2.2.drop (8 * 3)).take 8) = true := by decide +kernel
theorem ia_h1192_4 : ib_ch ia_c1192 ia_m1192 ((ia_m1192.2.2.2.2.2.2.2.2.2.2.drop (8 * 4)).take 8) = true := by decide +kernel
theorem ia_h1192_5 : ib_ch ia_c1192 ia_m1192 ((ia_m1192.2.2.2.2.2.2.2.2.2.2.drop (8 * 5)).take 8) = true := by decide +kernel
theorem ia_h1192_6 : ib_ch ia_c1192 ia_m1192 ((ia_m1192.2.2.2.2.2.2.2.2.2.2.drop (8 * 6)).take 8) = true := by decide +kernel
theorem ia_h1192_7 : ib_ch ia_c1192 ia_m1192 ((ia_m1192.2.2.2.2.2.2.2.2.2.2.drop (8 * 7)).take 8) = true := by decide +kernel
theorem ia_h1192_8 : ib_ch ia_c1192 ia_m1192 ((ia_m1192.2.2.2.2.2.2.2.2.2.2.drop (8 * 8)).take 8) = true := by decide +kernel
theorem ia_h1192 : ia_Holds ia_m1192 := by
  refine ib_hold (cal := ia_c1192) (ic_c ia_h260 (ic_c ia_h268 (ic_c ia_h276 (ic_c ia_h284 (ic_c ia_h292 (ic_c ia_h300 (ic_c ia_h308 (ic_c ia_h316 (ic_c ia_h324 (ic_c ia_h332 (ic_c ia_h340 (ic_c ia_h348 (ic_c ia_h356 (ic_c ia_h364 (ic_c ia_h372 (ic_c ia_h380 (ic_c ia_h388 (ic_c ia_h396 (ic_c ia_h404 (ic_c ia_h412 (ic_c ia_h420 (ic_c ia_h428 (ic_c ia_h436 (ic_c ia_h444 (ic_c ia_h452 (ic_c ia_h460 (ic_c ia_h468 (ic_c ia_h476 (ic_c ia_h484 (ic_c ia_h492 (ic_c ia_h500 (ic_c ia_h508 (ic_c ia_h665 (ic_c ia_h666 (ic_c ia_h667 (ic_c ia_h668 (ic_c ia_h669 (ic_c ia_h670 (ic_c ia_h671 (ic_c ia_h672 (ic_c ia_h673 (ic_c ia_h674 (ic_c ia_h675 (ic_c ia_h676 (ic_c ia_h677 (ic_c ia_h678 (ic_c ia_h679 (ic_c ia_h680 (ic_c ia_h681 (ic_c ia_h682 (ic_c ia_h683 (ic_c ia_h684 (ic_c ia_h685 (ic_c ia_h686 (ic_c ia_h687 (ic_c ia_h688 (ic_c ia_h689 (ic_c ia_h690 (ic_c ia_h691 (ic_c ia_h692 (ic_c ia_h693 (ic_c ia_h694 (ic_c ia_h695 (ic_c ia_h696 (ic_c ia_h1051 (ic_c ia_h536 (ic_c ia_h1062 (ic_c ia_h255 (ic_c ia_h973 ic_n))))))))))))))))))))))))))))))))))))))))))))))))))))))))))))))))))))) (ic_inc (by decide +kernel)) (by decide +kernel) (by decide +kernel) (ic_ck (k := 8) 9 ia_m1192.2.2.2.2.2.2.2.2.2.2 (Nat.le_of_ble_eq_true (by decide +kernel)) (fun j hj => ?_))
  rw [← ib_ch_eq]
  match j, hj with
  | 0, _ => exact ia_h1192_0
  | 1, _ => exact ia_h1192_1
  | 2, _ => exact ia_h1192_2
  | 3, _ => exact ia_h1192_3
  | 4, _ => exact ia_h1192_4
  | 5, _ => exact ia_h1192_5
  | 6, _ => exact ia_h1192_6
  | 7, _ => exact ia_h1192_7
  | 8, _ => exact ia_h1192_8
  | x + 9, h => exact absurd h (by omega)
