/-! the checks -/
-- FatVolumeModel.find(II)I(2,)
set_option maxRecDepth 100000 in
theorem ia_h1247 : ia_Holds ia_m1247 := ib_hold1 (cal := [ia_m1055, ia_m1139, ia_m1140, ia_m1141, ia_m1142, ia_m1143, ia_m1144, ia_m1145, ia_m923]) (ic_c ia_h1055 (ic_c ia_h1139 (ic_c ia_h1140 (ic_c ia_h1141 (ic_c ia_h1142 (ic_c ia_h1143 (ic_c ia_h1144 (ic_c ia_h1145 (ic_c ia_h923 ic_n))))))))) (ic_inc (by decide +kernel)) (by decide +kernel)
-- FatVolumeModel.find(II)I(3,)
set_option maxRecDepth 100000 in
theorem ia_h1248 : ia_Holds ia_m1248 := ib_hold1 (cal := [ia_m1056, ia_m1146, ia_m1147, ia_m1148, ia_m1149, ia_m1150, ia_m1151, ia_m1152, ia_m923]) (ic_c ia_h1056 (ic_c ia_h1146 (ic_c ia_h1147 (ic_c ia_h1148 (ic_c ia_h1149 (ic_c ia_h1150 (ic_c ia_h1151 (ic_c ia_h1152 (ic_c ia_h923 ic_n))))))))) (ic_inc (by decide +kernel)) (by decide +kernel)
-- FatVolumeModel.repair()I()
def ia_c1249 : List ia_M := [ia_m1171, ia_m1176, ia_m1181, ia_m1186, ia_m1191, ia_m1195, ia_m1198, ia_m1200, ia_m1167, ia_m1172, ia_m1177, ia_m1182, ia_m1187, ia_m1192, ia_m1196, ia_m1199, ia_m1164, ia_m1168, ia_m1173, ia_m1178, ia_m1183, ia_m1188, ia_m1193, ia_m1197, ia_m1162, ia_m1165, ia_m1169, ia_m1174, ia_m1179, ia_m1184, ia_m1189, ia_m1194, ia_m1161, ia_m1163, ia_m1166, ia_m1170, ia_m1175, ia_m1180, ia_m1185, ia_m1190, ia_m254, ia_m536, ia_m255]
theorem ia_h1249_0 : ib_ch ia_c1249 ia_m1249 ((ia_m1249.2.2.2.2.2.2.2.2.2.2.drop (8 * 0)).take 8) = true := by decide +kernel
theorem ia_h1249_1 : ib_ch ia_c1249 ia_m1249 ((ia_m1249.2.2.2.2.2.2.2.2.2.2.drop (8 * 1)).take 8) = true := by decide +kernel
theorem ia_h1249_2 : ib_ch ia_c1249 ia_m1249 ((ia_m1249.2.2.2.2.2.2.2.2.2.2.drop (8 * 2)).take 8) = true := by decide +kernel
theorem ia_h1249_3 : ib_ch ia_c1249 ia_m1249 ((ia_m1249.2.2.2.2.2.2.2.2.2.2.drop (8 * 3)).take 8) = true := by decide +kernel
theorem ia_h1249_4 : ib_ch ia_c1249 ia_m1249 ((ia_m1249.2.2.2.2.2.2.2.2.2.2.drop (8 * 4)).take 8) = true := by decide +kernel
theorem ia_h1249_5 : ib_ch ia_c1249 ia_m1249 ((ia_m1249.2.2.2.2.2.2.2.2.2.2.drop (8 * 5)).take 8) = true := by decide +kernel
theorem ia_h1249_6 : ib_ch ia_c1249 ia_m1249 ((ia_m1249.2.2.2.2.2.2.2.2.2.2.drop (8 * 6)).take 8) = true := by decide +kernel
theorem ia_h1249_7 : ib_ch ia_c1249 ia_m1249 ((ia_m1249.2.2.2.2.2.2.2.2.2.2.drop (8 * 7)).take 8) = true := by decide +kernel
set_option maxRecDepth 100000 in
theorem ia_h1249 : ia_Holds ia_m1249 := by
  refine ib_hold (cal := ia_c1249) (ic_c ia_h1171 (ic_c ia_h1176 (ic_c ia_h1181 (ic_c ia_h1186 (ic_c ia_h1191 (ic_c ia_h1195 (ic_c ia_h1198 (ic_c ia_h1200 (ic_c ia_h1167 (ic_c ia_h1172 (ic_c ia_h1177 (ic_c ia_h1182 (ic_c ia_h1187 (ic_c ia_h1192 (ic_c ia_h1196 (ic_c ia_h1199 (ic_c ia_h1164 (ic_c ia_h1168 (ic_c ia_h1173 (ic_c ia_h1178 (ic_c ia_h1183 (ic_c ia_h1188 (ic_c ia_h1193 (ic_c ia_h1197 (ic_c ia_h1162 (ic_c ia_h1165 (ic_c ia_h1169 (ic_c ia_h1174 (ic_c ia_h1179 (ic_c ia_h1184 (ic_c ia_h1189 (ic_c ia_h1194 (ic_c ia_h1161 (ic_c ia_h1163 (ic_c ia_h1166 (ic_c ia_h1170 (ic_c ia_h1175 (ic_c ia_h1180 (ic_c ia_h1185 (ic_c ia_h1190 (ic_c ia_h254 (ic_c ia_h536 (ic_c ia_h255 ic_n))))))))))))))))))))))))))))))))))))))))))) (ic_inc (by decide +kernel)) (by decide +kernel) (by decide +kernel) (ic_ck (k := 8) 8 ia_m1249.2.2.2.2.2.2.2.2.2.2 (Nat.le_of_ble_eq_true (by decide +kernel)) (fun j hj => ?_))
  rw [← ib_ch_eq]
  match j, hj with
  | 0, _ => exact ia_h1249_0
  | 1, _ => exact ia_h1249_1
  | 2, _ => exact ia_h1249_2
  | 3, _ => exact ia_h1249_3
  | 4, _ => exact ia_h1249_4
  | 5, _ => exact ia_h1249_5
  | 6, _ => exact ia_h1249_6
  | 7, _ => exact ia_h1249_7
  | x + 8, h => exact absurd h (by omega)
-- FatVolume$Repairer.goThrough(II)V(5,)
def ia_c1250 : List ia_M := [ia_m44, ia_m48, ia_m50, ia_m52, ia_m54, ia_m56, ia_m58, ia_m60, ia_m62, ia_m777, ia_m781, ia_m785, ia_m789, ia_m793, ia_m797, ia_m801, ia_m805, ia_m1201, ia_m1202, ia_m1203, ia_m1204, ia_m1205, ia_m1206, ia_m1207, ia_m1208, ia_m775, ia_m776, ia_m778, ia_m780, ia_m782, ia_m784, ia_m786, ia_m788, ia_m790, ia_m792, ia_m794, ia_m796, ia_m798, ia_m800, ia_m802, ia_m804, ia_m45, ia_m47, ia_m49, ia_m51, ia_m53, ia_m55, ia_m57, ia_m59, ia_m61, ia_m977, ia_m982, ia_m983, ia_m984, ia_m985, ia_m986, ia_m987, ia_m988, ia_m63, ia_m772]
theorem ia_h1250_0 : ib_ch ia_c1250 ia_m1250 ((ia_m1250.2.2.2.2.2.2.2.2.2.2.drop (8 * 0)).take 8) = true := by decide +kernel
theorem ia_h1250_1 : ib_ch ia_c1250 ia_m1250 ((ia_m1250.2.2.2.2.2.2.2.2.2.2.drop (8 * 1)).take 8) = true := by decide +kernel
set_option maxRecDepth 100000 in
theorem ia_h1250 : ia_Holds ia_m1250 := by
  refine ib_hold (cal := ia_c1250) (ic_c ia_h44 (ic_c ia_h48 (ic_c ia_h50 (ic_c ia_h52 (ic_c ia_h54 (ic_c ia_h56 (ic_c ia_h58 (ic_c ia_h60 (ic_c ia_h62 (ic_c ia_h777 (ic_c ia_h781 (ic_c ia_h785 (ic_c ia_h789 (ic_c ia_h793 (ic_c ia_h797 (ic_c ia_h801 (ic_c ia_h805 (ic_c ia_h1201 (ic_c ia_h1202 (ic_c ia_h1203 (ic_c ia_h1204 (ic_c ia_h1205 (ic_c ia_h1206 (ic_c ia_h1207 (ic_c ia_h1208 (ic_c ia_h775 (ic_c ia_h776 (ic_c ia_h778 (ic_c ia_h780 (ic_c ia_h782 (ic_c ia_h784 (ic_c ia_h786 (ic_c ia_h788 (ic_c ia_h790 (ic_c ia_h792 (ic_c ia_h794 (ic_c ia_h796 (ic_c ia_h798 (ic_c ia_h800 (ic_c ia_h802 (ic_c ia_h804 (ic_c ia_h45 (ic_c ia_h47 (ic_c ia_h49 (ic_c ia_h51 (ic_c ia_h53 (ic_c ia_h55 (ic_c ia_h57 (ic_c ia_h59 (ic_c ia_h61 (ic_c ia_h977 (ic_c ia_h982 (ic_c ia_h983 (ic_c ia_h984 (ic_c ia_h985 (ic_c ia_h986 (ic_c ia_h987 (ic_c ia_h988 (ic_c ia_h63 (ic_c ia_h772 ic_n)))))))))))))))))))))))))))))))))))))))))))))))))))))))))))) (ic_inc (by decide +kernel)) (by decide +kernel) (by decide +kernel) (ic_ck (k := 8) 2 ia_m1250.2.2.2.2.2.2.2.2.2.2 (Nat.le_of_ble_eq_true (by decide +kernel)) (fun j hj => ?_))
  rw [← ib_ch_eq]
  match j, hj with
  | 0, _ => exact ia_h1250_0
  | 1, _ => exact ia_h1250_1
  | x + 2, h => exact absurd h (by omega)
-- FatVolume$Route.reach()Z((1604, 4),)
set_option maxRecDepth 100000 in
theorem ia_h1251 : ia_Holds ia_m1251 := ib_hold1 (cal := [ia_m878, ia_m190, ia_m876, ia_m14, ia_m874, ia_m194, ia_m198, ia_m202, ia_m206, ia_m1244, ia_m1243, ia_m1242, ia_m1241, ia_m772, ia_m2]) (ic_c ia_h878 (ic_c ia_h190 (ic_c ia_h876 (ic_c ia_h14 (ic_c ia_h874 (ic_c ia_h194 (ic_c ia_h198 (ic_c ia_h202 (ic_c ia_h206 (ic_c ia_h1244 (ic_c ia_h1243 (ic_c ia_h1242 (ic_c ia_h1241 (ic_c ia_h772 (ic_c ia_h2 ic_n))))))))))))))) (ic_inc (by decide +kernel)) (by decide +kernel)
-- FatVolume$Route.reach()Z((1604, 3),)
set_option maxRecDepth 100000 in
theorem ia_h1252 : ia_Holds ia_m1252 := ib_hold1 (cal := [ia_m209, ia_m876, ia_m14, ia_m874, ia_m194, ia_m198, ia_m202, ia_m1243, ia_m1242, ia_m1241, ia_m772, ia_m2]) (ic_c ia_h209 (ic_c ia_h876 (ic_c ia_h14 (ic_c ia_h874 (ic_c ia_h194 (ic_c ia_h198 (ic_c ia_h202 (ic_c ia_h1243 (ic_c ia_h1242 (ic_c ia_h1241 (ic_c ia_h772 (ic_c ia_h2 ic_n)))))))))))) (ic_inc (by decide +kernel)) (by decide +kernel)
-- FatVolume$Route.reach()Z((1604, 2),)
set_option maxRecDepth 100000 in
theorem ia_h1253 : ia_Holds ia_m1253 := ib_hold1 (cal := [ia_m211, ia_m14, ia_m874, ia_m194, ia_m198, ia_m1242, ia_m1241, ia_m772, ia_m2]) (ic_c ia_h211 (ic_c ia_h14 (ic_c ia_h874 (ic_c ia_h194 (ic_c ia_h198 (ic_c ia_h1242 (ic_c ia_h1241 (ic_c ia_h772 (ic_c ia_h2 ic_n))))))))) (ic_inc (by decide +kernel)) (by decide +kernel)
-- FatVolume$Route.reach()Z((1604, 1),)
set_option maxRecDepth 100000 in
theorem ia_h1254 : ia_Holds ia_m1254 := ib_hold1 (cal := [ia_m213, ia_m14, ia_m194, ia_m1241, ia_m772, ia_m2]) (ic_c ia_h213 (ic_c ia_h14 (ic_c ia_h194 (ic_c ia_h1241 (ic_c ia_h772 (ic_c ia_h2 ic_n)))))) (ic_inc (by decide +kernel)) (by decide +kernel)
-- FatVolumeModel.walk()Z((5410, 4),)
def ia_c1255 : List ia_M := [ia_m258, ia_m259, ia_m260, ia_m261, ia_m262, ia_m263, ia_m264, ia_m265, ia_m266, ia_m267, ia_m268, ia_m269, ia_m270, ia_m271, ia_m272, ia_m273, ia_m274, ia_m275, ia_m276, ia_m277, ia_m278, ia_m279, ia_m280, ia_m281, ia_m282, ia_m283, ia_m284, ia_m285, ia_m286, ia_m287, ia_m288, ia_m289, ia_m290, ia_m291, ia_m292, ia_m293, ia_m294, ia_m295, ia_m296, ia_m297, ia_m298, ia_m299, ia_m300, ia_m301, ia_m302, ia_m303, ia_m304, ia_m305, ia_m306, ia_m307, ia_m308, ia_m309, ia_m310, ia_m311, ia_m312, ia_m313, ia_m314, ia_m315, ia_m316, ia_m317, ia_m318, ia_m319, ia_m320, ia_m321, ia_m322, ia_m323, ia_m324, ia_m325, ia_m326, ia_m327, ia_m328, ia_m329, ia_m330, ia_m331, ia_m332, ia_m333, ia_m334, ia_m335, ia_m336, ia_m337, ia_m338, ia_m339, ia_m340, ia_m341, ia_m342, ia_m343, ia_m344, ia_m345, ia_m346, ia_m347, ia_m348, ia_m349, ia_m350, ia_m351, ia_m352, ia_m353, ia_m354, ia_m355, ia_m356, ia_m357, ia_m358, ia_m359, ia_m360, ia_m361, ia_m362, ia_m363, ia_m364, ia_m365, ia_m366, ia_m367, ia_m368, ia_m369, ia_m370, ia_m371, ia_m372, ia_m373, ia_m374, ia_m375, ia_m376, ia_m377, ia_m378, ia_m379, ia_m380, ia_m381, ia_m382, ia_m383, ia_m384, ia_m385, ia_m386, ia_m387, ia_m388, ia_m389, ia_m390, ia_m391, ia_m392, ia_m393, ia_m394, ia_m395, ia_m396, ia_m397, ia_m398, ia_m399, ia_m400, ia_m401, ia_m402, ia_m403, ia_m404, ia_m405, ia_m406, ia_m407, ia_m408, ia_m409, ia_m410, ia_m411, ia_m412, ia_m413, ia_m414, ia_m415, ia_m416, ia_m417, ia_m418, ia_m419, ia_m420, ia_m421, ia_m422, ia_m423, ia_m424, ia_m425, ia_m426, ia_m427, ia_m428, ia_m429, ia_m430, ia_m431, ia_m432, ia_m433, ia_m434, ia_m435, ia_m436, ia_m437, ia_m438, ia_m439, ia_m440, ia_m441, ia_m442, ia_m443, ia_m444, ia_m445, ia_m446, ia_m447, ia_m448, ia_m449, ia_m450, ia_m451, ia_m452, ia_m453, ia_m454, ia_m455, ia_m456, ia_m457, ia_m458, ia_m459, ia_m460, ia_m461, ia_m462, ia_m463, ia_m464, ia_m465, ia_m466, ia_m467, ia_m468, ia_m469, ia_m470, ia_m471, ia_m472, ia_m473, ia_m474, ia_m475, ia_m476, ia_m477, ia_m478, ia_m479, ia_m480, ia_m481, ia_m482, ia_m483, ia_m484, ia_m485, ia_m486, ia_m487, ia_m488, ia_m489, ia_m490, ia_m491, ia_m492, ia_m493, ia_m494, ia_m495, ia_m496, ia_m497, ia_m498, ia_m499, ia_m500, ia_m501, ia_m502, ia_m503, ia_m504, ia_m505, ia_m506, ia_m507, ia_m508, ia_m509, ia_m510, ia_m511, ia_m512, ia_m513, ia_m1247, ia_m1246, ia_m1245, ia_m255, ia_m5]
theorem ia_h1255_0 : ib_ch ia_c1255 ia_m1255 ((ia_m1255.2.2.2.2.2.2.2.2.2.2.drop (8 * 0)).take 8) = true := by decide +kernel
theorem ia_h1255_1 : ib_ch ia_c1255 ia_m1255 ((ia_m1255.2.2.2.2.2.2.2.2.2.2.drop (8 * 1)).take 8) = true := by decide +kernel
theorem ia_h1255_2 : ib_ch ia_c1255 ia_m1255 ((ia_m1255.2.2.2.2.2.2.2.2.2.2.drop (8 * 2)).take 8) = true := by decide +kernel
theorem ia_h1255_3 : ib_ch ia_c1255 ia_m1255 ((ia_m1255.2.2.2.2.2.2.2.2.2.2.drop (8 * 3)).take 8) = true := by decide +kernel
theorem ia_h1255_4 : ib_ch ia_c1255 ia_m1255 ((ia_m1255.2.2.2.2.2.2.2.2.2.2.drop (8 * 4)).take 8) = true := by decide +kernel
theorem ia_h1255_5 : ib_ch ia_c1255 ia_m1255 ((ia_m1255.2.2.2.2.2.2.2.2.2.2.drop (8 * 5)).take 8) = true := by decide +kernel
theorem ia_h1255_6 : ib_ch ia_c1255 ia_m1255 ((ia_m1255.2.2.2.2.2.2.2.2.2.2.drop (8 * 6)).take 8) = true := by decide +kernel
theorem ia_h1255_7 : ib_ch ia_c1255 ia_m1255 ((ia_m1255.2.2.2.2.2.2.2.2.2.2.drop (8 * 7)).take 8) = true := by decide +kernel
theorem ia_h1255_8 : ib_ch ia_c1255 ia_m1255 ((ia_m1255.2.2.2.2.2.2.2.2.2.2.drop (8 * 8)).take 8) = true := by decide +kernel
theorem ia_h1255_9 : ib_ch ia_c1255 ia_m1255 ((ia_m1255.2.2.2.2.2.2.2.2.2.2.drop (8 * 9)).take 8) = true := by decide +kernel
theorem ia_h1255_10 : ib_ch ia_c1255 ia_m1255 ((ia_m1255.2.2.2.2.2.2.2.2.2.2.drop (8 * 10)).take 8) = true := by decide +kernel
theorem ia_h1255_11 : ib_ch ia_c1255 ia_m1255 ((ia_m1255.2.2.2.2.2.2.2.2.2.2.drop (8 * 11)).take 8) = true := by decide +kernel
theorem ia_h1255_12 : ib_ch ia_c1255 ia_m1255 ((ia_m1255.2.2.2.2.2.2.2.2.2.2.drop (8 * 12)).take 8) = true := by decide +kernel
theorem ia_h1255_13 : ib_ch ia_c1255 ia_m1255 ((ia_m1255.2.2.2.2.2.2.2.2.2.2.drop (8 * 13)).take 8) = true := by decide +kernel
theorem ia_h1255_14 : ib_ch ia_c1255 ia_m1255 ((ia_m1255.2.2.2.2.2.2.2.2.2.2.drop (8 * 14)).take 8) = true := by decide +kernel
theorem ia_h1255_15 : ib_ch ia_c1255 ia_m1255 ((ia_m1255.2.2.2.2.2.2.2.2.2.2.drop (8 * 15)).take 8) = true := by decide +kernel
theorem ia_h1255_16 : ib_ch ia_c1255 ia_m1255 ((ia_m1255.2.2.2.2.2.2.2.2.2.2.drop (8 * 16)).take 8) = true := by decide +kernel
theorem ia_h1255_17 : ib_ch ia_c1255 ia_m1255 ((ia_m1255.2.2.2.2.2.2.2.2.2.2.drop (8 * 17)).take 8) = true := by decide +kernel
theorem ia_h1255_18 : ib_ch ia_c1255 ia_m1255 ((ia_m1255.2.2.2.2.2.2.2.2.2.2.drop (8 * 18)).take 8) = true := by decide +kernel
theorem ia_h1255_19 : ib_ch ia_c1255 ia_m1255 ((ia_m1255.2.2.2.2.2.2.2.2.2.2.drop (8 * 19)).take 8) = true := by decide +kernel
theorem ia_h1255_20 : ib_ch ia_c1255 ia_m1255 ((ia_m1255.2.2.2.2.2.2.2.2.2.2.drop (8 * 20)).take 8) = true := by decide +kernel
theorem ia_h1255_21 : ib_ch ia_c1255 ia_m1255 ((ia_m1255.2.2.2.2.2.2.2.2.2.2.drop (8 * 21)).take 8) = true := by decide +kernel
theorem ia_h1255_22 : ib_ch ia_c1255 ia_m1255 ((ia_m1255.2.2.2.2.2.2.2.2.2.2.drop (8 * 22)).take 8) = true := by decide +kernel
theorem ia_h1255_23 : ib_ch ia_c1255 ia_m1255 ((ia_m1255.2.2.2.2.2.2.2.2.2.2.drop (8 * 23)).take 8) = true := by decide +kernel
theorem ia_h1255_24 : ib_ch ia_c1255 ia_m1255 ((ia_m1255.2.2.2.2.2.2.2.2.2.2.drop (8 * 24)).take 8) = true := by decide +kernel
theorem ia_h1255_25 : ib_ch ia_c1255 ia_m1255 ((ia_m1255.2.2.2.2.2.2.2.2.2.2.drop (8 * 25)).take 8) = true := by decide +kernel
theorem ia_h1255_26 : ib_ch ia_c1255 ia_m1255 ((ia_m1255.2.2.2.2.2.2.2.2.2.2.drop (8 * 26)).take 8) = true := by decide +kernel
theorem ia_h1255_27 : ib_ch ia_c1255 ia_m1255 ((ia_m1255.2.2.2.2.2.2.2.2.2.2.drop (8 * 27)).take 8) = true := by decide +kernel
theorem ia_h1255_28 : ib_ch ia_c1255 ia_m1255 ((ia_m1255.2.2.2.2.2.2.2.2.2.2.drop (8 * 28)).take 8) = true := by decide +kernel
theorem ia_h1255_29 : ib_ch ia_c1255 ia_m1255 ((ia_m1255.2.2.2.2.2.2.2.2.2.2.drop (8 * 29)).take 8) = true := by decide +kernel
theorem ia_h1255_30 : ib_ch ia_c1255 ia_m1255 ((ia_m1255.2.2.2.2.2.2.2.2.2.2.drop (8 * 30)).take 8) = true := by decide +kernel
theorem ia_h1255_31 : ib_ch ia_c1255 ia_m1255 ((ia_m1255.2.2.2.2.2.2.2.2.2.2.drop (8 * 31)).take 8) = true := by decide +kernel
theorem ia_h1255_32 : ib_ch ia_c1255 ia_m1255 ((ia_m1255.2.2.2.2.2.2.2.2.2.2.drop (8 * 32)).take 8) = true := by decide +kernel
theorem ia_h1255_33 : ib_ch ia_c1255 ia_m1255 ((ia_m1255.2.2.2.2.2.2.2.2.2.2.drop (8 * 33)).take 8) = true := by decide +kernel
theorem ia_h1255_34 : ib_ch ia_c1255 ia_m1255 ((ia_m1255.2.2.2.2.2.2.2.2.2.2.drop (8 * 34)).take 8) = true := by decide +kernel
theorem ia_h1255_35 : ib_ch ia_c1255 ia_m1255 ((ia_m1255.2.2.2.2.2.2.2.2.2.2.drop (8 * 35)).take 8) = true := by decide +kernel
theorem ia_h1255_36 : ib_ch ia_c1255 ia_m1255 ((ia_m1255.2.2.2.2.2.2.2.2.2.2.drop (8 * 36)).take 8) = true := by decide +kernel
theorem ia_h1255_37 : ib_ch ia_c1255 ia_m1255 ((ia_m1255.2.2.2.2.2.2.2.2.2.2.drop (8 * 37)).take 8) = true := by decide +kernel
theorem ia_h1255_38 : ib_ch ia_c1255 ia_m1255 ((ia_m1255.2.2.2.2.2.2.2.2.2.2.drop (8 * 38)).take 8) = true := by decide +kernel
theorem ia_h1255_39 : ib_ch ia_c1255 ia_m1255 ((ia_m1255.2.2.2.2.2.2.2.2.2.2.drop (8 * 39)).take 8) = true := by decide +kernel
theorem ia_h1255_40 : ib_ch ia_c1255 ia_m1255 ((ia_m1255.2.2.2.2.2.2.2.2.2.2.drop (8 * 40)).take 8) = true := by decide +kernel
theorem ia_h1255_41 : ib_ch ia_c1255 ia_m1255 ((ia_m1255.2.2.2.2.2.2.2.2.2.2.drop (8 * 41)).take 8) = true := by decide +kernel
theorem ia_h1255_42 : ib_ch ia_c1255 ia_m1255 ((ia_m1255.2.2.2.2.2.2.2.2.2.2.drop (8 * 42)).take 8) = true := by decide +kernel
theorem ia_h1255_43 : ib_ch ia_c1255 ia_m1255 ((ia_m1255.2.2.2.2.2.2.2.2.2.2.drop (8 * 43)).take 8) = true := by decide +kernel
theorem ia_h1255_44 : ib_ch ia_c1255 ia_m1255 ((ia_m1255.2.2.2.2.2.2.2.2.2.2.drop (8 * 44)).take 8) = true := by decide +kernel
theorem ia_h1255_45 : ib_ch ia_c1255 ia_m1255 ((ia_m1255.2.2.2.2.2.2.2.2.2.2.drop (8 * 45)).take 8) = true := by decide +kernel
theorem ia_h1255_46 : ib_ch ia_c1255 ia_m1255 ((ia_m1255.2.2.2.2.2.2.2.2.2.2.drop (8 * 46)).take 8) = true := by decide +kernel
theorem ia_h1255_47 : ib_ch ia_c1255 ia_m1255 ((ia_m1255.2.2.2.2.2.2.2.2.2.2.drop (8 * 47)).take 8) = true := by decide +kernel
theorem ia_h1255_48 : ib_ch ia_c1255 ia_m1255 ((ia_m1255.2.2.2.2.2.2.2.2.2.2.drop (8 * 48)).take 8) = true := by decide +kernel
theorem ia_h1255_49 : ib_ch ia_c1255 ia_m1255 ((ia_m1255.2.2.2.2.2.2.2.2.2.2.drop (8 * 49)).take 8) = true := by decide +kernel
theorem ia_h1255_50 : ib_ch ia_c1255 ia_m1255 ((ia_m1255.2.2.2.2.2.2.2.2.2.2.drop (8 * 50)).take 8) = true := by decide +kernel
theorem ia_h1255_51 : ib_ch ia_c1255 ia_m1255 ((ia_m1255.2.2.2.2.2.2.2.2.2.2.drop (8 * 51)).take 8) = true := by decide +kernel
theorem ia_h1255_52 : ib_ch ia_c1255 ia_m1255 ((ia_m1255.2.2.2.2.2.2.2.2.2.2.drop (8 * 52)).take 8) = true := by decide +kernel
theorem ia_h1255_53 : ib_ch ia_c1255 ia_m1255 ((ia_m1255.2.2.2.2.2.2.2.2.2.2.drop (8 * 53)).take 8) = true := by decide +kernel
theorem ia_h1255_54 : ib_ch ia_c1255 ia_m1255 ((ia_m1255.2.2.2.2.2.2.2.2.2.2.drop (8 * 54)).take 8) = true := by decide +kernel
theorem ia_h1255_55 : ib_ch ia_c1255 ia_m1255 ((ia_m1255.2.2.2.2.2.2.2.2.2.2.drop (8 * 55)).take 8) = true := by decide +kernel
theorem ia_h1255_56 : ib_ch ia_c1255 ia_m1255 ((ia_m1255.2.2.2.2.2.2.2.2.2.2.drop (8 * 56)).take 8) = true := by decide +kernel
theorem ia_h1255_57 : ib_ch ia_c1255 ia_m1255 ((ia_m1255.2.2.2.2.2.2.2.2.2.2.drop (8 * 57)).take 8) = true := by decide +kernel
theorem ia_h1255_58 : ib_ch ia_c1255 ia_m1255 ((ia_m1255.2.2.2.2.2.2.2.2.2.2.drop (8 * 58)).take 8) = true := by decide +kernel
theorem ia_h1255_59 : ib_ch ia_c1255 ia_m1255 ((ia_m1255.2.2.2.2.2.2.2.2.2.2.drop (8 * 59)).take 8) = true := by decide +kernel
theorem ia_h1255_60 : ib_ch ia_c1255 ia_m1255 ((ia_m1255.2.2.2.2.2.2.2.2.2.2.drop (8 * 60)).take 8) = true := by decide +kernel
theorem ia_h1255_61 : ib_ch ia_c1255 ia_m1255 ((ia_m1255.2.2.2.2.2.2.2.2.2.2.drop (8 * 61)).take 8) = true := by decide +kernel
theorem ia_h1255_62 : ib_ch ia_c1255 ia_m1255 ((ia_m1255.2.2.2.2.2.2.2.2.2.2.drop (8 * 62)).take 8) = true := by decide +kernel
theorem ia_h1255_63 : ib_ch ia_c1255 ia_m1255 ((ia_m1255.2.2.2.2.2.2.2.2.2.2.drop (8 * 63)).take 8) = true := by decide +kernel
theorem ia_h1255_64 : ib_ch ia_c1255 ia_m1255 ((ia_m1255.2.2.2.2.2.2.2.2.2.2.drop (8 * 64)).take 8) = true := by decide +kernel
theorem ia_h1255_65 : ib_ch ia_c1255 ia_m1255 ((ia_m1255.2.2.2.2.2.2.2.2.2.2.drop (8 * 65)).take 8) = true := by decide +kernel
theorem ia_h1255_66 : ib_ch ia_c1255 ia_m1255 ((ia_m1255.2.2.2.2.2.2.2.2.2.2.drop (8 * 66)).take 8) = true := by decide +kernel
theorem ia_h1255_67 : ib_ch ia_c1255 ia_m1255 ((ia_m1255.2.2.2.2.2.2.2.2.2.2.drop (8 * 67)).take 8) = true := by decide +kernel
theorem ia_h1255_68 : ib_ch ia_c1255 ia_m1255 ((ia_m1255.2.2.2.2.2.2.2.2.2.2.drop (8 * 68)).take 8) = true := by decide +kernel
theorem ia_h1255_69 : ib_ch ia_c1255 ia_m1255 ((ia_m1255.2.2.2.2.2.2.2.2.2.2.drop (8 * 69)).take 8) = true := by decide +kernel
theorem ia_h1255_70 : ib_ch ia_c1255 ia_m1255 ((ia_m1255.2.2.2.2.2.2.2.2.2.2.drop (8 * 70)).take 8) = true := by decide +kernel
theorem ia_h1255_71 : ib_ch ia_c1255 ia_m1255 ((ia_m1255.2.2.2.2.2.2.2.2.2.2.drop (8 * 71)).take 8) = true := by decide +kernel
theorem ia_h1255_72 : ib_ch ia_c1255 ia_m1255 ((ia_m1255.2.2.2.2.2.2.2.2.2.2.drop (8 * 72)).take 8) = true := by decide +kernel
theorem ia_h1255_73 : ib_ch ia_c1255 ia_m1255 ((ia_m1255.2.2.2.2.2.2.2.2.2.2.drop (8 * 73)).take 8) = true := by decide +kernel
theorem ia_h1255_74 : ib_ch ia_c1255 ia_m1255 ((ia_m1255.2.2.2.2.2.2.2.2.2.2.drop (8 * 74)).take 8) = true := by decide +kernel
theorem ia_h1255_75 : ib_ch ia_c1255 ia_m1255 ((ia_m1255.2.2.2.2.2.2.2.2.2.2.drop (8 * 75)).take 8) = true := by decide +kernel
theorem ia_h1255_76 : ib_ch ia_c1255 ia_m1255 ((ia_m1255.2.2.2.2.2.2.2.2.2.2.drop (8 * 76)).take 8) = true := by decide +kernel
theorem ia_h1255_77 : ib_ch ia_c1255 ia_m1255 ((ia_m1255.2.2.2.2.2.2.2.2.2.2.drop (8 * 77)).take 8) = true := by decide +kernel
theorem ia_h1255_78 : ib_ch ia_c1255 ia_m1255 ((ia_m1255.2.2.2.2.2.2.2.2.2.2.drop (8 * 78)).take 8) = true := by decide +kernel
theorem ia_h1255_79 : ib_ch ia_c1255 ia_m1255 ((ia_m1255.2.2.2.2.2.2.2.2.2.2.drop (8 * 79)).take 8) = true := by decide +kernel
theorem ia_h1255_80 : ib_ch ia_c1255 ia_m1255 ((ia_m1255.2.2.2.2.2.2.2.2.2.2.drop (8 * 80)).take 8) = true := by decide +kernel
theorem ia_h1255_81 : ib_ch ia_c1255 ia_m1255 ((ia_m1255.2.2.2.2.2.2.2.2.2.2.drop (8 * 81)).take 8) = true := by decide +kernel
theorem ia_h1255_82 : ib_ch ia_c1255 ia_m1255 ((ia_m1255.2.2.2.2.2.2.2.2.2.2.drop (8 * 82)).take 8) = true := by decide +kernel
theorem ia_h1255_83 : ib_ch ia_c1255 ia_m1255 ((ia_m1255.2.2.2.2.2.2.2.2.2.2.drop (8 * 83)).take 8) = true := by decide +kernel
theorem ia_h1255_84 : ib_ch ia_c1255 ia_m1255 ((ia_m1255.2.2.2.2.2.2.2.2.2.2.drop (8 * 84)).take 8) = true := by decide +kernel
theorem ia_h1255_85 : ib_ch ia_c1255 ia_m1255 ((ia_m1255.2.2.2.2.2.2.2.2.2.2.drop (8 * 85)).take 8) = true := by decide +kernel
theorem ia_h1255_86 : ib_ch ia_c1255 ia_m1255 ((ia_m1255.2.2.2.2.2.2.2.2.2.2.drop (8 * 86)).take 8) = true := by decide +kernel
theorem ia_h1255_87 : ib_ch ia_c1255 ia_m1255 ((ia_m1255.2.2.2.2.2.2.2.2.2.2.drop (8 * 87)).take 8) = true := by decide +kernel
theorem ia_h1255_88 : ib_ch ia_c1255 ia_m1255 ((ia_m1255.2.2.2.2.2.2.2.2.2.2.drop (8 * 88)).take 8) = true := by decide +kernel
theorem ia_h1255_89 : ib_ch ia_c1255 ia_m1255 ((ia_m1255.2.2.2.2.2.2.2.2.2.2.drop (8 * 89)).take 8) = true := by decide +kernel
theorem ia_h1255_90 : ib_ch ia_c1255 ia_m1255 ((ia_m1255.2.2.2.2.2.2.2.2.2.2.drop (8 * 90)).take 8) = true := by decide +kernel
theorem ia_h1255_91 : ib_ch ia_c1255 ia_m1255 ((ia_m1255.2.2.2.2.2.2.2.2.2.2.drop (8 * 91)).take 8) = true := by decide +kernel
theorem ia_h1255_92 : ib_ch ia_c1255 ia_m1255 ((ia_m1255.2.2.2.2.2.2.2.2.2.2.drop (8 * 92)).take 8) = true := by decide +kernel
set_option maxRecDepth 100000 in
theorem ia_h1255 : ia_Holds ia_m1255 := by
  refine ib_hold (cal := ia_c1255) (ic_c ia_h258 (ic_c ia_h259 (ic_c ia_h260 (ic_c ia_h261 (ic_c ia_h262 (ic_c ia_h263 (ic_c ia_h264 (ic_c ia_h265 (ic_c ia_h266 (ic_c ia_h267 (ic_c ia_h268 (ic_c ia_h269 (ic_c ia_h270 (ic_c ia_h271 (ic_c ia_h272 (ic_c ia_h273 (ic_c ia_h274 (ic_c ia_h275 (ic_c ia_h276 (ic_c ia_h277 (ic_c ia_h278 (ic_c ia_h279 (ic_c ia_h280 (ic_c ia_h281 (ic_c ia_h282 (ic_c ia_h283 (ic_c ia_h284 (ic_c ia_h285 (ic_c ia_h286 (ic_c ia_h287 (ic_c ia_h288 (ic_c ia_h289 (ic_c ia_h290 (ic_c ia_h291 (ic_c ia_h292 (ic_c ia_h293 (ic_c ia_h294 (ic_c ia_h295 (ic_c ia_h296 (ic_c ia_h297 (ic_c ia_h298 (ic_c ia_h299 (ic_c ia_h300 (ic_c ia_h301 (ic_c ia_h302 (ic_c ia_h303 (ic_c ia_h304 (ic_c ia_h305 (ic_c ia_h306 (ic_c ia_h307 (ic_c ia_h308 (ic_c ia_h309 (ic_c ia_h310 (ic_c ia_h311 (ic_c ia_h312 (ic_c ia_h313 (ic_c ia_h314 (ic_c ia_h315 (ic_c ia_h316 (ic_c ia_h317 (ic_c ia_h318 (ic_c ia_h319 (ic_c ia_h320 (ic_c ia_h321 (ic_c ia_h322 (ic_c ia_h323 (ic_c ia_h324 (ic_c ia_h325 (ic_c ia_h326 (ic_c ia_h327 (ic_c ia_h328 (ic_c ia_h329 (ic_c ia_h330 (ic_c ia_h331 (ic_c ia_h332 (ic_c ia_h333 (ic_c ia_h334 (ic_c ia_h335 (ic_c ia_h336 (ic_c ia_h337 (ic_c ia_h338 (ic_c ia_h339 (ic_c ia_h340 (ic_c ia_h341 (ic_c ia_h342 (ic_c ia_h343 (ic_c ia_h344 (ic_c ia_h345 (ic_c ia_h346 (ic_c ia_h347 (ic_c ia_h348 (ic_c ia_h349 (ic_c ia_h350 (ic_c ia_h351 (ic_c ia_h352 (ic_c ia_h353 (ic_c ia_h354 (ic_c ia_h355 (ic_c ia_h356 (ic_c ia_h357 (ic_c ia_h358 (ic_c ia_h359 (ic_c ia_h360 (ic_c ia_h361 (ic_c ia_h362 (ic_c ia_h363 (ic_c ia_h364 (ic_c ia_h365 (ic_c ia_h366 (ic_c ia_h367 (ic_c ia_h368 (ic_c ia_h369 (ic_c ia_h370 (ic_c ia_h371 (ic_c ia_h372 (ic_c ia_h373 (ic_c ia_h374 (ic_c ia_h375 (ic_c ia_h376 (ic_c ia_h377 (ic_c ia_h378 (ic_c ia_h379 (ic_c ia_h380 (ic_c ia_h381 (ic_c ia_h382 (ic_c ia_h383 (ic_c ia_h384 (ic_c ia_h385 (ic_c ia_h386 (ic_c ia_h387 (ic_c ia_h388 (ic_c ia_h389 (ic_c ia_h390 (ic_c ia_h391 (ic_c ia_h392 (ic_c ia_h393 (ic_c ia_h394 (ic_c ia_h395 (ic_c ia_h396 (ic_c ia_h397 (ic_c ia_h398 (ic_c ia_h399 (ic_c ia_h400 (ic_c ia_h401 (ic_c ia_h402 (ic_c ia_h403 (ic_c ia_h404 (ic_c ia_h405 (ic_c ia_h406 (ic_c ia_h407 (ic_c ia_h408 (ic_c ia_h409 (ic_c ia_h410 (ic_c ia_h411 (ic_c ia_h412 (ic_c ia_h413 (ic_c ia_h414 (ic_c ia_h415 (ic_c ia_h416 (ic_c ia_h417 (ic_c ia_h418 (ic_c ia_h419 (ic_c ia_h420 (ic_c ia_h421 (ic_c ia_h422 (ic_c ia_h423 (ic_c ia_h424 (ic_c ia_h425 (ic_c ia_h426 (ic_c ia_h427 (ic_c ia_h428 (ic_c ia_h429 (ic_c ia_h430 (ic_c ia_h431 (ic_c ia_h432 (ic_c ia_h433 (ic_c ia_h434 (ic_c ia_h435 (ic_c ia_h436 (ic_c ia_h437 (ic_c ia_h438 (ic_c ia_h439 (ic_c ia_h440 (ic_c ia_h441 (ic_c ia_h442 (ic_c ia_h443 (ic_c ia_h444 (ic_c ia_h445 (ic_c ia_h446 (ic_c ia_h447 (ic_c ia_h448 (ic_c ia_h449 (ic_c ia_h450 (ic_c ia_h451 (ic_c ia_h452 (ic_c ia_h453 (ic_c ia_h454 (ic_c ia_h455 (ic_c ia_h456 (ic_c ia_h457 (ic_c ia_h458 (ic_c ia_h459 (ic_c ia_h460 (ic_c ia_h461 (ic_c ia_h462 (ic_c ia_h463 (ic_c ia_h464 (ic_c ia_h465 (ic_c ia_h466 (ic_c ia_h467 (ic_c ia_h468 (ic_c ia_h469 (ic_c ia_h470 (ic_c ia_h471 (ic_c ia_h472 (ic_c ia_h473 (ic_c ia_h474 (ic_c ia_h475 (ic_c ia_h476 (ic_c ia_h477 (ic_c ia_h478 (ic_c ia_h479 (ic_c ia_h480 (ic_c ia_h481 (ic_c ia_h482 (ic_c ia_h483 (ic_c ia_h484 (ic_c ia_h485 (ic_c ia_h486 (ic_c ia_h487 (ic_c ia_h488 (ic_c ia_h489 (ic_c ia_h490 (ic_c ia_h491 (ic_c ia_h492 (ic_c ia_h493 (ic_c ia_h494 (ic_c ia_h495 (ic_c ia_h496 (ic_c ia_h497 (ic_c ia_h498 (ic_c ia_h499 (ic_c ia_h500 (ic_c ia_h501 (ic_c ia_h502 (ic_c ia_h503 (ic_c ia_h504 (ic_c ia_h505 (ic_c ia_h506 (ic_c ia_h507 (ic_c ia_h508 (ic_c ia_h509 (ic_c ia_h510 (ic_c ia_h511 (ic_c ia_h512 (ic_c ia_h513 (ic_c ia_h1247 (ic_c ia_h1246 (ic_c ia_h1245 (ic_c ia_h255 (ic_c ia_h5 ic_n))))))))))))))))))))))))))))))))))))))))))))))))))))))))))))))))))))))))))))))))))))))))))))))))))))))))))))))))))))))))))))))))))))))))))))))))))))))))))))))))))))))))))))))))))))))))))))))))))))))))))))))))))))))))))))))))))))))))))))))))))))))))))))))))))))) (ic_inc (by decide +kernel)) (by decide +kernel) (by decide +kernel) (ic_ck (k := 8) 93 ia_m1255.2.2.2.2.2.2.2.2.2.2 (Nat.le_of_ble_eq_true (by decide +kernel)) (fun j hj => ?_))
  rw [← ib_ch_eq]
  match j, hj with
  | 0, _ => exact ia_h1255_0
  | 1, _ => exact ia_h1255_1
  | 2, _ => exact ia_h1255_2
  | 3, _ => exact ia_h1255_3
  | 4, _ => exact ia_h1255_4
  | 5, _ => exact ia_h1255_5
  | 6, _ => exact ia_h1255_6
  | 7, _ => exact ia_h1255_7
  | 8, _ => exact ia_h1255_8
  | 9, _ => exact ia_h1255_9
  | 10, _ => exact ia_h1255_10
  | 11, _ => exact ia_h1255_11
  | 12, _ => exact ia_h1255_12
  | 13, _ => exact ia_h1255_13
  | 14, _ => exact ia_h1255_14
  | 15, _ => exact ia_h1255_15
  | 16, _ => exact ia_h1255_16
  | 17, _ => exact ia_h1255_17
  | 18, _ => exact ia_h1255_18
  | 19, _ => exact ia_h1255_19
  | 20, _ => exact ia_h1255_20
  | 21, _ => exact ia_h1255_21
  | 22, _ => exact ia_h1255_22
  | 23, _ => exact ia_h1255_23
  | 24, _ => exact ia_h1255_24
  | 25, _ => exact ia_h1255_25
  | 26, _ => exact ia_h1255_26
  | 27, _ => exact ia_h1255_27
  | 28, _ => exact ia_h1255_28
  | 29, _ => exact ia_h1255_29
  | 30, _ => exact ia_h1255_30
  | 31, _ => exact ia_h1255_31
  | 32, _ => exact ia_h1255_32
  | 33, _ => exact ia_h1255_33
  | 34, _ => exact ia_h1255_34
  | 35, _ => exact ia_h1255_35
  | 36, _ => exact ia_h1255_36
  | 37, _ => exact ia_h1255_37
  | 38, _ => exact ia_h1255_38
  | 39, _ => exact ia_h1255_39
  | 40, _ => exact ia_h1255_40
  | 41, _ => exact ia_h1255_41
  | 42, _ => exact ia_h1255_42
  | 43, _ => exact ia_h1255_43
  | 44, _ => exact ia_h1255_44
  | 45, _ => exact ia_h1255_45
  | 46, _ => exact ia_h1255_46
  | 47, _ => exact ia_h1255_47
  | 48, _ => exact ia_h1255_48
  | 49, _ => exact ia_h1255_49
  | 50, _ => exact ia_h1255_50
  | 51, _ => exact ia_h1255_51
  | 52, _ => exact ia_h1255_52
  | 53, _ => exact ia_h1255_53
  | 54, _ => exact ia_h1255_54
  | 55, _ => exact ia_h1255_55
  | 56, _ => exact ia_h1255_56
  | 57, _ => exact ia_h1255_57
  | 58, _ => exact ia_h1255_58
  | 59, _ => exact ia_h1255_59
  | 60, _ => exact ia_h1255_60
  | 61, _ => exact ia_h1255_61
  | 62, _ => exact ia_h1255_62
  | 63, _ => exact ia_h1255_63
  | 64, _ => exact ia_h1255_64
  | 65, _ => exact ia_h1255_65
  | 66, _ => exact ia_h1255_66
  | 67, _ => exact ia_h1255_67
  | 68, _ => exact ia_h1255_68
  | 69, _ => exact ia_h1255_69
  | 70, _ => exact ia_h1255_70
  | 71, _ => exact ia_h1255_71
  | 72, _ => exact ia_h1255_72
  | 73, _ => exact ia_h1255_73
  | 74, _ => exact ia_h1255_74
  | 75, _ => exact ia_h1255_75
  | 76, _ => exact ia_h1255_76
  | 77, _ => exact ia_h1255_77
  | 78, _ => exact ia_h1255_78
  | 79, _ => exact ia_h1255_79
  | 80, _ => exact ia_h1255_80
  | 81, _ => exact ia_h1255_81
  | 82, _ => exact ia_h1255_82
  | 83, _ => exact ia_h1255_83
  | 84, _ => exact ia_h1255_84
  | 85, _ => exact ia_h1255_85
  | 86, _ => exact ia_h1255_86
  | 87, _ => exact ia_h1255_87
  | 88, _ => exact ia_h1255_88
  | 89, _ => exact ia_h1255_89
  | 90, _ => exact ia_h1255_90
  | 91, _ => exact ia_h1255_91
  | 92, _ => exact ia_h1255_92
  | x + 93, h => exact absurd h (by omega)
