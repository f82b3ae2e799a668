/-! the checks -/
-- FatVolume$Buffer.names()I((1604, 4),)
theorem ia_h190 : ia_Holds ia_m190 := ib_hold1 (cal := []) ic_n (ic_inc (by decide +kernel)) (by decide +kernel)
-- FatVolume$Buffer.length(I)I(0,)
theorem ia_h191 : ia_Holds ia_m191 := ib_hold1 (cal := []) ic_n (ic_inc (by decide +kernel)) (by decide +kernel)
-- FatVolume$Buffer.charAt(II)I(0,)
theorem ia_h192 : ia_Holds ia_m192 := ib_hold1 (cal := []) ic_n (ic_inc (by decide +kernel)) (by decide +kernel)
-- FatVolume.asCapital(I)I()
theorem ia_h193 : ia_Holds ia_m193 := ib_hold1 (cal := []) ic_n (ic_inc (by decide +kernel)) (by decide +kernel)
-- FatVolume$Folder.choose(I)V((12,),)
theorem ia_h194 : ia_Holds ia_m194 := ib_hold1 (cal := []) ic_n (ic_inc (by decide +kernel)) (by decide +kernel)
-- FatVolume$Folder.slot()I((12,),)
theorem ia_h195 : ia_Holds ia_m195 := ib_hold1 (cal := []) ic_n (ic_inc (by decide +kernel)) (by decide +kernel)
-- FatVolume$Buffer.length(I)I(1,)
theorem ia_h196 : ia_Holds ia_m196 := ib_hold1 (cal := []) ic_n (ic_inc (by decide +kernel)) (by decide +kernel)
-- FatVolume$Buffer.charAt(II)I(1,)
theorem ia_h197 : ia_Holds ia_m197 := ib_hold1 (cal := []) ic_n (ic_inc (by decide +kernel)) (by decide +kernel)
-- FatVolume$Folder.choose(I)V((14,),)
theorem ia_h198 : ia_Holds ia_m198 := ib_hold1 (cal := []) ic_n (ic_inc (by decide +kernel)) (by decide +kernel)
-- FatVolume$Folder.slot()I((14,),)
theorem ia_h199 : ia_Holds ia_m199 := ib_hold1 (cal := []) ic_n (ic_inc (by decide +kernel)) (by decide +kernel)
-- FatVolume$Buffer.length(I)I(2,)
theorem ia_h200 : ia_Holds ia_m200 := ib_hold1 (cal := []) ic_n (ic_inc (by decide +kernel)) (by decide +kernel)
-- FatVolume$Buffer.charAt(II)I(2,)
theorem ia_h201 : ia_Holds ia_m201 := ib_hold1 (cal := []) ic_n (ic_inc (by decide +kernel)) (by decide +kernel)
-- FatVolume$Folder.choose(I)V((16,),)
theorem ia_h202 : ia_Holds ia_m202 := ib_hold1 (cal := []) ic_n (ic_inc (by decide +kernel)) (by decide +kernel)
-- FatVolume$Folder.slot()I((16,),)
theorem ia_h203 : ia_Holds ia_m203 := ib_hold1 (cal := []) ic_n (ic_inc (by decide +kernel)) (by decide +kernel)
-- FatVolume$Buffer.length(I)I(3,)
theorem ia_h204 : ia_Holds ia_m204 := ib_hold1 (cal := []) ic_n (ic_inc (by decide +kernel)) (by decide +kernel)
-- FatVolume$Buffer.charAt(II)I(3,)
theorem ia_h205 : ia_Holds ia_m205 := ib_hold1 (cal := []) ic_n (ic_inc (by decide +kernel)) (by decide +kernel)
-- FatVolume$Folder.choose(I)V((18,),)
theorem ia_h206 : ia_Holds ia_m206 := ib_hold1 (cal := []) ic_n (ic_inc (by decide +kernel)) (by decide +kernel)
-- FatVolume$Route.last()LFatVolume$Folder;((2003, 3),)
theorem ia_h207 : ia_Holds ia_m207 := ib_hold1 (cal := []) ic_n (ic_inc (by decide +kernel)) (by decide +kernel)
-- FatVolume$Folder.slot()I((18,),)
theorem ia_h208 : ia_Holds ia_m208 := ib_hold1 (cal := []) ic_n (ic_inc (by decide +kernel)) (by decide +kernel)
-- FatVolume$Buffer.names()I((1604, 3),)
theorem ia_h209 : ia_Holds ia_m209 := ib_hold1 (cal := []) ic_n (ic_inc (by decide +kernel)) (by decide +kernel)
-- FatVolume$Route.last()LFatVolume$Folder;((2003, 2),)
theorem ia_h210 : ia_Holds ia_m210 := ib_hold1 (cal := []) ic_n (ic_inc (by decide +kernel)) (by decide +kernel)
-- FatVolume$Buffer.names()I((1604, 2),)
theorem ia_h211 : ia_Holds ia_m211 := ib_hold1 (cal := []) ic_n (ic_inc (by decide +kernel)) (by decide +kernel)
-- FatVolume$Route.last()LFatVolume$Folder;((2003, 1),)
theorem ia_h212 : ia_Holds ia_m212 := ib_hold1 (cal := []) ic_n (ic_inc (by decide +kernel)) (by decide +kernel)
-- FatVolume$Buffer.names()I((1604, 1),)
theorem ia_h213 : ia_Holds ia_m213 := ib_hold1 (cal := []) ic_n (ic_inc (by decide +kernel)) (by decide +kernel)
-- FatVolume$Route.last()LFatVolume$Folder;((2003, 0),)
theorem ia_h214 : ia_Holds ia_m214 := ib_hold1 (cal := []) ic_n (ic_inc (by decide +kernel)) (by decide +kernel)
-- FatVolume$Disk.loadCluster(I[II)V((21,),)
theorem ia_h215 : ia_Holds ia_m215 := ib_hold1 (cal := []) ic_n (ic_inc (by decide +kernel)) (by decide +kernel)
-- FatVolume$FileBytes.clearFrom(I)V()
theorem ia_h216 : ia_Holds ia_m216 := ib_hold1 (cal := []) ic_n (ic_inc (by decide +kernel)) (by decide +kernel)
-- FatVolume$FileBytes.has(I)Z()
theorem ia_h217 : ia_Holds ia_m217 := ib_hold1 (cal := []) ic_n (ic_inc (by decide +kernel)) (by decide +kernel)
-- FatVolume$FileBytes.get(I)I()
theorem ia_h218 : ia_Holds ia_m218 := ib_hold1 (cal := []) ic_n (ic_inc (by decide +kernel)) (by decide +kernel)
-- FatVolume$Disk.loadActiveTable([I)V()
theorem ia_h219 : ia_Holds ia_m219 := ib_hold1 (cal := []) ic_n (ic_inc (by decide +kernel)) (by decide +kernel)
-- FatVolume$Route.lastName()I((2003, 3),)
theorem ia_h220 : ia_Holds ia_m220 := ib_hold1 (cal := []) ic_n (ic_inc (by decide +kernel)) (by decide +kernel)
-- FatVolume$Route.folder(I)LFatVolume$Folder;(0,)
theorem ia_h221 : ia_Holds ia_m221 := ib_hold1 (cal := []) ic_n (ic_inc (by decide +kernel)) (by decide +kernel)
-- FatVolume$Folder.home()I((12,),)
theorem ia_h222 : ia_Holds ia_m222 := ib_hold1 (cal := []) ic_n (ic_inc (by decide +kernel)) (by decide +kernel)
-- FatVolume$Route.folder(I)LFatVolume$Folder;(1,)
theorem ia_h223 : ia_Holds ia_m223 := ib_hold1 (cal := []) ic_n (ic_inc (by decide +kernel)) (by decide +kernel)
-- FatVolume$Folder.home()I((14,),)
theorem ia_h224 : ia_Holds ia_m224 := ib_hold1 (cal := []) ic_n (ic_inc (by decide +kernel)) (by decide +kernel)
-- FatVolume$Route.folder(I)LFatVolume$Folder;(2,)
theorem ia_h225 : ia_Holds ia_m225 := ib_hold1 (cal := []) ic_n (ic_inc (by decide +kernel)) (by decide +kernel)
-- FatVolume$Folder.home()I((16,),)
theorem ia_h226 : ia_Holds ia_m226 := ib_hold1 (cal := []) ic_n (ic_inc (by decide +kernel)) (by decide +kernel)
-- FatVolume$Route.folder(I)LFatVolume$Folder;(3,)
theorem ia_h227 : ia_Holds ia_m227 := ib_hold1 (cal := []) ic_n (ic_inc (by decide +kernel)) (by decide +kernel)
-- FatVolume$Folder.home()I((18,),)
theorem ia_h228 : ia_Holds ia_m228 := ib_hold1 (cal := []) ic_n (ic_inc (by decide +kernel)) (by decide +kernel)
-- FatVolume$FileBytes.links()I()
theorem ia_h229 : ia_Holds ia_m229 := ib_hold1 (cal := []) ic_n (ic_inc (by decide +kernel)) (by decide +kernel)
-- FatVolume$FileBytes.link(I)I()
theorem ia_h230 : ia_Holds ia_m230 := ib_hold1 (cal := []) ic_n (ic_inc (by decide +kernel)) (by decide +kernel)
-- FatVolume$FileBytes.bytes()[I()
theorem ia_h231 : ia_Holds ia_m231 := ib_hold1 (cal := []) ic_n (ic_inc (by decide +kernel)) (by decide +kernel)
-- FatVolume$Disk.failsNow()Z()
theorem ia_h232 : ia_Holds ia_m232 := ib_hold1 (cal := []) ic_n (ic_inc (by decide +kernel)) (by decide +kernel)
-- FatVolume$Disk.storeCluster(I[II)V((21,),)
theorem ia_h233 : ia_Holds ia_m233 := ib_hold1 (cal := []) ic_n (ic_inc (by decide +kernel)) (by decide +kernel)
-- FatVolume$Folder.bytes()[I((18,),)
theorem ia_h234 : ia_Holds ia_m234 := ib_hold1 (cal := []) ic_n (ic_inc (by decide +kernel)) (by decide +kernel)
-- FatVolume$Disk.storeCluster(I[II)V((19,),)
theorem ia_h235 : ia_Holds ia_m235 := ib_hold1 (cal := []) ic_n (ic_inc (by decide +kernel)) (by decide +kernel)
-- FatVolume$Folder.bytes()[I((16,),)
theorem ia_h236 : ia_Holds ia_m236 := ib_hold1 (cal := []) ic_n (ic_inc (by decide +kernel)) (by decide +kernel)
-- FatVolume$Disk.storeCluster(I[II)V((17,),)
theorem ia_h237 : ia_Holds ia_m237 := ib_hold1 (cal := []) ic_n (ic_inc (by decide +kernel)) (by decide +kernel)
-- FatVolume$Folder.bytes()[I((14,),)
theorem ia_h238 : ia_Holds ia_m238 := ib_hold1 (cal := []) ic_n (ic_inc (by decide +kernel)) (by decide +kernel)
-- FatVolume$Disk.storeCluster(I[II)V((15,),)
theorem ia_h239 : ia_Holds ia_m239 := ib_hold1 (cal := []) ic_n (ic_inc (by decide +kernel)) (by decide +kernel)
-- FatVolume$Folder.bytes()[I((12,),)
theorem ia_h240 : ia_Holds ia_m240 := ib_hold1 (cal := []) ic_n (ic_inc (by decide +kernel)) (by decide +kernel)
-- FatVolume$Disk.storeCluster(I[II)V((13,),)
theorem ia_h241 : ia_Holds ia_m241 := ib_hold1 (cal := []) ic_n (ic_inc (by decide +kernel)) (by decide +kernel)
-- FatVolume$Disk.storeOtherTable([I)V()
theorem ia_h242 : ia_Holds ia_m242 := ib_hold1 (cal := []) ic_n (ic_inc (by decide +kernel)) (by decide +kernel)
-- FatVolume$Disk.storeBoot(I)V()
theorem ia_h243 : ia_Holds ia_m243 := ib_hold1 (cal := []) ic_n (ic_inc (by decide +kernel)) (by decide +kernel)
-- FatVolume.settled(II)I()
theorem ia_h244 : ia_Holds ia_m244 := ib_hold1 (cal := []) ic_n (ic_inc (by decide +kernel)) (by decide +kernel)
-- FatVolume$Route.lastName()I((2003, 2),)
theorem ia_h245 : ia_Holds ia_m245 := ib_hold1 (cal := []) ic_n (ic_inc (by decide +kernel)) (by decide +kernel)
-- FatVolume$Route.lastName()I((2003, 1),)
theorem ia_h246 : ia_Holds ia_m246 := ib_hold1 (cal := []) ic_n (ic_inc (by decide +kernel)) (by decide +kernel)
-- FatVolume$Route.lastName()I((2003, 0),)
theorem ia_h247 : ia_Holds ia_m247 := ib_hold1 (cal := []) ic_n (ic_inc (by decide +kernel)) (by decide +kernel)
-- FatVolume$Folder.clearSlots(II)V()
theorem ia_h248 : ia_Holds ia_m248 := ib_hold1 (cal := []) ic_n (ic_inc (by decide +kernel)) (by decide +kernel)
-- FatVolume.isDigit(I)Z()
theorem ia_h249 : ia_Holds ia_m249 := ib_hold1 (cal := []) ic_n (ic_inc (by decide +kernel)) (by decide +kernel)
-- FatVolume$Disk.storeCluster(I[II)V((28,),)
theorem ia_h250 : ia_Holds ia_m250 := ib_hold1 (cal := []) ic_n (ic_inc (by decide +kernel)) (by decide +kernel)
-- FatVolume$ShortName.asNumber()I()
theorem ia_h251 : ia_Holds ia_m251 := ib_hold1 (cal := []) ic_n (ic_inc (by decide +kernel)) (by decide +kernel)
-- FatVolume$FileBytes.put(IJI)V()
theorem ia_h252 : ia_Holds ia_m252 := ib_hold1 (cal := []) ic_n (ic_inc (by decide +kernel)) (by decide +kernel)
-- FatVolumeModel.isPath()Z()
def ia_c253 : List ia_M := []
theorem ia_h253_0 : ib_ch ia_c253 ia_m253 ((ia_m253.2.2.2.2.2.2.2.2.2.2.drop (8 * 0)).take 8) = true := by decide +kernel
theorem ia_h253_1 : ib_ch ia_c253 ia_m253 ((ia_m253.2.2.2.2.2.2.2.2.2.2.drop (8 * 1)).take 8) = true := by decide +kernel
theorem ia_h253_2 : ib_ch ia_c253 ia_m253 ((ia_m253.2.2.2.2.2.2.2.2.2.2.drop (8 * 2)).take 8) = true := by decide +kernel
theorem ia_h253_3 : ib_ch ia_c253 ia_m253 ((ia_m253.2.2.2.2.2.2.2.2.2.2.drop (8 * 3)).take 8) = true := by decide +kernel
theorem ia_h253_4 : ib_ch ia_c253 ia_m253 ((ia_m253.2.2.2.2.2.2.2.2.2.2.drop (8 * 4)).take 8) = true := by decide +kernel
theorem ia_h253_5 : ib_ch ia_c253 ia_m253 ((ia_m253.2.2.2.2.2.2.2.2.2.2.drop (8 * 5)).take 8) = true := by decide +kernel
theorem ia_h253_6 : ib_ch ia_c253 ia_m253 ((ia_m253.2.2.2.2.2.2.2.2.2.2.drop (8 * 6)).take 8) = true := by decide +kernel
theorem ia_h253_7 : ib_ch ia_c253 ia_m253 ((ia_m253.2.2.2.2.2.2.2.2.2.2.drop (8 * 7)).take 8) = true := by decide +kernel
theorem ia_h253_8 : ib_ch ia_c253 ia_m253 ((ia_m253.2.2.2.2.2.2.2.2.2.2.drop (8 * 8)).take 8) = true := by decide +kernel
theorem ia_h253_9 : ib_ch ia_c253 ia_m253 ((ia_m253.2.2.2.2.2.2.2.2.2.2.drop (8 * 9)).take 8) = true := by decide +kernel
theorem ia_h253_10 : ib_ch ia_c253 ia_m253 ((ia_m253.2.2.2.2.2.2.2.2.2.2.drop (8 * 10)).take 8) = true := by decide +kernel
theorem ia_h253_11 : ib_ch ia_c253 ia_m253 ((ia_m253.2.2.2.2.2.2.2.2.2.2.drop (8 * 11)).take 8) = true := by decide +kernel
theorem ia_h253_12 : ib_ch ia_c253 ia_m253 ((ia_m253.2.2.2.2.2.2.2.2.2.2.drop (8 * 12)).take 8) = true := by decide +kernel
theorem ia_h253_13 : ib_ch ia_c253 ia_m253 ((ia_m253.2.2.2.2.2.2.2.2.2.2.drop (8 * 13)).take 8) = true := by decide +kernel
theorem ia_h253_14 : ib_ch ia_c253 ia_m253 ((ia_m253.2.2.2.2.2.2.2.2.2.2.drop (8 * 14)).take 8) = true := by decide +kernel
theorem ia_h253_15 : ib_ch ia_c253 ia_m253 ((ia_m253.2.2.2.2.2.2.2.2.2.2.drop (8 * 15)).take 8) = true := by decide +kernel
theorem ia_h253_16 : ib_ch ia_c253 ia_m253 ((ia_m253.2.2.2.2.2.2.2.2.2.2.drop (8 * 16)).take 8) = true := by decide +kernel
theorem ia_h253_17 : ib_ch ia_c253 ia_m253 ((ia_m253.2.2.2.2.2.2.2.2.2.2.drop (8 * 17)).take 8) = true := by decide +kernel
theorem ia_h253_18 : ib_ch ia_c253 ia_m253 ((ia_m253.2.2.2.2.2.2.2.2.2.2.drop (8 * 18)).take 8) = true := by decide +kernel
theorem ia_h253_19 : ib_ch ia_c253 ia_m253 ((ia_m253.2.2.2.2.2.2.2.2.2.2.drop (8 * 19)).take 8) = true := by decide +kernel
theorem ia_h253_20 : ib_ch ia_c253 ia_m253 ((ia_m253.2.2.2.2.2.2.2.2.2.2.drop (8 * 20)).take 8) = true := by decide +kernel
theorem ia_h253_21 : ib_ch ia_c253 ia_m253 ((ia_m253.2.2.2.2.2.2.2.2.2.2.drop (8 * 21)).take 8) = true := by decide +kernel
theorem ia_h253_22 : ib_ch ia_c253 ia_m253 ((ia_m253.2.2.2.2.2.2.2.2.2.2.drop (8 * 22)).take 8) = true := by decide +kernel
theorem ia_h253_23 : ib_ch ia_c253 ia_m253 ((ia_m253.2.2.2.2.2.2.2.2.2.2.drop (8 * 23)).take 8) = true := by decide +kernel
theorem ia_h253_24 : ib_ch ia_c253 ia_m253 ((ia_m253.2.2.2.2.2.2.2.2.2.2.drop (8 * 24)).take 8) = true := by decide +kernel
theorem ia_h253_25 : ib_ch ia_c253 ia_m253 ((ia_m253.2.2.2.2.2.2.2.2.2.2.drop (8 * 25)).take 8) = true := by decide +kernel
theorem ia_h253_26 : ib_ch ia_c253 ia_m253 ((ia_m253.2.2.2.2.2.2.2.2.2.2.drop (8 * 26)).take 8) = true := by decide +kernel
theorem ia_h253_27 : ib_ch ia_c253 ia_m253 ((ia_m253.2.2.2.2.2.2.2.2.2.2.drop (8 * 27)).take 8) = true := by decide +kernel
theorem ia_h253_28 : ib_ch ia_c253 ia_m253 ((ia_m253.2.2.2.2.2.2.2.2.2.2.drop (8 * 28)).take 8) = true := by decide +kernel
theorem ia_h253_29 : ib_ch ia_c253 ia_m253 ((ia_m253.2.2.2.2.2.2.2.2.2.2.drop (8 * 29)).take 8) = true := by decide +kernel
theorem ia_h253_30 : ib_ch ia_c253 ia_m253 ((ia_m253.2.2.2.2.2.2.2.2.2.2.drop (8 * 30)).take 8) = true := by decide +kernel
theorem ia_h253_31 : ib_ch ia_c253 ia_m253 ((ia_m253.2.2.2.2.2.2.2.2.2.2.drop (8 * 31)).take 8) = true := by decide +kernel
theorem ia_h253_32 : ib_ch ia_c253 ia_m253 ((ia_m253.2.2.2.2.2.2.2.2.2.2.drop (8 * 32)).take 8) = true := by decide +kernel
theorem ia_h253_33 : ib_ch ia_c253 ia_m253 ((ia_m253.2.2.2.2.2.2.2.2.2.2.drop (8 * 33)).take 8) = true := by decide +kernel
theorem ia_h253_34 : ib_ch ia_c253 ia_m253 ((ia_m253.2.2.2.2.2.2.2.2.2.2.drop (8 * 34)).take 8) = true := by decide +kernel
theorem ia_h253_35 : ib_ch ia_c253 ia_m253 ((ia_m253.2.2.2.2.2.2.2.2.2.2.drop (8 * 35)).take 8) = true := by decide +kernel
theorem ia_h253_36 : ib_ch ia_c253 ia_m253 ((ia_m253.2.2.2.2.2.2.2.2.2.2.drop (8 * 36)).take 8) = true := by decide +kernel
theorem ia_h253_37 : ib_ch ia_c253 ia_m253 ((ia_m253.2.2.2.2.2.2.2.2.2.2.drop (8 * 37)).take 8) = true := by decide +kernel
theorem ia_h253_38 : ib_ch ia_c253 ia_m253 ((ia_m253.2.2.2.2.2.2.2.2.2.2.drop (8 * 38)).take 8) = true := by decide +kernel
theorem ia_h253_39 : ib_ch ia_c253 ia_m253 ((ia_m253.2.2.2.2.2.2.2.2.2.2.drop (8 * 39)).take 8) = true := by decide +kernel
theorem ia_h253_40 : ib_ch ia_c253 ia_m253 ((ia_m253.2.2.2.2.2.2.2.2.2.2.drop (8 * 40)).take 8) = true := by decide +kernel
theorem ia_h253_41 : ib_ch ia_c253 ia_m253 ((ia_m253.2.2.2.2.2.2.2.2.2.2.drop (8 * 41)).take 8) = true := by decide +kernel
theorem ia_h253_42 : ib_ch ia_c253 ia_m253 ((ia_m253.2.2.2.2.2.2.2.2.2.2.drop (8 * 42)).take 8) = true := by decide +kernel
theorem ia_h253_43 : ib_ch ia_c253 ia_m253 ((ia_m253.2.2.2.2.2.2.2.2.2.2.drop (8 * 43)).take 8) = true := by decide +kernel
theorem ia_h253_44 : ib_ch ia_c253 ia_m253 ((ia_m253.2.2.2.2.2.2.2.2.2.2.drop (8 * 44)).take 8) = true := by decide +kernel
theorem ia_h253 : ia_Holds ia_m253 := by
  refine ib_hold (cal := ia_c253) ic_n (ic_inc (by decide +kernel)) (by decide +kernel) (by decide +kernel) (ic_ck (k := 8) 45 ia_m253.2.2.2.2.2.2.2.2.2.2 (Nat.le_of_ble_eq_true (by decide +kernel)) (fun j hj => ?_))
  rw [← ib_ch_eq]
  match j, hj with
  | 0, _ => exact ia_h253_0
  | 1, _ => exact ia_h253_1
  | 2, _ => exact ia_h253_2
  | 3, _ => exact ia_h253_3
  | 4, _ => exact ia_h253_4
  | 5, _ => exact ia_h253_5
  | 6, _ => exact ia_h253_6
  | 7, _ => exact ia_h253_7
  | 8, _ => exact ia_h253_8
  | 9, _ => exact ia_h253_9
  | 10, _ => exact ia_h253_10
  | 11, _ => exact ia_h253_11
  | 12, _ => exact ia_h253_12
  | 13, _ => exact ia_h253_13
  | 14, _ => exact ia_h253_14
  | 15, _ => exact ia_h253_15
  | 16, _ => exact ia_h253_16
  | 17, _ => exact ia_h253_17
  | 18, _ => exact ia_h253_18
  | 19, _ => exact ia_h253_19
  | 20, _ => exact ia_h253_20
  | 21, _ => exact ia_h253_21
  | 22, _ => exact ia_h253_22
  | 23, _ => exact ia_h253_23
  | 24, _ => exact ia_h253_24
  | 25, _ => exact ia_h253_25
  | 26, _ => exact ia_h253_26
  | 27, _ => exact ia_h253_27
  | 28, _ => exact ia_h253_28
  | 29, _ => exact ia_h253_29
  | 30, _ => exact ia_h253_30
  | 31, _ => exact ia_h253_31
  | 32, _ => exact ia_h253_32
  | 33, _ => exact ia_h253_33
  | 34, _ => exact ia_h253_34
  | 35, _ => exact ia_h253_35
  | 36, _ => exact ia_h253_36
  | 37, _ => exact ia_h253_37
  | 38, _ => exact ia_h253_38
  | 39, _ => exact ia_h253_39
  | 40, _ => exact ia_h253_40
  | 41, _ => exact ia_h253_41
  | 42, _ => exact ia_h253_42
  | 43, _ => exact ia_h253_43
  | 44, _ => exact ia_h253_44
  | x + 45, h => exact absurd h (by omega)
