theorem mem_by {ws : List Cond} (ps : List Nat) (hp : ws = ps.filterMap (fun i => lw_tbl[i]?)) (h : ws.all goodWord = true) : ∀ w ∈ ws, w ∈ tb0 := by
  intro w hw
  have h1 := List.all_eq_true.mp h w hw
  rw [hp] at hw
  obtain ⟨i, -, hi⟩ := List.mem_filterMap.mp hw
  exact mem0 hi h1
theorem in_X0 : ∀ w ∈ u_ws RX0 TX0 5, w ∈ tb0 := mem_by [253, 255, 257, 259, 261] (by decide +kernel) (by decide +kernel)
theorem in_X1 : ∀ w ∈ u_ws RX1 TX1 9, w ∈ tb0 := mem_by [157, 159, 161, 163, 165, 167, 169, 171, 173] (by decide +kernel) (by decide +kernel)
theorem in_X2 : ∀ w ∈ u_ws RX2 TX2 1, w ∈ tb0 := mem_by [273] (by decide +kernel) (by decide +kernel)
theorem in_X3 : ∀ w ∈ u_ws RX3 TX3 6, w ∈ tb0 := mem_by [293, 295, 297, 299, 301, 303] (by decide +kernel) (by decide +kernel)
theorem in_X4 : ∀ w ∈ u_ws RX4 TX4 4, w ∈ tb0 := mem_by [121, 123, 125, 127] (by decide +kernel) (by decide +kernel)
theorem in_X5 : ∀ w ∈ u_ws RX5 TX5 3, w ∈ tb0 := mem_by [318, 320, 322] (by decide +kernel) (by decide +kernel)
theorem in_X6 : ∀ w ∈ u_ws RX6 TX6 3, w ∈ tb0 := mem_by [102, 104, 106] (by decide +kernel) (by decide +kernel)
theorem in_X7 : ∀ w ∈ u_ws RX7 TX7 17, w ∈ tb0 := mem_by [205, 207, 209, 211, 213, 215, 217, 219, 221, 223, 225, 227, 229, 231, 233, 235, 237] (by decide +kernel) (by decide +kernel)
theorem in_X8 : ∀ w ∈ u_ws RX8 TX8 8, w ∈ tb0 := mem_by [333, 335, 337, 339, 341, 343, 345, 347] (by decide +kernel) (by decide +kernel)
theorem in_X9 : ∀ w ∈ u_ws RX9 TX9 41, w ∈ tb0 := mem_by [849, 851, 853, 855, 857, 859, 861, 863, 865, 867, 869, 871, 873, 875, 877, 879, 881, 883, 885, 887, 889, 891, 893, 895, 897, 899, 901, 903, 905, 907, 909, 911, 913, 915, 917, 919, 921, 923, 925, 927, 929] (by decide +kernel) (by decide +kernel)
theorem cp_X0_3 : CLp TX0 tyX0 5 3 .int := ⟨tyX0_ok, nmX0, rfl, by decide +kernel⟩
theorem cp_X0_4 : CLp TX0 tyX0 5 4 .int := ⟨tyX0_ok, nmX0, rfl, by decide +kernel⟩
theorem cp_X1_1 : CLp TX1 tyX1 9 1 .int := ⟨tyX1_ok, nmX1, rfl, by decide +kernel⟩
theorem cp_X1_2 : CLp TX1 tyX1 9 2 .int := ⟨tyX1_ok, nmX1, rfl, by decide +kernel⟩
theorem cp_X1_3 : CLp TX1 tyX1 9 3 .int := ⟨tyX1_ok, nmX1, rfl, by decide +kernel⟩
theorem cp_X1_4 : CLp TX1 tyX1 9 4 .int := ⟨tyX1_ok, nmX1, rfl, by decide +kernel⟩
theorem cp_X1_5 : CLp TX1 tyX1 9 5 .int := ⟨tyX1_ok, nmX1, rfl, by decide +kernel⟩
theorem cp_X1_6 : CLp TX1 tyX1 9 6 .int := ⟨tyX1_ok, nmX1, rfl, by decide +kernel⟩
theorem cp_X1_7 : CLp TX1 tyX1 9 7 .int := ⟨tyX1_ok, nmX1, rfl, by decide +kernel⟩
theorem cp_X1_8 : CLp TX1 tyX1 9 8 .int := ⟨tyX1_ok, nmX1, rfl, by decide +kernel⟩
theorem cp_X3_1 : CLp TX3 tyX3 6 1 .int := ⟨tyX3_ok, nmX3, rfl, by decide +kernel⟩
theorem cp_X3_2 : CLp TX3 tyX3 6 2 .int := ⟨tyX3_ok, nmX3, rfl, by decide +kernel⟩
theorem cp_X3_3 : CLp TX3 tyX3 6 3 .int := ⟨tyX3_ok, nmX3, rfl, by decide +kernel⟩
theorem cp_X6_2 : CLp TX6 tyX6 3 2 .int := ⟨tyX6_ok, nmX6, rfl, by decide +kernel⟩
theorem cp_X7_2 : CLp TX7 tyX7 17 2 .int := ⟨tyX7_ok, nmX7, rfl, by decide +kernel⟩
theorem cp_X7_3 : CLp TX7 tyX7 17 3 .boolean := ⟨tyX7_ok, nmX7, rfl, by decide +kernel⟩
theorem cp_X7_4 : CLp TX7 tyX7 17 4 .int := ⟨tyX7_ok, nmX7, rfl, by decide +kernel⟩
theorem cp_X7_5 : CLp TX7 tyX7 17 5 .int := ⟨tyX7_ok, nmX7, rfl, by decide +kernel⟩
theorem cp_X7_6 : CLp TX7 tyX7 17 6 .int := ⟨tyX7_ok, nmX7, rfl, by decide +kernel⟩
theorem cp_X7_7 : CLp TX7 tyX7 17 7 .int := ⟨tyX7_ok, nmX7, rfl, by decide +kernel⟩
theorem cp_X7_8 : CLp TX7 tyX7 17 8 .int := ⟨tyX7_ok, nmX7, rfl, by decide +kernel⟩
theorem cp_X7_9 : CLp TX7 tyX7 17 9 .int := ⟨tyX7_ok, nmX7, rfl, by decide +kernel⟩
theorem cp_X7_10 : CLp TX7 tyX7 17 10 .int := ⟨tyX7_ok, nmX7, rfl, by decide +kernel⟩
theorem cp_X7_11 : CLp TX7 tyX7 17 11 .int := ⟨tyX7_ok, nmX7, rfl, by decide +kernel⟩
theorem cp_X7_12 : CLp TX7 tyX7 17 12 .boolean := ⟨tyX7_ok, nmX7, rfl, by decide +kernel⟩
theorem cp_X7_13 : CLp TX7 tyX7 17 13 .int := ⟨tyX7_ok, nmX7, rfl, by decide +kernel⟩
theorem cp_X7_14 : CLp TX7 tyX7 17 14 .int := ⟨tyX7_ok, nmX7, rfl, by decide +kernel⟩
theorem cp_X7_15 : CLp TX7 tyX7 17 15 .int := ⟨tyX7_ok, nmX7, rfl, by decide +kernel⟩
theorem cp_X7_16 : CLp TX7 tyX7 17 16 .int := ⟨tyX7_ok, nmX7, rfl, by decide +kernel⟩
theorem cp_X8_2 : CLp TX8 tyX8 8 2 .boolean := ⟨tyX8_ok, nmX8, rfl, by decide +kernel⟩
theorem cp_X9_1 : CLp TX9 tyX9 41 1 .int := ⟨tyX9_ok, nmX9, rfl, by decide +kernel⟩
theorem cp_X9_3 : CLp TX9 tyX9 41 3 .int := ⟨tyX9_ok, nmX9, rfl, by decide +kernel⟩
theorem cp_X9_5 : CLp TX9 tyX9 41 5 .int := ⟨tyX9_ok, nmX9, rfl, by decide +kernel⟩
theorem cp_X9_8 : CLp TX9 tyX9 41 8 .int := ⟨tyX9_ok, nmX9, rfl, by decide +kernel⟩
theorem cp_X9_9 : CLp TX9 tyX9 41 9 .int := ⟨tyX9_ok, nmX9, rfl, by decide +kernel⟩
theorem cp_X9_10 : CLp TX9 tyX9 41 10 .boolean := ⟨tyX9_ok, nmX9, rfl, by decide +kernel⟩
theorem cp_X9_15 : CLp TX9 tyX9 41 15 .int := ⟨tyX9_ok, nmX9, rfl, by decide +kernel⟩
theorem cp_X9_16 : CLp TX9 tyX9 41 16 .int := ⟨tyX9_ok, nmX9, rfl, by decide +kernel⟩
theorem cp_X9_17 : CLp TX9 tyX9 41 17 .boolean := ⟨tyX9_ok, nmX9, rfl, by decide +kernel⟩
theorem cp_X9_18 : CLp TX9 tyX9 41 18 .int := ⟨tyX9_ok, nmX9, rfl, by decide +kernel⟩
theorem cp_X9_19 : CLp TX9 tyX9 41 19 .int := ⟨tyX9_ok, nmX9, rfl, by decide +kernel⟩
theorem cp_X9_20 : CLp TX9 tyX9 41 20 .int := ⟨tyX9_ok, nmX9, rfl, by decide +kernel⟩
theorem cp_X9_21 : CLp TX9 tyX9 41 21 .int := ⟨tyX9_ok, nmX9, rfl, by decide +kernel⟩
theorem cp_X9_22 : CLp TX9 tyX9 41 22 .int := ⟨tyX9_ok, nmX9, rfl, by decide +kernel⟩
theorem cp_X9_23 : CLp TX9 tyX9 41 23 .int := ⟨tyX9_ok, nmX9, rfl, by decide +kernel⟩
theorem cp_X9_24 : CLp TX9 tyX9 41 24 .int := ⟨tyX9_ok, nmX9, rfl, by decide +kernel⟩
theorem cp_X9_25 : CLp TX9 tyX9 41 25 .int := ⟨tyX9_ok, nmX9, rfl, by decide +kernel⟩
theorem cp_X9_26 : CLp TX9 tyX9 41 26 .int := ⟨tyX9_ok, nmX9, rfl, by decide +kernel⟩
theorem cp_X9_27 : CLp TX9 tyX9 41 27 .int := ⟨tyX9_ok, nmX9, rfl, by decide +kernel⟩
theorem cp_X9_28 : CLp TX9 tyX9 41 28 .int := ⟨tyX9_ok, nmX9, rfl, by decide +kernel⟩
theorem cp_X9_29 : CLp TX9 tyX9 41 29 .int := ⟨tyX9_ok, nmX9, rfl, by decide +kernel⟩
theorem cp_X9_30 : CLp TX9 tyX9 41 30 .int := ⟨tyX9_ok, nmX9, rfl, by decide +kernel⟩
theorem cp_X9_36 : CLp TX9 tyX9 41 36 .boolean := ⟨tyX9_ok, nmX9, rfl, by decide +kernel⟩
theorem cs_X0_init : CS yX0_init cX0_init 1 none 0 := ⟨⟨by decide +kernel, by decide +kernel, by decide +kernel⟩, mem0 (i := 244) (by decide +kernel) rfl, mem0 (i := 51) (by decide +kernel) rfl, by decide⟩
theorem cs_X0_cellFrom : CS yX0_cellFrom cX0_cellFrom 7 (some .int) 2 := ⟨⟨by decide +kernel, by decide +kernel, by decide +kernel⟩, mem0 (i := 611) (by decide +kernel) rfl, mem0 (i := 51) (by decide +kernel) rfl, by decide⟩
theorem cs_X0_isWhole : CS yX0_isWhole cX0_isWhole 7 (some .boolean) 4 := ⟨⟨by decide +kernel, by decide +kernel, by decide +kernel⟩, mem0 (i := 633) (by decide +kernel) rfl, mem0 (i := 51) (by decide +kernel) rfl, by decide⟩
theorem cs_X0_join : CS yX0_join cX0_join 4 (some .int) 3 := ⟨⟨by decide +kernel, by decide +kernel, by decide +kernel⟩, mem0 (i := 615) (by decide +kernel) rfl, mem0 (i := 51) (by decide +kernel) rfl, by decide⟩
theorem cs_X0_middleOf : CS yX0_middleOf cX0_middleOf 5 (some .int) 1 := ⟨⟨by decide +kernel, by decide +kernel, by decide +kernel⟩, mem0 (i := 625) (by decide +kernel) rfl, mem0 (i := 51) (by decide +kernel) rfl, by decide⟩
theorem cs_X0_pullsInto : CS yX0_pullsInto cX0_pullsInto 4 (some .int) 1 := ⟨⟨by decide +kernel, by decide +kernel, by decide +kernel⟩, mem0 (i := 603) (by decide +kernel) rfl, mem0 (i := 51) (by decide +kernel) rfl, by decide⟩
theorem cs_X0_ringsRound : CS yX0_ringsRound cX0_ringsRound 4 (some .int) 2 := ⟨⟨by decide +kernel, by decide +kernel, by decide +kernel⟩, mem0 (i := 629) (by decide +kernel) rfl, mem0 (i := 51) (by decide +kernel) rfl, by decide⟩
theorem cs_X0_seekCells : CS yX0_seekCells cX0_seekCells 4 none 1 := ⟨⟨by decide +kernel, by decide +kernel, by decide +kernel⟩, mem0 (i := 607) (by decide +kernel) rfl, mem0 (i := 51) (by decide +kernel) rfl, by decide⟩
theorem cs_X0_tryAll : CS yX0_tryAll cX0_tryAll 4 none 2 := ⟨⟨by decide +kernel, by decide +kernel, by decide +kernel⟩, mem0 (i := 592) (by decide +kernel) rfl, mem0 (i := 51) (by decide +kernel) rfl, by decide⟩
theorem cs_X0_uOf : CS yX0_uOf cX0_uOf 1 (some .int) 1 := ⟨⟨by decide +kernel, by decide +kernel, by decide +kernel⟩, mem0 (i := 595) (by decide +kernel) rfl, mem0 (i := 51) (by decide +kernel) rfl, by decide⟩
theorem cs_X0_vOf : CS yX0_vOf cX0_vOf 1 (some .int) 1 := ⟨⟨by decide +kernel, by decide +kernel, by decide +kernel⟩, mem0 (i := 598) (by decide +kernel) rfl, mem0 (i := 51) (by decide +kernel) rfl, by decide⟩
theorem cs_X1_init : CS yX1_init cX1_init 2 none 1 := ⟨⟨by decide +kernel, by decide +kernel, by decide +kernel⟩, mem0 (i := 140) (by decide +kernel) rfl, mem0 (i := 50) (by decide +kernel) rfl, by decide⟩
theorem cs_X1_begin : CS yX1_begin cX1_begin 3 none 2 := ⟨⟨by decide +kernel, by decide +kernel, by decide +kernel⟩, mem0 (i := 514) (by decide +kernel) rfl, mem0 (i := 50) (by decide +kernel) rfl, by decide⟩
theorem cs_X1_go : CS yX1_go cX1_go 2 none 1 := ⟨⟨by decide +kernel, by decide +kernel, by decide +kernel⟩, mem0 (i := 533) (by decide +kernel) rfl, mem0 (i := 50) (by decide +kernel) rfl, by decide⟩
theorem cs_X2_init : CS yX2_init cX2_init 1 none 0 := ⟨⟨by decide +kernel, by decide +kernel, by decide +kernel⟩, mem0 (i := 269) (by decide +kernel) rfl, mem0 (i := 52) (by decide +kernel) rfl, by decide⟩
theorem cs_X2_gainBy : CS yX2_gainBy cX2_gainBy 6 (some .int) 4 := ⟨⟨by decide +kernel, by decide +kernel, by decide +kernel⟩, mem0 (i := 679) (by decide +kernel) rfl, mem0 (i := 52) (by decide +kernel) rfl, by decide⟩
theorem cs_X2_mostFrom : CS yX2_mostFrom cX2_mostFrom 6 (some .int) 3 := ⟨⟨by decide +kernel, by decide +kernel, by decide +kernel⟩, mem0 (i := 674) (by decide +kernel) rfl, mem0 (i := 52) (by decide +kernel) rfl, by decide⟩
theorem cs_X2_mostIn : CS yX2_mostIn cX2_mostIn 2 (some .int) 1 := ⟨⟨by decide +kernel, by decide +kernel, by decide +kernel⟩, mem0 (i := 684) (by decide +kernel) rfl, mem0 (i := 52) (by decide +kernel) rfl, by decide⟩
theorem cs_X2_mostTimes : CS yX2_mostTimes cX2_mostTimes 5 (some .int) 3 := ⟨⟨by decide +kernel, by decide +kernel, by decide +kernel⟩, mem0 (i := 692) (by decide +kernel) rfl, mem0 (i := 52) (by decide +kernel) rfl, by decide⟩
theorem cs_X2_timesOf : CS yX2_timesOf cX2_timesOf 7 (some .int) 3 := ⟨⟨by decide +kernel, by decide +kernel, by decide +kernel⟩, mem0 (i := 688) (by decide +kernel) rfl, mem0 (i := 52) (by decide +kernel) rfl, by decide⟩
theorem cs_X2_weigh : CS yX2_weigh cX2_weigh 5 none 2 := ⟨⟨by decide +kernel, by decide +kernel, by decide +kernel⟩, mem0 (i := 670) (by decide +kernel) rfl, mem0 (i := 52) (by decide +kernel) rfl, by decide⟩
theorem cs_X3_init : CS yX3_init cX3_init 1 none 0 := ⟨⟨by decide +kernel, by decide +kernel, by decide +kernel⟩, mem0 (i := 280) (by decide +kernel) rfl, mem0 (i := 53) (by decide +kernel) rfl, by decide⟩
theorem cs_X3_append : CS yX3_append cX3_append 2 none 1 := ⟨⟨by decide +kernel, by decide +kernel, by decide +kernel⟩, mem0 (i := 428) (by decide +kernel) rfl, mem0 (i := 53) (by decide +kernel) rfl, by decide⟩
theorem cs_X3_begin : CS yX3_begin cX3_begin 1 none 0 := ⟨⟨by decide +kernel, by decide +kernel, by decide +kernel⟩, mem0 (i := 440) (by decide +kernel) rfl, mem0 (i := 53) (by decide +kernel) rfl, by decide⟩
theorem cs_X3_digit : CS yX3_digit cX3_digit 2 (some .int) 0 := ⟨⟨by decide +kernel, by decide +kernel, by decide +kernel⟩, mem0 (i := 461) (by decide +kernel) rfl, mem0 (i := 53) (by decide +kernel) rfl, by decide⟩
theorem cs_X3_faultAt : CS yX3_faultAt cX3_faultAt 2 none 1 := ⟨⟨by decide +kernel, by decide +kernel, by decide +kernel⟩, mem0 (i := 466) (by decide +kernel) rfl, mem0 (i := 53) (by decide +kernel) rfl, by decide⟩
theorem cs_X3_finish : CS yX3_finish cX3_finish 2 (some .int) 1 := ⟨⟨by decide +kernel, by decide +kernel, by decide +kernel⟩, mem0 (i := 478) (by decide +kernel) rfl, mem0 (i := 53) (by decide +kernel) rfl, by decide⟩
theorem cs_X3_hasRoom : CS yX3_hasRoom cX3_hasRoom 2 (some .boolean) 1 := ⟨⟨by decide +kernel, by decide +kernel, by decide +kernel⟩, mem0 (i := 424) (by decide +kernel) rfl, mem0 (i := 53) (by decide +kernel) rfl, by decide⟩
theorem cs_X3_next : CS yX3_next cX3_next 1 (some .int) 0 := ⟨⟨by decide +kernel, by decide +kernel, by decide +kernel⟩, mem0 (i := 449) (by decide +kernel) rfl, mem0 (i := 53) (by decide +kernel) rfl, by decide⟩
theorem cs_X3_number : CS yX3_number cX3_number 5 (some .int) 2 := ⟨⟨by decide +kernel, by decide +kernel, by decide +kernel⟩, mem0 (i := 470) (by decide +kernel) rfl, mem0 (i := 53) (by decide +kernel) rfl, by decide⟩
theorem cs_X3_readCup : CS yX3_readCup cX3_readCup 6 none 0 := ⟨⟨by decide +kernel, by decide +kernel, by decide +kernel⟩, mem0 (i := 453) (by decide +kernel) rfl, mem0 (i := 53) (by decide +kernel) rfl, by decide⟩
theorem cs_X3_readCups : CS yX3_readCups cX3_readCups 2 (some .int) 0 := ⟨⟨by decide +kernel, by decide +kernel, by decide +kernel⟩, mem0 (i := 436) (by decide +kernel) rfl, mem0 (i := 53) (by decide +kernel) rfl, by decide⟩
theorem cs_X3_readPart : CS yX3_readPart cX3_readPart 4 none 0 := ⟨⟨by decide +kernel, by decide +kernel, by decide +kernel⟩, mem0 (i := 496) (by decide +kernel) rfl, mem0 (i := 53) (by decide +kernel) rfl, by decide⟩
theorem cs_X3_readParts : CS yX3_readParts cX3_readParts 2 (some .int) 0 := ⟨⟨by decide +kernel, by decide +kernel, by decide +kernel⟩, mem0 (i := 492) (by decide +kernel) rfl, mem0 (i := 53) (by decide +kernel) rfl, by decide⟩
theorem cs_X3_signedDigit : CS yX3_signedDigit cX3_signedDigit 1 (some .int) 0 := ⟨⟨by decide +kernel, by decide +kernel, by decide +kernel⟩, mem0 (i := 457) (by decide +kernel) rfl, mem0 (i := 53) (by decide +kernel) rfl, by decide⟩
theorem cs_X3_takes : CS yX3_takes cX3_takes 2 (some .boolean) 1 := ⟨⟨by decide +kernel, by decide +kernel, by decide +kernel⟩, mem0 (i := 445) (by decide +kernel) rfl, mem0 (i := 53) (by decide +kernel) rfl, by decide⟩
theorem cs_X4_init : CS yX4_init cX4_init 1 none 0 := ⟨⟨by decide +kernel, by decide +kernel, by decide +kernel⟩, mem0 (i := 71) (by decide +kernel) rfl, mem0 (i := 46) (by decide +kernel) rfl, by decide⟩
theorem cs_X4_hasNoPart : CS yX4_hasNoPart cX4_hasNoPart 1 (some .boolean) 0 := ⟨⟨by decide +kernel, by decide +kernel, by decide +kernel⟩, mem0 (i := 579) (by decide +kernel) rfl, mem0 (i := 46) (by decide +kernel) rfl, by decide⟩
theorem cs_X4_pullSteps : CS yX4_pullSteps cX4_pullSteps 3 (some .int) 0 := ⟨⟨by decide +kernel, by decide +kernel, by decide +kernel⟩, mem0 (i := 570) (by decide +kernel) rfl, mem0 (i := 46) (by decide +kernel) rfl, by decide⟩
theorem cs_X4_takeAll : CS yX4_takeAll cX4_takeAll 3 none 1 := ⟨⟨by decide +kernel, by decide +kernel, by decide +kernel⟩, mem0 (i := 753) (by decide +kernel) rfl, mem0 (i := 46) (by decide +kernel) rfl, by decide⟩
theorem cs_X5_init : CS yX5_init cX5_init 2 none 0 := ⟨⟨by decide +kernel, by decide +kernel, by decide +kernel⟩, mem0 (i := 310) (by decide +kernel) rfl, mem0 (i := 54) (by decide +kernel) rfl, by decide⟩
theorem cs_X5_cutTo : CS yX5_cutTo cX5_cutTo 2 (some .int) 2 := ⟨⟨by decide +kernel, by decide +kernel, by decide +kernel⟩, mem0 (i := 769) (by decide +kernel) rfl, mem0 (i := 54) (by decide +kernel) rfl, by decide⟩
theorem cs_X5_fits : CS yX5_fits cX5_fits 4 (some .boolean) 3 := ⟨⟨by decide +kernel, by decide +kernel, by decide +kernel⟩, mem0 (i := 735) (by decide +kernel) rfl, mem0 (i := 54) (by decide +kernel) rfl, by decide⟩
theorem cs_X5_get : CS yX5_get cX5_get 3 (some .int) 2 := ⟨⟨by decide +kernel, by decide +kernel, by decide +kernel⟩, mem0 (i := 745) (by decide +kernel) rfl, mem0 (i := 54) (by decide +kernel) rfl, by decide⟩
theorem cs_X5_isNothing : CS yX5_isNothing cX5_isNothing 2 (some .boolean) 1 := ⟨⟨by decide +kernel, by decide +kernel, by decide +kernel⟩, mem0 (i := 731) (by decide +kernel) rfl, mem0 (i := 54) (by decide +kernel) rfl, by decide⟩
theorem cs_X5_letGo : CS yX5_letGo cX5_letGo 3 (some .int) 1 := ⟨⟨by decide +kernel, by decide +kernel, by decide +kernel⟩, mem0 (i := 789) (by decide +kernel) rfl, mem0 (i := 54) (by decide +kernel) rfl, by decide⟩
theorem cs_X5_makeRow : CS yX5_makeRow cX5_makeRow 4 none 3 := ⟨⟨by decide +kernel, by decide +kernel, by decide +kernel⟩, mem0 (i := 777) (by decide +kernel) rfl, mem0 (i := 54) (by decide +kernel) rfl, by decide⟩
theorem cs_X5_put : CS yX5_put cX5_put 4 none 3 := ⟨⟨by decide +kernel, by decide +kernel, by decide +kernel⟩, mem0 (i := 766) (by decide +kernel) rfl, mem0 (i := 54) (by decide +kernel) rfl, by decide⟩
theorem cs_X5_refusalOf : CS yX5_refusalOf cX5_refusalOf 5 (some .int) 4 := ⟨⟨by decide +kernel, by decide +kernel, by decide +kernel⟩, mem0 (i := 727) (by decide +kernel) rfl, mem0 (i := 54) (by decide +kernel) rfl, by decide⟩
theorem cs_X6_init : CS yX6_init cX6_init 3 none 2 := ⟨⟨by decide +kernel, by decide +kernel, by decide +kernel⟩, mem0 (i := 86) (by decide +kernel) rfl, mem0 (i := 47) (by decide +kernel) rfl, by decide⟩
theorem cs_X6_empty : CS yX6_empty cX6_empty 2 (some .int) 0 := ⟨⟨by decide +kernel, by decide +kernel, by decide +kernel⟩, mem0 (i := 413) (by decide +kernel) rfl, mem0 (i := 47) (by decide +kernel) rfl, by decide⟩
theorem cs_X6_get : CS yX6_get cX6_get 4 (some .int) 2 := ⟨⟨by decide +kernel, by decide +kernel, by decide +kernel⟩, mem0 (i := 394) (by decide +kernel) rfl, mem0 (i := 47) (by decide +kernel) rfl, by decide⟩
theorem cs_X6_grow : CS yX6_grow cX6_grow 1 (some .int) 0 := ⟨⟨by decide +kernel, by decide +kernel, by decide +kernel⟩, mem0 (i := 375) (by decide +kernel) rfl, mem0 (i := 47) (by decide +kernel) rfl, by decide⟩
theorem cs_X6_has : CS yX6_has cX6_has 2 (some .boolean) 1 := ⟨⟨by decide +kernel, by decide +kernel, by decide +kernel⟩, mem0 (i := 384) (by decide +kernel) rfl, mem0 (i := 47) (by decide +kernel) rfl, by decide⟩
theorem cs_X6_isFull : CS yX6_isFull cX6_isFull 1 (some .boolean) 0 := ⟨⟨by decide +kernel, by decide +kernel, by decide +kernel⟩, mem0 (i := 368) (by decide +kernel) rfl, mem0 (i := 47) (by decide +kernel) rfl, by decide⟩
theorem cs_X6_put : CS yX6_put cX6_put 4 none 3 := ⟨⟨by decide +kernel, by decide +kernel, by decide +kernel⟩, mem0 (i := 380) (by decide +kernel) rfl, mem0 (i := 47) (by decide +kernel) rfl, by decide⟩
theorem cs_X6_takeAll : CS yX6_takeAll cX6_takeAll 4 none 1 := ⟨⟨by decide +kernel, by decide +kernel, by decide +kernel⟩, mem0 (i := 482) (by decide +kernel) rfl, mem0 (i := 47) (by decide +kernel) rfl, by decide⟩
theorem cs_X7_init : CS yX7_init cX7_init 2 none 1 := ⟨⟨by decide +kernel, by decide +kernel, by decide +kernel⟩, mem0 (i := 134) (by decide +kernel) rfl, mem0 (i := 49) (by decide +kernel) rfl, by decide⟩
theorem cs_X7_begin : CS yX7_begin cX7_begin 4 none 3 := ⟨⟨by decide +kernel, by decide +kernel, by decide +kernel⟩, mem0 (i := 510) (by decide +kernel) rfl, mem0 (i := 49) (by decide +kernel) rfl, by decide⟩
theorem cs_X7_beginAsTold : CS yX7_beginAsTold cX7_beginAsTold 1 none 0 := ⟨⟨by decide +kernel, by decide +kernel, by decide +kernel⟩, mem0 (i := 505) (by decide +kernel) rfl, mem0 (i := 49) (by decide +kernel) rfl, by decide⟩
theorem cs_X7_comeDownOn : CS yX7_comeDownOn cX7_comeDownOn 6 none 1 := ⟨⟨by decide +kernel, by decide +kernel, by decide +kernel⟩, mem0 (i := 558) (by decide +kernel) rfl, mem0 (i := 49) (by decide +kernel) rfl, by decide⟩
theorem cs_X7_endBy : CS yX7_endBy cX7_endBy 4 (some .int) 3 := ⟨⟨by decide +kernel, by decide +kernel, by decide +kernel⟩, mem0 (i := 583) (by decide +kernel) rfl, mem0 (i := 49) (by decide +kernel) rfl, by decide⟩
theorem cs_X7_endLate : CS yX7_endLate cX7_endLate 5 (some .int) 4 := ⟨⟨by decide +kernel, by decide +kernel, by decide +kernel⟩, mem0 (i := 645) (by decide +kernel) rfl, mem0 (i := 49) (by decide +kernel) rfl, by decide⟩
theorem cs_X7_goOn : CS yX7_goOn cX7_goOn 3 none 1 := ⟨⟨by decide +kernel, by decide +kernel, by decide +kernel⟩, mem0 (i := 518) (by decide +kernel) rfl, mem0 (i := 49) (by decide +kernel) rfl, by decide⟩
theorem cs_X7_goStep : CS yX7_goStep cX7_goStep 3 none 0 := ⟨⟨by decide +kernel, by decide +kernel, by decide +kernel⟩, mem0 (i := 522) (by decide +kernel) rfl, mem0 (i := 49) (by decide +kernel) rfl, by decide⟩
theorem cs_X7_holdByCord : CS yX7_holdByCord cX7_holdByCord 7 none 0 := ⟨⟨by decide +kernel, by decide +kernel, by decide +kernel⟩, mem0 (i := 538) (by decide +kernel) rfl, mem0 (i := 49) (by decide +kernel) rfl, by decide⟩
theorem cs_X7_isSoft : CS yX7_isSoft cX7_isSoft 2 (some .boolean) 1 := ⟨⟨by decide +kernel, by decide +kernel, by decide +kernel⟩, mem0 (i := 716) (by decide +kernel) rfl, mem0 (i := 49) (by decide +kernel) rfl, by decide⟩
theorem cs_X7_lateSide : CS yX7_lateSide cX7_lateSide 1 (some .int) 0 := ⟨⟨by decide +kernel, by decide +kernel, by decide +kernel⟩, mem0 (i := 526) (by decide +kernel) rfl, mem0 (i := 49) (by decide +kernel) rfl, by decide⟩
theorem cs_X7_meetNothing : CS yX7_meetNothing cX7_meetNothing 1 none 0 := ⟨⟨by decide +kernel, by decide +kernel, by decide +kernel⟩, mem0 (i := 712) (by decide +kernel) rfl, mem0 (i := 49) (by decide +kernel) rfl, by decide⟩
theorem cs_X7_metCup : CS yX7_metCup cX7_metCup 8 (some .int) 1 := ⟨⟨by decide +kernel, by decide +kernel, by decide +kernel⟩, mem0 (i := 551) (by decide +kernel) rfl, mem0 (i := 49) (by decide +kernel) rfl, by decide⟩
theorem cs_X7_oddsBy : CS yX7_oddsBy cX7_oddsBy 8 (some .int) 2 := ⟨⟨by decide +kernel, by decide +kernel, by decide +kernel⟩, mem0 (i := 653) (by decide +kernel) rfl, mem0 (i := 49) (by decide +kernel) rfl, by decide⟩
theorem cs_X7_wholeRoot : CS yX7_wholeRoot cX7_wholeRoot 3 (some .int) 1 := ⟨⟨by decide +kernel, by decide +kernel, by decide +kernel⟩, mem0 (i := 545) (by decide +kernel) rfl, mem0 (i := 49) (by decide +kernel) rfl, by decide⟩
theorem cs_X8_init : CS yX8_init cX8_init 2 none 0 := ⟨⟨by decide +kernel, by decide +kernel, by decide +kernel⟩, mem0 (i := 63) (by decide +kernel) rfl, mem0 (i := 45) (by decide +kernel) rfl, by decide⟩
theorem cs_X8_addCup : CS yX8_addCup cX8_addCup 7 (some .int) 6 := ⟨⟨by decide +kernel, by decide +kernel, by decide +kernel⟩, mem0 (i := 371) (by decide +kernel) rfl, mem0 (i := 45) (by decide +kernel) rfl, by decide⟩
theorem cs_X8_addPart : CS yX8_addPart cX8_addPart 5 (some .int) 4 := ⟨⟨by decide +kernel, by decide +kernel, by decide +kernel⟩, mem0 (i := 401) (by decide +kernel) rfl, mem0 (i := 45) (by decide +kernel) rfl, by decide⟩
theorem cs_X8_at : CS yX8_at cX8_at 3 (some .int) 2 := ⟨⟨by decide +kernel, by decide +kernel, by decide +kernel⟩, mem0 (i := 501) (by decide +kernel) rfl, mem0 (i := 45) (by decide +kernel) rfl, by decide⟩
theorem cs_X8_byteOf : CS yX8_byteOf cX8_byteOf 3 (some .int) 2 := ⟨⟨by decide +kernel, by decide +kernel, by decide +kernel⟩, mem0 (i := 420) (by decide +kernel) rfl, mem0 (i := 45) (by decide +kernel) rfl, by decide⟩
theorem cs_X8_cells : CS yX8_cells cX8_cells 3 (some .int) 2 := ⟨⟨by decide +kernel, by decide +kernel, by decide +kernel⟩, mem0 (i := 588) (by decide +kernel) rfl, mem0 (i := 45) (by decide +kernel) rfl, by decide⟩
theorem cs_X8_clear : CS yX8_clear cX8_clear 1 (some .int) 0 := ⟨⟨by decide +kernel, by decide +kernel, by decide +kernel⟩, mem0 (i := 700) (by decide +kernel) rfl, mem0 (i := 45) (by decide +kernel) rfl, by decide⟩
theorem cs_X8_copy : CS yX8_copy cX8_copy 6 (some .int) 5 := ⟨⟨by decide +kernel, by decide +kernel, by decide +kernel⟩, mem0 (i := 797) (by decide +kernel) rfl, mem0 (i := 45) (by decide +kernel) rfl, by decide⟩
theorem cs_X8_cord : CS yX8_cord cX8_cord 7 (some .int) 2 := ⟨⟨by decide +kernel, by decide +kernel, by decide +kernel⟩, mem0 (i := 704) (by decide +kernel) rfl, mem0 (i := 45) (by decide +kernel) rfl, by decide⟩
theorem cs_X8_count : CS yX8_count cX8_count 2 (some .int) 1 := ⟨⟨by decide +kernel, by decide +kernel, by decide +kernel⟩, mem0 (i := 566) (by decide +kernel) rfl, mem0 (i := 45) (by decide +kernel) rfl, by decide⟩
theorem cs_X8_cup : CS yX8_cup cX8_cup 7 (some .int) 5 := ⟨⟨by decide +kernel, by decide +kernel, by decide +kernel⟩, mem0 (i := 364) (by decide +kernel) rfl, mem0 (i := 45) (by decide +kernel) rfl, by decide⟩
theorem cs_X8_down : CS yX8_down cX8_down 4 (some .int) 2 := ⟨⟨by decide +kernel, by decide +kernel, by decide +kernel⟩, mem0 (i := 708) (by decide +kernel) rfl, mem0 (i := 45) (by decide +kernel) rfl, by decide⟩
theorem cs_X8_drop : CS yX8_drop cX8_drop 2 (some .int) 1 := ⟨⟨by decide +kernel, by decide +kernel, by decide +kernel⟩, mem0 (i := 784) (by decide +kernel) rfl, mem0 (i := 45) (by decide +kernel) rfl, by decide⟩
theorem cs_X8_end : CS yX8_end cX8_end 3 (some .int) 1 := ⟨⟨by decide +kernel, by decide +kernel, by decide +kernel⟩, mem0 (i := 562) (by decide +kernel) rfl, mem0 (i := 45) (by decide +kernel) rfl, by decide⟩
theorem cs_X8_ends : CS yX8_ends cX8_ends 4 (some .int) 2 := ⟨⟨by decide +kernel, by decide +kernel, by decide +kernel⟩, mem0 (i := 575) (by decide +kernel) rfl, mem0 (i := 45) (by decide +kernel) rfl, by decide⟩
theorem cs_X8_film : CS yX8_film cX8_film 7 (some .int) 4 := ⟨⟨by decide +kernel, by decide +kernel, by decide +kernel⟩, mem0 (i := 762) (by decide +kernel) rfl, mem0 (i := 45) (by decide +kernel) rfl, by decide⟩
theorem cs_X8_filmed : CS yX8_filmed cX8_filmed 10 (some .int) 5 := ⟨⟨by decide +kernel, by decide +kernel, by decide +kernel⟩, mem0 (i := 720) (by decide +kernel) rfl, mem0 (i := 45) (by decide +kernel) rfl, by decide⟩
theorem cs_X8_image : CS yX8_image cX8_image 1 (some .int) 0 := ⟨⟨by decide +kernel, by decide +kernel, by decide +kernel⟩, mem0 (i := 749) (by decide +kernel) rfl, mem0 (i := 45) (by decide +kernel) rfl, by decide⟩
theorem cs_X8_isIn : CS yX8_isIn cX8_isIn 3 (some .boolean) 3 := ⟨⟨by decide +kernel, by decide +kernel, by decide +kernel⟩, mem0 (i := 356) (by decide +kernel) rfl, mem0 (i := 45) (by decide +kernel) rfl, by decide⟩
theorem cs_X8_isRow : CS yX8_isRow cX8_isRow 2 (some .boolean) 2 := ⟨⟨by decide +kernel, by decide +kernel, by decide +kernel⟩, mem0 (i := 723) (by decide +kernel) rfl, mem0 (i := 45) (by decide +kernel) rfl, by decide⟩
theorem cs_X8_isShown : CS yX8_isShown cX8_isShown 7 (some .boolean) 4 := ⟨⟨by decide +kernel, by decide +kernel, by decide +kernel⟩, mem0 (i := 740) (by decide +kernel) rfl, mem0 (i := 45) (by decide +kernel) rfl, by decide⟩
theorem cs_X8_item : CS yX8_item cX8_item 6 (some .int) 4 := ⟨⟨by decide +kernel, by decide +kernel, by decide +kernel⟩, mem0 (i := 793) (by decide +kernel) rfl, mem0 (i := 45) (by decide +kernel) rfl, by decide⟩
theorem cs_X8_mended : CS yX8_mended cX8_mended 8 (some .int) 2 := ⟨⟨by decide +kernel, by decide +kernel, by decide +kernel⟩, mem0 (i := 641) (by decide +kernel) rfl, mem0 (i := 45) (by decide +kernel) rfl, by decide⟩
theorem cs_X8_middle : CS yX8_middle cX8_middle 4 (some .int) 2 := ⟨⟨by decide +kernel, by decide +kernel, by decide +kernel⟩, mem0 (i := 620) (by decide +kernel) rfl, mem0 (i := 45) (by decide +kernel) rfl, by decide⟩
theorem cs_X8_most : CS yX8_most cX8_most 3 (some .int) 2 := ⟨⟨by decide +kernel, by decide +kernel, by decide +kernel⟩, mem0 (i := 666) (by decide +kernel) rfl, mem0 (i := 45) (by decide +kernel) rfl, by decide⟩
theorem cs_X8_odds : CS yX8_odds cX8_odds 2 (some .int) 1 := ⟨⟨by decide +kernel, by decide +kernel, by decide +kernel⟩, mem0 (i := 649) (by decide +kernel) rfl, mem0 (i := 45) (by decide +kernel) rfl, by decide⟩
theorem cs_X8_part : CS yX8_part cX8_part 5 (some .int) 3 := ⟨⟨by decide +kernel, by decide +kernel, by decide +kernel⟩, mem0 (i := 398) (by decide +kernel) rfl, mem0 (i := 45) (by decide +kernel) rfl, by decide⟩
theorem cs_X8_pull : CS yX8_pull cX8_pull 3 (some .int) 2 := ⟨⟨by decide +kernel, by decide +kernel, by decide +kernel⟩, mem0 (i := 405) (by decide +kernel) rfl, mem0 (i := 45) (by decide +kernel) rfl, by decide⟩
theorem cs_X8_pulls : CS yX8_pulls cX8_pulls 2 (some .int) 0 := ⟨⟨by decide +kernel, by decide +kernel, by decide +kernel⟩, mem0 (i := 488) (by decide +kernel) rfl, mem0 (i := 45) (by decide +kernel) rfl, by decide⟩
theorem cs_X8_restore : CS yX8_restore cX8_restore 1 (some .int) 0 := ⟨⟨by decide +kernel, by decide +kernel, by decide +kernel⟩, mem0 (i := 758) (by decide +kernel) rfl, mem0 (i := 45) (by decide +kernel) rfl, by decide⟩
theorem cs_X8_row : CS yX8_row cX8_row 5 (some .int) 2 := ⟨⟨by decide +kernel, by decide +kernel, by decide +kernel⟩, mem0 (i := 696) (by decide +kernel) rfl, mem0 (i := 45) (by decide +kernel) rfl, by decide⟩
theorem cs_X8_set : CS yX8_set cX8_set 4 (some .int) 2 := ⟨⟨by decide +kernel, by decide +kernel, by decide +kernel⟩, mem0 (i := 353) (by decide +kernel) rfl, mem0 (i := 45) (by decide +kernel) rfl, by decide⟩
theorem cs_X8_sheet : CS yX8_sheet cX8_sheet 4 (some .int) 3 := ⟨⟨by decide +kernel, by decide +kernel, by decide +kernel⟩, mem0 (i := 773) (by decide +kernel) rfl, mem0 (i := 45) (by decide +kernel) rfl, by decide⟩
theorem cs_X8_still : CS yX8_still cX8_still 1 (some .int) 0 := ⟨⟨by decide +kernel, by decide +kernel, by decide +kernel⟩, mem0 (i := 409) (by decide +kernel) rfl, mem0 (i := 45) (by decide +kernel) rfl, by decide⟩
theorem cs_X8_told : CS yX8_told cX8_told 3 (some .int) 2 := ⟨⟨by decide +kernel, by decide +kernel, by decide +kernel⟩, mem0 (i := 388) (by decide +kernel) rfl, mem0 (i := 45) (by decide +kernel) rfl, by decide⟩
theorem cs_X8_toy : CS yX8_toy cX8_toy 2 (some .int) 0 := ⟨⟨by decide +kernel, by decide +kernel, by decide +kernel⟩, mem0 (i := 432) (by decide +kernel) rfl, mem0 (i := 45) (by decide +kernel) rfl, by decide⟩
theorem cs_X8_trick : CS yX8_trick cX8_trick 7 (some .int) 4 := ⟨⟨by decide +kernel, by decide +kernel, by decide +kernel⟩, mem0 (i := 662) (by decide +kernel) rfl, mem0 (i := 45) (by decide +kernel) rfl, by decide⟩
theorem cs_X8_type : CS yX8_type cX8_type 5 (some .int) 2 := ⟨⟨by decide +kernel, by decide +kernel, by decide +kernel⟩, mem0 (i := 417) (by decide +kernel) rfl, mem0 (i := 45) (by decide +kernel) rfl, by decide⟩
theorem cs_X8_which : CS yX8_which cX8_which 5 (some .int) 0 := ⟨⟨by decide +kernel, by decide +kernel, by decide +kernel⟩, mem0 (i := 658) (by decide +kernel) rfl, mem0 (i := 45) (by decide +kernel) rfl, by decide⟩
theorem cs_X9_init : CS yX9_init cX9_init 2 none 0 := ⟨⟨by decide +kernel, by decide +kernel, by decide +kernel⟩, mem0 (i := 806) (by decide +kernel) rfl, mem0 (i := 55) (by decide +kernel) rfl, by decide⟩
theorem cs_X9_at : CS yX9_at cX9_at 3 (some .int) 2 := ⟨⟨by decide +kernel, by decide +kernel, by decide +kernel⟩, mem0 (i := 1037) (by decide +kernel) rfl, mem0 (i := 55) (by decide +kernel) rfl, by decide⟩
theorem cs_X9_cast : CS yX9_cast cX9_cast 2 (some .int) 2 := ⟨⟨by decide +kernel, by decide +kernel, by decide +kernel⟩, mem0 (i := 1175) (by decide +kernel) rfl, mem0 (i := 55) (by decide +kernel) rfl, by decide⟩
theorem cs_X9_cells : CS yX9_cells cX9_cells 9 (some .int) 2 := ⟨⟨by decide +kernel, by decide +kernel, by decide +kernel⟩, mem0 (i := 1077) (by decide +kernel) rfl, mem0 (i := 55) (by decide +kernel) rfl, by decide⟩
theorem cs_X9_clear : CS yX9_clear cX9_clear 2 (some .int) 0 := ⟨⟨by decide +kernel, by decide +kernel, by decide +kernel⟩, mem0 (i := 1130) (by decide +kernel) rfl, mem0 (i := 55) (by decide +kernel) rfl, by decide⟩
theorem cs_X9_copy : CS yX9_copy cX9_copy 7 (some .int) 5 := ⟨⟨by decide +kernel, by decide +kernel, by decide +kernel⟩, mem0 (i := 1191) (by decide +kernel) rfl, mem0 (i := 55) (by decide +kernel) rfl, by decide⟩
theorem cs_X9_cord : CS yX9_cord cX9_cord 8 (some .int) 2 := ⟨⟨by decide +kernel, by decide +kernel, by decide +kernel⟩, mem0 (i := 1134) (by decide +kernel) rfl, mem0 (i := 55) (by decide +kernel) rfl, by decide⟩
theorem cs_X9_count : CS yX9_count cX9_count 4 (some .int) 1 := ⟨⟨by decide +kernel, by decide +kernel, by decide +kernel⟩, mem0 (i := 1033) (by decide +kernel) rfl, mem0 (i := 55) (by decide +kernel) rfl, by decide⟩
theorem cs_X9_cup : CS yX9_cup cX9_cup 6 (some .int) 5 := ⟨⟨by decide +kernel, by decide +kernel, by decide +kernel⟩, mem0 (i := 947) (by decide +kernel) rfl, mem0 (i := 55) (by decide +kernel) rfl, by decide⟩
theorem cs_X9_cupClause : CS yX9_cupClause cX9_cupClause 2 none 1 := ⟨⟨by decide +kernel, by decide +kernel, by decide +kernel⟩, mem0 (i := 999) (by decide +kernel) rfl, mem0 (i := 55) (by decide +kernel) rfl, by decide⟩
theorem cs_X9_cupIs : CS yX9_cupIs cX9_cupIs 7 none 6 := ⟨⟨by decide +kernel, by decide +kernel, by decide +kernel⟩, mem0 (i := 954) (by decide +kernel) rfl, mem0 (i := 55) (by decide +kernel) rfl, by decide⟩
theorem cs_X9_digit : CS yX9_digit cX9_digit 2 (some .int) 0 := ⟨⟨by decide +kernel, by decide +kernel, by decide +kernel⟩, mem0 (i := 1015) (by decide +kernel) rfl, mem0 (i := 55) (by decide +kernel) rfl, by decide⟩
theorem cs_X9_down : CS yX9_down cX9_down 5 (some .int) 2 := ⟨⟨by decide +kernel, by decide +kernel, by decide +kernel⟩, mem0 (i := 1138) (by decide +kernel) rfl, mem0 (i := 55) (by decide +kernel) rfl, by decide⟩
theorem cs_X9_drop : CS yX9_drop cX9_drop 2 (some .int) 1 := ⟨⟨by decide +kernel, by decide +kernel, by decide +kernel⟩, mem0 (i := 1183) (by decide +kernel) rfl, mem0 (i := 55) (by decide +kernel) rfl, by decide⟩
theorem cs_X9_end : CS yX9_end cX9_end 2 (some .int) 1 := ⟨⟨by decide +kernel, by decide +kernel, by decide +kernel⟩, mem0 (i := 1063) (by decide +kernel) rfl, mem0 (i := 55) (by decide +kernel) rfl, by decide⟩
theorem cs_X9_endBy : CS yX9_endBy cX9_endBy 5 (some .int) 2 := ⟨⟨by decide +kernel, by decide +kernel, by decide +kernel⟩, mem0 (i := 1073) (by decide +kernel) rfl, mem0 (i := 55) (by decide +kernel) rfl, by decide⟩
theorem cs_X9_ends : CS yX9_ends cX9_ends 3 (some .int) 2 := ⟨⟨by decide +kernel, by decide +kernel, by decide +kernel⟩, mem0 (i := 1068) (by decide +kernel) rfl, mem0 (i := 55) (by decide +kernel) rfl, by decide⟩
theorem cs_X9_film : CS yX9_film cX9_film 7 (some .int) 4 := ⟨⟨by decide +kernel, by decide +kernel, by decide +kernel⟩, mem0 (i := 1172) (by decide +kernel) rfl, mem0 (i := 55) (by decide +kernel) rfl, by decide⟩
theorem cs_X9_filmed : CS yX9_filmed cX9_filmed 12 (some .int) 5 := ⟨⟨by decide +kernel, by decide +kernel, by decide +kernel⟩, mem0 (i := 1142) (by decide +kernel) rfl, mem0 (i := 55) (by decide +kernel) rfl, by decide⟩
theorem cs_X9_finds : CS yX9_finds cX9_finds 5 (some .int) 4 := ⟨⟨by decide +kernel, by decide +kernel, by decide +kernel⟩, mem0 (i := 1153) (by decide +kernel) rfl, mem0 (i := 55) (by decide +kernel) rfl, by decide⟩
theorem cs_X9_gives : CS yX9_gives cX9_gives 4 (some .int) 3 := ⟨⟨by decide +kernel, by decide +kernel, by decide +kernel⟩, mem0 (i := 1168) (by decide +kernel) rfl, mem0 (i := 55) (by decide +kernel) rfl, by decide⟩
theorem cs_X9_grid : CS yX9_grid cX9_grid 2 none 0 := ⟨⟨by decide +kernel, by decide +kernel, by decide +kernel⟩, mem0 (i := 1081) (by decide +kernel) rfl, mem0 (i := 55) (by decide +kernel) rfl, by decide⟩
theorem cs_X9_groups : CS yX9_groups cX9_groups 5 none 1 := ⟨⟨by decide +kernel, by decide +kernel, by decide +kernel⟩, mem0 (i := 1085) (by decide +kernel) rfl, mem0 (i := 55) (by decide +kernel) rfl, by decide⟩
theorem cs_X9_has : CS yX9_has cX9_has 3 (some .boolean) 1 := ⟨⟨by decide +kernel, by decide +kernel, by decide +kernel⟩, mem0 (i := 1007) (by decide +kernel) rfl, mem0 (i := 55) (by decide +kernel) rfl, by decide⟩
theorem cs_X9_here : CS yX9_here cX9_here 1 (some .int) 0 := ⟨⟨by decide +kernel, by decide +kernel, by decide +kernel⟩, mem0 (i := 1011) (by decide +kernel) rfl, mem0 (i := 55) (by decide +kernel) rfl, by decide⟩
theorem cs_X9_image : CS yX9_image cX9_image 2 (some .int) 0 := ⟨⟨by decide +kernel, by decide +kernel, by decide +kernel⟩, mem0 (i := 1158) (by decide +kernel) rfl, mem0 (i := 55) (by decide +kernel) rfl, by decide⟩
theorem cs_X9_in : CS yX9_in cX9_in 6 (some .boolean) 3 := ⟨⟨by decide +kernel, by decide +kernel, by decide +kernel⟩, mem0 (i := 939) (by decide +kernel) rfl, mem0 (i := 55) (by decide +kernel) rfl, by decide⟩
theorem cs_X9_isCup : CS yX9_isCup cX9_isCup 2 (some .boolean) 1 := ⟨⟨by decide +kernel, by decide +kernel, by decide +kernel⟩, mem0 (i := 962) (by decide +kernel) rfl, mem0 (i := 55) (by decide +kernel) rfl, by decide⟩
theorem cs_X9_isLane : CS yX9_isLane cX9_isLane 1 (some .boolean) 1 := ⟨⟨by decide +kernel, by decide +kernel, by decide +kernel⟩, mem0 (i := 1148) (by decide +kernel) rfl, mem0 (i := 55) (by decide +kernel) rfl, by decide⟩
theorem cs_X9_isRing : CS yX9_isRing cX9_isRing 8 (some .boolean) 4 := ⟨⟨by decide +kernel, by decide +kernel, by decide +kernel⟩, mem0 (i := 1094) (by decide +kernel) rfl, mem0 (i := 55) (by decide +kernel) rfl, by decide⟩
theorem cs_X9_isSheet : CS yX9_isSheet cX9_isSheet 1 (some .boolean) 1 := ⟨⟨by decide +kernel, by decide +kernel, by decide +kernel⟩, mem0 (i := 1145) (by decide +kernel) rfl, mem0 (i := 55) (by decide +kernel) rfl, by decide⟩
theorem cs_X9_item : CS yX9_item cX9_item 6 (some .int) 4 := ⟨⟨by decide +kernel, by decide +kernel, by decide +kernel⟩, mem0 (i := 1187) (by decide +kernel) rfl, mem0 (i := 55) (by decide +kernel) rfl, by decide⟩
theorem cs_X9_lays : CS yX9_lays cX9_lays 4 none 0 := ⟨⟨by decide +kernel, by decide +kernel, by decide +kernel⟩, mem0 (i := 1045) (by decide +kernel) rfl, mem0 (i := 55) (by decide +kernel) rfl, by decide⟩
theorem cs_X9_meets : CS yX9_meets cX9_meets 9 (some .boolean) 3 := ⟨⟨by decide +kernel, by decide +kernel, by decide +kernel⟩, mem0 (i := 1056) (by decide +kernel) rfl, mem0 (i := 55) (by decide +kernel) rfl, by decide⟩
theorem cs_X9_mended : CS yX9_mended cX9_mended 5 (some .int) 2 := ⟨⟨by decide +kernel, by decide +kernel, by decide +kernel⟩, mem0 (i := 1099) (by decide +kernel) rfl, mem0 (i := 55) (by decide +kernel) rfl, by decide⟩
theorem cs_X9_middle : CS yX9_middle cX9_middle 7 (some .int) 2 := ⟨⟨by decide +kernel, by decide +kernel, by decide +kernel⟩, mem0 (i := 1089) (by decide +kernel) rfl, mem0 (i := 55) (by decide +kernel) rfl, by decide⟩
theorem cs_X9_most : CS yX9_most cX9_most 9 (some .int) 2 := ⟨⟨by decide +kernel, by decide +kernel, by decide +kernel⟩, mem0 (i := 1120) (by decide +kernel) rfl, mem0 (i := 55) (by decide +kernel) rfl, by decide⟩
theorem cs_X9_number : CS yX9_number cX9_number 5 (some .int) 2 := ⟨⟨by decide +kernel, by decide +kernel, by decide +kernel⟩, mem0 (i := 1021) (by decide +kernel) rfl, mem0 (i := 55) (by decide +kernel) rfl, by decide⟩
theorem cs_X9_odds : CS yX9_odds cX9_odds 2 (some .int) 1 := ⟨⟨by decide +kernel, by decide +kernel, by decide +kernel⟩, mem0 (i := 1103) (by decide +kernel) rfl, mem0 (i := 55) (by decide +kernel) rfl, by decide⟩
theorem cs_X9_oddsOf : CS yX9_oddsOf cX9_oddsOf 5 (some .int) 1 := ⟨⟨by decide +kernel, by decide +kernel, by decide +kernel⟩, mem0 (i := 1107) (by decide +kernel) rfl, mem0 (i := 55) (by decide +kernel) rfl, by decide⟩
theorem cs_X9_part : CS yX9_part cX9_part 4 (some .int) 3 := ⟨⟨by decide +kernel, by decide +kernel, by decide +kernel⟩, mem0 (i := 967) (by decide +kernel) rfl, mem0 (i := 55) (by decide +kernel) rfl, by decide⟩
theorem cs_X9_partClause : CS yX9_partClause cX9_partClause 2 none 1 := ⟨⟨by decide +kernel, by decide +kernel, by decide +kernel⟩, mem0 (i := 1025) (by decide +kernel) rfl, mem0 (i := 55) (by decide +kernel) rfl, by decide⟩
theorem cs_X9_partIs : CS yX9_partIs cX9_partIs 5 none 4 := ⟨⟨by decide +kernel, by decide +kernel, by decide +kernel⟩, mem0 (i := 971) (by decide +kernel) rfl, mem0 (i := 55) (by decide +kernel) rfl, by decide⟩
theorem cs_X9_pull : CS yX9_pull cX9_pull 3 (some .int) 2 := ⟨⟨by decide +kernel, by decide +kernel, by decide +kernel⟩, mem0 (i := 975) (by decide +kernel) rfl, mem0 (i := 55) (by decide +kernel) rfl, by decide⟩
theorem cs_X9_pulls : CS yX9_pulls cX9_pulls 3 (some .int) 0 := ⟨⟨by decide +kernel, by decide +kernel, by decide +kernel⟩, mem0 (i := 1029) (by decide +kernel) rfl, mem0 (i := 55) (by decide +kernel) rfl, by decide⟩
theorem cs_X9_readAll : CS yX9_readAll cX9_readAll 4 (some .int) 1 := ⟨⟨by decide +kernel, by decide +kernel, by decide +kernel⟩, mem0 (i := 995) (by decide +kernel) rfl, mem0 (i := 55) (by decide +kernel) rfl, by decide⟩
theorem cs_X9_restore : CS yX9_restore cX9_restore 2 (some .int) 0 := ⟨⟨by decide +kernel, by decide +kernel, by decide +kernel⟩, mem0 (i := 1165) (by decide +kernel) rfl, mem0 (i := 55) (by decide +kernel) rfl, by decide⟩
theorem cs_X9_root : CS yX9_root cX9_root 2 (some .int) 1 := ⟨⟨by decide +kernel, by decide +kernel, by decide +kernel⟩, mem0 (i := 1052) (by decide +kernel) rfl, mem0 (i := 55) (by decide +kernel) rfl, by decide⟩
theorem cs_X9_row : CS yX9_row cX9_row 5 (some .int) 2 := ⟨⟨by decide +kernel, by decide +kernel, by decide +kernel⟩, mem0 (i := 1126) (by decide +kernel) rfl, mem0 (i := 55) (by decide +kernel) rfl, by decide⟩
theorem cs_X9_saves : CS yX9_saves cX9_saves 4 (some .int) 3 := ⟨⟨by decide +kernel, by decide +kernel, by decide +kernel⟩, mem0 (i := 1161) (by decide +kernel) rfl, mem0 (i := 55) (by decide +kernel) rfl, by decide⟩
theorem cs_X9_set : CS yX9_set cX9_set 4 (some .int) 2 := ⟨⟨by decide +kernel, by decide +kernel, by decide +kernel⟩, mem0 (i := 935) (by decide +kernel) rfl, mem0 (i := 55) (by decide +kernel) rfl, by decide⟩
theorem cs_X9_sheet : CS yX9_sheet cX9_sheet 5 (some .int) 3 := ⟨⟨by decide +kernel, by decide +kernel, by decide +kernel⟩, mem0 (i := 1179) (by decide +kernel) rfl, mem0 (i := 55) (by decide +kernel) rfl, by decide⟩
theorem cs_X9_signed : CS yX9_signed cX9_signed 3 (some .int) 0 := ⟨⟨by decide +kernel, by decide +kernel, by decide +kernel⟩, mem0 (i := 1003) (by decide +kernel) rfl, mem0 (i := 55) (by decide +kernel) rfl, by decide⟩
theorem cs_X9_size : CS yX9_size cX9_size 1 (some .int) 1 := ⟨⟨by decide +kernel, by decide +kernel, by decide +kernel⟩, mem0 (i := 1059) (by decide +kernel) rfl, mem0 (i := 55) (by decide +kernel) rfl, by decide⟩
theorem cs_X9_still : CS yX9_still cX9_still 2 (some .int) 0 := ⟨⟨by decide +kernel, by decide +kernel, by decide +kernel⟩, mem0 (i := 979) (by decide +kernel) rfl, mem0 (i := 55) (by decide +kernel) rfl, by decide⟩
theorem cs_X9_swings : CS yX9_swings cX9_swings 7 none 1 := ⟨⟨by decide +kernel, by decide +kernel, by decide +kernel⟩, mem0 (i := 1049) (by decide +kernel) rfl, mem0 (i := 55) (by decide +kernel) rfl, by decide⟩
theorem cs_X9_told : CS yX9_told cX9_told 3 (some .int) 2 := ⟨⟨by decide +kernel, by decide +kernel, by decide +kernel⟩, mem0 (i := 958) (by decide +kernel) rfl, mem0 (i := 55) (by decide +kernel) rfl, by decide⟩
theorem cs_X9_toy : CS yX9_toy cX9_toy 3 (some .int) 0 := ⟨⟨by decide +kernel, by decide +kernel, by decide +kernel⟩, mem0 (i := 991) (by decide +kernel) rfl, mem0 (i := 55) (by decide +kernel) rfl, by decide⟩
theorem cs_X9_trick : CS yX9_trick cX9_trick 5 (some .int) 4 := ⟨⟨by decide +kernel, by decide +kernel, by decide +kernel⟩, mem0 (i := 1115) (by decide +kernel) rfl, mem0 (i := 55) (by decide +kernel) rfl, by decide⟩
theorem cs_X9_tries : CS yX9_tries cX9_tries 5 none 0 := ⟨⟨by decide +kernel, by decide +kernel, by decide +kernel⟩, mem0 (i := 1041) (by decide +kernel) rfl, mem0 (i := 55) (by decide +kernel) rfl, by decide⟩
theorem cs_X9_type : CS yX9_type cX9_type 5 (some .int) 2 := ⟨⟨by decide +kernel, by decide +kernel, by decide +kernel⟩, mem0 (i := 983) (by decide +kernel) rfl, mem0 (i := 55) (by decide +kernel) rfl, by decide⟩
theorem cs_X9_which : CS yX9_which cX9_which 5 (some .int) 0 := ⟨⟨by decide +kernel, by decide +kernel, by decide +kernel⟩, mem0 (i := 1111) (by decide +kernel) rfl, mem0 (i := 55) (by decide +kernel) rfl, by decide⟩
theorem cs_J6_compare_7cf53 : CS yJ6_compare_7cf53 cJ6_compare_7cf53 2 (some .int) 2 := ⟨⟨by decide +kernel, by decide +kernel, by decide +kernel⟩, mem0 (i := 529) (by decide +kernel) rfl, mem0 (i := 56) (by decide +kernel) rfl, by decide⟩
theorem cs_J9_abs_0f7a4 : CS yJ9_abs_0f7a4 cJ9_abs_0f7a4 1 (some .int) 1 := ⟨⟨by decide +kernel, by decide +kernel, by decide +kernel⟩, mem0 (i := 554) (by decide +kernel) rfl, mem0 (i := 48) (by decide +kernel) rfl, by decide⟩
theorem cs_J9_floorMod_7cf53 : CS yJ9_floorMod_7cf53 cJ9_floorMod_7cf53 3 (some .int) 2 := ⟨⟨by decide +kernel, by decide +kernel, by decide +kernel⟩, mem0 (i := 541) (by decide +kernel) rfl, mem0 (i := 48) (by decide +kernel) rfl, by decide⟩
theorem cs_J9_max_7cf53 : CS yJ9_max_7cf53 cJ9_max_7cf53 2 (some .int) 2 := ⟨⟨by decide +kernel, by decide +kernel, by decide +kernel⟩, mem0 (i := 90) (by decide +kernel) rfl, mem0 (i := 48) (by decide +kernel) rfl, by decide⟩
theorem cs_J9_min_7cf53 : CS yJ9_min_7cf53 cJ9_min_7cf53 2 (some .int) 2 := ⟨⟨by decide +kernel, by decide +kernel, by decide +kernel⟩, mem0 (i := 473) (by decide +kernel) rfl, mem0 (i := 48) (by decide +kernel) rfl, by decide⟩
theorem cs_J7_fill_53178 : CS yJ7_fill_53178 cJ7_fill_53178 4 none 2 := ⟨⟨by decide +kernel, by decide +kernel, by decide +kernel⟩, mem0 (i := 780) (by decide +kernel) rfl, mem0 (i := 57) (by decide +kernel) rfl, by decide⟩
theorem cl_X0_13 : CLk RX0 RX0 TX0 5 0 1 13 false := ⟨rfl, in_X0, by decide, rfl, fun _ => mem0 (i := 247) (by decide +kernel) rfl, (by intro h; cases h)⟩
theorem cl_X0_17 : CLk RX0 RX0 TX0 5 0 2 17 false := ⟨rfl, in_X0, by decide, rfl, fun _ => mem0 (i := 248) (by decide +kernel) rfl, (by intro h; cases h)⟩
theorem cl_X0_33 : CLk RX0 RX0 TX0 5 0 3 33 false := ⟨rfl, in_X0, by decide, rfl, fun _ => mem0 (i := 249) (by decide +kernel) rfl, (by intro h; cases h)⟩
theorem cl_X0_37 : CLk RX0 RX0 TX0 5 0 4 37 false := ⟨rfl, in_X0, by decide, rfl, fun _ => mem0 (i := 251) (by decide +kernel) rfl, (by intro h; cases h)⟩
theorem cl_X0_9 : CLk RX0 RX0 TX0 5 0 0 9 false := ⟨rfl, in_X0, by decide, rfl, fun _ => mem0 (i := 246) (by decide +kernel) rfl, (by intro h; cases h)⟩
theorem cl_X1_15 : CLk RX1 RX1 TX1 9 1 1 15 false := ⟨rfl, in_X1, by decide, rfl, fun _ => mem0 (i := 143) (by decide +kernel) rfl, (by intro h; cases h)⟩
theorem cl_X1_19 : CLk RX1 RX1 TX1 9 1 2 19 false := ⟨rfl, in_X1, by decide, rfl, fun _ => mem0 (i := 144) (by decide +kernel) rfl, (by intro h; cases h)⟩
theorem cl_X1_22 : CLk RX1 RX1 TX1 9 1 3 22 false := ⟨rfl, in_X1, by decide, rfl, fun _ => mem0 (i := 145) (by decide +kernel) rfl, (by intro h; cases h)⟩
theorem cl_X1_25 : CLk RX1 RX1 TX1 9 1 4 25 false := ⟨rfl, in_X1, by decide, rfl, fun _ => mem0 (i := 146) (by decide +kernel) rfl, (by intro h; cases h)⟩
theorem cl_X1_28 : CLk RX1 RX1 TX1 9 1 5 28 false := ⟨rfl, in_X1, by decide, rfl, fun _ => mem0 (i := 147) (by decide +kernel) rfl, (by intro h; cases h)⟩
theorem cl_X1_31 : CLk RX1 RX1 TX1 9 1 6 31 false := ⟨rfl, in_X1, by decide, rfl, fun _ => mem0 (i := 149) (by decide +kernel) rfl, (by intro h; cases h)⟩
theorem cl_X1_34 : CLk RX1 RX1 TX1 9 1 7 34 false := ⟨rfl, in_X1, by decide, rfl, fun _ => mem0 (i := 151) (by decide +kernel) rfl, (by intro h; cases h)⟩
theorem cl_X1_37 : CLk RX1 RX1 TX1 9 1 8 37 false := ⟨rfl, in_X1, by decide, rfl, fun _ => mem0 (i := 154) (by decide +kernel) rfl, (by intro h; cases h)⟩
theorem cl_X1_9 : CLk RX1 RX1 TX1 9 1 0 9 false := ⟨rfl, in_X1, by decide, rfl, fun _ => mem0 (i := 142) (by decide +kernel) rfl, (by intro h; cases h)⟩
theorem cl_X2_11 : CLk RX2 RX2 TX2 1 2 0 11 false := ⟨rfl, in_X2, by decide, rfl, fun _ => mem0 (i := 272) (by decide +kernel) rfl, (by intro h; cases h)⟩
theorem cl_X3_20 : CLk RX3 RX3 TX3 6 3 4 20 false := ⟨rfl, in_X3, by decide, rfl, fun _ => mem0 (i := 289) (by decide +kernel) rfl, (by intro h; cases h)⟩
theorem cl_X3_24 : CLk RX3 RX3 TX3 6 3 5 24 false := ⟨rfl, in_X3, by decide, rfl, fun _ => mem0 (i := 291) (by decide +kernel) rfl, (by intro h; cases h)⟩
theorem cl_X3_27 : CLk RX3 RX3 TX3 6 3 1 27 false := ⟨rfl, in_X3, by decide, rfl, fun _ => mem0 (i := 285) (by decide +kernel) rfl, (by intro h; cases h)⟩
theorem cl_X3_53 : CLk RX3 RX3 TX3 6 3 2 53 false := ⟨rfl, in_X3, by decide, rfl, fun _ => mem0 (i := 287) (by decide +kernel) rfl, (by intro h; cases h)⟩
theorem cl_X3_56 : CLk RX3 RX3 TX3 6 3 3 56 false := ⟨rfl, in_X3, by decide, rfl, fun _ => mem0 (i := 288) (by decide +kernel) rfl, (by intro h; cases h)⟩
theorem cl_X3_9 : CLk RX3 RX3 TX3 6 3 0 9 false := ⟨rfl, in_X3, by decide, rfl, fun _ => mem0 (i := 284) (by decide +kernel) rfl, (by intro h; cases h)⟩
theorem cl_X4_18 : CLk RX4 RX4 TX4 4 4 0 18 false := ⟨rfl, in_X4, by decide, rfl, fun _ => mem0 (i := 110) (by decide +kernel) rfl, (by intro h; cases h)⟩
theorem cl_X4_28 : CLk RX4 RX4 TX4 4 4 1 28 false := ⟨rfl, in_X4, by decide, rfl, fun _ => mem0 (i := 113) (by decide +kernel) rfl, (by intro h; cases h)⟩
theorem cl_X4_32 : CLk RX4 RX4 TX4 4 4 2 32 false := ⟨rfl, in_X4, by decide, rfl, fun _ => mem0 (i := 117) (by decide +kernel) rfl, (by intro h; cases h)⟩
theorem cl_X4_35 : CLk RX4 RX4 TX4 4 4 3 35 false := ⟨rfl, in_X4, by decide, rfl, fun _ => mem0 (i := 119) (by decide +kernel) rfl, (by intro h; cases h)⟩
theorem cl_X5_15 : CLk RX5 RX5 TX5 3 5 1 15 false := ⟨rfl, in_X5, by decide, rfl, fun _ => mem0 (i := 315) (by decide +kernel) rfl, (by intro h; cases h)⟩
theorem cl_X5_20 : CLk RX5 RX5 TX5 3 5 2 20 false := ⟨rfl, in_X5, by decide, rfl, fun _ => mem0 (i := 316) (by decide +kernel) rfl, (by intro h; cases h)⟩
theorem cl_X5_9 : CLk RX5 RX5 TX5 3 5 0 9 false := ⟨rfl, in_X5, by decide, rfl, fun _ => mem0 (i := 313) (by decide +kernel) rfl, (by intro h; cases h)⟩
theorem cl_X6_17 : CLk RX6 RX6 TX6 3 6 0 17 false := ⟨rfl, in_X6, by decide, rfl, fun _ => mem0 (i := 93) (by decide +kernel) rfl, (by intro h; cases h)⟩
theorem cl_X6_22 : CLk RX6 RX6 TX6 3 6 1 22 false := ⟨rfl, in_X6, by decide, rfl, fun _ => mem0 (i := 94) (by decide +kernel) rfl, (by intro h; cases h)⟩
theorem cl_X6_26 : CLk RX6 RX6 TX6 3 6 2 26 false := ⟨rfl, in_X6, by decide, rfl, fun _ => mem0 (i := 95) (by decide +kernel) rfl, (by intro h; cases h)⟩
theorem cl_X7_26 : CLk RX7 RX7 TX7 17 7 1 26 false := ⟨rfl, in_X7, by decide, rfl, fun _ => mem0 (i := 177) (by decide +kernel) rfl, (by intro h; cases h)⟩
theorem cl_X7_34 : CLk RX7 RX7 TX7 17 7 2 34 false := ⟨rfl, in_X7, by decide, rfl, fun _ => mem0 (i := 179) (by decide +kernel) rfl, (by intro h; cases h)⟩
theorem cl_X7_38 : CLk RX7 RX7 TX7 17 7 3 38 false := ⟨rfl, in_X7, by decide, rfl, fun _ => mem0 (i := 180) (by decide +kernel) rfl, (by intro h; cases h)⟩
theorem cl_X7_42 : CLk RX7 RX7 TX7 17 7 4 42 false := ⟨rfl, in_X7, by decide, rfl, fun _ => mem0 (i := 181) (by decide +kernel) rfl, (by intro h; cases h)⟩
theorem cl_X7_45 : CLk RX7 RX7 TX7 17 7 5 45 false := ⟨rfl, in_X7, by decide, rfl, fun _ => mem0 (i := 182) (by decide +kernel) rfl, (by intro h; cases h)⟩
theorem cl_X7_48 : CLk RX7 RX7 TX7 17 7 6 48 false := ⟨rfl, in_X7, by decide, rfl, fun _ => mem0 (i := 183) (by decide +kernel) rfl, (by intro h; cases h)⟩
theorem cl_X7_51 : CLk RX7 RX7 TX7 17 7 7 51 false := ⟨rfl, in_X7, by decide, rfl, fun _ => mem0 (i := 185) (by decide +kernel) rfl, (by intro h; cases h)⟩
theorem cl_X7_54 : CLk RX7 RX7 TX7 17 7 8 54 false := ⟨rfl, in_X7, by decide, rfl, fun _ => mem0 (i := 187) (by decide +kernel) rfl, (by intro h; cases h)⟩
theorem cl_X7_57 : CLk RX7 RX7 TX7 17 7 9 57 false := ⟨rfl, in_X7, by decide, rfl, fun _ => mem0 (i := 189) (by decide +kernel) rfl, (by intro h; cases h)⟩
theorem cl_X7_60 : CLk RX7 RX7 TX7 17 7 10 60 false := ⟨rfl, in_X7, by decide, rfl, fun _ => mem0 (i := 191) (by decide +kernel) rfl, (by intro h; cases h)⟩
theorem cl_X7_63 : CLk RX7 RX7 TX7 17 7 11 63 false := ⟨rfl, in_X7, by decide, rfl, fun _ => mem0 (i := 193) (by decide +kernel) rfl, (by intro h; cases h)⟩
theorem cl_X7_66 : CLk RX7 RX7 TX7 17 7 12 66 false := ⟨rfl, in_X7, by decide, rfl, fun _ => mem0 (i := 195) (by decide +kernel) rfl, (by intro h; cases h)⟩
theorem cl_X7_69 : CLk RX7 RX7 TX7 17 7 13 69 false := ⟨rfl, in_X7, by decide, rfl, fun _ => mem0 (i := 197) (by decide +kernel) rfl, (by intro h; cases h)⟩
theorem cl_X7_72 : CLk RX7 RX7 TX7 17 7 14 72 false := ⟨rfl, in_X7, by decide, rfl, fun _ => mem0 (i := 199) (by decide +kernel) rfl, (by intro h; cases h)⟩
theorem cl_X7_75 : CLk RX7 RX7 TX7 17 7 15 75 false := ⟨rfl, in_X7, by decide, rfl, fun _ => mem0 (i := 201) (by decide +kernel) rfl, (by intro h; cases h)⟩
theorem cl_X7_78 : CLk RX7 RX7 TX7 17 7 16 78 false := ⟨rfl, in_X7, by decide, rfl, fun _ => mem0 (i := 203) (by decide +kernel) rfl, (by intro h; cases h)⟩
theorem cl_X7_9 : CLk RX7 RX7 TX7 17 7 0 9 false := ⟨rfl, in_X7, by decide, rfl, fun _ => mem0 (i := 176) (by decide +kernel) rfl, (by intro h; cases h)⟩
theorem cl_X8_10 : CLk RX8 RX8 TX8 8 8 0 10 false := ⟨rfl, in_X8, by decide, rfl, fun _ => mem0 (i := 325) (by decide +kernel) rfl, (by intro h; cases h)⟩
theorem cl_X8_16 : CLk RX8 RX8 TX8 8 8 1 16 false := ⟨rfl, in_X8, by decide, rfl, fun _ => mem0 (i := 326) (by decide +kernel) rfl, (by intro h; cases h)⟩
theorem cl_X8_19 : CLk RX8 RX8 TX8 8 8 2 19 false := ⟨rfl, in_X8, by decide, rfl, fun _ => mem0 (i := 327) (by decide +kernel) rfl, (by intro h; cases h)⟩
theorem cl_X8_28 : CLk RX8 RX8 TX8 8 8 3 28 false := ⟨rfl, in_X8, by decide, rfl, fun _ => mem0 (i := 328) (by decide +kernel) rfl, (by intro h; cases h)⟩
theorem cl_X8_35 : CLk RX8 RX8 TX8 8 8 4 35 false := ⟨rfl, in_X8, by decide, rfl, fun _ => mem0 (i := 329) (by decide +kernel) rfl, (by intro h; cases h)⟩
theorem cl_X8_42 : CLk RX8 RX8 TX8 8 8 5 42 false := ⟨rfl, in_X8, by decide, rfl, fun _ => mem0 (i := 330) (by decide +kernel) rfl, (by intro h; cases h)⟩
theorem cl_X8_49 : CLk RX8 RX8 TX8 8 8 6 49 false := ⟨rfl, in_X8, by decide, rfl, fun _ => mem0 (i := 331) (by decide +kernel) rfl, (by intro h; cases h)⟩
theorem cl_X8_56 : CLk RX8 RX8 TX8 8 8 7 56 false := ⟨rfl, in_X8, by decide, rfl, fun _ => mem0 (i := 332) (by decide +kernel) rfl, (by intro h; cases h)⟩
theorem cl_X9_100 : CLk RX9 RX9 TX9 41 9 3 100 false := ⟨rfl, in_X9, by decide, rfl, fun _ => mem0 (i := 811) (by decide +kernel) rfl, (by intro h; cases h)⟩
theorem cl_X9_115 : CLk RX9 RX9 TX9 41 9 8 115 false := ⟨rfl, in_X9, by decide, rfl, fun _ => mem0 (i := 816) (by decide +kernel) rfl, (by intro h; cases h)⟩
theorem cl_X9_118 : CLk RX9 RX9 TX9 41 9 9 118 false := ⟨rfl, in_X9, by decide, rfl, fun _ => mem0 (i := 817) (by decide +kernel) rfl, (by intro h; cases h)⟩
theorem cl_X9_121 : CLk RX9 RX9 TX9 41 9 10 121 false := ⟨rfl, in_X9, by decide, rfl, fun _ => mem0 (i := 818) (by decide +kernel) rfl, (by intro h; cases h)⟩
theorem cl_X9_13 : CLk RX9 RX9 TX9 41 9 2 13 false := ⟨rfl, in_X9, by decide, rfl, fun _ => mem0 (i := 810) (by decide +kernel) rfl, (by intro h; cases h)⟩
theorem cl_X9_157 : CLk RX9 RX9 TX9 41 9 5 157 false := ⟨rfl, in_X9, by decide, rfl, fun _ => mem0 (i := 813) (by decide +kernel) rfl, (by intro h; cases h)⟩
theorem cl_X9_16 : CLk RX9 RX9 TX9 41 9 4 16 false := ⟨rfl, in_X9, by decide, rfl, fun _ => mem0 (i := 812) (by decide +kernel) rfl, (by intro h; cases h)⟩
theorem cl_X9_160 : CLk RX9 RX9 TX9 41 9 22 160 false := ⟨rfl, in_X9, by decide, rfl, fun _ => mem0 (i := 830) (by decide +kernel) rfl, (by intro h; cases h)⟩
theorem cl_X9_163 : CLk RX9 RX9 TX9 41 9 28 163 false := ⟨rfl, in_X9, by decide, rfl, fun _ => mem0 (i := 836) (by decide +kernel) rfl, (by intro h; cases h)⟩
theorem cl_X9_166 : CLk RX9 RX9 TX9 41 9 23 166 false := ⟨rfl, in_X9, by decide, rfl, fun _ => mem0 (i := 831) (by decide +kernel) rfl, (by intro h; cases h)⟩
theorem cl_X9_169 : CLk RX9 RX9 TX9 41 9 29 169 false := ⟨rfl, in_X9, by decide, rfl, fun _ => mem0 (i := 837) (by decide +kernel) rfl, (by intro h; cases h)⟩
theorem cl_X9_172 : CLk RX9 RX9 TX9 41 9 30 172 false := ⟨rfl, in_X9, by decide, rfl, fun _ => mem0 (i := 838) (by decide +kernel) rfl, (by intro h; cases h)⟩
theorem cl_X9_179 : CLk RX9 RX9 TX9 41 9 24 179 false := ⟨rfl, in_X9, by decide, rfl, fun _ => mem0 (i := 832) (by decide +kernel) rfl, (by intro h; cases h)⟩
theorem cl_X9_182 : CLk RX9 RX9 TX9 41 9 25 182 false := ⟨rfl, in_X9, by decide, rfl, fun _ => mem0 (i := 833) (by decide +kernel) rfl, (by intro h; cases h)⟩
theorem cl_X9_185 : CLk RX9 RX9 TX9 41 9 26 185 false := ⟨rfl, in_X9, by decide, rfl, fun _ => mem0 (i := 834) (by decide +kernel) rfl, (by intro h; cases h)⟩
theorem cl_X9_188 : CLk RX9 RX9 TX9 41 9 27 188 false := ⟨rfl, in_X9, by decide, rfl, fun _ => mem0 (i := 835) (by decide +kernel) rfl, (by intro h; cases h)⟩
theorem cl_X9_19 : CLk RX9 RX9 TX9 41 9 6 19 false := ⟨rfl, in_X9, by decide, rfl, fun _ => mem0 (i := 814) (by decide +kernel) rfl, (by intro h; cases h)⟩
theorem cl_X9_191 : CLk RX9 RX9 TX9 41 9 21 191 false := ⟨rfl, in_X9, by decide, rfl, fun _ => mem0 (i := 829) (by decide +kernel) rfl, (by intro h; cases h)⟩
theorem cl_X9_194 : CLk RX9 RX9 TX9 41 9 17 194 false := ⟨rfl, in_X9, by decide, rfl, fun _ => mem0 (i := 825) (by decide +kernel) rfl, (by intro h; cases h)⟩
theorem cl_X9_200 : CLk RX9 RX9 TX9 41 9 18 200 false := ⟨rfl, in_X9, by decide, rfl, fun _ => mem0 (i := 826) (by decide +kernel) rfl, (by intro h; cases h)⟩
theorem cl_X9_203 : CLk RX9 RX9 TX9 41 9 19 203 false := ⟨rfl, in_X9, by decide, rfl, fun _ => mem0 (i := 827) (by decide +kernel) rfl, (by intro h; cases h)⟩
theorem cl_X9_206 : CLk RX9 RX9 TX9 41 9 20 206 false := ⟨rfl, in_X9, by decide, rfl, fun _ => mem0 (i := 828) (by decide +kernel) rfl, (by intro h; cases h)⟩
theorem cl_X9_212 : CLk RX9 RX9 TX9 41 9 16 212 false := ⟨rfl, in_X9, by decide, rfl, fun _ => mem0 (i := 824) (by decide +kernel) rfl, (by intro h; cases h)⟩
theorem cl_X9_22 : CLk RX9 RX9 TX9 41 9 7 22 false := ⟨rfl, in_X9, by decide, rfl, fun _ => mem0 (i := 815) (by decide +kernel) rfl, (by intro h; cases h)⟩
theorem cl_X9_25 : CLk RX9 RX9 TX9 41 9 11 25 false := ⟨rfl, in_X9, by decide, rfl, fun _ => mem0 (i := 819) (by decide +kernel) rfl, (by intro h; cases h)⟩
theorem cl_X9_270 : CLk RX9 RX9 TX9 41 9 36 270 false := ⟨rfl, in_X9, by decide, rfl, fun _ => mem0 (i := 844) (by decide +kernel) rfl, (by intro h; cases h)⟩
theorem cl_X9_28 : CLk RX9 RX9 TX9 41 9 12 28 false := ⟨rfl, in_X9, by decide, rfl, fun _ => mem0 (i := 820) (by decide +kernel) rfl, (by intro h; cases h)⟩
theorem cl_X9_31 : CLk RX9 RX9 TX9 41 9 13 31 false := ⟨rfl, in_X9, by decide, rfl, fun _ => mem0 (i := 821) (by decide +kernel) rfl, (by intro h; cases h)⟩
theorem cl_X9_34 : CLk RX9 RX9 TX9 41 9 14 34 false := ⟨rfl, in_X9, by decide, rfl, fun _ => mem0 (i := 822) (by decide +kernel) rfl, (by intro h; cases h)⟩
theorem cl_X9_37 : CLk RX9 RX9 TX9 41 9 15 37 false := ⟨rfl, in_X9, by decide, rfl, fun _ => mem0 (i := 823) (by decide +kernel) rfl, (by intro h; cases h)⟩
theorem cl_X9_41 : CLk RX9 RX9 TX9 41 9 31 41 false := ⟨rfl, in_X9, by decide, rfl, fun _ => mem0 (i := 839) (by decide +kernel) rfl, (by intro h; cases h)⟩
theorem cl_X9_44 : CLk RX9 RX9 TX9 41 9 32 44 false := ⟨rfl, in_X9, by decide, rfl, fun _ => mem0 (i := 840) (by decide +kernel) rfl, (by intro h; cases h)⟩
theorem cl_X9_47 : CLk RX9 RX9 TX9 41 9 33 47 false := ⟨rfl, in_X9, by decide, rfl, fun _ => mem0 (i := 841) (by decide +kernel) rfl, (by intro h; cases h)⟩
theorem cl_X9_50 : CLk RX9 RX9 TX9 41 9 34 50 false := ⟨rfl, in_X9, by decide, rfl, fun _ => mem0 (i := 842) (by decide +kernel) rfl, (by intro h; cases h)⟩
theorem cl_X9_53 : CLk RX9 RX9 TX9 41 9 35 53 false := ⟨rfl, in_X9, by decide, rfl, fun _ => mem0 (i := 843) (by decide +kernel) rfl, (by intro h; cases h)⟩
theorem cl_X9_56 : CLk RX9 RX9 TX9 41 9 37 56 false := ⟨rfl, in_X9, by decide, rfl, fun _ => mem0 (i := 845) (by decide +kernel) rfl, (by intro h; cases h)⟩
theorem cl_X9_59 : CLk RX9 RX9 TX9 41 9 38 59 false := ⟨rfl, in_X9, by decide, rfl, fun _ => mem0 (i := 846) (by decide +kernel) rfl, (by intro h; cases h)⟩
theorem cl_X9_62 : CLk RX9 RX9 TX9 41 9 39 62 false := ⟨rfl, in_X9, by decide, rfl, fun _ => mem0 (i := 847) (by decide +kernel) rfl, (by intro h; cases h)⟩
theorem cl_X9_65 : CLk RX9 RX9 TX9 41 9 40 65 false := ⟨rfl, in_X9, by decide, rfl, fun _ => mem0 (i := 848) (by decide +kernel) rfl, (by intro h; cases h)⟩
theorem cl_X9_68 : CLk RX9 RX9 TX9 41 9 1 68 false := ⟨rfl, in_X9, by decide, rfl, fun _ => mem0 (i := 809) (by decide +kernel) rfl, (by intro h; cases h)⟩
theorem cl_X9_7 : CLk RX9 RX9 TX9 41 9 0 7 false := ⟨rfl, in_X9, by decide, rfl, fun _ => mem0 (i := 808) (by decide +kernel) rfl, (by intro h; cases h)⟩
theorem cl_X1_40 : CLk RX1 RX6 TX6 3 6 2 40 true := ⟨rfl, in_X6, by decide, rfl, (by intro h; cases h), fun _ => ⟨"BallInCup", memN (i := 98) (by decide +kernel) rfl⟩⟩
theorem cl_X2_16 : CLk RX2 RX6 TX6 3 6 2 16 true := ⟨rfl, in_X6, by decide, rfl, (by intro h; cases h), fun _ => ⟨"BallInCup", memN (i := 97) (by decide +kernel) rfl⟩⟩
theorem cl_X3_45 : CLk RX3 RX6 TX6 3 6 2 45 true := ⟨rfl, in_X6, by decide, rfl, (by intro h; cases h), fun _ => ⟨"BallInCup", memN (i := 99) (by decide +kernel) rfl⟩⟩
theorem cl_X4_38 : CLk RX4 RX6 TX6 3 6 2 38 true := ⟨rfl, in_X6, by decide, rfl, (by intro h; cases h), fun _ => ⟨"BallInCup", memN (i := 96) (by decide +kernel) rfl⟩⟩
theorem cl_X7_111 : CLk RX7 RX1 TX1 9 1 5 111 true := ⟨rfl, in_X1, by decide, rfl, (by intro h; cases h), fun _ => ⟨"BallInCup", memN (i := 148) (by decide +kernel) rfl⟩⟩
theorem cl_X7_114 : CLk RX7 RX1 TX1 9 1 6 114 true := ⟨rfl, in_X1, by decide, rfl, (by intro h; cases h), fun _ => ⟨"BallInCup", memN (i := 150) (by decide +kernel) rfl⟩⟩
theorem cl_X7_117 : CLk RX7 RX1 TX1 9 1 8 117 true := ⟨rfl, in_X1, by decide, rfl, (by intro h; cases h), fun _ => ⟨"BallInCup", memN (i := 155) (by decide +kernel) rfl⟩⟩
theorem cl_X7_134 : CLk RX7 RX1 TX1 9 1 7 134 true := ⟨rfl, in_X1, by decide, rfl, (by intro h; cases h), fun _ => ⟨"BallInCup", memN (i := 152) (by decide +kernel) rfl⟩⟩
theorem cl_X7_135 : CLk RX7 RX4 TX4 4 4 1 135 true := ⟨rfl, in_X4, by decide, rfl, (by intro h; cases h), fun _ => ⟨"BallInCup", memN (i := 115) (by decide +kernel) rfl⟩⟩
theorem cl_X7_153 : CLk RX7 RX6 TX6 3 6 2 153 true := ⟨rfl, in_X6, by decide, rfl, (by intro h; cases h), fun _ => ⟨"BallInCup", memN (i := 101) (by decide +kernel) rfl⟩⟩
theorem cl_X7_17 : CLk RX7 RX4 TX4 4 4 2 17 true := ⟨rfl, in_X4, by decide, rfl, (by intro h; cases h), fun _ => ⟨"BallInCup", memN (i := 116) (by decide +kernel) rfl⟩⟩
theorem cl_X7_81 : CLk RX7 RX4 TX4 4 4 0 81 true := ⟨rfl, in_X4, by decide, rfl, (by intro h; cases h), fun _ => ⟨"BallInCup", memN (i := 112) (by decide +kernel) rfl⟩⟩
theorem cl_X8_119 : CLk RX8 RX3 TX3 6 3 1 119 true := ⟨rfl, in_X3, by decide, rfl, (by intro h; cases h), fun _ => ⟨"BallInCup", memN (i := 286) (by decide +kernel) rfl⟩⟩
theorem cl_X8_126 : CLk RX8 RX3 TX3 6 3 4 126 true := ⟨rfl, in_X3, by decide, rfl, (by intro h; cases h), fun _ => ⟨"BallInCup", memN (i := 290) (by decide +kernel) rfl⟩⟩
theorem cl_X8_134 : CLk RX8 RX3 TX3 6 3 5 134 true := ⟨rfl, in_X3, by decide, rfl, (by intro h; cases h), fun _ => ⟨"BallInCup", memN (i := 292) (by decide +kernel) rfl⟩⟩
theorem cl_X8_141 : CLk RX8 RX7 TX7 17 7 6 141 true := ⟨rfl, in_X7, by decide, rfl, (by intro h; cases h), fun _ => ⟨"BallInCup", memN (i := 184) (by decide +kernel) rfl⟩⟩
theorem cl_X8_144 : CLk RX8 RX7 TX7 17 7 7 144 true := ⟨rfl, in_X7, by decide, rfl, (by intro h; cases h), fun _ => ⟨"BallInCup", memN (i := 186) (by decide +kernel) rfl⟩⟩
theorem cl_X8_147 : CLk RX8 RX7 TX7 17 7 8 147 true := ⟨rfl, in_X7, by decide, rfl, (by intro h; cases h), fun _ => ⟨"BallInCup", memN (i := 188) (by decide +kernel) rfl⟩⟩
theorem cl_X8_150 : CLk RX8 RX7 TX7 17 7 9 150 true := ⟨rfl, in_X7, by decide, rfl, (by intro h; cases h), fun _ => ⟨"BallInCup", memN (i := 190) (by decide +kernel) rfl⟩⟩
theorem cl_X8_153 : CLk RX8 RX7 TX7 17 7 10 153 true := ⟨rfl, in_X7, by decide, rfl, (by intro h; cases h), fun _ => ⟨"BallInCup", memN (i := 192) (by decide +kernel) rfl⟩⟩
theorem cl_X8_156 : CLk RX8 RX7 TX7 17 7 11 156 true := ⟨rfl, in_X7, by decide, rfl, (by intro h; cases h), fun _ => ⟨"BallInCup", memN (i := 194) (by decide +kernel) rfl⟩⟩
theorem cl_X8_159 : CLk RX8 RX7 TX7 17 7 1 159 true := ⟨rfl, in_X7, by decide, rfl, (by intro h; cases h), fun _ => ⟨"BallInCup", memN (i := 178) (by decide +kernel) rfl⟩⟩
theorem cl_X8_163 : CLk RX8 RX1 TX1 9 1 7 163 true := ⟨rfl, in_X1, by decide, rfl, (by intro h; cases h), fun _ => ⟨"BallInCup", memN (i := 153) (by decide +kernel) rfl⟩⟩
theorem cl_X8_166 : CLk RX8 RX1 TX1 9 1 8 166 true := ⟨rfl, in_X1, by decide, rfl, (by intro h; cases h), fun _ => ⟨"BallInCup", memN (i := 156) (by decide +kernel) rfl⟩⟩
theorem cl_X8_167 : CLk RX8 RX7 TX7 17 7 12 167 true := ⟨rfl, in_X7, by decide, rfl, (by intro h; cases h), fun _ => ⟨"BallInCup", memN (i := 196) (by decide +kernel) rfl⟩⟩
theorem cl_X8_170 : CLk RX8 RX7 TX7 17 7 14 170 true := ⟨rfl, in_X7, by decide, rfl, (by intro h; cases h), fun _ => ⟨"BallInCup", memN (i := 200) (by decide +kernel) rfl⟩⟩
theorem cl_X8_173 : CLk RX8 RX7 TX7 17 7 13 173 true := ⟨rfl, in_X7, by decide, rfl, (by intro h; cases h), fun _ => ⟨"BallInCup", memN (i := 198) (by decide +kernel) rfl⟩⟩
theorem cl_X8_176 : CLk RX8 RX7 TX7 17 7 15 176 true := ⟨rfl, in_X7, by decide, rfl, (by intro h; cases h), fun _ => ⟨"BallInCup", memN (i := 202) (by decide +kernel) rfl⟩⟩
theorem cl_X8_179 : CLk RX8 RX7 TX7 17 7 16 179 true := ⟨rfl, in_X7, by decide, rfl, (by intro h; cases h), fun _ => ⟨"BallInCup", memN (i := 204) (by decide +kernel) rfl⟩⟩
theorem cl_X8_182 : CLk RX8 RX6 TX6 3 6 2 182 true := ⟨rfl, in_X6, by decide, rfl, (by intro h; cases h), fun _ => ⟨"BallInCup", memN (i := 100) (by decide +kernel) rfl⟩⟩
theorem cl_X8_186 : CLk RX8 RX4 TX4 4 4 3 186 true := ⟨rfl, in_X4, by decide, rfl, (by intro h; cases h), fun _ => ⟨"BallInCup", memN (i := 120) (by decide +kernel) rfl⟩⟩
theorem cl_X8_207 : CLk RX8 RX0 TX0 5 0 3 207 true := ⟨rfl, in_X0, by decide, rfl, (by intro h; cases h), fun _ => ⟨"BallInCup", memN (i := 250) (by decide +kernel) rfl⟩⟩
theorem cl_X8_210 : CLk RX8 RX0 TX0 5 0 4 210 true := ⟨rfl, in_X0, by decide, rfl, (by intro h; cases h), fun _ => ⟨"BallInCup", memN (i := 252) (by decide +kernel) rfl⟩⟩
theorem cl_X8_282 : CLk RX8 RX5 TX5 3 5 0 282 true := ⟨rfl, in_X5, by decide, rfl, (by intro h; cases h), fun _ => ⟨"BallInCup", memN (i := 314) (by decide +kernel) rfl⟩⟩
theorem cl_X8_288 : CLk RX8 RX5 TX5 3 5 2 288 true := ⟨rfl, in_X5, by decide, rfl, (by intro h; cases h), fun _ => ⟨"BallInCup", memN (i := 317) (by decide +kernel) rfl⟩⟩
theorem cl_X8_71 : CLk RX8 RX4 TX4 4 4 0 71 true := ⟨rfl, in_X4, by decide, rfl, (by intro h; cases h), fun _ => ⟨"BallInCup", memN (i := 111) (by decide +kernel) rfl⟩⟩
theorem cl_X8_74 : CLk RX8 RX4 TX4 4 4 1 74 true := ⟨rfl, in_X4, by decide, rfl, (by intro h; cases h), fun _ => ⟨"BallInCup", memN (i := 114) (by decide +kernel) rfl⟩⟩
theorem cl_X8_97 : CLk RX8 RX4 TX4 4 4 2 97 true := ⟨rfl, in_X4, by decide, rfl, (by intro h; cases h), fun _ => ⟨"BallInCup", memN (i := 118) (by decide +kernel) rfl⟩⟩
theorem kc_X7_152 : Cond.constant RX7 152 (40000) ∈ tb0 := mem0 (i := 547) (by decide +kernel) rfl
theorem kc_X8_213 : Cond.constant RX8 213 (-100002) ∈ tb0 := mem0 (i := 621) (by decide +kernel) rfl
theorem kc_X8_217 : Cond.constant RX8 217 (-100004) ∈ tb0 := mem0 (i := 634) (by decide +kernel) rfl
theorem kc_X8_265 : Cond.constant RX8 265 (100000) ∈ tb0 := mem0 (i := 736) (by decide +kernel) rfl
theorem kc_X8_92 : Cond.constant RX8 92 (-100001) ∈ tb0 := mem0 (i := 390) (by decide +kernel) rfl
theorem kc_X9_238 : Cond.constant RX9 238 (-100002) ∈ tb0 := mem0 (i := 1090) (by decide +kernel) rfl
theorem kc_X9_243 : Cond.constant RX9 243 (-100004) ∈ tb0 := mem0 (i := 1095) (by decide +kernel) rfl
theorem kc_X9_265 : Cond.constant RX9 265 (100000) ∈ tb0 := mem0 (i := 1154) (by decide +kernel) rfl
theorem kc_X9_99 : Cond.constant RX9 99 (-100001) ∈ tb0 := mem0 (i := 963) (by decide +kernel) rfl
theorem kc_L_41 : Cond.constantLong RL 41 (4294967295) ∈ tb0 := mem0 (i := 1192) (by decide +kernel) rfl
theorem kc_X9_107 : Cond.constantLong RX9 107 (8) ∈ tb0 := mem0 (i := 984) (by decide +kernel) rfl
theorem kc_X9_109 : Cond.constantLong RX9 109 (255) ∈ tb0 := mem0 (i := 985) (by decide +kernel) rfl
theorem kc_X9_111 : Cond.constantLong RX9 111 (32) ∈ tb0 := mem0 (i := 986) (by decide +kernel) rfl
theorem kc_X9_113 : Cond.constantLong RX9 113 (126) ∈ tb0 := mem0 (i := 987) (by decide +kernel) rfl
theorem kc_X9_129 : Cond.constantLong RX9 129 (48) ∈ tb0 := mem0 (i := 1016) (by decide +kernel) rfl
theorem kc_X9_131 : Cond.constantLong RX9 131 (57) ∈ tb0 := mem0 (i := 1017) (by decide +kernel) rfl
theorem kc_X9_225 : Cond.constantLong RX9 225 (3) ∈ tb0 := mem0 (i := 1064) (by decide +kernel) rfl
theorem kc_X9_230 : Cond.constantLong RX9 230 (-4) ∈ tb0 := mem0 (i := 1069) (by decide +kernel) rfl
theorem kc_X9_247 : Cond.constantLong RX9 247 (16) ∈ tb0 := mem0 (i := 1116) (by decide +kernel) rfl
theorem kc_X9_249 : Cond.constantLong RX9 249 (180) ∈ tb0 := mem0 (i := 1121) (by decide +kernel) rfl
theorem kc_X9_251 : Cond.constantLong RX9 251 (-1) ∈ tb0 := mem0 (i := 1122) (by decide +kernel) rfl
theorem kc_X9_259 : Cond.constantLong RX9 259 (12) ∈ tb0 := mem0 (i := 1149) (by decide +kernel) rfl
theorem kc_X9_75 : Cond.constantLong RX9 75 (2) ∈ tb0 := mem0 (i := 936) (by decide +kernel) rfl
theorem kc_X9_77 : Cond.constantLong RX9 77 (10) ∈ tb0 := mem0 (i := 940) (by decide +kernel) rfl
theorem kc_X9_79 : Cond.constantLong RX9 79 (60) ∈ tb0 := mem0 (i := 941) (by decide +kernel) rfl
theorem kc_X9_81 : Cond.constantLong RX9 81 (4) ∈ tb0 := mem0 (i := 942) (by decide +kernel) rfl
theorem kc_X9_83 : Cond.constantLong RX9 83 (20) ∈ tb0 := mem0 (i := 943) (by decide +kernel) rfl
theorem kc_X9_85 : Cond.constantLong RX9 85 (-9) ∈ tb0 := mem0 (i := 948) (by decide +kernel) rfl
theorem kc_X9_87 : Cond.constantLong RX9 87 (9) ∈ tb0 := mem0 (i := 949) (by decide +kernel) rfl
theorem kc_X9_89 : Cond.constantLong RX9 89 (99) ∈ tb0 := mem0 (i := 950) (by decide +kernel) rfl
theorem ct_X0_20 : CSS RX0 20 yX0_uOf false := ⟨mem0 (i := 594) (by decide +kernel) rfl, fun _ => mem0 (i := 593) (by decide +kernel) rfl, (by intro h; cases h)⟩
theorem ct_X0_24 : CSS RX0 24 yX0_vOf false := ⟨mem0 (i := 597) (by decide +kernel) rfl, fun _ => mem0 (i := 596) (by decide +kernel) rfl, (by intro h; cases h)⟩
theorem cv_X0_27 : CSV RX0 27 yX7_endBy := ⟨mem0 (i := 599) (by decide +kernel) rfl, mem0 (i := 581) (by decide +kernel) rfl, mem0 (i := 582) (by decide +kernel) rfl⟩
theorem cv_X0_40 : CSV RX0 40 yX0_cellFrom := ⟨mem0 (i := 608) (by decide +kernel) rfl, mem0 (i := 610) (by decide +kernel) rfl, mem0 (i := 16) (by decide +kernel) rfl⟩
theorem mt_X0_44 : MTH RX0 44 Lib.Math.max.name Lib.Math.max.code 2 := ⟨mem0 (i := 616) (by decide +kernel) rfl, mem0 (i := 89) (by decide +kernel) rfl, mem0 (i := 48) (by decide +kernel) rfl, mem0 (i := 90) (by decide +kernel) rfl⟩
theorem cv_X0_49 : CSV RX0 49 yX0_join := ⟨mem0 (i := 612) (by decide +kernel) rfl, mem0 (i := 614) (by decide +kernel) rfl, mem0 (i := 17) (by decide +kernel) rfl⟩
theorem cv_X0_52 : CSV RX0 52 yX0_ringsRound := ⟨mem0 (i := 626) (by decide +kernel) rfl, mem0 (i := 627) (by decide +kernel) rfl, mem0 (i := 628) (by decide +kernel) rfl⟩
theorem cv_X0_55 : CSV RX0 55 yX0_isWhole := ⟨mem0 (i := 630) (by decide +kernel) rfl, mem0 (i := 632) (by decide +kernel) rfl, mem0 (i := 18) (by decide +kernel) rfl⟩
theorem cv_X1_45 : CSV RX1 45 yX6_get := ⟨mem0 (i := 534) (by decide +kernel) rfl, mem0 (i := 392) (by decide +kernel) rfl, mem0 (i := 393) (by decide +kernel) rfl⟩
theorem cv_X2_22 : CSV RX2 22 yX2_mostFrom := ⟨mem0 (i := 671) (by decide +kernel) rfl, mem0 (i := 673) (by decide +kernel) rfl, mem0 (i := 19) (by decide +kernel) rfl⟩
theorem cv_X2_26 : CSV RX2 26 yX2_mostTimes := ⟨mem0 (i := 689) (by decide +kernel) rfl, mem0 (i := 691) (by decide +kernel) rfl, mem0 (i := 21) (by decide +kernel) rfl⟩
theorem cv_X2_29 : CSV RX2 29 yX6_get := ⟨mem0 (i := 675) (by decide +kernel) rfl, mem0 (i := 392) (by decide +kernel) rfl, mem0 (i := 393) (by decide +kernel) rfl⟩
theorem cv_X2_33 : CSV RX2 33 yX2_gainBy := ⟨mem0 (i := 676) (by decide +kernel) rfl, mem0 (i := 678) (by decide +kernel) rfl, mem0 (i := 20) (by decide +kernel) rfl⟩
theorem mt_X2_37 : MTH RX2 37 Lib.Math.max.name Lib.Math.max.code 2 := ⟨mem0 (i := 680) (by decide +kernel) rfl, mem0 (i := 89) (by decide +kernel) rfl, mem0 (i := 48) (by decide +kernel) rfl, mem0 (i := 90) (by decide +kernel) rfl⟩
theorem cv_X3_31 : CSV RX3 31 yX3_begin := ⟨mem0 (i := 437) (by decide +kernel) rfl, mem0 (i := 439) (by decide +kernel) rfl, mem0 (i := 0) (by decide +kernel) rfl⟩
theorem cv_X3_34 : CSV RX3 34 yX6_empty := ⟨mem0 (i := 441) (by decide +kernel) rfl, mem0 (i := 411) (by decide +kernel) rfl, mem0 (i := 412) (by decide +kernel) rfl⟩
theorem cv_X3_38 : CSV RX3 38 yX3_takes := ⟨mem0 (i := 442) (by decide +kernel) rfl, mem0 (i := 444) (by decide +kernel) rfl, mem0 (i := 1) (by decide +kernel) rfl⟩
theorem cv_X3_42 : CSV RX3 42 yX3_readCup := ⟨mem0 (i := 450) (by decide +kernel) rfl, mem0 (i := 452) (by decide +kernel) rfl, mem0 (i := 3) (by decide +kernel) rfl⟩
theorem cv_X3_46 : CSV RX3 46 yX3_finish := ⟨mem0 (i := 475) (by decide +kernel) rfl, mem0 (i := 477) (by decide +kernel) rfl, mem0 (i := 8) (by decide +kernel) rfl⟩
theorem cv_X3_50 : CSV RX3 50 yX3_readPart := ⟨mem0 (i := 493) (by decide +kernel) rfl, mem0 (i := 495) (by decide +kernel) rfl, mem0 (i := 9) (by decide +kernel) rfl⟩
theorem cv_X3_59 : CSV RX3 59 yX3_next := ⟨mem0 (i := 446) (by decide +kernel) rfl, mem0 (i := 448) (by decide +kernel) rfl, mem0 (i := 2) (by decide +kernel) rfl⟩
theorem cv_X3_62 : CSV RX3 62 yX3_faultAt := ⟨mem0 (i := 463) (by decide +kernel) rfl, mem0 (i := 465) (by decide +kernel) rfl, mem0 (i := 6) (by decide +kernel) rfl⟩
theorem cv_X3_66 : CSV RX3 66 yX3_signedDigit := ⟨mem0 (i := 454) (by decide +kernel) rfl, mem0 (i := 456) (by decide +kernel) rfl, mem0 (i := 4) (by decide +kernel) rfl⟩
theorem cv_X3_69 : CSV RX3 69 yX3_digit := ⟨mem0 (i := 458) (by decide +kernel) rfl, mem0 (i := 460) (by decide +kernel) rfl, mem0 (i := 5) (by decide +kernel) rfl⟩
theorem cv_X3_72 : CSV RX3 72 yX3_number := ⟨mem0 (i := 467) (by decide +kernel) rfl, mem0 (i := 469) (by decide +kernel) rfl, mem0 (i := 7) (by decide +kernel) rfl⟩
theorem mt_X3_88 : MTH RX3 88 Lib.Math.min.name Lib.Math.min.code 2 := ⟨mem0 (i := 471) (by decide +kernel) rfl, mem0 (i := 472) (by decide +kernel) rfl, mem0 (i := 48) (by decide +kernel) rfl, mem0 (i := 473) (by decide +kernel) rfl⟩
theorem cv_X4_42 : CSV RX4 42 yX6_get := ⟨mem0 (i := 571) (by decide +kernel) rfl, mem0 (i := 392) (by decide +kernel) rfl, mem0 (i := 393) (by decide +kernel) rfl⟩
theorem cv_X4_46 : CSV RX4 46 yX6_takeAll := ⟨mem0 (i := 754) (by decide +kernel) rfl, mem0 (i := 480) (by decide +kernel) rfl, mem0 (i := 481) (by decide +kernel) rfl⟩
theorem ct_X5_23 : CSS RX5 23 yJ7_fill_53178 false := ⟨mem0 (i := 779) (by decide +kernel) rfl, fun _ => mem0 (i := 778) (by decide +kernel) rfl, (by intro h; cases h)⟩
theorem cv_X5_29 : CSV RX5 29 yX5_isNothing := ⟨mem0 (i := 728) (by decide +kernel) rfl, mem0 (i := 729) (by decide +kernel) rfl, mem0 (i := 730) (by decide +kernel) rfl⟩
theorem cv_X5_33 : CSV RX5 33 yX5_fits := ⟨mem0 (i := 732) (by decide +kernel) rfl, mem0 (i := 733) (by decide +kernel) rfl, mem0 (i := 734) (by decide +kernel) rfl⟩
theorem ct_X5_37 : CSS RX5 37 yX5_cutTo false := ⟨mem0 (i := 768) (by decide +kernel) rfl, fun _ => mem0 (i := 767) (by decide +kernel) rfl, (by intro h; cases h)⟩
theorem cv_X6_29 : CSV RX6 29 yX6_has := ⟨mem0 (i := 381) (by decide +kernel) rfl, mem0 (i := 382) (by decide +kernel) rfl, mem0 (i := 383) (by decide +kernel) rfl⟩
theorem cv_X6_33 : CSV RX6 33 yX6_isFull := ⟨mem0 (i := 376) (by decide +kernel) rfl, mem0 (i := 366) (by decide +kernel) rfl, mem0 (i := 367) (by decide +kernel) rfl⟩
theorem mt_X6_37 : MTH RX6 37 Lib.Math.min.name Lib.Math.min.code 2 := ⟨mem0 (i := 483) (by decide +kernel) rfl, mem0 (i := 472) (by decide +kernel) rfl, mem0 (i := 48) (by decide +kernel) rfl, mem0 (i := 473) (by decide +kernel) rfl⟩
theorem cv_X6_40 : CSV RX6 40 yX6_get := ⟨mem0 (i := 484) (by decide +kernel) rfl, mem0 (i := 392) (by decide +kernel) rfl, mem0 (i := 393) (by decide +kernel) rfl⟩
theorem mt_X6_9 : MTH RX6 9 Lib.Math.max.name Lib.Math.max.code 2 := ⟨mem0 (i := 88) (by decide +kernel) rfl, mem0 (i := 89) (by decide +kernel) rfl, mem0 (i := 48) (by decide +kernel) rfl, mem0 (i := 90) (by decide +kernel) rfl⟩
theorem cv_X7_101 : CSV RX7 101 yX7_endBy := ⟨mem0 (i := 654) (by decide +kernel) rfl, mem0 (i := 581) (by decide +kernel) rfl, mem0 (i := 582) (by decide +kernel) rfl⟩
theorem mt_X7_105 : MTH RX7 105 Lib.Math.abs.name Lib.Math.abs.code 1 := ⟨mem0 (i := 552) (by decide +kernel) rfl, mem0 (i := 553) (by decide +kernel) rfl, mem0 (i := 48) (by decide +kernel) rfl, mem0 (i := 554) (by decide +kernel) rfl⟩
theorem cv_X7_118 : CSV RX7 118 yX7_lateSide := ⟨mem0 (i := 523) (by decide +kernel) rfl, mem0 (i := 525) (by decide +kernel) rfl, mem0 (i := 11) (by decide +kernel) rfl⟩
theorem cv_X7_122 : CSV RX7 122 yX1_go := ⟨mem0 (i := 530) (by decide +kernel) rfl, mem0 (i := 531) (by decide +kernel) rfl, mem0 (i := 532) (by decide +kernel) rfl⟩
theorem cv_X7_125 : CSV RX7 125 yX7_holdByCord := ⟨mem0 (i := 535) (by decide +kernel) rfl, mem0 (i := 537) (by decide +kernel) rfl, mem0 (i := 12) (by decide +kernel) rfl⟩
theorem cv_X7_128 : CSV RX7 128 yX7_metCup := ⟨mem0 (i := 548) (by decide +kernel) rfl, mem0 (i := 550) (by decide +kernel) rfl, mem0 (i := 14) (by decide +kernel) rfl⟩
theorem cv_X7_131 : CSV RX7 131 yX7_comeDownOn := ⟨mem0 (i := 555) (by decide +kernel) rfl, mem0 (i := 557) (by decide +kernel) rfl, mem0 (i := 15) (by decide +kernel) rfl⟩
theorem ct_X7_138 : CSS RX7 138 yJ6_compare_7cf53 false := ⟨mem0 (i := 528) (by decide +kernel) rfl, fun _ => mem0 (i := 527) (by decide +kernel) rfl, (by intro h; cases h)⟩
theorem ct_X7_143 : CSS RX7 143 yJ9_floorMod_7cf53 false := ⟨mem0 (i := 540) (by decide +kernel) rfl, fun _ => mem0 (i := 539) (by decide +kernel) rfl, (by intro h; cases h)⟩
theorem cv_X7_146 : CSV RX7 146 yX7_wholeRoot := ⟨mem0 (i := 542) (by decide +kernel) rfl, mem0 (i := 544) (by decide +kernel) rfl, mem0 (i := 13) (by decide +kernel) rfl⟩
theorem mt_X7_149 : MTH RX7 149 Lib.Math.max.name Lib.Math.max.code 2 := ⟨mem0 (i := 546) (by decide +kernel) rfl, mem0 (i := 89) (by decide +kernel) rfl, mem0 (i := 48) (by decide +kernel) rfl, mem0 (i := 90) (by decide +kernel) rfl⟩
theorem cv_X7_30 : CSV RX7 30 yX1_begin := ⟨mem0 (i := 511) (by decide +kernel) rfl, mem0 (i := 512) (by decide +kernel) rfl, mem0 (i := 513) (by decide +kernel) rfl⟩
theorem cv_X7_85 : CSV RX7 85 yX6_get := ⟨mem0 (i := 506) (by decide +kernel) rfl, mem0 (i := 392) (by decide +kernel) rfl, mem0 (i := 393) (by decide +kernel) rfl⟩
theorem cv_X7_91 : CSV RX7 91 yX7_begin := ⟨mem0 (i := 507) (by decide +kernel) rfl, mem0 (i := 508) (by decide +kernel) rfl, mem0 (i := 509) (by decide +kernel) rfl⟩
theorem cv_X7_94 : CSV RX7 94 yX7_goStep := ⟨mem0 (i := 519) (by decide +kernel) rfl, mem0 (i := 521) (by decide +kernel) rfl, mem0 (i := 10) (by decide +kernel) rfl⟩
theorem cv_X7_97 : CSV RX7 97 yX7_goOn := ⟨mem0 (i := 584) (by decide +kernel) rfl, mem0 (i := 516) (by decide +kernel) rfl, mem0 (i := 517) (by decide +kernel) rfl⟩
theorem ct_X8_100 : CSS RX8 100 yX8_addPart false := ⟨mem0 (i := 400) (by decide +kernel) rfl, fun _ => mem0 (i := 399) (by decide +kernel) rfl, (by intro h; cases h)⟩
theorem cv_X8_104 : CSV RX8 104 yX6_empty := ⟨mem0 (i := 410) (by decide +kernel) rfl, mem0 (i := 411) (by decide +kernel) rfl, mem0 (i := 412) (by decide +kernel) rfl⟩
theorem ct_X8_108 : CSS RX8 108 yX8_byteOf false := ⟨mem0 (i := 419) (by decide +kernel) rfl, fun _ => mem0 (i := 418) (by decide +kernel) rfl, (by intro h; cases h)⟩
theorem cv_X8_112 : CSV RX8 112 yX3_hasRoom := ⟨mem0 (i := 421) (by decide +kernel) rfl, mem0 (i := 422) (by decide +kernel) rfl, mem0 (i := 423) (by decide +kernel) rfl⟩
theorem cv_X8_115 : CSV RX8 115 yX3_append := ⟨mem0 (i := 425) (by decide +kernel) rfl, mem0 (i := 426) (by decide +kernel) rfl, mem0 (i := 427) (by decide +kernel) rfl⟩
theorem cv_X8_123 : CSV RX8 123 yX3_readCups := ⟨mem0 (i := 433) (by decide +kernel) rfl, mem0 (i := 434) (by decide +kernel) rfl, mem0 (i := 435) (by decide +kernel) rfl⟩
theorem cv_X8_127 : CSV RX8 127 yX6_takeAll := ⟨mem0 (i := 479) (by decide +kernel) rfl, mem0 (i := 480) (by decide +kernel) rfl, mem0 (i := 481) (by decide +kernel) rfl⟩
theorem cv_X8_131 : CSV RX8 131 yX3_readParts := ⟨mem0 (i := 489) (by decide +kernel) rfl, mem0 (i := 490) (by decide +kernel) rfl, mem0 (i := 491) (by decide +kernel) rfl⟩
theorem cv_X8_135 : CSV RX8 135 yX7_beginAsTold := ⟨mem0 (i := 502) (by decide +kernel) rfl, mem0 (i := 503) (by decide +kernel) rfl, mem0 (i := 504) (by decide +kernel) rfl⟩
theorem cv_X8_138 : CSV RX8 138 yX7_goOn := ⟨mem0 (i := 515) (by decide +kernel) rfl, mem0 (i := 516) (by decide +kernel) rfl, mem0 (i := 517) (by decide +kernel) rfl⟩
theorem cv_X8_183 : CSV RX8 183 yX4_pullSteps := ⟨mem0 (i := 567) (by decide +kernel) rfl, mem0 (i := 568) (by decide +kernel) rfl, mem0 (i := 569) (by decide +kernel) rfl⟩
theorem cv_X8_189 : CSV RX8 189 yX4_hasNoPart := ⟨mem0 (i := 576) (by decide +kernel) rfl, mem0 (i := 577) (by decide +kernel) rfl, mem0 (i := 578) (by decide +kernel) rfl⟩
theorem cv_X8_192 : CSV RX8 192 yX7_endBy := ⟨mem0 (i := 580) (by decide +kernel) rfl, mem0 (i := 581) (by decide +kernel) rfl, mem0 (i := 582) (by decide +kernel) rfl⟩
theorem cv_X8_196 : CSV RX8 196 yX0_tryAll := ⟨mem0 (i := 589) (by decide +kernel) rfl, mem0 (i := 590) (by decide +kernel) rfl, mem0 (i := 591) (by decide +kernel) rfl⟩
theorem cv_X8_200 : CSV RX8 200 yX0_pullsInto := ⟨mem0 (i := 600) (by decide +kernel) rfl, mem0 (i := 601) (by decide +kernel) rfl, mem0 (i := 602) (by decide +kernel) rfl⟩
theorem cv_X8_204 : CSV RX8 204 yX0_seekCells := ⟨mem0 (i := 604) (by decide +kernel) rfl, mem0 (i := 605) (by decide +kernel) rfl, mem0 (i := 606) (by decide +kernel) rfl⟩
theorem cv_X8_214 : CSV RX8 214 yX0_middleOf := ⟨mem0 (i := 622) (by decide +kernel) rfl, mem0 (i := 623) (by decide +kernel) rfl, mem0 (i := 624) (by decide +kernel) rfl⟩
theorem ct_X8_218 : CSS RX8 218 yX0_uOf false := ⟨mem0 (i := 594) (by decide +kernel) rfl, fun _ => mem0 (i := 635) (by decide +kernel) rfl, (by intro h; cases h)⟩
theorem ct_X8_221 : CSS RX8 221 yX0_vOf false := ⟨mem0 (i := 597) (by decide +kernel) rfl, fun _ => mem0 (i := 636) (by decide +kernel) rfl, (by intro h; cases h)⟩
theorem cv_X8_224 : CSV RX8 224 yX0_ringsRound := ⟨mem0 (i := 637) (by decide +kernel) rfl, mem0 (i := 627) (by decide +kernel) rfl, mem0 (i := 628) (by decide +kernel) rfl⟩
theorem cv_X8_227 : CSV RX8 227 yX7_endLate := ⟨mem0 (i := 642) (by decide +kernel) rfl, mem0 (i := 643) (by decide +kernel) rfl, mem0 (i := 644) (by decide +kernel) rfl⟩
theorem cv_X8_231 : CSV RX8 231 yX7_oddsBy := ⟨mem0 (i := 650) (by decide +kernel) rfl, mem0 (i := 651) (by decide +kernel) rfl, mem0 (i := 652) (by decide +kernel) rfl⟩
theorem cv_X8_234 : CSV RX8 234 yX6_grow := ⟨mem0 (i := 372) (by decide +kernel) rfl, mem0 (i := 373) (by decide +kernel) rfl, mem0 (i := 374) (by decide +kernel) rfl⟩
theorem cv_X8_237 : CSV RX8 237 yX6_put := ⟨mem0 (i := 377) (by decide +kernel) rfl, mem0 (i := 378) (by decide +kernel) rfl, mem0 (i := 379) (by decide +kernel) rfl⟩
theorem cv_X8_241 : CSV RX8 241 yX2_weigh := ⟨mem0 (i := 667) (by decide +kernel) rfl, mem0 (i := 668) (by decide +kernel) rfl, mem0 (i := 669) (by decide +kernel) rfl⟩
theorem cv_X8_245 : CSV RX8 245 yX2_mostIn := ⟨mem0 (i := 681) (by decide +kernel) rfl, mem0 (i := 682) (by decide +kernel) rfl, mem0 (i := 683) (by decide +kernel) rfl⟩
theorem cv_X8_248 : CSV RX8 248 yX2_timesOf := ⟨mem0 (i := 685) (by decide +kernel) rfl, mem0 (i := 686) (by decide +kernel) rfl, mem0 (i := 687) (by decide +kernel) rfl⟩
theorem cv_X8_252 : CSV RX8 252 yX7_meetNothing := ⟨mem0 (i := 709) (by decide +kernel) rfl, mem0 (i := 710) (by decide +kernel) rfl, mem0 (i := 711) (by decide +kernel) rfl⟩
theorem cv_X8_255 : CSV RX8 255 yX7_isSoft := ⟨mem0 (i := 713) (by decide +kernel) rfl, mem0 (i := 714) (by decide +kernel) rfl, mem0 (i := 715) (by decide +kernel) rfl⟩
theorem ct_X8_258 : CSS RX8 258 yX8_isRow false := ⟨mem0 (i := 722) (by decide +kernel) rfl, fun _ => mem0 (i := 721) (by decide +kernel) rfl, (by intro h; cases h)⟩
theorem cv_X8_262 : CSV RX8 262 yX5_refusalOf := ⟨mem0 (i := 724) (by decide +kernel) rfl, mem0 (i := 725) (by decide +kernel) rfl, mem0 (i := 726) (by decide +kernel) rfl⟩
theorem cv_X8_266 : CSV RX8 266 yX8_isShown := ⟨mem0 (i := 737) (by decide +kernel) rfl, mem0 (i := 739) (by decide +kernel) rfl, mem0 (i := 22) (by decide +kernel) rfl⟩
theorem cv_X8_270 : CSV RX8 270 yX4_takeAll := ⟨mem0 (i := 750) (by decide +kernel) rfl, mem0 (i := 751) (by decide +kernel) rfl, mem0 (i := 752) (by decide +kernel) rfl⟩
theorem cv_X8_272 : CSV RX8 272 yX5_put := ⟨mem0 (i := 763) (by decide +kernel) rfl, mem0 (i := 764) (by decide +kernel) rfl, mem0 (i := 765) (by decide +kernel) rfl⟩
theorem cv_X8_273 : CSV RX8 273 yX5_makeRow := ⟨mem0 (i := 774) (by decide +kernel) rfl, mem0 (i := 775) (by decide +kernel) rfl, mem0 (i := 776) (by decide +kernel) rfl⟩
theorem cv_X8_276 : CSV RX8 276 yX5_isNothing := ⟨mem0 (i := 785) (by decide +kernel) rfl, mem0 (i := 729) (by decide +kernel) rfl, mem0 (i := 730) (by decide +kernel) rfl⟩
theorem cv_X8_279 : CSV RX8 279 yX5_letGo := ⟨mem0 (i := 786) (by decide +kernel) rfl, mem0 (i := 787) (by decide +kernel) rfl, mem0 (i := 788) (by decide +kernel) rfl⟩
theorem cv_X8_285 : CSV RX8 285 yX5_fits := ⟨mem0 (i := 798) (by decide +kernel) rfl, mem0 (i := 733) (by decide +kernel) rfl, mem0 (i := 734) (by decide +kernel) rfl⟩
theorem cv_X8_298 : CSV RX8 298 yX7_begin := ⟨mem0 (i := 741) (by decide +kernel) rfl, mem0 (i := 508) (by decide +kernel) rfl, mem0 (i := 509) (by decide +kernel) rfl⟩
theorem cv_X8_301 : CSV RX8 301 yX5_get := ⟨mem0 (i := 742) (by decide +kernel) rfl, mem0 (i := 743) (by decide +kernel) rfl, mem0 (i := 744) (by decide +kernel) rfl⟩
theorem ct_X8_60 : CSS RX8 60 yX8_isIn false := ⟨mem0 (i := 355) (by decide +kernel) rfl, fun _ => mem0 (i := 354) (by decide +kernel) rfl, (by intro h; cases h)⟩
theorem cv_X8_78 : CSV RX8 78 yX6_isFull := ⟨mem0 (i := 365) (by decide +kernel) rfl, mem0 (i := 366) (by decide +kernel) rfl, mem0 (i := 367) (by decide +kernel) rfl⟩
theorem ct_X8_84 : CSS RX8 84 yX8_addCup false := ⟨mem0 (i := 370) (by decide +kernel) rfl, fun _ => mem0 (i := 369) (by decide +kernel) rfl, (by intro h; cases h)⟩
theorem cv_X8_88 : CSV RX8 88 yX6_has := ⟨mem0 (i := 389) (by decide +kernel) rfl, mem0 (i := 382) (by decide +kernel) rfl, mem0 (i := 383) (by decide +kernel) rfl⟩
theorem cv_X8_93 : CSV RX8 93 yX6_get := ⟨mem0 (i := 391) (by decide +kernel) rfl, mem0 (i := 392) (by decide +kernel) rfl, mem0 (i := 393) (by decide +kernel) rfl⟩
theorem cv_L_101 : CSV RL 101 yX9_most := ⟨mem0 (i := 1117) (by decide +kernel) rfl, mem0 (i := 1118) (by decide +kernel) rfl, mem0 (i := 1119) (by decide +kernel) rfl⟩
theorem cv_L_102 : CSV RL 102 yX8_row := ⟨mem0 (i := 693) (by decide +kernel) rfl, mem0 (i := 694) (by decide +kernel) rfl, mem0 (i := 695) (by decide +kernel) rfl⟩
theorem cv_L_105 : CSV RL 105 yX9_row := ⟨mem0 (i := 1123) (by decide +kernel) rfl, mem0 (i := 1124) (by decide +kernel) rfl, mem0 (i := 1125) (by decide +kernel) rfl⟩
theorem cv_L_106 : CSV RL 106 yX8_clear := ⟨mem0 (i := 697) (by decide +kernel) rfl, mem0 (i := 698) (by decide +kernel) rfl, mem0 (i := 699) (by decide +kernel) rfl⟩
theorem cv_L_109 : CSV RL 109 yX9_clear := ⟨mem0 (i := 1127) (by decide +kernel) rfl, mem0 (i := 1128) (by decide +kernel) rfl, mem0 (i := 1129) (by decide +kernel) rfl⟩
theorem cv_L_110 : CSV RL 110 yX8_cord := ⟨mem0 (i := 701) (by decide +kernel) rfl, mem0 (i := 702) (by decide +kernel) rfl, mem0 (i := 703) (by decide +kernel) rfl⟩
theorem cv_L_113 : CSV RL 113 yX9_cord := ⟨mem0 (i := 1131) (by decide +kernel) rfl, mem0 (i := 1132) (by decide +kernel) rfl, mem0 (i := 1133) (by decide +kernel) rfl⟩
theorem cv_L_114 : CSV RL 114 yX8_down := ⟨mem0 (i := 705) (by decide +kernel) rfl, mem0 (i := 706) (by decide +kernel) rfl, mem0 (i := 707) (by decide +kernel) rfl⟩
theorem cv_L_117 : CSV RL 117 yX9_down := ⟨mem0 (i := 1135) (by decide +kernel) rfl, mem0 (i := 1136) (by decide +kernel) rfl, mem0 (i := 1137) (by decide +kernel) rfl⟩
theorem cv_L_118 : CSV RL 118 yX8_filmed := ⟨mem0 (i := 717) (by decide +kernel) rfl, mem0 (i := 718) (by decide +kernel) rfl, mem0 (i := 719) (by decide +kernel) rfl⟩
theorem cv_L_122 : CSV RL 122 yX9_filmed := ⟨mem0 (i := 1139) (by decide +kernel) rfl, mem0 (i := 1140) (by decide +kernel) rfl, mem0 (i := 1141) (by decide +kernel) rfl⟩
theorem cv_L_123 : CSV RL 123 yX8_image := ⟨mem0 (i := 746) (by decide +kernel) rfl, mem0 (i := 747) (by decide +kernel) rfl, mem0 (i := 748) (by decide +kernel) rfl⟩
theorem cv_L_126 : CSV RL 126 yX9_image := ⟨mem0 (i := 1155) (by decide +kernel) rfl, mem0 (i := 1156) (by decide +kernel) rfl, mem0 (i := 1157) (by decide +kernel) rfl⟩
theorem cv_L_127 : CSV RL 127 yX8_restore := ⟨mem0 (i := 755) (by decide +kernel) rfl, mem0 (i := 756) (by decide +kernel) rfl, mem0 (i := 757) (by decide +kernel) rfl⟩
theorem cv_L_13 : CSV RL 13 yX8_set := ⟨mem0 (i := 350) (by decide +kernel) rfl, mem0 (i := 351) (by decide +kernel) rfl, mem0 (i := 352) (by decide +kernel) rfl⟩
theorem cv_L_130 : CSV RL 130 yX9_restore := ⟨mem0 (i := 1162) (by decide +kernel) rfl, mem0 (i := 1163) (by decide +kernel) rfl, mem0 (i := 1164) (by decide +kernel) rfl⟩
theorem cv_L_131 : CSV RL 131 yX8_film := ⟨mem0 (i := 759) (by decide +kernel) rfl, mem0 (i := 760) (by decide +kernel) rfl, mem0 (i := 761) (by decide +kernel) rfl⟩
theorem cv_L_134 : CSV RL 134 yX9_film := ⟨mem0 (i := 1169) (by decide +kernel) rfl, mem0 (i := 1170) (by decide +kernel) rfl, mem0 (i := 1171) (by decide +kernel) rfl⟩
theorem cv_L_135 : CSV RL 135 yX8_sheet := ⟨mem0 (i := 770) (by decide +kernel) rfl, mem0 (i := 771) (by decide +kernel) rfl, mem0 (i := 772) (by decide +kernel) rfl⟩
theorem cv_L_138 : CSV RL 138 yX9_sheet := ⟨mem0 (i := 1176) (by decide +kernel) rfl, mem0 (i := 1177) (by decide +kernel) rfl, mem0 (i := 1178) (by decide +kernel) rfl⟩
theorem cv_L_139 : CSV RL 139 yX8_drop := ⟨mem0 (i := 781) (by decide +kernel) rfl, mem0 (i := 782) (by decide +kernel) rfl, mem0 (i := 783) (by decide +kernel) rfl⟩
theorem cv_L_142 : CSV RL 142 yX9_drop := ⟨mem0 (i := 1180) (by decide +kernel) rfl, mem0 (i := 1181) (by decide +kernel) rfl, mem0 (i := 1182) (by decide +kernel) rfl⟩
theorem cv_L_143 : CSV RL 143 yX8_item := ⟨mem0 (i := 790) (by decide +kernel) rfl, mem0 (i := 791) (by decide +kernel) rfl, mem0 (i := 792) (by decide +kernel) rfl⟩
theorem cv_L_146 : CSV RL 146 yX9_item := ⟨mem0 (i := 1184) (by decide +kernel) rfl, mem0 (i := 1185) (by decide +kernel) rfl, mem0 (i := 1186) (by decide +kernel) rfl⟩
theorem cv_L_147 : CSV RL 147 yX8_copy := ⟨mem0 (i := 794) (by decide +kernel) rfl, mem0 (i := 795) (by decide +kernel) rfl, mem0 (i := 796) (by decide +kernel) rfl⟩
theorem cv_L_150 : CSV RL 150 yX9_copy := ⟨mem0 (i := 1188) (by decide +kernel) rfl, mem0 (i := 1189) (by decide +kernel) rfl, mem0 (i := 1190) (by decide +kernel) rfl⟩
theorem cv_L_17 : CSV RL 17 yX9_set := ⟨mem0 (i := 932) (by decide +kernel) rfl, mem0 (i := 933) (by decide +kernel) rfl, mem0 (i := 934) (by decide +kernel) rfl⟩
theorem cv_L_18 : CSV RL 18 yX8_cup := ⟨mem0 (i := 361) (by decide +kernel) rfl, mem0 (i := 362) (by decide +kernel) rfl, mem0 (i := 363) (by decide +kernel) rfl⟩
theorem cv_L_22 : CSV RL 22 yX9_cup := ⟨mem0 (i := 944) (by decide +kernel) rfl, mem0 (i := 945) (by decide +kernel) rfl, mem0 (i := 946) (by decide +kernel) rfl⟩
theorem cv_L_23 : CSV RL 23 yX8_told := ⟨mem0 (i := 385) (by decide +kernel) rfl, mem0 (i := 386) (by decide +kernel) rfl, mem0 (i := 387) (by decide +kernel) rfl⟩
theorem cv_L_26 : CSV RL 26 yX9_told := ⟨mem0 (i := 955) (by decide +kernel) rfl, mem0 (i := 956) (by decide +kernel) rfl, mem0 (i := 957) (by decide +kernel) rfl⟩
theorem cv_L_27 : CSV RL 27 yX8_part := ⟨mem0 (i := 395) (by decide +kernel) rfl, mem0 (i := 396) (by decide +kernel) rfl, mem0 (i := 397) (by decide +kernel) rfl⟩
theorem cv_L_31 : CSV RL 31 yX9_part := ⟨mem0 (i := 964) (by decide +kernel) rfl, mem0 (i := 965) (by decide +kernel) rfl, mem0 (i := 966) (by decide +kernel) rfl⟩
theorem cv_L_32 : CSV RL 32 yX8_pull := ⟨mem0 (i := 402) (by decide +kernel) rfl, mem0 (i := 403) (by decide +kernel) rfl, mem0 (i := 404) (by decide +kernel) rfl⟩
theorem cv_L_35 : CSV RL 35 yX9_pull := ⟨mem0 (i := 972) (by decide +kernel) rfl, mem0 (i := 973) (by decide +kernel) rfl, mem0 (i := 974) (by decide +kernel) rfl⟩
theorem cv_L_36 : CSV RL 36 yX8_still := ⟨mem0 (i := 406) (by decide +kernel) rfl, mem0 (i := 407) (by decide +kernel) rfl, mem0 (i := 408) (by decide +kernel) rfl⟩
theorem cv_L_40 : CSV RL 40 yX9_still := ⟨mem0 (i := 976) (by decide +kernel) rfl, mem0 (i := 977) (by decide +kernel) rfl, mem0 (i := 978) (by decide +kernel) rfl⟩
theorem cv_L_43 : CSV RL 43 yX8_type := ⟨mem0 (i := 414) (by decide +kernel) rfl, mem0 (i := 415) (by decide +kernel) rfl, mem0 (i := 416) (by decide +kernel) rfl⟩
theorem cv_L_47 : CSV RL 47 yX9_type := ⟨mem0 (i := 980) (by decide +kernel) rfl, mem0 (i := 981) (by decide +kernel) rfl, mem0 (i := 982) (by decide +kernel) rfl⟩
theorem cv_L_48 : CSV RL 48 yX8_toy := ⟨mem0 (i := 429) (by decide +kernel) rfl, mem0 (i := 430) (by decide +kernel) rfl, mem0 (i := 431) (by decide +kernel) rfl⟩
theorem cv_L_51 : CSV RL 51 yX9_toy := ⟨mem0 (i := 988) (by decide +kernel) rfl, mem0 (i := 989) (by decide +kernel) rfl, mem0 (i := 990) (by decide +kernel) rfl⟩
theorem cv_L_52 : CSV RL 52 yX8_pulls := ⟨mem0 (i := 485) (by decide +kernel) rfl, mem0 (i := 486) (by decide +kernel) rfl, mem0 (i := 487) (by decide +kernel) rfl⟩
theorem cv_L_55 : CSV RL 55 yX9_pulls := ⟨mem0 (i := 1026) (by decide +kernel) rfl, mem0 (i := 1027) (by decide +kernel) rfl, mem0 (i := 1028) (by decide +kernel) rfl⟩
theorem cv_L_56 : CSV RL 56 yX8_at := ⟨mem0 (i := 498) (by decide +kernel) rfl, mem0 (i := 499) (by decide +kernel) rfl, mem0 (i := 500) (by decide +kernel) rfl⟩
theorem cv_L_59 : CSV RL 59 yX9_at := ⟨mem0 (i := 1034) (by decide +kernel) rfl, mem0 (i := 1035) (by decide +kernel) rfl, mem0 (i := 1036) (by decide +kernel) rfl⟩
theorem cv_L_60 : CSV RL 60 yX8_end := ⟨mem0 (i := 559) (by decide +kernel) rfl, mem0 (i := 560) (by decide +kernel) rfl, mem0 (i := 561) (by decide +kernel) rfl⟩
theorem cv_L_64 : CSV RL 64 yX9_end := ⟨mem0 (i := 1060) (by decide +kernel) rfl, mem0 (i := 1061) (by decide +kernel) rfl, mem0 (i := 1062) (by decide +kernel) rfl⟩
theorem cv_L_65 : CSV RL 65 yX8_count := ⟨mem0 (i := 563) (by decide +kernel) rfl, mem0 (i := 564) (by decide +kernel) rfl, mem0 (i := 565) (by decide +kernel) rfl⟩
theorem cv_L_68 : CSV RL 68 yX9_count := ⟨mem0 (i := 1030) (by decide +kernel) rfl, mem0 (i := 1031) (by decide +kernel) rfl, mem0 (i := 1032) (by decide +kernel) rfl⟩
theorem cv_L_69 : CSV RL 69 yX8_ends := ⟨mem0 (i := 572) (by decide +kernel) rfl, mem0 (i := 573) (by decide +kernel) rfl, mem0 (i := 574) (by decide +kernel) rfl⟩
theorem cv_L_72 : CSV RL 72 yX9_ends := ⟨mem0 (i := 1065) (by decide +kernel) rfl, mem0 (i := 1066) (by decide +kernel) rfl, mem0 (i := 1067) (by decide +kernel) rfl⟩
theorem cv_L_73 : CSV RL 73 yX8_cells := ⟨mem0 (i := 585) (by decide +kernel) rfl, mem0 (i := 586) (by decide +kernel) rfl, mem0 (i := 587) (by decide +kernel) rfl⟩
theorem cv_L_76 : CSV RL 76 yX9_cells := ⟨mem0 (i := 1074) (by decide +kernel) rfl, mem0 (i := 1075) (by decide +kernel) rfl, mem0 (i := 1076) (by decide +kernel) rfl⟩
theorem cv_L_77 : CSV RL 77 yX8_middle := ⟨mem0 (i := 617) (by decide +kernel) rfl, mem0 (i := 618) (by decide +kernel) rfl, mem0 (i := 619) (by decide +kernel) rfl⟩
theorem cv_L_80 : CSV RL 80 yX9_middle := ⟨mem0 (i := 1086) (by decide +kernel) rfl, mem0 (i := 1087) (by decide +kernel) rfl, mem0 (i := 1088) (by decide +kernel) rfl⟩
theorem cv_L_81 : CSV RL 81 yX8_mended := ⟨mem0 (i := 638) (by decide +kernel) rfl, mem0 (i := 639) (by decide +kernel) rfl, mem0 (i := 640) (by decide +kernel) rfl⟩
theorem cv_L_84 : CSV RL 84 yX9_mended := ⟨mem0 (i := 1096) (by decide +kernel) rfl, mem0 (i := 1097) (by decide +kernel) rfl, mem0 (i := 1098) (by decide +kernel) rfl⟩
theorem cv_L_85 : CSV RL 85 yX8_odds := ⟨mem0 (i := 646) (by decide +kernel) rfl, mem0 (i := 647) (by decide +kernel) rfl, mem0 (i := 648) (by decide +kernel) rfl⟩
theorem cv_L_88 : CSV RL 88 yX9_odds := ⟨mem0 (i := 1100) (by decide +kernel) rfl, mem0 (i := 1101) (by decide +kernel) rfl, mem0 (i := 1102) (by decide +kernel) rfl⟩
theorem cv_L_89 : CSV RL 89 yX8_which := ⟨mem0 (i := 655) (by decide +kernel) rfl, mem0 (i := 656) (by decide +kernel) rfl, mem0 (i := 657) (by decide +kernel) rfl⟩
theorem cv_L_92 : CSV RL 92 yX9_which := ⟨mem0 (i := 1108) (by decide +kernel) rfl, mem0 (i := 1109) (by decide +kernel) rfl, mem0 (i := 1110) (by decide +kernel) rfl⟩
theorem cv_L_93 : CSV RL 93 yX8_trick := ⟨mem0 (i := 659) (by decide +kernel) rfl, mem0 (i := 660) (by decide +kernel) rfl, mem0 (i := 661) (by decide +kernel) rfl⟩
theorem cv_L_97 : CSV RL 97 yX9_trick := ⟨mem0 (i := 1112) (by decide +kernel) rfl, mem0 (i := 1113) (by decide +kernel) rfl, mem0 (i := 1114) (by decide +kernel) rfl⟩
theorem cv_L_98 : CSV RL 98 yX8_most := ⟨mem0 (i := 663) (by decide +kernel) rfl, mem0 (i := 664) (by decide +kernel) rfl, mem0 (i := 665) (by decide +kernel) rfl⟩
theorem cv_X9_103 : CSV RX9 103 yX9_partIs := ⟨mem0 (i := 968) (by decide +kernel) rfl, mem0 (i := 970) (by decide +kernel) rfl, mem0 (i := 25) (by decide +kernel) rfl⟩
theorem cv_X9_125 : CSV RX9 125 yX9_here := ⟨mem0 (i := 1008) (by decide +kernel) rfl, mem0 (i := 1010) (by decide +kernel) rfl, mem0 (i := 30) (by decide +kernel) rfl⟩
theorem cv_X9_133 : CSV RX9 133 yX9_has := ⟨mem0 (i := 1004) (by decide +kernel) rfl, mem0 (i := 1006) (by decide +kernel) rfl, mem0 (i := 29) (by decide +kernel) rfl⟩
theorem cv_X9_136 : CSV RX9 136 yX9_digit := ⟨mem0 (i := 1012) (by decide +kernel) rfl, mem0 (i := 1014) (by decide +kernel) rfl, mem0 (i := 31) (by decide +kernel) rfl⟩
theorem cv_X9_139 : CSV RX9 139 yX9_signed := ⟨mem0 (i := 1000) (by decide +kernel) rfl, mem0 (i := 1002) (by decide +kernel) rfl, mem0 (i := 28) (by decide +kernel) rfl⟩
theorem cv_X9_142 : CSV RX9 142 yX9_number := ⟨mem0 (i := 1018) (by decide +kernel) rfl, mem0 (i := 1020) (by decide +kernel) rfl, mem0 (i := 32) (by decide +kernel) rfl⟩
theorem cv_X9_146 : CSV RX9 146 yX9_cupClause := ⟨mem0 (i := 996) (by decide +kernel) rfl, mem0 (i := 998) (by decide +kernel) rfl, mem0 (i := 27) (by decide +kernel) rfl⟩
theorem cv_X9_150 : CSV RX9 150 yX9_partClause := ⟨mem0 (i := 1022) (by decide +kernel) rfl, mem0 (i := 1024) (by decide +kernel) rfl, mem0 (i := 33) (by decide +kernel) rfl⟩
theorem cv_X9_153 : CSV RX9 153 yX9_readAll := ⟨mem0 (i := 992) (by decide +kernel) rfl, mem0 (i := 994) (by decide +kernel) rfl, mem0 (i := 26) (by decide +kernel) rfl⟩
theorem ct_X9_175 : CSS RX9 175 yX9_root false := ⟨mem0 (i := 1051) (by decide +kernel) rfl, fun _ => mem0 (i := 1050) (by decide +kernel) rfl, (by intro h; cases h)⟩
theorem ct_X9_197 : CSS RX9 197 yX9_size false := ⟨mem0 (i := 1058) (by decide +kernel) rfl, fun _ => mem0 (i := 1057) (by decide +kernel) rfl, (by intro h; cases h)⟩
theorem cv_X9_209 : CSV RX9 209 yX9_lays := ⟨mem0 (i := 1042) (by decide +kernel) rfl, mem0 (i := 1044) (by decide +kernel) rfl, mem0 (i := 35) (by decide +kernel) rfl⟩
theorem cv_X9_215 : CSV RX9 215 yX9_swings := ⟨mem0 (i := 1046) (by decide +kernel) rfl, mem0 (i := 1048) (by decide +kernel) rfl, mem0 (i := 36) (by decide +kernel) rfl⟩
theorem cv_X9_218 : CSV RX9 218 yX9_meets := ⟨mem0 (i := 1053) (by decide +kernel) rfl, mem0 (i := 1055) (by decide +kernel) rfl, mem0 (i := 37) (by decide +kernel) rfl⟩
theorem cv_X9_222 : CSV RX9 222 yX9_tries := ⟨mem0 (i := 1038) (by decide +kernel) rfl, mem0 (i := 1040) (by decide +kernel) rfl, mem0 (i := 34) (by decide +kernel) rfl⟩
theorem cv_X9_227 : CSV RX9 227 yX9_endBy := ⟨mem0 (i := 1070) (by decide +kernel) rfl, mem0 (i := 1072) (by decide +kernel) rfl, mem0 (i := 38) (by decide +kernel) rfl⟩
theorem cv_X9_232 : CSV RX9 232 yX9_grid := ⟨mem0 (i := 1078) (by decide +kernel) rfl, mem0 (i := 1080) (by decide +kernel) rfl, mem0 (i := 39) (by decide +kernel) rfl⟩
theorem cv_X9_235 : CSV RX9 235 yX9_groups := ⟨mem0 (i := 1082) (by decide +kernel) rfl, mem0 (i := 1084) (by decide +kernel) rfl, mem0 (i := 40) (by decide +kernel) rfl⟩
theorem cv_X9_239 : CSV RX9 239 yX9_isRing := ⟨mem0 (i := 1091) (by decide +kernel) rfl, mem0 (i := 1093) (by decide +kernel) rfl, mem0 (i := 41) (by decide +kernel) rfl⟩
theorem cv_X9_244 : CSV RX9 244 yX9_oddsOf := ⟨mem0 (i := 1104) (by decide +kernel) rfl, mem0 (i := 1106) (by decide +kernel) rfl, mem0 (i := 42) (by decide +kernel) rfl⟩
theorem ct_X9_253 : CSS RX9 253 yX9_isSheet false := ⟨mem0 (i := 1144) (by decide +kernel) rfl, fun _ => mem0 (i := 1143) (by decide +kernel) rfl, (by intro h; cases h)⟩
theorem ct_X9_256 : CSS RX9 256 yX9_isLane false := ⟨mem0 (i := 1147) (by decide +kernel) rfl, fun _ => mem0 (i := 1146) (by decide +kernel) rfl, (by intro h; cases h)⟩
theorem cv_X9_261 : CSV RX9 261 yX9_finds := ⟨mem0 (i := 1150) (by decide +kernel) rfl, mem0 (i := 1152) (by decide +kernel) rfl, mem0 (i := 43) (by decide +kernel) rfl⟩
theorem ct_X9_266 : CSS RX9 266 yX9_saves false := ⟨mem0 (i := 1160) (by decide +kernel) rfl, fun _ => mem0 (i := 1159) (by decide +kernel) rfl, (by intro h; cases h)⟩
theorem ct_X9_273 : CSS RX9 273 yX9_gives false := ⟨mem0 (i := 1167) (by decide +kernel) rfl, fun _ => mem0 (i := 1166) (by decide +kernel) rfl, (by intro h; cases h)⟩
theorem ct_X9_277 : CSS RX9 277 yX9_cast false := ⟨mem0 (i := 1174) (by decide +kernel) rfl, fun _ => mem0 (i := 1173) (by decide +kernel) rfl, (by intro h; cases h)⟩
theorem ct_X9_71 : CSS RX9 71 yX9_in false := ⟨mem0 (i := 938) (by decide +kernel) rfl, fun _ => mem0 (i := 937) (by decide +kernel) rfl, (by intro h; cases h)⟩
theorem cv_X9_91 : CSV RX9 91 yX9_cupIs := ⟨mem0 (i := 951) (by decide +kernel) rfl, mem0 (i := 953) (by decide +kernel) rfl, mem0 (i := 23) (by decide +kernel) rfl⟩
theorem cv_X9_95 : CSV RX9 95 yX9_isCup := ⟨mem0 (i := 959) (by decide +kernel) rfl, mem0 (i := 961) (by decide +kernel) rfl, mem0 (i := 24) (by decide +kernel) rfl⟩
theorem ct_X3_76 : CSS RX3 76 yX8_addCup true := ⟨mem0 (i := 370) (by decide +kernel) rfl, (by intro h; cases h), fun _ => ⟨"BallInCup", memN (i := 474) (by decide +kernel) rfl⟩⟩
theorem ct_X3_80 : CSS RX3 80 yX8_addPart true := ⟨mem0 (i := 400) (by decide +kernel) rfl, (by intro h; cases h), fun _ => ⟨"BallInCup", memN (i := 497) (by decide +kernel) rfl⟩⟩
theorem ct_X3_84 : CSS RX3 84 yX8_isIn true := ⟨mem0 (i := 355) (by decide +kernel) rfl, (by intro h; cases h), fun _ => ⟨"BallInCup", memN (i := 462) (by decide +kernel) rfl⟩⟩
