theorem big_all {ws : List Cond} (ps : List Nat) (h : (decide (ws.map some = ps.map (fun i => lw_tbl[i]?)) && ws.all goodWord) = true) : ∀ w ∈ ws, w ∈ BIG := by
  intro w hw
  simp only [Bool.and_eq_true, decide_eq_true_eq] at h
  have h1 : some w ∈ ws.map some := List.mem_map.mpr ⟨w, hw, rfl⟩
  rw [h.1] at h1
  obtain ⟨i, -, hi⟩ := List.mem_map.mp h1
  exact big_in hi (List.all_eq_true.mp h.2 w hw)
theorem u_X0 : ∀ w ∈ u_ws RX0 TX0 3, w ∈ BIG := big_all [123, 125, 127] (by decide +kernel)
theorem u_X1 : ∀ w ∈ u_ws RX1 TX1 12, w ∈ BIG := big_all [84, 86, 88, 90, 92, 94, 96, 98, 100, 102, 104, 106] (by decide +kernel)
theorem u_X2 : ∀ w ∈ u_ws RX2 TX2 5, w ∈ BIG := big_all [160, 162, 164, 166, 168] (by decide +kernel)
theorem u_X3 : ∀ w ∈ u_ws RX3 TX3 2, w ∈ BIG := big_all [142, 144] (by decide +kernel)
theorem u_X4 : ∀ w ∈ u_ws RX4 TX4 6, w ∈ BIG := big_all [177, 179, 181, 183, 185, 187] (by decide +kernel)
theorem u_X5 : ∀ w ∈ u_ws RX5 TX5 11, w ∈ BIG := big_all [897, 899, 901, 903, 905, 907, 909, 911, 913, 915, 917] (by decide +kernel)
theorem f_X4_10 : fdW RX4 10 RX4 TX4 6 0 := ⟨big_in (i := 171) (by decide +kernel) (by decide +kernel), u_X4, rfl, by decide⟩
theorem f_X4_16 : fdW RX4 16 RX4 TX4 6 1 := ⟨big_in (i := 172) (by decide +kernel) (by decide +kernel), u_X4, rfl, by decide⟩
theorem f_X4_22 : fdW RX4 22 RX4 TX4 6 2 := ⟨big_in (i := 173) (by decide +kernel) (by decide +kernel), u_X4, rfl, by decide⟩
theorem f_X4_29 : fdW RX4 29 RX4 TX4 6 3 := ⟨big_in (i := 174) (by decide +kernel) (by decide +kernel), u_X4, rfl, by decide⟩
theorem f_X4_33 : fdW RX4 33 RX4 TX4 6 4 := ⟨big_in (i := 175) (by decide +kernel) (by decide +kernel), u_X4, rfl, by decide⟩
theorem f_X4_39 : fdW RX4 39 RX4 TX4 6 5 := ⟨big_in (i := 176) (by decide +kernel) (by decide +kernel), u_X4, rfl, by decide⟩
theorem f_X4_82 : fdN RX4 82 RX3 TX3 2 1 := ⟨⟨"ChairStamps", List.mem_of_getElem? (i := 14) (by decide +kernel)⟩, u_X3, rfl, by decide⟩
theorem f_X4_97 : fdN RX4 97 RX1 TX1 12 0 := ⟨⟨"ChairStamps", List.mem_of_getElem? (i := 2) (by decide +kernel)⟩, u_X1, rfl, by decide⟩
theorem f_X4_101 : fdN RX4 101 RX1 TX1 12 1 := ⟨⟨"ChairStamps", List.mem_of_getElem? (i := 3) (by decide +kernel)⟩, u_X1, rfl, by decide⟩
theorem f_X4_107 : fdN RX4 107 RX1 TX1 12 11 := ⟨⟨"ChairStamps", List.mem_of_getElem? (i := 10) (by decide +kernel)⟩, u_X1, rfl, by decide⟩
theorem f_X4_119 : fdN RX4 119 RX1 TX1 12 2 := ⟨⟨"ChairStamps", List.mem_of_getElem? (i := 4) (by decide +kernel)⟩, u_X1, rfl, by decide⟩
theorem f_X4_122 : fdN RX4 122 RX1 TX1 12 3 := ⟨⟨"ChairStamps", List.mem_of_getElem? (i := 5) (by decide +kernel)⟩, u_X1, rfl, by decide⟩
theorem f_X4_125 : fdN RX4 125 RX1 TX1 12 4 := ⟨⟨"ChairStamps", List.mem_of_getElem? (i := 6) (by decide +kernel)⟩, u_X1, rfl, by decide⟩
theorem f_X4_137 : fdN RX4 137 RX1 TX1 12 5 := ⟨⟨"ChairStamps", List.mem_of_getElem? (i := 7) (by decide +kernel)⟩, u_X1, rfl, by decide⟩
theorem f_X4_143 : fdN RX4 143 RX1 TX1 12 6 := ⟨⟨"ChairStamps", List.mem_of_getElem? (i := 8) (by decide +kernel)⟩, u_X1, rfl, by decide⟩
theorem f_X4_179 : fdN RX4 179 RX1 TX1 12 10 := ⟨⟨"ChairStamps", List.mem_of_getElem? (i := 9) (by decide +kernel)⟩, u_X1, rfl, by decide⟩
theorem f_X4_221 : fdN RX4 221 RX0 TX0 3 2 := ⟨⟨"ChairStamps", List.mem_of_getElem? (i := 11) (by decide +kernel)⟩, u_X0, rfl, by decide⟩
theorem f_X4_273 : fdN RX4 273 RX3 TX3 2 0 := ⟨⟨"ChairStamps", List.mem_of_getElem? (i := 13) (by decide +kernel)⟩, u_X3, rfl, by decide⟩
theorem f_X4_305 : fdN RX4 305 RX2 TX2 5 4 := ⟨⟨"ChairStamps", List.mem_of_getElem? (i := 17) (by decide +kernel)⟩, u_X2, rfl, by decide⟩
theorem f_X4_308 : fdN RX4 308 RX2 TX2 5 3 := ⟨⟨"ChairStamps", List.mem_of_getElem? (i := 16) (by decide +kernel)⟩, u_X2, rfl, by decide⟩
theorem f_X0_13 : fdW RX0 13 RX0 TX0 3 0 := ⟨big_in (i := 119) (by decide +kernel) (by decide +kernel), u_X0, rfl, by decide⟩
theorem f_X0_17 : fdW RX0 17 RX0 TX0 3 1 := ⟨big_in (i := 120) (by decide +kernel) (by decide +kernel), u_X0, rfl, by decide⟩
theorem f_X0_21 : fdW RX0 21 RX0 TX0 3 2 := ⟨big_in (i := 121) (by decide +kernel) (by decide +kernel), u_X0, rfl, by decide⟩
theorem f_X1_9 : fdW RX1 9 RX1 TX1 12 2 := ⟨big_in (i := 67) (by decide +kernel) (by decide +kernel), u_X1, rfl, by decide⟩
theorem f_X1_15 : fdW RX1 15 RX1 TX1 12 3 := ⟨big_in (i := 69) (by decide +kernel) (by decide +kernel), u_X1, rfl, by decide⟩
theorem f_X1_18 : fdW RX1 18 RX1 TX1 12 4 := ⟨big_in (i := 71) (by decide +kernel) (by decide +kernel), u_X1, rfl, by decide⟩
theorem f_X1_21 : fdW RX1 21 RX1 TX1 12 5 := ⟨big_in (i := 73) (by decide +kernel) (by decide +kernel), u_X1, rfl, by decide⟩
theorem f_X1_24 : fdW RX1 24 RX1 TX1 12 6 := ⟨big_in (i := 75) (by decide +kernel) (by decide +kernel), u_X1, rfl, by decide⟩
theorem f_X1_27 : fdW RX1 27 RX1 TX1 12 7 := ⟨big_in (i := 77) (by decide +kernel) (by decide +kernel), u_X1, rfl, by decide⟩
theorem f_X1_30 : fdW RX1 30 RX1 TX1 12 8 := ⟨big_in (i := 78) (by decide +kernel) (by decide +kernel), u_X1, rfl, by decide⟩
theorem f_X1_33 : fdW RX1 33 RX1 TX1 12 9 := ⟨big_in (i := 79) (by decide +kernel) (by decide +kernel), u_X1, rfl, by decide⟩
theorem f_X1_36 : fdW RX1 36 RX1 TX1 12 10 := ⟨big_in (i := 80) (by decide +kernel) (by decide +kernel), u_X1, rfl, by decide⟩
theorem f_X1_39 : fdW RX1 39 RX1 TX1 12 11 := ⟨big_in (i := 82) (by decide +kernel) (by decide +kernel), u_X1, rfl, by decide⟩
theorem f_X1_45 : fdW RX1 45 RX1 TX1 12 0 := ⟨big_in (i := 63) (by decide +kernel) (by decide +kernel), u_X1, rfl, by decide⟩
theorem f_X1_49 : fdW RX1 49 RX1 TX1 12 1 := ⟨big_in (i := 65) (by decide +kernel) (by decide +kernel), u_X1, rfl, by decide⟩
theorem f_X2_9 : fdW RX2 9 RX2 TX2 5 0 := ⟨big_in (i := 153) (by decide +kernel) (by decide +kernel), u_X2, rfl, by decide⟩
theorem f_X2_15 : fdW RX2 15 RX2 TX2 5 1 := ⟨big_in (i := 154) (by decide +kernel) (by decide +kernel), u_X2, rfl, by decide⟩
theorem f_X2_19 : fdW RX2 19 RX2 TX2 5 2 := ⟨big_in (i := 155) (by decide +kernel) (by decide +kernel), u_X2, rfl, by decide⟩
theorem f_X2_22 : fdW RX2 22 RX2 TX2 5 3 := ⟨big_in (i := 156) (by decide +kernel) (by decide +kernel), u_X2, rfl, by decide⟩
theorem f_X2_25 : fdW RX2 25 RX2 TX2 5 4 := ⟨big_in (i := 158) (by decide +kernel) (by decide +kernel), u_X2, rfl, by decide⟩
theorem f_X5_7 : fdW RX5 7 RX5 TX5 11 1 := ⟨big_in (i := 887) (by decide +kernel) (by decide +kernel), u_X5, rfl, by decide⟩
theorem f_X5_13 : fdW RX5 13 RX5 TX5 11 3 := ⟨big_in (i := 889) (by decide +kernel) (by decide +kernel), u_X5, rfl, by decide⟩
theorem f_X5_16 : fdW RX5 16 RX5 TX5 11 4 := ⟨big_in (i := 890) (by decide +kernel) (by decide +kernel), u_X5, rfl, by decide⟩
theorem f_X5_19 : fdW RX5 19 RX5 TX5 11 5 := ⟨big_in (i := 891) (by decide +kernel) (by decide +kernel), u_X5, rfl, by decide⟩
theorem f_X5_22 : fdW RX5 22 RX5 TX5 11 7 := ⟨big_in (i := 893) (by decide +kernel) (by decide +kernel), u_X5, rfl, by decide⟩
theorem f_X5_25 : fdW RX5 25 RX5 TX5 11 8 := ⟨big_in (i := 894) (by decide +kernel) (by decide +kernel), u_X5, rfl, by decide⟩
theorem f_X5_33 : fdW RX5 33 RX5 TX5 11 0 := ⟨big_in (i := 886) (by decide +kernel) (by decide +kernel), u_X5, rfl, by decide⟩
theorem f_X5_102 : fdW RX5 102 RX5 TX5 11 2 := ⟨big_in (i := 888) (by decide +kernel) (by decide +kernel), u_X5, rfl, by decide⟩
theorem f_X5_109 : fdW RX5 109 RX5 TX5 11 9 := ⟨big_in (i := 895) (by decide +kernel) (by decide +kernel), u_X5, rfl, by decide⟩
theorem f_X5_118 : fdW RX5 118 RX5 TX5 11 10 := ⟨big_in (i := 896) (by decide +kernel) (by decide +kernel), u_X5, rfl, by decide⟩
theorem f_X5_196 : fdW RX5 196 RX5 TX5 11 6 := ⟨big_in (i := 892) (by decide +kernel) (by decide +kernel), u_X5, rfl, by decide⟩
theorem k_X4_43 : lkS RX4 43 yX4_within cX4_within 3 (some .boolean) 3 := ⟨big_all [363, 315, 21, 316] (by decide +kernel), by decide +kernel⟩
theorem k_X4_111 : lkS RX4 111 yX4_at cX4_at 2 (some .int) 2 := ⟨big_all [474, 211, 21, 212] (by decide +kernel), by decide +kernel⟩
theorem k_X4_156 : lkS RX4 156 yX4_needOneOfFour cX4_needOneOfFour 1 none 1 := ⟨big_all [624, 625, 21, 626] (by decide +kernel), by decide +kernel⟩
theorem k_X4_248 : lkS RX4 248 yX4_withoutGroups cX4_withoutGroups 6 (some .long) 2 := ⟨big_all [836, 837, 21, 838] (by decide +kernel), by decide +kernel⟩
theorem k_X4_256 : lkS RX4 256 yX4_groupSucceeds cX4_groupSucceeds 6 (some .boolean) 2 := ⟨big_all [841, 842, 21, 843] (by decide +kernel), by decide +kernel⟩
theorem k_X4_266 : lkS RX4 266 yX4_takeTurn cX4_takeTurn 3 none 2 := ⟨big_all [855, 856, 21, 857] (by decide +kernel), by decide +kernel⟩
theorem k_X4_270 : lkS RX4 270 yX4_needSlot cX4_needSlot 1 none 1 := ⟨big_all [865, 866, 21, 867] (by decide +kernel), by decide +kernel⟩
theorem k_X0_33 : lkS RX0 33 yJ9_min_7cf53 cJ9_min_7cf53 2 (some .int) 2 := ⟨big_all [697, 254, 34, 255] (by decide +kernel), by decide +kernel⟩
theorem k_X1_52 : lkN RX1 52 yX4_fill cX4_fill 3 none 2 := ⟨⟨"ChairStamps", List.mem_of_getElem? (i := 0) (by decide +kernel)⟩, big_all [58, 21, 59] (by decide +kernel), by decide +kernel⟩
theorem k_X1_56 : lkN RX1 56 yX4_put cX4_put 3 none 3 := ⟨⟨"ChairStamps", List.mem_of_getElem? (i := 1) (by decide +kernel)⟩, big_all [61, 21, 62] (by decide +kernel), by decide +kernel⟩
theorem k_X1_60 : lkN RX1 60 yX4_copyRow cX4_copyRow 3 none 2 := ⟨⟨"ChairStamps", List.mem_of_getElem? (i := 23) (by decide +kernel)⟩, big_all [684, 21, 685] (by decide +kernel), by decide +kernel⟩
theorem k_X1_64 : lkN RX1 64 yX4_at cX4_at 2 (some .int) 2 := ⟨⟨"ChairStamps", List.mem_of_getElem? (i := 21) (by decide +kernel)⟩, big_all [211, 21, 212] (by decide +kernel), by decide +kernel⟩
theorem k_X1_76 : lkS RX1 76 yJ9_min_7cf53 cJ9_min_7cf53 2 (some .int) 2 := ⟨big_all [344, 254, 34, 255] (by decide +kernel), by decide +kernel⟩
theorem k_X1_82 : lkS RX1 82 yJ9_max_7cf53 cJ9_max_7cf53 2 (some .int) 2 := ⟨big_all [345, 251, 34, 252] (by decide +kernel), by decide +kernel⟩
theorem k_X1_104 : lkN RX1 104 yX4_within cX4_within 3 (some .boolean) 3 := ⟨⟨"ChairStamps", List.mem_of_getElem? (i := 22) (by decide +kernel)⟩, big_all [315, 21, 316] (by decide +kernel), by decide +kernel⟩
theorem k_X2_28 : lkN RX2 28 yX4_put cX4_put 3 none 3 := ⟨⟨"ChairStamps", List.mem_of_getElem? (i := 20) (by decide +kernel)⟩, big_all [61, 21, 62] (by decide +kernel), by decide +kernel⟩
theorem k_X2_43 : lkN RX2 43 yX4_at cX4_at 2 (some .int) 2 := ⟨⟨"ChairStamps", List.mem_of_getElem? (i := 18) (by decide +kernel)⟩, big_all [211, 21, 212] (by decide +kernel), by decide +kernel⟩
theorem k_X2_61 : lkN RX2 61 yX4_within cX4_within 3 (some .boolean) 3 := ⟨⟨"ChairStamps", List.mem_of_getElem? (i := 19) (by decide +kernel)⟩, big_all [315, 21, 316] (by decide +kernel), by decide +kernel⟩
theorem k_X5_29 : lkS RX5 29 yX5_clear cX5_clear 2 none 1 := ⟨big_all [883, 884, 26, 885] (by decide +kernel), by decide +kernel⟩
theorem k_X5_37 : lkS RX5 37 yX5_in cX5_in 6 (some .boolean) 3 := ⟨big_all [930, 931, 26, 932] (by decide +kernel), by decide +kernel⟩
theorem k_X5_51 : lkS RX5 51 yX5_of cX5_of 3 (some .int) 3 := ⟨big_all [986, 987, 26, 988] (by decide +kernel), by decide +kernel⟩
theorem k_X5_55 : lkS RX5 55 yX5_spotOf cX5_spotOf 3 (some .int) 3 := ⟨big_all [1030, 1031, 26, 1032] (by decide +kernel), by decide +kernel⟩
theorem k_X5_58 : lkS RX5 58 yX5_reach cX5_reach 3 (some .int) 3 := ⟨big_all [1027, 1028, 26, 1029] (by decide +kernel), by decide +kernel⟩
theorem k_X5_61 : lkS RX5 61 yX5_tilt cX5_tilt 2 (some .int) 2 := ⟨big_all [1024, 1025, 26, 1026] (by decide +kernel), by decide +kernel⟩
theorem k_X5_65 : lkS RX5 65 yX5_without cX5_without 1 (some .int) 1 := ⟨big_all [1033, 1034, 26, 1035] (by decide +kernel), by decide +kernel⟩
theorem k_X5_69 : lkS RX5 69 yX5_wobbleOf cX5_wobbleOf 2 (some .int) 2 := ⟨big_all [1021, 1022, 26, 1023] (by decide +kernel), by decide +kernel⟩
theorem k_X5_72 : lkS RX5 72 yX5_leanOf cX5_leanOf 6 (some .int) 2 := ⟨big_all [1042, 1043, 26, 1044] (by decide +kernel), by decide +kernel⟩
theorem k_X5_75 : lkS RX5 75 yX5_seatOf cX5_seatOf 4 (some .int) 2 := ⟨big_all [1045, 1046, 26, 1047] (by decide +kernel), by decide +kernel⟩
theorem k_X5_78 : lkS RX5 78 yX5_lay cX5_lay 4 none 4 := ⟨big_all [965, 966, 26, 967] (by decide +kernel), by decide +kernel⟩
theorem k_X5_82 : lkS RX5 82 yX5_voids cX5_voids 2 none 2 := ⟨big_all [995, 996, 26, 997] (by decide +kernel), by decide +kernel⟩
theorem k_X5_86 : lkS RX5 86 yX5_leg cX5_leg 4 (some .int) 4 := ⟨big_all [992, 993, 26, 994] (by decide +kernel), by decide +kernel⟩
theorem k_X5_90 : lkS RX5 90 yX5_reason cX5_reason 3 (some .int) 2 := ⟨big_all [1039, 1040, 26, 1041] (by decide +kernel), by decide +kernel⟩
theorem k_X5_93 : lkS RX5 93 yX5_idleOf cX5_idleOf 4 (some .int) 2 := ⟨big_all [1051, 1052, 26, 1053] (by decide +kernel), by decide +kernel⟩
theorem k_X5_96 : lkS RX5 96 yX5_isChair cX5_isChair 2 (some .boolean) 2 := ⟨big_all [983, 984, 26, 985] (by decide +kernel), by decide +kernel⟩
theorem k_X5_128 : lkS RX5 128 yX5_canSaw cX5_canSaw 4 (some .boolean) 4 := ⟨big_all [980, 981, 26, 982] (by decide +kernel), by decide +kernel⟩
theorem k_X5_132 : lkS RX5 132 yX5_sawOn cX5_sawOn 4 (some .int) 4 := ⟨big_all [989, 990, 26, 991] (by decide +kernel), by decide +kernel⟩
theorem k_X5_135 : lkS RX5 135 yX5_canShim cX5_canShim 4 (some .boolean) 4 := ⟨big_all [998, 999, 26, 1000] (by decide +kernel), by decide +kernel⟩
theorem k_X5_138 : lkS RX5 138 yX5_shimOn cX5_shimOn 4 (some .int) 4 := ⟨big_all [1001, 1002, 26, 1003] (by decide +kernel), by decide +kernel⟩
theorem k_X5_145 : lkS RX5 145 yX5_floorOn cX5_floorOn 6 (some .int) 5 := ⟨big_all [1008, 1009, 26, 1010] (by decide +kernel), by decide +kernel⟩
theorem k_X5_149 : lkS RX5 149 yX5_isFloor cX5_isFloor 2 (some .boolean) 2 := ⟨big_all [1015, 1016, 26, 1017] (by decide +kernel), by decide +kernel⟩
theorem k_X5_152 : lkS RX5 152 yX5_bringOn cX5_bringOn 4 (some .int) 4 := ⟨big_all [1018, 1019, 26, 1020] (by decide +kernel), by decide +kernel⟩
theorem k_X5_155 : lkS RX5 155 yX5_isBound cX5_isBound 2 (some .boolean) 2 := ⟨big_all [1058, 1059, 26, 1060] (by decide +kernel), by decide +kernel⟩
theorem k_X5_159 : lkS RX5 159 yX5_boundOn cX5_boundOn 6 (some .int) 4 := ⟨big_all [1064, 1065, 26, 1066] (by decide +kernel), by decide +kernel⟩
theorem k_X5_162 : lkS RX5 162 yX5_chairOn cX5_chairOn 5 (some .int) 3 := ⟨big_all [962, 963, 26, 964] (by decide +kernel), by decide +kernel⟩
theorem k_X5_176 : lkS RX5 176 yX5_testOn cX5_testOn 3 (some .int) 2 := ⟨big_all [1036, 1037, 26, 1038] (by decide +kernel), by decide +kernel⟩
theorem k_X5_179 : lkS RX5 179 yX5_sitOn cX5_sitOn 9 (some .int) 3 := ⟨big_all [1048, 1049, 26, 1050] (by decide +kernel), by decide +kernel⟩
theorem k_X5_192 : lkS RX5 192 yX5_copyState cX5_copyState 5 none 4 := ⟨big_all [1071, 1072, 26, 1073] (by decide +kernel), by decide +kernel⟩
theorem k_X5_201 : lkS RX5 201 yX5_stamped cX5_stamped 3 (some .int) 1 := ⟨big_all [1079, 1080, 26, 1081] (by decide +kernel), by decide +kernel⟩
theorem k_X5_206 : lkS RX5 206 yX5_isFour cX5_isFour 1 (some .boolean) 1 := ⟨big_all [1095, 1096, 26, 1097] (by decide +kernel), by decide +kernel⟩
theorem k_X5_214 : lkS RX5 214 yX5_levelOn cX5_levelOn 6 (some .int) 4 := ⟨big_all [1129, 1130, 26, 1131] (by decide +kernel), by decide +kernel⟩
theorem k_X5_221 : lkS RX5 221 yX5_isSetting cX5_isSetting 2 (some .boolean) 2 := ⟨big_all [1162, 1163, 26, 1164] (by decide +kernel), by decide +kernel⟩
theorem k_X5_224 : lkS RX5 224 yX5_change cX5_change 4 (some .int) 3 := ⟨big_all [1165, 1166, 26, 1167] (by decide +kernel), by decide +kernel⟩
theorem k_X5_241 : lkS RX5 241 yX5_turnLeg cX5_turnLeg 6 none 3 := ⟨big_all [1220, 1221, 26, 1222] (by decide +kernel), by decide +kernel⟩
theorem k_X5_251 : lkS RX5 251 yX5_turnOf cX5_turnOf 4 none 3 := ⟨big_all [1217, 1218, 26, 1219] (by decide +kernel), by decide +kernel⟩
theorem k_J0_637 : lkS RJ0 637 yJ1_indexOf_4cfef cJ1_indexOf_4cfef 4 (some .int) 4 := ⟨big_all [244, 245, 33, 246] (by decide +kernel), by decide +kernel⟩
theorem k_J0_640 : lkS RJ0 640 yJ2_indexOf_4cfef cJ2_indexOf_4cfef 4 (some .int) 4 := ⟨big_all [259, 260, 35, 261] (by decide +kernel), by decide +kernel⟩
theorem k_J0_1062 : lkS RJ0 1062 yJ3_checkFromToIndex_8c36e cJ3_checkFromToIndex_8c36e 4 (some .int) 4 := ⟨big_all [279, 280, 36, 281] (by decide +kernel), by decide +kernel⟩
theorem k_J1_38 : lkS RJ1 38 yJ9_min_7cf53 cJ9_min_7cf53 2 (some .int) 2 := ⟨big_all [253, 254, 34, 255] (by decide +kernel), by decide +kernel⟩
theorem k_J1_88 : lkS RJ1 88 yJ1_canEncode_9a6ad cJ1_canEncode_9a6ad 1 (some .boolean) 1 := ⟨big_all [247, 248, 33, 249] (by decide +kernel), by decide +kernel⟩
theorem k_J1_92 : lkS RJ1 92 yJ9_max_7cf53 cJ9_max_7cf53 2 (some .int) 2 := ⟨big_all [250, 251, 34, 252] (by decide +kernel), by decide +kernel⟩
theorem k_J1_95 : lkS RJ1 95 yJ1_indexOfChar_4cfef cJ1_indexOfChar_4cfef 6 (some .int) 4 := ⟨big_all [256, 257, 33, 258] (by decide +kernel), by decide +kernel⟩
theorem k_J2_48 : lkS RJ2 48 yJ2_length_9d52b cJ2_length_9d52b 1 (some .int) 1 := ⟨big_all [271, 272, 35, 273] (by decide +kernel), by decide +kernel⟩
theorem k_J2_71 : lkS RJ2 71 yJ2_getChar_3b067 cJ2_getChar_3b067 2 (some .char) 2 := ⟨big_all [285, 286, 35, 287] (by decide +kernel), by decide +kernel⟩
theorem k_J2_96 : lkS RJ2 96 yJ2_checkBoundsBeginEnd_d044e cJ2_checkBoundsBeginEnd_d044e 3 none 3 := ⟨big_all [268, 269, 35, 270] (by decide +kernel), by decide +kernel⟩
theorem k_J2_157 : lkS RJ2 157 yJ11_highSurrogate_5068e cJ11_highSurrogate_5068e 1 (some .char) 1 := ⟨big_all [300, 301, 37, 302] (by decide +kernel), by decide +kernel⟩
theorem k_J2_161 : lkS RJ2 161 yJ11_lowSurrogate_5068e cJ11_lowSurrogate_5068e 1 (some .char) 1 := ⟨big_all [304, 305, 37, 306] (by decide +kernel), by decide +kernel⟩
theorem k_J2_164 : lkS RJ2 164 yJ11_isValidCodePoint_9a6ad cJ11_isValidCodePoint_9a6ad 2 (some .boolean) 1 := ⟨big_all [297, 298, 37, 299] (by decide +kernel), by decide +kernel⟩
theorem k_J2_183 : lkS RJ2 183 yJ9_min_7cf53 cJ9_min_7cf53 2 (some .int) 2 := ⟨big_all [263, 254, 34, 255] (by decide +kernel), by decide +kernel⟩
theorem k_J2_224 : lkS RJ2 224 yJ9_max_7cf53 cJ9_max_7cf53 2 (some .int) 2 := ⟨big_all [262, 251, 34, 252] (by decide +kernel), by decide +kernel⟩
theorem k_J2_228 : lkS RJ2 228 yJ2_indexOfChar_4cfef cJ2_indexOfChar_4cfef 4 (some .int) 4 := ⟨big_all [265, 266, 35, 267] (by decide +kernel), by decide +kernel⟩
theorem k_J2_232 : lkS RJ2 232 yJ2_indexOfSupplementary_4cfef cJ2_indexOfSupplementary_4cfef 7 (some .int) 4 := ⟨big_all [294, 295, 35, 296] (by decide +kernel), by decide +kernel⟩
theorem k_J2_241 : lkS RJ2 241 yJ0_checkBoundsBeginEnd_23922 cJ0_checkBoundsBeginEnd_23922 3 none 3 := ⟨big_all [274, 275, 32, 276] (by decide +kernel), by decide +kernel⟩
theorem k_J2_244 : lkS RJ2 244 yJ2_indexOfCharUnsafe_4cfef cJ2_indexOfCharUnsafe_4cfef 5 (some .int) 4 := ⟨big_all [282, 283, 35, 284] (by decide +kernel), by decide +kernel⟩
theorem k_X4_54 : lkV RX4 54 yX2_isFull cX2_isFull 1 (some .boolean) 0 := ⟨big_all [431, 432, 433, 25, 434] (by decide +kernel), by decide +kernel⟩
theorem k_X4_63 : lkV RX4 63 yX2_add cX2_add 2 (some .int) 1 := ⟨big_all [451, 452, 453, 25, 454] (by decide +kernel), by decide +kernel⟩
theorem k_X4_67 : lkV RX4 67 yX2_empty cX2_empty 2 (some .int) 0 := ⟨big_all [194, 195, 196, 25, 197] (by decide +kernel), by decide +kernel⟩
theorem k_X4_71 : lkV RX4 71 yX2_firstError cX2_firstError 2 (some .int) 0 := ⟨big_all [202, 203, 204, 25, 205] (by decide +kernel), by decide +kernel⟩
theorem k_X4_76 : lkV RX4 76 yX1_makeNew cX1_makeNew 2 none 0 := ⟨big_all [463, 54, 55, 22, 56] (by decide +kernel), by decide +kernel⟩
theorem k_X4_79 : lkV RX4 79 yX0_forget cX0_forget 1 none 0 := ⟨big_all [464, 465, 466, 23, 467] (by decide +kernel), by decide +kernel⟩
theorem k_X4_86 : lkV RX4 86 yX2_goToCommands cX2_goToCommands 1 none 0 := ⟨big_all [468, 214, 215, 25, 216] (by decide +kernel), by decide +kernel⟩
theorem k_X4_89 : lkV RX4 89 yX2_readCommand cX2_readCommand 5 (some .boolean) 0 := ⟨big_all [469, 218, 219, 25, 220] (by decide +kernel), by decide +kernel⟩
theorem k_X4_92 : lkV RX4 92 yX4_doCommand cX4_doCommand 5 (some .int) 0 := ⟨big_all [470, 472, 1, 21, 473] (by decide +kernel), by decide +kernel⟩
theorem k_X4_104 : lkV RX4 104 yX1_stampedChairs cX1_stampedChairs 3 (some .int) 0 := ⟨big_all [557, 558, 559, 22, 560] (by decide +kernel), by decide +kernel⟩
theorem k_X4_115 : lkV RX4 115 yX4_needChair cX4_needChair 2 none 1 := ⟨big_all [569, 571, 2, 21, 572] (by decide +kernel), by decide +kernel⟩
theorem k_X4_128 : lkV RX4 128 yX1_leanNow cX1_leanNow 2 (some .int) 1 := ⟨big_all [590, 591, 592, 22, 593] (by decide +kernel), by decide +kernel⟩
theorem k_X4_131 : lkV RX4 131 yX1_seatHeight cX1_seatHeight 4 (some .int) 1 := ⟨big_all [594, 347, 348, 22, 349] (by decide +kernel), by decide +kernel⟩
theorem k_X4_134 : lkV RX4 134 yX1_idleLeg cX1_idleLeg 6 (some .int) 1 := ⟨big_all [595, 526, 527, 22, 528] (by decide +kernel), by decide +kernel⟩
theorem k_X4_140 : lkV RX4 140 yX1_reason cX1_reason 6 (some .int) 1 := ⟨big_all [323, 324, 325, 22, 326] (by decide +kernel), by decide +kernel⟩
theorem k_X4_150 : lkV RX4 150 yX1_wobbleNow cX1_wobbleNow 2 (some .int) 1 := ⟨big_all [605, 606, 607, 22, 608] (by decide +kernel), by decide +kernel⟩
theorem k_X4_153 : lkV RX4 153 yX1_greatestGap cX1_greatestGap 4 (some .int) 1 := ⟨big_all [609, 610, 611, 22, 612] (by decide +kernel), by decide +kernel⟩
theorem k_X4_159 : lkV RX4 159 yX1_length cX1_length 3 (some .int) 2 := ⟨big_all [628, 351, 352, 22, 353] (by decide +kernel), by decide +kernel⟩
theorem k_X4_163 : lkV RX4 163 yX1_reachNow cX1_reachNow 3 (some .int) 2 := ⟨big_all [629, 530, 531, 22, 532] (by decide +kernel), by decide +kernel⟩
theorem k_X4_168 : lkV RX4 168 yX4_needFloor cX4_needFloor 2 none 1 := ⟨big_all [638, 640, 3, 21, 641] (by decide +kernel), by decide +kernel⟩
theorem k_X4_171 : lkV RX4 171 yX1_height cX1_height 3 (some .int) 2 := ⟨big_all [644, 645, 646, 22, 647] (by decide +kernel), by decide +kernel⟩
theorem k_X4_174 : lkV RX4 174 yX1_limit cX1_limit 3 (some .int) 2 := ⟨big_all [655, 337, 338, 22, 339] (by decide +kernel), by decide +kernel⟩
theorem k_X4_182 : lkV RX4 182 yX0_draft cX0_draft 3 none 1 := ⟨big_all [671, 672, 673, 23, 674] (by decide +kernel), by decide +kernel⟩
theorem k_X4_186 : lkV RX4 186 yX1_addChair cX1_addChair 5 (some .int) 2 := ⟨big_all [475, 476, 477, 22, 478] (by decide +kernel), by decide +kernel⟩
theorem k_X4_189 : lkV RX4 189 yX4_acted cX4_acted 2 (some .int) 1 := ⟨big_all [686, 688, 4, 21, 689] (by decide +kernel), by decide +kernel⟩
theorem k_X4_192 : lkV RX4 192 yX1_layFloor cX1_layFloor 6 (some .int) 4 := ⟨big_all [500, 501, 502, 22, 503] (by decide +kernel), by decide +kernel⟩
theorem k_X4_196 : lkV RX4 196 yX1_changeSpot cX1_changeSpot 6 (some .int) 3 := ⟨big_all [712, 713, 714, 22, 715] (by decide +kernel), by decide +kernel⟩
theorem k_X4_200 : lkV RX4 200 yX1_moveChair cX1_moveChair 4 (some .int) 3 := ⟨big_all [508, 509, 510, 22, 511] (by decide +kernel), by decide +kernel⟩
theorem k_X4_203 : lkV RX4 203 yX1_sawLeg cX1_sawLeg 5 (some .int) 3 := ⟨big_all [480, 481, 482, 22, 483] (by decide +kernel), by decide +kernel⟩
theorem k_X4_206 : lkV RX4 206 yX1_shimLeg cX1_shimLeg 5 (some .int) 3 := ⟨big_all [496, 497, 498, 22, 499] (by decide +kernel), by decide +kernel⟩
theorem k_X4_209 : lkV RX4 209 yX1_testChair cX1_testChair 3 (some .int) 1 := ⟨big_all [516, 517, 518, 22, 519] (by decide +kernel), by decide +kernel⟩
theorem k_X4_212 : lkV RX4 212 yX1_sitDown cX1_sitDown 7 (some .int) 2 := ⟨big_all [521, 522, 523, 22, 524] (by decide +kernel), by decide +kernel⟩
theorem k_X4_215 : lkV RX4 215 yX1_changeBound cX1_changeBound 6 (some .int) 3 := ⟨big_all [541, 542, 543, 22, 544] (by decide +kernel), by decide +kernel⟩
theorem k_X4_218 : lkV RX4 218 yX1_changeSetting cX1_changeSetting 6 (some .int) 2 := ⟨big_all [766, 767, 768, 22, 769] (by decide +kernel), by decide +kernel⟩
theorem k_X4_226 : lkV RX4 226 yX0_takeBack cX0_takeBack 3 none 1 := ⟨big_all [778, 779, 780, 23, 781] (by decide +kernel), by decide +kernel⟩
theorem k_X4_231 : lkV RX4 231 yX1_bestQuarters cX1_bestQuarters 6 (some .int) 2 := ⟨big_all [790, 791, 792, 22, 793] (by decide +kernel), by decide +kernel⟩
theorem k_X4_234 : lkV RX4 234 yX1_wobbleOn cX1_wobbleOn 6 (some .int) 3 := ⟨big_all [794, 329, 330, 22, 331] (by decide +kernel), by decide +kernel⟩
theorem k_X4_237 : lkV RX4 237 yX1_copyFrom cX1_copyFrom 2 none 1 := ⟨big_all [802, 680, 681, 22, 682] (by decide +kernel), by decide +kernel⟩
theorem k_X4_240 : lkV RX4 240 yX1_bestSawnLeg cX1_bestSawnLeg 8 (some .int) 1 := ⟨big_all [803, 804, 805, 22, 806] (by decide +kernel), by decide +kernel⟩
theorem k_X4_245 : lkV RX4 245 yX1_bestFloorFor cX1_bestFloorFor 6 (some .int) 1 := ⟨big_all [824, 825, 826, 22, 827] (by decide +kernel), by decide +kernel⟩
theorem k_X4_278 : lkV RX4 278 yX1_hasChair cX1_hasChair 2 (some .boolean) 1 := ⟨big_all [573, 485, 486, 22, 487] (by decide +kernel), by decide +kernel⟩
theorem k_X4_287 : lkV RX4 287 yX1_hasFloor cX1_hasFloor 2 (some .boolean) 1 := ⟨big_all [642, 513, 514, 22, 515] (by decide +kernel), by decide +kernel⟩
theorem k_X4_302 : lkV RX4 302 yX0_keepDraft cX0_keepDraft 1 none 0 := ⟨big_all [693, 694, 695, 23, 696] (by decide +kernel), by decide +kernel⟩
theorem k_X0_25 : lkV RX0 25 yX0_place cX0_place 2 (some (.object "ChairStamps$Office")) 1 := ⟨big_all [675, 676, 677, 23, 678] (by decide +kernel), by decide +kernel⟩
theorem k_X0_29 : lkV RX0 29 yX1_copyFrom cX1_copyFrom 2 none 1 := ⟨big_all [679, 680, 681, 22, 682] (by decide +kernel), by decide +kernel⟩
theorem k_X1_42 : lkV RX1 42 yX1_makeNew cX1_makeNew 2 none 0 := ⟨big_all [53, 54, 55, 22, 56] (by decide +kernel), by decide +kernel⟩
theorem k_X1_68 : lkV RX1 68 yX1_reachOn cX1_reachOn 5 (some .int) 4 := ⟨big_all [332, 333, 334, 22, 335] (by decide +kernel), by decide +kernel⟩
theorem k_X1_72 : lkV RX1 72 yX1_wobbleOn cX1_wobbleOn 6 (some .int) 3 := ⟨big_all [328, 329, 330, 22, 331] (by decide +kernel), by decide +kernel⟩
theorem k_X1_85 : lkV RX1 85 yX1_leanOn cX1_leanOn 8 (some .int) 3 := ⟨big_all [340, 341, 342, 22, 343] (by decide +kernel), by decide +kernel⟩
theorem k_X1_88 : lkV RX1 88 yX1_reachNow cX1_reachNow 3 (some .int) 2 := ⟨big_all [529, 530, 531, 22, 532] (by decide +kernel), by decide +kernel⟩
theorem k_X1_91 : lkV RX1 91 yX1_gapUnder cX1_gapUnder 5 (some .int) 2 := ⟨big_all [613, 614, 615, 22, 616] (by decide +kernel), by decide +kernel⟩
theorem k_X1_94 : lkV RX1 94 yX1_length cX1_length 3 (some .int) 2 := ⟨big_all [350, 351, 352, 22, 353] (by decide +kernel), by decide +kernel⟩
theorem k_X1_97 : lkV RX1 97 yX1_limit cX1_limit 3 (some .int) 2 := ⟨big_all [336, 337, 338, 22, 339] (by decide +kernel), by decide +kernel⟩
theorem k_X1_100 : lkV RX1 100 yX1_seatHeight cX1_seatHeight 4 (some .int) 1 := ⟨big_all [346, 347, 348, 22, 349] (by decide +kernel), by decide +kernel⟩
theorem k_X1_108 : lkV RX1 108 yX1_isSpot cX1_isSpot 2 (some .boolean) 1 := ⟨big_all [504, 505, 506, 22, 507] (by decide +kernel), by decide +kernel⟩
theorem k_X1_112 : lkV RX1 112 yX1_hasFloor cX1_hasFloor 2 (some .boolean) 1 := ⟨big_all [512, 513, 514, 22, 515] (by decide +kernel), by decide +kernel⟩
theorem k_X1_115 : lkV RX1 115 yX1_height cX1_height 3 (some .int) 2 := ⟨big_all [716, 645, 646, 22, 647] (by decide +kernel), by decide +kernel⟩
theorem k_X1_118 : lkV RX1 118 yX1_voidStamp cX1_voidStamp 2 (some .int) 1 := ⟨big_all [488, 489, 490, 22, 491] (by decide +kernel), by decide +kernel⟩
theorem k_X1_121 : lkV RX1 121 yX1_hasChair cX1_hasChair 2 (some .boolean) 1 := ⟨big_all [484, 485, 486, 22, 487] (by decide +kernel), by decide +kernel⟩
theorem k_X1_124 : lkV RX1 124 yX1_count cX1_count 3 none 2 := ⟨big_all [492, 493, 494, 22, 495] (by decide +kernel), by decide +kernel⟩
theorem k_X1_128 : lkV RX1 128 yX1_reason cX1_reason 6 (some .int) 1 := ⟨big_all [520, 324, 325, 22, 326] (by decide +kernel), by decide +kernel⟩
theorem k_X1_131 : lkV RX1 131 yX1_idleLeg cX1_idleLeg 6 (some .int) 1 := ⟨big_all [525, 526, 527, 22, 528] (by decide +kernel), by decide +kernel⟩
theorem k_X1_134 : lkV RX1 134 yX1_wearOf cX1_wearOf 3 (some .int) 1 := ⟨big_all [533, 534, 535, 22, 536] (by decide +kernel), by decide +kernel⟩
theorem k_X1_137 : lkV RX1 137 yX1_wearLeg cX1_wearLeg 6 (some .int) 3 := ⟨big_all [537, 538, 539, 22, 540] (by decide +kernel), by decide +kernel⟩
theorem k_X1_140 : lkV RX1 140 yX1_isBound cX1_isBound 3 (some .boolean) 2 := ⟨big_all [545, 546, 547, 22, 548] (by decide +kernel), by decide +kernel⟩
theorem k_X1_144 : lkV RX1 144 yX1_bestQuarters cX1_bestQuarters 6 (some .int) 2 := ⟨big_all [828, 791, 792, 22, 793] (by decide +kernel), by decide +kernel⟩
theorem k_X1_147 : lkV RX1 147 yX1_wobbleNow cX1_wobbleNow 2 (some .int) 1 := ⟨big_all [807, 606, 607, 22, 608] (by decide +kernel), by decide +kernel⟩
theorem k_X1_150 : lkV RX1 150 yX1_leanNow cX1_leanNow 2 (some .int) 1 := ⟨big_all [808, 591, 592, 22, 593] (by decide +kernel), by decide +kernel⟩
theorem k_X2_32 : lkV RX2 32 yX2_codeAt cX2_codeAt 2 (some .int) 1 := ⟨big_all [206, 207, 208, 25, 209] (by decide +kernel), by decide +kernel⟩
theorem k_X2_36 : lkV RX2 36 yX2_goToCommands cX2_goToCommands 1 none 0 := ⟨big_all [213, 214, 215, 25, 216] (by decide +kernel), by decide +kernel⟩
theorem k_X2_39 : lkV RX2 39 yX2_readCommand cX2_readCommand 5 (some .boolean) 0 := ⟨big_all [217, 218, 219, 25, 220] (by decide +kernel), by decide +kernel⟩
theorem k_X2_49 : lkV RX2 49 yJ0_indexOf_0f7a4 cJ0_indexOf_0f7a4 2 (some .int) 1 := ⟨big_all [222, 223, 224, 32, 225] (by decide +kernel), by decide +kernel⟩
theorem k_X2_57 : lkV RX2 57 yX2_readNumber cX2_readNumber 8 (some .int) 3 := ⟨big_all [310, 311, 312, 25, 313] (by decide +kernel), by decide +kernel⟩
theorem k_L_7 : lkV RL 7 yX4_append cX4_append 2 (some .int) 1 := ⟨big_all [359, 360, 361, 21, 362] (by decide +kernel), by decide +kernel⟩
theorem k_L_17 : lkV RL 17 yX4_load cX4_load 3 (some .int) 0 := ⟨big_all [458, 459, 460, 21, 461] (by decide +kernel), by decide +kernel⟩
theorem k_L_21 : lkV RL 21 yX4_about cX4_about 2 (some .int) 1 := ⟨big_all [552, 553, 554, 21, 555] (by decide +kernel), by decide +kernel⟩
theorem k_L_24 : lkV RL 24 yX4_chairOf cX4_chairOf 3 (some .int) 2 := ⟨big_all [565, 566, 567, 21, 568] (by decide +kernel), by decide +kernel⟩
theorem k_L_30 : lkV RL 30 yX4_wobble cX4_wobble 3 (some .int) 2 := ⟨big_all [600, 601, 602, 21, 603] (by decide +kernel), by decide +kernel⟩
theorem k_L_33 : lkV RL 33 yX4_legOf cX4_legOf 4 (some .int) 3 := ⟨big_all [620, 621, 622, 21, 623] (by decide +kernel), by decide +kernel⟩
theorem k_L_37 : lkV RL 37 yX4_spot cX4_spot 3 (some .int) 2 := ⟨big_all [634, 635, 636, 21, 637] (by decide +kernel), by decide +kernel⟩
theorem k_L_40 : lkV RL 40 yX4_boundOf cX4_boundOf 3 (some .int) 2 := ⟨big_all [651, 652, 653, 21, 654] (by decide +kernel), by decide +kernel⟩
theorem k_L_43 : lkV RL 43 yX4_setting cX4_setting 2 (some .int) 1 := ⟨big_all [659, 660, 661, 21, 662] (by decide +kernel), by decide +kernel⟩
theorem k_L_46 : lkV RL 46 yX4_chair cX4_chair 3 (some .int) 2 := ⟨big_all [667, 668, 669, 21, 670] (by decide +kernel), by decide +kernel⟩
theorem k_L_49 : lkV RL 49 yX4_floor cX4_floor 5 (some .int) 4 := ⟨big_all [701, 702, 703, 21, 704] (by decide +kernel), by decide +kernel⟩
theorem k_L_53 : lkV RL 53 yX4_level cX4_level 4 (some .int) 3 := ⟨big_all [708, 709, 710, 21, 711] (by decide +kernel), by decide +kernel⟩
theorem k_L_56 : lkV RL 56 yX4_bring cX4_bring 4 (some .int) 3 := ⟨big_all [720, 721, 722, 21, 723] (by decide +kernel), by decide +kernel⟩
theorem k_L_59 : lkV RL 59 yX4_saw cX4_saw 4 (some .int) 3 := ⟨big_all [727, 728, 729, 21, 730] (by decide +kernel), by decide +kernel⟩
theorem k_L_62 : lkV RL 62 yX4_shim cX4_shim 4 (some .int) 3 := ⟨big_all [734, 735, 736, 21, 737] (by decide +kernel), by decide +kernel⟩
theorem k_L_65 : lkV RL 65 yX4_test cX4_test 2 (some .int) 1 := ⟨big_all [741, 742, 743, 21, 744] (by decide +kernel), by decide +kernel⟩
theorem k_L_68 : lkV RL 68 yX4_sit cX4_sit 3 (some .int) 2 := ⟨big_all [748, 749, 750, 21, 751] (by decide +kernel), by decide +kernel⟩
theorem k_L_71 : lkV RL 71 yX4_bound cX4_bound 4 (some .int) 3 := ⟨big_all [755, 756, 757, 21, 758] (by decide +kernel), by decide +kernel⟩
theorem k_L_74 : lkV RL 74 yX4_set cX4_set 3 (some .int) 2 := ⟨big_all [762, 763, 764, 21, 765] (by decide +kernel), by decide +kernel⟩
theorem k_L_77 : lkV RL 77 yX4_undo cX4_undo 1 (some .int) 0 := ⟨big_all [773, 774, 775, 21, 776] (by decide +kernel), by decide +kernel⟩
theorem k_L_80 : lkV RL 80 yX4_bestTurn cX4_bestTurn 5 (some .int) 3 := ⟨big_all [785, 786, 787, 21, 788] (by decide +kernel), by decide +kernel⟩
theorem k_L_83 : lkV RL 83 yX4_bestSaw cX4_bestSaw 2 (some .int) 1 := ⟨big_all [798, 799, 800, 21, 801] (by decide +kernel), by decide +kernel⟩
theorem k_L_86 : lkV RL 86 yX4_failsIn cX4_failsIn 4 (some .int) 2 := ⟨big_all [812, 813, 814, 21, 815] (by decide +kernel), by decide +kernel⟩
theorem k_L_89 : lkV RL 89 yX4_bestFloor cX4_bestFloor 2 (some .int) 1 := ⟨big_all [820, 821, 822, 21, 823] (by decide +kernel), by decide +kernel⟩
theorem k_L_92 : lkV RL 92 yX4_runScript cX4_runScript 6 (some .int) 2 := ⟨big_all [832, 833, 834, 21, 835] (by decide +kernel), by decide +kernel⟩
theorem k_L_96 : lkV RL 96 yX4_simulate cX4_simulate 8 (some .int) 2 := ⟨big_all [848, 849, 850, 21, 851] (by decide +kernel), by decide +kernel⟩
theorem k_L_100 : lkV RL 100 yX4_save cX4_save 3 (some .int) 1 := ⟨big_all [861, 862, 863, 21, 864] (by decide +kernel), by decide +kernel⟩
theorem k_L_103 : lkV RL 103 yX4_restore cX4_restore 3 (some .int) 1 := ⟨big_all [872, 873, 874, 21, 875] (by decide +kernel), by decide +kernel⟩
theorem k_L_115 : lkV RL 115 yX5_append cX5_append 2 (some .int) 1 := ⟨big_all [925, 926, 927, 26, 928] (by decide +kernel), by decide +kernel⟩
theorem k_L_116 : lkV RL 116 yX5_thrown cX5_thrown 1 (some .int) 0 := ⟨big_all [921, 922, 923, 26, 924] (by decide +kernel), by decide +kernel⟩
theorem k_L_119 : lkV RL 119 yX4_clearText cX4_clearText 1 (some .int) 0 := ⟨big_all [190, 191, 192, 21, 193] (by decide +kernel), by decide +kernel⟩
theorem k_L_122 : lkV RL 122 yX5_clearText cX5_clearText 2 (some .int) 0 := ⟨big_all [937, 938, 939, 26, 940] (by decide +kernel), by decide +kernel⟩
theorem k_L_123 : lkV RL 123 yX4_errorPosition cX4_errorPosition 1 (some .int) 0 := ⟨big_all [198, 199, 200, 21, 201] (by decide +kernel), by decide +kernel⟩
theorem k_L_126 : lkV RL 126 yX5_errorPosition cX5_errorPosition 1 (some .int) 0 := ⟨big_all [941, 942, 943, 26, 944] (by decide +kernel), by decide +kernel⟩
theorem k_L_130 : lkV RL 130 yX5_load cX5_load 1 (some .int) 0 := ⟨big_all [1067, 1068, 1069, 26, 1070] (by decide +kernel), by decide +kernel⟩
theorem k_L_133 : lkV RL 133 yX5_about cX5_about 2 (some .int) 1 := ⟨big_all [1074, 1075, 1076, 26, 1077] (by decide +kernel), by decide +kernel⟩
theorem k_L_137 : lkV RL 137 yX5_chairOf cX5_chairOf 3 (some .int) 2 := ⟨big_all [1082, 1083, 1084, 26, 1085] (by decide +kernel), by decide +kernel⟩
theorem k_L_140 : lkV RL 140 yX5_wobble cX5_wobble 3 (some .int) 2 := ⟨big_all [1087, 1088, 1089, 26, 1090] (by decide +kernel), by decide +kernel⟩
theorem k_L_144 : lkV RL 144 yX5_legOf cX5_legOf 4 (some .int) 3 := ⟨big_all [1091, 1092, 1093, 26, 1094] (by decide +kernel), by decide +kernel⟩
theorem k_L_147 : lkV RL 147 yX5_spot cX5_spot 3 (some .int) 2 := ⟨big_all [1100, 1101, 1102, 26, 1103] (by decide +kernel), by decide +kernel⟩
theorem k_L_150 : lkV RL 150 yX5_boundOf cX5_boundOf 3 (some .int) 2 := ⟨big_all [1104, 1105, 1106, 26, 1107] (by decide +kernel), by decide +kernel⟩
theorem k_L_153 : lkV RL 153 yX5_setting cX5_setting 2 (some .int) 1 := ⟨big_all [1108, 1109, 1110, 26, 1111] (by decide +kernel), by decide +kernel⟩
theorem k_L_156 : lkV RL 156 yX5_chair cX5_chair 3 (some .int) 2 := ⟨big_all [1112, 1113, 1114, 26, 1115] (by decide +kernel), by decide +kernel⟩
theorem k_L_160 : lkV RL 160 yX5_floor cX5_floor 6 (some .int) 4 := ⟨big_all [1120, 1121, 1122, 26, 1123] (by decide +kernel), by decide +kernel⟩
theorem k_L_163 : lkV RL 163 yX5_level cX5_level 4 (some .int) 3 := ⟨big_all [1125, 1126, 1127, 26, 1128] (by decide +kernel), by decide +kernel⟩
theorem k_L_166 : lkV RL 166 yX5_bring cX5_bring 4 (some .int) 3 := ⟨big_all [1132, 1133, 1134, 26, 1135] (by decide +kernel), by decide +kernel⟩
theorem k_L_169 : lkV RL 169 yX5_saw cX5_saw 4 (some .int) 3 := ⟨big_all [1136, 1137, 1138, 26, 1139] (by decide +kernel), by decide +kernel⟩
theorem k_L_172 : lkV RL 172 yX5_shim cX5_shim 4 (some .int) 3 := ⟨big_all [1141, 1142, 1143, 26, 1144] (by decide +kernel), by decide +kernel⟩
theorem k_L_175 : lkV RL 175 yX5_test cX5_test 2 (some .int) 1 := ⟨big_all [1146, 1147, 1148, 26, 1149] (by decide +kernel), by decide +kernel⟩
theorem k_L_178 : lkV RL 178 yX5_sit cX5_sit 3 (some .int) 2 := ⟨big_all [1150, 1151, 1152, 26, 1153] (by decide +kernel), by decide +kernel⟩
theorem k_L_181 : lkV RL 181 yX5_bound cX5_bound 4 (some .int) 3 := ⟨big_all [1154, 1155, 1156, 26, 1157] (by decide +kernel), by decide +kernel⟩
theorem k_L_184 : lkV RL 184 yX5_set cX5_set 3 (some .int) 2 := ⟨big_all [1158, 1159, 1160, 26, 1161] (by decide +kernel), by decide +kernel⟩
theorem k_L_187 : lkV RL 187 yX5_undo cX5_undo 1 (some .int) 0 := ⟨big_all [1168, 1169, 1170, 26, 1171] (by decide +kernel), by decide +kernel⟩
theorem k_L_190 : lkV RL 190 yX5_bestTurn cX5_bestTurn 6 (some .int) 3 := ⟨big_all [1172, 1173, 1174, 26, 1175] (by decide +kernel), by decide +kernel⟩
theorem k_L_193 : lkV RL 193 yX5_bestSaw cX5_bestSaw 7 (some .int) 1 := ⟨big_all [1181, 1182, 1183, 26, 1184] (by decide +kernel), by decide +kernel⟩
theorem k_L_196 : lkV RL 196 yX5_failsIn cX5_failsIn 4 (some .int) 2 := ⟨big_all [1185, 1186, 1187, 26, 1188] (by decide +kernel), by decide +kernel⟩
theorem k_L_199 : lkV RL 199 yX5_bestFloor cX5_bestFloor 4 (some .int) 1 := ⟨big_all [1189, 1190, 1191, 26, 1192] (by decide +kernel), by decide +kernel⟩
theorem k_L_200 : lkV RL 200 yX4_sound cX4_sound 3 (some .int) 0 := ⟨big_all [319, 320, 321, 21, 322] (by decide +kernel), by decide +kernel⟩
theorem k_L_203 : lkV RL 203 yX5_sound cX5_sound 3 (some .int) 0 := ⟨big_all [1193, 1194, 1195, 26, 1196] (by decide +kernel), by decide +kernel⟩
theorem k_L_209 : lkV RL 209 yX5_runScript cX5_runScript 8 (some .int) 2 := ⟨big_all [1197, 1198, 1199, 26, 1200] (by decide +kernel), by decide +kernel⟩
theorem k_L_213 : lkV RL 213 yX5_simulate cX5_simulate 8 (some .int) 2 := ⟨big_all [1210, 1211, 1212, 26, 1213] (by decide +kernel), by decide +kernel⟩
theorem k_L_216 : lkV RL 216 yX5_save cX5_save 2 (some .int) 1 := ⟨big_all [1223, 1224, 1225, 26, 1226] (by decide +kernel), by decide +kernel⟩
theorem k_L_219 : lkV RL 219 yX5_restore cX5_restore 2 (some .int) 1 := ⟨big_all [1227, 1228, 1229, 26, 1230] (by decide +kernel), by decide +kernel⟩
theorem k_X5_105 : lkV RX5 105 yX5_refused cX5_refused 2 (some .boolean) 1 := ⟨big_all [933, 935, 5, 26, 936] (by decide +kernel), by decide +kernel⟩
theorem k_X5_114 : lkV RX5 114 yX5_figures cX5_figures 9 (some .int) 4 := ⟨big_all [957, 959, 9, 26, 960] (by decide +kernel), by decide +kernel⟩
theorem k_X5_121 : lkV RX5 121 yX5_chairSign cX5_chairSign 1 (some .int) 0 := ⟨big_all [976, 978, 12, 26, 979] (by decide +kernel), by decide +kernel⟩
theorem k_X5_125 : lkV RX5 125 yX5_fourSign cX5_fourSign 2 (some .int) 1 := ⟨big_all [953, 955, 8, 26, 956] (by decide +kernel), by decide +kernel⟩
theorem k_X5_141 : lkV RX5 141 yX5_done cX5_done 2 (some .boolean) 1 := ⟨big_all [968, 970, 10, 26, 971] (by decide +kernel), by decide +kernel⟩
theorem k_X5_165 : lkV RX5 165 yX5_readLeg cX5_readLeg 6 (some .boolean) 2 := ⟨big_all [972, 974, 11, 26, 975] (by decide +kernel), by decide +kernel⟩
theorem k_X5_169 : lkV RX5 169 yX5_readFloor cX5_readFloor 6 (some .boolean) 1 := ⟨big_all [1004, 1006, 13, 26, 1007] (by decide +kernel), by decide +kernel⟩
theorem k_X5_173 : lkV RX5 173 yX5_readBring cX5_readBring 5 (some .boolean) 1 := ⟨big_all [1011, 1013, 14, 26, 1014] (by decide +kernel), by decide +kernel⟩
theorem k_X5_182 : lkV RX5 182 yX5_readBound cX5_readBound 5 (some .boolean) 1 := ⟨big_all [1054, 1056, 15, 26, 1057] (by decide +kernel), by decide +kernel⟩
theorem k_X5_185 : lkV RX5 185 yX5_readCommand cX5_readCommand 5 (some .boolean) 1 := ⟨big_all [949, 951, 7, 26, 952] (by decide +kernel), by decide +kernel⟩
theorem k_X5_188 : lkV RX5 188 yX5_readText cX5_readText 2 (some .int) 1 := ⟨big_all [945, 947, 6, 26, 948] (by decide +kernel), by decide +kernel⟩
theorem k_X5_211 : lkV RX5 211 yX5_remember cX5_remember 2 none 0 := ⟨big_all [1116, 1118, 16, 26, 1119] (by decide +kernel), by decide +kernel⟩
theorem k_X5_229 : lkV RX5 229 yX5_turned cX5_turned 8 (some .long) 2 := ⟨big_all [1176, 1178, 17, 26, 1179] (by decide +kernel), by decide +kernel⟩
theorem k_X5_233 : lkV RX5 233 yX5_commandChair cX5_commandChair 6 (some .boolean) 5 := ⟨big_all [1206, 1208, 19, 26, 1209] (by decide +kernel), by decide +kernel⟩
theorem k_X5_238 : lkV RX5 238 yX5_command cX5_command 6 (some .boolean) 2 := ⟨big_all [1202, 1204, 18, 26, 1205] (by decide +kernel), by decide +kernel⟩
theorem k_J0_335 : lkV RJ0 335 yJ0_coder_7d493 cJ0_coder_7d493 1 (some .byte) 0 := ⟨big_all [240, 241, 242, 32, 243] (by decide +kernel), by decide +kernel⟩
theorem k_J0_492 : lkV RJ0 492 yJ0_isLatin1_aae02 cJ0_isLatin1_aae02 1 (some .boolean) 0 := ⟨big_all [230, 231, 232, 32, 233] (by decide +kernel), by decide +kernel⟩
theorem k_J0_505 : lkV RJ0 505 yJ0_length_8abf5 cJ0_length_8abf5 1 (some .int) 0 := ⟨big_all [236, 237, 238, 32, 239] (by decide +kernel), by decide +kernel⟩
theorem k_J0_633 : lkV RJ0 633 yJ0_indexOf_7cf53 cJ0_indexOf_7cf53 3 (some .int) 2 := ⟨big_all [226, 227, 228, 32, 229] (by decide +kernel), by decide +kernel⟩
theorem q_X5_237 : Cond.constant RX5 237 100000 ∈ BIG := big_in (i := 1201) (by decide +kernel) (by decide +kernel)
theorem q_J11_76 : Cond.constant RJ11 76 56320 ∈ BIG := big_in (i := 307) (by decide +kernel) (by decide +kernel)
theorem q_J11_110 : Cond.constant RJ11 110 55232 ∈ BIG := big_in (i := 303) (by decide +kernel) (by decide +kernel)
theorem q_J2_227 : Cond.constant RJ2 227 65536 ∈ BIG := big_in (i := 264) (by decide +kernel) (by decide +kernel)
theorem q_X4_254 : Cond.constantLong RX4 254 1000000 ∈ BIG := big_in (i := 839) (by decide +kernel) (by decide +kernel)
theorem q_X4_262 : Cond.constantLong RX4 262 6364136223846793005 ∈ BIG := big_in (i := 853) (by decide +kernel) (by decide +kernel)
theorem q_X4_264 : Cond.constantLong RX4 264 1442695040888963407 ∈ BIG := big_in (i := 854) (by decide +kernel) (by decide +kernel)
theorem q_L_204 : Cond.constantLong RL 204 4294967295 ∈ BIG := big_in (i := 1231) (by decide +kernel) (by decide +kernel)
theorem q_X5_41 : Cond.constantLong RX5 41 3 ∈ BIG := big_in (i := 1098) (by decide +kernel) (by decide +kernel)
theorem q_X5_43 : Cond.constantLong RX5 43 100 ∈ BIG := big_in (i := 1061) (by decide +kernel) (by decide +kernel)
theorem q_X5_45 : Cond.constantLong RX5 45 900 ∈ BIG := big_in (i := 1062) (by decide +kernel) (by decide +kernel)
theorem q_X5_47 : Cond.constantLong RX5 47 200 ∈ BIG := big_in (i := 1063) (by decide +kernel) (by decide +kernel)
theorem q_X5_49 : Cond.constantLong RX5 49 50 ∈ BIG := big_in (i := 1124) (by decide +kernel) (by decide +kernel)
theorem q_X5_100 : Cond.constantLong RX5 100 255 ∈ BIG := big_in (i := 929) (by decide +kernel) (by decide +kernel)
theorem q_X5_112 : Cond.constantLong RX5 112 9 ∈ BIG := big_in (i := 961) (by decide +kernel) (by decide +kernel)
theorem q_X5_199 : Cond.constantLong RX5 199 10 ∈ BIG := big_in (i := 1078) (by decide +kernel) (by decide +kernel)
theorem q_X5_204 : Cond.constantLong RX5 204 8 ∈ BIG := big_in (i := 1086) (by decide +kernel) (by decide +kernel)
theorem q_X5_209 : Cond.constantLong RX5 209 2 ∈ BIG := big_in (i := 1099) (by decide +kernel) (by decide +kernel)
theorem q_X5_217 : Cond.constantLong RX5 217 800 ∈ BIG := big_in (i := 1140) (by decide +kernel) (by decide +kernel)
theorem q_X5_219 : Cond.constantLong RX5 219 99 ∈ BIG := big_in (i := 1145) (by decide +kernel) (by decide +kernel)
theorem q_X5_227 : Cond.constantLong RX5 227 1000000 ∈ BIG := big_in (i := 1180) (by decide +kernel) (by decide +kernel)
theorem q_X5_245 : Cond.constantLong RX5 245 60 ∈ BIG := big_in (i := 1214) (by decide +kernel) (by decide +kernel)
theorem q_X5_247 : Cond.constantLong RX5 247 6364136223846793005 ∈ BIG := big_in (i := 1215) (by decide +kernel) (by decide +kernel)
theorem q_X5_249 : Cond.constantLong RX5 249 1442695040888963407 ∈ BIG := big_in (i := 1216) (by decide +kernel) (by decide +kernel)
theorem f_X3_10 : fdW RX3 10 RX3 TX3 2 0 := ⟨big_in (i := 138) (by decide +kernel) (by decide +kernel), u_X3, rfl, by decide⟩
theorem f_X3_16 : fdW RX3 16 RX3 TX3 2 1 := ⟨big_in (i := 140) (by decide +kernel) (by decide +kernel), u_X3, rfl, by decide⟩
