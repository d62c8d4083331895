theorem big_all {ws : List Cond} (ps : List Nat) (h : (decide (ws.map some = ps.map (fun i => lw_tbl[i]?)) && ws.all goodWord) = true) : ∀ w ∈ ws, w ∈ BIG := by
  intro w hw
  simp only [Bool.and_eq_true, decide_eq_true_eq] at h
  have h1 : some w ∈ ws.map some := List.mem_map.mpr ⟨w, hw, rfl⟩
  rw [h.1] at h1
  obtain ⟨i, -, hi⟩ := List.mem_map.mp h1
  exact big_in hi (List.all_eq_true.mp h.2 w hw)
theorem u_X0 : ∀ w ∈ u_ws RX0 TX0 3, w ∈ BIG := big_all [107, 109, 111] (by decide +kernel)
theorem u_X1 : ∀ w ∈ u_ws RX1 TX1 12, w ∈ BIG := big_all [68, 70, 72, 74, 76, 78, 80, 82, 84, 86, 88, 90] (by decide +kernel)
theorem u_X2 : ∀ w ∈ u_ws RX2 TX2 5, w ∈ BIG := big_all [144, 146, 148, 150, 152] (by decide +kernel)
theorem u_X3 : ∀ w ∈ u_ws RX3 TX3 2, w ∈ BIG := big_all [126, 128] (by decide +kernel)
theorem u_X4 : ∀ w ∈ u_ws RX4 TX4 6, w ∈ BIG := big_all [161, 163, 165, 167, 169, 171] (by decide +kernel)
theorem f_X4_10 : fdW RX4 10 RX4 TX4 6 0 := ⟨big_in (i := 155) (by decide +kernel) (by decide +kernel), u_X4, rfl, by decide⟩
theorem f_X4_16 : fdW RX4 16 RX4 TX4 6 1 := ⟨big_in (i := 156) (by decide +kernel) (by decide +kernel), u_X4, rfl, by decide⟩
theorem f_X4_22 : fdW RX4 22 RX4 TX4 6 2 := ⟨big_in (i := 157) (by decide +kernel) (by decide +kernel), u_X4, rfl, by decide⟩
theorem f_X4_29 : fdW RX4 29 RX4 TX4 6 3 := ⟨big_in (i := 158) (by decide +kernel) (by decide +kernel), u_X4, rfl, by decide⟩
theorem f_X4_33 : fdW RX4 33 RX4 TX4 6 4 := ⟨big_in (i := 159) (by decide +kernel) (by decide +kernel), u_X4, rfl, by decide⟩
theorem f_X4_39 : fdW RX4 39 RX4 TX4 6 5 := ⟨big_in (i := 160) (by decide +kernel) (by decide +kernel), u_X4, rfl, by decide⟩
theorem f_X4_82 : fdN RX4 82 RX3 TX3 2 1 := ⟨⟨"ChairStamps", List.mem_of_getElem? (i := 14) (by decide +kernel)⟩, u_X3, rfl, by decide⟩
theorem f_X4_97 : fdN RX4 97 RX1 TX1 12 0 := ⟨⟨"ChairStamps", List.mem_of_getElem? (i := 2) (by decide +kernel)⟩, u_X1, rfl, by decide⟩
theorem f_X4_101 : fdN RX4 101 RX1 TX1 12 1 := ⟨⟨"ChairStamps", List.mem_of_getElem? (i := 3) (by decide +kernel)⟩, u_X1, rfl, by decide⟩
theorem f_X4_107 : fdN RX4 107 RX1 TX1 12 11 := ⟨⟨"ChairStamps", List.mem_of_getElem? (i := 10) (by decide +kernel)⟩, u_X1, rfl, by decide⟩
theorem f_X4_119 : fdN RX4 119 RX1 TX1 12 2 := ⟨⟨"ChairStamps", List.mem_of_getElem? (i := 4) (by decide +kernel)⟩, u_X1, rfl, by decide⟩
theorem f_X4_122 : fdN RX4 122 RX1 TX1 12 3 := ⟨⟨"ChairStamps", List.mem_of_getElem? (i := 5) (by decide +kernel)⟩, u_X1, rfl, by decide⟩
theorem f_X4_125 : fdN RX4 125 RX1 TX1 12 4 := ⟨⟨"ChairStamps", List.mem_of_getElem? (i := 6) (by decide +kernel)⟩, u_X1, rfl, by decide⟩
theorem f_X4_137 : fdN RX4 137 RX1 TX1 12 5 := ⟨⟨"ChairStamps", List.mem_of_getElem? (i := 7) (by decide +kernel)⟩, u_X1, rfl, by decide⟩
theorem f_X4_143 : fdN RX4 143 RX1 TX1 12 6 := ⟨⟨"ChairStamps", List.mem_of_getElem? (i := 8) (by decide +kernel)⟩, u_X1, rfl, by decide⟩
theorem f_X4_179 : fdN RX4 179 RX1 TX1 12 10 := ⟨⟨"ChairStamps", List.mem_of_getElem? (i := 9) (by decide +kernel)⟩, u_X1, rfl, by decide⟩
theorem f_X4_221 : fdN RX4 221 RX0 TX0 3 2 := ⟨⟨"ChairStamps", List.mem_of_getElem? (i := 11) (by decide +kernel)⟩, u_X0, rfl, by decide⟩
theorem f_X4_273 : fdN RX4 273 RX3 TX3 2 0 := ⟨⟨"ChairStamps", List.mem_of_getElem? (i := 13) (by decide +kernel)⟩, u_X3, rfl, by decide⟩
theorem f_X4_305 : fdN RX4 305 RX2 TX2 5 4 := ⟨⟨"ChairStamps", List.mem_of_getElem? (i := 17) (by decide +kernel)⟩, u_X2, rfl, by decide⟩
theorem f_X4_308 : fdN RX4 308 RX2 TX2 5 3 := ⟨⟨"ChairStamps", List.mem_of_getElem? (i := 16) (by decide +kernel)⟩, u_X2, rfl, by decide⟩
theorem f_X0_13 : fdW RX0 13 RX0 TX0 3 0 := ⟨big_in (i := 103) (by decide +kernel) (by decide +kernel), u_X0, rfl, by decide⟩
theorem f_X0_17 : fdW RX0 17 RX0 TX0 3 1 := ⟨big_in (i := 104) (by decide +kernel) (by decide +kernel), u_X0, rfl, by decide⟩
theorem f_X0_21 : fdW RX0 21 RX0 TX0 3 2 := ⟨big_in (i := 105) (by decide +kernel) (by decide +kernel), u_X0, rfl, by decide⟩
theorem f_X1_9 : fdW RX1 9 RX1 TX1 12 2 := ⟨big_in (i := 51) (by decide +kernel) (by decide +kernel), u_X1, rfl, by decide⟩
theorem f_X1_15 : fdW RX1 15 RX1 TX1 12 3 := ⟨big_in (i := 53) (by decide +kernel) (by decide +kernel), u_X1, rfl, by decide⟩
theorem f_X1_18 : fdW RX1 18 RX1 TX1 12 4 := ⟨big_in (i := 55) (by decide +kernel) (by decide +kernel), u_X1, rfl, by decide⟩
theorem f_X1_21 : fdW RX1 21 RX1 TX1 12 5 := ⟨big_in (i := 57) (by decide +kernel) (by decide +kernel), u_X1, rfl, by decide⟩
theorem f_X1_24 : fdW RX1 24 RX1 TX1 12 6 := ⟨big_in (i := 59) (by decide +kernel) (by decide +kernel), u_X1, rfl, by decide⟩
theorem f_X1_27 : fdW RX1 27 RX1 TX1 12 7 := ⟨big_in (i := 61) (by decide +kernel) (by decide +kernel), u_X1, rfl, by decide⟩
theorem f_X1_30 : fdW RX1 30 RX1 TX1 12 8 := ⟨big_in (i := 62) (by decide +kernel) (by decide +kernel), u_X1, rfl, by decide⟩
theorem f_X1_33 : fdW RX1 33 RX1 TX1 12 9 := ⟨big_in (i := 63) (by decide +kernel) (by decide +kernel), u_X1, rfl, by decide⟩
theorem f_X1_36 : fdW RX1 36 RX1 TX1 12 10 := ⟨big_in (i := 64) (by decide +kernel) (by decide +kernel), u_X1, rfl, by decide⟩
theorem f_X1_39 : fdW RX1 39 RX1 TX1 12 11 := ⟨big_in (i := 66) (by decide +kernel) (by decide +kernel), u_X1, rfl, by decide⟩
theorem f_X1_45 : fdW RX1 45 RX1 TX1 12 0 := ⟨big_in (i := 47) (by decide +kernel) (by decide +kernel), u_X1, rfl, by decide⟩
theorem f_X1_49 : fdW RX1 49 RX1 TX1 12 1 := ⟨big_in (i := 49) (by decide +kernel) (by decide +kernel), u_X1, rfl, by decide⟩
theorem f_X2_9 : fdW RX2 9 RX2 TX2 5 0 := ⟨big_in (i := 137) (by decide +kernel) (by decide +kernel), u_X2, rfl, by decide⟩
theorem f_X2_15 : fdW RX2 15 RX2 TX2 5 1 := ⟨big_in (i := 138) (by decide +kernel) (by decide +kernel), u_X2, rfl, by decide⟩
theorem f_X2_19 : fdW RX2 19 RX2 TX2 5 2 := ⟨big_in (i := 139) (by decide +kernel) (by decide +kernel), u_X2, rfl, by decide⟩
theorem f_X2_22 : fdW RX2 22 RX2 TX2 5 3 := ⟨big_in (i := 140) (by decide +kernel) (by decide +kernel), u_X2, rfl, by decide⟩
theorem f_X2_25 : fdW RX2 25 RX2 TX2 5 4 := ⟨big_in (i := 142) (by decide +kernel) (by decide +kernel), u_X2, rfl, by decide⟩
theorem k_X4_43 : lkS RX4 43 yX4_within cX4_within 3 (some .boolean) 3 := ⟨big_all [186, 187, 6, 188] (by decide +kernel), by decide +kernel⟩
theorem k_X4_111 : lkS RX4 111 yX4_at cX4_at 2 (some .int) 2 := ⟨big_all [416, 300, 6, 301] (by decide +kernel), by decide +kernel⟩
theorem k_X4_156 : lkS RX4 156 yX4_needOneOfFour cX4_needOneOfFour 1 none 1 := ⟨big_all [598, 599, 6, 600] (by decide +kernel), by decide +kernel⟩
theorem k_X4_248 : lkS RX4 248 yX4_withoutGroups cX4_withoutGroups 6 (some .long) 2 := ⟨big_all [837, 838, 6, 839] (by decide +kernel), by decide +kernel⟩
theorem k_X4_256 : lkS RX4 256 yX4_groupSucceeds cX4_groupSucceeds 6 (some .boolean) 2 := ⟨big_all [842, 843, 6, 844] (by decide +kernel), by decide +kernel⟩
theorem k_X4_266 : lkS RX4 266 yX4_takeTurn cX4_takeTurn 3 none 2 := ⟨big_all [857, 858, 6, 859] (by decide +kernel), by decide +kernel⟩
theorem k_X4_270 : lkS RX4 270 yX4_needSlot cX4_needSlot 1 none 1 := ⟨big_all [803, 804, 6, 805] (by decide +kernel), by decide +kernel⟩
theorem k_X0_33 : lkS RX0 33 yJ9_min_7cf53 cJ9_min_7cf53 2 (some .int) 2 := ⟨big_all [671, 343, 18, 344] (by decide +kernel), by decide +kernel⟩
theorem k_X1_52 : lkN RX1 52 yX4_fill cX4_fill 3 none 2 := ⟨⟨"ChairStamps", List.mem_of_getElem? (i := 0) (by decide +kernel)⟩, big_all [42, 6, 43] (by decide +kernel), by decide +kernel⟩
theorem k_X1_56 : lkN RX1 56 yX4_put cX4_put 3 none 3 := ⟨⟨"ChairStamps", List.mem_of_getElem? (i := 1) (by decide +kernel)⟩, big_all [45, 6, 46] (by decide +kernel), by decide +kernel⟩
theorem k_X1_60 : lkN RX1 60 yX4_copyRow cX4_copyRow 3 none 2 := ⟨⟨"ChairStamps", List.mem_of_getElem? (i := 23) (by decide +kernel)⟩, big_all [658, 6, 659] (by decide +kernel), by decide +kernel⟩
theorem k_X1_64 : lkN RX1 64 yX4_at cX4_at 2 (some .int) 2 := ⟨⟨"ChairStamps", List.mem_of_getElem? (i := 22) (by decide +kernel)⟩, big_all [300, 6, 301] (by decide +kernel), by decide +kernel⟩
theorem k_X1_76 : lkS RX1 76 yJ9_min_7cf53 cJ9_min_7cf53 2 (some .int) 2 := ⟨big_all [487, 343, 18, 344] (by decide +kernel), by decide +kernel⟩
theorem k_X1_82 : lkS RX1 82 yJ9_max_7cf53 cJ9_max_7cf53 2 (some .int) 2 := ⟨big_all [488, 340, 18, 341] (by decide +kernel), by decide +kernel⟩
theorem k_X1_104 : lkN RX1 104 yX4_within cX4_within 3 (some .boolean) 3 := ⟨⟨"ChairStamps", List.mem_of_getElem? (i := 21) (by decide +kernel)⟩, big_all [187, 6, 188] (by decide +kernel), by decide +kernel⟩
theorem k_X2_28 : lkN RX2 28 yX4_put cX4_put 3 none 3 := ⟨⟨"ChairStamps", List.mem_of_getElem? (i := 18) (by decide +kernel)⟩, big_all [45, 6, 46] (by decide +kernel), by decide +kernel⟩
theorem k_X2_43 : lkN RX2 43 yX4_at cX4_at 2 (some .int) 2 := ⟨⟨"ChairStamps", List.mem_of_getElem? (i := 19) (by decide +kernel)⟩, big_all [300, 6, 301] (by decide +kernel), by decide +kernel⟩
theorem k_X2_61 : lkN RX2 61 yX4_within cX4_within 3 (some .boolean) 3 := ⟨⟨"ChairStamps", List.mem_of_getElem? (i := 20) (by decide +kernel)⟩, big_all [187, 6, 188] (by decide +kernel), by decide +kernel⟩
theorem k_L_192 : lkS RL 192 yL_call cL_call 5 (some .int) 5 := ⟨big_all [174, 175, 5, 176] (by decide +kernel), by decide +kernel⟩
theorem k_L_212 : lkS RL 212 yL_size cL_size 1 (some .int) 1 := ⟨big_all [867, 868, 5, 869] (by decide +kernel), by decide +kernel⟩
theorem k_L_216 : lkS RL 216 yL_cell cL_cell 2 (some .int) 2 := ⟨big_all [815, 816, 5, 817] (by decide +kernel), by decide +kernel⟩
theorem k_L_220 : lkS RL 220 yL_act cL_act 7 (some .int) 2 := ⟨big_all [870, 871, 5, 872] (by decide +kernel), by decide +kernel⟩
theorem k_L_228 : lkS RL 228 yL_alike cL_alike 5 (some .boolean) 3 := ⟨big_all [873, 874, 5, 875] (by decide +kernel), by decide +kernel⟩
theorem k_L_235 : lkS RL 235 yL_turned cL_turned 15 (some .boolean) 3 := ⟨big_all [876, 877, 5, 878] (by decide +kernel), by decide +kernel⟩
theorem k_L_238 : lkS RL 238 yL_sits cL_sits 15 (some .boolean) 3 := ⟨big_all [882, 883, 5, 884] (by decide +kernel), by decide +kernel⟩
theorem k_L_241 : lkS RL 241 yL_thrown cL_thrown 1 (some .boolean) 1 := ⟨big_all [879, 880, 5, 881] (by decide +kernel), by decide +kernel⟩
theorem k_J0_637 : lkS RJ0 637 yJ1_indexOf_4cfef cJ1_indexOf_4cfef 4 (some .int) 4 := ⟨big_all [333, 334, 17, 335] (by decide +kernel), by decide +kernel⟩
theorem k_J0_640 : lkS RJ0 640 yJ2_indexOf_4cfef cJ2_indexOf_4cfef 4 (some .int) 4 := ⟨big_all [348, 349, 19, 350] (by decide +kernel), by decide +kernel⟩
theorem k_J0_1062 : lkS RJ0 1062 yJ3_checkFromToIndex_8c36e cJ3_checkFromToIndex_8c36e 4 (some .int) 4 := ⟨big_all [368, 369, 20, 370] (by decide +kernel), by decide +kernel⟩
theorem k_J1_38 : lkS RJ1 38 yJ9_min_7cf53 cJ9_min_7cf53 2 (some .int) 2 := ⟨big_all [342, 343, 18, 344] (by decide +kernel), by decide +kernel⟩
theorem k_J1_88 : lkS RJ1 88 yJ1_canEncode_9a6ad cJ1_canEncode_9a6ad 1 (some .boolean) 1 := ⟨big_all [336, 337, 17, 338] (by decide +kernel), by decide +kernel⟩
theorem k_J1_92 : lkS RJ1 92 yJ9_max_7cf53 cJ9_max_7cf53 2 (some .int) 2 := ⟨big_all [339, 340, 18, 341] (by decide +kernel), by decide +kernel⟩
theorem k_J1_95 : lkS RJ1 95 yJ1_indexOfChar_4cfef cJ1_indexOfChar_4cfef 6 (some .int) 4 := ⟨big_all [345, 346, 17, 347] (by decide +kernel), by decide +kernel⟩
theorem k_J2_48 : lkS RJ2 48 yJ2_length_9d52b cJ2_length_9d52b 1 (some .int) 1 := ⟨big_all [360, 361, 19, 362] (by decide +kernel), by decide +kernel⟩
theorem k_J2_71 : lkS RJ2 71 yJ2_getChar_3b067 cJ2_getChar_3b067 2 (some .char) 2 := ⟨big_all [374, 375, 19, 376] (by decide +kernel), by decide +kernel⟩
theorem k_J2_96 : lkS RJ2 96 yJ2_checkBoundsBeginEnd_d044e cJ2_checkBoundsBeginEnd_d044e 3 none 3 := ⟨big_all [357, 358, 19, 359] (by decide +kernel), by decide +kernel⟩
theorem k_J2_157 : lkS RJ2 157 yJ11_highSurrogate_5068e cJ11_highSurrogate_5068e 1 (some .char) 1 := ⟨big_all [389, 390, 21, 391] (by decide +kernel), by decide +kernel⟩
theorem k_J2_161 : lkS RJ2 161 yJ11_lowSurrogate_5068e cJ11_lowSurrogate_5068e 1 (some .char) 1 := ⟨big_all [393, 394, 21, 395] (by decide +kernel), by decide +kernel⟩
theorem k_J2_164 : lkS RJ2 164 yJ11_isValidCodePoint_9a6ad cJ11_isValidCodePoint_9a6ad 2 (some .boolean) 1 := ⟨big_all [386, 387, 21, 388] (by decide +kernel), by decide +kernel⟩
theorem k_J2_183 : lkS RJ2 183 yJ9_min_7cf53 cJ9_min_7cf53 2 (some .int) 2 := ⟨big_all [352, 343, 18, 344] (by decide +kernel), by decide +kernel⟩
theorem k_J2_224 : lkS RJ2 224 yJ9_max_7cf53 cJ9_max_7cf53 2 (some .int) 2 := ⟨big_all [351, 340, 18, 341] (by decide +kernel), by decide +kernel⟩
theorem k_J2_228 : lkS RJ2 228 yJ2_indexOfChar_4cfef cJ2_indexOfChar_4cfef 4 (some .int) 4 := ⟨big_all [354, 355, 19, 356] (by decide +kernel), by decide +kernel⟩
theorem k_J2_232 : lkS RJ2 232 yJ2_indexOfSupplementary_4cfef cJ2_indexOfSupplementary_4cfef 7 (some .int) 4 := ⟨big_all [383, 384, 19, 385] (by decide +kernel), by decide +kernel⟩
theorem k_J2_241 : lkS RJ2 241 yJ0_checkBoundsBeginEnd_23922 cJ0_checkBoundsBeginEnd_23922 3 none 3 := ⟨big_all [363, 364, 16, 365] (by decide +kernel), by decide +kernel⟩
theorem k_J2_244 : lkS RJ2 244 yJ2_indexOfCharUnsafe_4cfef cJ2_indexOfCharUnsafe_4cfef 5 (some .int) 4 := ⟨big_all [371, 372, 19, 373] (by decide +kernel), by decide +kernel⟩
theorem k_X4_54 : lkV RX4 54 yX2_isFull cX2_isFull 1 (some .boolean) 0 := ⟨big_all [257, 258, 259, 10, 260] (by decide +kernel), by decide +kernel⟩
theorem k_X4_63 : lkV RX4 63 yX2_add cX2_add 2 (some .int) 1 := ⟨big_all [277, 278, 279, 10, 280] (by decide +kernel), by decide +kernel⟩
theorem k_X4_71 : lkV RX4 71 yX2_firstError cX2_firstError 2 (some .int) 0 := ⟨big_all [291, 292, 293, 10, 294] (by decide +kernel), by decide +kernel⟩
theorem k_X4_76 : lkV RX4 76 yX1_makeNew cX1_makeNew 2 none 0 := ⟨big_all [405, 38, 39, 7, 40] (by decide +kernel), by decide +kernel⟩
theorem k_X4_79 : lkV RX4 79 yX0_forget cX0_forget 1 none 0 := ⟨big_all [406, 407, 408, 8, 409] (by decide +kernel), by decide +kernel⟩
theorem k_X4_86 : lkV RX4 86 yX2_goToCommands cX2_goToCommands 1 none 0 := ⟨big_all [410, 303, 304, 10, 305] (by decide +kernel), by decide +kernel⟩
theorem k_X4_89 : lkV RX4 89 yX2_readCommand cX2_readCommand 5 (some .boolean) 0 := ⟨big_all [411, 307, 308, 10, 309] (by decide +kernel), by decide +kernel⟩
theorem k_X4_92 : lkV RX4 92 yX4_doCommand cX4_doCommand 5 (some .int) 0 := ⟨big_all [412, 414, 1, 6, 415] (by decide +kernel), by decide +kernel⟩
theorem k_X4_104 : lkV RX4 104 yX1_stampedChairs cX1_stampedChairs 3 (some .int) 0 := ⟨big_all [529, 530, 531, 7, 532] (by decide +kernel), by decide +kernel⟩
theorem k_X4_115 : lkV RX4 115 yX4_needChair cX4_needChair 2 none 1 := ⟨big_all [541, 543, 2, 6, 544] (by decide +kernel), by decide +kernel⟩
theorem k_X4_128 : lkV RX4 128 yX1_leanNow cX1_leanNow 2 (some .int) 1 := ⟨big_all [562, 563, 564, 7, 565] (by decide +kernel), by decide +kernel⟩
theorem k_X4_131 : lkV RX4 131 yX1_seatHeight cX1_seatHeight 4 (some .int) 1 := ⟨big_all [566, 490, 491, 7, 492] (by decide +kernel), by decide +kernel⟩
theorem k_X4_134 : lkV RX4 134 yX1_idleLeg cX1_idleLeg 6 (some .int) 1 := ⟨big_all [567, 498, 499, 7, 500] (by decide +kernel), by decide +kernel⟩
theorem k_X4_140 : lkV RX4 140 yX1_reason cX1_reason 6 (some .int) 1 := ⟨big_all [568, 476, 477, 7, 478] (by decide +kernel), by decide +kernel⟩
theorem k_X4_150 : lkV RX4 150 yX1_wobbleNow cX1_wobbleNow 2 (some .int) 1 := ⟨big_all [579, 580, 581, 7, 582] (by decide +kernel), by decide +kernel⟩
theorem k_X4_153 : lkV RX4 153 yX1_greatestGap cX1_greatestGap 4 (some .int) 1 := ⟨big_all [583, 584, 585, 7, 586] (by decide +kernel), by decide +kernel⟩
theorem k_X4_159 : lkV RX4 159 yX1_length cX1_length 3 (some .int) 2 := ⟨big_all [602, 431, 432, 7, 433] (by decide +kernel), by decide +kernel⟩
theorem k_X4_163 : lkV RX4 163 yX1_reachNow cX1_reachNow 3 (some .int) 2 := ⟨big_all [603, 502, 503, 7, 504] (by decide +kernel), by decide +kernel⟩
theorem k_X4_168 : lkV RX4 168 yX4_needFloor cX4_needFloor 2 none 1 := ⟨big_all [612, 614, 3, 6, 615] (by decide +kernel), by decide +kernel⟩
theorem k_X4_171 : lkV RX4 171 yX1_height cX1_height 3 (some .int) 2 := ⟨big_all [618, 619, 620, 7, 621] (by decide +kernel), by decide +kernel⟩
theorem k_X4_174 : lkV RX4 174 yX1_limit cX1_limit 3 (some .int) 2 := ⟨big_all [629, 480, 481, 7, 482] (by decide +kernel), by decide +kernel⟩
theorem k_X4_182 : lkV RX4 182 yX0_draft cX0_draft 3 none 1 := ⟨big_all [645, 646, 647, 8, 648] (by decide +kernel), by decide +kernel⟩
theorem k_X4_186 : lkV RX4 186 yX1_addChair cX1_addChair 5 (some .int) 2 := ⟨big_all [417, 418, 419, 7, 420] (by decide +kernel), by decide +kernel⟩
theorem k_X4_189 : lkV RX4 189 yX4_acted cX4_acted 2 (some .int) 1 := ⟨big_all [660, 662, 4, 6, 663] (by decide +kernel), by decide +kernel⟩
theorem k_X4_192 : lkV RX4 192 yX1_layFloor cX1_layFloor 6 (some .int) 4 := ⟨big_all [447, 448, 449, 7, 450] (by decide +kernel), by decide +kernel⟩
theorem k_X4_196 : lkV RX4 196 yX1_changeSpot cX1_changeSpot 6 (some .int) 3 := ⟨big_all [679, 680, 681, 7, 682] (by decide +kernel), by decide +kernel⟩
theorem k_X4_200 : lkV RX4 200 yX1_moveChair cX1_moveChair 4 (some .int) 3 := ⟨big_all [455, 456, 457, 7, 458] (by decide +kernel), by decide +kernel⟩
theorem k_X4_203 : lkV RX4 203 yX1_sawLeg cX1_sawLeg 5 (some .int) 3 := ⟨big_all [422, 423, 424, 7, 425] (by decide +kernel), by decide +kernel⟩
theorem k_X4_206 : lkV RX4 206 yX1_shimLeg cX1_shimLeg 5 (some .int) 3 := ⟨big_all [443, 444, 445, 7, 446] (by decide +kernel), by decide +kernel⟩
theorem k_X4_209 : lkV RX4 209 yX1_testChair cX1_testChair 3 (some .int) 1 := ⟨big_all [471, 472, 473, 7, 474] (by decide +kernel), by decide +kernel⟩
theorem k_X4_212 : lkV RX4 212 yX1_sitDown cX1_sitDown 7 (some .int) 2 := ⟨big_all [493, 494, 495, 7, 496] (by decide +kernel), by decide +kernel⟩
theorem k_X4_215 : lkV RX4 215 yX1_changeBound cX1_changeBound 6 (some .int) 3 := ⟨big_all [513, 514, 515, 7, 516] (by decide +kernel), by decide +kernel⟩
theorem k_X4_218 : lkV RX4 218 yX1_changeSetting cX1_changeSetting 6 (some .int) 2 := ⟨big_all [733, 734, 735, 7, 736] (by decide +kernel), by decide +kernel⟩
theorem k_X4_226 : lkV RX4 226 yX0_takeBack cX0_takeBack 3 none 1 := ⟨big_all [745, 746, 747, 8, 748] (by decide +kernel), by decide +kernel⟩
theorem k_X4_231 : lkV RX4 231 yX1_bestQuarters cX1_bestQuarters 6 (some .int) 2 := ⟨big_all [757, 758, 759, 7, 760] (by decide +kernel), by decide +kernel⟩
theorem k_X4_234 : lkV RX4 234 yX1_wobbleOn cX1_wobbleOn 6 (some .int) 3 := ⟨big_all [761, 464, 465, 7, 466] (by decide +kernel), by decide +kernel⟩
theorem k_X4_237 : lkV RX4 237 yX1_copyFrom cX1_copyFrom 2 none 1 := ⟨big_all [769, 654, 655, 7, 656] (by decide +kernel), by decide +kernel⟩
theorem k_X4_240 : lkV RX4 240 yX1_bestSawnLeg cX1_bestSawnLeg 8 (some .int) 1 := ⟨big_all [770, 771, 772, 7, 773] (by decide +kernel), by decide +kernel⟩
theorem k_X4_245 : lkV RX4 245 yX1_bestFloorFor cX1_bestFloorFor 6 (some .int) 1 := ⟨big_all [791, 792, 793, 7, 794] (by decide +kernel), by decide +kernel⟩
theorem k_X4_278 : lkV RX4 278 yX1_hasChair cX1_hasChair 2 (some .boolean) 1 := ⟨big_all [545, 427, 428, 7, 429] (by decide +kernel), by decide +kernel⟩
theorem k_X4_287 : lkV RX4 287 yX1_hasFloor cX1_hasFloor 2 (some .boolean) 1 := ⟨big_all [616, 460, 461, 7, 462] (by decide +kernel), by decide +kernel⟩
theorem k_X4_302 : lkV RX4 302 yX0_keepDraft cX0_keepDraft 1 none 0 := ⟨big_all [667, 668, 669, 8, 670] (by decide +kernel), by decide +kernel⟩
theorem k_X0_25 : lkV RX0 25 yX0_place cX0_place 2 (some (.object "ChairStamps$Office")) 1 := ⟨big_all [649, 650, 651, 8, 652] (by decide +kernel), by decide +kernel⟩
theorem k_X0_29 : lkV RX0 29 yX1_copyFrom cX1_copyFrom 2 none 1 := ⟨big_all [653, 654, 655, 7, 656] (by decide +kernel), by decide +kernel⟩
theorem k_X1_42 : lkV RX1 42 yX1_makeNew cX1_makeNew 2 none 0 := ⟨big_all [37, 38, 39, 7, 40] (by decide +kernel), by decide +kernel⟩
theorem k_X1_68 : lkV RX1 68 yX1_reachOn cX1_reachOn 5 (some .int) 4 := ⟨big_all [467, 468, 469, 7, 470] (by decide +kernel), by decide +kernel⟩
theorem k_X1_72 : lkV RX1 72 yX1_wobbleOn cX1_wobbleOn 6 (some .int) 3 := ⟨big_all [463, 464, 465, 7, 466] (by decide +kernel), by decide +kernel⟩
theorem k_X1_85 : lkV RX1 85 yX1_leanOn cX1_leanOn 8 (some .int) 3 := ⟨big_all [483, 484, 485, 7, 486] (by decide +kernel), by decide +kernel⟩
theorem k_X1_88 : lkV RX1 88 yX1_reachNow cX1_reachNow 3 (some .int) 2 := ⟨big_all [501, 502, 503, 7, 504] (by decide +kernel), by decide +kernel⟩
theorem k_X1_91 : lkV RX1 91 yX1_gapUnder cX1_gapUnder 5 (some .int) 2 := ⟨big_all [587, 588, 589, 7, 590] (by decide +kernel), by decide +kernel⟩
theorem k_X1_94 : lkV RX1 94 yX1_length cX1_length 3 (some .int) 2 := ⟨big_all [430, 431, 432, 7, 433] (by decide +kernel), by decide +kernel⟩
theorem k_X1_97 : lkV RX1 97 yX1_limit cX1_limit 3 (some .int) 2 := ⟨big_all [479, 480, 481, 7, 482] (by decide +kernel), by decide +kernel⟩
theorem k_X1_100 : lkV RX1 100 yX1_seatHeight cX1_seatHeight 4 (some .int) 1 := ⟨big_all [489, 490, 491, 7, 492] (by decide +kernel), by decide +kernel⟩
theorem k_X1_108 : lkV RX1 108 yX1_isSpot cX1_isSpot 2 (some .boolean) 1 := ⟨big_all [451, 452, 453, 7, 454] (by decide +kernel), by decide +kernel⟩
theorem k_X1_112 : lkV RX1 112 yX1_hasFloor cX1_hasFloor 2 (some .boolean) 1 := ⟨big_all [459, 460, 461, 7, 462] (by decide +kernel), by decide +kernel⟩
theorem k_X1_115 : lkV RX1 115 yX1_height cX1_height 3 (some .int) 2 := ⟨big_all [683, 619, 620, 7, 621] (by decide +kernel), by decide +kernel⟩
theorem k_X1_118 : lkV RX1 118 yX1_voidStamp cX1_voidStamp 2 (some .int) 1 := ⟨big_all [435, 436, 437, 7, 438] (by decide +kernel), by decide +kernel⟩
theorem k_X1_121 : lkV RX1 121 yX1_hasChair cX1_hasChair 2 (some .boolean) 1 := ⟨big_all [426, 427, 428, 7, 429] (by decide +kernel), by decide +kernel⟩
theorem k_X1_124 : lkV RX1 124 yX1_count cX1_count 3 none 2 := ⟨big_all [439, 440, 441, 7, 442] (by decide +kernel), by decide +kernel⟩
theorem k_X1_128 : lkV RX1 128 yX1_reason cX1_reason 6 (some .int) 1 := ⟨big_all [475, 476, 477, 7, 478] (by decide +kernel), by decide +kernel⟩
theorem k_X1_131 : lkV RX1 131 yX1_idleLeg cX1_idleLeg 6 (some .int) 1 := ⟨big_all [497, 498, 499, 7, 500] (by decide +kernel), by decide +kernel⟩
theorem k_X1_134 : lkV RX1 134 yX1_wearOf cX1_wearOf 3 (some .int) 1 := ⟨big_all [505, 506, 507, 7, 508] (by decide +kernel), by decide +kernel⟩
theorem k_X1_137 : lkV RX1 137 yX1_wearLeg cX1_wearLeg 6 (some .int) 3 := ⟨big_all [509, 510, 511, 7, 512] (by decide +kernel), by decide +kernel⟩
theorem k_X1_140 : lkV RX1 140 yX1_isBound cX1_isBound 3 (some .boolean) 2 := ⟨big_all [517, 518, 519, 7, 520] (by decide +kernel), by decide +kernel⟩
theorem k_X1_144 : lkV RX1 144 yX1_bestQuarters cX1_bestQuarters 6 (some .int) 2 := ⟨big_all [795, 758, 759, 7, 760] (by decide +kernel), by decide +kernel⟩
theorem k_X1_147 : lkV RX1 147 yX1_wobbleNow cX1_wobbleNow 2 (some .int) 1 := ⟨big_all [774, 580, 581, 7, 582] (by decide +kernel), by decide +kernel⟩
theorem k_X1_150 : lkV RX1 150 yX1_leanNow cX1_leanNow 2 (some .int) 1 := ⟨big_all [775, 563, 564, 7, 565] (by decide +kernel), by decide +kernel⟩
theorem k_X2_32 : lkV RX2 32 yX2_codeAt cX2_codeAt 2 (some .int) 1 := ⟨big_all [295, 296, 297, 10, 298] (by decide +kernel), by decide +kernel⟩
theorem k_X2_36 : lkV RX2 36 yX2_goToCommands cX2_goToCommands 1 none 0 := ⟨big_all [302, 303, 304, 10, 305] (by decide +kernel), by decide +kernel⟩
theorem k_X2_39 : lkV RX2 39 yX2_readCommand cX2_readCommand 5 (some .boolean) 0 := ⟨big_all [306, 307, 308, 10, 309] (by decide +kernel), by decide +kernel⟩
theorem k_X2_49 : lkV RX2 49 yJ0_indexOf_0f7a4 cJ0_indexOf_0f7a4 2 (some .int) 1 := ⟨big_all [311, 312, 313, 16, 314] (by decide +kernel), by decide +kernel⟩
theorem k_X2_57 : lkV RX2 57 yX2_readNumber cX2_readNumber 8 (some .int) 3 := ⟨big_all [399, 400, 401, 10, 402] (by decide +kernel), by decide +kernel⟩
theorem k_L_7 : lkV RL 7 yX4_floor cX4_floor 5 (some .int) 4 := ⟨big_all [826, 827, 828, 6, 829] (by decide +kernel), by decide +kernel⟩
theorem k_L_19 : lkV RL 19 yX4_runScript cX4_runScript 6 (some .int) 2 := ⟨big_all [833, 834, 835, 6, 836] (by decide +kernel), by decide +kernel⟩
theorem k_L_23 : lkV RL 23 yX4_simulate cX4_simulate 8 (some .int) 2 := ⟨big_all [850, 851, 852, 6, 853] (by decide +kernel), by decide +kernel⟩
theorem k_L_27 : lkV RL 27 yX4_append cX4_append 2 (some .int) 1 := ⟨big_all [182, 183, 184, 6, 185] (by decide +kernel), by decide +kernel⟩
theorem k_L_31 : lkV RL 31 yX4_load cX4_load 3 (some .int) 0 := ⟨big_all [287, 288, 289, 6, 290] (by decide +kernel), by decide +kernel⟩
theorem k_L_35 : lkV RL 35 yX4_about cX4_about 2 (some .int) 1 := ⟨big_all [524, 525, 526, 6, 527] (by decide +kernel), by decide +kernel⟩
theorem k_L_38 : lkV RL 38 yX4_chairOf cX4_chairOf 3 (some .int) 2 := ⟨big_all [537, 538, 539, 6, 540] (by decide +kernel), by decide +kernel⟩
theorem k_L_45 : lkV RL 45 yX4_wobble cX4_wobble 3 (some .int) 2 := ⟨big_all [574, 575, 576, 6, 577] (by decide +kernel), by decide +kernel⟩
theorem k_L_48 : lkV RL 48 yX4_legOf cX4_legOf 4 (some .int) 3 := ⟨big_all [594, 595, 596, 6, 597] (by decide +kernel), by decide +kernel⟩
theorem k_L_52 : lkV RL 52 yX4_spot cX4_spot 3 (some .int) 2 := ⟨big_all [608, 609, 610, 6, 611] (by decide +kernel), by decide +kernel⟩
theorem k_L_55 : lkV RL 55 yX4_boundOf cX4_boundOf 3 (some .int) 2 := ⟨big_all [625, 626, 627, 6, 628] (by decide +kernel), by decide +kernel⟩
theorem k_L_58 : lkV RL 58 yX4_setting cX4_setting 2 (some .int) 1 := ⟨big_all [633, 634, 635, 6, 636] (by decide +kernel), by decide +kernel⟩
theorem k_L_61 : lkV RL 61 yX4_chair cX4_chair 3 (some .int) 2 := ⟨big_all [641, 642, 643, 6, 644] (by decide +kernel), by decide +kernel⟩
theorem k_L_64 : lkV RL 64 yX4_level cX4_level 4 (some .int) 3 := ⟨big_all [675, 676, 677, 6, 678] (by decide +kernel), by decide +kernel⟩
theorem k_L_67 : lkV RL 67 yX4_bring cX4_bring 4 (some .int) 3 := ⟨big_all [687, 688, 689, 6, 690] (by decide +kernel), by decide +kernel⟩
theorem k_L_70 : lkV RL 70 yX4_saw cX4_saw 4 (some .int) 3 := ⟨big_all [694, 695, 696, 6, 697] (by decide +kernel), by decide +kernel⟩
theorem k_L_73 : lkV RL 73 yX4_shim cX4_shim 4 (some .int) 3 := ⟨big_all [701, 702, 703, 6, 704] (by decide +kernel), by decide +kernel⟩
theorem k_L_76 : lkV RL 76 yX4_test cX4_test 2 (some .int) 1 := ⟨big_all [708, 709, 710, 6, 711] (by decide +kernel), by decide +kernel⟩
theorem k_L_79 : lkV RL 79 yX4_sit cX4_sit 3 (some .int) 2 := ⟨big_all [715, 716, 717, 6, 718] (by decide +kernel), by decide +kernel⟩
theorem k_L_82 : lkV RL 82 yX4_bound cX4_bound 4 (some .int) 3 := ⟨big_all [722, 723, 724, 6, 725] (by decide +kernel), by decide +kernel⟩
theorem k_L_85 : lkV RL 85 yX4_set cX4_set 3 (some .int) 2 := ⟨big_all [729, 730, 731, 6, 732] (by decide +kernel), by decide +kernel⟩
theorem k_L_88 : lkV RL 88 yX4_undo cX4_undo 1 (some .int) 0 := ⟨big_all [740, 741, 742, 6, 743] (by decide +kernel), by decide +kernel⟩
theorem k_L_91 : lkV RL 91 yX4_bestTurn cX4_bestTurn 5 (some .int) 3 := ⟨big_all [752, 753, 754, 6, 755] (by decide +kernel), by decide +kernel⟩
theorem k_L_94 : lkV RL 94 yX4_bestSaw cX4_bestSaw 2 (some .int) 1 := ⟨big_all [765, 766, 767, 6, 768] (by decide +kernel), by decide +kernel⟩
theorem k_L_97 : lkV RL 97 yX4_failsIn cX4_failsIn 4 (some .int) 2 := ⟨big_all [779, 780, 781, 6, 782] (by decide +kernel), by decide +kernel⟩
theorem k_L_100 : lkV RL 100 yX4_bestFloor cX4_bestFloor 2 (some .int) 1 := ⟨big_all [787, 788, 789, 6, 790] (by decide +kernel), by decide +kernel⟩
theorem k_L_103 : lkV RL 103 yX4_save cX4_save 3 (some .int) 1 := ⟨big_all [799, 800, 801, 6, 802] (by decide +kernel), by decide +kernel⟩
theorem k_L_106 : lkV RL 106 yX4_restore cX4_restore 3 (some .int) 1 := ⟨big_all [810, 811, 812, 6, 813] (by decide +kernel), by decide +kernel⟩
theorem k_L_209 : lkV RL 209 yX4_sound cX4_sound 3 (some .int) 0 := ⟨big_all [863, 864, 865, 6, 866] (by decide +kernel), by decide +kernel⟩
theorem k_J0_335 : lkV RJ0 335 yJ0_coder_7d493 cJ0_coder_7d493 1 (some .byte) 0 := ⟨big_all [329, 330, 331, 16, 332] (by decide +kernel), by decide +kernel⟩
theorem k_J0_492 : lkV RJ0 492 yJ0_isLatin1_aae02 cJ0_isLatin1_aae02 1 (some .boolean) 0 := ⟨big_all [319, 320, 321, 16, 322] (by decide +kernel), by decide +kernel⟩
theorem k_J0_505 : lkV RJ0 505 yJ0_length_8abf5 cJ0_length_8abf5 1 (some .int) 0 := ⟨big_all [325, 326, 327, 16, 328] (by decide +kernel), by decide +kernel⟩
theorem k_J0_633 : lkV RJ0 633 yJ0_indexOf_7cf53 cJ0_indexOf_7cf53 3 (some .int) 2 := ⟨big_all [315, 316, 317, 16, 318] (by decide +kernel), by decide +kernel⟩
theorem q_L_15 : Cond.constant RL 15 (-9999002) ∈ BIG := big_in (i := 282) (by decide +kernel) (by decide +kernel)
theorem q_L_18 : Cond.constant RL 18 (-9999003) ∈ BIG := big_in (i := 283) (by decide +kernel) (by decide +kernel)
theorem q_L_44 : Cond.constant RL 44 (-9999001) ∈ BIG := big_in (i := 570) (by decide +kernel) (by decide +kernel)
theorem q_L_190 : Cond.constant RL 190 15520157 ∈ BIG := big_in (i := 818) (by decide +kernel) (by decide +kernel)
theorem q_L_191 : Cond.constant RL 191 2147483647 ∈ BIG := big_in (i := 819) (by decide +kernel) (by decide +kernel)
theorem q_L_223 : Cond.constant RL 223 100000 ∈ BIG := big_in (i := 885) (by decide +kernel) (by decide +kernel)
theorem q_J11_76 : Cond.constant RJ11 76 56320 ∈ BIG := big_in (i := 396) (by decide +kernel) (by decide +kernel)
theorem q_J11_110 : Cond.constant RJ11 110 55232 ∈ BIG := big_in (i := 392) (by decide +kernel) (by decide +kernel)
theorem q_J2_227 : Cond.constant RJ2 227 65536 ∈ BIG := big_in (i := 353) (by decide +kernel) (by decide +kernel)
theorem q_X4_254 : Cond.constantLong RX4 254 1000000 ∈ BIG := big_in (i := 840) (by decide +kernel) (by decide +kernel)
theorem q_X4_262 : Cond.constantLong RX4 262 6364136223846793005 ∈ BIG := big_in (i := 855) (by decide +kernel) (by decide +kernel)
theorem q_X4_264 : Cond.constantLong RX4 264 1442695040888963407 ∈ BIG := big_in (i := 856) (by decide +kernel) (by decide +kernel)
theorem q_L_203 : Cond.constantLong RL 203 1000000 ∈ BIG := big_in (i := 846) (by decide +kernel) (by decide +kernel)
theorem f_X3_10 : fdW RX3 10 RX3 TX3 2 0 := ⟨big_in (i := 122) (by decide +kernel) (by decide +kernel), u_X3, rfl, by decide⟩
theorem f_X3_16 : fdW RX3 16 RX3 TX3 2 1 := ⟨big_in (i := 124) (by decide +kernel) (by decide +kernel), u_X3, rfl, by decide⟩
