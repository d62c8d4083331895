theorem dX0_init_0 : decode cX0_init 0 = .ok (.aload_n 0, 1) := by decide +kernel
theorem dX0_init_1 : decode cX0_init 1 = .ok (.invokespecial 3, 3) := by decide +kernel
theorem dX0_init_4 : decode cX0_init 4 = .ok (.aload_n 0, 1) := by decide +kernel
theorem dX0_init_5 : decode cX0_init 5 = .ok (.bipush 15, 2) := by decide +kernel
theorem dX0_init_7 : decode cX0_init 7 = .ok (.anewarray 11, 3) := by decide +kernel
theorem dX0_init_10 : decode cX0_init 10 = .ok (.putfield 13, 3) := by decide +kernel
theorem dX0_init_13 : decode cX0_init 13 = .ok (.aload_n 0, 1) := by decide +kernel
theorem dX0_init_14 : decode cX0_init 14 = .ok (.iconst 0, 1) := by decide +kernel
theorem dX0_init_15 : decode cX0_init 15 = .ok (.putfield 17, 3) := by decide +kernel
theorem dX0_init_18 : decode cX0_init 18 = .ok (.aload_n 0, 1) := by decide +kernel
theorem dX0_init_19 : decode cX0_init 19 = .ok (.iconst 0, 1) := by decide +kernel
theorem dX0_init_20 : decode cX0_init 20 = .ok (.putfield 21, 3) := by decide +kernel
theorem dX0_init_23 : decode cX0_init 23 = .ok (.iconst 0, 1) := by decide +kernel
theorem dX0_init_24 : decode cX0_init 24 = .ok (.istore_n 1, 1) := by decide +kernel
theorem dX0_init_25 : decode cX0_init 25 = .ok (.iload_n 1, 1) := by decide +kernel
theorem dX0_init_26 : decode cX0_init 26 = .ok (.aload_n 0, 1) := by decide +kernel
theorem dX0_init_27 : decode cX0_init 27 = .ok (.getfield 13, 3) := by decide +kernel
theorem dX0_init_30 : decode cX0_init 30 = .ok (.arraylength, 1) := by decide +kernel
theorem dX0_init_31 : decode cX0_init 31 = .ok (.if_icmp .ge 22, 3) := by decide +kernel
theorem dX0_init_34 : decode cX0_init 34 = .ok (.aload_n 0, 1) := by decide +kernel
theorem dX0_init_35 : decode cX0_init 35 = .ok (.getfield 13, 3) := by decide +kernel
theorem dX0_init_38 : decode cX0_init 38 = .ok (.iload_n 1, 1) := by decide +kernel
theorem dX0_init_39 : decode cX0_init 39 = .ok (.new 11, 3) := by decide +kernel
theorem dX0_init_42 : decode cX0_init 42 = .ok (.dup, 1) := by decide +kernel
theorem dX0_init_43 : decode cX0_init 43 = .ok (.invokespecial 24, 3) := by decide +kernel
theorem dX0_init_46 : decode cX0_init 46 = .ok (.aastore, 1) := by decide +kernel
theorem dX0_init_47 : decode cX0_init 47 = .ok (.iinc 1 1, 3) := by decide +kernel
theorem dX0_init_50 : decode cX0_init 50 = .ok (.goto (-25), 3) := by decide +kernel
theorem dX0_init_53 : decode cX0_init 53 = .ok (.return_, 1) := by decide +kernel
theorem dX0_place_0 : decode cX0_place 0 = .ok (.iload_n 1, 1) := by decide +kernel
theorem dX0_place_1 : decode cX0_place 1 = .ok (.ifCond .lt 21, 3) := by decide +kernel
theorem dX0_place_4 : decode cX0_place 4 = .ok (.iload_n 1, 1) := by decide +kernel
theorem dX0_place_5 : decode cX0_place 5 = .ok (.aload_n 0, 1) := by decide +kernel
theorem dX0_place_6 : decode cX0_place 6 = .ok (.getfield 13, 3) := by decide +kernel
theorem dX0_place_9 : decode cX0_place 9 = .ok (.arraylength, 1) := by decide +kernel
theorem dX0_place_10 : decode cX0_place 10 = .ok (.if_icmp .ge 12, 3) := by decide +kernel
theorem dX0_place_13 : decode cX0_place 13 = .ok (.aload_n 0, 1) := by decide +kernel
theorem dX0_place_14 : decode cX0_place 14 = .ok (.getfield 13, 3) := by decide +kernel
theorem dX0_place_17 : decode cX0_place 17 = .ok (.iload_n 1, 1) := by decide +kernel
theorem dX0_place_18 : decode cX0_place 18 = .ok (.aaload, 1) := by decide +kernel
theorem dX0_place_19 : decode cX0_place 19 = .ok (.goto 4, 3) := by decide +kernel
theorem dX0_place_22 : decode cX0_place 22 = .ok (.aconst_null, 1) := by decide +kernel
theorem dX0_place_23 : decode cX0_place 23 = .ok (.areturn, 1) := by decide +kernel
theorem dX0_forget_0 : decode cX0_forget 0 = .ok (.aload_n 0, 1) := by decide +kernel
theorem dX0_forget_1 : decode cX0_forget 1 = .ok (.iconst 0, 1) := by decide +kernel
theorem dX0_forget_2 : decode cX0_forget 2 = .ok (.putfield 21, 3) := by decide +kernel
theorem dX0_forget_5 : decode cX0_forget 5 = .ok (.return_, 1) := by decide +kernel
theorem dX0_draft_0 : decode cX0_draft 0 = .ok (.aload_n 0, 1) := by decide +kernel
theorem dX0_draft_1 : decode cX0_draft 1 = .ok (.aload_n 0, 1) := by decide +kernel
theorem dX0_draft_2 : decode cX0_draft 2 = .ok (.getfield 17, 3) := by decide +kernel
theorem dX0_draft_5 : decode cX0_draft 5 = .ok (.invokevirtual 25, 3) := by decide +kernel
theorem dX0_draft_8 : decode cX0_draft 8 = .ok (.astore_n 2, 1) := by decide +kernel
theorem dX0_draft_9 : decode cX0_draft 9 = .ok (.aload_n 2, 1) := by decide +kernel
theorem dX0_draft_10 : decode cX0_draft 10 = .ok (.ifnull 8, 3) := by decide +kernel
theorem dX0_draft_13 : decode cX0_draft 13 = .ok (.aload_n 2, 1) := by decide +kernel
theorem dX0_draft_14 : decode cX0_draft 14 = .ok (.aload_n 1, 1) := by decide +kernel
theorem dX0_draft_15 : decode cX0_draft 15 = .ok (.invokevirtual 29, 3) := by decide +kernel
theorem dX0_draft_18 : decode cX0_draft 18 = .ok (.return_, 1) := by decide +kernel
theorem dX0_keepDraft_0 : decode cX0_keepDraft 0 = .ok (.aload_n 0, 1) := by decide +kernel
theorem dX0_keepDraft_1 : decode cX0_keepDraft 1 = .ok (.aload_n 0, 1) := by decide +kernel
theorem dX0_keepDraft_2 : decode cX0_keepDraft 2 = .ok (.getfield 17, 3) := by decide +kernel
theorem dX0_keepDraft_5 : decode cX0_keepDraft 5 = .ok (.iconst 1, 1) := by decide +kernel
theorem dX0_keepDraft_6 : decode cX0_keepDraft 6 = .ok (.iadd, 1) := by decide +kernel
theorem dX0_keepDraft_7 : decode cX0_keepDraft 7 = .ok (.bipush 15, 2) := by decide +kernel
theorem dX0_keepDraft_9 : decode cX0_keepDraft 9 = .ok (.irem, 1) := by decide +kernel
theorem dX0_keepDraft_10 : decode cX0_keepDraft 10 = .ok (.putfield 17, 3) := by decide +kernel
theorem dX0_keepDraft_13 : decode cX0_keepDraft 13 = .ok (.aload_n 0, 1) := by decide +kernel
theorem dX0_keepDraft_14 : decode cX0_keepDraft 14 = .ok (.aload_n 0, 1) := by decide +kernel
theorem dX0_keepDraft_15 : decode cX0_keepDraft 15 = .ok (.getfield 21, 3) := by decide +kernel
theorem dX0_keepDraft_18 : decode cX0_keepDraft 18 = .ok (.iconst 1, 1) := by decide +kernel
theorem dX0_keepDraft_19 : decode cX0_keepDraft 19 = .ok (.iadd, 1) := by decide +kernel
theorem dX0_keepDraft_20 : decode cX0_keepDraft 20 = .ok (.bipush 14, 2) := by decide +kernel
theorem dX0_keepDraft_22 : decode cX0_keepDraft 22 = .ok (.invokestatic 33, 3) := by decide +kernel
theorem dX0_keepDraft_25 : decode cX0_keepDraft 25 = .ok (.putfield 21, 3) := by decide +kernel
theorem dX0_keepDraft_28 : decode cX0_keepDraft 28 = .ok (.return_, 1) := by decide +kernel
theorem dX0_takeBack_0 : decode cX0_takeBack 0 = .ok (.aload_n 0, 1) := by decide +kernel
theorem dX0_takeBack_1 : decode cX0_takeBack 1 = .ok (.getfield 21, 3) := by decide +kernel
theorem dX0_takeBack_4 : decode cX0_takeBack 4 = .ok (.ifCond .ne 4, 3) := by decide +kernel
theorem dX0_takeBack_7 : decode cX0_takeBack 7 = .ok (.return_, 1) := by decide +kernel
theorem dX0_takeBack_8 : decode cX0_takeBack 8 = .ok (.aload_n 0, 1) := by decide +kernel
theorem dX0_takeBack_9 : decode cX0_takeBack 9 = .ok (.dup, 1) := by decide +kernel
theorem dX0_takeBack_10 : decode cX0_takeBack 10 = .ok (.getfield 21, 3) := by decide +kernel
theorem dX0_takeBack_13 : decode cX0_takeBack 13 = .ok (.iconst 1, 1) := by decide +kernel
theorem dX0_takeBack_14 : decode cX0_takeBack 14 = .ok (.isub, 1) := by decide +kernel
theorem dX0_takeBack_15 : decode cX0_takeBack 15 = .ok (.putfield 21, 3) := by decide +kernel
theorem dX0_takeBack_18 : decode cX0_takeBack 18 = .ok (.aload_n 0, 1) := by decide +kernel
theorem dX0_takeBack_19 : decode cX0_takeBack 19 = .ok (.aload_n 0, 1) := by decide +kernel
theorem dX0_takeBack_20 : decode cX0_takeBack 20 = .ok (.getfield 17, 3) := by decide +kernel
theorem dX0_takeBack_23 : decode cX0_takeBack 23 = .ok (.bipush 15, 2) := by decide +kernel
theorem dX0_takeBack_25 : decode cX0_takeBack 25 = .ok (.iadd, 1) := by decide +kernel
theorem dX0_takeBack_26 : decode cX0_takeBack 26 = .ok (.iconst 1, 1) := by decide +kernel
theorem dX0_takeBack_27 : decode cX0_takeBack 27 = .ok (.isub, 1) := by decide +kernel
theorem dX0_takeBack_28 : decode cX0_takeBack 28 = .ok (.bipush 15, 2) := by decide +kernel
theorem dX0_takeBack_30 : decode cX0_takeBack 30 = .ok (.irem, 1) := by decide +kernel
theorem dX0_takeBack_31 : decode cX0_takeBack 31 = .ok (.putfield 17, 3) := by decide +kernel
theorem dX0_takeBack_34 : decode cX0_takeBack 34 = .ok (.aload_n 0, 1) := by decide +kernel
theorem dX0_takeBack_35 : decode cX0_takeBack 35 = .ok (.aload_n 0, 1) := by decide +kernel
theorem dX0_takeBack_36 : decode cX0_takeBack 36 = .ok (.getfield 17, 3) := by decide +kernel
theorem dX0_takeBack_39 : decode cX0_takeBack 39 = .ok (.invokevirtual 25, 3) := by decide +kernel
theorem dX0_takeBack_42 : decode cX0_takeBack 42 = .ok (.astore_n 2, 1) := by decide +kernel
theorem dX0_takeBack_43 : decode cX0_takeBack 43 = .ok (.aload_n 2, 1) := by decide +kernel
theorem dX0_takeBack_44 : decode cX0_takeBack 44 = .ok (.ifnull 8, 3) := by decide +kernel
theorem dX0_takeBack_47 : decode cX0_takeBack 47 = .ok (.aload_n 1, 1) := by decide +kernel
theorem dX0_takeBack_48 : decode cX0_takeBack 48 = .ok (.aload_n 2, 1) := by decide +kernel
theorem dX0_takeBack_49 : decode cX0_takeBack 49 = .ok (.invokevirtual 29, 3) := by decide +kernel
theorem dX0_takeBack_52 : decode cX0_takeBack 52 = .ok (.return_, 1) := by decide +kernel
theorem dX1_init_0 : decode cX1_init 0 = .ok (.aload_n 0, 1) := by decide +kernel
theorem dX1_init_1 : decode cX1_init 1 = .ok (.invokespecial 3, 3) := by decide +kernel
theorem dX1_init_4 : decode cX1_init 4 = .ok (.aload_n 0, 1) := by decide +kernel
theorem dX1_init_5 : decode cX1_init 5 = .ok (.bipush 10, 2) := by decide +kernel
theorem dX1_init_7 : decode cX1_init 7 = .ok (.newarray .int, 2) := by decide +kernel
theorem dX1_init_9 : decode cX1_init 9 = .ok (.putfield 9, 3) := by decide +kernel
theorem dX1_init_12 : decode cX1_init 12 = .ok (.aload_n 0, 1) := by decide +kernel
theorem dX1_init_13 : decode cX1_init 13 = .ok (.bipush 10, 2) := by decide +kernel
theorem dX1_init_15 : decode cX1_init 15 = .ok (.newarray .int, 2) := by decide +kernel
theorem dX1_init_17 : decode cX1_init 17 = .ok (.putfield 15, 3) := by decide +kernel
theorem dX1_init_20 : decode cX1_init 20 = .ok (.aload_n 0, 1) := by decide +kernel
theorem dX1_init_21 : decode cX1_init 21 = .ok (.bipush 10, 2) := by decide +kernel
theorem dX1_init_23 : decode cX1_init 23 = .ok (.newarray .int, 2) := by decide +kernel
theorem dX1_init_25 : decode cX1_init 25 = .ok (.putfield 18, 3) := by decide +kernel
theorem dX1_init_28 : decode cX1_init 28 = .ok (.aload_n 0, 1) := by decide +kernel
theorem dX1_init_29 : decode cX1_init 29 = .ok (.bipush 10, 2) := by decide +kernel
theorem dX1_init_31 : decode cX1_init 31 = .ok (.newarray .int, 2) := by decide +kernel
theorem dX1_init_33 : decode cX1_init 33 = .ok (.putfield 21, 3) := by decide +kernel
theorem dX1_init_36 : decode cX1_init 36 = .ok (.aload_n 0, 1) := by decide +kernel
theorem dX1_init_37 : decode cX1_init 37 = .ok (.bipush 10, 2) := by decide +kernel
theorem dX1_init_39 : decode cX1_init 39 = .ok (.newarray .int, 2) := by decide +kernel
theorem dX1_init_41 : decode cX1_init 41 = .ok (.putfield 24, 3) := by decide +kernel
theorem dX1_init_44 : decode cX1_init 44 = .ok (.aload_n 0, 1) := by decide +kernel
theorem dX1_init_45 : decode cX1_init 45 = .ok (.bipush 40, 2) := by decide +kernel
theorem dX1_init_47 : decode cX1_init 47 = .ok (.newarray .int, 2) := by decide +kernel
theorem dX1_init_49 : decode cX1_init 49 = .ok (.putfield 27, 3) := by decide +kernel
theorem dX1_init_52 : decode cX1_init 52 = .ok (.aload_n 0, 1) := by decide +kernel
theorem dX1_init_53 : decode cX1_init 53 = .ok (.bipush 16, 2) := by decide +kernel
theorem dX1_init_55 : decode cX1_init 55 = .ok (.newarray .int, 2) := by decide +kernel
theorem dX1_init_57 : decode cX1_init 57 = .ok (.putfield 30, 3) := by decide +kernel
theorem dX1_init_60 : decode cX1_init 60 = .ok (.aload_n 0, 1) := by decide +kernel
theorem dX1_init_61 : decode cX1_init 61 = .ok (.bipush 16, 2) := by decide +kernel
theorem dX1_init_63 : decode cX1_init 63 = .ok (.newarray .int, 2) := by decide +kernel
theorem dX1_init_65 : decode cX1_init 65 = .ok (.putfield 33, 3) := by decide +kernel
theorem dX1_init_68 : decode cX1_init 68 = .ok (.aload_n 0, 1) := by decide +kernel
theorem dX1_init_69 : decode cX1_init 69 = .ok (.iconst 2, 1) := by decide +kernel
theorem dX1_init_70 : decode cX1_init 70 = .ok (.newarray .int, 2) := by decide +kernel
theorem dX1_init_72 : decode cX1_init 72 = .ok (.putfield 36, 3) := by decide +kernel
theorem dX1_init_75 : decode cX1_init 75 = .ok (.aload_n 0, 1) := by decide +kernel
theorem dX1_init_76 : decode cX1_init 76 = .ok (.bipush 11, 2) := by decide +kernel
theorem dX1_init_78 : decode cX1_init 78 = .ok (.newarray .int, 2) := by decide +kernel
theorem dX1_init_80 : decode cX1_init 80 = .ok (.putfield 39, 3) := by decide +kernel
theorem dX1_init_83 : decode cX1_init 83 = .ok (.aload_n 0, 1) := by decide +kernel
theorem dX1_init_84 : decode cX1_init 84 = .ok (.invokevirtual 42, 3) := by decide +kernel
theorem dX1_init_87 : decode cX1_init 87 = .ok (.return_, 1) := by decide +kernel
theorem dX1_makeNew_0 : decode cX1_makeNew 0 = .ok (.aload_n 0, 1) := by decide +kernel
theorem dX1_makeNew_1 : decode cX1_makeNew 1 = .ok (.iconst 0, 1) := by decide +kernel
theorem dX1_makeNew_2 : decode cX1_makeNew 2 = .ok (.putfield 45, 3) := by decide +kernel
theorem dX1_makeNew_5 : decode cX1_makeNew 5 = .ok (.aload_n 0, 1) := by decide +kernel
theorem dX1_makeNew_6 : decode cX1_makeNew 6 = .ok (.iconst 1, 1) := by decide +kernel
theorem dX1_makeNew_7 : decode cX1_makeNew 7 = .ok (.putfield 49, 3) := by decide +kernel
theorem dX1_makeNew_10 : decode cX1_makeNew 10 = .ok (.aload_n 0, 1) := by decide +kernel
theorem dX1_makeNew_11 : decode cX1_makeNew 11 = .ok (.getfield 30, 3) := by decide +kernel
theorem dX1_makeNew_14 : decode cX1_makeNew 14 = .ok (.iconst 0, 1) := by decide +kernel
theorem dX1_makeNew_15 : decode cX1_makeNew 15 = .ok (.invokestatic 52, 3) := by decide +kernel
theorem dX1_makeNew_18 : decode cX1_makeNew 18 = .ok (.aload_n 0, 1) := by decide +kernel
theorem dX1_makeNew_19 : decode cX1_makeNew 19 = .ok (.getfield 39, 3) := by decide +kernel
theorem dX1_makeNew_22 : decode cX1_makeNew 22 = .ok (.iconst 0, 1) := by decide +kernel
theorem dX1_makeNew_23 : decode cX1_makeNew 23 = .ok (.invokestatic 52, 3) := by decide +kernel
theorem dX1_makeNew_26 : decode cX1_makeNew 26 = .ok (.iconst 0, 1) := by decide +kernel
theorem dX1_makeNew_27 : decode cX1_makeNew 27 = .ok (.istore_n 1, 1) := by decide +kernel
theorem dX1_makeNew_28 : decode cX1_makeNew 28 = .ok (.iload_n 1, 1) := by decide +kernel
theorem dX1_makeNew_29 : decode cX1_makeNew 29 = .ok (.iconst 4, 1) := by decide +kernel
theorem dX1_makeNew_30 : decode cX1_makeNew 30 = .ok (.if_icmp .ge 66, 3) := by decide +kernel
theorem dX1_makeNew_33 : decode cX1_makeNew 33 = .ok (.aload_n 0, 1) := by decide +kernel
theorem dX1_makeNew_34 : decode cX1_makeNew 34 = .ok (.getfield 33, 3) := by decide +kernel
theorem dX1_makeNew_37 : decode cX1_makeNew 37 = .ok (.iload_n 1, 1) := by decide +kernel
theorem dX1_makeNew_38 : decode cX1_makeNew 38 = .ok (.iconst 4, 1) := by decide +kernel
theorem dX1_makeNew_39 : decode cX1_makeNew 39 = .ok (.imul, 1) := by decide +kernel
theorem dX1_makeNew_40 : decode cX1_makeNew 40 = .ok (.iconst 0, 1) := by decide +kernel
theorem dX1_makeNew_41 : decode cX1_makeNew 41 = .ok (.iadd, 1) := by decide +kernel
theorem dX1_makeNew_42 : decode cX1_makeNew 42 = .ok (.sipush 400, 3) := by decide +kernel
theorem dX1_makeNew_45 : decode cX1_makeNew 45 = .ok (.invokestatic 56, 3) := by decide +kernel
theorem dX1_makeNew_48 : decode cX1_makeNew 48 = .ok (.aload_n 0, 1) := by decide +kernel
theorem dX1_makeNew_49 : decode cX1_makeNew 49 = .ok (.getfield 33, 3) := by decide +kernel
theorem dX1_makeNew_52 : decode cX1_makeNew 52 = .ok (.iload_n 1, 1) := by decide +kernel
theorem dX1_makeNew_53 : decode cX1_makeNew 53 = .ok (.iconst 4, 1) := by decide +kernel
theorem dX1_makeNew_54 : decode cX1_makeNew 54 = .ok (.imul, 1) := by decide +kernel
theorem dX1_makeNew_55 : decode cX1_makeNew 55 = .ok (.iconst 1, 1) := by decide +kernel
theorem dX1_makeNew_56 : decode cX1_makeNew 56 = .ok (.iadd, 1) := by decide +kernel
theorem dX1_makeNew_57 : decode cX1_makeNew 57 = .ok (.sipush 500, 3) := by decide +kernel
theorem dX1_makeNew_60 : decode cX1_makeNew 60 = .ok (.invokestatic 56, 3) := by decide +kernel
theorem dX1_makeNew_63 : decode cX1_makeNew 63 = .ok (.aload_n 0, 1) := by decide +kernel
theorem dX1_makeNew_64 : decode cX1_makeNew 64 = .ok (.getfield 33, 3) := by decide +kernel
theorem dX1_makeNew_67 : decode cX1_makeNew 67 = .ok (.iload_n 1, 1) := by decide +kernel
theorem dX1_makeNew_68 : decode cX1_makeNew 68 = .ok (.iconst 4, 1) := by decide +kernel
theorem dX1_makeNew_69 : decode cX1_makeNew 69 = .ok (.imul, 1) := by decide +kernel
theorem dX1_makeNew_70 : decode cX1_makeNew 70 = .ok (.iconst 2, 1) := by decide +kernel
theorem dX1_makeNew_71 : decode cX1_makeNew 71 = .ok (.iadd, 1) := by decide +kernel
theorem dX1_makeNew_72 : decode cX1_makeNew 72 = .ok (.iconst 4, 1) := by decide +kernel
theorem dX1_makeNew_73 : decode cX1_makeNew 73 = .ok (.invokestatic 56, 3) := by decide +kernel
theorem dX1_makeNew_76 : decode cX1_makeNew 76 = .ok (.aload_n 0, 1) := by decide +kernel
theorem dX1_makeNew_77 : decode cX1_makeNew 77 = .ok (.getfield 33, 3) := by decide +kernel
theorem dX1_makeNew_80 : decode cX1_makeNew 80 = .ok (.iload_n 1, 1) := by decide +kernel
theorem dX1_makeNew_81 : decode cX1_makeNew 81 = .ok (.iconst 4, 1) := by decide +kernel
theorem dX1_makeNew_82 : decode cX1_makeNew 82 = .ok (.imul, 1) := by decide +kernel
theorem dX1_makeNew_83 : decode cX1_makeNew 83 = .ok (.iconst 3, 1) := by decide +kernel
theorem dX1_makeNew_84 : decode cX1_makeNew 84 = .ok (.iadd, 1) := by decide +kernel
theorem dX1_makeNew_85 : decode cX1_makeNew 85 = .ok (.bipush 12, 2) := by decide +kernel
theorem dX1_makeNew_87 : decode cX1_makeNew 87 = .ok (.invokestatic 56, 3) := by decide +kernel
theorem dX1_makeNew_90 : decode cX1_makeNew 90 = .ok (.iinc 1 1, 3) := by decide +kernel
theorem dX1_makeNew_93 : decode cX1_makeNew 93 = .ok (.goto (-65), 3) := by decide +kernel
theorem dX1_makeNew_96 : decode cX1_makeNew 96 = .ok (.aload_n 0, 1) := by decide +kernel
theorem dX1_makeNew_97 : decode cX1_makeNew 97 = .ok (.getfield 36, 3) := by decide +kernel
theorem dX1_makeNew_100 : decode cX1_makeNew 100 = .ok (.iconst 0, 1) := by decide +kernel
theorem dX1_makeNew_101 : decode cX1_makeNew 101 = .ok (.iconst 5, 1) := by decide +kernel
theorem dX1_makeNew_102 : decode cX1_makeNew 102 = .ok (.invokestatic 56, 3) := by decide +kernel
theorem dX1_makeNew_105 : decode cX1_makeNew 105 = .ok (.aload_n 0, 1) := by decide +kernel
theorem dX1_makeNew_106 : decode cX1_makeNew 106 = .ok (.getfield 36, 3) := by decide +kernel
theorem dX1_makeNew_109 : decode cX1_makeNew 109 = .ok (.iconst 1, 1) := by decide +kernel
theorem dX1_makeNew_110 : decode cX1_makeNew 110 = .ok (.bipush 60, 2) := by decide +kernel
theorem dX1_makeNew_112 : decode cX1_makeNew 112 = .ok (.invokestatic 56, 3) := by decide +kernel
theorem dX1_makeNew_115 : decode cX1_makeNew 115 = .ok (.return_, 1) := by decide +kernel
theorem dX1_copyFrom_0 : decode cX1_copyFrom 0 = .ok (.aload_n 0, 1) := by decide +kernel
theorem dX1_copyFrom_1 : decode cX1_copyFrom 1 = .ok (.aload_n 1, 1) := by decide +kernel
theorem dX1_copyFrom_2 : decode cX1_copyFrom 2 = .ok (.getfield 45, 3) := by decide +kernel
theorem dX1_copyFrom_5 : decode cX1_copyFrom 5 = .ok (.putfield 45, 3) := by decide +kernel
theorem dX1_copyFrom_8 : decode cX1_copyFrom 8 = .ok (.aload_n 0, 1) := by decide +kernel
theorem dX1_copyFrom_9 : decode cX1_copyFrom 9 = .ok (.aload_n 1, 1) := by decide +kernel
theorem dX1_copyFrom_10 : decode cX1_copyFrom 10 = .ok (.getfield 49, 3) := by decide +kernel
theorem dX1_copyFrom_13 : decode cX1_copyFrom 13 = .ok (.putfield 49, 3) := by decide +kernel
theorem dX1_copyFrom_16 : decode cX1_copyFrom 16 = .ok (.aload_n 1, 1) := by decide +kernel
theorem dX1_copyFrom_17 : decode cX1_copyFrom 17 = .ok (.getfield 9, 3) := by decide +kernel
theorem dX1_copyFrom_20 : decode cX1_copyFrom 20 = .ok (.aload_n 0, 1) := by decide +kernel
theorem dX1_copyFrom_21 : decode cX1_copyFrom 21 = .ok (.getfield 9, 3) := by decide +kernel
theorem dX1_copyFrom_24 : decode cX1_copyFrom 24 = .ok (.invokestatic 60, 3) := by decide +kernel
theorem dX1_copyFrom_27 : decode cX1_copyFrom 27 = .ok (.aload_n 1, 1) := by decide +kernel
theorem dX1_copyFrom_28 : decode cX1_copyFrom 28 = .ok (.getfield 15, 3) := by decide +kernel
theorem dX1_copyFrom_31 : decode cX1_copyFrom 31 = .ok (.aload_n 0, 1) := by decide +kernel
theorem dX1_copyFrom_32 : decode cX1_copyFrom 32 = .ok (.getfield 15, 3) := by decide +kernel
theorem dX1_copyFrom_35 : decode cX1_copyFrom 35 = .ok (.invokestatic 60, 3) := by decide +kernel
theorem dX1_copyFrom_38 : decode cX1_copyFrom 38 = .ok (.aload_n 1, 1) := by decide +kernel
theorem dX1_copyFrom_39 : decode cX1_copyFrom 39 = .ok (.getfield 18, 3) := by decide +kernel
theorem dX1_copyFrom_42 : decode cX1_copyFrom 42 = .ok (.aload_n 0, 1) := by decide +kernel
theorem dX1_copyFrom_43 : decode cX1_copyFrom 43 = .ok (.getfield 18, 3) := by decide +kernel
theorem dX1_copyFrom_46 : decode cX1_copyFrom 46 = .ok (.invokestatic 60, 3) := by decide +kernel
theorem dX1_copyFrom_49 : decode cX1_copyFrom 49 = .ok (.aload_n 1, 1) := by decide +kernel
theorem dX1_copyFrom_50 : decode cX1_copyFrom 50 = .ok (.getfield 21, 3) := by decide +kernel
theorem dX1_copyFrom_53 : decode cX1_copyFrom 53 = .ok (.aload_n 0, 1) := by decide +kernel
theorem dX1_copyFrom_54 : decode cX1_copyFrom 54 = .ok (.getfield 21, 3) := by decide +kernel
theorem dX1_copyFrom_57 : decode cX1_copyFrom 57 = .ok (.invokestatic 60, 3) := by decide +kernel
theorem dX1_copyFrom_60 : decode cX1_copyFrom 60 = .ok (.aload_n 1, 1) := by decide +kernel
theorem dX1_copyFrom_61 : decode cX1_copyFrom 61 = .ok (.getfield 24, 3) := by decide +kernel
theorem dX1_copyFrom_64 : decode cX1_copyFrom 64 = .ok (.aload_n 0, 1) := by decide +kernel
theorem dX1_copyFrom_65 : decode cX1_copyFrom 65 = .ok (.getfield 24, 3) := by decide +kernel
theorem dX1_copyFrom_68 : decode cX1_copyFrom 68 = .ok (.invokestatic 60, 3) := by decide +kernel
theorem dX1_copyFrom_71 : decode cX1_copyFrom 71 = .ok (.aload_n 1, 1) := by decide +kernel
theorem dX1_copyFrom_72 : decode cX1_copyFrom 72 = .ok (.getfield 27, 3) := by decide +kernel
theorem dX1_copyFrom_75 : decode cX1_copyFrom 75 = .ok (.aload_n 0, 1) := by decide +kernel
theorem dX1_copyFrom_76 : decode cX1_copyFrom 76 = .ok (.getfield 27, 3) := by decide +kernel
theorem dX1_copyFrom_79 : decode cX1_copyFrom 79 = .ok (.invokestatic 60, 3) := by decide +kernel
theorem dX1_copyFrom_82 : decode cX1_copyFrom 82 = .ok (.aload_n 1, 1) := by decide +kernel
theorem dX1_copyFrom_83 : decode cX1_copyFrom 83 = .ok (.getfield 30, 3) := by decide +kernel
theorem dX1_copyFrom_86 : decode cX1_copyFrom 86 = .ok (.aload_n 0, 1) := by decide +kernel
theorem dX1_copyFrom_87 : decode cX1_copyFrom 87 = .ok (.getfield 30, 3) := by decide +kernel
theorem dX1_copyFrom_90 : decode cX1_copyFrom 90 = .ok (.invokestatic 60, 3) := by decide +kernel
theorem dX1_copyFrom_93 : decode cX1_copyFrom 93 = .ok (.aload_n 1, 1) := by decide +kernel
theorem dX1_copyFrom_94 : decode cX1_copyFrom 94 = .ok (.getfield 33, 3) := by decide +kernel
theorem dX1_copyFrom_97 : decode cX1_copyFrom 97 = .ok (.aload_n 0, 1) := by decide +kernel
theorem dX1_copyFrom_98 : decode cX1_copyFrom 98 = .ok (.getfield 33, 3) := by decide +kernel
theorem dX1_copyFrom_101 : decode cX1_copyFrom 101 = .ok (.invokestatic 60, 3) := by decide +kernel
theorem dX1_copyFrom_104 : decode cX1_copyFrom 104 = .ok (.aload_n 1, 1) := by decide +kernel
theorem dX1_copyFrom_105 : decode cX1_copyFrom 105 = .ok (.getfield 36, 3) := by decide +kernel
theorem dX1_copyFrom_108 : decode cX1_copyFrom 108 = .ok (.aload_n 0, 1) := by decide +kernel
theorem dX1_copyFrom_109 : decode cX1_copyFrom 109 = .ok (.getfield 36, 3) := by decide +kernel
theorem dX1_copyFrom_112 : decode cX1_copyFrom 112 = .ok (.invokestatic 60, 3) := by decide +kernel
theorem dX1_copyFrom_115 : decode cX1_copyFrom 115 = .ok (.aload_n 1, 1) := by decide +kernel
theorem dX1_copyFrom_116 : decode cX1_copyFrom 116 = .ok (.getfield 39, 3) := by decide +kernel
theorem dX1_copyFrom_119 : decode cX1_copyFrom 119 = .ok (.aload_n 0, 1) := by decide +kernel
theorem dX1_copyFrom_120 : decode cX1_copyFrom 120 = .ok (.getfield 39, 3) := by decide +kernel
theorem dX1_copyFrom_123 : decode cX1_copyFrom 123 = .ok (.invokestatic 60, 3) := by decide +kernel
theorem dX1_copyFrom_126 : decode cX1_copyFrom 126 = .ok (.return_, 1) := by decide +kernel
theorem dX1_hasChair_0 : decode cX1_hasChair 0 = .ok (.iload_n 1, 1) := by decide +kernel
theorem dX1_hasChair_1 : decode cX1_hasChair 1 = .ok (.ifCond .lt 15, 3) := by decide +kernel
theorem dX1_hasChair_4 : decode cX1_hasChair 4 = .ok (.iload_n 1, 1) := by decide +kernel
theorem dX1_hasChair_5 : decode cX1_hasChair 5 = .ok (.aload_n 0, 1) := by decide +kernel
theorem dX1_hasChair_6 : decode cX1_hasChair 6 = .ok (.getfield 45, 3) := by decide +kernel
theorem dX1_hasChair_9 : decode cX1_hasChair 9 = .ok (.if_icmp .ge 7, 3) := by decide +kernel
theorem dX1_hasChair_12 : decode cX1_hasChair 12 = .ok (.iconst 1, 1) := by decide +kernel
theorem dX1_hasChair_13 : decode cX1_hasChair 13 = .ok (.goto 4, 3) := by decide +kernel
theorem dX1_hasChair_16 : decode cX1_hasChair 16 = .ok (.iconst 0, 1) := by decide +kernel
theorem dX1_hasChair_17 : decode cX1_hasChair 17 = .ok (.ireturn, 1) := by decide +kernel
theorem dX1_hasFloor_0 : decode cX1_hasFloor 0 = .ok (.iload_n 1, 1) := by decide +kernel
theorem dX1_hasFloor_1 : decode cX1_hasFloor 1 = .ok (.ifCond .lt 15, 3) := by decide +kernel
theorem dX1_hasFloor_4 : decode cX1_hasFloor 4 = .ok (.iload_n 1, 1) := by decide +kernel
theorem dX1_hasFloor_5 : decode cX1_hasFloor 5 = .ok (.aload_n 0, 1) := by decide +kernel
theorem dX1_hasFloor_6 : decode cX1_hasFloor 6 = .ok (.getfield 49, 3) := by decide +kernel
theorem dX1_hasFloor_9 : decode cX1_hasFloor 9 = .ok (.if_icmp .ge 7, 3) := by decide +kernel
theorem dX1_hasFloor_12 : decode cX1_hasFloor 12 = .ok (.iconst 1, 1) := by decide +kernel
theorem dX1_hasFloor_13 : decode cX1_hasFloor 13 = .ok (.goto 4, 3) := by decide +kernel
theorem dX1_hasFloor_16 : decode cX1_hasFloor 16 = .ok (.iconst 0, 1) := by decide +kernel
theorem dX1_hasFloor_17 : decode cX1_hasFloor 17 = .ok (.ireturn, 1) := by decide +kernel
theorem dX1_length_0 : decode cX1_length 0 = .ok (.aload_n 0, 1) := by decide +kernel
theorem dX1_length_1 : decode cX1_length 1 = .ok (.getfield 27, 3) := by decide +kernel
theorem dX1_length_4 : decode cX1_length 4 = .ok (.iload_n 1, 1) := by decide +kernel
theorem dX1_length_5 : decode cX1_length 5 = .ok (.iconst 4, 1) := by decide +kernel
theorem dX1_length_6 : decode cX1_length 6 = .ok (.imul, 1) := by decide +kernel
theorem dX1_length_7 : decode cX1_length 7 = .ok (.iload_n 2, 1) := by decide +kernel
theorem dX1_length_8 : decode cX1_length 8 = .ok (.iadd, 1) := by decide +kernel
theorem dX1_length_9 : decode cX1_length 9 = .ok (.invokestatic 64, 3) := by decide +kernel
theorem dX1_length_12 : decode cX1_length 12 = .ok (.ireturn, 1) := by decide +kernel
theorem dX1_height_0 : decode cX1_height 0 = .ok (.aload_n 0, 1) := by decide +kernel
theorem dX1_height_1 : decode cX1_height 1 = .ok (.getfield 30, 3) := by decide +kernel
theorem dX1_height_4 : decode cX1_height 4 = .ok (.iload_n 1, 1) := by decide +kernel
theorem dX1_height_5 : decode cX1_height 5 = .ok (.iconst 4, 1) := by decide +kernel
theorem dX1_height_6 : decode cX1_height 6 = .ok (.imul, 1) := by decide +kernel
theorem dX1_height_7 : decode cX1_height 7 = .ok (.iload_n 2, 1) := by decide +kernel
theorem dX1_height_8 : decode cX1_height 8 = .ok (.iadd, 1) := by decide +kernel
theorem dX1_height_9 : decode cX1_height 9 = .ok (.invokestatic 64, 3) := by decide +kernel
theorem dX1_height_12 : decode cX1_height 12 = .ok (.ireturn, 1) := by decide +kernel
theorem dX1_limit_0 : decode cX1_limit 0 = .ok (.aload_n 0, 1) := by decide +kernel
theorem dX1_limit_1 : decode cX1_limit 1 = .ok (.getfield 33, 3) := by decide +kernel
theorem dX1_limit_4 : decode cX1_limit 4 = .ok (.iload_n 1, 1) := by decide +kernel
theorem dX1_limit_5 : decode cX1_limit 5 = .ok (.iconst 4, 1) := by decide +kernel
theorem dX1_limit_6 : decode cX1_limit 6 = .ok (.imul, 1) := by decide +kernel
theorem dX1_limit_7 : decode cX1_limit 7 = .ok (.iload_n 2, 1) := by decide +kernel
theorem dX1_limit_8 : decode cX1_limit 8 = .ok (.iadd, 1) := by decide +kernel
theorem dX1_limit_9 : decode cX1_limit 9 = .ok (.invokestatic 64, 3) := by decide +kernel
theorem dX1_limit_12 : decode cX1_limit 12 = .ok (.ireturn, 1) := by decide +kernel
theorem dX1_stampedChairs_0 : decode cX1_stampedChairs 0 = .ok (.iconst 0, 1) := by decide +kernel
theorem dX1_stampedChairs_1 : decode cX1_stampedChairs 1 = .ok (.istore_n 1, 1) := by decide +kernel
theorem dX1_stampedChairs_2 : decode cX1_stampedChairs 2 = .ok (.iconst 0, 1) := by decide +kernel
theorem dX1_stampedChairs_3 : decode cX1_stampedChairs 3 = .ok (.istore_n 2, 1) := by decide +kernel
theorem dX1_stampedChairs_4 : decode cX1_stampedChairs 4 = .ok (.iload_n 2, 1) := by decide +kernel
theorem dX1_stampedChairs_5 : decode cX1_stampedChairs 5 = .ok (.aload_n 0, 1) := by decide +kernel
theorem dX1_stampedChairs_6 : decode cX1_stampedChairs 6 = .ok (.getfield 45, 3) := by decide +kernel
theorem dX1_stampedChairs_9 : decode cX1_stampedChairs 9 = .ok (.if_icmp .ge 20, 3) := by decide +kernel
theorem dX1_stampedChairs_12 : decode cX1_stampedChairs 12 = .ok (.iload_n 1, 1) := by decide +kernel
theorem dX1_stampedChairs_13 : decode cX1_stampedChairs 13 = .ok (.aload_n 0, 1) := by decide +kernel
theorem dX1_stampedChairs_14 : decode cX1_stampedChairs 14 = .ok (.getfield 21, 3) := by decide +kernel
theorem dX1_stampedChairs_17 : decode cX1_stampedChairs 17 = .ok (.iload_n 2, 1) := by decide +kernel
theorem dX1_stampedChairs_18 : decode cX1_stampedChairs 18 = .ok (.invokestatic 64, 3) := by decide +kernel
theorem dX1_stampedChairs_21 : decode cX1_stampedChairs 21 = .ok (.iadd, 1) := by decide +kernel
theorem dX1_stampedChairs_22 : decode cX1_stampedChairs 22 = .ok (.istore_n 1, 1) := by decide +kernel
theorem dX1_stampedChairs_23 : decode cX1_stampedChairs 23 = .ok (.iinc 2 1, 3) := by decide +kernel
theorem dX1_stampedChairs_26 : decode cX1_stampedChairs 26 = .ok (.goto (-22), 3) := by decide +kernel
theorem dX1_stampedChairs_29 : decode cX1_stampedChairs 29 = .ok (.iload_n 1, 1) := by decide +kernel
theorem dX1_stampedChairs_30 : decode cX1_stampedChairs 30 = .ok (.ireturn, 1) := by decide +kernel
theorem dX1_reachOn_0 : decode cX1_reachOn 0 = .ok (.aload_n 0, 1) := by decide +kernel
theorem dX1_reachOn_1 : decode cX1_reachOn 1 = .ok (.getfield 27, 3) := by decide +kernel
theorem dX1_reachOn_4 : decode cX1_reachOn 4 = .ok (.iload_n 1, 1) := by decide +kernel
theorem dX1_reachOn_5 : decode cX1_reachOn 5 = .ok (.iconst 4, 1) := by decide +kernel
theorem dX1_reachOn_6 : decode cX1_reachOn 6 = .ok (.imul, 1) := by decide +kernel
theorem dX1_reachOn_7 : decode cX1_reachOn 7 = .ok (.iload_n 2, 1) := by decide +kernel
theorem dX1_reachOn_8 : decode cX1_reachOn 8 = .ok (.iadd, 1) := by decide +kernel
theorem dX1_reachOn_9 : decode cX1_reachOn 9 = .ok (.invokestatic 64, 3) := by decide +kernel
theorem dX1_reachOn_12 : decode cX1_reachOn 12 = .ok (.aload_n 0, 1) := by decide +kernel
theorem dX1_reachOn_13 : decode cX1_reachOn 13 = .ok (.getfield 30, 3) := by decide +kernel
theorem dX1_reachOn_16 : decode cX1_reachOn 16 = .ok (.iload_n 3, 1) := by decide +kernel
theorem dX1_reachOn_17 : decode cX1_reachOn 17 = .ok (.iconst 4, 1) := by decide +kernel
theorem dX1_reachOn_18 : decode cX1_reachOn 18 = .ok (.imul, 1) := by decide +kernel
theorem dX1_reachOn_19 : decode cX1_reachOn 19 = .ok (.iload_n 2, 1) := by decide +kernel
theorem dX1_reachOn_20 : decode cX1_reachOn 20 = .ok (.iload 4, 2) := by decide +kernel
theorem dX1_reachOn_22 : decode cX1_reachOn 22 = .ok (.iadd, 1) := by decide +kernel
theorem dX1_reachOn_23 : decode cX1_reachOn 23 = .ok (.iconst 4, 1) := by decide +kernel
theorem dX1_reachOn_24 : decode cX1_reachOn 24 = .ok (.irem, 1) := by decide +kernel
theorem dX1_reachOn_25 : decode cX1_reachOn 25 = .ok (.iadd, 1) := by decide +kernel
theorem dX1_reachOn_26 : decode cX1_reachOn 26 = .ok (.invokestatic 64, 3) := by decide +kernel
theorem dX1_reachOn_29 : decode cX1_reachOn 29 = .ok (.isub, 1) := by decide +kernel
theorem dX1_reachOn_30 : decode cX1_reachOn 30 = .ok (.ireturn, 1) := by decide +kernel
theorem dX1_reachNow_0 : decode cX1_reachNow 0 = .ok (.aload_n 0, 1) := by decide +kernel
theorem dX1_reachNow_1 : decode cX1_reachNow 1 = .ok (.iload_n 1, 1) := by decide +kernel
theorem dX1_reachNow_2 : decode cX1_reachNow 2 = .ok (.iload_n 2, 1) := by decide +kernel
theorem dX1_reachNow_3 : decode cX1_reachNow 3 = .ok (.aload_n 0, 1) := by decide +kernel
theorem dX1_reachNow_4 : decode cX1_reachNow 4 = .ok (.getfield 15, 3) := by decide +kernel
theorem dX1_reachNow_7 : decode cX1_reachNow 7 = .ok (.iload_n 1, 1) := by decide +kernel
theorem dX1_reachNow_8 : decode cX1_reachNow 8 = .ok (.invokestatic 64, 3) := by decide +kernel
theorem dX1_reachNow_11 : decode cX1_reachNow 11 = .ok (.aload_n 0, 1) := by decide +kernel
theorem dX1_reachNow_12 : decode cX1_reachNow 12 = .ok (.getfield 18, 3) := by decide +kernel
theorem dX1_reachNow_15 : decode cX1_reachNow 15 = .ok (.iload_n 1, 1) := by decide +kernel
theorem dX1_reachNow_16 : decode cX1_reachNow 16 = .ok (.invokestatic 64, 3) := by decide +kernel
theorem dX1_reachNow_19 : decode cX1_reachNow 19 = .ok (.invokevirtual 68, 3) := by decide +kernel
theorem dX1_reachNow_22 : decode cX1_reachNow 22 = .ok (.ireturn, 1) := by decide +kernel
theorem dX1_wobbleOn_0 : decode cX1_wobbleOn 0 = .ok (.aload_n 0, 1) := by decide +kernel
theorem dX1_wobbleOn_1 : decode cX1_wobbleOn 1 = .ok (.iload_n 1, 1) := by decide +kernel
theorem dX1_wobbleOn_2 : decode cX1_wobbleOn 2 = .ok (.iconst 0, 1) := by decide +kernel
theorem dX1_wobbleOn_3 : decode cX1_wobbleOn 3 = .ok (.iload_n 2, 1) := by decide +kernel
theorem dX1_wobbleOn_4 : decode cX1_wobbleOn 4 = .ok (.iload_n 3, 1) := by decide +kernel
theorem dX1_wobbleOn_5 : decode cX1_wobbleOn 5 = .ok (.invokevirtual 68, 3) := by decide +kernel
theorem dX1_wobbleOn_8 : decode cX1_wobbleOn 8 = .ok (.aload_n 0, 1) := by decide +kernel
theorem dX1_wobbleOn_9 : decode cX1_wobbleOn 9 = .ok (.iload_n 1, 1) := by decide +kernel
theorem dX1_wobbleOn_10 : decode cX1_wobbleOn 10 = .ok (.iconst 2, 1) := by decide +kernel
theorem dX1_wobbleOn_11 : decode cX1_wobbleOn 11 = .ok (.iload_n 2, 1) := by decide +kernel
theorem dX1_wobbleOn_12 : decode cX1_wobbleOn 12 = .ok (.iload_n 3, 1) := by decide +kernel
theorem dX1_wobbleOn_13 : decode cX1_wobbleOn 13 = .ok (.invokevirtual 68, 3) := by decide +kernel
theorem dX1_wobbleOn_16 : decode cX1_wobbleOn 16 = .ok (.iadd, 1) := by decide +kernel
theorem dX1_wobbleOn_17 : decode cX1_wobbleOn 17 = .ok (.istore 4, 2) := by decide +kernel
theorem dX1_wobbleOn_19 : decode cX1_wobbleOn 19 = .ok (.aload_n 0, 1) := by decide +kernel
theorem dX1_wobbleOn_20 : decode cX1_wobbleOn 20 = .ok (.iload_n 1, 1) := by decide +kernel
theorem dX1_wobbleOn_21 : decode cX1_wobbleOn 21 = .ok (.iconst 1, 1) := by decide +kernel
theorem dX1_wobbleOn_22 : decode cX1_wobbleOn 22 = .ok (.iload_n 2, 1) := by decide +kernel
theorem dX1_wobbleOn_23 : decode cX1_wobbleOn 23 = .ok (.iload_n 3, 1) := by decide +kernel
theorem dX1_wobbleOn_24 : decode cX1_wobbleOn 24 = .ok (.invokevirtual 68, 3) := by decide +kernel
theorem dX1_wobbleOn_27 : decode cX1_wobbleOn 27 = .ok (.aload_n 0, 1) := by decide +kernel
theorem dX1_wobbleOn_28 : decode cX1_wobbleOn 28 = .ok (.iload_n 1, 1) := by decide +kernel
theorem dX1_wobbleOn_29 : decode cX1_wobbleOn 29 = .ok (.iconst 3, 1) := by decide +kernel
theorem dX1_wobbleOn_30 : decode cX1_wobbleOn 30 = .ok (.iload_n 2, 1) := by decide +kernel
theorem dX1_wobbleOn_31 : decode cX1_wobbleOn 31 = .ok (.iload_n 3, 1) := by decide +kernel
theorem dX1_wobbleOn_32 : decode cX1_wobbleOn 32 = .ok (.invokevirtual 68, 3) := by decide +kernel
theorem dX1_wobbleOn_35 : decode cX1_wobbleOn 35 = .ok (.iadd, 1) := by decide +kernel
theorem dX1_wobbleOn_36 : decode cX1_wobbleOn 36 = .ok (.istore 5, 2) := by decide +kernel
theorem dX1_wobbleOn_38 : decode cX1_wobbleOn 38 = .ok (.iload 4, 2) := by decide +kernel
theorem dX1_wobbleOn_40 : decode cX1_wobbleOn 40 = .ok (.iload 5, 2) := by decide +kernel
theorem dX1_wobbleOn_42 : decode cX1_wobbleOn 42 = .ok (.if_icmp .le 11, 3) := by decide +kernel
theorem dX1_wobbleOn_45 : decode cX1_wobbleOn 45 = .ok (.iload 4, 2) := by decide +kernel
theorem dX1_wobbleOn_47 : decode cX1_wobbleOn 47 = .ok (.iload 5, 2) := by decide +kernel
theorem dX1_wobbleOn_49 : decode cX1_wobbleOn 49 = .ok (.isub, 1) := by decide +kernel
theorem dX1_wobbleOn_50 : decode cX1_wobbleOn 50 = .ok (.goto 8, 3) := by decide +kernel
theorem dX1_wobbleOn_53 : decode cX1_wobbleOn 53 = .ok (.iload 5, 2) := by decide +kernel
theorem dX1_wobbleOn_55 : decode cX1_wobbleOn 55 = .ok (.iload 4, 2) := by decide +kernel
theorem dX1_wobbleOn_57 : decode cX1_wobbleOn 57 = .ok (.isub, 1) := by decide +kernel
theorem dX1_wobbleOn_58 : decode cX1_wobbleOn 58 = .ok (.ireturn, 1) := by decide +kernel
theorem dX1_wobbleNow_0 : decode cX1_wobbleNow 0 = .ok (.aload_n 0, 1) := by decide +kernel
theorem dX1_wobbleNow_1 : decode cX1_wobbleNow 1 = .ok (.iload_n 1, 1) := by decide +kernel
theorem dX1_wobbleNow_2 : decode cX1_wobbleNow 2 = .ok (.aload_n 0, 1) := by decide +kernel
theorem dX1_wobbleNow_3 : decode cX1_wobbleNow 3 = .ok (.getfield 15, 3) := by decide +kernel
theorem dX1_wobbleNow_6 : decode cX1_wobbleNow 6 = .ok (.iload_n 1, 1) := by decide +kernel
theorem dX1_wobbleNow_7 : decode cX1_wobbleNow 7 = .ok (.invokestatic 64, 3) := by decide +kernel
theorem dX1_wobbleNow_10 : decode cX1_wobbleNow 10 = .ok (.aload_n 0, 1) := by decide +kernel
theorem dX1_wobbleNow_11 : decode cX1_wobbleNow 11 = .ok (.getfield 18, 3) := by decide +kernel
theorem dX1_wobbleNow_14 : decode cX1_wobbleNow 14 = .ok (.iload_n 1, 1) := by decide +kernel
theorem dX1_wobbleNow_15 : decode cX1_wobbleNow 15 = .ok (.invokestatic 64, 3) := by decide +kernel
theorem dX1_wobbleNow_18 : decode cX1_wobbleNow 18 = .ok (.invokevirtual 72, 3) := by decide +kernel
theorem dX1_wobbleNow_21 : decode cX1_wobbleNow 21 = .ok (.ireturn, 1) := by decide +kernel
theorem dX1_leanOn_0 : decode cX1_leanOn 0 = .ok (.aload_n 0, 1) := by decide +kernel
theorem dX1_leanOn_1 : decode cX1_leanOn 1 = .ok (.iload_n 1, 1) := by decide +kernel
theorem dX1_leanOn_2 : decode cX1_leanOn 2 = .ok (.iconst 0, 1) := by decide +kernel
theorem dX1_leanOn_3 : decode cX1_leanOn 3 = .ok (.iload_n 2, 1) := by decide +kernel
theorem dX1_leanOn_4 : decode cX1_leanOn 4 = .ok (.iload_n 3, 1) := by decide +kernel
theorem dX1_leanOn_5 : decode cX1_leanOn 5 = .ok (.invokevirtual 68, 3) := by decide +kernel
theorem dX1_leanOn_8 : decode cX1_leanOn 8 = .ok (.istore 4, 2) := by decide +kernel
theorem dX1_leanOn_10 : decode cX1_leanOn 10 = .ok (.iload 4, 2) := by decide +kernel
theorem dX1_leanOn_12 : decode cX1_leanOn 12 = .ok (.istore 5, 2) := by decide +kernel
theorem dX1_leanOn_14 : decode cX1_leanOn 14 = .ok (.iconst 1, 1) := by decide +kernel
theorem dX1_leanOn_15 : decode cX1_leanOn 15 = .ok (.istore 6, 2) := by decide +kernel
theorem dX1_leanOn_17 : decode cX1_leanOn 17 = .ok (.iload 6, 2) := by decide +kernel
theorem dX1_leanOn_19 : decode cX1_leanOn 19 = .ok (.iconst 4, 1) := by decide +kernel
theorem dX1_leanOn_20 : decode cX1_leanOn 20 = .ok (.if_icmp .ge 38, 3) := by decide +kernel
theorem dX1_leanOn_23 : decode cX1_leanOn 23 = .ok (.aload_n 0, 1) := by decide +kernel
theorem dX1_leanOn_24 : decode cX1_leanOn 24 = .ok (.iload_n 1, 1) := by decide +kernel
theorem dX1_leanOn_25 : decode cX1_leanOn 25 = .ok (.iload 6, 2) := by decide +kernel
theorem dX1_leanOn_27 : decode cX1_leanOn 27 = .ok (.iload_n 2, 1) := by decide +kernel
theorem dX1_leanOn_28 : decode cX1_leanOn 28 = .ok (.iload_n 3, 1) := by decide +kernel
theorem dX1_leanOn_29 : decode cX1_leanOn 29 = .ok (.invokevirtual 68, 3) := by decide +kernel
theorem dX1_leanOn_32 : decode cX1_leanOn 32 = .ok (.istore 7, 2) := by decide +kernel
theorem dX1_leanOn_34 : decode cX1_leanOn 34 = .ok (.iload 4, 2) := by decide +kernel
theorem dX1_leanOn_36 : decode cX1_leanOn 36 = .ok (.iload 7, 2) := by decide +kernel
theorem dX1_leanOn_38 : decode cX1_leanOn 38 = .ok (.invokestatic 76, 3) := by decide +kernel
theorem dX1_leanOn_41 : decode cX1_leanOn 41 = .ok (.istore 4, 2) := by decide +kernel
theorem dX1_leanOn_43 : decode cX1_leanOn 43 = .ok (.iload 5, 2) := by decide +kernel
theorem dX1_leanOn_45 : decode cX1_leanOn 45 = .ok (.iload 7, 2) := by decide +kernel
theorem dX1_leanOn_47 : decode cX1_leanOn 47 = .ok (.invokestatic 82, 3) := by decide +kernel
theorem dX1_leanOn_50 : decode cX1_leanOn 50 = .ok (.istore 5, 2) := by decide +kernel
theorem dX1_leanOn_52 : decode cX1_leanOn 52 = .ok (.iinc 6 1, 3) := by decide +kernel
theorem dX1_leanOn_55 : decode cX1_leanOn 55 = .ok (.goto (-38), 3) := by decide +kernel
theorem dX1_leanOn_58 : decode cX1_leanOn 58 = .ok (.iload 5, 2) := by decide +kernel
theorem dX1_leanOn_60 : decode cX1_leanOn 60 = .ok (.iload 4, 2) := by decide +kernel
theorem dX1_leanOn_62 : decode cX1_leanOn 62 = .ok (.isub, 1) := by decide +kernel
theorem dX1_leanOn_63 : decode cX1_leanOn 63 = .ok (.ireturn, 1) := by decide +kernel
theorem dX1_leanNow_0 : decode cX1_leanNow 0 = .ok (.aload_n 0, 1) := by decide +kernel
theorem dX1_leanNow_1 : decode cX1_leanNow 1 = .ok (.iload_n 1, 1) := by decide +kernel
theorem dX1_leanNow_2 : decode cX1_leanNow 2 = .ok (.aload_n 0, 1) := by decide +kernel
theorem dX1_leanNow_3 : decode cX1_leanNow 3 = .ok (.getfield 15, 3) := by decide +kernel
theorem dX1_leanNow_6 : decode cX1_leanNow 6 = .ok (.iload_n 1, 1) := by decide +kernel
theorem dX1_leanNow_7 : decode cX1_leanNow 7 = .ok (.invokestatic 64, 3) := by decide +kernel
theorem dX1_leanNow_10 : decode cX1_leanNow 10 = .ok (.aload_n 0, 1) := by decide +kernel
theorem dX1_leanNow_11 : decode cX1_leanNow 11 = .ok (.getfield 18, 3) := by decide +kernel
theorem dX1_leanNow_14 : decode cX1_leanNow 14 = .ok (.iload_n 1, 1) := by decide +kernel
theorem dX1_leanNow_15 : decode cX1_leanNow 15 = .ok (.invokestatic 64, 3) := by decide +kernel
theorem dX1_leanNow_18 : decode cX1_leanNow 18 = .ok (.invokevirtual 85, 3) := by decide +kernel
theorem dX1_leanNow_21 : decode cX1_leanNow 21 = .ok (.ireturn, 1) := by decide +kernel
theorem dX1_gapUnder_0 : decode cX1_gapUnder 0 = .ok (.aload_n 0, 1) := by decide +kernel
theorem dX1_gapUnder_1 : decode cX1_gapUnder 1 = .ok (.iload_n 1, 1) := by decide +kernel
theorem dX1_gapUnder_2 : decode cX1_gapUnder 2 = .ok (.iload_n 2, 1) := by decide +kernel
theorem dX1_gapUnder_3 : decode cX1_gapUnder 3 = .ok (.iconst 1, 1) := by decide +kernel
theorem dX1_gapUnder_4 : decode cX1_gapUnder 4 = .ok (.iadd, 1) := by decide +kernel
theorem dX1_gapUnder_5 : decode cX1_gapUnder 5 = .ok (.iconst 4, 1) := by decide +kernel
theorem dX1_gapUnder_6 : decode cX1_gapUnder 6 = .ok (.irem, 1) := by decide +kernel
theorem dX1_gapUnder_7 : decode cX1_gapUnder 7 = .ok (.invokevirtual 88, 3) := by decide +kernel
theorem dX1_gapUnder_10 : decode cX1_gapUnder 10 = .ok (.aload_n 0, 1) := by decide +kernel
theorem dX1_gapUnder_11 : decode cX1_gapUnder 11 = .ok (.iload_n 1, 1) := by decide +kernel
theorem dX1_gapUnder_12 : decode cX1_gapUnder 12 = .ok (.iload_n 2, 1) := by decide +kernel
theorem dX1_gapUnder_13 : decode cX1_gapUnder 13 = .ok (.iconst 3, 1) := by decide +kernel
theorem dX1_gapUnder_14 : decode cX1_gapUnder 14 = .ok (.iadd, 1) := by decide +kernel
theorem dX1_gapUnder_15 : decode cX1_gapUnder 15 = .ok (.iconst 4, 1) := by decide +kernel
theorem dX1_gapUnder_16 : decode cX1_gapUnder 16 = .ok (.irem, 1) := by decide +kernel
theorem dX1_gapUnder_17 : decode cX1_gapUnder 17 = .ok (.invokevirtual 88, 3) := by decide +kernel
theorem dX1_gapUnder_20 : decode cX1_gapUnder 20 = .ok (.iadd, 1) := by decide +kernel
theorem dX1_gapUnder_21 : decode cX1_gapUnder 21 = .ok (.istore_n 3, 1) := by decide +kernel
theorem dX1_gapUnder_22 : decode cX1_gapUnder 22 = .ok (.iload_n 3, 1) := by decide +kernel
theorem dX1_gapUnder_23 : decode cX1_gapUnder 23 = .ok (.aload_n 0, 1) := by decide +kernel
theorem dX1_gapUnder_24 : decode cX1_gapUnder 24 = .ok (.iload_n 1, 1) := by decide +kernel
theorem dX1_gapUnder_25 : decode cX1_gapUnder 25 = .ok (.iload_n 2, 1) := by decide +kernel
theorem dX1_gapUnder_26 : decode cX1_gapUnder 26 = .ok (.iconst 2, 1) := by decide +kernel
theorem dX1_gapUnder_27 : decode cX1_gapUnder 27 = .ok (.iadd, 1) := by decide +kernel
theorem dX1_gapUnder_28 : decode cX1_gapUnder 28 = .ok (.iconst 4, 1) := by decide +kernel
theorem dX1_gapUnder_29 : decode cX1_gapUnder 29 = .ok (.irem, 1) := by decide +kernel
theorem dX1_gapUnder_30 : decode cX1_gapUnder 30 = .ok (.invokevirtual 88, 3) := by decide +kernel
theorem dX1_gapUnder_33 : decode cX1_gapUnder 33 = .ok (.isub, 1) := by decide +kernel
theorem dX1_gapUnder_34 : decode cX1_gapUnder 34 = .ok (.aload_n 0, 1) := by decide +kernel
theorem dX1_gapUnder_35 : decode cX1_gapUnder 35 = .ok (.iload_n 1, 1) := by decide +kernel
theorem dX1_gapUnder_36 : decode cX1_gapUnder 36 = .ok (.iload_n 2, 1) := by decide +kernel
theorem dX1_gapUnder_37 : decode cX1_gapUnder 37 = .ok (.invokevirtual 88, 3) := by decide +kernel
theorem dX1_gapUnder_40 : decode cX1_gapUnder 40 = .ok (.isub, 1) := by decide +kernel
theorem dX1_gapUnder_41 : decode cX1_gapUnder 41 = .ok (.istore 4, 2) := by decide +kernel
theorem dX1_gapUnder_43 : decode cX1_gapUnder 43 = .ok (.iload 4, 2) := by decide +kernel
theorem dX1_gapUnder_45 : decode cX1_gapUnder 45 = .ok (.ifCond .ge 9, 3) := by decide +kernel
theorem dX1_gapUnder_48 : decode cX1_gapUnder 48 = .ok (.iload 4, 2) := by decide +kernel
theorem dX1_gapUnder_50 : decode cX1_gapUnder 50 = .ok (.ineg, 1) := by decide +kernel
theorem dX1_gapUnder_51 : decode cX1_gapUnder 51 = .ok (.goto 5, 3) := by decide +kernel
theorem dX1_gapUnder_54 : decode cX1_gapUnder 54 = .ok (.iload 4, 2) := by decide +kernel
theorem dX1_gapUnder_56 : decode cX1_gapUnder 56 = .ok (.ireturn, 1) := by decide +kernel
theorem dX1_greatestGap_0 : decode cX1_greatestGap 0 = .ok (.iconst 0, 1) := by decide +kernel
theorem dX1_greatestGap_1 : decode cX1_greatestGap 1 = .ok (.istore_n 2, 1) := by decide +kernel
theorem dX1_greatestGap_2 : decode cX1_greatestGap 2 = .ok (.iconst 0, 1) := by decide +kernel
theorem dX1_greatestGap_3 : decode cX1_greatestGap 3 = .ok (.istore_n 3, 1) := by decide +kernel
theorem dX1_greatestGap_4 : decode cX1_greatestGap 4 = .ok (.iload_n 3, 1) := by decide +kernel
theorem dX1_greatestGap_5 : decode cX1_greatestGap 5 = .ok (.iconst 4, 1) := by decide +kernel
theorem dX1_greatestGap_6 : decode cX1_greatestGap 6 = .ok (.if_icmp .ge 20, 3) := by decide +kernel
theorem dX1_greatestGap_9 : decode cX1_greatestGap 9 = .ok (.iload_n 2, 1) := by decide +kernel
theorem dX1_greatestGap_10 : decode cX1_greatestGap 10 = .ok (.aload_n 0, 1) := by decide +kernel
theorem dX1_greatestGap_11 : decode cX1_greatestGap 11 = .ok (.iload_n 1, 1) := by decide +kernel
theorem dX1_greatestGap_12 : decode cX1_greatestGap 12 = .ok (.iload_n 3, 1) := by decide +kernel
theorem dX1_greatestGap_13 : decode cX1_greatestGap 13 = .ok (.invokevirtual 91, 3) := by decide +kernel
theorem dX1_greatestGap_16 : decode cX1_greatestGap 16 = .ok (.invokestatic 82, 3) := by decide +kernel
theorem dX1_greatestGap_19 : decode cX1_greatestGap 19 = .ok (.istore_n 2, 1) := by decide +kernel
theorem dX1_greatestGap_20 : decode cX1_greatestGap 20 = .ok (.iinc 3 1, 3) := by decide +kernel
theorem dX1_greatestGap_23 : decode cX1_greatestGap 23 = .ok (.goto (-19), 3) := by decide +kernel
theorem dX1_greatestGap_26 : decode cX1_greatestGap 26 = .ok (.iload_n 2, 1) := by decide +kernel
theorem dX1_greatestGap_27 : decode cX1_greatestGap 27 = .ok (.ireturn, 1) := by decide +kernel
theorem dX1_seatHeight_0 : decode cX1_seatHeight 0 = .ok (.iconst 0, 1) := by decide +kernel
theorem dX1_seatHeight_1 : decode cX1_seatHeight 1 = .ok (.istore_n 2, 1) := by decide +kernel
theorem dX1_seatHeight_2 : decode cX1_seatHeight 2 = .ok (.iconst 0, 1) := by decide +kernel
theorem dX1_seatHeight_3 : decode cX1_seatHeight 3 = .ok (.istore_n 3, 1) := by decide +kernel
theorem dX1_seatHeight_4 : decode cX1_seatHeight 4 = .ok (.iload_n 3, 1) := by decide +kernel
theorem dX1_seatHeight_5 : decode cX1_seatHeight 5 = .ok (.iconst 4, 1) := by decide +kernel
theorem dX1_seatHeight_6 : decode cX1_seatHeight 6 = .ok (.if_icmp .ge 18, 3) := by decide +kernel
theorem dX1_seatHeight_9 : decode cX1_seatHeight 9 = .ok (.iload_n 2, 1) := by decide +kernel
theorem dX1_seatHeight_10 : decode cX1_seatHeight 10 = .ok (.aload_n 0, 1) := by decide +kernel
theorem dX1_seatHeight_11 : decode cX1_seatHeight 11 = .ok (.iload_n 1, 1) := by decide +kernel
theorem dX1_seatHeight_12 : decode cX1_seatHeight 12 = .ok (.iload_n 3, 1) := by decide +kernel
theorem dX1_seatHeight_13 : decode cX1_seatHeight 13 = .ok (.invokevirtual 94, 3) := by decide +kernel
theorem dX1_seatHeight_16 : decode cX1_seatHeight 16 = .ok (.iadd, 1) := by decide +kernel
theorem dX1_seatHeight_17 : decode cX1_seatHeight 17 = .ok (.istore_n 2, 1) := by decide +kernel
theorem dX1_seatHeight_18 : decode cX1_seatHeight 18 = .ok (.iinc 3 1, 3) := by decide +kernel
theorem dX1_seatHeight_21 : decode cX1_seatHeight 21 = .ok (.goto (-17), 3) := by decide +kernel
theorem dX1_seatHeight_24 : decode cX1_seatHeight 24 = .ok (.iload_n 2, 1) := by decide +kernel
theorem dX1_seatHeight_25 : decode cX1_seatHeight 25 = .ok (.iconst 4, 1) := by decide +kernel
theorem dX1_seatHeight_26 : decode cX1_seatHeight 26 = .ok (.idiv, 1) := by decide +kernel
theorem dX1_seatHeight_27 : decode cX1_seatHeight 27 = .ok (.ireturn, 1) := by decide +kernel
theorem dX1_idleLeg_0 : decode cX1_idleLeg 0 = .ok (.aload_n 0, 1) := by decide +kernel
theorem dX1_idleLeg_1 : decode cX1_idleLeg 1 = .ok (.iload_n 1, 1) := by decide +kernel
theorem dX1_idleLeg_2 : decode cX1_idleLeg 2 = .ok (.iconst 0, 1) := by decide +kernel
theorem dX1_idleLeg_3 : decode cX1_idleLeg 3 = .ok (.invokevirtual 88, 3) := by decide +kernel
theorem dX1_idleLeg_6 : decode cX1_idleLeg 6 = .ok (.istore_n 2, 1) := by decide +kernel
theorem dX1_idleLeg_7 : decode cX1_idleLeg 7 = .ok (.aload_n 0, 1) := by decide +kernel
theorem dX1_idleLeg_8 : decode cX1_idleLeg 8 = .ok (.iload_n 1, 1) := by decide +kernel
theorem dX1_idleLeg_9 : decode cX1_idleLeg 9 = .ok (.iconst 1, 1) := by decide +kernel
theorem dX1_idleLeg_10 : decode cX1_idleLeg 10 = .ok (.invokevirtual 88, 3) := by decide +kernel
theorem dX1_idleLeg_13 : decode cX1_idleLeg 13 = .ok (.istore_n 3, 1) := by decide +kernel
theorem dX1_idleLeg_14 : decode cX1_idleLeg 14 = .ok (.aload_n 0, 1) := by decide +kernel
theorem dX1_idleLeg_15 : decode cX1_idleLeg 15 = .ok (.iload_n 1, 1) := by decide +kernel
theorem dX1_idleLeg_16 : decode cX1_idleLeg 16 = .ok (.iconst 2, 1) := by decide +kernel
theorem dX1_idleLeg_17 : decode cX1_idleLeg 17 = .ok (.invokevirtual 88, 3) := by decide +kernel
theorem dX1_idleLeg_20 : decode cX1_idleLeg 20 = .ok (.istore 4, 2) := by decide +kernel
theorem dX1_idleLeg_22 : decode cX1_idleLeg 22 = .ok (.aload_n 0, 1) := by decide +kernel
theorem dX1_idleLeg_23 : decode cX1_idleLeg 23 = .ok (.iload_n 1, 1) := by decide +kernel
theorem dX1_idleLeg_24 : decode cX1_idleLeg 24 = .ok (.iconst 3, 1) := by decide +kernel
theorem dX1_idleLeg_25 : decode cX1_idleLeg 25 = .ok (.invokevirtual 88, 3) := by decide +kernel
theorem dX1_idleLeg_28 : decode cX1_idleLeg 28 = .ok (.istore 5, 2) := by decide +kernel
theorem dX1_idleLeg_30 : decode cX1_idleLeg 30 = .ok (.iload_n 2, 1) := by decide +kernel
theorem dX1_idleLeg_31 : decode cX1_idleLeg 31 = .ok (.iload 4, 2) := by decide +kernel
theorem dX1_idleLeg_33 : decode cX1_idleLeg 33 = .ok (.iadd, 1) := by decide +kernel
theorem dX1_idleLeg_34 : decode cX1_idleLeg 34 = .ok (.iload_n 3, 1) := by decide +kernel
theorem dX1_idleLeg_35 : decode cX1_idleLeg 35 = .ok (.iload 5, 2) := by decide +kernel
theorem dX1_idleLeg_37 : decode cX1_idleLeg 37 = .ok (.iadd, 1) := by decide +kernel
theorem dX1_idleLeg_38 : decode cX1_idleLeg 38 = .ok (.if_icmp .ne 5, 3) := by decide +kernel
theorem dX1_idleLeg_41 : decode cX1_idleLeg 41 = .ok (.iconst (-1), 1) := by decide +kernel
theorem dX1_idleLeg_42 : decode cX1_idleLeg 42 = .ok (.ireturn, 1) := by decide +kernel
theorem dX1_idleLeg_43 : decode cX1_idleLeg 43 = .ok (.iload_n 2, 1) := by decide +kernel
theorem dX1_idleLeg_44 : decode cX1_idleLeg 44 = .ok (.iload 4, 2) := by decide +kernel
theorem dX1_idleLeg_46 : decode cX1_idleLeg 46 = .ok (.iadd, 1) := by decide +kernel
theorem dX1_idleLeg_47 : decode cX1_idleLeg 47 = .ok (.iload_n 3, 1) := by decide +kernel
theorem dX1_idleLeg_48 : decode cX1_idleLeg 48 = .ok (.iload 5, 2) := by decide +kernel
theorem dX1_idleLeg_50 : decode cX1_idleLeg 50 = .ok (.iadd, 1) := by decide +kernel
theorem dX1_idleLeg_51 : decode cX1_idleLeg 51 = .ok (.if_icmp .ge 15, 3) := by decide +kernel
theorem dX1_idleLeg_54 : decode cX1_idleLeg 54 = .ok (.iload 4, 2) := by decide +kernel
theorem dX1_idleLeg_56 : decode cX1_idleLeg 56 = .ok (.iload_n 2, 1) := by decide +kernel
theorem dX1_idleLeg_57 : decode cX1_idleLeg 57 = .ok (.if_icmp .ge 7, 3) := by decide +kernel
theorem dX1_idleLeg_60 : decode cX1_idleLeg 60 = .ok (.iconst 2, 1) := by decide +kernel
theorem dX1_idleLeg_61 : decode cX1_idleLeg 61 = .ok (.goto 4, 3) := by decide +kernel
theorem dX1_idleLeg_64 : decode cX1_idleLeg 64 = .ok (.iconst 0, 1) := by decide +kernel
theorem dX1_idleLeg_65 : decode cX1_idleLeg 65 = .ok (.ireturn, 1) := by decide +kernel
theorem dX1_idleLeg_66 : decode cX1_idleLeg 66 = .ok (.iload 5, 2) := by decide +kernel
theorem dX1_idleLeg_68 : decode cX1_idleLeg 68 = .ok (.iload_n 3, 1) := by decide +kernel
theorem dX1_idleLeg_69 : decode cX1_idleLeg 69 = .ok (.if_icmp .ge 7, 3) := by decide +kernel
theorem dX1_idleLeg_72 : decode cX1_idleLeg 72 = .ok (.iconst 3, 1) := by decide +kernel
theorem dX1_idleLeg_73 : decode cX1_idleLeg 73 = .ok (.goto 4, 3) := by decide +kernel
theorem dX1_idleLeg_76 : decode cX1_idleLeg 76 = .ok (.iconst 1, 1) := by decide +kernel
theorem dX1_idleLeg_77 : decode cX1_idleLeg 77 = .ok (.ireturn, 1) := by decide +kernel
theorem dX1_reason_0 : decode cX1_reason 0 = .ok (.aload_n 0, 1) := by decide +kernel
theorem dX1_reason_1 : decode cX1_reason 1 = .ok (.getfield 9, 3) := by decide +kernel
theorem dX1_reason_4 : decode cX1_reason 4 = .ok (.iload_n 1, 1) := by decide +kernel
theorem dX1_reason_5 : decode cX1_reason 5 = .ok (.invokestatic 64, 3) := by decide +kernel
theorem dX1_reason_8 : decode cX1_reason 8 = .ok (.istore_n 2, 1) := by decide +kernel
theorem dX1_reason_9 : decode cX1_reason 9 = .ok (.aload_n 0, 1) := by decide +kernel
theorem dX1_reason_10 : decode cX1_reason 10 = .ok (.getfield 15, 3) := by decide +kernel
theorem dX1_reason_13 : decode cX1_reason 13 = .ok (.iload_n 1, 1) := by decide +kernel
theorem dX1_reason_14 : decode cX1_reason 14 = .ok (.invokestatic 64, 3) := by decide +kernel
theorem dX1_reason_17 : decode cX1_reason 17 = .ok (.istore_n 3, 1) := by decide +kernel
theorem dX1_reason_18 : decode cX1_reason 18 = .ok (.aload_n 0, 1) := by decide +kernel
theorem dX1_reason_19 : decode cX1_reason 19 = .ok (.getfield 18, 3) := by decide +kernel
theorem dX1_reason_22 : decode cX1_reason 22 = .ok (.iload_n 1, 1) := by decide +kernel
theorem dX1_reason_23 : decode cX1_reason 23 = .ok (.invokestatic 64, 3) := by decide +kernel
theorem dX1_reason_26 : decode cX1_reason 26 = .ok (.istore 4, 2) := by decide +kernel
theorem dX1_reason_28 : decode cX1_reason 28 = .ok (.aload_n 0, 1) := by decide +kernel
theorem dX1_reason_29 : decode cX1_reason 29 = .ok (.iload_n 1, 1) := by decide +kernel
theorem dX1_reason_30 : decode cX1_reason 30 = .ok (.iload_n 3, 1) := by decide +kernel
theorem dX1_reason_31 : decode cX1_reason 31 = .ok (.iload 4, 2) := by decide +kernel
theorem dX1_reason_33 : decode cX1_reason 33 = .ok (.invokevirtual 72, 3) := by decide +kernel
theorem dX1_reason_36 : decode cX1_reason 36 = .ok (.aload_n 0, 1) := by decide +kernel
theorem dX1_reason_37 : decode cX1_reason 37 = .ok (.iload_n 2, 1) := by decide +kernel
theorem dX1_reason_38 : decode cX1_reason 38 = .ok (.iconst 2, 1) := by decide +kernel
theorem dX1_reason_39 : decode cX1_reason 39 = .ok (.invokevirtual 97, 3) := by decide +kernel
theorem dX1_reason_42 : decode cX1_reason 42 = .ok (.if_icmp .le 5, 3) := by decide +kernel
theorem dX1_reason_45 : decode cX1_reason 45 = .ok (.iconst 1, 1) := by decide +kernel
theorem dX1_reason_46 : decode cX1_reason 46 = .ok (.ireturn, 1) := by decide +kernel
theorem dX1_reason_47 : decode cX1_reason 47 = .ok (.aload_n 0, 1) := by decide +kernel
theorem dX1_reason_48 : decode cX1_reason 48 = .ok (.iload_n 1, 1) := by decide +kernel
theorem dX1_reason_49 : decode cX1_reason 49 = .ok (.iload_n 3, 1) := by decide +kernel
theorem dX1_reason_50 : decode cX1_reason 50 = .ok (.iload 4, 2) := by decide +kernel
theorem dX1_reason_52 : decode cX1_reason 52 = .ok (.invokevirtual 85, 3) := by decide +kernel
theorem dX1_reason_55 : decode cX1_reason 55 = .ok (.aload_n 0, 1) := by decide +kernel
theorem dX1_reason_56 : decode cX1_reason 56 = .ok (.iload_n 2, 1) := by decide +kernel
theorem dX1_reason_57 : decode cX1_reason 57 = .ok (.iconst 3, 1) := by decide +kernel
theorem dX1_reason_58 : decode cX1_reason 58 = .ok (.invokevirtual 97, 3) := by decide +kernel
theorem dX1_reason_61 : decode cX1_reason 61 = .ok (.if_icmp .le 5, 3) := by decide +kernel
theorem dX1_reason_64 : decode cX1_reason 64 = .ok (.iconst 2, 1) := by decide +kernel
theorem dX1_reason_65 : decode cX1_reason 65 = .ok (.ireturn, 1) := by decide +kernel
theorem dX1_reason_66 : decode cX1_reason 66 = .ok (.aload_n 0, 1) := by decide +kernel
theorem dX1_reason_67 : decode cX1_reason 67 = .ok (.iload_n 1, 1) := by decide +kernel
theorem dX1_reason_68 : decode cX1_reason 68 = .ok (.invokevirtual 100, 3) := by decide +kernel
theorem dX1_reason_71 : decode cX1_reason 71 = .ok (.istore 5, 2) := by decide +kernel
theorem dX1_reason_73 : decode cX1_reason 73 = .ok (.iload 5, 2) := by decide +kernel
theorem dX1_reason_75 : decode cX1_reason 75 = .ok (.aload_n 0, 1) := by decide +kernel
theorem dX1_reason_76 : decode cX1_reason 76 = .ok (.iload_n 2, 1) := by decide +kernel
theorem dX1_reason_77 : decode cX1_reason 77 = .ok (.iconst 0, 1) := by decide +kernel
theorem dX1_reason_78 : decode cX1_reason 78 = .ok (.invokevirtual 97, 3) := by decide +kernel
theorem dX1_reason_81 : decode cX1_reason 81 = .ok (.if_icmp .ge 5, 3) := by decide +kernel
theorem dX1_reason_84 : decode cX1_reason 84 = .ok (.iconst 3, 1) := by decide +kernel
theorem dX1_reason_85 : decode cX1_reason 85 = .ok (.ireturn, 1) := by decide +kernel
theorem dX1_reason_86 : decode cX1_reason 86 = .ok (.iload 5, 2) := by decide +kernel
theorem dX1_reason_88 : decode cX1_reason 88 = .ok (.aload_n 0, 1) := by decide +kernel
theorem dX1_reason_89 : decode cX1_reason 89 = .ok (.iload_n 2, 1) := by decide +kernel
theorem dX1_reason_90 : decode cX1_reason 90 = .ok (.iconst 1, 1) := by decide +kernel
theorem dX1_reason_91 : decode cX1_reason 91 = .ok (.invokevirtual 97, 3) := by decide +kernel
theorem dX1_reason_94 : decode cX1_reason 94 = .ok (.if_icmp .le 7, 3) := by decide +kernel
theorem dX1_reason_97 : decode cX1_reason 97 = .ok (.iconst 4, 1) := by decide +kernel
theorem dX1_reason_98 : decode cX1_reason 98 = .ok (.goto 4, 3) := by decide +kernel
theorem dX1_reason_101 : decode cX1_reason 101 = .ok (.iconst 0, 1) := by decide +kernel
theorem dX1_reason_102 : decode cX1_reason 102 = .ok (.ireturn, 1) := by decide +kernel
theorem dX1_addChair_0 : decode cX1_addChair 0 = .ok (.iload_n 1, 1) := by decide +kernel
theorem dX1_addChair_1 : decode cX1_addChair 1 = .ok (.iconst 0, 1) := by decide +kernel
theorem dX1_addChair_2 : decode cX1_addChair 2 = .ok (.iconst 3, 1) := by decide +kernel
theorem dX1_addChair_3 : decode cX1_addChair 3 = .ok (.invokestatic 104, 3) := by decide +kernel
theorem dX1_addChair_6 : decode cX1_addChair 6 = .ok (.ifCond .ne 6, 3) := by decide +kernel
theorem dX1_addChair_9 : decode cX1_addChair 9 = .ok (.bipush (-2), 2) := by decide +kernel
theorem dX1_addChair_11 : decode cX1_addChair 11 = .ok (.ireturn, 1) := by decide +kernel
theorem dX1_addChair_12 : decode cX1_addChair 12 = .ok (.iload_n 2, 1) := by decide +kernel
theorem dX1_addChair_13 : decode cX1_addChair 13 = .ok (.bipush 100, 2) := by decide +kernel
theorem dX1_addChair_15 : decode cX1_addChair 15 = .ok (.sipush 900, 3) := by decide +kernel
theorem dX1_addChair_18 : decode cX1_addChair 18 = .ok (.invokestatic 104, 3) := by decide +kernel
theorem dX1_addChair_21 : decode cX1_addChair 21 = .ok (.ifCond .ne 6, 3) := by decide +kernel
theorem dX1_addChair_24 : decode cX1_addChair 24 = .ok (.bipush (-3), 2) := by decide +kernel
theorem dX1_addChair_26 : decode cX1_addChair 26 = .ok (.ireturn, 1) := by decide +kernel
theorem dX1_addChair_27 : decode cX1_addChair 27 = .ok (.aload_n 0, 1) := by decide +kernel
theorem dX1_addChair_28 : decode cX1_addChair 28 = .ok (.getfield 45, 3) := by decide +kernel
theorem dX1_addChair_31 : decode cX1_addChair 31 = .ok (.bipush 10, 2) := by decide +kernel
theorem dX1_addChair_33 : decode cX1_addChair 33 = .ok (.if_icmp .lt 6, 3) := by decide +kernel
theorem dX1_addChair_36 : decode cX1_addChair 36 = .ok (.bipush (-4), 2) := by decide +kernel
theorem dX1_addChair_38 : decode cX1_addChair 38 = .ok (.ireturn, 1) := by decide +kernel
theorem dX1_addChair_39 : decode cX1_addChair 39 = .ok (.aload_n 0, 1) := by decide +kernel
theorem dX1_addChair_40 : decode cX1_addChair 40 = .ok (.getfield 45, 3) := by decide +kernel
theorem dX1_addChair_43 : decode cX1_addChair 43 = .ok (.istore_n 3, 1) := by decide +kernel
theorem dX1_addChair_44 : decode cX1_addChair 44 = .ok (.aload_n 0, 1) := by decide +kernel
theorem dX1_addChair_45 : decode cX1_addChair 45 = .ok (.dup, 1) := by decide +kernel
theorem dX1_addChair_46 : decode cX1_addChair 46 = .ok (.getfield 45, 3) := by decide +kernel
theorem dX1_addChair_49 : decode cX1_addChair 49 = .ok (.iconst 1, 1) := by decide +kernel
theorem dX1_addChair_50 : decode cX1_addChair 50 = .ok (.iadd, 1) := by decide +kernel
theorem dX1_addChair_51 : decode cX1_addChair 51 = .ok (.putfield 45, 3) := by decide +kernel
theorem dX1_addChair_54 : decode cX1_addChair 54 = .ok (.aload_n 0, 1) := by decide +kernel
theorem dX1_addChair_55 : decode cX1_addChair 55 = .ok (.getfield 9, 3) := by decide +kernel
theorem dX1_addChair_58 : decode cX1_addChair 58 = .ok (.iload_n 3, 1) := by decide +kernel
theorem dX1_addChair_59 : decode cX1_addChair 59 = .ok (.iload_n 1, 1) := by decide +kernel
theorem dX1_addChair_60 : decode cX1_addChair 60 = .ok (.invokestatic 56, 3) := by decide +kernel
theorem dX1_addChair_63 : decode cX1_addChair 63 = .ok (.aload_n 0, 1) := by decide +kernel
theorem dX1_addChair_64 : decode cX1_addChair 64 = .ok (.getfield 15, 3) := by decide +kernel
theorem dX1_addChair_67 : decode cX1_addChair 67 = .ok (.iload_n 3, 1) := by decide +kernel
theorem dX1_addChair_68 : decode cX1_addChair 68 = .ok (.iconst 0, 1) := by decide +kernel
theorem dX1_addChair_69 : decode cX1_addChair 69 = .ok (.invokestatic 56, 3) := by decide +kernel
theorem dX1_addChair_72 : decode cX1_addChair 72 = .ok (.aload_n 0, 1) := by decide +kernel
theorem dX1_addChair_73 : decode cX1_addChair 73 = .ok (.getfield 18, 3) := by decide +kernel
theorem dX1_addChair_76 : decode cX1_addChair 76 = .ok (.iload_n 3, 1) := by decide +kernel
theorem dX1_addChair_77 : decode cX1_addChair 77 = .ok (.iconst 0, 1) := by decide +kernel
theorem dX1_addChair_78 : decode cX1_addChair 78 = .ok (.invokestatic 56, 3) := by decide +kernel
theorem dX1_addChair_81 : decode cX1_addChair 81 = .ok (.aload_n 0, 1) := by decide +kernel
theorem dX1_addChair_82 : decode cX1_addChair 82 = .ok (.getfield 21, 3) := by decide +kernel
theorem dX1_addChair_85 : decode cX1_addChair 85 = .ok (.iload_n 3, 1) := by decide +kernel
theorem dX1_addChair_86 : decode cX1_addChair 86 = .ok (.iconst 0, 1) := by decide +kernel
theorem dX1_addChair_87 : decode cX1_addChair 87 = .ok (.invokestatic 56, 3) := by decide +kernel
theorem dX1_addChair_90 : decode cX1_addChair 90 = .ok (.aload_n 0, 1) := by decide +kernel
theorem dX1_addChair_91 : decode cX1_addChair 91 = .ok (.getfield 24, 3) := by decide +kernel
theorem dX1_addChair_94 : decode cX1_addChair 94 = .ok (.iload_n 3, 1) := by decide +kernel
theorem dX1_addChair_95 : decode cX1_addChair 95 = .ok (.iconst 0, 1) := by decide +kernel
theorem dX1_addChair_96 : decode cX1_addChair 96 = .ok (.invokestatic 56, 3) := by decide +kernel
theorem dX1_addChair_99 : decode cX1_addChair 99 = .ok (.iconst 0, 1) := by decide +kernel
theorem dX1_addChair_100 : decode cX1_addChair 100 = .ok (.istore 4, 2) := by decide +kernel
theorem dX1_addChair_102 : decode cX1_addChair 102 = .ok (.iload 4, 2) := by decide +kernel
theorem dX1_addChair_104 : decode cX1_addChair 104 = .ok (.iconst 4, 1) := by decide +kernel
theorem dX1_addChair_105 : decode cX1_addChair 105 = .ok (.if_icmp .ge 23, 3) := by decide +kernel
theorem dX1_addChair_108 : decode cX1_addChair 108 = .ok (.aload_n 0, 1) := by decide +kernel
theorem dX1_addChair_109 : decode cX1_addChair 109 = .ok (.getfield 27, 3) := by decide +kernel
theorem dX1_addChair_112 : decode cX1_addChair 112 = .ok (.iload_n 3, 1) := by decide +kernel
theorem dX1_addChair_113 : decode cX1_addChair 113 = .ok (.iconst 4, 1) := by decide +kernel
theorem dX1_addChair_114 : decode cX1_addChair 114 = .ok (.imul, 1) := by decide +kernel
theorem dX1_addChair_115 : decode cX1_addChair 115 = .ok (.iload 4, 2) := by decide +kernel
theorem dX1_addChair_117 : decode cX1_addChair 117 = .ok (.iadd, 1) := by decide +kernel
theorem dX1_addChair_118 : decode cX1_addChair 118 = .ok (.iload_n 2, 1) := by decide +kernel
theorem dX1_addChair_119 : decode cX1_addChair 119 = .ok (.invokestatic 56, 3) := by decide +kernel
theorem dX1_addChair_122 : decode cX1_addChair 122 = .ok (.iinc 4 1, 3) := by decide +kernel
theorem dX1_addChair_125 : decode cX1_addChair 125 = .ok (.goto (-23), 3) := by decide +kernel
theorem dX1_addChair_128 : decode cX1_addChair 128 = .ok (.iload_n 3, 1) := by decide +kernel
theorem dX1_addChair_129 : decode cX1_addChair 129 = .ok (.ireturn, 1) := by decide +kernel
theorem dX1_layFloor_0 : decode cX1_layFloor 0 = .ok (.aload_n 0, 1) := by decide +kernel
theorem dX1_layFloor_1 : decode cX1_layFloor 1 = .ok (.iload_n 1, 1) := by decide +kernel
theorem dX1_layFloor_2 : decode cX1_layFloor 2 = .ok (.invokevirtual 108, 3) := by decide +kernel
theorem dX1_layFloor_5 : decode cX1_layFloor 5 = .ok (.ifCond .eq 28, 3) := by decide +kernel
theorem dX1_layFloor_8 : decode cX1_layFloor 8 = .ok (.aload_n 0, 1) := by decide +kernel
theorem dX1_layFloor_9 : decode cX1_layFloor 9 = .ok (.iload_n 2, 1) := by decide +kernel
theorem dX1_layFloor_10 : decode cX1_layFloor 10 = .ok (.invokevirtual 108, 3) := by decide +kernel
theorem dX1_layFloor_13 : decode cX1_layFloor 13 = .ok (.ifCond .eq 20, 3) := by decide +kernel
theorem dX1_layFloor_16 : decode cX1_layFloor 16 = .ok (.aload_n 0, 1) := by decide +kernel
theorem dX1_layFloor_17 : decode cX1_layFloor 17 = .ok (.iload_n 3, 1) := by decide +kernel
theorem dX1_layFloor_18 : decode cX1_layFloor 18 = .ok (.invokevirtual 108, 3) := by decide +kernel
theorem dX1_layFloor_21 : decode cX1_layFloor 21 = .ok (.ifCond .eq 12, 3) := by decide +kernel
theorem dX1_layFloor_24 : decode cX1_layFloor 24 = .ok (.aload_n 0, 1) := by decide +kernel
theorem dX1_layFloor_25 : decode cX1_layFloor 25 = .ok (.iload 4, 2) := by decide +kernel
theorem dX1_layFloor_27 : decode cX1_layFloor 27 = .ok (.invokevirtual 108, 3) := by decide +kernel
theorem dX1_layFloor_30 : decode cX1_layFloor 30 = .ok (.ifCond .ne 6, 3) := by decide +kernel
theorem dX1_layFloor_33 : decode cX1_layFloor 33 = .ok (.bipush (-3), 2) := by decide +kernel
theorem dX1_layFloor_35 : decode cX1_layFloor 35 = .ok (.ireturn, 1) := by decide +kernel
theorem dX1_layFloor_36 : decode cX1_layFloor 36 = .ok (.aload_n 0, 1) := by decide +kernel
theorem dX1_layFloor_37 : decode cX1_layFloor 37 = .ok (.getfield 49, 3) := by decide +kernel
theorem dX1_layFloor_40 : decode cX1_layFloor 40 = .ok (.iconst 4, 1) := by decide +kernel
theorem dX1_layFloor_41 : decode cX1_layFloor 41 = .ok (.if_icmp .lt 6, 3) := by decide +kernel
theorem dX1_layFloor_44 : decode cX1_layFloor 44 = .ok (.bipush (-4), 2) := by decide +kernel
theorem dX1_layFloor_46 : decode cX1_layFloor 46 = .ok (.ireturn, 1) := by decide +kernel
theorem dX1_layFloor_47 : decode cX1_layFloor 47 = .ok (.aload_n 0, 1) := by decide +kernel
theorem dX1_layFloor_48 : decode cX1_layFloor 48 = .ok (.getfield 49, 3) := by decide +kernel
theorem dX1_layFloor_51 : decode cX1_layFloor 51 = .ok (.istore 5, 2) := by decide +kernel
theorem dX1_layFloor_53 : decode cX1_layFloor 53 = .ok (.aload_n 0, 1) := by decide +kernel
theorem dX1_layFloor_54 : decode cX1_layFloor 54 = .ok (.dup, 1) := by decide +kernel
theorem dX1_layFloor_55 : decode cX1_layFloor 55 = .ok (.getfield 49, 3) := by decide +kernel
theorem dX1_layFloor_58 : decode cX1_layFloor 58 = .ok (.iconst 1, 1) := by decide +kernel
theorem dX1_layFloor_59 : decode cX1_layFloor 59 = .ok (.iadd, 1) := by decide +kernel
theorem dX1_layFloor_60 : decode cX1_layFloor 60 = .ok (.putfield 49, 3) := by decide +kernel
theorem dX1_layFloor_63 : decode cX1_layFloor 63 = .ok (.aload_n 0, 1) := by decide +kernel
theorem dX1_layFloor_64 : decode cX1_layFloor 64 = .ok (.getfield 30, 3) := by decide +kernel
theorem dX1_layFloor_67 : decode cX1_layFloor 67 = .ok (.iload 5, 2) := by decide +kernel
theorem dX1_layFloor_69 : decode cX1_layFloor 69 = .ok (.iconst 4, 1) := by decide +kernel
theorem dX1_layFloor_70 : decode cX1_layFloor 70 = .ok (.imul, 1) := by decide +kernel
theorem dX1_layFloor_71 : decode cX1_layFloor 71 = .ok (.iload_n 1, 1) := by decide +kernel
theorem dX1_layFloor_72 : decode cX1_layFloor 72 = .ok (.invokestatic 56, 3) := by decide +kernel
theorem dX1_layFloor_75 : decode cX1_layFloor 75 = .ok (.aload_n 0, 1) := by decide +kernel
theorem dX1_layFloor_76 : decode cX1_layFloor 76 = .ok (.getfield 30, 3) := by decide +kernel
theorem dX1_layFloor_79 : decode cX1_layFloor 79 = .ok (.iload 5, 2) := by decide +kernel
theorem dX1_layFloor_81 : decode cX1_layFloor 81 = .ok (.iconst 4, 1) := by decide +kernel
theorem dX1_layFloor_82 : decode cX1_layFloor 82 = .ok (.imul, 1) := by decide +kernel
theorem dX1_layFloor_83 : decode cX1_layFloor 83 = .ok (.iconst 1, 1) := by decide +kernel
theorem dX1_layFloor_84 : decode cX1_layFloor 84 = .ok (.iadd, 1) := by decide +kernel
theorem dX1_layFloor_85 : decode cX1_layFloor 85 = .ok (.iload_n 2, 1) := by decide +kernel
theorem dX1_layFloor_86 : decode cX1_layFloor 86 = .ok (.invokestatic 56, 3) := by decide +kernel
theorem dX1_layFloor_89 : decode cX1_layFloor 89 = .ok (.aload_n 0, 1) := by decide +kernel
theorem dX1_layFloor_90 : decode cX1_layFloor 90 = .ok (.getfield 30, 3) := by decide +kernel
theorem dX1_layFloor_93 : decode cX1_layFloor 93 = .ok (.iload 5, 2) := by decide +kernel
theorem dX1_layFloor_95 : decode cX1_layFloor 95 = .ok (.iconst 4, 1) := by decide +kernel
theorem dX1_layFloor_96 : decode cX1_layFloor 96 = .ok (.imul, 1) := by decide +kernel
theorem dX1_layFloor_97 : decode cX1_layFloor 97 = .ok (.iconst 2, 1) := by decide +kernel
theorem dX1_layFloor_98 : decode cX1_layFloor 98 = .ok (.iadd, 1) := by decide +kernel
theorem dX1_layFloor_99 : decode cX1_layFloor 99 = .ok (.iload_n 3, 1) := by decide +kernel
theorem dX1_layFloor_100 : decode cX1_layFloor 100 = .ok (.invokestatic 56, 3) := by decide +kernel
theorem dX1_layFloor_103 : decode cX1_layFloor 103 = .ok (.aload_n 0, 1) := by decide +kernel
theorem dX1_layFloor_104 : decode cX1_layFloor 104 = .ok (.getfield 30, 3) := by decide +kernel
theorem dX1_layFloor_107 : decode cX1_layFloor 107 = .ok (.iload 5, 2) := by decide +kernel
theorem dX1_layFloor_109 : decode cX1_layFloor 109 = .ok (.iconst 4, 1) := by decide +kernel
theorem dX1_layFloor_110 : decode cX1_layFloor 110 = .ok (.imul, 1) := by decide +kernel
theorem dX1_layFloor_111 : decode cX1_layFloor 111 = .ok (.iconst 3, 1) := by decide +kernel
theorem dX1_layFloor_112 : decode cX1_layFloor 112 = .ok (.iadd, 1) := by decide +kernel
theorem dX1_layFloor_113 : decode cX1_layFloor 113 = .ok (.iload 4, 2) := by decide +kernel
theorem dX1_layFloor_115 : decode cX1_layFloor 115 = .ok (.invokestatic 56, 3) := by decide +kernel
theorem dX1_layFloor_118 : decode cX1_layFloor 118 = .ok (.iload 5, 2) := by decide +kernel
theorem dX1_layFloor_120 : decode cX1_layFloor 120 = .ok (.ireturn, 1) := by decide +kernel
theorem dX1_isSpot_0 : decode cX1_isSpot 0 = .ok (.iload_n 1, 1) := by decide +kernel
theorem dX1_isSpot_1 : decode cX1_isSpot 1 = .ok (.iconst 0, 1) := by decide +kernel
theorem dX1_isSpot_2 : decode cX1_isSpot 2 = .ok (.bipush 50, 2) := by decide +kernel
theorem dX1_isSpot_4 : decode cX1_isSpot 4 = .ok (.invokestatic 104, 3) := by decide +kernel
theorem dX1_isSpot_7 : decode cX1_isSpot 7 = .ok (.ireturn, 1) := by decide +kernel
theorem dX1_changeSpot_0 : decode cX1_changeSpot 0 = .ok (.aload_n 0, 1) := by decide +kernel
theorem dX1_changeSpot_1 : decode cX1_changeSpot 1 = .ok (.iload_n 1, 1) := by decide +kernel
theorem dX1_changeSpot_2 : decode cX1_changeSpot 2 = .ok (.invokevirtual 112, 3) := by decide +kernel
theorem dX1_changeSpot_5 : decode cX1_changeSpot 5 = .ok (.ifCond .eq 12, 3) := by decide +kernel
theorem dX1_changeSpot_8 : decode cX1_changeSpot 8 = .ok (.iload_n 2, 1) := by decide +kernel
theorem dX1_changeSpot_9 : decode cX1_changeSpot 9 = .ok (.iconst 0, 1) := by decide +kernel
theorem dX1_changeSpot_10 : decode cX1_changeSpot 10 = .ok (.iconst 3, 1) := by decide +kernel
theorem dX1_changeSpot_11 : decode cX1_changeSpot 11 = .ok (.invokestatic 104, 3) := by decide +kernel
theorem dX1_changeSpot_14 : decode cX1_changeSpot 14 = .ok (.ifCond .ne 6, 3) := by decide +kernel
theorem dX1_changeSpot_17 : decode cX1_changeSpot 17 = .ok (.bipush (-2), 2) := by decide +kernel
theorem dX1_changeSpot_19 : decode cX1_changeSpot 19 = .ok (.ireturn, 1) := by decide +kernel
theorem dX1_changeSpot_20 : decode cX1_changeSpot 20 = .ok (.aload_n 0, 1) := by decide +kernel
theorem dX1_changeSpot_21 : decode cX1_changeSpot 21 = .ok (.iload_n 3, 1) := by decide +kernel
theorem dX1_changeSpot_22 : decode cX1_changeSpot 22 = .ok (.invokevirtual 108, 3) := by decide +kernel
theorem dX1_changeSpot_25 : decode cX1_changeSpot 25 = .ok (.ifCond .ne 6, 3) := by decide +kernel
theorem dX1_changeSpot_28 : decode cX1_changeSpot 28 = .ok (.bipush (-3), 2) := by decide +kernel
theorem dX1_changeSpot_30 : decode cX1_changeSpot 30 = .ok (.ireturn, 1) := by decide +kernel
theorem dX1_changeSpot_31 : decode cX1_changeSpot 31 = .ok (.aload_n 0, 1) := by decide +kernel
theorem dX1_changeSpot_32 : decode cX1_changeSpot 32 = .ok (.iload_n 1, 1) := by decide +kernel
theorem dX1_changeSpot_33 : decode cX1_changeSpot 33 = .ok (.iload_n 2, 1) := by decide +kernel
theorem dX1_changeSpot_34 : decode cX1_changeSpot 34 = .ok (.invokevirtual 115, 3) := by decide +kernel
theorem dX1_changeSpot_37 : decode cX1_changeSpot 37 = .ok (.istore 4, 2) := by decide +kernel
theorem dX1_changeSpot_39 : decode cX1_changeSpot 39 = .ok (.aload_n 0, 1) := by decide +kernel
theorem dX1_changeSpot_40 : decode cX1_changeSpot 40 = .ok (.getfield 30, 3) := by decide +kernel
theorem dX1_changeSpot_43 : decode cX1_changeSpot 43 = .ok (.iload_n 1, 1) := by decide +kernel
theorem dX1_changeSpot_44 : decode cX1_changeSpot 44 = .ok (.iconst 4, 1) := by decide +kernel
theorem dX1_changeSpot_45 : decode cX1_changeSpot 45 = .ok (.imul, 1) := by decide +kernel
theorem dX1_changeSpot_46 : decode cX1_changeSpot 46 = .ok (.iload_n 2, 1) := by decide +kernel
theorem dX1_changeSpot_47 : decode cX1_changeSpot 47 = .ok (.iadd, 1) := by decide +kernel
theorem dX1_changeSpot_48 : decode cX1_changeSpot 48 = .ok (.iload_n 3, 1) := by decide +kernel
theorem dX1_changeSpot_49 : decode cX1_changeSpot 49 = .ok (.invokestatic 56, 3) := by decide +kernel
theorem dX1_changeSpot_52 : decode cX1_changeSpot 52 = .ok (.iconst 0, 1) := by decide +kernel
theorem dX1_changeSpot_53 : decode cX1_changeSpot 53 = .ok (.istore 5, 2) := by decide +kernel
theorem dX1_changeSpot_55 : decode cX1_changeSpot 55 = .ok (.iload 5, 2) := by decide +kernel
theorem dX1_changeSpot_57 : decode cX1_changeSpot 57 = .ok (.aload_n 0, 1) := by decide +kernel
theorem dX1_changeSpot_58 : decode cX1_changeSpot 58 = .ok (.getfield 45, 3) := by decide +kernel
theorem dX1_changeSpot_61 : decode cX1_changeSpot 61 = .ok (.if_icmp .ge 35, 3) := by decide +kernel
theorem dX1_changeSpot_64 : decode cX1_changeSpot 64 = .ok (.iload 4, 2) := by decide +kernel
theorem dX1_changeSpot_66 : decode cX1_changeSpot 66 = .ok (.iload_n 3, 1) := by decide +kernel
theorem dX1_changeSpot_67 : decode cX1_changeSpot 67 = .ok (.if_icmp .eq 29, 3) := by decide +kernel
theorem dX1_changeSpot_70 : decode cX1_changeSpot 70 = .ok (.aload_n 0, 1) := by decide +kernel
theorem dX1_changeSpot_71 : decode cX1_changeSpot 71 = .ok (.getfield 15, 3) := by decide +kernel
theorem dX1_changeSpot_74 : decode cX1_changeSpot 74 = .ok (.iload 5, 2) := by decide +kernel
theorem dX1_changeSpot_76 : decode cX1_changeSpot 76 = .ok (.invokestatic 64, 3) := by decide +kernel
theorem dX1_changeSpot_79 : decode cX1_changeSpot 79 = .ok (.iload_n 1, 1) := by decide +kernel
theorem dX1_changeSpot_80 : decode cX1_changeSpot 80 = .ok (.if_icmp .ne 10, 3) := by decide +kernel
theorem dX1_changeSpot_83 : decode cX1_changeSpot 83 = .ok (.aload_n 0, 1) := by decide +kernel
theorem dX1_changeSpot_84 : decode cX1_changeSpot 84 = .ok (.iload 5, 2) := by decide +kernel
theorem dX1_changeSpot_86 : decode cX1_changeSpot 86 = .ok (.invokevirtual 118, 3) := by decide +kernel
theorem dX1_changeSpot_89 : decode cX1_changeSpot 89 = .ok (.pop, 1) := by decide +kernel
theorem dX1_changeSpot_90 : decode cX1_changeSpot 90 = .ok (.iinc 5 1, 3) := by decide +kernel
theorem dX1_changeSpot_93 : decode cX1_changeSpot 93 = .ok (.goto (-38), 3) := by decide +kernel
theorem dX1_changeSpot_96 : decode cX1_changeSpot 96 = .ok (.iload 4, 2) := by decide +kernel
theorem dX1_changeSpot_98 : decode cX1_changeSpot 98 = .ok (.ireturn, 1) := by decide +kernel
theorem dX1_moveChair_0 : decode cX1_moveChair 0 = .ok (.aload_n 0, 1) := by decide +kernel
theorem dX1_moveChair_1 : decode cX1_moveChair 1 = .ok (.iload_n 1, 1) := by decide +kernel
theorem dX1_moveChair_2 : decode cX1_moveChair 2 = .ok (.invokevirtual 121, 3) := by decide +kernel
theorem dX1_moveChair_5 : decode cX1_moveChair 5 = .ok (.ifCond .eq 11, 3) := by decide +kernel
theorem dX1_moveChair_8 : decode cX1_moveChair 8 = .ok (.aload_n 0, 1) := by decide +kernel
theorem dX1_moveChair_9 : decode cX1_moveChair 9 = .ok (.iload_n 2, 1) := by decide +kernel
theorem dX1_moveChair_10 : decode cX1_moveChair 10 = .ok (.invokevirtual 112, 3) := by decide +kernel
theorem dX1_moveChair_13 : decode cX1_moveChair 13 = .ok (.ifCond .ne 6, 3) := by decide +kernel
theorem dX1_moveChair_16 : decode cX1_moveChair 16 = .ok (.bipush (-2), 2) := by decide +kernel
theorem dX1_moveChair_18 : decode cX1_moveChair 18 = .ok (.ireturn, 1) := by decide +kernel
theorem dX1_moveChair_19 : decode cX1_moveChair 19 = .ok (.iload_n 3, 1) := by decide +kernel
theorem dX1_moveChair_20 : decode cX1_moveChair 20 = .ok (.iconst 0, 1) := by decide +kernel
theorem dX1_moveChair_21 : decode cX1_moveChair 21 = .ok (.iconst 3, 1) := by decide +kernel
theorem dX1_moveChair_22 : decode cX1_moveChair 22 = .ok (.invokestatic 104, 3) := by decide +kernel
theorem dX1_moveChair_25 : decode cX1_moveChair 25 = .ok (.ifCond .ne 6, 3) := by decide +kernel
theorem dX1_moveChair_28 : decode cX1_moveChair 28 = .ok (.bipush (-3), 2) := by decide +kernel
theorem dX1_moveChair_30 : decode cX1_moveChair 30 = .ok (.ireturn, 1) := by decide +kernel
theorem dX1_moveChair_31 : decode cX1_moveChair 31 = .ok (.aload_n 0, 1) := by decide +kernel
theorem dX1_moveChair_32 : decode cX1_moveChair 32 = .ok (.getfield 15, 3) := by decide +kernel
theorem dX1_moveChair_35 : decode cX1_moveChair 35 = .ok (.iload_n 1, 1) := by decide +kernel
theorem dX1_moveChair_36 : decode cX1_moveChair 36 = .ok (.invokestatic 64, 3) := by decide +kernel
theorem dX1_moveChair_39 : decode cX1_moveChair 39 = .ok (.iload_n 2, 1) := by decide +kernel
theorem dX1_moveChair_40 : decode cX1_moveChair 40 = .ok (.if_icmp .ne 15, 3) := by decide +kernel
theorem dX1_moveChair_43 : decode cX1_moveChair 43 = .ok (.aload_n 0, 1) := by decide +kernel
theorem dX1_moveChair_44 : decode cX1_moveChair 44 = .ok (.getfield 18, 3) := by decide +kernel
theorem dX1_moveChair_47 : decode cX1_moveChair 47 = .ok (.iload_n 1, 1) := by decide +kernel
theorem dX1_moveChair_48 : decode cX1_moveChair 48 = .ok (.invokestatic 64, 3) := by decide +kernel
theorem dX1_moveChair_51 : decode cX1_moveChair 51 = .ok (.iload_n 3, 1) := by decide +kernel
theorem dX1_moveChair_52 : decode cX1_moveChair 52 = .ok (.if_icmp .eq 9, 3) := by decide +kernel
theorem dX1_moveChair_55 : decode cX1_moveChair 55 = .ok (.aload_n 0, 1) := by decide +kernel
theorem dX1_moveChair_56 : decode cX1_moveChair 56 = .ok (.iload_n 1, 1) := by decide +kernel
theorem dX1_moveChair_57 : decode cX1_moveChair 57 = .ok (.invokevirtual 118, 3) := by decide +kernel
theorem dX1_moveChair_60 : decode cX1_moveChair 60 = .ok (.pop, 1) := by decide +kernel
theorem dX1_moveChair_61 : decode cX1_moveChair 61 = .ok (.aload_n 0, 1) := by decide +kernel
theorem dX1_moveChair_62 : decode cX1_moveChair 62 = .ok (.getfield 15, 3) := by decide +kernel
theorem dX1_moveChair_65 : decode cX1_moveChair 65 = .ok (.iload_n 1, 1) := by decide +kernel
theorem dX1_moveChair_66 : decode cX1_moveChair 66 = .ok (.iload_n 2, 1) := by decide +kernel
theorem dX1_moveChair_67 : decode cX1_moveChair 67 = .ok (.invokestatic 56, 3) := by decide +kernel
theorem dX1_moveChair_70 : decode cX1_moveChair 70 = .ok (.aload_n 0, 1) := by decide +kernel
theorem dX1_moveChair_71 : decode cX1_moveChair 71 = .ok (.getfield 18, 3) := by decide +kernel
theorem dX1_moveChair_74 : decode cX1_moveChair 74 = .ok (.iload_n 1, 1) := by decide +kernel
theorem dX1_moveChair_75 : decode cX1_moveChair 75 = .ok (.iload_n 3, 1) := by decide +kernel
theorem dX1_moveChair_76 : decode cX1_moveChair 76 = .ok (.invokestatic 56, 3) := by decide +kernel
theorem dX1_moveChair_79 : decode cX1_moveChair 79 = .ok (.aload_n 0, 1) := by decide +kernel
theorem dX1_moveChair_80 : decode cX1_moveChair 80 = .ok (.iload_n 1, 1) := by decide +kernel
theorem dX1_moveChair_81 : decode cX1_moveChair 81 = .ok (.iload_n 2, 1) := by decide +kernel
theorem dX1_moveChair_82 : decode cX1_moveChair 82 = .ok (.iload_n 3, 1) := by decide +kernel
theorem dX1_moveChair_83 : decode cX1_moveChair 83 = .ok (.invokevirtual 72, 3) := by decide +kernel
theorem dX1_moveChair_86 : decode cX1_moveChair 86 = .ok (.ireturn, 1) := by decide +kernel
theorem dX1_sawLeg_0 : decode cX1_sawLeg 0 = .ok (.aload_n 0, 1) := by decide +kernel
theorem dX1_sawLeg_1 : decode cX1_sawLeg 1 = .ok (.iload_n 1, 1) := by decide +kernel
theorem dX1_sawLeg_2 : decode cX1_sawLeg 2 = .ok (.invokevirtual 121, 3) := by decide +kernel
theorem dX1_sawLeg_5 : decode cX1_sawLeg 5 = .ok (.ifCond .eq 12, 3) := by decide +kernel
theorem dX1_sawLeg_8 : decode cX1_sawLeg 8 = .ok (.iload_n 2, 1) := by decide +kernel
theorem dX1_sawLeg_9 : decode cX1_sawLeg 9 = .ok (.iconst 0, 1) := by decide +kernel
theorem dX1_sawLeg_10 : decode cX1_sawLeg 10 = .ok (.iconst 3, 1) := by decide +kernel
theorem dX1_sawLeg_11 : decode cX1_sawLeg 11 = .ok (.invokestatic 104, 3) := by decide +kernel
theorem dX1_sawLeg_14 : decode cX1_sawLeg 14 = .ok (.ifCond .ne 6, 3) := by decide +kernel
theorem dX1_sawLeg_17 : decode cX1_sawLeg 17 = .ok (.bipush (-2), 2) := by decide +kernel
theorem dX1_sawLeg_19 : decode cX1_sawLeg 19 = .ok (.ireturn, 1) := by decide +kernel
theorem dX1_sawLeg_20 : decode cX1_sawLeg 20 = .ok (.iload_n 3, 1) := by decide +kernel
theorem dX1_sawLeg_21 : decode cX1_sawLeg 21 = .ok (.iconst 1, 1) := by decide +kernel
theorem dX1_sawLeg_22 : decode cX1_sawLeg 22 = .ok (.sipush 800, 3) := by decide +kernel
theorem dX1_sawLeg_25 : decode cX1_sawLeg 25 = .ok (.invokestatic 104, 3) := by decide +kernel
theorem dX1_sawLeg_28 : decode cX1_sawLeg 28 = .ok (.ifCond .ne 6, 3) := by decide +kernel
theorem dX1_sawLeg_31 : decode cX1_sawLeg 31 = .ok (.bipush (-3), 2) := by decide +kernel
theorem dX1_sawLeg_33 : decode cX1_sawLeg 33 = .ok (.ireturn, 1) := by decide +kernel
theorem dX1_sawLeg_34 : decode cX1_sawLeg 34 = .ok (.aload_n 0, 1) := by decide +kernel
theorem dX1_sawLeg_35 : decode cX1_sawLeg 35 = .ok (.iload_n 1, 1) := by decide +kernel
theorem dX1_sawLeg_36 : decode cX1_sawLeg 36 = .ok (.iload_n 2, 1) := by decide +kernel
theorem dX1_sawLeg_37 : decode cX1_sawLeg 37 = .ok (.invokevirtual 94, 3) := by decide +kernel
theorem dX1_sawLeg_40 : decode cX1_sawLeg 40 = .ok (.iload_n 3, 1) := by decide +kernel
theorem dX1_sawLeg_41 : decode cX1_sawLeg 41 = .ok (.isub, 1) := by decide +kernel
theorem dX1_sawLeg_42 : decode cX1_sawLeg 42 = .ok (.istore 4, 2) := by decide +kernel
theorem dX1_sawLeg_44 : decode cX1_sawLeg 44 = .ok (.iload 4, 2) := by decide +kernel
theorem dX1_sawLeg_46 : decode cX1_sawLeg 46 = .ok (.bipush 100, 2) := by decide +kernel
theorem dX1_sawLeg_48 : decode cX1_sawLeg 48 = .ok (.if_icmp .ge 6, 3) := by decide +kernel
theorem dX1_sawLeg_51 : decode cX1_sawLeg 51 = .ok (.bipush (-4), 2) := by decide +kernel
theorem dX1_sawLeg_53 : decode cX1_sawLeg 53 = .ok (.ireturn, 1) := by decide +kernel
theorem dX1_sawLeg_54 : decode cX1_sawLeg 54 = .ok (.aload_n 0, 1) := by decide +kernel
theorem dX1_sawLeg_55 : decode cX1_sawLeg 55 = .ok (.getfield 27, 3) := by decide +kernel
theorem dX1_sawLeg_58 : decode cX1_sawLeg 58 = .ok (.iload_n 1, 1) := by decide +kernel
theorem dX1_sawLeg_59 : decode cX1_sawLeg 59 = .ok (.iconst 4, 1) := by decide +kernel
theorem dX1_sawLeg_60 : decode cX1_sawLeg 60 = .ok (.imul, 1) := by decide +kernel
theorem dX1_sawLeg_61 : decode cX1_sawLeg 61 = .ok (.iload_n 2, 1) := by decide +kernel
theorem dX1_sawLeg_62 : decode cX1_sawLeg 62 = .ok (.iadd, 1) := by decide +kernel
theorem dX1_sawLeg_63 : decode cX1_sawLeg 63 = .ok (.iload 4, 2) := by decide +kernel
theorem dX1_sawLeg_65 : decode cX1_sawLeg 65 = .ok (.invokestatic 56, 3) := by decide +kernel
theorem dX1_sawLeg_68 : decode cX1_sawLeg 68 = .ok (.aload_n 0, 1) := by decide +kernel
theorem dX1_sawLeg_69 : decode cX1_sawLeg 69 = .ok (.iload_n 1, 1) := by decide +kernel
theorem dX1_sawLeg_70 : decode cX1_sawLeg 70 = .ok (.invokevirtual 118, 3) := by decide +kernel
theorem dX1_sawLeg_73 : decode cX1_sawLeg 73 = .ok (.pop, 1) := by decide +kernel
theorem dX1_sawLeg_74 : decode cX1_sawLeg 74 = .ok (.aload_n 0, 1) := by decide +kernel
theorem dX1_sawLeg_75 : decode cX1_sawLeg 75 = .ok (.bipush 8, 2) := by decide +kernel
theorem dX1_sawLeg_77 : decode cX1_sawLeg 77 = .ok (.iload_n 3, 1) := by decide +kernel
theorem dX1_sawLeg_78 : decode cX1_sawLeg 78 = .ok (.invokevirtual 124, 3) := by decide +kernel
theorem dX1_sawLeg_81 : decode cX1_sawLeg 81 = .ok (.iload 4, 2) := by decide +kernel
theorem dX1_sawLeg_83 : decode cX1_sawLeg 83 = .ok (.ireturn, 1) := by decide +kernel
theorem dX1_shimLeg_0 : decode cX1_shimLeg 0 = .ok (.aload_n 0, 1) := by decide +kernel
theorem dX1_shimLeg_1 : decode cX1_shimLeg 1 = .ok (.iload_n 1, 1) := by decide +kernel
theorem dX1_shimLeg_2 : decode cX1_shimLeg 2 = .ok (.invokevirtual 121, 3) := by decide +kernel
theorem dX1_shimLeg_5 : decode cX1_shimLeg 5 = .ok (.ifCond .eq 12, 3) := by decide +kernel
theorem dX1_shimLeg_8 : decode cX1_shimLeg 8 = .ok (.iload_n 2, 1) := by decide +kernel
theorem dX1_shimLeg_9 : decode cX1_shimLeg 9 = .ok (.iconst 0, 1) := by decide +kernel
theorem dX1_shimLeg_10 : decode cX1_shimLeg 10 = .ok (.iconst 3, 1) := by decide +kernel
theorem dX1_shimLeg_11 : decode cX1_shimLeg 11 = .ok (.invokestatic 104, 3) := by decide +kernel
theorem dX1_shimLeg_14 : decode cX1_shimLeg 14 = .ok (.ifCond .ne 6, 3) := by decide +kernel
theorem dX1_shimLeg_17 : decode cX1_shimLeg 17 = .ok (.bipush (-2), 2) := by decide +kernel
theorem dX1_shimLeg_19 : decode cX1_shimLeg 19 = .ok (.ireturn, 1) := by decide +kernel
theorem dX1_shimLeg_20 : decode cX1_shimLeg 20 = .ok (.iload_n 3, 1) := by decide +kernel
theorem dX1_shimLeg_21 : decode cX1_shimLeg 21 = .ok (.iconst 1, 1) := by decide +kernel
theorem dX1_shimLeg_22 : decode cX1_shimLeg 22 = .ok (.bipush 99, 2) := by decide +kernel
theorem dX1_shimLeg_24 : decode cX1_shimLeg 24 = .ok (.invokestatic 104, 3) := by decide +kernel
theorem dX1_shimLeg_27 : decode cX1_shimLeg 27 = .ok (.ifCond .ne 6, 3) := by decide +kernel
theorem dX1_shimLeg_30 : decode cX1_shimLeg 30 = .ok (.bipush (-3), 2) := by decide +kernel
theorem dX1_shimLeg_32 : decode cX1_shimLeg 32 = .ok (.ireturn, 1) := by decide +kernel
theorem dX1_shimLeg_33 : decode cX1_shimLeg 33 = .ok (.aload_n 0, 1) := by decide +kernel
theorem dX1_shimLeg_34 : decode cX1_shimLeg 34 = .ok (.iload_n 1, 1) := by decide +kernel
theorem dX1_shimLeg_35 : decode cX1_shimLeg 35 = .ok (.iload_n 2, 1) := by decide +kernel
theorem dX1_shimLeg_36 : decode cX1_shimLeg 36 = .ok (.invokevirtual 94, 3) := by decide +kernel
theorem dX1_shimLeg_39 : decode cX1_shimLeg 39 = .ok (.iload_n 3, 1) := by decide +kernel
theorem dX1_shimLeg_40 : decode cX1_shimLeg 40 = .ok (.iadd, 1) := by decide +kernel
theorem dX1_shimLeg_41 : decode cX1_shimLeg 41 = .ok (.istore 4, 2) := by decide +kernel
theorem dX1_shimLeg_43 : decode cX1_shimLeg 43 = .ok (.iload 4, 2) := by decide +kernel
theorem dX1_shimLeg_45 : decode cX1_shimLeg 45 = .ok (.sipush 900, 3) := by decide +kernel
theorem dX1_shimLeg_48 : decode cX1_shimLeg 48 = .ok (.if_icmp .le 6, 3) := by decide +kernel
theorem dX1_shimLeg_51 : decode cX1_shimLeg 51 = .ok (.bipush (-4), 2) := by decide +kernel
theorem dX1_shimLeg_53 : decode cX1_shimLeg 53 = .ok (.ireturn, 1) := by decide +kernel
theorem dX1_shimLeg_54 : decode cX1_shimLeg 54 = .ok (.aload_n 0, 1) := by decide +kernel
theorem dX1_shimLeg_55 : decode cX1_shimLeg 55 = .ok (.getfield 27, 3) := by decide +kernel
theorem dX1_shimLeg_58 : decode cX1_shimLeg 58 = .ok (.iload_n 1, 1) := by decide +kernel
theorem dX1_shimLeg_59 : decode cX1_shimLeg 59 = .ok (.iconst 4, 1) := by decide +kernel
theorem dX1_shimLeg_60 : decode cX1_shimLeg 60 = .ok (.imul, 1) := by decide +kernel
theorem dX1_shimLeg_61 : decode cX1_shimLeg 61 = .ok (.iload_n 2, 1) := by decide +kernel
theorem dX1_shimLeg_62 : decode cX1_shimLeg 62 = .ok (.iadd, 1) := by decide +kernel
theorem dX1_shimLeg_63 : decode cX1_shimLeg 63 = .ok (.iload 4, 2) := by decide +kernel
theorem dX1_shimLeg_65 : decode cX1_shimLeg 65 = .ok (.invokestatic 56, 3) := by decide +kernel
theorem dX1_shimLeg_68 : decode cX1_shimLeg 68 = .ok (.aload_n 0, 1) := by decide +kernel
theorem dX1_shimLeg_69 : decode cX1_shimLeg 69 = .ok (.iload_n 1, 1) := by decide +kernel
theorem dX1_shimLeg_70 : decode cX1_shimLeg 70 = .ok (.invokevirtual 118, 3) := by decide +kernel
theorem dX1_shimLeg_73 : decode cX1_shimLeg 73 = .ok (.pop, 1) := by decide +kernel
theorem dX1_shimLeg_74 : decode cX1_shimLeg 74 = .ok (.aload_n 0, 1) := by decide +kernel
theorem dX1_shimLeg_75 : decode cX1_shimLeg 75 = .ok (.bipush 9, 2) := by decide +kernel
theorem dX1_shimLeg_77 : decode cX1_shimLeg 77 = .ok (.iload_n 3, 1) := by decide +kernel
theorem dX1_shimLeg_78 : decode cX1_shimLeg 78 = .ok (.invokevirtual 124, 3) := by decide +kernel
theorem dX1_shimLeg_81 : decode cX1_shimLeg 81 = .ok (.iload 4, 2) := by decide +kernel
theorem dX1_shimLeg_83 : decode cX1_shimLeg 83 = .ok (.ireturn, 1) := by decide +kernel
theorem dX1_testChair_0 : decode cX1_testChair 0 = .ok (.aload_n 0, 1) := by decide +kernel
theorem dX1_testChair_1 : decode cX1_testChair 1 = .ok (.iload_n 1, 1) := by decide +kernel
theorem dX1_testChair_2 : decode cX1_testChair 2 = .ok (.invokevirtual 121, 3) := by decide +kernel
theorem dX1_testChair_5 : decode cX1_testChair 5 = .ok (.ifCond .ne 6, 3) := by decide +kernel
theorem dX1_testChair_8 : decode cX1_testChair 8 = .ok (.bipush (-2), 2) := by decide +kernel
theorem dX1_testChair_10 : decode cX1_testChair 10 = .ok (.ireturn, 1) := by decide +kernel
theorem dX1_testChair_11 : decode cX1_testChair 11 = .ok (.aload_n 0, 1) := by decide +kernel
theorem dX1_testChair_12 : decode cX1_testChair 12 = .ok (.iconst 3, 1) := by decide +kernel
theorem dX1_testChair_13 : decode cX1_testChair 13 = .ok (.iconst 1, 1) := by decide +kernel
theorem dX1_testChair_14 : decode cX1_testChair 14 = .ok (.invokevirtual 124, 3) := by decide +kernel
theorem dX1_testChair_17 : decode cX1_testChair 17 = .ok (.aload_n 0, 1) := by decide +kernel
theorem dX1_testChair_18 : decode cX1_testChair 18 = .ok (.bipush 6, 2) := by decide +kernel
theorem dX1_testChair_20 : decode cX1_testChair 20 = .ok (.aload_n 0, 1) := by decide +kernel
theorem dX1_testChair_21 : decode cX1_testChair 21 = .ok (.getfield 36, 3) := by decide +kernel
theorem dX1_testChair_24 : decode cX1_testChair 24 = .ok (.iconst 0, 1) := by decide +kernel
theorem dX1_testChair_25 : decode cX1_testChair 25 = .ok (.invokestatic 64, 3) := by decide +kernel
theorem dX1_testChair_28 : decode cX1_testChair 28 = .ok (.invokevirtual 124, 3) := by decide +kernel
theorem dX1_testChair_31 : decode cX1_testChair 31 = .ok (.aload_n 0, 1) := by decide +kernel
theorem dX1_testChair_32 : decode cX1_testChair 32 = .ok (.iload_n 1, 1) := by decide +kernel
theorem dX1_testChair_33 : decode cX1_testChair 33 = .ok (.invokevirtual 128, 3) := by decide +kernel
theorem dX1_testChair_36 : decode cX1_testChair 36 = .ok (.istore_n 2, 1) := by decide +kernel
theorem dX1_testChair_37 : decode cX1_testChair 37 = .ok (.iload_n 2, 1) := by decide +kernel
theorem dX1_testChair_38 : decode cX1_testChair 38 = .ok (.ifCond .ne 29, 3) := by decide +kernel
theorem dX1_testChair_41 : decode cX1_testChair 41 = .ok (.aload_n 0, 1) := by decide +kernel
theorem dX1_testChair_42 : decode cX1_testChair 42 = .ok (.getfield 21, 3) := by decide +kernel
theorem dX1_testChair_45 : decode cX1_testChair 45 = .ok (.iload_n 1, 1) := by decide +kernel
theorem dX1_testChair_46 : decode cX1_testChair 46 = .ok (.invokestatic 64, 3) := by decide +kernel
theorem dX1_testChair_49 : decode cX1_testChair 49 = .ok (.ifCond .ne 18, 3) := by decide +kernel
theorem dX1_testChair_52 : decode cX1_testChair 52 = .ok (.aload_n 0, 1) := by decide +kernel
theorem dX1_testChair_53 : decode cX1_testChair 53 = .ok (.getfield 21, 3) := by decide +kernel
theorem dX1_testChair_56 : decode cX1_testChair 56 = .ok (.iload_n 1, 1) := by decide +kernel
theorem dX1_testChair_57 : decode cX1_testChair 57 = .ok (.iconst 1, 1) := by decide +kernel
theorem dX1_testChair_58 : decode cX1_testChair 58 = .ok (.invokestatic 56, 3) := by decide +kernel
theorem dX1_testChair_61 : decode cX1_testChair 61 = .ok (.aload_n 0, 1) := by decide +kernel
theorem dX1_testChair_62 : decode cX1_testChair 62 = .ok (.iconst 4, 1) := by decide +kernel
theorem dX1_testChair_63 : decode cX1_testChair 63 = .ok (.iconst 1, 1) := by decide +kernel
theorem dX1_testChair_64 : decode cX1_testChair 64 = .ok (.invokevirtual 124, 3) := by decide +kernel
theorem dX1_testChair_67 : decode cX1_testChair 67 = .ok (.iload_n 2, 1) := by decide +kernel
theorem dX1_testChair_68 : decode cX1_testChair 68 = .ok (.ireturn, 1) := by decide +kernel
theorem dX1_sitDown_0 : decode cX1_sitDown 0 = .ok (.aload_n 0, 1) := by decide +kernel
theorem dX1_sitDown_1 : decode cX1_sitDown 1 = .ok (.iload_n 1, 1) := by decide +kernel
theorem dX1_sitDown_2 : decode cX1_sitDown 2 = .ok (.invokevirtual 121, 3) := by decide +kernel
theorem dX1_sitDown_5 : decode cX1_sitDown 5 = .ok (.ifCond .ne 6, 3) := by decide +kernel
theorem dX1_sitDown_8 : decode cX1_sitDown 8 = .ok (.bipush (-2), 2) := by decide +kernel
theorem dX1_sitDown_10 : decode cX1_sitDown 10 = .ok (.ireturn, 1) := by decide +kernel
theorem dX1_sitDown_11 : decode cX1_sitDown 11 = .ok (.iload_n 2, 1) := by decide +kernel
theorem dX1_sitDown_12 : decode cX1_sitDown 12 = .ok (.iconst 1, 1) := by decide +kernel
theorem dX1_sitDown_13 : decode cX1_sitDown 13 = .ok (.sipush 200, 3) := by decide +kernel
theorem dX1_sitDown_16 : decode cX1_sitDown 16 = .ok (.invokestatic 104, 3) := by decide +kernel
theorem dX1_sitDown_19 : decode cX1_sitDown 19 = .ok (.ifCond .ne 6, 3) := by decide +kernel
theorem dX1_sitDown_22 : decode cX1_sitDown 22 = .ok (.bipush (-3), 2) := by decide +kernel
theorem dX1_sitDown_24 : decode cX1_sitDown 24 = .ok (.ireturn, 1) := by decide +kernel
theorem dX1_sitDown_25 : decode cX1_sitDown 25 = .ok (.aload_n 0, 1) := by decide +kernel
theorem dX1_sitDown_26 : decode cX1_sitDown 26 = .ok (.getfield 24, 3) := by decide +kernel
theorem dX1_sitDown_29 : decode cX1_sitDown 29 = .ok (.iload_n 1, 1) := by decide +kernel
theorem dX1_sitDown_30 : decode cX1_sitDown 30 = .ok (.aload_n 0, 1) := by decide +kernel
theorem dX1_sitDown_31 : decode cX1_sitDown 31 = .ok (.getfield 24, 3) := by decide +kernel
theorem dX1_sitDown_34 : decode cX1_sitDown 34 = .ok (.iload_n 1, 1) := by decide +kernel
theorem dX1_sitDown_35 : decode cX1_sitDown 35 = .ok (.invokestatic 64, 3) := by decide +kernel
theorem dX1_sitDown_38 : decode cX1_sitDown 38 = .ok (.iconst 1, 1) := by decide +kernel
theorem dX1_sitDown_39 : decode cX1_sitDown 39 = .ok (.iadd, 1) := by decide +kernel
theorem dX1_sitDown_40 : decode cX1_sitDown 40 = .ok (.invokestatic 56, 3) := by decide +kernel
theorem dX1_sitDown_43 : decode cX1_sitDown 43 = .ok (.aload_n 0, 1) := by decide +kernel
theorem dX1_sitDown_44 : decode cX1_sitDown 44 = .ok (.bipush 7, 2) := by decide +kernel
theorem dX1_sitDown_46 : decode cX1_sitDown 46 = .ok (.iconst 1, 1) := by decide +kernel
theorem dX1_sitDown_47 : decode cX1_sitDown 47 = .ok (.invokevirtual 124, 3) := by decide +kernel
theorem dX1_sitDown_50 : decode cX1_sitDown 50 = .ok (.aload_n 0, 1) := by decide +kernel
theorem dX1_sitDown_51 : decode cX1_sitDown 51 = .ok (.iload_n 1, 1) := by decide +kernel
theorem dX1_sitDown_52 : decode cX1_sitDown 52 = .ok (.invokevirtual 131, 3) := by decide +kernel
theorem dX1_sitDown_55 : decode cX1_sitDown 55 = .ok (.istore_n 3, 1) := by decide +kernel
theorem dX1_sitDown_56 : decode cX1_sitDown 56 = .ok (.aload_n 0, 1) := by decide +kernel
theorem dX1_sitDown_57 : decode cX1_sitDown 57 = .ok (.iload_n 2, 1) := by decide +kernel
theorem dX1_sitDown_58 : decode cX1_sitDown 58 = .ok (.invokevirtual 134, 3) := by decide +kernel
theorem dX1_sitDown_61 : decode cX1_sitDown 61 = .ok (.istore 4, 2) := by decide +kernel
theorem dX1_sitDown_63 : decode cX1_sitDown 63 = .ok (.iconst 0, 1) := by decide +kernel
theorem dX1_sitDown_64 : decode cX1_sitDown 64 = .ok (.istore 5, 2) := by decide +kernel
theorem dX1_sitDown_66 : decode cX1_sitDown 66 = .ok (.iconst 0, 1) := by decide +kernel
theorem dX1_sitDown_67 : decode cX1_sitDown 67 = .ok (.istore 6, 2) := by decide +kernel
theorem dX1_sitDown_69 : decode cX1_sitDown 69 = .ok (.iload 6, 2) := by decide +kernel
theorem dX1_sitDown_71 : decode cX1_sitDown 71 = .ok (.iconst 4, 1) := by decide +kernel
theorem dX1_sitDown_72 : decode cX1_sitDown 72 = .ok (.if_icmp .ge 29, 3) := by decide +kernel
theorem dX1_sitDown_75 : decode cX1_sitDown 75 = .ok (.iload 6, 2) := by decide +kernel
theorem dX1_sitDown_77 : decode cX1_sitDown 77 = .ok (.iload_n 3, 1) := by decide +kernel
theorem dX1_sitDown_78 : decode cX1_sitDown 78 = .ok (.if_icmp .eq 17, 3) := by decide +kernel
theorem dX1_sitDown_81 : decode cX1_sitDown 81 = .ok (.iload 5, 2) := by decide +kernel
theorem dX1_sitDown_83 : decode cX1_sitDown 83 = .ok (.aload_n 0, 1) := by decide +kernel
theorem dX1_sitDown_84 : decode cX1_sitDown 84 = .ok (.iload_n 1, 1) := by decide +kernel
theorem dX1_sitDown_85 : decode cX1_sitDown 85 = .ok (.iload 6, 2) := by decide +kernel
theorem dX1_sitDown_87 : decode cX1_sitDown 87 = .ok (.iload 4, 2) := by decide +kernel
theorem dX1_sitDown_89 : decode cX1_sitDown 89 = .ok (.invokevirtual 137, 3) := by decide +kernel
theorem dX1_sitDown_92 : decode cX1_sitDown 92 = .ok (.iadd, 1) := by decide +kernel
theorem dX1_sitDown_93 : decode cX1_sitDown 93 = .ok (.istore 5, 2) := by decide +kernel
theorem dX1_sitDown_95 : decode cX1_sitDown 95 = .ok (.iinc 6 1, 3) := by decide +kernel
theorem dX1_sitDown_98 : decode cX1_sitDown 98 = .ok (.goto (-29), 3) := by decide +kernel
theorem dX1_sitDown_101 : decode cX1_sitDown 101 = .ok (.aload_n 0, 1) := by decide +kernel
theorem dX1_sitDown_102 : decode cX1_sitDown 102 = .ok (.bipush 10, 2) := by decide +kernel
theorem dX1_sitDown_104 : decode cX1_sitDown 104 = .ok (.iload 5, 2) := by decide +kernel
theorem dX1_sitDown_106 : decode cX1_sitDown 106 = .ok (.invokevirtual 124, 3) := by decide +kernel
theorem dX1_sitDown_109 : decode cX1_sitDown 109 = .ok (.iload 5, 2) := by decide +kernel
theorem dX1_sitDown_111 : decode cX1_sitDown 111 = .ok (.ireturn, 1) := by decide +kernel
theorem dX1_wearOf_0 : decode cX1_wearOf 0 = .ok (.aload_n 0, 1) := by decide +kernel
theorem dX1_wearOf_1 : decode cX1_wearOf 1 = .ok (.getfield 36, 3) := by decide +kernel
theorem dX1_wearOf_4 : decode cX1_wearOf 4 = .ok (.iconst 1, 1) := by decide +kernel
theorem dX1_wearOf_5 : decode cX1_wearOf 5 = .ok (.invokestatic 64, 3) := by decide +kernel
theorem dX1_wearOf_8 : decode cX1_wearOf 8 = .ok (.istore_n 2, 1) := by decide +kernel
theorem dX1_wearOf_9 : decode cX1_wearOf 9 = .ok (.iload_n 2, 1) := by decide +kernel
theorem dX1_wearOf_10 : decode cX1_wearOf 10 = .ok (.iconst 1, 1) := by decide +kernel
theorem dX1_wearOf_11 : decode cX1_wearOf 11 = .ok (.if_icmp .ge 7, 3) := by decide +kernel
theorem dX1_wearOf_14 : decode cX1_wearOf 14 = .ok (.iconst 0, 1) := by decide +kernel
theorem dX1_wearOf_15 : decode cX1_wearOf 15 = .ok (.goto 6, 3) := by decide +kernel
theorem dX1_wearOf_18 : decode cX1_wearOf 18 = .ok (.iload_n 1, 1) := by decide +kernel
theorem dX1_wearOf_19 : decode cX1_wearOf 19 = .ok (.iload_n 2, 1) := by decide +kernel
theorem dX1_wearOf_20 : decode cX1_wearOf 20 = .ok (.idiv, 1) := by decide +kernel
theorem dX1_wearOf_21 : decode cX1_wearOf 21 = .ok (.ireturn, 1) := by decide +kernel
theorem dX1_wearLeg_0 : decode cX1_wearLeg 0 = .ok (.aload_n 0, 1) := by decide +kernel
theorem dX1_wearLeg_1 : decode cX1_wearLeg 1 = .ok (.iload_n 1, 1) := by decide +kernel
theorem dX1_wearLeg_2 : decode cX1_wearLeg 2 = .ok (.iload_n 2, 1) := by decide +kernel
theorem dX1_wearLeg_3 : decode cX1_wearLeg 3 = .ok (.invokevirtual 94, 3) := by decide +kernel
theorem dX1_wearLeg_6 : decode cX1_wearLeg 6 = .ok (.istore 4, 2) := by decide +kernel
theorem dX1_wearLeg_8 : decode cX1_wearLeg 8 = .ok (.iload_n 3, 1) := by decide +kernel
theorem dX1_wearLeg_9 : decode cX1_wearLeg 9 = .ok (.iload 4, 2) := by decide +kernel
theorem dX1_wearLeg_11 : decode cX1_wearLeg 11 = .ok (.bipush 100, 2) := by decide +kernel
theorem dX1_wearLeg_13 : decode cX1_wearLeg 13 = .ok (.isub, 1) := by decide +kernel
theorem dX1_wearLeg_14 : decode cX1_wearLeg 14 = .ok (.invokestatic 76, 3) := by decide +kernel
theorem dX1_wearLeg_17 : decode cX1_wearLeg 17 = .ok (.istore 5, 2) := by decide +kernel
theorem dX1_wearLeg_19 : decode cX1_wearLeg 19 = .ok (.iload 5, 2) := by decide +kernel
theorem dX1_wearLeg_21 : decode cX1_wearLeg 21 = .ok (.ifCond .gt 5, 3) := by decide +kernel
theorem dX1_wearLeg_24 : decode cX1_wearLeg 24 = .ok (.iconst 0, 1) := by decide +kernel
theorem dX1_wearLeg_25 : decode cX1_wearLeg 25 = .ok (.ireturn, 1) := by decide +kernel
theorem dX1_wearLeg_26 : decode cX1_wearLeg 26 = .ok (.aload_n 0, 1) := by decide +kernel
theorem dX1_wearLeg_27 : decode cX1_wearLeg 27 = .ok (.getfield 27, 3) := by decide +kernel
theorem dX1_wearLeg_30 : decode cX1_wearLeg 30 = .ok (.iload_n 1, 1) := by decide +kernel
theorem dX1_wearLeg_31 : decode cX1_wearLeg 31 = .ok (.iconst 4, 1) := by decide +kernel
theorem dX1_wearLeg_32 : decode cX1_wearLeg 32 = .ok (.imul, 1) := by decide +kernel
theorem dX1_wearLeg_33 : decode cX1_wearLeg 33 = .ok (.iload_n 2, 1) := by decide +kernel
theorem dX1_wearLeg_34 : decode cX1_wearLeg 34 = .ok (.iadd, 1) := by decide +kernel
theorem dX1_wearLeg_35 : decode cX1_wearLeg 35 = .ok (.iload 4, 2) := by decide +kernel
theorem dX1_wearLeg_37 : decode cX1_wearLeg 37 = .ok (.iload 5, 2) := by decide +kernel
theorem dX1_wearLeg_39 : decode cX1_wearLeg 39 = .ok (.isub, 1) := by decide +kernel
theorem dX1_wearLeg_40 : decode cX1_wearLeg 40 = .ok (.invokestatic 56, 3) := by decide +kernel
theorem dX1_wearLeg_43 : decode cX1_wearLeg 43 = .ok (.aload_n 0, 1) := by decide +kernel
theorem dX1_wearLeg_44 : decode cX1_wearLeg 44 = .ok (.iload_n 1, 1) := by decide +kernel
theorem dX1_wearLeg_45 : decode cX1_wearLeg 45 = .ok (.invokevirtual 118, 3) := by decide +kernel
theorem dX1_wearLeg_48 : decode cX1_wearLeg 48 = .ok (.pop, 1) := by decide +kernel
theorem dX1_wearLeg_49 : decode cX1_wearLeg 49 = .ok (.iload 5, 2) := by decide +kernel
theorem dX1_wearLeg_51 : decode cX1_wearLeg 51 = .ok (.ireturn, 1) := by decide +kernel
theorem dX1_changeBound_0 : decode cX1_changeBound 0 = .ok (.iload_n 1, 1) := by decide +kernel
theorem dX1_changeBound_1 : decode cX1_changeBound 1 = .ok (.iconst 0, 1) := by decide +kernel
theorem dX1_changeBound_2 : decode cX1_changeBound 2 = .ok (.iconst 3, 1) := by decide +kernel
theorem dX1_changeBound_3 : decode cX1_changeBound 3 = .ok (.invokestatic 104, 3) := by decide +kernel
theorem dX1_changeBound_6 : decode cX1_changeBound 6 = .ok (.ifCond .eq 12, 3) := by decide +kernel
theorem dX1_changeBound_9 : decode cX1_changeBound 9 = .ok (.iload_n 2, 1) := by decide +kernel
theorem dX1_changeBound_10 : decode cX1_changeBound 10 = .ok (.iconst 0, 1) := by decide +kernel
theorem dX1_changeBound_11 : decode cX1_changeBound 11 = .ok (.iconst 3, 1) := by decide +kernel
theorem dX1_changeBound_12 : decode cX1_changeBound 12 = .ok (.invokestatic 104, 3) := by decide +kernel
theorem dX1_changeBound_15 : decode cX1_changeBound 15 = .ok (.ifCond .ne 6, 3) := by decide +kernel
theorem dX1_changeBound_18 : decode cX1_changeBound 18 = .ok (.bipush (-2), 2) := by decide +kernel
theorem dX1_changeBound_20 : decode cX1_changeBound 20 = .ok (.ireturn, 1) := by decide +kernel
theorem dX1_changeBound_21 : decode cX1_changeBound 21 = .ok (.aload_n 0, 1) := by decide +kernel
theorem dX1_changeBound_22 : decode cX1_changeBound 22 = .ok (.iload_n 2, 1) := by decide +kernel
theorem dX1_changeBound_23 : decode cX1_changeBound 23 = .ok (.iload_n 3, 1) := by decide +kernel
theorem dX1_changeBound_24 : decode cX1_changeBound 24 = .ok (.invokevirtual 140, 3) := by decide +kernel
theorem dX1_changeBound_27 : decode cX1_changeBound 27 = .ok (.ifCond .ne 6, 3) := by decide +kernel
theorem dX1_changeBound_30 : decode cX1_changeBound 30 = .ok (.bipush (-3), 2) := by decide +kernel
theorem dX1_changeBound_32 : decode cX1_changeBound 32 = .ok (.ireturn, 1) := by decide +kernel
theorem dX1_changeBound_33 : decode cX1_changeBound 33 = .ok (.aload_n 0, 1) := by decide +kernel
theorem dX1_changeBound_34 : decode cX1_changeBound 34 = .ok (.getfield 33, 3) := by decide +kernel
theorem dX1_changeBound_37 : decode cX1_changeBound 37 = .ok (.iload_n 1, 1) := by decide +kernel
theorem dX1_changeBound_38 : decode cX1_changeBound 38 = .ok (.iconst 4, 1) := by decide +kernel
theorem dX1_changeBound_39 : decode cX1_changeBound 39 = .ok (.imul, 1) := by decide +kernel
theorem dX1_changeBound_40 : decode cX1_changeBound 40 = .ok (.iload_n 2, 1) := by decide +kernel
theorem dX1_changeBound_41 : decode cX1_changeBound 41 = .ok (.iadd, 1) := by decide +kernel
theorem dX1_changeBound_42 : decode cX1_changeBound 42 = .ok (.iload_n 3, 1) := by decide +kernel
theorem dX1_changeBound_43 : decode cX1_changeBound 43 = .ok (.invokestatic 56, 3) := by decide +kernel
theorem dX1_changeBound_46 : decode cX1_changeBound 46 = .ok (.iconst 0, 1) := by decide +kernel
theorem dX1_changeBound_47 : decode cX1_changeBound 47 = .ok (.istore 4, 2) := by decide +kernel
theorem dX1_changeBound_49 : decode cX1_changeBound 49 = .ok (.iconst 0, 1) := by decide +kernel
theorem dX1_changeBound_50 : decode cX1_changeBound 50 = .ok (.istore 5, 2) := by decide +kernel
theorem dX1_changeBound_52 : decode cX1_changeBound 52 = .ok (.iload 5, 2) := by decide +kernel
theorem dX1_changeBound_54 : decode cX1_changeBound 54 = .ok (.aload_n 0, 1) := by decide +kernel
theorem dX1_changeBound_55 : decode cX1_changeBound 55 = .ok (.getfield 45, 3) := by decide +kernel
theorem dX1_changeBound_58 : decode cX1_changeBound 58 = .ok (.if_icmp .ge 42, 3) := by decide +kernel
theorem dX1_changeBound_61 : decode cX1_changeBound 61 = .ok (.aload_n 0, 1) := by decide +kernel
theorem dX1_changeBound_62 : decode cX1_changeBound 62 = .ok (.getfield 9, 3) := by decide +kernel
theorem dX1_changeBound_65 : decode cX1_changeBound 65 = .ok (.iload 5, 2) := by decide +kernel
theorem dX1_changeBound_67 : decode cX1_changeBound 67 = .ok (.invokestatic 64, 3) := by decide +kernel
theorem dX1_changeBound_70 : decode cX1_changeBound 70 = .ok (.iload_n 1, 1) := by decide +kernel
theorem dX1_changeBound_71 : decode cX1_changeBound 71 = .ok (.if_icmp .ne 23, 3) := by decide +kernel
theorem dX1_changeBound_74 : decode cX1_changeBound 74 = .ok (.aload_n 0, 1) := by decide +kernel
theorem dX1_changeBound_75 : decode cX1_changeBound 75 = .ok (.iload 5, 2) := by decide +kernel
theorem dX1_changeBound_77 : decode cX1_changeBound 77 = .ok (.invokevirtual 128, 3) := by decide +kernel
theorem dX1_changeBound_80 : decode cX1_changeBound 80 = .ok (.ifCond .eq 14, 3) := by decide +kernel
theorem dX1_changeBound_83 : decode cX1_changeBound 83 = .ok (.iload 4, 2) := by decide +kernel
theorem dX1_changeBound_85 : decode cX1_changeBound 85 = .ok (.aload_n 0, 1) := by decide +kernel
theorem dX1_changeBound_86 : decode cX1_changeBound 86 = .ok (.iload 5, 2) := by decide +kernel
theorem dX1_changeBound_88 : decode cX1_changeBound 88 = .ok (.invokevirtual 118, 3) := by decide +kernel
theorem dX1_changeBound_91 : decode cX1_changeBound 91 = .ok (.iadd, 1) := by decide +kernel
theorem dX1_changeBound_92 : decode cX1_changeBound 92 = .ok (.istore 4, 2) := by decide +kernel
theorem dX1_changeBound_94 : decode cX1_changeBound 94 = .ok (.iinc 5 1, 3) := by decide +kernel
theorem dX1_changeBound_97 : decode cX1_changeBound 97 = .ok (.goto (-45), 3) := by decide +kernel
theorem dX1_changeBound_100 : decode cX1_changeBound 100 = .ok (.iload 4, 2) := by decide +kernel
theorem dX1_changeBound_102 : decode cX1_changeBound 102 = .ok (.ireturn, 1) := by decide +kernel
theorem dX1_isBound_0 : decode cX1_isBound 0 = .ok (.iload_n 1, 1) := by decide +kernel
theorem dX1_isBound_1 : decode cX1_isBound 1 = .ok (.tableswitch 58 0 3 #[31, 31, 41, 49], 31) := by decide +kernel
theorem dX1_isBound_32 : decode cX1_isBound 32 = .ok (.iload_n 2, 1) := by decide +kernel
theorem dX1_isBound_33 : decode cX1_isBound 33 = .ok (.bipush 100, 2) := by decide +kernel
theorem dX1_isBound_35 : decode cX1_isBound 35 = .ok (.sipush 900, 3) := by decide +kernel
theorem dX1_isBound_38 : decode cX1_isBound 38 = .ok (.invokestatic 104, 3) := by decide +kernel
theorem dX1_isBound_41 : decode cX1_isBound 41 = .ok (.ireturn, 1) := by decide +kernel
theorem dX1_isBound_42 : decode cX1_isBound 42 = .ok (.iload_n 2, 1) := by decide +kernel
theorem dX1_isBound_43 : decode cX1_isBound 43 = .ok (.iconst 0, 1) := by decide +kernel
theorem dX1_isBound_44 : decode cX1_isBound 44 = .ok (.bipush 100, 2) := by decide +kernel
theorem dX1_isBound_46 : decode cX1_isBound 46 = .ok (.invokestatic 104, 3) := by decide +kernel
theorem dX1_isBound_49 : decode cX1_isBound 49 = .ok (.ireturn, 1) := by decide +kernel
theorem dX1_isBound_50 : decode cX1_isBound 50 = .ok (.iload_n 2, 1) := by decide +kernel
theorem dX1_isBound_51 : decode cX1_isBound 51 = .ok (.iconst 0, 1) := by decide +kernel
theorem dX1_isBound_52 : decode cX1_isBound 52 = .ok (.sipush 200, 3) := by decide +kernel
theorem dX1_isBound_55 : decode cX1_isBound 55 = .ok (.invokestatic 104, 3) := by decide +kernel
theorem dX1_isBound_58 : decode cX1_isBound 58 = .ok (.ireturn, 1) := by decide +kernel
theorem dX1_isBound_59 : decode cX1_isBound 59 = .ok (.iconst 0, 1) := by decide +kernel
theorem dX1_isBound_60 : decode cX1_isBound 60 = .ok (.ireturn, 1) := by decide +kernel
theorem dX1_changeSetting_0 : decode cX1_changeSetting 0 = .ok (.iload_n 1, 1) := by decide +kernel
theorem dX1_changeSetting_1 : decode cX1_changeSetting 1 = .ok (.ifCond .ne 17, 3) := by decide +kernel
theorem dX1_changeSetting_4 : decode cX1_changeSetting 4 = .ok (.iload_n 2, 1) := by decide +kernel
theorem dX1_changeSetting_5 : decode cX1_changeSetting 5 = .ok (.iconst 0, 1) := by decide +kernel
theorem dX1_changeSetting_6 : decode cX1_changeSetting 6 = .ok (.bipush 50, 2) := by decide +kernel
theorem dX1_changeSetting_8 : decode cX1_changeSetting 8 = .ok (.invokestatic 104, 3) := by decide +kernel
theorem dX1_changeSetting_11 : decode cX1_changeSetting 11 = .ok (.ifCond .eq 7, 3) := by decide +kernel
theorem dX1_changeSetting_14 : decode cX1_changeSetting 14 = .ok (.iconst 1, 1) := by decide +kernel
theorem dX1_changeSetting_15 : decode cX1_changeSetting 15 = .ok (.goto 4, 3) := by decide +kernel
theorem dX1_changeSetting_18 : decode cX1_changeSetting 18 = .ok (.iconst 0, 1) := by decide +kernel
theorem dX1_changeSetting_19 : decode cX1_changeSetting 19 = .ok (.istore_n 3, 1) := by decide +kernel
theorem dX1_changeSetting_20 : decode cX1_changeSetting 20 = .ok (.iload_n 1, 1) := by decide +kernel
theorem dX1_changeSetting_21 : decode cX1_changeSetting 21 = .ok (.iconst 1, 1) := by decide +kernel
theorem dX1_changeSetting_22 : decode cX1_changeSetting 22 = .ok (.if_icmp .ne 18, 3) := by decide +kernel
theorem dX1_changeSetting_25 : decode cX1_changeSetting 25 = .ok (.iload_n 2, 1) := by decide +kernel
theorem dX1_changeSetting_26 : decode cX1_changeSetting 26 = .ok (.iconst 1, 1) := by decide +kernel
theorem dX1_changeSetting_27 : decode cX1_changeSetting 27 = .ok (.sipush 200, 3) := by decide +kernel
theorem dX1_changeSetting_30 : decode cX1_changeSetting 30 = .ok (.invokestatic 104, 3) := by decide +kernel
theorem dX1_changeSetting_33 : decode cX1_changeSetting 33 = .ok (.ifCond .eq 7, 3) := by decide +kernel
theorem dX1_changeSetting_36 : decode cX1_changeSetting 36 = .ok (.iconst 1, 1) := by decide +kernel
theorem dX1_changeSetting_37 : decode cX1_changeSetting 37 = .ok (.goto 4, 3) := by decide +kernel
theorem dX1_changeSetting_40 : decode cX1_changeSetting 40 = .ok (.iconst 0, 1) := by decide +kernel
theorem dX1_changeSetting_41 : decode cX1_changeSetting 41 = .ok (.istore 4, 2) := by decide +kernel
theorem dX1_changeSetting_43 : decode cX1_changeSetting 43 = .ok (.iload_n 3, 1) := by decide +kernel
theorem dX1_changeSetting_44 : decode cX1_changeSetting 44 = .ok (.ifCond .ne 11, 3) := by decide +kernel
theorem dX1_changeSetting_47 : decode cX1_changeSetting 47 = .ok (.iload 4, 2) := by decide +kernel
theorem dX1_changeSetting_49 : decode cX1_changeSetting 49 = .ok (.ifCond .ne 6, 3) := by decide +kernel
theorem dX1_changeSetting_52 : decode cX1_changeSetting 52 = .ok (.bipush (-3), 2) := by decide +kernel
theorem dX1_changeSetting_54 : decode cX1_changeSetting 54 = .ok (.ireturn, 1) := by decide +kernel
theorem dX1_changeSetting_55 : decode cX1_changeSetting 55 = .ok (.aload_n 0, 1) := by decide +kernel
theorem dX1_changeSetting_56 : decode cX1_changeSetting 56 = .ok (.getfield 36, 3) := by decide +kernel
theorem dX1_changeSetting_59 : decode cX1_changeSetting 59 = .ok (.iload_n 1, 1) := by decide +kernel
theorem dX1_changeSetting_60 : decode cX1_changeSetting 60 = .ok (.invokestatic 64, 3) := by decide +kernel
theorem dX1_changeSetting_63 : decode cX1_changeSetting 63 = .ok (.istore 5, 2) := by decide +kernel
theorem dX1_changeSetting_65 : decode cX1_changeSetting 65 = .ok (.aload_n 0, 1) := by decide +kernel
theorem dX1_changeSetting_66 : decode cX1_changeSetting 66 = .ok (.getfield 36, 3) := by decide +kernel
theorem dX1_changeSetting_69 : decode cX1_changeSetting 69 = .ok (.iload_n 1, 1) := by decide +kernel
theorem dX1_changeSetting_70 : decode cX1_changeSetting 70 = .ok (.iload_n 2, 1) := by decide +kernel
theorem dX1_changeSetting_71 : decode cX1_changeSetting 71 = .ok (.invokestatic 56, 3) := by decide +kernel
theorem dX1_changeSetting_74 : decode cX1_changeSetting 74 = .ok (.iload 5, 2) := by decide +kernel
theorem dX1_changeSetting_76 : decode cX1_changeSetting 76 = .ok (.ireturn, 1) := by decide +kernel
theorem dX1_voidStamp_0 : decode cX1_voidStamp 0 = .ok (.aload_n 0, 1) := by decide +kernel
theorem dX1_voidStamp_1 : decode cX1_voidStamp 1 = .ok (.getfield 21, 3) := by decide +kernel
theorem dX1_voidStamp_4 : decode cX1_voidStamp 4 = .ok (.iload_n 1, 1) := by decide +kernel
theorem dX1_voidStamp_5 : decode cX1_voidStamp 5 = .ok (.invokestatic 64, 3) := by decide +kernel
theorem dX1_voidStamp_8 : decode cX1_voidStamp 8 = .ok (.ifCond .ne 5, 3) := by decide +kernel
theorem dX1_voidStamp_11 : decode cX1_voidStamp 11 = .ok (.iconst 0, 1) := by decide +kernel
theorem dX1_voidStamp_12 : decode cX1_voidStamp 12 = .ok (.ireturn, 1) := by decide +kernel
theorem dX1_voidStamp_13 : decode cX1_voidStamp 13 = .ok (.aload_n 0, 1) := by decide +kernel
theorem dX1_voidStamp_14 : decode cX1_voidStamp 14 = .ok (.getfield 21, 3) := by decide +kernel
theorem dX1_voidStamp_17 : decode cX1_voidStamp 17 = .ok (.iload_n 1, 1) := by decide +kernel
theorem dX1_voidStamp_18 : decode cX1_voidStamp 18 = .ok (.iconst 0, 1) := by decide +kernel
theorem dX1_voidStamp_19 : decode cX1_voidStamp 19 = .ok (.invokestatic 56, 3) := by decide +kernel
theorem dX1_voidStamp_22 : decode cX1_voidStamp 22 = .ok (.aload_n 0, 1) := by decide +kernel
theorem dX1_voidStamp_23 : decode cX1_voidStamp 23 = .ok (.iconst 5, 1) := by decide +kernel
theorem dX1_voidStamp_24 : decode cX1_voidStamp 24 = .ok (.iconst 1, 1) := by decide +kernel
theorem dX1_voidStamp_25 : decode cX1_voidStamp 25 = .ok (.invokevirtual 124, 3) := by decide +kernel
theorem dX1_voidStamp_28 : decode cX1_voidStamp 28 = .ok (.iconst 1, 1) := by decide +kernel
theorem dX1_voidStamp_29 : decode cX1_voidStamp 29 = .ok (.ireturn, 1) := by decide +kernel
theorem dX1_count_0 : decode cX1_count 0 = .ok (.aload_n 0, 1) := by decide +kernel
theorem dX1_count_1 : decode cX1_count 1 = .ok (.getfield 39, 3) := by decide +kernel
theorem dX1_count_4 : decode cX1_count 4 = .ok (.iload_n 1, 1) := by decide +kernel
theorem dX1_count_5 : decode cX1_count 5 = .ok (.aload_n 0, 1) := by decide +kernel
theorem dX1_count_6 : decode cX1_count 6 = .ok (.getfield 39, 3) := by decide +kernel
theorem dX1_count_9 : decode cX1_count 9 = .ok (.iload_n 1, 1) := by decide +kernel
theorem dX1_count_10 : decode cX1_count 10 = .ok (.invokestatic 64, 3) := by decide +kernel
theorem dX1_count_13 : decode cX1_count 13 = .ok (.iload_n 2, 1) := by decide +kernel
theorem dX1_count_14 : decode cX1_count 14 = .ok (.iadd, 1) := by decide +kernel
theorem dX1_count_15 : decode cX1_count 15 = .ok (.invokestatic 56, 3) := by decide +kernel
theorem dX1_count_18 : decode cX1_count 18 = .ok (.return_, 1) := by decide +kernel
theorem dX1_bestQuarters_0 : decode cX1_bestQuarters 0 = .ok (.iconst 0, 1) := by decide +kernel
theorem dX1_bestQuarters_1 : decode cX1_bestQuarters 1 = .ok (.istore_n 3, 1) := by decide +kernel
theorem dX1_bestQuarters_2 : decode cX1_bestQuarters 2 = .ok (.iconst 1, 1) := by decide +kernel
theorem dX1_bestQuarters_3 : decode cX1_bestQuarters 3 = .ok (.istore 4, 2) := by decide +kernel
theorem dX1_bestQuarters_5 : decode cX1_bestQuarters 5 = .ok (.iload 4, 2) := by decide +kernel
theorem dX1_bestQuarters_7 : decode cX1_bestQuarters 7 = .ok (.iconst 4, 1) := by decide +kernel
theorem dX1_bestQuarters_8 : decode cX1_bestQuarters 8 = .ok (.if_icmp .ge 58, 3) := by decide +kernel
theorem dX1_bestQuarters_11 : decode cX1_bestQuarters 11 = .ok (.aload_n 0, 1) := by decide +kernel
theorem dX1_bestQuarters_12 : decode cX1_bestQuarters 12 = .ok (.iload_n 1, 1) := by decide +kernel
theorem dX1_bestQuarters_13 : decode cX1_bestQuarters 13 = .ok (.iload_n 2, 1) := by decide +kernel
theorem dX1_bestQuarters_14 : decode cX1_bestQuarters 14 = .ok (.iload 4, 2) := by decide +kernel
theorem dX1_bestQuarters_16 : decode cX1_bestQuarters 16 = .ok (.invokevirtual 72, 3) := by decide +kernel
theorem dX1_bestQuarters_19 : decode cX1_bestQuarters 19 = .ok (.aload_n 0, 1) := by decide +kernel
theorem dX1_bestQuarters_20 : decode cX1_bestQuarters 20 = .ok (.iload_n 1, 1) := by decide +kernel
theorem dX1_bestQuarters_21 : decode cX1_bestQuarters 21 = .ok (.iload_n 2, 1) := by decide +kernel
theorem dX1_bestQuarters_22 : decode cX1_bestQuarters 22 = .ok (.iload_n 3, 1) := by decide +kernel
theorem dX1_bestQuarters_23 : decode cX1_bestQuarters 23 = .ok (.invokevirtual 72, 3) := by decide +kernel
theorem dX1_bestQuarters_26 : decode cX1_bestQuarters 26 = .ok (.isub, 1) := by decide +kernel
theorem dX1_bestQuarters_27 : decode cX1_bestQuarters 27 = .ok (.istore 5, 2) := by decide +kernel
theorem dX1_bestQuarters_29 : decode cX1_bestQuarters 29 = .ok (.iload 5, 2) := by decide +kernel
theorem dX1_bestQuarters_31 : decode cX1_bestQuarters 31 = .ok (.ifCond .lt 26, 3) := by decide +kernel
theorem dX1_bestQuarters_34 : decode cX1_bestQuarters 34 = .ok (.iload 5, 2) := by decide +kernel
theorem dX1_bestQuarters_36 : decode cX1_bestQuarters 36 = .ok (.ifCond .ne 24, 3) := by decide +kernel
theorem dX1_bestQuarters_39 : decode cX1_bestQuarters 39 = .ok (.aload_n 0, 1) := by decide +kernel
theorem dX1_bestQuarters_40 : decode cX1_bestQuarters 40 = .ok (.iload_n 1, 1) := by decide +kernel
theorem dX1_bestQuarters_41 : decode cX1_bestQuarters 41 = .ok (.iload_n 2, 1) := by decide +kernel
theorem dX1_bestQuarters_42 : decode cX1_bestQuarters 42 = .ok (.iload 4, 2) := by decide +kernel
theorem dX1_bestQuarters_44 : decode cX1_bestQuarters 44 = .ok (.invokevirtual 85, 3) := by decide +kernel
theorem dX1_bestQuarters_47 : decode cX1_bestQuarters 47 = .ok (.aload_n 0, 1) := by decide +kernel
theorem dX1_bestQuarters_48 : decode cX1_bestQuarters 48 = .ok (.iload_n 1, 1) := by decide +kernel
theorem dX1_bestQuarters_49 : decode cX1_bestQuarters 49 = .ok (.iload_n 2, 1) := by decide +kernel
theorem dX1_bestQuarters_50 : decode cX1_bestQuarters 50 = .ok (.iload_n 3, 1) := by decide +kernel
theorem dX1_bestQuarters_51 : decode cX1_bestQuarters 51 = .ok (.invokevirtual 85, 3) := by decide +kernel
theorem dX1_bestQuarters_54 : decode cX1_bestQuarters 54 = .ok (.if_icmp .ge 6, 3) := by decide +kernel
theorem dX1_bestQuarters_57 : decode cX1_bestQuarters 57 = .ok (.iload 4, 2) := by decide +kernel
theorem dX1_bestQuarters_59 : decode cX1_bestQuarters 59 = .ok (.istore_n 3, 1) := by decide +kernel
theorem dX1_bestQuarters_60 : decode cX1_bestQuarters 60 = .ok (.iinc 4 1, 3) := by decide +kernel
theorem dX1_bestQuarters_63 : decode cX1_bestQuarters 63 = .ok (.goto (-58), 3) := by decide +kernel
theorem dX1_bestQuarters_66 : decode cX1_bestQuarters 66 = .ok (.iload_n 3, 1) := by decide +kernel
theorem dX1_bestQuarters_67 : decode cX1_bestQuarters 67 = .ok (.ireturn, 1) := by decide +kernel
theorem dX1_bestFloorFor_0 : decode cX1_bestFloorFor 0 = .ok (.iconst 0, 1) := by decide +kernel
theorem dX1_bestFloorFor_1 : decode cX1_bestFloorFor 1 = .ok (.istore_n 2, 1) := by decide +kernel
theorem dX1_bestFloorFor_2 : decode cX1_bestFloorFor 2 = .ok (.aload_n 0, 1) := by decide +kernel
theorem dX1_bestFloorFor_3 : decode cX1_bestFloorFor 3 = .ok (.iload_n 1, 1) := by decide +kernel
theorem dX1_bestFloorFor_4 : decode cX1_bestFloorFor 4 = .ok (.iconst 0, 1) := by decide +kernel
theorem dX1_bestFloorFor_5 : decode cX1_bestFloorFor 5 = .ok (.aload_n 0, 1) := by decide +kernel
theorem dX1_bestFloorFor_6 : decode cX1_bestFloorFor 6 = .ok (.iload_n 1, 1) := by decide +kernel
theorem dX1_bestFloorFor_7 : decode cX1_bestFloorFor 7 = .ok (.iconst 0, 1) := by decide +kernel
theorem dX1_bestFloorFor_8 : decode cX1_bestFloorFor 8 = .ok (.invokevirtual 144, 3) := by decide +kernel
theorem dX1_bestFloorFor_11 : decode cX1_bestFloorFor 11 = .ok (.invokevirtual 72, 3) := by decide +kernel
theorem dX1_bestFloorFor_14 : decode cX1_bestFloorFor 14 = .ok (.istore_n 3, 1) := by decide +kernel
theorem dX1_bestFloorFor_15 : decode cX1_bestFloorFor 15 = .ok (.iconst 1, 1) := by decide +kernel
theorem dX1_bestFloorFor_16 : decode cX1_bestFloorFor 16 = .ok (.istore 4, 2) := by decide +kernel
theorem dX1_bestFloorFor_18 : decode cX1_bestFloorFor 18 = .ok (.iload 4, 2) := by decide +kernel
theorem dX1_bestFloorFor_20 : decode cX1_bestFloorFor 20 = .ok (.aload_n 0, 1) := by decide +kernel
theorem dX1_bestFloorFor_21 : decode cX1_bestFloorFor 21 = .ok (.getfield 49, 3) := by decide +kernel
theorem dX1_bestFloorFor_24 : decode cX1_bestFloorFor 24 = .ok (.if_icmp .ge 37, 3) := by decide +kernel
theorem dX1_bestFloorFor_27 : decode cX1_bestFloorFor 27 = .ok (.aload_n 0, 1) := by decide +kernel
theorem dX1_bestFloorFor_28 : decode cX1_bestFloorFor 28 = .ok (.iload_n 1, 1) := by decide +kernel
theorem dX1_bestFloorFor_29 : decode cX1_bestFloorFor 29 = .ok (.iload 4, 2) := by decide +kernel
theorem dX1_bestFloorFor_31 : decode cX1_bestFloorFor 31 = .ok (.aload_n 0, 1) := by decide +kernel
theorem dX1_bestFloorFor_32 : decode cX1_bestFloorFor 32 = .ok (.iload_n 1, 1) := by decide +kernel
theorem dX1_bestFloorFor_33 : decode cX1_bestFloorFor 33 = .ok (.iload 4, 2) := by decide +kernel
theorem dX1_bestFloorFor_35 : decode cX1_bestFloorFor 35 = .ok (.invokevirtual 144, 3) := by decide +kernel
theorem dX1_bestFloorFor_38 : decode cX1_bestFloorFor 38 = .ok (.invokevirtual 72, 3) := by decide +kernel
theorem dX1_bestFloorFor_41 : decode cX1_bestFloorFor 41 = .ok (.istore 5, 2) := by decide +kernel
theorem dX1_bestFloorFor_43 : decode cX1_bestFloorFor 43 = .ok (.iload 5, 2) := by decide +kernel
theorem dX1_bestFloorFor_45 : decode cX1_bestFloorFor 45 = .ok (.iload_n 3, 1) := by decide +kernel
theorem dX1_bestFloorFor_46 : decode cX1_bestFloorFor 46 = .ok (.if_icmp .ge 9, 3) := by decide +kernel
theorem dX1_bestFloorFor_49 : decode cX1_bestFloorFor 49 = .ok (.iload 4, 2) := by decide +kernel
theorem dX1_bestFloorFor_51 : decode cX1_bestFloorFor 51 = .ok (.istore_n 2, 1) := by decide +kernel
theorem dX1_bestFloorFor_52 : decode cX1_bestFloorFor 52 = .ok (.iload 5, 2) := by decide +kernel
theorem dX1_bestFloorFor_54 : decode cX1_bestFloorFor 54 = .ok (.istore_n 3, 1) := by decide +kernel
theorem dX1_bestFloorFor_55 : decode cX1_bestFloorFor 55 = .ok (.iinc 4 1, 3) := by decide +kernel
theorem dX1_bestFloorFor_58 : decode cX1_bestFloorFor 58 = .ok (.goto (-40), 3) := by decide +kernel
theorem dX1_bestFloorFor_61 : decode cX1_bestFloorFor 61 = .ok (.iload_n 2, 1) := by decide +kernel
theorem dX1_bestFloorFor_62 : decode cX1_bestFloorFor 62 = .ok (.ireturn, 1) := by decide +kernel
theorem dX1_bestSawnLeg_0 : decode cX1_bestSawnLeg 0 = .ok (.aload_n 0, 1) := by decide +kernel
theorem dX1_bestSawnLeg_1 : decode cX1_bestSawnLeg 1 = .ok (.iload_n 1, 1) := by decide +kernel
theorem dX1_bestSawnLeg_2 : decode cX1_bestSawnLeg 2 = .ok (.invokevirtual 147, 3) := by decide +kernel
theorem dX1_bestSawnLeg_5 : decode cX1_bestSawnLeg 5 = .ok (.istore_n 2, 1) := by decide +kernel
theorem dX1_bestSawnLeg_6 : decode cX1_bestSawnLeg 6 = .ok (.iconst (-1), 1) := by decide +kernel
theorem dX1_bestSawnLeg_7 : decode cX1_bestSawnLeg 7 = .ok (.istore_n 3, 1) := by decide +kernel
theorem dX1_bestSawnLeg_8 : decode cX1_bestSawnLeg 8 = .ok (.iconst 0, 1) := by decide +kernel
theorem dX1_bestSawnLeg_9 : decode cX1_bestSawnLeg 9 = .ok (.istore 4, 2) := by decide +kernel
theorem dX1_bestSawnLeg_11 : decode cX1_bestSawnLeg 11 = .ok (.iconst 0, 1) := by decide +kernel
theorem dX1_bestSawnLeg_12 : decode cX1_bestSawnLeg 12 = .ok (.istore 5, 2) := by decide +kernel
theorem dX1_bestSawnLeg_14 : decode cX1_bestSawnLeg 14 = .ok (.iload 5, 2) := by decide +kernel
theorem dX1_bestSawnLeg_16 : decode cX1_bestSawnLeg 16 = .ok (.iconst 4, 1) := by decide +kernel
theorem dX1_bestSawnLeg_17 : decode cX1_bestSawnLeg 17 = .ok (.if_icmp .ge 100, 3) := by decide +kernel
theorem dX1_bestSawnLeg_20 : decode cX1_bestSawnLeg 20 = .ok (.iload_n 2, 1) := by decide +kernel
theorem dX1_bestSawnLeg_21 : decode cX1_bestSawnLeg 21 = .ok (.ifCond .le 96, 3) := by decide +kernel
theorem dX1_bestSawnLeg_24 : decode cX1_bestSawnLeg 24 = .ok (.aload_n 0, 1) := by decide +kernel
theorem dX1_bestSawnLeg_25 : decode cX1_bestSawnLeg 25 = .ok (.iload_n 1, 1) := by decide +kernel
theorem dX1_bestSawnLeg_26 : decode cX1_bestSawnLeg 26 = .ok (.iload 5, 2) := by decide +kernel
theorem dX1_bestSawnLeg_28 : decode cX1_bestSawnLeg 28 = .ok (.invokevirtual 94, 3) := by decide +kernel
theorem dX1_bestSawnLeg_31 : decode cX1_bestSawnLeg 31 = .ok (.istore 6, 2) := by decide +kernel
theorem dX1_bestSawnLeg_33 : decode cX1_bestSawnLeg 33 = .ok (.iload 6, 2) := by decide +kernel
theorem dX1_bestSawnLeg_35 : decode cX1_bestSawnLeg 35 = .ok (.iload_n 2, 1) := by decide +kernel
theorem dX1_bestSawnLeg_36 : decode cX1_bestSawnLeg 36 = .ok (.isub, 1) := by decide +kernel
theorem dX1_bestSawnLeg_37 : decode cX1_bestSawnLeg 37 = .ok (.bipush 100, 2) := by decide +kernel
theorem dX1_bestSawnLeg_39 : decode cX1_bestSawnLeg 39 = .ok (.if_icmp .ge 6, 3) := by decide +kernel
theorem dX1_bestSawnLeg_42 : decode cX1_bestSawnLeg 42 = .ok (.goto 69, 3) := by decide +kernel
theorem dX1_bestSawnLeg_45 : decode cX1_bestSawnLeg 45 = .ok (.aload_n 0, 1) := by decide +kernel
theorem dX1_bestSawnLeg_46 : decode cX1_bestSawnLeg 46 = .ok (.getfield 27, 3) := by decide +kernel
theorem dX1_bestSawnLeg_49 : decode cX1_bestSawnLeg 49 = .ok (.iload_n 1, 1) := by decide +kernel
theorem dX1_bestSawnLeg_50 : decode cX1_bestSawnLeg 50 = .ok (.iconst 4, 1) := by decide +kernel
theorem dX1_bestSawnLeg_51 : decode cX1_bestSawnLeg 51 = .ok (.imul, 1) := by decide +kernel
theorem dX1_bestSawnLeg_52 : decode cX1_bestSawnLeg 52 = .ok (.iload 5, 2) := by decide +kernel
theorem dX1_bestSawnLeg_54 : decode cX1_bestSawnLeg 54 = .ok (.iadd, 1) := by decide +kernel
theorem dX1_bestSawnLeg_55 : decode cX1_bestSawnLeg 55 = .ok (.iload 6, 2) := by decide +kernel
theorem dX1_bestSawnLeg_57 : decode cX1_bestSawnLeg 57 = .ok (.iload_n 2, 1) := by decide +kernel
theorem dX1_bestSawnLeg_58 : decode cX1_bestSawnLeg 58 = .ok (.isub, 1) := by decide +kernel
theorem dX1_bestSawnLeg_59 : decode cX1_bestSawnLeg 59 = .ok (.invokestatic 56, 3) := by decide +kernel
theorem dX1_bestSawnLeg_62 : decode cX1_bestSawnLeg 62 = .ok (.aload_n 0, 1) := by decide +kernel
theorem dX1_bestSawnLeg_63 : decode cX1_bestSawnLeg 63 = .ok (.iload_n 1, 1) := by decide +kernel
theorem dX1_bestSawnLeg_64 : decode cX1_bestSawnLeg 64 = .ok (.invokevirtual 150, 3) := by decide +kernel
theorem dX1_bestSawnLeg_67 : decode cX1_bestSawnLeg 67 = .ok (.istore 7, 2) := by decide +kernel
theorem dX1_bestSawnLeg_69 : decode cX1_bestSawnLeg 69 = .ok (.aload_n 0, 1) := by decide +kernel
theorem dX1_bestSawnLeg_70 : decode cX1_bestSawnLeg 70 = .ok (.iload_n 1, 1) := by decide +kernel
theorem dX1_bestSawnLeg_71 : decode cX1_bestSawnLeg 71 = .ok (.invokevirtual 147, 3) := by decide +kernel
theorem dX1_bestSawnLeg_74 : decode cX1_bestSawnLeg 74 = .ok (.ifCond .ne 22, 3) := by decide +kernel
theorem dX1_bestSawnLeg_77 : decode cX1_bestSawnLeg 77 = .ok (.iload_n 3, 1) := by decide +kernel
theorem dX1_bestSawnLeg_78 : decode cX1_bestSawnLeg 78 = .ok (.iconst (-1), 1) := by decide +kernel
theorem dX1_bestSawnLeg_79 : decode cX1_bestSawnLeg 79 = .ok (.if_icmp .eq 10, 3) := by decide +kernel
theorem dX1_bestSawnLeg_82 : decode cX1_bestSawnLeg 82 = .ok (.iload 7, 2) := by decide +kernel
theorem dX1_bestSawnLeg_84 : decode cX1_bestSawnLeg 84 = .ok (.iload 4, 2) := by decide +kernel
theorem dX1_bestSawnLeg_86 : decode cX1_bestSawnLeg 86 = .ok (.if_icmp .ge 10, 3) := by decide +kernel
theorem dX1_bestSawnLeg_89 : decode cX1_bestSawnLeg 89 = .ok (.iload 5, 2) := by decide +kernel
theorem dX1_bestSawnLeg_91 : decode cX1_bestSawnLeg 91 = .ok (.istore_n 3, 1) := by decide +kernel
theorem dX1_bestSawnLeg_92 : decode cX1_bestSawnLeg 92 = .ok (.iload 7, 2) := by decide +kernel
theorem dX1_bestSawnLeg_94 : decode cX1_bestSawnLeg 94 = .ok (.istore 4, 2) := by decide +kernel
theorem dX1_bestSawnLeg_96 : decode cX1_bestSawnLeg 96 = .ok (.aload_n 0, 1) := by decide +kernel
theorem dX1_bestSawnLeg_97 : decode cX1_bestSawnLeg 97 = .ok (.getfield 27, 3) := by decide +kernel
theorem dX1_bestSawnLeg_100 : decode cX1_bestSawnLeg 100 = .ok (.iload_n 1, 1) := by decide +kernel
theorem dX1_bestSawnLeg_101 : decode cX1_bestSawnLeg 101 = .ok (.iconst 4, 1) := by decide +kernel
theorem dX1_bestSawnLeg_102 : decode cX1_bestSawnLeg 102 = .ok (.imul, 1) := by decide +kernel
theorem dX1_bestSawnLeg_103 : decode cX1_bestSawnLeg 103 = .ok (.iload 5, 2) := by decide +kernel
theorem dX1_bestSawnLeg_105 : decode cX1_bestSawnLeg 105 = .ok (.iadd, 1) := by decide +kernel
theorem dX1_bestSawnLeg_106 : decode cX1_bestSawnLeg 106 = .ok (.iload 6, 2) := by decide +kernel
theorem dX1_bestSawnLeg_108 : decode cX1_bestSawnLeg 108 = .ok (.invokestatic 56, 3) := by decide +kernel
theorem dX1_bestSawnLeg_111 : decode cX1_bestSawnLeg 111 = .ok (.iinc 5 1, 3) := by decide +kernel
theorem dX1_bestSawnLeg_114 : decode cX1_bestSawnLeg 114 = .ok (.goto (-100), 3) := by decide +kernel
theorem dX1_bestSawnLeg_117 : decode cX1_bestSawnLeg 117 = .ok (.iload_n 3, 1) := by decide +kernel
theorem dX1_bestSawnLeg_118 : decode cX1_bestSawnLeg 118 = .ok (.ireturn, 1) := by decide +kernel
theorem dX2_init_0 : decode cX2_init 0 = .ok (.aload_n 0, 1) := by decide +kernel
theorem dX2_init_1 : decode cX2_init 1 = .ok (.invokespecial 3, 3) := by decide +kernel
theorem dX2_init_4 : decode cX2_init 4 = .ok (.aload_n 0, 1) := by decide +kernel
theorem dX2_init_5 : decode cX2_init 5 = .ok (.bipush 120, 2) := by decide +kernel
theorem dX2_init_7 : decode cX2_init 7 = .ok (.newarray .int, 2) := by decide +kernel
theorem dX2_init_9 : decode cX2_init 9 = .ok (.putfield 9, 3) := by decide +kernel
theorem dX2_init_12 : decode cX2_init 12 = .ok (.aload_n 0, 1) := by decide +kernel
theorem dX2_init_13 : decode cX2_init 13 = .ok (.iconst 0, 1) := by decide +kernel
theorem dX2_init_14 : decode cX2_init 14 = .ok (.putfield 15, 3) := by decide +kernel
theorem dX2_init_17 : decode cX2_init 17 = .ok (.aload_n 0, 1) := by decide +kernel
theorem dX2_init_18 : decode cX2_init 18 = .ok (.iconst 0, 1) := by decide +kernel
theorem dX2_init_19 : decode cX2_init 19 = .ok (.putfield 19, 3) := by decide +kernel
theorem dX2_init_22 : decode cX2_init 22 = .ok (.aload_n 0, 1) := by decide +kernel
theorem dX2_init_23 : decode cX2_init 23 = .ok (.iconst (-1), 1) := by decide +kernel
theorem dX2_init_24 : decode cX2_init 24 = .ok (.putfield 22, 3) := by decide +kernel
theorem dX2_init_27 : decode cX2_init 27 = .ok (.aload_n 0, 1) := by decide +kernel
theorem dX2_init_28 : decode cX2_init 28 = .ok (.iconst 4, 1) := by decide +kernel
theorem dX2_init_29 : decode cX2_init 29 = .ok (.newarray .int, 2) := by decide +kernel
theorem dX2_init_31 : decode cX2_init 31 = .ok (.putfield 25, 3) := by decide +kernel
theorem dX2_init_34 : decode cX2_init 34 = .ok (.return_, 1) := by decide +kernel
theorem dX2_isFull_0 : decode cX2_isFull 0 = .ok (.aload_n 0, 1) := by decide +kernel
theorem dX2_isFull_1 : decode cX2_isFull 1 = .ok (.getfield 15, 3) := by decide +kernel
theorem dX2_isFull_4 : decode cX2_isFull 4 = .ok (.bipush 120, 2) := by decide +kernel
theorem dX2_isFull_6 : decode cX2_isFull 6 = .ok (.if_icmp .lt 7, 3) := by decide +kernel
theorem dX2_isFull_9 : decode cX2_isFull 9 = .ok (.iconst 1, 1) := by decide +kernel
theorem dX2_isFull_10 : decode cX2_isFull 10 = .ok (.goto 4, 3) := by decide +kernel
theorem dX2_isFull_13 : decode cX2_isFull 13 = .ok (.iconst 0, 1) := by decide +kernel
theorem dX2_isFull_14 : decode cX2_isFull 14 = .ok (.ireturn, 1) := by decide +kernel
theorem dX2_add_0 : decode cX2_add 0 = .ok (.aload_n 0, 1) := by decide +kernel
theorem dX2_add_1 : decode cX2_add 1 = .ok (.getfield 9, 3) := by decide +kernel
theorem dX2_add_4 : decode cX2_add 4 = .ok (.aload_n 0, 1) := by decide +kernel
theorem dX2_add_5 : decode cX2_add 5 = .ok (.getfield 15, 3) := by decide +kernel
theorem dX2_add_8 : decode cX2_add 8 = .ok (.iload_n 1, 1) := by decide +kernel
theorem dX2_add_9 : decode cX2_add 9 = .ok (.invokestatic 28, 3) := by decide +kernel
theorem dX2_add_12 : decode cX2_add 12 = .ok (.aload_n 0, 1) := by decide +kernel
theorem dX2_add_13 : decode cX2_add 13 = .ok (.dup, 1) := by decide +kernel
theorem dX2_add_14 : decode cX2_add 14 = .ok (.getfield 15, 3) := by decide +kernel
theorem dX2_add_17 : decode cX2_add 17 = .ok (.iconst 1, 1) := by decide +kernel
theorem dX2_add_18 : decode cX2_add 18 = .ok (.iadd, 1) := by decide +kernel
theorem dX2_add_19 : decode cX2_add 19 = .ok (.putfield 15, 3) := by decide +kernel
theorem dX2_add_22 : decode cX2_add 22 = .ok (.aload_n 0, 1) := by decide +kernel
theorem dX2_add_23 : decode cX2_add 23 = .ok (.getfield 15, 3) := by decide +kernel
theorem dX2_add_26 : decode cX2_add 26 = .ok (.ireturn, 1) := by decide +kernel
theorem dX2_firstError_0 : decode cX2_firstError 0 = .ok (.aload_n 0, 1) := by decide +kernel
theorem dX2_firstError_1 : decode cX2_firstError 1 = .ok (.iconst 0, 1) := by decide +kernel
theorem dX2_firstError_2 : decode cX2_firstError 2 = .ok (.invokevirtual 32, 3) := by decide +kernel
theorem dX2_firstError_5 : decode cX2_firstError 5 = .ok (.bipush 75, 2) := by decide +kernel
theorem dX2_firstError_7 : decode cX2_firstError 7 = .ok (.if_icmp .eq 5, 3) := by decide +kernel
theorem dX2_firstError_10 : decode cX2_firstError 10 = .ok (.iconst 0, 1) := by decide +kernel
theorem dX2_firstError_11 : decode cX2_firstError 11 = .ok (.ireturn, 1) := by decide +kernel
theorem dX2_firstError_12 : decode cX2_firstError 12 = .ok (.aload_n 0, 1) := by decide +kernel
theorem dX2_firstError_13 : decode cX2_firstError 13 = .ok (.invokevirtual 36, 3) := by decide +kernel
theorem dX2_firstError_16 : decode cX2_firstError 16 = .ok (.iconst 0, 1) := by decide +kernel
theorem dX2_firstError_17 : decode cX2_firstError 17 = .ok (.istore_n 1, 1) := by decide +kernel
theorem dX2_firstError_18 : decode cX2_firstError 18 = .ok (.iload_n 1, 1) := by decide +kernel
theorem dX2_firstError_19 : decode cX2_firstError 19 = .ok (.bipush 120, 2) := by decide +kernel
theorem dX2_firstError_21 : decode cX2_firstError 21 = .ok (.if_icmp .ge 32, 3) := by decide +kernel
theorem dX2_firstError_24 : decode cX2_firstError 24 = .ok (.aload_n 0, 1) := by decide +kernel
theorem dX2_firstError_25 : decode cX2_firstError 25 = .ok (.getfield 19, 3) := by decide +kernel
theorem dX2_firstError_28 : decode cX2_firstError 28 = .ok (.aload_n 0, 1) := by decide +kernel
theorem dX2_firstError_29 : decode cX2_firstError 29 = .ok (.getfield 15, 3) := by decide +kernel
theorem dX2_firstError_32 : decode cX2_firstError 32 = .ok (.if_icmp .ge 21, 3) := by decide +kernel
theorem dX2_firstError_35 : decode cX2_firstError 35 = .ok (.aload_n 0, 1) := by decide +kernel
theorem dX2_firstError_36 : decode cX2_firstError 36 = .ok (.invokevirtual 39, 3) := by decide +kernel
theorem dX2_firstError_39 : decode cX2_firstError 39 = .ok (.ifCond .ne 8, 3) := by decide +kernel
theorem dX2_firstError_42 : decode cX2_firstError 42 = .ok (.aload_n 0, 1) := by decide +kernel
theorem dX2_firstError_43 : decode cX2_firstError 43 = .ok (.getfield 19, 3) := by decide +kernel
theorem dX2_firstError_46 : decode cX2_firstError 46 = .ok (.ireturn, 1) := by decide +kernel
theorem dX2_firstError_47 : decode cX2_firstError 47 = .ok (.iinc 1 1, 3) := by decide +kernel
theorem dX2_firstError_50 : decode cX2_firstError 50 = .ok (.goto (-32), 3) := by decide +kernel
theorem dX2_firstError_53 : decode cX2_firstError 53 = .ok (.iconst (-1), 1) := by decide +kernel
theorem dX2_firstError_54 : decode cX2_firstError 54 = .ok (.ireturn, 1) := by decide +kernel
theorem dX2_goToCommands_0 : decode cX2_goToCommands 0 = .ok (.aload_n 0, 1) := by decide +kernel
theorem dX2_goToCommands_1 : decode cX2_goToCommands 1 = .ok (.iconst 1, 1) := by decide +kernel
theorem dX2_goToCommands_2 : decode cX2_goToCommands 2 = .ok (.putfield 19, 3) := by decide +kernel
theorem dX2_goToCommands_5 : decode cX2_goToCommands 5 = .ok (.return_, 1) := by decide +kernel
theorem dX2_codeAt_0 : decode cX2_codeAt 0 = .ok (.iload_n 1, 1) := by decide +kernel
theorem dX2_codeAt_1 : decode cX2_codeAt 1 = .ok (.aload_n 0, 1) := by decide +kernel
theorem dX2_codeAt_2 : decode cX2_codeAt 2 = .ok (.getfield 15, 3) := by decide +kernel
theorem dX2_codeAt_5 : decode cX2_codeAt 5 = .ok (.if_icmp .ge 14, 3) := by decide +kernel
theorem dX2_codeAt_8 : decode cX2_codeAt 8 = .ok (.aload_n 0, 1) := by decide +kernel
theorem dX2_codeAt_9 : decode cX2_codeAt 9 = .ok (.getfield 9, 3) := by decide +kernel
theorem dX2_codeAt_12 : decode cX2_codeAt 12 = .ok (.iload_n 1, 1) := by decide +kernel
theorem dX2_codeAt_13 : decode cX2_codeAt 13 = .ok (.invokestatic 43, 3) := by decide +kernel
theorem dX2_codeAt_16 : decode cX2_codeAt 16 = .ok (.goto 4, 3) := by decide +kernel
theorem dX2_codeAt_19 : decode cX2_codeAt 19 = .ok (.iconst (-1), 1) := by decide +kernel
theorem dX2_codeAt_20 : decode cX2_codeAt 20 = .ok (.ireturn, 1) := by decide +kernel
theorem dX2_readCommand_0 : decode cX2_readCommand 0 = .ok (.aload_n 0, 1) := by decide +kernel
theorem dX2_readCommand_1 : decode cX2_readCommand 1 = .ok (.aload_n 0, 1) := by decide +kernel
theorem dX2_readCommand_2 : decode cX2_readCommand 2 = .ok (.aload_n 0, 1) := by decide +kernel
theorem dX2_readCommand_3 : decode cX2_readCommand 3 = .ok (.getfield 19, 3) := by decide +kernel
theorem dX2_readCommand_6 : decode cX2_readCommand 6 = .ok (.invokevirtual 32, 3) := by decide +kernel
theorem dX2_readCommand_9 : decode cX2_readCommand 9 = .ok (.putfield 22, 3) := by decide +kernel
theorem dX2_readCommand_12 : decode cX2_readCommand 12 = .ok (.aload_n 0, 1) := by decide +kernel
theorem dX2_readCommand_13 : decode cX2_readCommand 13 = .ok (.getfield 22, 3) := by decide +kernel
theorem dX2_readCommand_16 : decode cX2_readCommand 16 = .ok (.iconst (-1), 1) := by decide +kernel
theorem dX2_readCommand_17 : decode cX2_readCommand 17 = .ok (.if_icmp .ne 7, 3) := by decide +kernel
theorem dX2_readCommand_20 : decode cX2_readCommand 20 = .ok (.iconst (-1), 1) := by decide +kernel
theorem dX2_readCommand_21 : decode cX2_readCommand 21 = .ok (.goto 13, 3) := by decide +kernel
theorem dX2_readCommand_24 : decode cX2_readCommand 24 = .ok (.ldc 47, 2) := by decide +kernel
theorem dX2_readCommand_26 : decode cX2_readCommand 26 = .ok (.aload_n 0, 1) := by decide +kernel
theorem dX2_readCommand_27 : decode cX2_readCommand 27 = .ok (.getfield 22, 3) := by decide +kernel
theorem dX2_readCommand_30 : decode cX2_readCommand 30 = .ok (.i2c, 1) := by decide +kernel
theorem dX2_readCommand_31 : decode cX2_readCommand 31 = .ok (.invokevirtual 49, 3) := by decide +kernel
theorem dX2_readCommand_34 : decode cX2_readCommand 34 = .ok (.istore_n 1, 1) := by decide +kernel
theorem dX2_readCommand_35 : decode cX2_readCommand 35 = .ok (.iload_n 1, 1) := by decide +kernel
theorem dX2_readCommand_36 : decode cX2_readCommand 36 = .ok (.iconst (-1), 1) := by decide +kernel
theorem dX2_readCommand_37 : decode cX2_readCommand 37 = .ok (.if_icmp .ne 5, 3) := by decide +kernel
theorem dX2_readCommand_40 : decode cX2_readCommand 40 = .ok (.iconst 0, 1) := by decide +kernel
theorem dX2_readCommand_41 : decode cX2_readCommand 41 = .ok (.ireturn, 1) := by decide +kernel
theorem dX2_readCommand_42 : decode cX2_readCommand 42 = .ok (.aload_n 0, 1) := by decide +kernel
theorem dX2_readCommand_43 : decode cX2_readCommand 43 = .ok (.dup, 1) := by decide +kernel
theorem dX2_readCommand_44 : decode cX2_readCommand 44 = .ok (.getfield 19, 3) := by decide +kernel
theorem dX2_readCommand_47 : decode cX2_readCommand 47 = .ok (.iconst 1, 1) := by decide +kernel
theorem dX2_readCommand_48 : decode cX2_readCommand 48 = .ok (.iadd, 1) := by decide +kernel
theorem dX2_readCommand_49 : decode cX2_readCommand 49 = .ok (.putfield 19, 3) := by decide +kernel
theorem dX2_readCommand_52 : decode cX2_readCommand 52 = .ok (.iconst 0, 1) := by decide +kernel
theorem dX2_readCommand_53 : decode cX2_readCommand 53 = .ok (.istore_n 2, 1) := by decide +kernel
theorem dX2_readCommand_54 : decode cX2_readCommand 54 = .ok (.iload_n 2, 1) := by decide +kernel
theorem dX2_readCommand_55 : decode cX2_readCommand 55 = .ok (.iconst 4, 1) := by decide +kernel
theorem dX2_readCommand_56 : decode cX2_readCommand 56 = .ok (.if_icmp .ge 66, 3) := by decide +kernel
theorem dX2_readCommand_59 : decode cX2_readCommand 59 = .ok (.iload_n 1, 1) := by decide +kernel
theorem dX2_readCommand_60 : decode cX2_readCommand 60 = .ok (.iconst 4, 1) := by decide +kernel
theorem dX2_readCommand_61 : decode cX2_readCommand 61 = .ok (.imul, 1) := by decide +kernel
theorem dX2_readCommand_62 : decode cX2_readCommand 62 = .ok (.iload_n 2, 1) := by decide +kernel
theorem dX2_readCommand_63 : decode cX2_readCommand 63 = .ok (.iadd, 1) := by decide +kernel
theorem dX2_readCommand_64 : decode cX2_readCommand 64 = .ok (.iconst 3, 1) := by decide +kernel
theorem dX2_readCommand_65 : decode cX2_readCommand 65 = .ok (.imul, 1) := by decide +kernel
theorem dX2_readCommand_66 : decode cX2_readCommand 66 = .ok (.istore_n 3, 1) := by decide +kernel
theorem dX2_readCommand_67 : decode cX2_readCommand 67 = .ok (.aload_n 0, 1) := by decide +kernel
theorem dX2_readCommand_68 : decode cX2_readCommand 68 = .ok (.getstatic 54, 3) := by decide +kernel
theorem dX2_readCommand_71 : decode cX2_readCommand 71 = .ok (.iload_n 3, 1) := by decide +kernel
theorem dX2_readCommand_72 : decode cX2_readCommand 72 = .ok (.invokestatic 43, 3) := by decide +kernel
theorem dX2_readCommand_75 : decode cX2_readCommand 75 = .ok (.getstatic 54, 3) := by decide +kernel
theorem dX2_readCommand_78 : decode cX2_readCommand 78 = .ok (.iload_n 3, 1) := by decide +kernel
theorem dX2_readCommand_79 : decode cX2_readCommand 79 = .ok (.iconst 1, 1) := by decide +kernel
theorem dX2_readCommand_80 : decode cX2_readCommand 80 = .ok (.iadd, 1) := by decide +kernel
theorem dX2_readCommand_81 : decode cX2_readCommand 81 = .ok (.invokestatic 43, 3) := by decide +kernel
theorem dX2_readCommand_84 : decode cX2_readCommand 84 = .ok (.getstatic 54, 3) := by decide +kernel
theorem dX2_readCommand_87 : decode cX2_readCommand 87 = .ok (.iload_n 3, 1) := by decide +kernel
theorem dX2_readCommand_88 : decode cX2_readCommand 88 = .ok (.iconst 2, 1) := by decide +kernel
theorem dX2_readCommand_89 : decode cX2_readCommand 89 = .ok (.iadd, 1) := by decide +kernel
theorem dX2_readCommand_90 : decode cX2_readCommand 90 = .ok (.invokestatic 43, 3) := by decide +kernel
theorem dX2_readCommand_93 : decode cX2_readCommand 93 = .ok (.invokevirtual 57, 3) := by decide +kernel
theorem dX2_readCommand_96 : decode cX2_readCommand 96 = .ok (.istore 4, 2) := by decide +kernel
theorem dX2_readCommand_98 : decode cX2_readCommand 98 = .ok (.iload 4, 2) := by decide +kernel
theorem dX2_readCommand_100 : decode cX2_readCommand 100 = .ok (.iconst (-1), 1) := by decide +kernel
theorem dX2_readCommand_101 : decode cX2_readCommand 101 = .ok (.if_icmp .ne 5, 3) := by decide +kernel
theorem dX2_readCommand_104 : decode cX2_readCommand 104 = .ok (.iconst 0, 1) := by decide +kernel
theorem dX2_readCommand_105 : decode cX2_readCommand 105 = .ok (.ireturn, 1) := by decide +kernel
theorem dX2_readCommand_106 : decode cX2_readCommand 106 = .ok (.aload_n 0, 1) := by decide +kernel
theorem dX2_readCommand_107 : decode cX2_readCommand 107 = .ok (.getfield 25, 3) := by decide +kernel
theorem dX2_readCommand_110 : decode cX2_readCommand 110 = .ok (.iload_n 2, 1) := by decide +kernel
theorem dX2_readCommand_111 : decode cX2_readCommand 111 = .ok (.iload 4, 2) := by decide +kernel
theorem dX2_readCommand_113 : decode cX2_readCommand 113 = .ok (.invokestatic 28, 3) := by decide +kernel
theorem dX2_readCommand_116 : decode cX2_readCommand 116 = .ok (.iinc 2 1, 3) := by decide +kernel
theorem dX2_readCommand_119 : decode cX2_readCommand 119 = .ok (.goto (-65), 3) := by decide +kernel
theorem dX2_readCommand_122 : decode cX2_readCommand 122 = .ok (.iconst 1, 1) := by decide +kernel
theorem dX2_readCommand_123 : decode cX2_readCommand 123 = .ok (.ireturn, 1) := by decide +kernel
theorem dX2_readNumber_0 : decode cX2_readNumber 0 = .ok (.iconst 1, 1) := by decide +kernel
theorem dX2_readNumber_1 : decode cX2_readNumber 1 = .ok (.istore 4, 2) := by decide +kernel
theorem dX2_readNumber_3 : decode cX2_readNumber 3 = .ok (.iconst 1, 1) := by decide +kernel
theorem dX2_readNumber_4 : decode cX2_readNumber 4 = .ok (.istore 5, 2) := by decide +kernel
theorem dX2_readNumber_6 : decode cX2_readNumber 6 = .ok (.iload 5, 2) := by decide +kernel
theorem dX2_readNumber_8 : decode cX2_readNumber 8 = .ok (.iload_n 1, 1) := by decide +kernel
theorem dX2_readNumber_9 : decode cX2_readNumber 9 = .ok (.if_icmp .ge 16, 3) := by decide +kernel
theorem dX2_readNumber_12 : decode cX2_readNumber 12 = .ok (.iload 4, 2) := by decide +kernel
theorem dX2_readNumber_14 : decode cX2_readNumber 14 = .ok (.bipush 10, 2) := by decide +kernel
theorem dX2_readNumber_16 : decode cX2_readNumber 16 = .ok (.imul, 1) := by decide +kernel
theorem dX2_readNumber_17 : decode cX2_readNumber 17 = .ok (.istore 4, 2) := by decide +kernel
theorem dX2_readNumber_19 : decode cX2_readNumber 19 = .ok (.iinc 5 1, 3) := by decide +kernel
theorem dX2_readNumber_22 : decode cX2_readNumber 22 = .ok (.goto (-16), 3) := by decide +kernel
theorem dX2_readNumber_25 : decode cX2_readNumber 25 = .ok (.iconst 0, 1) := by decide +kernel
theorem dX2_readNumber_26 : decode cX2_readNumber 26 = .ok (.istore 5, 2) := by decide +kernel
theorem dX2_readNumber_28 : decode cX2_readNumber 28 = .ok (.iconst 0, 1) := by decide +kernel
theorem dX2_readNumber_29 : decode cX2_readNumber 29 = .ok (.istore 6, 2) := by decide +kernel
theorem dX2_readNumber_31 : decode cX2_readNumber 31 = .ok (.iload 6, 2) := by decide +kernel
theorem dX2_readNumber_33 : decode cX2_readNumber 33 = .ok (.iload_n 1, 1) := by decide +kernel
theorem dX2_readNumber_34 : decode cX2_readNumber 34 = .ok (.if_icmp .ge 82, 3) := by decide +kernel
theorem dX2_readNumber_37 : decode cX2_readNumber 37 = .ok (.aload_n 0, 1) := by decide +kernel
theorem dX2_readNumber_38 : decode cX2_readNumber 38 = .ok (.aload_n 0, 1) := by decide +kernel
theorem dX2_readNumber_39 : decode cX2_readNumber 39 = .ok (.getfield 19, 3) := by decide +kernel
theorem dX2_readNumber_42 : decode cX2_readNumber 42 = .ok (.invokevirtual 32, 3) := by decide +kernel
theorem dX2_readNumber_45 : decode cX2_readNumber 45 = .ok (.istore 7, 2) := by decide +kernel
theorem dX2_readNumber_47 : decode cX2_readNumber 47 = .ok (.iload 7, 2) := by decide +kernel
theorem dX2_readNumber_49 : decode cX2_readNumber 49 = .ok (.bipush 48, 2) := by decide +kernel
theorem dX2_readNumber_51 : decode cX2_readNumber 51 = .ok (.bipush 57, 2) := by decide +kernel
theorem dX2_readNumber_53 : decode cX2_readNumber 53 = .ok (.invokestatic 61, 3) := by decide +kernel
theorem dX2_readNumber_56 : decode cX2_readNumber 56 = .ok (.ifCond .ne 5, 3) := by decide +kernel
theorem dX2_readNumber_59 : decode cX2_readNumber 59 = .ok (.iconst (-1), 1) := by decide +kernel
theorem dX2_readNumber_60 : decode cX2_readNumber 60 = .ok (.ireturn, 1) := by decide +kernel
theorem dX2_readNumber_61 : decode cX2_readNumber 61 = .ok (.iload 5, 2) := by decide +kernel
theorem dX2_readNumber_63 : decode cX2_readNumber 63 = .ok (.iload 7, 2) := by decide +kernel
theorem dX2_readNumber_65 : decode cX2_readNumber 65 = .ok (.bipush 48, 2) := by decide +kernel
theorem dX2_readNumber_67 : decode cX2_readNumber 67 = .ok (.isub, 1) := by decide +kernel
theorem dX2_readNumber_68 : decode cX2_readNumber 68 = .ok (.iload 4, 2) := by decide +kernel
theorem dX2_readNumber_70 : decode cX2_readNumber 70 = .ok (.imul, 1) := by decide +kernel
theorem dX2_readNumber_71 : decode cX2_readNumber 71 = .ok (.iadd, 1) := by decide +kernel
theorem dX2_readNumber_72 : decode cX2_readNumber 72 = .ok (.istore 5, 2) := by decide +kernel
theorem dX2_readNumber_74 : decode cX2_readNumber 74 = .ok (.iload 5, 2) := by decide +kernel
theorem dX2_readNumber_76 : decode cX2_readNumber 76 = .ok (.iload_n 3, 1) := by decide +kernel
theorem dX2_readNumber_77 : decode cX2_readNumber 77 = .ok (.if_icmp .gt 14, 3) := by decide +kernel
theorem dX2_readNumber_80 : decode cX2_readNumber 80 = .ok (.iload 5, 2) := by decide +kernel
theorem dX2_readNumber_82 : decode cX2_readNumber 82 = .ok (.iload 4, 2) := by decide +kernel
theorem dX2_readNumber_84 : decode cX2_readNumber 84 = .ok (.iadd, 1) := by decide +kernel
theorem dX2_readNumber_85 : decode cX2_readNumber 85 = .ok (.iconst 1, 1) := by decide +kernel
theorem dX2_readNumber_86 : decode cX2_readNumber 86 = .ok (.isub, 1) := by decide +kernel
theorem dX2_readNumber_87 : decode cX2_readNumber 87 = .ok (.iload_n 2, 1) := by decide +kernel
theorem dX2_readNumber_88 : decode cX2_readNumber 88 = .ok (.if_icmp .ge 5, 3) := by decide +kernel
theorem dX2_readNumber_91 : decode cX2_readNumber 91 = .ok (.iconst (-1), 1) := by decide +kernel
theorem dX2_readNumber_92 : decode cX2_readNumber 92 = .ok (.ireturn, 1) := by decide +kernel
theorem dX2_readNumber_93 : decode cX2_readNumber 93 = .ok (.iload 4, 2) := by decide +kernel
theorem dX2_readNumber_95 : decode cX2_readNumber 95 = .ok (.bipush 10, 2) := by decide +kernel
theorem dX2_readNumber_97 : decode cX2_readNumber 97 = .ok (.idiv, 1) := by decide +kernel
theorem dX2_readNumber_98 : decode cX2_readNumber 98 = .ok (.istore 4, 2) := by decide +kernel
theorem dX2_readNumber_100 : decode cX2_readNumber 100 = .ok (.aload_n 0, 1) := by decide +kernel
theorem dX2_readNumber_101 : decode cX2_readNumber 101 = .ok (.dup, 1) := by decide +kernel
theorem dX2_readNumber_102 : decode cX2_readNumber 102 = .ok (.getfield 19, 3) := by decide +kernel
theorem dX2_readNumber_105 : decode cX2_readNumber 105 = .ok (.iconst 1, 1) := by decide +kernel
theorem dX2_readNumber_106 : decode cX2_readNumber 106 = .ok (.iadd, 1) := by decide +kernel
theorem dX2_readNumber_107 : decode cX2_readNumber 107 = .ok (.putfield 19, 3) := by decide +kernel
theorem dX2_readNumber_110 : decode cX2_readNumber 110 = .ok (.iinc 6 1, 3) := by decide +kernel
theorem dX2_readNumber_113 : decode cX2_readNumber 113 = .ok (.goto (-82), 3) := by decide +kernel
theorem dX2_readNumber_116 : decode cX2_readNumber 116 = .ok (.iload 5, 2) := by decide +kernel
theorem dX2_readNumber_118 : decode cX2_readNumber 118 = .ok (.ireturn, 1) := by decide +kernel
theorem dX3_init_0 : decode cX3_init 0 = .ok (.aload_n 0, 1) := by decide +kernel
theorem dX3_init_1 : decode cX3_init 1 = .ok (.invokespecial 1, 3) := by decide +kernel
theorem dX3_init_4 : decode cX3_init 4 = .ok (.aload_n 0, 1) := by decide +kernel
theorem dX3_init_5 : decode cX3_init 5 = .ok (.new 7, 3) := by decide +kernel
theorem dX3_init_8 : decode cX3_init 8 = .ok (.dup, 1) := by decide +kernel
theorem dX3_init_9 : decode cX3_init 9 = .ok (.invokespecial 9, 3) := by decide +kernel
theorem dX3_init_12 : decode cX3_init 12 = .ok (.putfield 10, 3) := by decide +kernel
theorem dX3_init_15 : decode cX3_init 15 = .ok (.aload_n 0, 1) := by decide +kernel
theorem dX3_init_16 : decode cX3_init 16 = .ok (.iconst 0, 1) := by decide +kernel
theorem dX3_init_17 : decode cX3_init 17 = .ok (.putfield 16, 3) := by decide +kernel
theorem dX3_init_20 : decode cX3_init 20 = .ok (.return_, 1) := by decide +kernel
