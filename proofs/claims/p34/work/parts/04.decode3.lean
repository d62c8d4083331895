theorem dX4_init_0 : decode cX4_init 0 = .ok (.aload_n 0, 1) := by decide +kernel
theorem dX4_init_1 : decode cX4_init 1 = .ok (.invokespecial 1, 3) := by decide +kernel
theorem dX4_init_4 : decode cX4_init 4 = .ok (.aload_n 0, 1) := by decide +kernel
theorem dX4_init_5 : decode cX4_init 5 = .ok (.new 7, 3) := by decide +kernel
theorem dX4_init_8 : decode cX4_init 8 = .ok (.dup, 1) := by decide +kernel
theorem dX4_init_9 : decode cX4_init 9 = .ok (.invokespecial 9, 3) := by decide +kernel
theorem dX4_init_12 : decode cX4_init 12 = .ok (.putfield 10, 3) := by decide +kernel
theorem dX4_init_15 : decode cX4_init 15 = .ok (.aload_n 0, 1) := by decide +kernel
theorem dX4_init_16 : decode cX4_init 16 = .ok (.new 7, 3) := by decide +kernel
theorem dX4_init_19 : decode cX4_init 19 = .ok (.dup, 1) := by decide +kernel
theorem dX4_init_20 : decode cX4_init 20 = .ok (.invokespecial 9, 3) := by decide +kernel
theorem dX4_init_23 : decode cX4_init 23 = .ok (.putfield 16, 3) := by decide +kernel
theorem dX4_init_26 : decode cX4_init 26 = .ok (.aload_n 0, 1) := by decide +kernel
theorem dX4_init_27 : decode cX4_init 27 = .ok (.new 19, 3) := by decide +kernel
theorem dX4_init_30 : decode cX4_init 30 = .ok (.dup, 1) := by decide +kernel
theorem dX4_init_31 : decode cX4_init 31 = .ok (.invokespecial 21, 3) := by decide +kernel
theorem dX4_init_34 : decode cX4_init 34 = .ok (.putfield 22, 3) := by decide +kernel
theorem dX4_init_37 : decode cX4_init 37 = .ok (.aload_n 0, 1) := by decide +kernel
theorem dX4_init_38 : decode cX4_init 38 = .ok (.new 26, 3) := by decide +kernel
theorem dX4_init_41 : decode cX4_init 41 = .ok (.dup, 1) := by decide +kernel
theorem dX4_init_42 : decode cX4_init 42 = .ok (.invokespecial 28, 3) := by decide +kernel
theorem dX4_init_45 : decode cX4_init 45 = .ok (.putfield 29, 3) := by decide +kernel
theorem dX4_init_48 : decode cX4_init 48 = .ok (.aload_n 0, 1) := by decide +kernel
theorem dX4_init_49 : decode cX4_init 49 = .ok (.new 26, 3) := by decide +kernel
theorem dX4_init_52 : decode cX4_init 52 = .ok (.dup, 1) := by decide +kernel
theorem dX4_init_53 : decode cX4_init 53 = .ok (.invokespecial 28, 3) := by decide +kernel
theorem dX4_init_56 : decode cX4_init 56 = .ok (.putfield 33, 3) := by decide +kernel
theorem dX4_init_59 : decode cX4_init 59 = .ok (.aload_n 0, 1) := by decide +kernel
theorem dX4_init_60 : decode cX4_init 60 = .ok (.new 36, 3) := by decide +kernel
theorem dX4_init_63 : decode cX4_init 63 = .ok (.dup, 1) := by decide +kernel
theorem dX4_init_64 : decode cX4_init 64 = .ok (.invokespecial 38, 3) := by decide +kernel
theorem dX4_init_67 : decode cX4_init 67 = .ok (.putfield 39, 3) := by decide +kernel
theorem dX4_init_70 : decode cX4_init 70 = .ok (.return_, 1) := by decide +kernel
theorem dX4_append_0 : decode cX4_append 0 = .ok (.iload_n 1, 1) := by decide +kernel
theorem dX4_append_1 : decode cX4_append 1 = .ok (.iconst 0, 1) := by decide +kernel
theorem dX4_append_2 : decode cX4_append 2 = .ok (.sipush 255, 3) := by decide +kernel
theorem dX4_append_5 : decode cX4_append 5 = .ok (.invokestatic 43, 3) := by decide +kernel
theorem dX4_append_8 : decode cX4_append 8 = .ok (.ifCond .ne 13, 3) := by decide +kernel
theorem dX4_append_11 : decode cX4_append 11 = .ok (.new 47, 3) := by decide +kernel
theorem dX4_append_14 : decode cX4_append 14 = .ok (.dup, 1) := by decide +kernel
theorem dX4_append_15 : decode cX4_append 15 = .ok (.ldc 49, 2) := by decide +kernel
theorem dX4_append_17 : decode cX4_append 17 = .ok (.invokespecial 51, 3) := by decide +kernel
theorem dX4_append_20 : decode cX4_append 20 = .ok (.athrow, 1) := by decide +kernel
theorem dX4_append_21 : decode cX4_append 21 = .ok (.aload_n 0, 1) := by decide +kernel
theorem dX4_append_22 : decode cX4_append 22 = .ok (.getfield 39, 3) := by decide +kernel
theorem dX4_append_25 : decode cX4_append 25 = .ok (.invokevirtual 54, 3) := by decide +kernel
theorem dX4_append_28 : decode cX4_append 28 = .ok (.ifCond .eq 13, 3) := by decide +kernel
theorem dX4_append_31 : decode cX4_append 31 = .ok (.new 58, 3) := by decide +kernel
theorem dX4_append_34 : decode cX4_append 34 = .ok (.dup, 1) := by decide +kernel
theorem dX4_append_35 : decode cX4_append 35 = .ok (.ldc 60, 2) := by decide +kernel
theorem dX4_append_37 : decode cX4_append 37 = .ok (.invokespecial 62, 3) := by decide +kernel
theorem dX4_append_40 : decode cX4_append 40 = .ok (.athrow, 1) := by decide +kernel
theorem dX4_append_41 : decode cX4_append 41 = .ok (.aload_n 0, 1) := by decide +kernel
theorem dX4_append_42 : decode cX4_append 42 = .ok (.getfield 39, 3) := by decide +kernel
theorem dX4_append_45 : decode cX4_append 45 = .ok (.iload_n 1, 1) := by decide +kernel
theorem dX4_append_46 : decode cX4_append 46 = .ok (.invokevirtual 63, 3) := by decide +kernel
theorem dX4_append_49 : decode cX4_append 49 = .ok (.ireturn, 1) := by decide +kernel
theorem dX4_load_0 : decode cX4_load 0 = .ok (.aload_n 0, 1) := by decide +kernel
theorem dX4_load_1 : decode cX4_load 1 = .ok (.getfield 39, 3) := by decide +kernel
theorem dX4_load_4 : decode cX4_load 4 = .ok (.invokevirtual 71, 3) := by decide +kernel
theorem dX4_load_7 : decode cX4_load 7 = .ok (.iconst (-1), 1) := by decide +kernel
theorem dX4_load_8 : decode cX4_load 8 = .ok (.if_icmp .eq 13, 3) := by decide +kernel
theorem dX4_load_11 : decode cX4_load 11 = .ok (.new 58, 3) := by decide +kernel
theorem dX4_load_14 : decode cX4_load 14 = .ok (.dup, 1) := by decide +kernel
theorem dX4_load_15 : decode cX4_load 15 = .ok (.ldc 74, 2) := by decide +kernel
theorem dX4_load_17 : decode cX4_load 17 = .ok (.invokespecial 62, 3) := by decide +kernel
theorem dX4_load_20 : decode cX4_load 20 = .ok (.athrow, 1) := by decide +kernel
theorem dX4_load_21 : decode cX4_load 21 = .ok (.aload_n 0, 1) := by decide +kernel
theorem dX4_load_22 : decode cX4_load 22 = .ok (.getfield 10, 3) := by decide +kernel
theorem dX4_load_25 : decode cX4_load 25 = .ok (.invokevirtual 76, 3) := by decide +kernel
theorem dX4_load_28 : decode cX4_load 28 = .ok (.aload_n 0, 1) := by decide +kernel
theorem dX4_load_29 : decode cX4_load 29 = .ok (.getfield 22, 3) := by decide +kernel
theorem dX4_load_32 : decode cX4_load 32 = .ok (.invokevirtual 79, 3) := by decide +kernel
theorem dX4_load_35 : decode cX4_load 35 = .ok (.aload_n 0, 1) := by decide +kernel
theorem dX4_load_36 : decode cX4_load 36 = .ok (.getfield 29, 3) := by decide +kernel
theorem dX4_load_39 : decode cX4_load 39 = .ok (.iconst 0, 1) := by decide +kernel
theorem dX4_load_40 : decode cX4_load 40 = .ok (.putfield 82, 3) := by decide +kernel
theorem dX4_load_43 : decode cX4_load 43 = .ok (.aload_n 0, 1) := by decide +kernel
theorem dX4_load_44 : decode cX4_load 44 = .ok (.getfield 33, 3) := by decide +kernel
theorem dX4_load_47 : decode cX4_load 47 = .ok (.iconst 0, 1) := by decide +kernel
theorem dX4_load_48 : decode cX4_load 48 = .ok (.putfield 82, 3) := by decide +kernel
theorem dX4_load_51 : decode cX4_load 51 = .ok (.iconst 0, 1) := by decide +kernel
theorem dX4_load_52 : decode cX4_load 52 = .ok (.istore_n 1, 1) := by decide +kernel
theorem dX4_load_53 : decode cX4_load 53 = .ok (.aload_n 0, 1) := by decide +kernel
theorem dX4_load_54 : decode cX4_load 54 = .ok (.getfield 39, 3) := by decide +kernel
theorem dX4_load_57 : decode cX4_load 57 = .ok (.invokevirtual 86, 3) := by decide +kernel
theorem dX4_load_60 : decode cX4_load 60 = .ok (.iconst 0, 1) := by decide +kernel
theorem dX4_load_61 : decode cX4_load 61 = .ok (.istore_n 2, 1) := by decide +kernel
theorem dX4_load_62 : decode cX4_load 62 = .ok (.iload_n 2, 1) := by decide +kernel
theorem dX4_load_63 : decode cX4_load 63 = .ok (.bipush 120, 2) := by decide +kernel
theorem dX4_load_65 : decode cX4_load 65 = .ok (.if_icmp .ge 29, 3) := by decide +kernel
theorem dX4_load_68 : decode cX4_load 68 = .ok (.aload_n 0, 1) := by decide +kernel
theorem dX4_load_69 : decode cX4_load 69 = .ok (.getfield 39, 3) := by decide +kernel
theorem dX4_load_72 : decode cX4_load 72 = .ok (.invokevirtual 89, 3) := by decide +kernel
theorem dX4_load_75 : decode cX4_load 75 = .ok (.ifCond .eq 19, 3) := by decide +kernel
theorem dX4_load_78 : decode cX4_load 78 = .ok (.aload_n 0, 1) := by decide +kernel
theorem dX4_load_79 : decode cX4_load 79 = .ok (.invokevirtual 92, 3) := by decide +kernel
theorem dX4_load_82 : decode cX4_load 82 = .ok (.ifCond .ge 6, 3) := by decide +kernel
theorem dX4_load_85 : decode cX4_load 85 = .ok (.iinc 1 1, 3) := by decide +kernel
theorem dX4_load_88 : decode cX4_load 88 = .ok (.iinc 2 1, 3) := by decide +kernel
theorem dX4_load_91 : decode cX4_load 91 = .ok (.goto (-29), 3) := by decide +kernel
theorem dX4_load_94 : decode cX4_load 94 = .ok (.iload_n 1, 1) := by decide +kernel
theorem dX4_load_95 : decode cX4_load 95 = .ok (.ireturn, 1) := by decide +kernel
theorem dX4_about_0 : decode cX4_about 0 = .ok (.iload_n 1, 1) := by decide +kernel
theorem dX4_about_1 : decode cX4_about 1 = .ok (.iconst 0, 1) := by decide +kernel
theorem dX4_about_2 : decode cX4_about 2 = .ok (.bipush 10, 2) := by decide +kernel
theorem dX4_about_4 : decode cX4_about 4 = .ok (.invokestatic 43, 3) := by decide +kernel
theorem dX4_about_7 : decode cX4_about 7 = .ok (.ifCond .ne 13, 3) := by decide +kernel
theorem dX4_about_10 : decode cX4_about 10 = .ok (.new 47, 3) := by decide +kernel
theorem dX4_about_13 : decode cX4_about 13 = .ok (.dup, 1) := by decide +kernel
theorem dX4_about_14 : decode cX4_about 14 = .ok (.ldc 95, 2) := by decide +kernel
theorem dX4_about_16 : decode cX4_about 16 = .ok (.invokespecial 51, 3) := by decide +kernel
theorem dX4_about_19 : decode cX4_about 19 = .ok (.athrow, 1) := by decide +kernel
theorem dX4_about_20 : decode cX4_about 20 = .ok (.iload_n 1, 1) := by decide +kernel
theorem dX4_about_21 : decode cX4_about 21 = .ok (.tableswitch 51 0 2 #[27, 35, 43], 27) := by decide +kernel
theorem dX4_about_48 : decode cX4_about 48 = .ok (.aload_n 0, 1) := by decide +kernel
theorem dX4_about_49 : decode cX4_about 49 = .ok (.getfield 10, 3) := by decide +kernel
theorem dX4_about_52 : decode cX4_about 52 = .ok (.getfield 97, 3) := by decide +kernel
theorem dX4_about_55 : decode cX4_about 55 = .ok (.ireturn, 1) := by decide +kernel
theorem dX4_about_56 : decode cX4_about 56 = .ok (.aload_n 0, 1) := by decide +kernel
theorem dX4_about_57 : decode cX4_about 57 = .ok (.getfield 10, 3) := by decide +kernel
theorem dX4_about_60 : decode cX4_about 60 = .ok (.getfield 101, 3) := by decide +kernel
theorem dX4_about_63 : decode cX4_about 63 = .ok (.ireturn, 1) := by decide +kernel
theorem dX4_about_64 : decode cX4_about 64 = .ok (.aload_n 0, 1) := by decide +kernel
theorem dX4_about_65 : decode cX4_about 65 = .ok (.getfield 10, 3) := by decide +kernel
theorem dX4_about_68 : decode cX4_about 68 = .ok (.invokevirtual 104, 3) := by decide +kernel
theorem dX4_about_71 : decode cX4_about 71 = .ok (.ireturn, 1) := by decide +kernel
theorem dX4_about_72 : decode cX4_about 72 = .ok (.aload_n 0, 1) := by decide +kernel
theorem dX4_about_73 : decode cX4_about 73 = .ok (.getfield 10, 3) := by decide +kernel
theorem dX4_about_76 : decode cX4_about 76 = .ok (.getfield 107, 3) := by decide +kernel
theorem dX4_about_79 : decode cX4_about 79 = .ok (.iload_n 1, 1) := by decide +kernel
theorem dX4_about_80 : decode cX4_about 80 = .ok (.invokestatic 111, 3) := by decide +kernel
theorem dX4_about_83 : decode cX4_about 83 = .ok (.ireturn, 1) := by decide +kernel
theorem dX4_chairOf_0 : decode cX4_chairOf 0 = .ok (.aload_n 0, 1) := by decide +kernel
theorem dX4_chairOf_1 : decode cX4_chairOf 1 = .ok (.iload_n 1, 1) := by decide +kernel
theorem dX4_chairOf_2 : decode cX4_chairOf 2 = .ok (.invokevirtual 115, 3) := by decide +kernel
theorem dX4_chairOf_5 : decode cX4_chairOf 5 = .ok (.iload_n 2, 1) := by decide +kernel
theorem dX4_chairOf_6 : decode cX4_chairOf 6 = .ok (.tableswitch 146 0 8 #[50, 62, 74, 86, 95, 104, 113, 125, 134], 50) := by decide +kernel
theorem dX4_chairOf_56 : decode cX4_chairOf 56 = .ok (.aload_n 0, 1) := by decide +kernel
theorem dX4_chairOf_57 : decode cX4_chairOf 57 = .ok (.getfield 10, 3) := by decide +kernel
theorem dX4_chairOf_60 : decode cX4_chairOf 60 = .ok (.getfield 119, 3) := by decide +kernel
theorem dX4_chairOf_63 : decode cX4_chairOf 63 = .ok (.iload_n 1, 1) := by decide +kernel
theorem dX4_chairOf_64 : decode cX4_chairOf 64 = .ok (.invokestatic 111, 3) := by decide +kernel
theorem dX4_chairOf_67 : decode cX4_chairOf 67 = .ok (.ireturn, 1) := by decide +kernel
theorem dX4_chairOf_68 : decode cX4_chairOf 68 = .ok (.aload_n 0, 1) := by decide +kernel
theorem dX4_chairOf_69 : decode cX4_chairOf 69 = .ok (.getfield 10, 3) := by decide +kernel
theorem dX4_chairOf_72 : decode cX4_chairOf 72 = .ok (.getfield 122, 3) := by decide +kernel
theorem dX4_chairOf_75 : decode cX4_chairOf 75 = .ok (.iload_n 1, 1) := by decide +kernel
theorem dX4_chairOf_76 : decode cX4_chairOf 76 = .ok (.invokestatic 111, 3) := by decide +kernel
theorem dX4_chairOf_79 : decode cX4_chairOf 79 = .ok (.ireturn, 1) := by decide +kernel
theorem dX4_chairOf_80 : decode cX4_chairOf 80 = .ok (.aload_n 0, 1) := by decide +kernel
theorem dX4_chairOf_81 : decode cX4_chairOf 81 = .ok (.getfield 10, 3) := by decide +kernel
theorem dX4_chairOf_84 : decode cX4_chairOf 84 = .ok (.getfield 125, 3) := by decide +kernel
theorem dX4_chairOf_87 : decode cX4_chairOf 87 = .ok (.iload_n 1, 1) := by decide +kernel
theorem dX4_chairOf_88 : decode cX4_chairOf 88 = .ok (.invokestatic 111, 3) := by decide +kernel
theorem dX4_chairOf_91 : decode cX4_chairOf 91 = .ok (.ireturn, 1) := by decide +kernel
theorem dX4_chairOf_92 : decode cX4_chairOf 92 = .ok (.aload_n 0, 1) := by decide +kernel
theorem dX4_chairOf_93 : decode cX4_chairOf 93 = .ok (.getfield 10, 3) := by decide +kernel
theorem dX4_chairOf_96 : decode cX4_chairOf 96 = .ok (.iload_n 1, 1) := by decide +kernel
theorem dX4_chairOf_97 : decode cX4_chairOf 97 = .ok (.invokevirtual 128, 3) := by decide +kernel
theorem dX4_chairOf_100 : decode cX4_chairOf 100 = .ok (.ireturn, 1) := by decide +kernel
theorem dX4_chairOf_101 : decode cX4_chairOf 101 = .ok (.aload_n 0, 1) := by decide +kernel
theorem dX4_chairOf_102 : decode cX4_chairOf 102 = .ok (.getfield 10, 3) := by decide +kernel
theorem dX4_chairOf_105 : decode cX4_chairOf 105 = .ok (.iload_n 1, 1) := by decide +kernel
theorem dX4_chairOf_106 : decode cX4_chairOf 106 = .ok (.invokevirtual 131, 3) := by decide +kernel
theorem dX4_chairOf_109 : decode cX4_chairOf 109 = .ok (.ireturn, 1) := by decide +kernel
theorem dX4_chairOf_110 : decode cX4_chairOf 110 = .ok (.aload_n 0, 1) := by decide +kernel
theorem dX4_chairOf_111 : decode cX4_chairOf 111 = .ok (.getfield 10, 3) := by decide +kernel
theorem dX4_chairOf_114 : decode cX4_chairOf 114 = .ok (.iload_n 1, 1) := by decide +kernel
theorem dX4_chairOf_115 : decode cX4_chairOf 115 = .ok (.invokevirtual 134, 3) := by decide +kernel
theorem dX4_chairOf_118 : decode cX4_chairOf 118 = .ok (.ireturn, 1) := by decide +kernel
theorem dX4_chairOf_119 : decode cX4_chairOf 119 = .ok (.aload_n 0, 1) := by decide +kernel
theorem dX4_chairOf_120 : decode cX4_chairOf 120 = .ok (.getfield 10, 3) := by decide +kernel
theorem dX4_chairOf_123 : decode cX4_chairOf 123 = .ok (.getfield 137, 3) := by decide +kernel
theorem dX4_chairOf_126 : decode cX4_chairOf 126 = .ok (.iload_n 1, 1) := by decide +kernel
theorem dX4_chairOf_127 : decode cX4_chairOf 127 = .ok (.invokestatic 111, 3) := by decide +kernel
theorem dX4_chairOf_130 : decode cX4_chairOf 130 = .ok (.ireturn, 1) := by decide +kernel
theorem dX4_chairOf_131 : decode cX4_chairOf 131 = .ok (.aload_n 0, 1) := by decide +kernel
theorem dX4_chairOf_132 : decode cX4_chairOf 132 = .ok (.getfield 10, 3) := by decide +kernel
theorem dX4_chairOf_135 : decode cX4_chairOf 135 = .ok (.iload_n 1, 1) := by decide +kernel
theorem dX4_chairOf_136 : decode cX4_chairOf 136 = .ok (.invokevirtual 140, 3) := by decide +kernel
theorem dX4_chairOf_139 : decode cX4_chairOf 139 = .ok (.ireturn, 1) := by decide +kernel
theorem dX4_chairOf_140 : decode cX4_chairOf 140 = .ok (.aload_n 0, 1) := by decide +kernel
theorem dX4_chairOf_141 : decode cX4_chairOf 141 = .ok (.getfield 10, 3) := by decide +kernel
theorem dX4_chairOf_144 : decode cX4_chairOf 144 = .ok (.getfield 143, 3) := by decide +kernel
theorem dX4_chairOf_147 : decode cX4_chairOf 147 = .ok (.iload_n 1, 1) := by decide +kernel
theorem dX4_chairOf_148 : decode cX4_chairOf 148 = .ok (.invokestatic 111, 3) := by decide +kernel
theorem dX4_chairOf_151 : decode cX4_chairOf 151 = .ok (.ireturn, 1) := by decide +kernel
theorem dX4_chairOf_152 : decode cX4_chairOf 152 = .ok (.new 47, 3) := by decide +kernel
theorem dX4_chairOf_155 : decode cX4_chairOf 155 = .ok (.dup, 1) := by decide +kernel
theorem dX4_chairOf_156 : decode cX4_chairOf 156 = .ok (.ldc 146, 2) := by decide +kernel
theorem dX4_chairOf_158 : decode cX4_chairOf 158 = .ok (.invokespecial 51, 3) := by decide +kernel
theorem dX4_chairOf_161 : decode cX4_chairOf 161 = .ok (.athrow, 1) := by decide +kernel
theorem dX4_wobble_0 : decode cX4_wobble 0 = .ok (.aload_n 0, 1) := by decide +kernel
theorem dX4_wobble_1 : decode cX4_wobble 1 = .ok (.iload_n 1, 1) := by decide +kernel
theorem dX4_wobble_2 : decode cX4_wobble 2 = .ok (.invokevirtual 115, 3) := by decide +kernel
theorem dX4_wobble_5 : decode cX4_wobble 5 = .ok (.iload_n 2, 1) := by decide +kernel
theorem dX4_wobble_6 : decode cX4_wobble 6 = .ok (.iconst 0, 1) := by decide +kernel
theorem dX4_wobble_7 : decode cX4_wobble 7 = .ok (.iconst 1, 1) := by decide +kernel
theorem dX4_wobble_8 : decode cX4_wobble 8 = .ok (.invokestatic 43, 3) := by decide +kernel
theorem dX4_wobble_11 : decode cX4_wobble 11 = .ok (.ifCond .ne 13, 3) := by decide +kernel
theorem dX4_wobble_14 : decode cX4_wobble 14 = .ok (.new 47, 3) := by decide +kernel
theorem dX4_wobble_17 : decode cX4_wobble 17 = .ok (.dup, 1) := by decide +kernel
theorem dX4_wobble_18 : decode cX4_wobble 18 = .ok (.ldc 148, 2) := by decide +kernel
theorem dX4_wobble_20 : decode cX4_wobble 20 = .ok (.invokespecial 51, 3) := by decide +kernel
theorem dX4_wobble_23 : decode cX4_wobble 23 = .ok (.athrow, 1) := by decide +kernel
theorem dX4_wobble_24 : decode cX4_wobble 24 = .ok (.iload_n 2, 1) := by decide +kernel
theorem dX4_wobble_25 : decode cX4_wobble 25 = .ok (.ifCond .ne 14, 3) := by decide +kernel
theorem dX4_wobble_28 : decode cX4_wobble 28 = .ok (.aload_n 0, 1) := by decide +kernel
theorem dX4_wobble_29 : decode cX4_wobble 29 = .ok (.getfield 10, 3) := by decide +kernel
theorem dX4_wobble_32 : decode cX4_wobble 32 = .ok (.iload_n 1, 1) := by decide +kernel
theorem dX4_wobble_33 : decode cX4_wobble 33 = .ok (.invokevirtual 150, 3) := by decide +kernel
theorem dX4_wobble_36 : decode cX4_wobble 36 = .ok (.goto 11, 3) := by decide +kernel
theorem dX4_wobble_39 : decode cX4_wobble 39 = .ok (.aload_n 0, 1) := by decide +kernel
theorem dX4_wobble_40 : decode cX4_wobble 40 = .ok (.getfield 10, 3) := by decide +kernel
theorem dX4_wobble_43 : decode cX4_wobble 43 = .ok (.iload_n 1, 1) := by decide +kernel
theorem dX4_wobble_44 : decode cX4_wobble 44 = .ok (.invokevirtual 153, 3) := by decide +kernel
theorem dX4_wobble_47 : decode cX4_wobble 47 = .ok (.ireturn, 1) := by decide +kernel
theorem dX4_legOf_0 : decode cX4_legOf 0 = .ok (.aload_n 0, 1) := by decide +kernel
theorem dX4_legOf_1 : decode cX4_legOf 1 = .ok (.iload_n 1, 1) := by decide +kernel
theorem dX4_legOf_2 : decode cX4_legOf 2 = .ok (.invokevirtual 115, 3) := by decide +kernel
theorem dX4_legOf_5 : decode cX4_legOf 5 = .ok (.iload_n 2, 1) := by decide +kernel
theorem dX4_legOf_6 : decode cX4_legOf 6 = .ok (.invokestatic 156, 3) := by decide +kernel
theorem dX4_legOf_9 : decode cX4_legOf 9 = .ok (.iload_n 3, 1) := by decide +kernel
theorem dX4_legOf_10 : decode cX4_legOf 10 = .ok (.tableswitch 62 0 2 #[26, 36, 46], 26) := by decide +kernel
theorem dX4_legOf_36 : decode cX4_legOf 36 = .ok (.aload_n 0, 1) := by decide +kernel
theorem dX4_legOf_37 : decode cX4_legOf 37 = .ok (.getfield 10, 3) := by decide +kernel
theorem dX4_legOf_40 : decode cX4_legOf 40 = .ok (.iload_n 1, 1) := by decide +kernel
theorem dX4_legOf_41 : decode cX4_legOf 41 = .ok (.iload_n 2, 1) := by decide +kernel
theorem dX4_legOf_42 : decode cX4_legOf 42 = .ok (.invokevirtual 159, 3) := by decide +kernel
theorem dX4_legOf_45 : decode cX4_legOf 45 = .ok (.ireturn, 1) := by decide +kernel
theorem dX4_legOf_46 : decode cX4_legOf 46 = .ok (.aload_n 0, 1) := by decide +kernel
theorem dX4_legOf_47 : decode cX4_legOf 47 = .ok (.getfield 10, 3) := by decide +kernel
theorem dX4_legOf_50 : decode cX4_legOf 50 = .ok (.iload_n 1, 1) := by decide +kernel
theorem dX4_legOf_51 : decode cX4_legOf 51 = .ok (.iload_n 2, 1) := by decide +kernel
theorem dX4_legOf_52 : decode cX4_legOf 52 = .ok (.invokevirtual 163, 3) := by decide +kernel
theorem dX4_legOf_55 : decode cX4_legOf 55 = .ok (.ireturn, 1) := by decide +kernel
theorem dX4_legOf_56 : decode cX4_legOf 56 = .ok (.iload_n 2, 1) := by decide +kernel
theorem dX4_legOf_57 : decode cX4_legOf 57 = .ok (.aload_n 0, 1) := by decide +kernel
theorem dX4_legOf_58 : decode cX4_legOf 58 = .ok (.getfield 10, 3) := by decide +kernel
theorem dX4_legOf_61 : decode cX4_legOf 61 = .ok (.getfield 125, 3) := by decide +kernel
theorem dX4_legOf_64 : decode cX4_legOf 64 = .ok (.iload_n 1, 1) := by decide +kernel
theorem dX4_legOf_65 : decode cX4_legOf 65 = .ok (.invokestatic 111, 3) := by decide +kernel
theorem dX4_legOf_68 : decode cX4_legOf 68 = .ok (.iadd, 1) := by decide +kernel
theorem dX4_legOf_69 : decode cX4_legOf 69 = .ok (.iconst 4, 1) := by decide +kernel
theorem dX4_legOf_70 : decode cX4_legOf 70 = .ok (.irem, 1) := by decide +kernel
theorem dX4_legOf_71 : decode cX4_legOf 71 = .ok (.ireturn, 1) := by decide +kernel
theorem dX4_legOf_72 : decode cX4_legOf 72 = .ok (.new 47, 3) := by decide +kernel
theorem dX4_legOf_75 : decode cX4_legOf 75 = .ok (.dup, 1) := by decide +kernel
theorem dX4_legOf_76 : decode cX4_legOf 76 = .ok (.ldc 166, 2) := by decide +kernel
theorem dX4_legOf_78 : decode cX4_legOf 78 = .ok (.invokespecial 51, 3) := by decide +kernel
theorem dX4_legOf_81 : decode cX4_legOf 81 = .ok (.athrow, 1) := by decide +kernel
theorem dX4_spot_0 : decode cX4_spot 0 = .ok (.aload_n 0, 1) := by decide +kernel
theorem dX4_spot_1 : decode cX4_spot 1 = .ok (.iload_n 1, 1) := by decide +kernel
theorem dX4_spot_2 : decode cX4_spot 2 = .ok (.invokevirtual 168, 3) := by decide +kernel
theorem dX4_spot_5 : decode cX4_spot 5 = .ok (.iload_n 2, 1) := by decide +kernel
theorem dX4_spot_6 : decode cX4_spot 6 = .ok (.invokestatic 156, 3) := by decide +kernel
theorem dX4_spot_9 : decode cX4_spot 9 = .ok (.aload_n 0, 1) := by decide +kernel
theorem dX4_spot_10 : decode cX4_spot 10 = .ok (.getfield 10, 3) := by decide +kernel
theorem dX4_spot_13 : decode cX4_spot 13 = .ok (.iload_n 1, 1) := by decide +kernel
theorem dX4_spot_14 : decode cX4_spot 14 = .ok (.iload_n 2, 1) := by decide +kernel
theorem dX4_spot_15 : decode cX4_spot 15 = .ok (.invokevirtual 171, 3) := by decide +kernel
theorem dX4_spot_18 : decode cX4_spot 18 = .ok (.ireturn, 1) := by decide +kernel
theorem dX4_boundOf_0 : decode cX4_boundOf 0 = .ok (.iload_n 1, 1) := by decide +kernel
theorem dX4_boundOf_1 : decode cX4_boundOf 1 = .ok (.invokestatic 156, 3) := by decide +kernel
theorem dX4_boundOf_4 : decode cX4_boundOf 4 = .ok (.iload_n 2, 1) := by decide +kernel
theorem dX4_boundOf_5 : decode cX4_boundOf 5 = .ok (.invokestatic 156, 3) := by decide +kernel
theorem dX4_boundOf_8 : decode cX4_boundOf 8 = .ok (.aload_n 0, 1) := by decide +kernel
theorem dX4_boundOf_9 : decode cX4_boundOf 9 = .ok (.getfield 10, 3) := by decide +kernel
theorem dX4_boundOf_12 : decode cX4_boundOf 12 = .ok (.iload_n 1, 1) := by decide +kernel
theorem dX4_boundOf_13 : decode cX4_boundOf 13 = .ok (.iload_n 2, 1) := by decide +kernel
theorem dX4_boundOf_14 : decode cX4_boundOf 14 = .ok (.invokevirtual 174, 3) := by decide +kernel
theorem dX4_boundOf_17 : decode cX4_boundOf 17 = .ok (.ireturn, 1) := by decide +kernel
theorem dX4_setting_0 : decode cX4_setting 0 = .ok (.iload_n 1, 1) := by decide +kernel
theorem dX4_setting_1 : decode cX4_setting 1 = .ok (.iconst 0, 1) := by decide +kernel
theorem dX4_setting_2 : decode cX4_setting 2 = .ok (.iconst 1, 1) := by decide +kernel
theorem dX4_setting_3 : decode cX4_setting 3 = .ok (.invokestatic 43, 3) := by decide +kernel
theorem dX4_setting_6 : decode cX4_setting 6 = .ok (.ifCond .ne 13, 3) := by decide +kernel
theorem dX4_setting_9 : decode cX4_setting 9 = .ok (.new 47, 3) := by decide +kernel
theorem dX4_setting_12 : decode cX4_setting 12 = .ok (.dup, 1) := by decide +kernel
theorem dX4_setting_13 : decode cX4_setting 13 = .ok (.ldc 177, 2) := by decide +kernel
theorem dX4_setting_15 : decode cX4_setting 15 = .ok (.invokespecial 51, 3) := by decide +kernel
theorem dX4_setting_18 : decode cX4_setting 18 = .ok (.athrow, 1) := by decide +kernel
theorem dX4_setting_19 : decode cX4_setting 19 = .ok (.aload_n 0, 1) := by decide +kernel
theorem dX4_setting_20 : decode cX4_setting 20 = .ok (.getfield 10, 3) := by decide +kernel
theorem dX4_setting_23 : decode cX4_setting 23 = .ok (.getfield 179, 3) := by decide +kernel
theorem dX4_setting_26 : decode cX4_setting 26 = .ok (.iload_n 1, 1) := by decide +kernel
theorem dX4_setting_27 : decode cX4_setting 27 = .ok (.invokestatic 111, 3) := by decide +kernel
theorem dX4_setting_30 : decode cX4_setting 30 = .ok (.ireturn, 1) := by decide +kernel
theorem dX4_chair_0 : decode cX4_chair 0 = .ok (.aload_n 0, 1) := by decide +kernel
theorem dX4_chair_1 : decode cX4_chair 1 = .ok (.getfield 22, 3) := by decide +kernel
theorem dX4_chair_4 : decode cX4_chair 4 = .ok (.aload_n 0, 1) := by decide +kernel
theorem dX4_chair_5 : decode cX4_chair 5 = .ok (.getfield 10, 3) := by decide +kernel
theorem dX4_chair_8 : decode cX4_chair 8 = .ok (.invokevirtual 182, 3) := by decide +kernel
theorem dX4_chair_11 : decode cX4_chair 11 = .ok (.aload_n 0, 1) := by decide +kernel
theorem dX4_chair_12 : decode cX4_chair 12 = .ok (.aload_n 0, 1) := by decide +kernel
theorem dX4_chair_13 : decode cX4_chair 13 = .ok (.getfield 10, 3) := by decide +kernel
theorem dX4_chair_16 : decode cX4_chair 16 = .ok (.iload_n 1, 1) := by decide +kernel
theorem dX4_chair_17 : decode cX4_chair 17 = .ok (.iload_n 2, 1) := by decide +kernel
theorem dX4_chair_18 : decode cX4_chair 18 = .ok (.invokevirtual 186, 3) := by decide +kernel
theorem dX4_chair_21 : decode cX4_chair 21 = .ok (.invokevirtual 189, 3) := by decide +kernel
theorem dX4_chair_24 : decode cX4_chair 24 = .ok (.ireturn, 1) := by decide +kernel
theorem dX4_floor_0 : decode cX4_floor 0 = .ok (.aload_n 0, 1) := by decide +kernel
theorem dX4_floor_1 : decode cX4_floor 1 = .ok (.getfield 22, 3) := by decide +kernel
theorem dX4_floor_4 : decode cX4_floor 4 = .ok (.aload_n 0, 1) := by decide +kernel
theorem dX4_floor_5 : decode cX4_floor 5 = .ok (.getfield 10, 3) := by decide +kernel
theorem dX4_floor_8 : decode cX4_floor 8 = .ok (.invokevirtual 182, 3) := by decide +kernel
theorem dX4_floor_11 : decode cX4_floor 11 = .ok (.aload_n 0, 1) := by decide +kernel
theorem dX4_floor_12 : decode cX4_floor 12 = .ok (.aload_n 0, 1) := by decide +kernel
theorem dX4_floor_13 : decode cX4_floor 13 = .ok (.getfield 10, 3) := by decide +kernel
theorem dX4_floor_16 : decode cX4_floor 16 = .ok (.iload_n 1, 1) := by decide +kernel
theorem dX4_floor_17 : decode cX4_floor 17 = .ok (.iload_n 2, 1) := by decide +kernel
theorem dX4_floor_18 : decode cX4_floor 18 = .ok (.iload_n 3, 1) := by decide +kernel
theorem dX4_floor_19 : decode cX4_floor 19 = .ok (.iload 4, 2) := by decide +kernel
theorem dX4_floor_21 : decode cX4_floor 21 = .ok (.invokevirtual 192, 3) := by decide +kernel
theorem dX4_floor_24 : decode cX4_floor 24 = .ok (.invokevirtual 189, 3) := by decide +kernel
theorem dX4_floor_27 : decode cX4_floor 27 = .ok (.ireturn, 1) := by decide +kernel
theorem dX4_level_0 : decode cX4_level 0 = .ok (.aload_n 0, 1) := by decide +kernel
theorem dX4_level_1 : decode cX4_level 1 = .ok (.getfield 22, 3) := by decide +kernel
theorem dX4_level_4 : decode cX4_level 4 = .ok (.aload_n 0, 1) := by decide +kernel
theorem dX4_level_5 : decode cX4_level 5 = .ok (.getfield 10, 3) := by decide +kernel
theorem dX4_level_8 : decode cX4_level 8 = .ok (.invokevirtual 182, 3) := by decide +kernel
theorem dX4_level_11 : decode cX4_level 11 = .ok (.aload_n 0, 1) := by decide +kernel
theorem dX4_level_12 : decode cX4_level 12 = .ok (.aload_n 0, 1) := by decide +kernel
theorem dX4_level_13 : decode cX4_level 13 = .ok (.getfield 10, 3) := by decide +kernel
theorem dX4_level_16 : decode cX4_level 16 = .ok (.iload_n 1, 1) := by decide +kernel
theorem dX4_level_17 : decode cX4_level 17 = .ok (.iload_n 2, 1) := by decide +kernel
theorem dX4_level_18 : decode cX4_level 18 = .ok (.iload_n 3, 1) := by decide +kernel
theorem dX4_level_19 : decode cX4_level 19 = .ok (.invokevirtual 196, 3) := by decide +kernel
theorem dX4_level_22 : decode cX4_level 22 = .ok (.invokevirtual 189, 3) := by decide +kernel
theorem dX4_level_25 : decode cX4_level 25 = .ok (.ireturn, 1) := by decide +kernel
theorem dX4_bring_0 : decode cX4_bring 0 = .ok (.aload_n 0, 1) := by decide +kernel
theorem dX4_bring_1 : decode cX4_bring 1 = .ok (.getfield 22, 3) := by decide +kernel
theorem dX4_bring_4 : decode cX4_bring 4 = .ok (.aload_n 0, 1) := by decide +kernel
theorem dX4_bring_5 : decode cX4_bring 5 = .ok (.getfield 10, 3) := by decide +kernel
theorem dX4_bring_8 : decode cX4_bring 8 = .ok (.invokevirtual 182, 3) := by decide +kernel
theorem dX4_bring_11 : decode cX4_bring 11 = .ok (.aload_n 0, 1) := by decide +kernel
theorem dX4_bring_12 : decode cX4_bring 12 = .ok (.aload_n 0, 1) := by decide +kernel
theorem dX4_bring_13 : decode cX4_bring 13 = .ok (.getfield 10, 3) := by decide +kernel
theorem dX4_bring_16 : decode cX4_bring 16 = .ok (.iload_n 1, 1) := by decide +kernel
theorem dX4_bring_17 : decode cX4_bring 17 = .ok (.iload_n 2, 1) := by decide +kernel
theorem dX4_bring_18 : decode cX4_bring 18 = .ok (.iload_n 3, 1) := by decide +kernel
theorem dX4_bring_19 : decode cX4_bring 19 = .ok (.invokevirtual 200, 3) := by decide +kernel
theorem dX4_bring_22 : decode cX4_bring 22 = .ok (.invokevirtual 189, 3) := by decide +kernel
theorem dX4_bring_25 : decode cX4_bring 25 = .ok (.ireturn, 1) := by decide +kernel
theorem dX4_saw_0 : decode cX4_saw 0 = .ok (.aload_n 0, 1) := by decide +kernel
theorem dX4_saw_1 : decode cX4_saw 1 = .ok (.getfield 22, 3) := by decide +kernel
theorem dX4_saw_4 : decode cX4_saw 4 = .ok (.aload_n 0, 1) := by decide +kernel
theorem dX4_saw_5 : decode cX4_saw 5 = .ok (.getfield 10, 3) := by decide +kernel
theorem dX4_saw_8 : decode cX4_saw 8 = .ok (.invokevirtual 182, 3) := by decide +kernel
theorem dX4_saw_11 : decode cX4_saw 11 = .ok (.aload_n 0, 1) := by decide +kernel
theorem dX4_saw_12 : decode cX4_saw 12 = .ok (.aload_n 0, 1) := by decide +kernel
theorem dX4_saw_13 : decode cX4_saw 13 = .ok (.getfield 10, 3) := by decide +kernel
theorem dX4_saw_16 : decode cX4_saw 16 = .ok (.iload_n 1, 1) := by decide +kernel
theorem dX4_saw_17 : decode cX4_saw 17 = .ok (.iload_n 2, 1) := by decide +kernel
theorem dX4_saw_18 : decode cX4_saw 18 = .ok (.iload_n 3, 1) := by decide +kernel
theorem dX4_saw_19 : decode cX4_saw 19 = .ok (.invokevirtual 203, 3) := by decide +kernel
theorem dX4_saw_22 : decode cX4_saw 22 = .ok (.invokevirtual 189, 3) := by decide +kernel
theorem dX4_saw_25 : decode cX4_saw 25 = .ok (.ireturn, 1) := by decide +kernel
theorem dX4_shim_0 : decode cX4_shim 0 = .ok (.aload_n 0, 1) := by decide +kernel
theorem dX4_shim_1 : decode cX4_shim 1 = .ok (.getfield 22, 3) := by decide +kernel
theorem dX4_shim_4 : decode cX4_shim 4 = .ok (.aload_n 0, 1) := by decide +kernel
theorem dX4_shim_5 : decode cX4_shim 5 = .ok (.getfield 10, 3) := by decide +kernel
theorem dX4_shim_8 : decode cX4_shim 8 = .ok (.invokevirtual 182, 3) := by decide +kernel
theorem dX4_shim_11 : decode cX4_shim 11 = .ok (.aload_n 0, 1) := by decide +kernel
theorem dX4_shim_12 : decode cX4_shim 12 = .ok (.aload_n 0, 1) := by decide +kernel
theorem dX4_shim_13 : decode cX4_shim 13 = .ok (.getfield 10, 3) := by decide +kernel
theorem dX4_shim_16 : decode cX4_shim 16 = .ok (.iload_n 1, 1) := by decide +kernel
theorem dX4_shim_17 : decode cX4_shim 17 = .ok (.iload_n 2, 1) := by decide +kernel
theorem dX4_shim_18 : decode cX4_shim 18 = .ok (.iload_n 3, 1) := by decide +kernel
theorem dX4_shim_19 : decode cX4_shim 19 = .ok (.invokevirtual 206, 3) := by decide +kernel
theorem dX4_shim_22 : decode cX4_shim 22 = .ok (.invokevirtual 189, 3) := by decide +kernel
theorem dX4_shim_25 : decode cX4_shim 25 = .ok (.ireturn, 1) := by decide +kernel
theorem dX4_test_0 : decode cX4_test 0 = .ok (.aload_n 0, 1) := by decide +kernel
theorem dX4_test_1 : decode cX4_test 1 = .ok (.getfield 22, 3) := by decide +kernel
theorem dX4_test_4 : decode cX4_test 4 = .ok (.aload_n 0, 1) := by decide +kernel
theorem dX4_test_5 : decode cX4_test 5 = .ok (.getfield 10, 3) := by decide +kernel
theorem dX4_test_8 : decode cX4_test 8 = .ok (.invokevirtual 182, 3) := by decide +kernel
theorem dX4_test_11 : decode cX4_test 11 = .ok (.aload_n 0, 1) := by decide +kernel
theorem dX4_test_12 : decode cX4_test 12 = .ok (.aload_n 0, 1) := by decide +kernel
theorem dX4_test_13 : decode cX4_test 13 = .ok (.getfield 10, 3) := by decide +kernel
theorem dX4_test_16 : decode cX4_test 16 = .ok (.iload_n 1, 1) := by decide +kernel
theorem dX4_test_17 : decode cX4_test 17 = .ok (.invokevirtual 209, 3) := by decide +kernel
theorem dX4_test_20 : decode cX4_test 20 = .ok (.invokevirtual 189, 3) := by decide +kernel
theorem dX4_test_23 : decode cX4_test 23 = .ok (.ireturn, 1) := by decide +kernel
theorem dX4_sit_0 : decode cX4_sit 0 = .ok (.aload_n 0, 1) := by decide +kernel
theorem dX4_sit_1 : decode cX4_sit 1 = .ok (.getfield 22, 3) := by decide +kernel
theorem dX4_sit_4 : decode cX4_sit 4 = .ok (.aload_n 0, 1) := by decide +kernel
theorem dX4_sit_5 : decode cX4_sit 5 = .ok (.getfield 10, 3) := by decide +kernel
theorem dX4_sit_8 : decode cX4_sit 8 = .ok (.invokevirtual 182, 3) := by decide +kernel
theorem dX4_sit_11 : decode cX4_sit 11 = .ok (.aload_n 0, 1) := by decide +kernel
theorem dX4_sit_12 : decode cX4_sit 12 = .ok (.aload_n 0, 1) := by decide +kernel
theorem dX4_sit_13 : decode cX4_sit 13 = .ok (.getfield 10, 3) := by decide +kernel
theorem dX4_sit_16 : decode cX4_sit 16 = .ok (.iload_n 1, 1) := by decide +kernel
theorem dX4_sit_17 : decode cX4_sit 17 = .ok (.iload_n 2, 1) := by decide +kernel
theorem dX4_sit_18 : decode cX4_sit 18 = .ok (.invokevirtual 212, 3) := by decide +kernel
theorem dX4_sit_21 : decode cX4_sit 21 = .ok (.invokevirtual 189, 3) := by decide +kernel
theorem dX4_sit_24 : decode cX4_sit 24 = .ok (.ireturn, 1) := by decide +kernel
theorem dX4_bound_0 : decode cX4_bound 0 = .ok (.aload_n 0, 1) := by decide +kernel
theorem dX4_bound_1 : decode cX4_bound 1 = .ok (.getfield 22, 3) := by decide +kernel
theorem dX4_bound_4 : decode cX4_bound 4 = .ok (.aload_n 0, 1) := by decide +kernel
theorem dX4_bound_5 : decode cX4_bound 5 = .ok (.getfield 10, 3) := by decide +kernel
theorem dX4_bound_8 : decode cX4_bound 8 = .ok (.invokevirtual 182, 3) := by decide +kernel
theorem dX4_bound_11 : decode cX4_bound 11 = .ok (.aload_n 0, 1) := by decide +kernel
theorem dX4_bound_12 : decode cX4_bound 12 = .ok (.aload_n 0, 1) := by decide +kernel
theorem dX4_bound_13 : decode cX4_bound 13 = .ok (.getfield 10, 3) := by decide +kernel
theorem dX4_bound_16 : decode cX4_bound 16 = .ok (.iload_n 1, 1) := by decide +kernel
theorem dX4_bound_17 : decode cX4_bound 17 = .ok (.iload_n 2, 1) := by decide +kernel
theorem dX4_bound_18 : decode cX4_bound 18 = .ok (.iload_n 3, 1) := by decide +kernel
theorem dX4_bound_19 : decode cX4_bound 19 = .ok (.invokevirtual 215, 3) := by decide +kernel
theorem dX4_bound_22 : decode cX4_bound 22 = .ok (.invokevirtual 189, 3) := by decide +kernel
theorem dX4_bound_25 : decode cX4_bound 25 = .ok (.ireturn, 1) := by decide +kernel
theorem dX4_set_0 : decode cX4_set 0 = .ok (.aload_n 0, 1) := by decide +kernel
theorem dX4_set_1 : decode cX4_set 1 = .ok (.getfield 22, 3) := by decide +kernel
theorem dX4_set_4 : decode cX4_set 4 = .ok (.aload_n 0, 1) := by decide +kernel
theorem dX4_set_5 : decode cX4_set 5 = .ok (.getfield 10, 3) := by decide +kernel
theorem dX4_set_8 : decode cX4_set 8 = .ok (.invokevirtual 182, 3) := by decide +kernel
theorem dX4_set_11 : decode cX4_set 11 = .ok (.aload_n 0, 1) := by decide +kernel
theorem dX4_set_12 : decode cX4_set 12 = .ok (.aload_n 0, 1) := by decide +kernel
theorem dX4_set_13 : decode cX4_set 13 = .ok (.getfield 10, 3) := by decide +kernel
theorem dX4_set_16 : decode cX4_set 16 = .ok (.iload_n 1, 1) := by decide +kernel
theorem dX4_set_17 : decode cX4_set 17 = .ok (.iload_n 2, 1) := by decide +kernel
theorem dX4_set_18 : decode cX4_set 18 = .ok (.invokevirtual 218, 3) := by decide +kernel
theorem dX4_set_21 : decode cX4_set 21 = .ok (.invokevirtual 189, 3) := by decide +kernel
theorem dX4_set_24 : decode cX4_set 24 = .ok (.ireturn, 1) := by decide +kernel
theorem dX4_undo_0 : decode cX4_undo 0 = .ok (.aload_n 0, 1) := by decide +kernel
theorem dX4_undo_1 : decode cX4_undo 1 = .ok (.getfield 22, 3) := by decide +kernel
theorem dX4_undo_4 : decode cX4_undo 4 = .ok (.getfield 221, 3) := by decide +kernel
theorem dX4_undo_7 : decode cX4_undo 7 = .ok (.ifCond .ne 13, 3) := by decide +kernel
theorem dX4_undo_10 : decode cX4_undo 10 = .ok (.new 58, 3) := by decide +kernel
theorem dX4_undo_13 : decode cX4_undo 13 = .ok (.dup, 1) := by decide +kernel
theorem dX4_undo_14 : decode cX4_undo 14 = .ok (.ldc 224, 2) := by decide +kernel
theorem dX4_undo_16 : decode cX4_undo 16 = .ok (.invokespecial 62, 3) := by decide +kernel
theorem dX4_undo_19 : decode cX4_undo 19 = .ok (.athrow, 1) := by decide +kernel
theorem dX4_undo_20 : decode cX4_undo 20 = .ok (.aload_n 0, 1) := by decide +kernel
theorem dX4_undo_21 : decode cX4_undo 21 = .ok (.getfield 22, 3) := by decide +kernel
theorem dX4_undo_24 : decode cX4_undo 24 = .ok (.aload_n 0, 1) := by decide +kernel
theorem dX4_undo_25 : decode cX4_undo 25 = .ok (.getfield 10, 3) := by decide +kernel
theorem dX4_undo_28 : decode cX4_undo 28 = .ok (.invokevirtual 226, 3) := by decide +kernel
theorem dX4_undo_31 : decode cX4_undo 31 = .ok (.aload_n 0, 1) := by decide +kernel
theorem dX4_undo_32 : decode cX4_undo 32 = .ok (.getfield 22, 3) := by decide +kernel
theorem dX4_undo_35 : decode cX4_undo 35 = .ok (.getfield 221, 3) := by decide +kernel
theorem dX4_undo_38 : decode cX4_undo 38 = .ok (.ireturn, 1) := by decide +kernel
theorem dX4_bestTurn_0 : decode cX4_bestTurn 0 = .ok (.aload_n 0, 1) := by decide +kernel
theorem dX4_bestTurn_1 : decode cX4_bestTurn 1 = .ok (.iload_n 1, 1) := by decide +kernel
theorem dX4_bestTurn_2 : decode cX4_bestTurn 2 = .ok (.invokevirtual 115, 3) := by decide +kernel
theorem dX4_bestTurn_5 : decode cX4_bestTurn 5 = .ok (.aload_n 0, 1) := by decide +kernel
theorem dX4_bestTurn_6 : decode cX4_bestTurn 6 = .ok (.iload_n 2, 1) := by decide +kernel
theorem dX4_bestTurn_7 : decode cX4_bestTurn 7 = .ok (.invokevirtual 168, 3) := by decide +kernel
theorem dX4_bestTurn_10 : decode cX4_bestTurn 10 = .ok (.iload_n 3, 1) := by decide +kernel
theorem dX4_bestTurn_11 : decode cX4_bestTurn 11 = .ok (.iconst 0, 1) := by decide +kernel
theorem dX4_bestTurn_12 : decode cX4_bestTurn 12 = .ok (.iconst 1, 1) := by decide +kernel
theorem dX4_bestTurn_13 : decode cX4_bestTurn 13 = .ok (.invokestatic 43, 3) := by decide +kernel
theorem dX4_bestTurn_16 : decode cX4_bestTurn 16 = .ok (.ifCond .ne 13, 3) := by decide +kernel
theorem dX4_bestTurn_19 : decode cX4_bestTurn 19 = .ok (.new 47, 3) := by decide +kernel
theorem dX4_bestTurn_22 : decode cX4_bestTurn 22 = .ok (.dup, 1) := by decide +kernel
theorem dX4_bestTurn_23 : decode cX4_bestTurn 23 = .ok (.ldc 229, 2) := by decide +kernel
theorem dX4_bestTurn_25 : decode cX4_bestTurn 25 = .ok (.invokespecial 51, 3) := by decide +kernel
theorem dX4_bestTurn_28 : decode cX4_bestTurn 28 = .ok (.athrow, 1) := by decide +kernel
theorem dX4_bestTurn_29 : decode cX4_bestTurn 29 = .ok (.aload_n 0, 1) := by decide +kernel
theorem dX4_bestTurn_30 : decode cX4_bestTurn 30 = .ok (.getfield 10, 3) := by decide +kernel
theorem dX4_bestTurn_33 : decode cX4_bestTurn 33 = .ok (.iload_n 1, 1) := by decide +kernel
theorem dX4_bestTurn_34 : decode cX4_bestTurn 34 = .ok (.iload_n 2, 1) := by decide +kernel
theorem dX4_bestTurn_35 : decode cX4_bestTurn 35 = .ok (.invokevirtual 231, 3) := by decide +kernel
theorem dX4_bestTurn_38 : decode cX4_bestTurn 38 = .ok (.istore 4, 2) := by decide +kernel
theorem dX4_bestTurn_40 : decode cX4_bestTurn 40 = .ok (.iload_n 3, 1) := by decide +kernel
theorem dX4_bestTurn_41 : decode cX4_bestTurn 41 = .ok (.ifCond .ne 8, 3) := by decide +kernel
theorem dX4_bestTurn_44 : decode cX4_bestTurn 44 = .ok (.iload 4, 2) := by decide +kernel
theorem dX4_bestTurn_46 : decode cX4_bestTurn 46 = .ok (.goto 14, 3) := by decide +kernel
theorem dX4_bestTurn_49 : decode cX4_bestTurn 49 = .ok (.aload_n 0, 1) := by decide +kernel
theorem dX4_bestTurn_50 : decode cX4_bestTurn 50 = .ok (.getfield 10, 3) := by decide +kernel
theorem dX4_bestTurn_53 : decode cX4_bestTurn 53 = .ok (.iload_n 1, 1) := by decide +kernel
theorem dX4_bestTurn_54 : decode cX4_bestTurn 54 = .ok (.iload_n 2, 1) := by decide +kernel
theorem dX4_bestTurn_55 : decode cX4_bestTurn 55 = .ok (.iload 4, 2) := by decide +kernel
theorem dX4_bestTurn_57 : decode cX4_bestTurn 57 = .ok (.invokevirtual 234, 3) := by decide +kernel
theorem dX4_bestTurn_60 : decode cX4_bestTurn 60 = .ok (.ireturn, 1) := by decide +kernel
theorem dX4_bestSaw_0 : decode cX4_bestSaw 0 = .ok (.aload_n 0, 1) := by decide +kernel
theorem dX4_bestSaw_1 : decode cX4_bestSaw 1 = .ok (.iload_n 1, 1) := by decide +kernel
theorem dX4_bestSaw_2 : decode cX4_bestSaw 2 = .ok (.invokevirtual 115, 3) := by decide +kernel
theorem dX4_bestSaw_5 : decode cX4_bestSaw 5 = .ok (.aload_n 0, 1) := by decide +kernel
theorem dX4_bestSaw_6 : decode cX4_bestSaw 6 = .ok (.getfield 16, 3) := by decide +kernel
theorem dX4_bestSaw_9 : decode cX4_bestSaw 9 = .ok (.aload_n 0, 1) := by decide +kernel
theorem dX4_bestSaw_10 : decode cX4_bestSaw 10 = .ok (.getfield 10, 3) := by decide +kernel
theorem dX4_bestSaw_13 : decode cX4_bestSaw 13 = .ok (.invokevirtual 237, 3) := by decide +kernel
theorem dX4_bestSaw_16 : decode cX4_bestSaw 16 = .ok (.aload_n 0, 1) := by decide +kernel
theorem dX4_bestSaw_17 : decode cX4_bestSaw 17 = .ok (.getfield 16, 3) := by decide +kernel
theorem dX4_bestSaw_20 : decode cX4_bestSaw 20 = .ok (.iload_n 1, 1) := by decide +kernel
theorem dX4_bestSaw_21 : decode cX4_bestSaw 21 = .ok (.invokevirtual 240, 3) := by decide +kernel
theorem dX4_bestSaw_24 : decode cX4_bestSaw 24 = .ok (.ireturn, 1) := by decide +kernel
theorem dX4_failsIn_0 : decode cX4_failsIn 0 = .ok (.aload_n 0, 1) := by decide +kernel
theorem dX4_failsIn_1 : decode cX4_failsIn 1 = .ok (.iload_n 1, 1) := by decide +kernel
theorem dX4_failsIn_2 : decode cX4_failsIn 2 = .ok (.invokevirtual 115, 3) := by decide +kernel
theorem dX4_failsIn_5 : decode cX4_failsIn 5 = .ok (.iload_n 2, 1) := by decide +kernel
theorem dX4_failsIn_6 : decode cX4_failsIn 6 = .ok (.iconst 1, 1) := by decide +kernel
theorem dX4_failsIn_7 : decode cX4_failsIn 7 = .ok (.sipush 200, 3) := by decide +kernel
theorem dX4_failsIn_10 : decode cX4_failsIn 10 = .ok (.invokestatic 43, 3) := by decide +kernel
theorem dX4_failsIn_13 : decode cX4_failsIn 13 = .ok (.ifCond .ne 13, 3) := by decide +kernel
theorem dX4_failsIn_16 : decode cX4_failsIn 16 = .ok (.new 47, 3) := by decide +kernel
theorem dX4_failsIn_19 : decode cX4_failsIn 19 = .ok (.dup, 1) := by decide +kernel
theorem dX4_failsIn_20 : decode cX4_failsIn 20 = .ok (.ldc 243, 2) := by decide +kernel
theorem dX4_failsIn_22 : decode cX4_failsIn 22 = .ok (.invokespecial 51, 3) := by decide +kernel
theorem dX4_failsIn_25 : decode cX4_failsIn 25 = .ok (.athrow, 1) := by decide +kernel
theorem dX4_failsIn_26 : decode cX4_failsIn 26 = .ok (.aload_n 0, 1) := by decide +kernel
theorem dX4_failsIn_27 : decode cX4_failsIn 27 = .ok (.getfield 16, 3) := by decide +kernel
theorem dX4_failsIn_30 : decode cX4_failsIn 30 = .ok (.aload_n 0, 1) := by decide +kernel
theorem dX4_failsIn_31 : decode cX4_failsIn 31 = .ok (.getfield 10, 3) := by decide +kernel
theorem dX4_failsIn_34 : decode cX4_failsIn 34 = .ok (.invokevirtual 237, 3) := by decide +kernel
theorem dX4_failsIn_37 : decode cX4_failsIn 37 = .ok (.iconst 0, 1) := by decide +kernel
theorem dX4_failsIn_38 : decode cX4_failsIn 38 = .ok (.istore_n 3, 1) := by decide +kernel
theorem dX4_failsIn_39 : decode cX4_failsIn 39 = .ok (.iload_n 3, 1) := by decide +kernel
theorem dX4_failsIn_40 : decode cX4_failsIn 40 = .ok (.bipush 100, 2) := by decide +kernel
theorem dX4_failsIn_42 : decode cX4_failsIn 42 = .ok (.if_icmp .gt 32, 3) := by decide +kernel
theorem dX4_failsIn_45 : decode cX4_failsIn 45 = .ok (.aload_n 0, 1) := by decide +kernel
theorem dX4_failsIn_46 : decode cX4_failsIn 46 = .ok (.getfield 16, 3) := by decide +kernel
theorem dX4_failsIn_49 : decode cX4_failsIn 49 = .ok (.iload_n 1, 1) := by decide +kernel
theorem dX4_failsIn_50 : decode cX4_failsIn 50 = .ok (.invokevirtual 140, 3) := by decide +kernel
theorem dX4_failsIn_53 : decode cX4_failsIn 53 = .ok (.ifCond .eq 5, 3) := by decide +kernel
theorem dX4_failsIn_56 : decode cX4_failsIn 56 = .ok (.iload_n 3, 1) := by decide +kernel
theorem dX4_failsIn_57 : decode cX4_failsIn 57 = .ok (.ireturn, 1) := by decide +kernel
theorem dX4_failsIn_58 : decode cX4_failsIn 58 = .ok (.aload_n 0, 1) := by decide +kernel
theorem dX4_failsIn_59 : decode cX4_failsIn 59 = .ok (.getfield 16, 3) := by decide +kernel
theorem dX4_failsIn_62 : decode cX4_failsIn 62 = .ok (.iload_n 1, 1) := by decide +kernel
theorem dX4_failsIn_63 : decode cX4_failsIn 63 = .ok (.iload_n 2, 1) := by decide +kernel
theorem dX4_failsIn_64 : decode cX4_failsIn 64 = .ok (.invokevirtual 212, 3) := by decide +kernel
theorem dX4_failsIn_67 : decode cX4_failsIn 67 = .ok (.pop, 1) := by decide +kernel
theorem dX4_failsIn_68 : decode cX4_failsIn 68 = .ok (.iinc 3 1, 3) := by decide +kernel
theorem dX4_failsIn_71 : decode cX4_failsIn 71 = .ok (.goto (-32), 3) := by decide +kernel
theorem dX4_failsIn_74 : decode cX4_failsIn 74 = .ok (.iconst (-1), 1) := by decide +kernel
theorem dX4_failsIn_75 : decode cX4_failsIn 75 = .ok (.ireturn, 1) := by decide +kernel
theorem dX4_bestFloor_0 : decode cX4_bestFloor 0 = .ok (.aload_n 0, 1) := by decide +kernel
theorem dX4_bestFloor_1 : decode cX4_bestFloor 1 = .ok (.iload_n 1, 1) := by decide +kernel
theorem dX4_bestFloor_2 : decode cX4_bestFloor 2 = .ok (.invokevirtual 115, 3) := by decide +kernel
theorem dX4_bestFloor_5 : decode cX4_bestFloor 5 = .ok (.aload_n 0, 1) := by decide +kernel
theorem dX4_bestFloor_6 : decode cX4_bestFloor 6 = .ok (.getfield 10, 3) := by decide +kernel
theorem dX4_bestFloor_9 : decode cX4_bestFloor 9 = .ok (.iload_n 1, 1) := by decide +kernel
theorem dX4_bestFloor_10 : decode cX4_bestFloor 10 = .ok (.invokevirtual 245, 3) := by decide +kernel
theorem dX4_bestFloor_13 : decode cX4_bestFloor 13 = .ok (.ireturn, 1) := by decide +kernel
theorem dX4_sound_0 : decode cX4_sound 0 = .ok (.iconst 0, 1) := by decide +kernel
theorem dX4_sound_1 : decode cX4_sound 1 = .ok (.istore_n 1, 1) := by decide +kernel
theorem dX4_sound_2 : decode cX4_sound 2 = .ok (.iconst 0, 1) := by decide +kernel
theorem dX4_sound_3 : decode cX4_sound 3 = .ok (.istore_n 2, 1) := by decide +kernel
theorem dX4_sound_4 : decode cX4_sound 4 = .ok (.iload_n 2, 1) := by decide +kernel
theorem dX4_sound_5 : decode cX4_sound 5 = .ok (.aload_n 0, 1) := by decide +kernel
theorem dX4_sound_6 : decode cX4_sound 6 = .ok (.getfield 10, 3) := by decide +kernel
theorem dX4_sound_9 : decode cX4_sound 9 = .ok (.getfield 97, 3) := by decide +kernel
theorem dX4_sound_12 : decode cX4_sound 12 = .ok (.if_icmp .ge 26, 3) := by decide +kernel
theorem dX4_sound_15 : decode cX4_sound 15 = .ok (.aload_n 0, 1) := by decide +kernel
theorem dX4_sound_16 : decode cX4_sound 16 = .ok (.getfield 10, 3) := by decide +kernel
theorem dX4_sound_19 : decode cX4_sound 19 = .ok (.iload_n 2, 1) := by decide +kernel
theorem dX4_sound_20 : decode cX4_sound 20 = .ok (.invokevirtual 140, 3) := by decide +kernel
theorem dX4_sound_23 : decode cX4_sound 23 = .ok (.ifCond .ne 9, 3) := by decide +kernel
theorem dX4_sound_26 : decode cX4_sound 26 = .ok (.iload_n 1, 1) := by decide +kernel
theorem dX4_sound_27 : decode cX4_sound 27 = .ok (.iconst 1, 1) := by decide +kernel
theorem dX4_sound_28 : decode cX4_sound 28 = .ok (.iload_n 2, 1) := by decide +kernel
theorem dX4_sound_29 : decode cX4_sound 29 = .ok (.ishl, 1) := by decide +kernel
theorem dX4_sound_30 : decode cX4_sound 30 = .ok (.ior, 1) := by decide +kernel
theorem dX4_sound_31 : decode cX4_sound 31 = .ok (.istore_n 1, 1) := by decide +kernel
theorem dX4_sound_32 : decode cX4_sound 32 = .ok (.iinc 2 1, 3) := by decide +kernel
theorem dX4_sound_35 : decode cX4_sound 35 = .ok (.goto (-31), 3) := by decide +kernel
theorem dX4_sound_38 : decode cX4_sound 38 = .ok (.iload_n 1, 1) := by decide +kernel
theorem dX4_sound_39 : decode cX4_sound 39 = .ok (.ireturn, 1) := by decide +kernel
theorem dX4_runScript_0 : decode cX4_runScript 0 = .ok (.iload_n 1, 1) := by decide +kernel
theorem dX4_runScript_1 : decode cX4_runScript 1 = .ok (.iconst 1, 1) := by decide +kernel
theorem dX4_runScript_2 : decode cX4_runScript 2 = .ok (.iconst 3, 1) := by decide +kernel
theorem dX4_runScript_3 : decode cX4_runScript 3 = .ok (.invokestatic 43, 3) := by decide +kernel
theorem dX4_runScript_6 : decode cX4_runScript 6 = .ok (.ifCond .eq 19, 3) := by decide +kernel
theorem dX4_runScript_9 : decode cX4_runScript 9 = .ok (.lload_n 2, 1) := by decide +kernel
theorem dX4_runScript_10 : decode cX4_runScript 10 = .ok (.lconst 0, 1) := by decide +kernel
theorem dX4_runScript_11 : decode cX4_runScript 11 = .ok (.lcmp, 1) := by decide +kernel
theorem dX4_runScript_12 : decode cX4_runScript 12 = .ok (.ifCond .lt 13, 3) := by decide +kernel
theorem dX4_runScript_15 : decode cX4_runScript 15 = .ok (.lload_n 2, 1) := by decide +kernel
theorem dX4_runScript_16 : decode cX4_runScript 16 = .ok (.iload_n 1, 1) := by decide +kernel
theorem dX4_runScript_17 : decode cX4_runScript 17 = .ok (.invokestatic 248, 3) := by decide +kernel
theorem dX4_runScript_20 : decode cX4_runScript 20 = .ok (.lconst 0, 1) := by decide +kernel
theorem dX4_runScript_21 : decode cX4_runScript 21 = .ok (.lcmp, 1) := by decide +kernel
theorem dX4_runScript_22 : decode cX4_runScript 22 = .ok (.ifCond .eq 13, 3) := by decide +kernel
theorem dX4_runScript_25 : decode cX4_runScript 25 = .ok (.new 47, 3) := by decide +kernel
theorem dX4_runScript_28 : decode cX4_runScript 28 = .ok (.dup, 1) := by decide +kernel
theorem dX4_runScript_29 : decode cX4_runScript 29 = .ok (.ldc 252, 2) := by decide +kernel
theorem dX4_runScript_31 : decode cX4_runScript 31 = .ok (.invokespecial 51, 3) := by decide +kernel
theorem dX4_runScript_34 : decode cX4_runScript 34 = .ok (.athrow, 1) := by decide +kernel
theorem dX4_runScript_35 : decode cX4_runScript 35 = .ok (.aload_n 0, 1) := by decide +kernel
theorem dX4_runScript_36 : decode cX4_runScript 36 = .ok (.getfield 16, 3) := by decide +kernel
theorem dX4_runScript_39 : decode cX4_runScript 39 = .ok (.aload_n 0, 1) := by decide +kernel
theorem dX4_runScript_40 : decode cX4_runScript 40 = .ok (.getfield 10, 3) := by decide +kernel
theorem dX4_runScript_43 : decode cX4_runScript 43 = .ok (.invokevirtual 237, 3) := by decide +kernel
theorem dX4_runScript_46 : decode cX4_runScript 46 = .ok (.iconst 0, 1) := by decide +kernel
theorem dX4_runScript_47 : decode cX4_runScript 47 = .ok (.istore 4, 2) := by decide +kernel
theorem dX4_runScript_49 : decode cX4_runScript 49 = .ok (.iload 4, 2) := by decide +kernel
theorem dX4_runScript_51 : decode cX4_runScript 51 = .ok (.iload_n 1, 1) := by decide +kernel
theorem dX4_runScript_52 : decode cX4_runScript 52 = .ok (.if_icmp .ge 41, 3) := by decide +kernel
theorem dX4_runScript_55 : decode cX4_runScript 55 = .ok (.lload_n 2, 1) := by decide +kernel
theorem dX4_runScript_56 : decode cX4_runScript 56 = .ok (.iload_n 1, 1) := by decide +kernel
theorem dX4_runScript_57 : decode cX4_runScript 57 = .ok (.iconst 1, 1) := by decide +kernel
theorem dX4_runScript_58 : decode cX4_runScript 58 = .ok (.isub, 1) := by decide +kernel
theorem dX4_runScript_59 : decode cX4_runScript 59 = .ok (.iload 4, 2) := by decide +kernel
theorem dX4_runScript_61 : decode cX4_runScript 61 = .ok (.isub, 1) := by decide +kernel
theorem dX4_runScript_62 : decode cX4_runScript 62 = .ok (.invokestatic 248, 3) := by decide +kernel
theorem dX4_runScript_65 : decode cX4_runScript 65 = .ok (.ldc2_w 254, 3) := by decide +kernel
theorem dX4_runScript_68 : decode cX4_runScript 68 = .ok (.lrem, 1) := by decide +kernel
theorem dX4_runScript_69 : decode cX4_runScript 69 = .ok (.l2i, 1) := by decide +kernel
theorem dX4_runScript_70 : decode cX4_runScript 70 = .ok (.istore 5, 2) := by decide +kernel
theorem dX4_runScript_72 : decode cX4_runScript 72 = .ok (.aload_n 0, 1) := by decide +kernel
theorem dX4_runScript_73 : decode cX4_runScript 73 = .ok (.getfield 16, 3) := by decide +kernel
theorem dX4_runScript_76 : decode cX4_runScript 76 = .ok (.iload 5, 2) := by decide +kernel
theorem dX4_runScript_78 : decode cX4_runScript 78 = .ok (.invokestatic 256, 3) := by decide +kernel
theorem dX4_runScript_81 : decode cX4_runScript 81 = .ok (.ifCond .ne 6, 3) := by decide +kernel
theorem dX4_runScript_84 : decode cX4_runScript 84 = .ok (.iload 4, 2) := by decide +kernel
theorem dX4_runScript_86 : decode cX4_runScript 86 = .ok (.ireturn, 1) := by decide +kernel
theorem dX4_runScript_87 : decode cX4_runScript 87 = .ok (.iinc 4 1, 3) := by decide +kernel
theorem dX4_runScript_90 : decode cX4_runScript 90 = .ok (.goto (-41), 3) := by decide +kernel
theorem dX4_runScript_93 : decode cX4_runScript 93 = .ok (.iconst (-1), 1) := by decide +kernel
theorem dX4_runScript_94 : decode cX4_runScript 94 = .ok (.ireturn, 1) := by decide +kernel
theorem dX4_simulate_0 : decode cX4_simulate 0 = .ok (.iload_n 3, 1) := by decide +kernel
theorem dX4_simulate_1 : decode cX4_simulate 1 = .ok (.iconst 1, 1) := by decide +kernel
theorem dX4_simulate_2 : decode cX4_simulate 2 = .ok (.bipush 60, 2) := by decide +kernel
theorem dX4_simulate_4 : decode cX4_simulate 4 = .ok (.invokestatic 43, 3) := by decide +kernel
theorem dX4_simulate_7 : decode cX4_simulate 7 = .ok (.ifCond .ne 14, 3) := by decide +kernel
theorem dX4_simulate_10 : decode cX4_simulate 10 = .ok (.new 47, 3) := by decide +kernel
theorem dX4_simulate_13 : decode cX4_simulate 13 = .ok (.dup, 1) := by decide +kernel
theorem dX4_simulate_14 : decode cX4_simulate 14 = .ok (.ldc_w 260, 3) := by decide +kernel
theorem dX4_simulate_17 : decode cX4_simulate 17 = .ok (.invokespecial 51, 3) := by decide +kernel
theorem dX4_simulate_20 : decode cX4_simulate 20 = .ok (.athrow, 1) := by decide +kernel
theorem dX4_simulate_21 : decode cX4_simulate 21 = .ok (.aload_n 0, 1) := by decide +kernel
theorem dX4_simulate_22 : decode cX4_simulate 22 = .ok (.getfield 16, 3) := by decide +kernel
theorem dX4_simulate_25 : decode cX4_simulate 25 = .ok (.aload_n 0, 1) := by decide +kernel
theorem dX4_simulate_26 : decode cX4_simulate 26 = .ok (.getfield 10, 3) := by decide +kernel
theorem dX4_simulate_29 : decode cX4_simulate 29 = .ok (.invokevirtual 237, 3) := by decide +kernel
theorem dX4_simulate_32 : decode cX4_simulate 32 = .ok (.lload_n 1, 1) := by decide +kernel
theorem dX4_simulate_33 : decode cX4_simulate 33 = .ok (.lstore 4, 2) := by decide +kernel
theorem dX4_simulate_35 : decode cX4_simulate 35 = .ok (.iconst 0, 1) := by decide +kernel
theorem dX4_simulate_36 : decode cX4_simulate 36 = .ok (.istore 6, 2) := by decide +kernel
theorem dX4_simulate_38 : decode cX4_simulate 38 = .ok (.iload 6, 2) := by decide +kernel
theorem dX4_simulate_40 : decode cX4_simulate 40 = .ok (.iload_n 3, 1) := by decide +kernel
theorem dX4_simulate_41 : decode cX4_simulate 41 = .ok (.if_icmp .ge 34, 3) := by decide +kernel
theorem dX4_simulate_44 : decode cX4_simulate 44 = .ok (.lload 4, 2) := by decide +kernel
theorem dX4_simulate_46 : decode cX4_simulate 46 = .ok (.ldc2_w 262, 3) := by decide +kernel
theorem dX4_simulate_49 : decode cX4_simulate 49 = .ok (.lmul, 1) := by decide +kernel
theorem dX4_simulate_50 : decode cX4_simulate 50 = .ok (.ldc2_w 264, 3) := by decide +kernel
theorem dX4_simulate_53 : decode cX4_simulate 53 = .ok (.ladd, 1) := by decide +kernel
theorem dX4_simulate_54 : decode cX4_simulate 54 = .ok (.lstore 4, 2) := by decide +kernel
theorem dX4_simulate_56 : decode cX4_simulate 56 = .ok (.aload_n 0, 1) := by decide +kernel
theorem dX4_simulate_57 : decode cX4_simulate 57 = .ok (.getfield 16, 3) := by decide +kernel
theorem dX4_simulate_60 : decode cX4_simulate 60 = .ok (.lload 4, 2) := by decide +kernel
theorem dX4_simulate_62 : decode cX4_simulate 62 = .ok (.bipush 33, 2) := by decide +kernel
theorem dX4_simulate_64 : decode cX4_simulate 64 = .ok (.lushr, 1) := by decide +kernel
theorem dX4_simulate_65 : decode cX4_simulate 65 = .ok (.l2i, 1) := by decide +kernel
theorem dX4_simulate_66 : decode cX4_simulate 66 = .ok (.invokestatic 266, 3) := by decide +kernel
theorem dX4_simulate_69 : decode cX4_simulate 69 = .ok (.iinc 6 1, 3) := by decide +kernel
theorem dX4_simulate_72 : decode cX4_simulate 72 = .ok (.goto (-34), 3) := by decide +kernel
theorem dX4_simulate_75 : decode cX4_simulate 75 = .ok (.aload_n 0, 1) := by decide +kernel
theorem dX4_simulate_76 : decode cX4_simulate 76 = .ok (.getfield 16, 3) := by decide +kernel
theorem dX4_simulate_79 : decode cX4_simulate 79 = .ok (.getfield 107, 3) := by decide +kernel
theorem dX4_simulate_82 : decode cX4_simulate 82 = .ok (.iconst 4, 1) := by decide +kernel
theorem dX4_simulate_83 : decode cX4_simulate 83 = .ok (.invokestatic 111, 3) := by decide +kernel
theorem dX4_simulate_86 : decode cX4_simulate 86 = .ok (.aload_n 0, 1) := by decide +kernel
theorem dX4_simulate_87 : decode cX4_simulate 87 = .ok (.getfield 10, 3) := by decide +kernel
theorem dX4_simulate_90 : decode cX4_simulate 90 = .ok (.getfield 107, 3) := by decide +kernel
theorem dX4_simulate_93 : decode cX4_simulate 93 = .ok (.iconst 4, 1) := by decide +kernel
theorem dX4_simulate_94 : decode cX4_simulate 94 = .ok (.invokestatic 111, 3) := by decide +kernel
theorem dX4_simulate_97 : decode cX4_simulate 97 = .ok (.isub, 1) := by decide +kernel
theorem dX4_simulate_98 : decode cX4_simulate 98 = .ok (.istore 6, 2) := by decide +kernel
theorem dX4_simulate_100 : decode cX4_simulate 100 = .ok (.aload_n 0, 1) := by decide +kernel
theorem dX4_simulate_101 : decode cX4_simulate 101 = .ok (.getfield 16, 3) := by decide +kernel
theorem dX4_simulate_104 : decode cX4_simulate 104 = .ok (.getfield 107, 3) := by decide +kernel
theorem dX4_simulate_107 : decode cX4_simulate 107 = .ok (.iconst 5, 1) := by decide +kernel
theorem dX4_simulate_108 : decode cX4_simulate 108 = .ok (.invokestatic 111, 3) := by decide +kernel
theorem dX4_simulate_111 : decode cX4_simulate 111 = .ok (.aload_n 0, 1) := by decide +kernel
theorem dX4_simulate_112 : decode cX4_simulate 112 = .ok (.getfield 10, 3) := by decide +kernel
theorem dX4_simulate_115 : decode cX4_simulate 115 = .ok (.getfield 107, 3) := by decide +kernel
theorem dX4_simulate_118 : decode cX4_simulate 118 = .ok (.iconst 5, 1) := by decide +kernel
theorem dX4_simulate_119 : decode cX4_simulate 119 = .ok (.invokestatic 111, 3) := by decide +kernel
theorem dX4_simulate_122 : decode cX4_simulate 122 = .ok (.isub, 1) := by decide +kernel
theorem dX4_simulate_123 : decode cX4_simulate 123 = .ok (.istore 7, 2) := by decide +kernel
theorem dX4_simulate_125 : decode cX4_simulate 125 = .ok (.sipush 10000, 3) := by decide +kernel
theorem dX4_simulate_128 : decode cX4_simulate 128 = .ok (.iload 6, 2) := by decide +kernel
theorem dX4_simulate_130 : decode cX4_simulate 130 = .ok (.imul, 1) := by decide +kernel
theorem dX4_simulate_131 : decode cX4_simulate 131 = .ok (.bipush 100, 2) := by decide +kernel
theorem dX4_simulate_133 : decode cX4_simulate 133 = .ok (.aload_n 0, 1) := by decide +kernel
theorem dX4_simulate_134 : decode cX4_simulate 134 = .ok (.getfield 16, 3) := by decide +kernel
theorem dX4_simulate_137 : decode cX4_simulate 137 = .ok (.invokevirtual 104, 3) := by decide +kernel
theorem dX4_simulate_140 : decode cX4_simulate 140 = .ok (.imul, 1) := by decide +kernel
theorem dX4_simulate_141 : decode cX4_simulate 141 = .ok (.iadd, 1) := by decide +kernel
theorem dX4_simulate_142 : decode cX4_simulate 142 = .ok (.iload 7, 2) := by decide +kernel
theorem dX4_simulate_144 : decode cX4_simulate 144 = .ok (.iadd, 1) := by decide +kernel
theorem dX4_simulate_145 : decode cX4_simulate 145 = .ok (.ireturn, 1) := by decide +kernel
theorem dX4_save_0 : decode cX4_save 0 = .ok (.iload_n 1, 1) := by decide +kernel
theorem dX4_save_1 : decode cX4_save 1 = .ok (.invokestatic 270, 3) := by decide +kernel
theorem dX4_save_4 : decode cX4_save 4 = .ok (.iload_n 1, 1) := by decide +kernel
theorem dX4_save_5 : decode cX4_save 5 = .ok (.ifCond .ne 10, 3) := by decide +kernel
theorem dX4_save_8 : decode cX4_save 8 = .ok (.aload_n 0, 1) := by decide +kernel
theorem dX4_save_9 : decode cX4_save 9 = .ok (.getfield 29, 3) := by decide +kernel
theorem dX4_save_12 : decode cX4_save 12 = .ok (.goto 7, 3) := by decide +kernel
theorem dX4_save_15 : decode cX4_save 15 = .ok (.aload_n 0, 1) := by decide +kernel
theorem dX4_save_16 : decode cX4_save 16 = .ok (.getfield 33, 3) := by decide +kernel
theorem dX4_save_19 : decode cX4_save 19 = .ok (.astore_n 2, 1) := by decide +kernel
theorem dX4_save_20 : decode cX4_save 20 = .ok (.aload_n 2, 1) := by decide +kernel
theorem dX4_save_21 : decode cX4_save 21 = .ok (.getfield 273, 3) := by decide +kernel
theorem dX4_save_24 : decode cX4_save 24 = .ok (.aload_n 0, 1) := by decide +kernel
theorem dX4_save_25 : decode cX4_save 25 = .ok (.getfield 10, 3) := by decide +kernel
theorem dX4_save_28 : decode cX4_save 28 = .ok (.invokevirtual 237, 3) := by decide +kernel
theorem dX4_save_31 : decode cX4_save 31 = .ok (.aload_n 2, 1) := by decide +kernel
theorem dX4_save_32 : decode cX4_save 32 = .ok (.iconst 1, 1) := by decide +kernel
theorem dX4_save_33 : decode cX4_save 33 = .ok (.putfield 82, 3) := by decide +kernel
theorem dX4_save_36 : decode cX4_save 36 = .ok (.aload_n 0, 1) := by decide +kernel
theorem dX4_save_37 : decode cX4_save 37 = .ok (.getfield 10, 3) := by decide +kernel
theorem dX4_save_40 : decode cX4_save 40 = .ok (.invokevirtual 104, 3) := by decide +kernel
theorem dX4_save_43 : decode cX4_save 43 = .ok (.ireturn, 1) := by decide +kernel
theorem dX4_restore_0 : decode cX4_restore 0 = .ok (.iload_n 1, 1) := by decide +kernel
theorem dX4_restore_1 : decode cX4_restore 1 = .ok (.invokestatic 270, 3) := by decide +kernel
theorem dX4_restore_4 : decode cX4_restore 4 = .ok (.iload_n 1, 1) := by decide +kernel
theorem dX4_restore_5 : decode cX4_restore 5 = .ok (.ifCond .ne 10, 3) := by decide +kernel
theorem dX4_restore_8 : decode cX4_restore 8 = .ok (.aload_n 0, 1) := by decide +kernel
theorem dX4_restore_9 : decode cX4_restore 9 = .ok (.getfield 29, 3) := by decide +kernel
theorem dX4_restore_12 : decode cX4_restore 12 = .ok (.goto 7, 3) := by decide +kernel
theorem dX4_restore_15 : decode cX4_restore 15 = .ok (.aload_n 0, 1) := by decide +kernel
theorem dX4_restore_16 : decode cX4_restore 16 = .ok (.getfield 33, 3) := by decide +kernel
theorem dX4_restore_19 : decode cX4_restore 19 = .ok (.astore_n 2, 1) := by decide +kernel
theorem dX4_restore_20 : decode cX4_restore 20 = .ok (.aload_n 2, 1) := by decide +kernel
theorem dX4_restore_21 : decode cX4_restore 21 = .ok (.getfield 82, 3) := by decide +kernel
theorem dX4_restore_24 : decode cX4_restore 24 = .ok (.ifCond .ne 14, 3) := by decide +kernel
theorem dX4_restore_27 : decode cX4_restore 27 = .ok (.new 58, 3) := by decide +kernel
theorem dX4_restore_30 : decode cX4_restore 30 = .ok (.dup, 1) := by decide +kernel
theorem dX4_restore_31 : decode cX4_restore 31 = .ok (.ldc_w 276, 3) := by decide +kernel
theorem dX4_restore_34 : decode cX4_restore 34 = .ok (.invokespecial 62, 3) := by decide +kernel
theorem dX4_restore_37 : decode cX4_restore 37 = .ok (.athrow, 1) := by decide +kernel
theorem dX4_restore_38 : decode cX4_restore 38 = .ok (.aload_n 0, 1) := by decide +kernel
theorem dX4_restore_39 : decode cX4_restore 39 = .ok (.getfield 10, 3) := by decide +kernel
theorem dX4_restore_42 : decode cX4_restore 42 = .ok (.aload_n 2, 1) := by decide +kernel
theorem dX4_restore_43 : decode cX4_restore 43 = .ok (.getfield 273, 3) := by decide +kernel
theorem dX4_restore_46 : decode cX4_restore 46 = .ok (.invokevirtual 237, 3) := by decide +kernel
theorem dX4_restore_49 : decode cX4_restore 49 = .ok (.aload_n 0, 1) := by decide +kernel
theorem dX4_restore_50 : decode cX4_restore 50 = .ok (.getfield 22, 3) := by decide +kernel
theorem dX4_restore_53 : decode cX4_restore 53 = .ok (.invokevirtual 79, 3) := by decide +kernel
theorem dX4_restore_56 : decode cX4_restore 56 = .ok (.aload_n 0, 1) := by decide +kernel
theorem dX4_restore_57 : decode cX4_restore 57 = .ok (.getfield 10, 3) := by decide +kernel
theorem dX4_restore_60 : decode cX4_restore 60 = .ok (.invokevirtual 104, 3) := by decide +kernel
theorem dX4_restore_63 : decode cX4_restore 63 = .ok (.ireturn, 1) := by decide +kernel
theorem dX4_needChair_0 : decode cX4_needChair 0 = .ok (.aload_n 0, 1) := by decide +kernel
theorem dX4_needChair_1 : decode cX4_needChair 1 = .ok (.getfield 10, 3) := by decide +kernel
theorem dX4_needChair_4 : decode cX4_needChair 4 = .ok (.iload_n 1, 1) := by decide +kernel
theorem dX4_needChair_5 : decode cX4_needChair 5 = .ok (.invokevirtual 278, 3) := by decide +kernel
theorem dX4_needChair_8 : decode cX4_needChair 8 = .ok (.ifCond .ne 14, 3) := by decide +kernel
theorem dX4_needChair_11 : decode cX4_needChair 11 = .ok (.new 282, 3) := by decide +kernel
theorem dX4_needChair_14 : decode cX4_needChair 14 = .ok (.dup, 1) := by decide +kernel
theorem dX4_needChair_15 : decode cX4_needChair 15 = .ok (.ldc_w 284, 3) := by decide +kernel
theorem dX4_needChair_18 : decode cX4_needChair 18 = .ok (.invokespecial 286, 3) := by decide +kernel
theorem dX4_needChair_21 : decode cX4_needChair 21 = .ok (.athrow, 1) := by decide +kernel
theorem dX4_needChair_22 : decode cX4_needChair 22 = .ok (.return_, 1) := by decide +kernel
theorem dX4_needFloor_0 : decode cX4_needFloor 0 = .ok (.aload_n 0, 1) := by decide +kernel
theorem dX4_needFloor_1 : decode cX4_needFloor 1 = .ok (.getfield 10, 3) := by decide +kernel
theorem dX4_needFloor_4 : decode cX4_needFloor 4 = .ok (.iload_n 1, 1) := by decide +kernel
theorem dX4_needFloor_5 : decode cX4_needFloor 5 = .ok (.invokevirtual 287, 3) := by decide +kernel
theorem dX4_needFloor_8 : decode cX4_needFloor 8 = .ok (.ifCond .ne 14, 3) := by decide +kernel
theorem dX4_needFloor_11 : decode cX4_needFloor 11 = .ok (.new 282, 3) := by decide +kernel
theorem dX4_needFloor_14 : decode cX4_needFloor 14 = .ok (.dup, 1) := by decide +kernel
theorem dX4_needFloor_15 : decode cX4_needFloor 15 = .ok (.ldc_w 290, 3) := by decide +kernel
theorem dX4_needFloor_18 : decode cX4_needFloor 18 = .ok (.invokespecial 286, 3) := by decide +kernel
theorem dX4_needFloor_21 : decode cX4_needFloor 21 = .ok (.athrow, 1) := by decide +kernel
theorem dX4_needFloor_22 : decode cX4_needFloor 22 = .ok (.return_, 1) := by decide +kernel
theorem dX4_needOneOfFour_0 : decode cX4_needOneOfFour 0 = .ok (.iload_n 0, 1) := by decide +kernel
theorem dX4_needOneOfFour_1 : decode cX4_needOneOfFour 1 = .ok (.iconst 0, 1) := by decide +kernel
theorem dX4_needOneOfFour_2 : decode cX4_needOneOfFour 2 = .ok (.iconst 3, 1) := by decide +kernel
theorem dX4_needOneOfFour_3 : decode cX4_needOneOfFour 3 = .ok (.invokestatic 43, 3) := by decide +kernel
theorem dX4_needOneOfFour_6 : decode cX4_needOneOfFour 6 = .ok (.ifCond .ne 14, 3) := by decide +kernel
theorem dX4_needOneOfFour_9 : decode cX4_needOneOfFour 9 = .ok (.new 282, 3) := by decide +kernel
theorem dX4_needOneOfFour_12 : decode cX4_needOneOfFour 12 = .ok (.dup, 1) := by decide +kernel
theorem dX4_needOneOfFour_13 : decode cX4_needOneOfFour 13 = .ok (.ldc_w 292, 3) := by decide +kernel
theorem dX4_needOneOfFour_16 : decode cX4_needOneOfFour 16 = .ok (.invokespecial 286, 3) := by decide +kernel
theorem dX4_needOneOfFour_19 : decode cX4_needOneOfFour 19 = .ok (.athrow, 1) := by decide +kernel
theorem dX4_needOneOfFour_20 : decode cX4_needOneOfFour 20 = .ok (.return_, 1) := by decide +kernel
theorem dX4_needSlot_0 : decode cX4_needSlot 0 = .ok (.iload_n 0, 1) := by decide +kernel
theorem dX4_needSlot_1 : decode cX4_needSlot 1 = .ok (.iconst 0, 1) := by decide +kernel
theorem dX4_needSlot_2 : decode cX4_needSlot 2 = .ok (.iconst 1, 1) := by decide +kernel
theorem dX4_needSlot_3 : decode cX4_needSlot 3 = .ok (.invokestatic 43, 3) := by decide +kernel
theorem dX4_needSlot_6 : decode cX4_needSlot 6 = .ok (.ifCond .ne 14, 3) := by decide +kernel
theorem dX4_needSlot_9 : decode cX4_needSlot 9 = .ok (.new 282, 3) := by decide +kernel
theorem dX4_needSlot_12 : decode cX4_needSlot 12 = .ok (.dup, 1) := by decide +kernel
theorem dX4_needSlot_13 : decode cX4_needSlot 13 = .ok (.ldc_w 294, 3) := by decide +kernel
theorem dX4_needSlot_16 : decode cX4_needSlot 16 = .ok (.invokespecial 286, 3) := by decide +kernel
theorem dX4_needSlot_19 : decode cX4_needSlot 19 = .ok (.athrow, 1) := by decide +kernel
theorem dX4_needSlot_20 : decode cX4_needSlot 20 = .ok (.return_, 1) := by decide +kernel
theorem dX4_acted_0 : decode cX4_acted 0 = .ok (.iload_n 1, 1) := by decide +kernel
theorem dX4_acted_1 : decode cX4_acted 1 = .ok (.bipush (-2), 2) := by decide +kernel
theorem dX4_acted_3 : decode cX4_acted 3 = .ok (.if_icmp .ne 14, 3) := by decide +kernel
theorem dX4_acted_6 : decode cX4_acted 6 = .ok (.new 282, 3) := by decide +kernel
theorem dX4_acted_9 : decode cX4_acted 9 = .ok (.dup, 1) := by decide +kernel
theorem dX4_acted_10 : decode cX4_acted 10 = .ok (.ldc_w 296, 3) := by decide +kernel
theorem dX4_acted_13 : decode cX4_acted 13 = .ok (.invokespecial 286, 3) := by decide +kernel
theorem dX4_acted_16 : decode cX4_acted 16 = .ok (.athrow, 1) := by decide +kernel
theorem dX4_acted_17 : decode cX4_acted 17 = .ok (.iload_n 1, 1) := by decide +kernel
theorem dX4_acted_18 : decode cX4_acted 18 = .ok (.bipush (-3), 2) := by decide +kernel
theorem dX4_acted_20 : decode cX4_acted 20 = .ok (.if_icmp .ne 14, 3) := by decide +kernel
theorem dX4_acted_23 : decode cX4_acted 23 = .ok (.new 47, 3) := by decide +kernel
theorem dX4_acted_26 : decode cX4_acted 26 = .ok (.dup, 1) := by decide +kernel
theorem dX4_acted_27 : decode cX4_acted 27 = .ok (.ldc_w 298, 3) := by decide +kernel
theorem dX4_acted_30 : decode cX4_acted 30 = .ok (.invokespecial 51, 3) := by decide +kernel
theorem dX4_acted_33 : decode cX4_acted 33 = .ok (.athrow, 1) := by decide +kernel
theorem dX4_acted_34 : decode cX4_acted 34 = .ok (.iload_n 1, 1) := by decide +kernel
theorem dX4_acted_35 : decode cX4_acted 35 = .ok (.bipush (-4), 2) := by decide +kernel
theorem dX4_acted_37 : decode cX4_acted 37 = .ok (.if_icmp .ne 14, 3) := by decide +kernel
theorem dX4_acted_40 : decode cX4_acted 40 = .ok (.new 58, 3) := by decide +kernel
theorem dX4_acted_43 : decode cX4_acted 43 = .ok (.dup, 1) := by decide +kernel
theorem dX4_acted_44 : decode cX4_acted 44 = .ok (.ldc_w 300, 3) := by decide +kernel
theorem dX4_acted_47 : decode cX4_acted 47 = .ok (.invokespecial 62, 3) := by decide +kernel
theorem dX4_acted_50 : decode cX4_acted 50 = .ok (.athrow, 1) := by decide +kernel
theorem dX4_acted_51 : decode cX4_acted 51 = .ok (.aload_n 0, 1) := by decide +kernel
theorem dX4_acted_52 : decode cX4_acted 52 = .ok (.getfield 22, 3) := by decide +kernel
theorem dX4_acted_55 : decode cX4_acted 55 = .ok (.invokevirtual 302, 3) := by decide +kernel
theorem dX4_acted_58 : decode cX4_acted 58 = .ok (.iload_n 1, 1) := by decide +kernel
theorem dX4_acted_59 : decode cX4_acted 59 = .ok (.ireturn, 1) := by decide +kernel
theorem dX4_doCommand_0 : decode cX4_doCommand 0 = .ok (.aload_n 0, 1) := by decide +kernel
theorem dX4_doCommand_1 : decode cX4_doCommand 1 = .ok (.getfield 39, 3) := by decide +kernel
theorem dX4_doCommand_4 : decode cX4_doCommand 4 = .ok (.getfield 305, 3) := by decide +kernel
theorem dX4_doCommand_7 : decode cX4_doCommand 7 = .ok (.iconst 0, 1) := by decide +kernel
theorem dX4_doCommand_8 : decode cX4_doCommand 8 = .ok (.invokestatic 111, 3) := by decide +kernel
theorem dX4_doCommand_11 : decode cX4_doCommand 11 = .ok (.istore_n 1, 1) := by decide +kernel
theorem dX4_doCommand_12 : decode cX4_doCommand 12 = .ok (.aload_n 0, 1) := by decide +kernel
theorem dX4_doCommand_13 : decode cX4_doCommand 13 = .ok (.getfield 39, 3) := by decide +kernel
theorem dX4_doCommand_16 : decode cX4_doCommand 16 = .ok (.getfield 305, 3) := by decide +kernel
theorem dX4_doCommand_19 : decode cX4_doCommand 19 = .ok (.iconst 1, 1) := by decide +kernel
theorem dX4_doCommand_20 : decode cX4_doCommand 20 = .ok (.invokestatic 111, 3) := by decide +kernel
theorem dX4_doCommand_23 : decode cX4_doCommand 23 = .ok (.istore_n 2, 1) := by decide +kernel
theorem dX4_doCommand_24 : decode cX4_doCommand 24 = .ok (.aload_n 0, 1) := by decide +kernel
theorem dX4_doCommand_25 : decode cX4_doCommand 25 = .ok (.getfield 39, 3) := by decide +kernel
theorem dX4_doCommand_28 : decode cX4_doCommand 28 = .ok (.getfield 305, 3) := by decide +kernel
theorem dX4_doCommand_31 : decode cX4_doCommand 31 = .ok (.iconst 2, 1) := by decide +kernel
theorem dX4_doCommand_32 : decode cX4_doCommand 32 = .ok (.invokestatic 111, 3) := by decide +kernel
theorem dX4_doCommand_35 : decode cX4_doCommand 35 = .ok (.istore_n 3, 1) := by decide +kernel
theorem dX4_doCommand_36 : decode cX4_doCommand 36 = .ok (.aload_n 0, 1) := by decide +kernel
theorem dX4_doCommand_37 : decode cX4_doCommand 37 = .ok (.getfield 39, 3) := by decide +kernel
theorem dX4_doCommand_40 : decode cX4_doCommand 40 = .ok (.getfield 305, 3) := by decide +kernel
theorem dX4_doCommand_43 : decode cX4_doCommand 43 = .ok (.iconst 3, 1) := by decide +kernel
theorem dX4_doCommand_44 : decode cX4_doCommand 44 = .ok (.invokestatic 111, 3) := by decide +kernel
theorem dX4_doCommand_47 : decode cX4_doCommand 47 = .ok (.istore 4, 2) := by decide +kernel
theorem dX4_doCommand_49 : decode cX4_doCommand 49 = .ok (.aload_n 0, 1) := by decide +kernel
theorem dX4_doCommand_50 : decode cX4_doCommand 50 = .ok (.getfield 39, 3) := by decide +kernel
theorem dX4_doCommand_53 : decode cX4_doCommand 53 = .ok (.getfield 308, 3) := by decide +kernel
theorem dX4_doCommand_56 : decode cX4_doCommand 56 = .ok (.tableswitch 190 98 119 #[149, 104, 190, 190, 136, 179, 125, 190, 190, 190, 190, 190, 190, 190, 190, 190, 190, 114, 160, 190, 190, 169], 104) := by decide +kernel
theorem dX4_doCommand_160 : decode cX4_doCommand 160 = .ok (.aload_n 0, 1) := by decide +kernel
theorem dX4_doCommand_161 : decode cX4_doCommand 161 = .ok (.getfield 10, 3) := by decide +kernel
theorem dX4_doCommand_164 : decode cX4_doCommand 164 = .ok (.iload_n 1, 1) := by decide +kernel
theorem dX4_doCommand_165 : decode cX4_doCommand 165 = .ok (.iload_n 2, 1) := by decide +kernel
theorem dX4_doCommand_166 : decode cX4_doCommand 166 = .ok (.invokevirtual 186, 3) := by decide +kernel
theorem dX4_doCommand_169 : decode cX4_doCommand 169 = .ok (.ireturn, 1) := by decide +kernel
theorem dX4_doCommand_170 : decode cX4_doCommand 170 = .ok (.aload_n 0, 1) := by decide +kernel
theorem dX4_doCommand_171 : decode cX4_doCommand 171 = .ok (.getfield 10, 3) := by decide +kernel
theorem dX4_doCommand_174 : decode cX4_doCommand 174 = .ok (.iload_n 1, 1) := by decide +kernel
theorem dX4_doCommand_175 : decode cX4_doCommand 175 = .ok (.iload_n 2, 1) := by decide +kernel
theorem dX4_doCommand_176 : decode cX4_doCommand 176 = .ok (.iload_n 3, 1) := by decide +kernel
theorem dX4_doCommand_177 : decode cX4_doCommand 177 = .ok (.invokevirtual 203, 3) := by decide +kernel
theorem dX4_doCommand_180 : decode cX4_doCommand 180 = .ok (.ireturn, 1) := by decide +kernel
theorem dX4_doCommand_181 : decode cX4_doCommand 181 = .ok (.aload_n 0, 1) := by decide +kernel
theorem dX4_doCommand_182 : decode cX4_doCommand 182 = .ok (.getfield 10, 3) := by decide +kernel
theorem dX4_doCommand_185 : decode cX4_doCommand 185 = .ok (.iload_n 1, 1) := by decide +kernel
theorem dX4_doCommand_186 : decode cX4_doCommand 186 = .ok (.iload_n 2, 1) := by decide +kernel
theorem dX4_doCommand_187 : decode cX4_doCommand 187 = .ok (.iload_n 3, 1) := by decide +kernel
theorem dX4_doCommand_188 : decode cX4_doCommand 188 = .ok (.invokevirtual 206, 3) := by decide +kernel
theorem dX4_doCommand_191 : decode cX4_doCommand 191 = .ok (.ireturn, 1) := by decide +kernel
theorem dX4_doCommand_192 : decode cX4_doCommand 192 = .ok (.aload_n 0, 1) := by decide +kernel
theorem dX4_doCommand_193 : decode cX4_doCommand 193 = .ok (.getfield 10, 3) := by decide +kernel
theorem dX4_doCommand_196 : decode cX4_doCommand 196 = .ok (.iload_n 1, 1) := by decide +kernel
theorem dX4_doCommand_197 : decode cX4_doCommand 197 = .ok (.iload_n 2, 1) := by decide +kernel
theorem dX4_doCommand_198 : decode cX4_doCommand 198 = .ok (.iload_n 3, 1) := by decide +kernel
theorem dX4_doCommand_199 : decode cX4_doCommand 199 = .ok (.iload 4, 2) := by decide +kernel
theorem dX4_doCommand_201 : decode cX4_doCommand 201 = .ok (.invokevirtual 192, 3) := by decide +kernel
theorem dX4_doCommand_204 : decode cX4_doCommand 204 = .ok (.ireturn, 1) := by decide +kernel
theorem dX4_doCommand_205 : decode cX4_doCommand 205 = .ok (.aload_n 0, 1) := by decide +kernel
theorem dX4_doCommand_206 : decode cX4_doCommand 206 = .ok (.getfield 10, 3) := by decide +kernel
theorem dX4_doCommand_209 : decode cX4_doCommand 209 = .ok (.iload_n 1, 1) := by decide +kernel
theorem dX4_doCommand_210 : decode cX4_doCommand 210 = .ok (.iload_n 2, 1) := by decide +kernel
theorem dX4_doCommand_211 : decode cX4_doCommand 211 = .ok (.iload_n 3, 1) := by decide +kernel
theorem dX4_doCommand_212 : decode cX4_doCommand 212 = .ok (.invokevirtual 200, 3) := by decide +kernel
theorem dX4_doCommand_215 : decode cX4_doCommand 215 = .ok (.ireturn, 1) := by decide +kernel
theorem dX4_doCommand_216 : decode cX4_doCommand 216 = .ok (.aload_n 0, 1) := by decide +kernel
theorem dX4_doCommand_217 : decode cX4_doCommand 217 = .ok (.getfield 10, 3) := by decide +kernel
theorem dX4_doCommand_220 : decode cX4_doCommand 220 = .ok (.iload_n 1, 1) := by decide +kernel
theorem dX4_doCommand_221 : decode cX4_doCommand 221 = .ok (.invokevirtual 209, 3) := by decide +kernel
theorem dX4_doCommand_224 : decode cX4_doCommand 224 = .ok (.ireturn, 1) := by decide +kernel
theorem dX4_doCommand_225 : decode cX4_doCommand 225 = .ok (.aload_n 0, 1) := by decide +kernel
theorem dX4_doCommand_226 : decode cX4_doCommand 226 = .ok (.getfield 10, 3) := by decide +kernel
theorem dX4_doCommand_229 : decode cX4_doCommand 229 = .ok (.iload_n 1, 1) := by decide +kernel
theorem dX4_doCommand_230 : decode cX4_doCommand 230 = .ok (.iload_n 2, 1) := by decide +kernel
theorem dX4_doCommand_231 : decode cX4_doCommand 231 = .ok (.invokevirtual 212, 3) := by decide +kernel
theorem dX4_doCommand_234 : decode cX4_doCommand 234 = .ok (.ireturn, 1) := by decide +kernel
theorem dX4_doCommand_235 : decode cX4_doCommand 235 = .ok (.aload_n 0, 1) := by decide +kernel
theorem dX4_doCommand_236 : decode cX4_doCommand 236 = .ok (.getfield 10, 3) := by decide +kernel
theorem dX4_doCommand_239 : decode cX4_doCommand 239 = .ok (.iload_n 1, 1) := by decide +kernel
theorem dX4_doCommand_240 : decode cX4_doCommand 240 = .ok (.iload_n 2, 1) := by decide +kernel
theorem dX4_doCommand_241 : decode cX4_doCommand 241 = .ok (.iload_n 3, 1) := by decide +kernel
theorem dX4_doCommand_242 : decode cX4_doCommand 242 = .ok (.invokevirtual 215, 3) := by decide +kernel
theorem dX4_doCommand_245 : decode cX4_doCommand 245 = .ok (.ireturn, 1) := by decide +kernel
theorem dX4_doCommand_246 : decode cX4_doCommand 246 = .ok (.bipush (-3), 2) := by decide +kernel
theorem dX4_doCommand_248 : decode cX4_doCommand 248 = .ok (.ireturn, 1) := by decide +kernel
theorem dX4_withoutGroups_0 : decode cX4_withoutGroups 0 = .ok (.lload_n 0, 1) := by decide +kernel
theorem dX4_withoutGroups_1 : decode cX4_withoutGroups 1 = .ok (.lstore_n 3, 1) := by decide +kernel
theorem dX4_withoutGroups_2 : decode cX4_withoutGroups 2 = .ok (.iconst 0, 1) := by decide +kernel
theorem dX4_withoutGroups_3 : decode cX4_withoutGroups 3 = .ok (.istore 5, 2) := by decide +kernel
theorem dX4_withoutGroups_5 : decode cX4_withoutGroups 5 = .ok (.iload 5, 2) := by decide +kernel
theorem dX4_withoutGroups_7 : decode cX4_withoutGroups 7 = .ok (.iload_n 2, 1) := by decide +kernel
theorem dX4_withoutGroups_8 : decode cX4_withoutGroups 8 = .ok (.if_icmp .ge 15, 3) := by decide +kernel
theorem dX4_withoutGroups_11 : decode cX4_withoutGroups 11 = .ok (.lload_n 3, 1) := by decide +kernel
theorem dX4_withoutGroups_12 : decode cX4_withoutGroups 12 = .ok (.ldc2_w 254, 3) := by decide +kernel
theorem dX4_withoutGroups_15 : decode cX4_withoutGroups 15 = .ok (.ldiv, 1) := by decide +kernel
theorem dX4_withoutGroups_16 : decode cX4_withoutGroups 16 = .ok (.lstore_n 3, 1) := by decide +kernel
theorem dX4_withoutGroups_17 : decode cX4_withoutGroups 17 = .ok (.iinc 5 1, 3) := by decide +kernel
theorem dX4_withoutGroups_20 : decode cX4_withoutGroups 20 = .ok (.goto (-15), 3) := by decide +kernel
theorem dX4_withoutGroups_23 : decode cX4_withoutGroups 23 = .ok (.lload_n 3, 1) := by decide +kernel
theorem dX4_withoutGroups_24 : decode cX4_withoutGroups 24 = .ok (.lreturn, 1) := by decide +kernel
theorem dX4_groupSucceeds_0 : decode cX4_groupSucceeds 0 = .ok (.iload_n 1, 1) := by decide +kernel
theorem dX4_groupSucceeds_1 : decode cX4_groupSucceeds 1 = .ok (.sipush 10000, 3) := by decide +kernel
theorem dX4_groupSucceeds_4 : decode cX4_groupSucceeds 4 = .ok (.idiv, 1) := by decide +kernel
theorem dX4_groupSucceeds_5 : decode cX4_groupSucceeds 5 = .ok (.bipush 10, 2) := by decide +kernel
theorem dX4_groupSucceeds_7 : decode cX4_groupSucceeds 7 = .ok (.irem, 1) := by decide +kernel
theorem dX4_groupSucceeds_8 : decode cX4_groupSucceeds 8 = .ok (.istore_n 2, 1) := by decide +kernel
theorem dX4_groupSucceeds_9 : decode cX4_groupSucceeds 9 = .ok (.iload_n 1, 1) := by decide +kernel
theorem dX4_groupSucceeds_10 : decode cX4_groupSucceeds 10 = .ok (.sipush 1000, 3) := by decide +kernel
theorem dX4_groupSucceeds_13 : decode cX4_groupSucceeds 13 = .ok (.idiv, 1) := by decide +kernel
theorem dX4_groupSucceeds_14 : decode cX4_groupSucceeds 14 = .ok (.bipush 10, 2) := by decide +kernel
theorem dX4_groupSucceeds_16 : decode cX4_groupSucceeds 16 = .ok (.irem, 1) := by decide +kernel
theorem dX4_groupSucceeds_17 : decode cX4_groupSucceeds 17 = .ok (.istore_n 3, 1) := by decide +kernel
theorem dX4_groupSucceeds_18 : decode cX4_groupSucceeds 18 = .ok (.iload_n 1, 1) := by decide +kernel
theorem dX4_groupSucceeds_19 : decode cX4_groupSucceeds 19 = .ok (.sipush 1000, 3) := by decide +kernel
theorem dX4_groupSucceeds_22 : decode cX4_groupSucceeds 22 = .ok (.irem, 1) := by decide +kernel
theorem dX4_groupSucceeds_23 : decode cX4_groupSucceeds 23 = .ok (.istore 4, 2) := by decide +kernel
theorem dX4_groupSucceeds_25 : decode cX4_groupSucceeds 25 = .ok (.iload_n 3, 1) := by decide +kernel
theorem dX4_groupSucceeds_26 : decode cX4_groupSucceeds 26 = .ok (.ifCond .ne 7, 3) := by decide +kernel
theorem dX4_groupSucceeds_29 : decode cX4_groupSucceeds 29 = .ok (.iconst 1, 1) := by decide +kernel
theorem dX4_groupSucceeds_30 : decode cX4_groupSucceeds 30 = .ok (.goto 4, 3) := by decide +kernel
theorem dX4_groupSucceeds_33 : decode cX4_groupSucceeds 33 = .ok (.iconst 0, 1) := by decide +kernel
theorem dX4_groupSucceeds_34 : decode cX4_groupSucceeds 34 = .ok (.istore 5, 2) := by decide +kernel
theorem dX4_groupSucceeds_36 : decode cX4_groupSucceeds 36 = .ok (.iload_n 1, 1) := by decide +kernel
theorem dX4_groupSucceeds_37 : decode cX4_groupSucceeds 37 = .ok (.ldc_w 311, 3) := by decide +kernel
theorem dX4_groupSucceeds_40 : decode cX4_groupSucceeds 40 = .ok (.idiv, 1) := by decide +kernel
theorem dX4_groupSucceeds_41 : decode cX4_groupSucceeds 41 = .ok (.tableswitch 276 1 9 #[51, 68, 92, 120, 148, 169, 186, 215, 247], 51) := by decide +kernel
theorem dX4_groupSucceeds_92 : decode cX4_groupSucceeds 92 = .ok (.aload_n 0, 1) := by decide +kernel
theorem dX4_groupSucceeds_93 : decode cX4_groupSucceeds 93 = .ok (.iload_n 2, 1) := by decide +kernel
theorem dX4_groupSucceeds_94 : decode cX4_groupSucceeds 94 = .ok (.iload_n 3, 1) := by decide +kernel
theorem dX4_groupSucceeds_95 : decode cX4_groupSucceeds 95 = .ok (.iload 4, 2) := by decide +kernel
theorem dX4_groupSucceeds_97 : decode cX4_groupSucceeds 97 = .ok (.invokevirtual 203, 3) := by decide +kernel
theorem dX4_groupSucceeds_100 : decode cX4_groupSucceeds 100 = .ok (.ifCond .lt 7, 3) := by decide +kernel
theorem dX4_groupSucceeds_103 : decode cX4_groupSucceeds 103 = .ok (.iconst 1, 1) := by decide +kernel
theorem dX4_groupSucceeds_104 : decode cX4_groupSucceeds 104 = .ok (.goto 4, 3) := by decide +kernel
theorem dX4_groupSucceeds_107 : decode cX4_groupSucceeds 107 = .ok (.iconst 0, 1) := by decide +kernel
theorem dX4_groupSucceeds_108 : decode cX4_groupSucceeds 108 = .ok (.ireturn, 1) := by decide +kernel
theorem dX4_groupSucceeds_109 : decode cX4_groupSucceeds 109 = .ok (.iload 4, 2) := by decide +kernel
theorem dX4_groupSucceeds_111 : decode cX4_groupSucceeds 111 = .ok (.bipush 99, 2) := by decide +kernel
theorem dX4_groupSucceeds_113 : decode cX4_groupSucceeds 113 = .ok (.if_icmp .gt 18, 3) := by decide +kernel
theorem dX4_groupSucceeds_116 : decode cX4_groupSucceeds 116 = .ok (.aload_n 0, 1) := by decide +kernel
theorem dX4_groupSucceeds_117 : decode cX4_groupSucceeds 117 = .ok (.iload_n 2, 1) := by decide +kernel
theorem dX4_groupSucceeds_118 : decode cX4_groupSucceeds 118 = .ok (.iload_n 3, 1) := by decide +kernel
theorem dX4_groupSucceeds_119 : decode cX4_groupSucceeds 119 = .ok (.iload 4, 2) := by decide +kernel
theorem dX4_groupSucceeds_121 : decode cX4_groupSucceeds 121 = .ok (.invokevirtual 206, 3) := by decide +kernel
theorem dX4_groupSucceeds_124 : decode cX4_groupSucceeds 124 = .ok (.ifCond .lt 7, 3) := by decide +kernel
theorem dX4_groupSucceeds_127 : decode cX4_groupSucceeds 127 = .ok (.iconst 1, 1) := by decide +kernel
theorem dX4_groupSucceeds_128 : decode cX4_groupSucceeds 128 = .ok (.goto 4, 3) := by decide +kernel
theorem dX4_groupSucceeds_131 : decode cX4_groupSucceeds 131 = .ok (.iconst 0, 1) := by decide +kernel
theorem dX4_groupSucceeds_132 : decode cX4_groupSucceeds 132 = .ok (.ireturn, 1) := by decide +kernel
theorem dX4_groupSucceeds_133 : decode cX4_groupSucceeds 133 = .ok (.iload 4, 2) := by decide +kernel
theorem dX4_groupSucceeds_135 : decode cX4_groupSucceeds 135 = .ok (.bipush 100, 2) := by decide +kernel
theorem dX4_groupSucceeds_137 : decode cX4_groupSucceeds 137 = .ok (.irem, 1) := by decide +kernel
theorem dX4_groupSucceeds_138 : decode cX4_groupSucceeds 138 = .ok (.ifCond .ne 21, 3) := by decide +kernel
theorem dX4_groupSucceeds_141 : decode cX4_groupSucceeds 141 = .ok (.aload_n 0, 1) := by decide +kernel
theorem dX4_groupSucceeds_142 : decode cX4_groupSucceeds 142 = .ok (.iload_n 2, 1) := by decide +kernel
theorem dX4_groupSucceeds_143 : decode cX4_groupSucceeds 143 = .ok (.iload_n 3, 1) := by decide +kernel
theorem dX4_groupSucceeds_144 : decode cX4_groupSucceeds 144 = .ok (.iload 4, 2) := by decide +kernel
theorem dX4_groupSucceeds_146 : decode cX4_groupSucceeds 146 = .ok (.bipush 100, 2) := by decide +kernel
theorem dX4_groupSucceeds_148 : decode cX4_groupSucceeds 148 = .ok (.idiv, 1) := by decide +kernel
theorem dX4_groupSucceeds_149 : decode cX4_groupSucceeds 149 = .ok (.invokevirtual 200, 3) := by decide +kernel
theorem dX4_groupSucceeds_152 : decode cX4_groupSucceeds 152 = .ok (.ifCond .lt 7, 3) := by decide +kernel
theorem dX4_groupSucceeds_155 : decode cX4_groupSucceeds 155 = .ok (.iconst 1, 1) := by decide +kernel
theorem dX4_groupSucceeds_156 : decode cX4_groupSucceeds 156 = .ok (.goto 4, 3) := by decide +kernel
theorem dX4_groupSucceeds_159 : decode cX4_groupSucceeds 159 = .ok (.iconst 0, 1) := by decide +kernel
theorem dX4_groupSucceeds_160 : decode cX4_groupSucceeds 160 = .ok (.ireturn, 1) := by decide +kernel
theorem dX4_groupSucceeds_161 : decode cX4_groupSucceeds 161 = .ok (.iload 5, 2) := by decide +kernel
theorem dX4_groupSucceeds_163 : decode cX4_groupSucceeds 163 = .ok (.ifCond .eq 24, 3) := by decide +kernel
theorem dX4_groupSucceeds_166 : decode cX4_groupSucceeds 166 = .ok (.iload 4, 2) := by decide +kernel
theorem dX4_groupSucceeds_168 : decode cX4_groupSucceeds 168 = .ok (.bipush 9, 2) := by decide +kernel
theorem dX4_groupSucceeds_170 : decode cX4_groupSucceeds 170 = .ok (.if_icmp .gt 17, 3) := by decide +kernel
theorem dX4_groupSucceeds_173 : decode cX4_groupSucceeds 173 = .ok (.aload_n 0, 1) := by decide +kernel
theorem dX4_groupSucceeds_174 : decode cX4_groupSucceeds 174 = .ok (.iload_n 2, 1) := by decide +kernel
theorem dX4_groupSucceeds_175 : decode cX4_groupSucceeds 175 = .ok (.invokevirtual 209, 3) := by decide +kernel
theorem dX4_groupSucceeds_178 : decode cX4_groupSucceeds 178 = .ok (.iload 4, 2) := by decide +kernel
theorem dX4_groupSucceeds_180 : decode cX4_groupSucceeds 180 = .ok (.if_icmp .ne 7, 3) := by decide +kernel
theorem dX4_groupSucceeds_183 : decode cX4_groupSucceeds 183 = .ok (.iconst 1, 1) := by decide +kernel
theorem dX4_groupSucceeds_184 : decode cX4_groupSucceeds 184 = .ok (.goto 4, 3) := by decide +kernel
theorem dX4_groupSucceeds_187 : decode cX4_groupSucceeds 187 = .ok (.iconst 0, 1) := by decide +kernel
theorem dX4_groupSucceeds_188 : decode cX4_groupSucceeds 188 = .ok (.ireturn, 1) := by decide +kernel
theorem dX4_groupSucceeds_189 : decode cX4_groupSucceeds 189 = .ok (.iload 5, 2) := by decide +kernel
theorem dX4_groupSucceeds_191 : decode cX4_groupSucceeds 191 = .ok (.ifCond .eq 17, 3) := by decide +kernel
theorem dX4_groupSucceeds_194 : decode cX4_groupSucceeds 194 = .ok (.aload_n 0, 1) := by decide +kernel
theorem dX4_groupSucceeds_195 : decode cX4_groupSucceeds 195 = .ok (.iload_n 2, 1) := by decide +kernel
theorem dX4_groupSucceeds_196 : decode cX4_groupSucceeds 196 = .ok (.iload 4, 2) := by decide +kernel
theorem dX4_groupSucceeds_198 : decode cX4_groupSucceeds 198 = .ok (.invokevirtual 212, 3) := by decide +kernel
theorem dX4_groupSucceeds_201 : decode cX4_groupSucceeds 201 = .ok (.ifCond .lt 7, 3) := by decide +kernel
theorem dX4_groupSucceeds_204 : decode cX4_groupSucceeds 204 = .ok (.iconst 1, 1) := by decide +kernel
theorem dX4_groupSucceeds_205 : decode cX4_groupSucceeds 205 = .ok (.goto 4, 3) := by decide +kernel
theorem dX4_groupSucceeds_208 : decode cX4_groupSucceeds 208 = .ok (.iconst 0, 1) := by decide +kernel
theorem dX4_groupSucceeds_209 : decode cX4_groupSucceeds 209 = .ok (.ireturn, 1) := by decide +kernel
theorem dX4_groupSucceeds_210 : decode cX4_groupSucceeds 210 = .ok (.aload_n 0, 1) := by decide +kernel
theorem dX4_groupSucceeds_211 : decode cX4_groupSucceeds 211 = .ok (.iload_n 2, 1) := by decide +kernel
theorem dX4_groupSucceeds_212 : decode cX4_groupSucceeds 212 = .ok (.iload_n 3, 1) := by decide +kernel
theorem dX4_groupSucceeds_213 : decode cX4_groupSucceeds 213 = .ok (.iload 4, 2) := by decide +kernel
theorem dX4_groupSucceeds_215 : decode cX4_groupSucceeds 215 = .ok (.invokevirtual 215, 3) := by decide +kernel
theorem dX4_groupSucceeds_218 : decode cX4_groupSucceeds 218 = .ok (.ifCond .lt 7, 3) := by decide +kernel
theorem dX4_groupSucceeds_221 : decode cX4_groupSucceeds 221 = .ok (.iconst 1, 1) := by decide +kernel
theorem dX4_groupSucceeds_222 : decode cX4_groupSucceeds 222 = .ok (.goto 4, 3) := by decide +kernel
theorem dX4_groupSucceeds_225 : decode cX4_groupSucceeds 225 = .ok (.iconst 0, 1) := by decide +kernel
theorem dX4_groupSucceeds_226 : decode cX4_groupSucceeds 226 = .ok (.ireturn, 1) := by decide +kernel
theorem dX4_groupSucceeds_227 : decode cX4_groupSucceeds 227 = .ok (.iload 5, 2) := by decide +kernel
theorem dX4_groupSucceeds_229 : decode cX4_groupSucceeds 229 = .ok (.ifCond .eq 25, 3) := by decide +kernel
theorem dX4_groupSucceeds_232 : decode cX4_groupSucceeds 232 = .ok (.aload_n 0, 1) := by decide +kernel
theorem dX4_groupSucceeds_233 : decode cX4_groupSucceeds 233 = .ok (.iload_n 2, 1) := by decide +kernel
theorem dX4_groupSucceeds_234 : decode cX4_groupSucceeds 234 = .ok (.invokevirtual 278, 3) := by decide +kernel
theorem dX4_groupSucceeds_237 : decode cX4_groupSucceeds 237 = .ok (.ifCond .eq 17, 3) := by decide +kernel
theorem dX4_groupSucceeds_240 : decode cX4_groupSucceeds 240 = .ok (.aload_n 0, 1) := by decide +kernel
theorem dX4_groupSucceeds_241 : decode cX4_groupSucceeds 241 = .ok (.iload_n 2, 1) := by decide +kernel
theorem dX4_groupSucceeds_242 : decode cX4_groupSucceeds 242 = .ok (.invokevirtual 150, 3) := by decide +kernel
theorem dX4_groupSucceeds_245 : decode cX4_groupSucceeds 245 = .ok (.iload 4, 2) := by decide +kernel
theorem dX4_groupSucceeds_247 : decode cX4_groupSucceeds 247 = .ok (.if_icmp .gt 7, 3) := by decide +kernel
theorem dX4_groupSucceeds_250 : decode cX4_groupSucceeds 250 = .ok (.iconst 1, 1) := by decide +kernel
theorem dX4_groupSucceeds_251 : decode cX4_groupSucceeds 251 = .ok (.goto 4, 3) := by decide +kernel
theorem dX4_groupSucceeds_254 : decode cX4_groupSucceeds 254 = .ok (.iconst 0, 1) := by decide +kernel
theorem dX4_groupSucceeds_255 : decode cX4_groupSucceeds 255 = .ok (.ireturn, 1) := by decide +kernel
theorem dX4_groupSucceeds_256 : decode cX4_groupSucceeds 256 = .ok (.iload 5, 2) := by decide +kernel
theorem dX4_groupSucceeds_258 : decode cX4_groupSucceeds 258 = .ok (.ifCond .eq 28, 3) := by decide +kernel
theorem dX4_groupSucceeds_261 : decode cX4_groupSucceeds 261 = .ok (.aload_n 0, 1) := by decide +kernel
theorem dX4_groupSucceeds_262 : decode cX4_groupSucceeds 262 = .ok (.iload_n 2, 1) := by decide +kernel
theorem dX4_groupSucceeds_263 : decode cX4_groupSucceeds 263 = .ok (.invokevirtual 278, 3) := by decide +kernel
theorem dX4_groupSucceeds_266 : decode cX4_groupSucceeds 266 = .ok (.ifCond .eq 20, 3) := by decide +kernel
theorem dX4_groupSucceeds_269 : decode cX4_groupSucceeds 269 = .ok (.aload_n 0, 1) := by decide +kernel
theorem dX4_groupSucceeds_270 : decode cX4_groupSucceeds 270 = .ok (.getfield 137, 3) := by decide +kernel
theorem dX4_groupSucceeds_273 : decode cX4_groupSucceeds 273 = .ok (.iload_n 2, 1) := by decide +kernel
theorem dX4_groupSucceeds_274 : decode cX4_groupSucceeds 274 = .ok (.invokestatic 111, 3) := by decide +kernel
theorem dX4_groupSucceeds_277 : decode cX4_groupSucceeds 277 = .ok (.iload 4, 2) := by decide +kernel
theorem dX4_groupSucceeds_279 : decode cX4_groupSucceeds 279 = .ok (.if_icmp .ne 7, 3) := by decide +kernel
theorem dX4_groupSucceeds_282 : decode cX4_groupSucceeds 282 = .ok (.iconst 1, 1) := by decide +kernel
theorem dX4_groupSucceeds_283 : decode cX4_groupSucceeds 283 = .ok (.goto 4, 3) := by decide +kernel
theorem dX4_groupSucceeds_286 : decode cX4_groupSucceeds 286 = .ok (.iconst 0, 1) := by decide +kernel
theorem dX4_groupSucceeds_287 : decode cX4_groupSucceeds 287 = .ok (.ireturn, 1) := by decide +kernel
theorem dX4_groupSucceeds_288 : decode cX4_groupSucceeds 288 = .ok (.iload 5, 2) := by decide +kernel
theorem dX4_groupSucceeds_290 : decode cX4_groupSucceeds 290 = .ok (.ifCond .eq 25, 3) := by decide +kernel
theorem dX4_groupSucceeds_293 : decode cX4_groupSucceeds 293 = .ok (.aload_n 0, 1) := by decide +kernel
theorem dX4_groupSucceeds_294 : decode cX4_groupSucceeds 294 = .ok (.iload_n 2, 1) := by decide +kernel
theorem dX4_groupSucceeds_295 : decode cX4_groupSucceeds 295 = .ok (.invokevirtual 278, 3) := by decide +kernel
theorem dX4_groupSucceeds_298 : decode cX4_groupSucceeds 298 = .ok (.ifCond .eq 17, 3) := by decide +kernel
theorem dX4_groupSucceeds_301 : decode cX4_groupSucceeds 301 = .ok (.aload_n 0, 1) := by decide +kernel
theorem dX4_groupSucceeds_302 : decode cX4_groupSucceeds 302 = .ok (.iload_n 2, 1) := by decide +kernel
theorem dX4_groupSucceeds_303 : decode cX4_groupSucceeds 303 = .ok (.invokevirtual 128, 3) := by decide +kernel
theorem dX4_groupSucceeds_306 : decode cX4_groupSucceeds 306 = .ok (.iload 4, 2) := by decide +kernel
theorem dX4_groupSucceeds_308 : decode cX4_groupSucceeds 308 = .ok (.if_icmp .gt 7, 3) := by decide +kernel
theorem dX4_groupSucceeds_311 : decode cX4_groupSucceeds 311 = .ok (.iconst 1, 1) := by decide +kernel
theorem dX4_groupSucceeds_312 : decode cX4_groupSucceeds 312 = .ok (.goto 4, 3) := by decide +kernel
theorem dX4_groupSucceeds_315 : decode cX4_groupSucceeds 315 = .ok (.iconst 0, 1) := by decide +kernel
theorem dX4_groupSucceeds_316 : decode cX4_groupSucceeds 316 = .ok (.ireturn, 1) := by decide +kernel
theorem dX4_groupSucceeds_317 : decode cX4_groupSucceeds 317 = .ok (.iconst 0, 1) := by decide +kernel
theorem dX4_groupSucceeds_318 : decode cX4_groupSucceeds 318 = .ok (.ireturn, 1) := by decide +kernel
theorem dX4_takeTurn_0 : decode cX4_takeTurn 0 = .ok (.iload_n 1, 1) := by decide +kernel
theorem dX4_takeTurn_1 : decode cX4_takeTurn 1 = .ok (.bipush 16, 2) := by decide +kernel
theorem dX4_takeTurn_3 : decode cX4_takeTurn 3 = .ok (.idiv, 1) := by decide +kernel
theorem dX4_takeTurn_4 : decode cX4_takeTurn 4 = .ok (.istore_n 2, 1) := by decide +kernel
theorem dX4_takeTurn_5 : decode cX4_takeTurn 5 = .ok (.iload_n 1, 1) := by decide +kernel
theorem dX4_takeTurn_6 : decode cX4_takeTurn 6 = .ok (.bipush 16, 2) := by decide +kernel
theorem dX4_takeTurn_8 : decode cX4_takeTurn 8 = .ok (.irem, 1) := by decide +kernel
theorem dX4_takeTurn_9 : decode cX4_takeTurn 9 = .ok (.tableswitch 256 0 11 #[63, 63, 84, 118, 141, 141, 168, 195, 219, 219, 219, 231], 63) := by decide +kernel
theorem dX4_takeTurn_72 : decode cX4_takeTurn 72 = .ok (.aload_n 0, 1) := by decide +kernel
theorem dX4_takeTurn_73 : decode cX4_takeTurn 73 = .ok (.iload_n 2, 1) := by decide +kernel
theorem dX4_takeTurn_74 : decode cX4_takeTurn 74 = .ok (.iconst 4, 1) := by decide +kernel
theorem dX4_takeTurn_75 : decode cX4_takeTurn 75 = .ok (.irem, 1) := by decide +kernel
theorem dX4_takeTurn_76 : decode cX4_takeTurn 76 = .ok (.sipush 400, 3) := by decide +kernel
theorem dX4_takeTurn_79 : decode cX4_takeTurn 79 = .ok (.iload_n 2, 1) := by decide +kernel
theorem dX4_takeTurn_80 : decode cX4_takeTurn 80 = .ok (.iconst 4, 1) := by decide +kernel
theorem dX4_takeTurn_81 : decode cX4_takeTurn 81 = .ok (.idiv, 1) := by decide +kernel
theorem dX4_takeTurn_82 : decode cX4_takeTurn 82 = .ok (.bipush 101, 2) := by decide +kernel
theorem dX4_takeTurn_84 : decode cX4_takeTurn 84 = .ok (.irem, 1) := by decide +kernel
theorem dX4_takeTurn_85 : decode cX4_takeTurn 85 = .ok (.iadd, 1) := by decide +kernel
theorem dX4_takeTurn_86 : decode cX4_takeTurn 86 = .ok (.invokevirtual 186, 3) := by decide +kernel
theorem dX4_takeTurn_89 : decode cX4_takeTurn 89 = .ok (.pop, 1) := by decide +kernel
theorem dX4_takeTurn_90 : decode cX4_takeTurn 90 = .ok (.goto 194, 3) := by decide +kernel
theorem dX4_takeTurn_93 : decode cX4_takeTurn 93 = .ok (.aload_n 0, 1) := by decide +kernel
theorem dX4_takeTurn_94 : decode cX4_takeTurn 94 = .ok (.iload_n 2, 1) := by decide +kernel
theorem dX4_takeTurn_95 : decode cX4_takeTurn 95 = .ok (.bipush 9, 2) := by decide +kernel
theorem dX4_takeTurn_97 : decode cX4_takeTurn 97 = .ok (.irem, 1) := by decide +kernel
theorem dX4_takeTurn_98 : decode cX4_takeTurn 98 = .ok (.iload_n 2, 1) := by decide +kernel
theorem dX4_takeTurn_99 : decode cX4_takeTurn 99 = .ok (.bipush 9, 2) := by decide +kernel
theorem dX4_takeTurn_101 : decode cX4_takeTurn 101 = .ok (.idiv, 1) := by decide +kernel
theorem dX4_takeTurn_102 : decode cX4_takeTurn 102 = .ok (.bipush 9, 2) := by decide +kernel
theorem dX4_takeTurn_104 : decode cX4_takeTurn 104 = .ok (.irem, 1) := by decide +kernel
theorem dX4_takeTurn_105 : decode cX4_takeTurn 105 = .ok (.iload_n 2, 1) := by decide +kernel
theorem dX4_takeTurn_106 : decode cX4_takeTurn 106 = .ok (.bipush 81, 2) := by decide +kernel
theorem dX4_takeTurn_108 : decode cX4_takeTurn 108 = .ok (.idiv, 1) := by decide +kernel
theorem dX4_takeTurn_109 : decode cX4_takeTurn 109 = .ok (.bipush 9, 2) := by decide +kernel
theorem dX4_takeTurn_111 : decode cX4_takeTurn 111 = .ok (.irem, 1) := by decide +kernel
theorem dX4_takeTurn_112 : decode cX4_takeTurn 112 = .ok (.iload_n 2, 1) := by decide +kernel
theorem dX4_takeTurn_113 : decode cX4_takeTurn 113 = .ok (.sipush 729, 3) := by decide +kernel
theorem dX4_takeTurn_116 : decode cX4_takeTurn 116 = .ok (.idiv, 1) := by decide +kernel
theorem dX4_takeTurn_117 : decode cX4_takeTurn 117 = .ok (.bipush 9, 2) := by decide +kernel
theorem dX4_takeTurn_119 : decode cX4_takeTurn 119 = .ok (.irem, 1) := by decide +kernel
theorem dX4_takeTurn_120 : decode cX4_takeTurn 120 = .ok (.invokevirtual 192, 3) := by decide +kernel
theorem dX4_takeTurn_123 : decode cX4_takeTurn 123 = .ok (.pop, 1) := by decide +kernel
theorem dX4_takeTurn_124 : decode cX4_takeTurn 124 = .ok (.goto 160, 3) := by decide +kernel
theorem dX4_takeTurn_127 : decode cX4_takeTurn 127 = .ok (.aload_n 0, 1) := by decide +kernel
theorem dX4_takeTurn_128 : decode cX4_takeTurn 128 = .ok (.iload_n 2, 1) := by decide +kernel
theorem dX4_takeTurn_129 : decode cX4_takeTurn 129 = .ok (.iconst 4, 1) := by decide +kernel
theorem dX4_takeTurn_130 : decode cX4_takeTurn 130 = .ok (.irem, 1) := by decide +kernel
theorem dX4_takeTurn_131 : decode cX4_takeTurn 131 = .ok (.iload_n 2, 1) := by decide +kernel
theorem dX4_takeTurn_132 : decode cX4_takeTurn 132 = .ok (.iconst 4, 1) := by decide +kernel
theorem dX4_takeTurn_133 : decode cX4_takeTurn 133 = .ok (.idiv, 1) := by decide +kernel
theorem dX4_takeTurn_134 : decode cX4_takeTurn 134 = .ok (.iconst 4, 1) := by decide +kernel
theorem dX4_takeTurn_135 : decode cX4_takeTurn 135 = .ok (.irem, 1) := by decide +kernel
theorem dX4_takeTurn_136 : decode cX4_takeTurn 136 = .ok (.iload_n 2, 1) := by decide +kernel
theorem dX4_takeTurn_137 : decode cX4_takeTurn 137 = .ok (.bipush 16, 2) := by decide +kernel
theorem dX4_takeTurn_139 : decode cX4_takeTurn 139 = .ok (.idiv, 1) := by decide +kernel
theorem dX4_takeTurn_140 : decode cX4_takeTurn 140 = .ok (.bipush 12, 2) := by decide +kernel
theorem dX4_takeTurn_142 : decode cX4_takeTurn 142 = .ok (.irem, 1) := by decide +kernel
theorem dX4_takeTurn_143 : decode cX4_takeTurn 143 = .ok (.invokevirtual 196, 3) := by decide +kernel
theorem dX4_takeTurn_146 : decode cX4_takeTurn 146 = .ok (.pop, 1) := by decide +kernel
theorem dX4_takeTurn_147 : decode cX4_takeTurn 147 = .ok (.goto 137, 3) := by decide +kernel
theorem dX4_takeTurn_150 : decode cX4_takeTurn 150 = .ok (.aload_n 0, 1) := by decide +kernel
theorem dX4_takeTurn_151 : decode cX4_takeTurn 151 = .ok (.iload_n 2, 1) := by decide +kernel
theorem dX4_takeTurn_152 : decode cX4_takeTurn 152 = .ok (.bipush 10, 2) := by decide +kernel
theorem dX4_takeTurn_154 : decode cX4_takeTurn 154 = .ok (.irem, 1) := by decide +kernel
theorem dX4_takeTurn_155 : decode cX4_takeTurn 155 = .ok (.iload_n 2, 1) := by decide +kernel
theorem dX4_takeTurn_156 : decode cX4_takeTurn 156 = .ok (.bipush 16, 2) := by decide +kernel
theorem dX4_takeTurn_158 : decode cX4_takeTurn 158 = .ok (.idiv, 1) := by decide +kernel
theorem dX4_takeTurn_159 : decode cX4_takeTurn 159 = .ok (.iconst 4, 1) := by decide +kernel
theorem dX4_takeTurn_160 : decode cX4_takeTurn 160 = .ok (.irem, 1) := by decide +kernel
theorem dX4_takeTurn_161 : decode cX4_takeTurn 161 = .ok (.iconst 1, 1) := by decide +kernel
theorem dX4_takeTurn_162 : decode cX4_takeTurn 162 = .ok (.iload_n 2, 1) := by decide +kernel
theorem dX4_takeTurn_163 : decode cX4_takeTurn 163 = .ok (.bipush 64, 2) := by decide +kernel
theorem dX4_takeTurn_165 : decode cX4_takeTurn 165 = .ok (.idiv, 1) := by decide +kernel
theorem dX4_takeTurn_166 : decode cX4_takeTurn 166 = .ok (.bipush 9, 2) := by decide +kernel
theorem dX4_takeTurn_168 : decode cX4_takeTurn 168 = .ok (.irem, 1) := by decide +kernel
theorem dX4_takeTurn_169 : decode cX4_takeTurn 169 = .ok (.iadd, 1) := by decide +kernel
theorem dX4_takeTurn_170 : decode cX4_takeTurn 170 = .ok (.invokevirtual 203, 3) := by decide +kernel
theorem dX4_takeTurn_173 : decode cX4_takeTurn 173 = .ok (.pop, 1) := by decide +kernel
theorem dX4_takeTurn_174 : decode cX4_takeTurn 174 = .ok (.goto 110, 3) := by decide +kernel
theorem dX4_takeTurn_177 : decode cX4_takeTurn 177 = .ok (.aload_n 0, 1) := by decide +kernel
theorem dX4_takeTurn_178 : decode cX4_takeTurn 178 = .ok (.iload_n 2, 1) := by decide +kernel
theorem dX4_takeTurn_179 : decode cX4_takeTurn 179 = .ok (.bipush 10, 2) := by decide +kernel
theorem dX4_takeTurn_181 : decode cX4_takeTurn 181 = .ok (.irem, 1) := by decide +kernel
theorem dX4_takeTurn_182 : decode cX4_takeTurn 182 = .ok (.iload_n 2, 1) := by decide +kernel
theorem dX4_takeTurn_183 : decode cX4_takeTurn 183 = .ok (.bipush 16, 2) := by decide +kernel
theorem dX4_takeTurn_185 : decode cX4_takeTurn 185 = .ok (.idiv, 1) := by decide +kernel
theorem dX4_takeTurn_186 : decode cX4_takeTurn 186 = .ok (.iconst 4, 1) := by decide +kernel
theorem dX4_takeTurn_187 : decode cX4_takeTurn 187 = .ok (.irem, 1) := by decide +kernel
theorem dX4_takeTurn_188 : decode cX4_takeTurn 188 = .ok (.iconst 1, 1) := by decide +kernel
theorem dX4_takeTurn_189 : decode cX4_takeTurn 189 = .ok (.iload_n 2, 1) := by decide +kernel
theorem dX4_takeTurn_190 : decode cX4_takeTurn 190 = .ok (.bipush 64, 2) := by decide +kernel
theorem dX4_takeTurn_192 : decode cX4_takeTurn 192 = .ok (.idiv, 1) := by decide +kernel
theorem dX4_takeTurn_193 : decode cX4_takeTurn 193 = .ok (.bipush 9, 2) := by decide +kernel
theorem dX4_takeTurn_195 : decode cX4_takeTurn 195 = .ok (.irem, 1) := by decide +kernel
theorem dX4_takeTurn_196 : decode cX4_takeTurn 196 = .ok (.iadd, 1) := by decide +kernel
theorem dX4_takeTurn_197 : decode cX4_takeTurn 197 = .ok (.invokevirtual 206, 3) := by decide +kernel
theorem dX4_takeTurn_200 : decode cX4_takeTurn 200 = .ok (.pop, 1) := by decide +kernel
theorem dX4_takeTurn_201 : decode cX4_takeTurn 201 = .ok (.goto 83, 3) := by decide +kernel
theorem dX4_takeTurn_204 : decode cX4_takeTurn 204 = .ok (.aload_n 0, 1) := by decide +kernel
theorem dX4_takeTurn_205 : decode cX4_takeTurn 205 = .ok (.iload_n 2, 1) := by decide +kernel
theorem dX4_takeTurn_206 : decode cX4_takeTurn 206 = .ok (.bipush 10, 2) := by decide +kernel
theorem dX4_takeTurn_208 : decode cX4_takeTurn 208 = .ok (.irem, 1) := by decide +kernel
theorem dX4_takeTurn_209 : decode cX4_takeTurn 209 = .ok (.iload_n 2, 1) := by decide +kernel
theorem dX4_takeTurn_210 : decode cX4_takeTurn 210 = .ok (.bipush 16, 2) := by decide +kernel
theorem dX4_takeTurn_212 : decode cX4_takeTurn 212 = .ok (.idiv, 1) := by decide +kernel
theorem dX4_takeTurn_213 : decode cX4_takeTurn 213 = .ok (.iconst 4, 1) := by decide +kernel
theorem dX4_takeTurn_214 : decode cX4_takeTurn 214 = .ok (.irem, 1) := by decide +kernel
theorem dX4_takeTurn_215 : decode cX4_takeTurn 215 = .ok (.iload_n 2, 1) := by decide +kernel
theorem dX4_takeTurn_216 : decode cX4_takeTurn 216 = .ok (.bipush 64, 2) := by decide +kernel
theorem dX4_takeTurn_218 : decode cX4_takeTurn 218 = .ok (.idiv, 1) := by decide +kernel
theorem dX4_takeTurn_219 : decode cX4_takeTurn 219 = .ok (.iconst 4, 1) := by decide +kernel
theorem dX4_takeTurn_220 : decode cX4_takeTurn 220 = .ok (.irem, 1) := by decide +kernel
theorem dX4_takeTurn_221 : decode cX4_takeTurn 221 = .ok (.invokevirtual 200, 3) := by decide +kernel
theorem dX4_takeTurn_224 : decode cX4_takeTurn 224 = .ok (.pop, 1) := by decide +kernel
theorem dX4_takeTurn_225 : decode cX4_takeTurn 225 = .ok (.goto 59, 3) := by decide +kernel
theorem dX4_takeTurn_228 : decode cX4_takeTurn 228 = .ok (.aload_n 0, 1) := by decide +kernel
theorem dX4_takeTurn_229 : decode cX4_takeTurn 229 = .ok (.iload_n 2, 1) := by decide +kernel
theorem dX4_takeTurn_230 : decode cX4_takeTurn 230 = .ok (.bipush 10, 2) := by decide +kernel
theorem dX4_takeTurn_232 : decode cX4_takeTurn 232 = .ok (.irem, 1) := by decide +kernel
theorem dX4_takeTurn_233 : decode cX4_takeTurn 233 = .ok (.invokevirtual 209, 3) := by decide +kernel
theorem dX4_takeTurn_236 : decode cX4_takeTurn 236 = .ok (.pop, 1) := by decide +kernel
theorem dX4_takeTurn_237 : decode cX4_takeTurn 237 = .ok (.goto 47, 3) := by decide +kernel
theorem dX4_takeTurn_240 : decode cX4_takeTurn 240 = .ok (.aload_n 0, 1) := by decide +kernel
theorem dX4_takeTurn_241 : decode cX4_takeTurn 241 = .ok (.iload_n 2, 1) := by decide +kernel
theorem dX4_takeTurn_242 : decode cX4_takeTurn 242 = .ok (.iconst 4, 1) := by decide +kernel
theorem dX4_takeTurn_243 : decode cX4_takeTurn 243 = .ok (.irem, 1) := by decide +kernel
theorem dX4_takeTurn_244 : decode cX4_takeTurn 244 = .ok (.iconst 2, 1) := by decide +kernel
theorem dX4_takeTurn_245 : decode cX4_takeTurn 245 = .ok (.iload_n 2, 1) := by decide +kernel
theorem dX4_takeTurn_246 : decode cX4_takeTurn 246 = .ok (.iconst 4, 1) := by decide +kernel
theorem dX4_takeTurn_247 : decode cX4_takeTurn 247 = .ok (.idiv, 1) := by decide +kernel
theorem dX4_takeTurn_248 : decode cX4_takeTurn 248 = .ok (.iconst 2, 1) := by decide +kernel
theorem dX4_takeTurn_249 : decode cX4_takeTurn 249 = .ok (.irem, 1) := by decide +kernel
theorem dX4_takeTurn_250 : decode cX4_takeTurn 250 = .ok (.iadd, 1) := by decide +kernel
theorem dX4_takeTurn_251 : decode cX4_takeTurn 251 = .ok (.iload_n 2, 1) := by decide +kernel
theorem dX4_takeTurn_252 : decode cX4_takeTurn 252 = .ok (.bipush 8, 2) := by decide +kernel
theorem dX4_takeTurn_254 : decode cX4_takeTurn 254 = .ok (.idiv, 1) := by decide +kernel
theorem dX4_takeTurn_255 : decode cX4_takeTurn 255 = .ok (.bipush 30, 2) := by decide +kernel
theorem dX4_takeTurn_257 : decode cX4_takeTurn 257 = .ok (.irem, 1) := by decide +kernel
theorem dX4_takeTurn_258 : decode cX4_takeTurn 258 = .ok (.invokevirtual 215, 3) := by decide +kernel
theorem dX4_takeTurn_261 : decode cX4_takeTurn 261 = .ok (.pop, 1) := by decide +kernel
theorem dX4_takeTurn_262 : decode cX4_takeTurn 262 = .ok (.goto 22, 3) := by decide +kernel
theorem dX4_takeTurn_265 : decode cX4_takeTurn 265 = .ok (.aload_n 0, 1) := by decide +kernel
theorem dX4_takeTurn_266 : decode cX4_takeTurn 266 = .ok (.iload_n 2, 1) := by decide +kernel
theorem dX4_takeTurn_267 : decode cX4_takeTurn 267 = .ok (.bipush 10, 2) := by decide +kernel
theorem dX4_takeTurn_269 : decode cX4_takeTurn 269 = .ok (.irem, 1) := by decide +kernel
theorem dX4_takeTurn_270 : decode cX4_takeTurn 270 = .ok (.iconst 1, 1) := by decide +kernel
theorem dX4_takeTurn_271 : decode cX4_takeTurn 271 = .ok (.iload_n 2, 1) := by decide +kernel
theorem dX4_takeTurn_272 : decode cX4_takeTurn 272 = .ok (.bipush 16, 2) := by decide +kernel
theorem dX4_takeTurn_274 : decode cX4_takeTurn 274 = .ok (.idiv, 1) := by decide +kernel
theorem dX4_takeTurn_275 : decode cX4_takeTurn 275 = .ok (.sipush 200, 3) := by decide +kernel
theorem dX4_takeTurn_278 : decode cX4_takeTurn 278 = .ok (.irem, 1) := by decide +kernel
theorem dX4_takeTurn_279 : decode cX4_takeTurn 279 = .ok (.iadd, 1) := by decide +kernel
theorem dX4_takeTurn_280 : decode cX4_takeTurn 280 = .ok (.invokevirtual 212, 3) := by decide +kernel
theorem dX4_takeTurn_283 : decode cX4_takeTurn 283 = .ok (.pop, 1) := by decide +kernel
theorem dX4_takeTurn_284 : decode cX4_takeTurn 284 = .ok (.return_, 1) := by decide +kernel
theorem dX4_within_0 : decode cX4_within 0 = .ok (.iload_n 0, 1) := by decide +kernel
theorem dX4_within_1 : decode cX4_within 1 = .ok (.iload_n 1, 1) := by decide +kernel
theorem dX4_within_2 : decode cX4_within 2 = .ok (.if_icmp .lt 12, 3) := by decide +kernel
theorem dX4_within_5 : decode cX4_within 5 = .ok (.iload_n 0, 1) := by decide +kernel
theorem dX4_within_6 : decode cX4_within 6 = .ok (.iload_n 2, 1) := by decide +kernel
theorem dX4_within_7 : decode cX4_within 7 = .ok (.if_icmp .gt 7, 3) := by decide +kernel
theorem dX4_within_10 : decode cX4_within 10 = .ok (.iconst 1, 1) := by decide +kernel
theorem dX4_within_11 : decode cX4_within 11 = .ok (.goto 4, 3) := by decide +kernel
theorem dX4_within_14 : decode cX4_within 14 = .ok (.iconst 0, 1) := by decide +kernel
theorem dX4_within_15 : decode cX4_within 15 = .ok (.ireturn, 1) := by decide +kernel
theorem dX4_at_0 : decode cX4_at 0 = .ok (.iload_n 1, 1) := by decide +kernel
theorem dX4_at_1 : decode cX4_at 1 = .ok (.ifCond .lt 15, 3) := by decide +kernel
theorem dX4_at_4 : decode cX4_at 4 = .ok (.iload_n 1, 1) := by decide +kernel
theorem dX4_at_5 : decode cX4_at 5 = .ok (.aload_n 0, 1) := by decide +kernel
theorem dX4_at_6 : decode cX4_at 6 = .ok (.arraylength, 1) := by decide +kernel
theorem dX4_at_7 : decode cX4_at 7 = .ok (.if_icmp .ge 9, 3) := by decide +kernel
theorem dX4_at_10 : decode cX4_at 10 = .ok (.aload_n 0, 1) := by decide +kernel
theorem dX4_at_11 : decode cX4_at 11 = .ok (.iload_n 1, 1) := by decide +kernel
theorem dX4_at_12 : decode cX4_at 12 = .ok (.iaload, 1) := by decide +kernel
theorem dX4_at_13 : decode cX4_at 13 = .ok (.goto 4, 3) := by decide +kernel
theorem dX4_at_16 : decode cX4_at 16 = .ok (.iconst 0, 1) := by decide +kernel
theorem dX4_at_17 : decode cX4_at 17 = .ok (.ireturn, 1) := by decide +kernel
theorem dX4_put_0 : decode cX4_put 0 = .ok (.iload_n 1, 1) := by decide +kernel
theorem dX4_put_1 : decode cX4_put 1 = .ok (.ifCond .lt 13, 3) := by decide +kernel
theorem dX4_put_4 : decode cX4_put 4 = .ok (.iload_n 1, 1) := by decide +kernel
theorem dX4_put_5 : decode cX4_put 5 = .ok (.aload_n 0, 1) := by decide +kernel
theorem dX4_put_6 : decode cX4_put 6 = .ok (.arraylength, 1) := by decide +kernel
theorem dX4_put_7 : decode cX4_put 7 = .ok (.if_icmp .ge 7, 3) := by decide +kernel
theorem dX4_put_10 : decode cX4_put 10 = .ok (.aload_n 0, 1) := by decide +kernel
theorem dX4_put_11 : decode cX4_put 11 = .ok (.iload_n 1, 1) := by decide +kernel
theorem dX4_put_12 : decode cX4_put 12 = .ok (.iload_n 2, 1) := by decide +kernel
theorem dX4_put_13 : decode cX4_put 13 = .ok (.iastore, 1) := by decide +kernel
theorem dX4_put_14 : decode cX4_put 14 = .ok (.return_, 1) := by decide +kernel
theorem dX4_fill_0 : decode cX4_fill 0 = .ok (.iconst 0, 1) := by decide +kernel
theorem dX4_fill_1 : decode cX4_fill 1 = .ok (.istore_n 2, 1) := by decide +kernel
theorem dX4_fill_2 : decode cX4_fill 2 = .ok (.iload_n 2, 1) := by decide +kernel
theorem dX4_fill_3 : decode cX4_fill 3 = .ok (.aload_n 0, 1) := by decide +kernel
theorem dX4_fill_4 : decode cX4_fill 4 = .ok (.arraylength, 1) := by decide +kernel
theorem dX4_fill_5 : decode cX4_fill 5 = .ok (.if_icmp .ge 13, 3) := by decide +kernel
theorem dX4_fill_8 : decode cX4_fill 8 = .ok (.aload_n 0, 1) := by decide +kernel
theorem dX4_fill_9 : decode cX4_fill 9 = .ok (.iload_n 2, 1) := by decide +kernel
theorem dX4_fill_10 : decode cX4_fill 10 = .ok (.iload_n 1, 1) := by decide +kernel
theorem dX4_fill_11 : decode cX4_fill 11 = .ok (.iastore, 1) := by decide +kernel
theorem dX4_fill_12 : decode cX4_fill 12 = .ok (.iinc 2 1, 3) := by decide +kernel
theorem dX4_fill_15 : decode cX4_fill 15 = .ok (.goto (-13), 3) := by decide +kernel
theorem dX4_fill_18 : decode cX4_fill 18 = .ok (.return_, 1) := by decide +kernel
theorem dX4_copyRow_0 : decode cX4_copyRow 0 = .ok (.iconst 0, 1) := by decide +kernel
theorem dX4_copyRow_1 : decode cX4_copyRow 1 = .ok (.istore_n 2, 1) := by decide +kernel
theorem dX4_copyRow_2 : decode cX4_copyRow 2 = .ok (.iload_n 2, 1) := by decide +kernel
theorem dX4_copyRow_3 : decode cX4_copyRow 3 = .ok (.aload_n 0, 1) := by decide +kernel
theorem dX4_copyRow_4 : decode cX4_copyRow 4 = .ok (.arraylength, 1) := by decide +kernel
theorem dX4_copyRow_5 : decode cX4_copyRow 5 = .ok (.if_icmp .ge 21, 3) := by decide +kernel
theorem dX4_copyRow_8 : decode cX4_copyRow 8 = .ok (.iload_n 2, 1) := by decide +kernel
theorem dX4_copyRow_9 : decode cX4_copyRow 9 = .ok (.aload_n 1, 1) := by decide +kernel
theorem dX4_copyRow_10 : decode cX4_copyRow 10 = .ok (.arraylength, 1) := by decide +kernel
theorem dX4_copyRow_11 : decode cX4_copyRow 11 = .ok (.if_icmp .ge 15, 3) := by decide +kernel
theorem dX4_copyRow_14 : decode cX4_copyRow 14 = .ok (.aload_n 1, 1) := by decide +kernel
theorem dX4_copyRow_15 : decode cX4_copyRow 15 = .ok (.iload_n 2, 1) := by decide +kernel
theorem dX4_copyRow_16 : decode cX4_copyRow 16 = .ok (.aload_n 0, 1) := by decide +kernel
theorem dX4_copyRow_17 : decode cX4_copyRow 17 = .ok (.iload_n 2, 1) := by decide +kernel
theorem dX4_copyRow_18 : decode cX4_copyRow 18 = .ok (.iaload, 1) := by decide +kernel
theorem dX4_copyRow_19 : decode cX4_copyRow 19 = .ok (.iastore, 1) := by decide +kernel
theorem dX4_copyRow_20 : decode cX4_copyRow 20 = .ok (.iinc 2 1, 3) := by decide +kernel
theorem dX4_copyRow_23 : decode cX4_copyRow 23 = .ok (.goto (-21), 3) := by decide +kernel
theorem dX4_copyRow_26 : decode cX4_copyRow 26 = .ok (.return_, 1) := by decide +kernel
