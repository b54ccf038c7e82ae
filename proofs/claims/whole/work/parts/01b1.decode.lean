theorem dX4_isWord_41 : decode cX4_isWord 41 = .ok (.invokevirtual 127, 3) := by decide +kernel
theorem dX4_isWord_44 : decode cX4_isWord 44 = .ok (.if_icmp .eq 5, 3) := by decide +kernel
theorem dX4_isWord_47 : decode cX4_isWord 47 = .ok (.iconst 0, 1) := by decide +kernel
theorem dX4_isWord_48 : decode cX4_isWord 48 = .ok (.ireturn, 1) := by decide +kernel
theorem dX4_isWord_49 : decode cX4_isWord 49 = .ok (.iinc 2 1, 3) := by decide +kernel
theorem dX4_isWord_52 : decode cX4_isWord 52 = .ok (.goto (-32), 3) := by decide +kernel
theorem dX4_isWord_55 : decode cX4_isWord 55 = .ok (.iconst 1, 1) := by decide +kernel
theorem dX4_isWord_56 : decode cX4_isWord 56 = .ok (.ireturn, 1) := by decide +kernel
theorem dX5_init_0 : decode cX5_init 0 = .ok (.aload_n 0, 1) := by decide +kernel
theorem dX5_init_1 : decode cX5_init 1 = .ok (.invokespecial 1, 3) := by decide +kernel
theorem dX5_init_4 : decode cX5_init 4 = .ok (.aload_n 0, 1) := by decide +kernel
theorem dX5_init_5 : decode cX5_init 5 = .ok (.new 7, 3) := by decide +kernel
theorem dX5_init_8 : decode cX5_init 8 = .ok (.dup, 1) := by decide +kernel
theorem dX5_init_9 : decode cX5_init 9 = .ok (.invokespecial 9, 3) := by decide +kernel
theorem dX5_init_12 : decode cX5_init 12 = .ok (.putfield 10, 3) := by decide +kernel
theorem dX5_init_15 : decode cX5_init 15 = .ok (.aload_n 0, 1) := by decide +kernel
theorem dX5_init_16 : decode cX5_init 16 = .ok (.new 7, 3) := by decide +kernel
theorem dX5_init_19 : decode cX5_init 19 = .ok (.dup, 1) := by decide +kernel
theorem dX5_init_20 : decode cX5_init 20 = .ok (.invokespecial 9, 3) := by decide +kernel
theorem dX5_init_23 : decode cX5_init 23 = .ok (.putfield 16, 3) := by decide +kernel
theorem dX5_init_26 : decode cX5_init 26 = .ok (.aload_n 0, 1) := by decide +kernel
theorem dX5_init_27 : decode cX5_init 27 = .ok (.iconst 2, 1) := by decide +kernel
theorem dX5_init_28 : decode cX5_init 28 = .ok (.anewarray 7, 3) := by decide +kernel
theorem dX5_init_31 : decode cX5_init 31 = .ok (.putfield 19, 3) := by decide +kernel
theorem dX5_init_34 : decode cX5_init 34 = .ok (.aload_n 0, 1) := by decide +kernel
theorem dX5_init_35 : decode cX5_init 35 = .ok (.iconst 2, 1) := by decide +kernel
theorem dX5_init_36 : decode cX5_init 36 = .ok (.newarray .boolean, 2) := by decide +kernel
theorem dX5_init_38 : decode cX5_init 38 = .ok (.putfield 23, 3) := by decide +kernel
theorem dX5_init_41 : decode cX5_init 41 = .ok (.aload_n 0, 1) := by decide +kernel
theorem dX5_init_42 : decode cX5_init 42 = .ok (.new 27, 3) := by decide +kernel
theorem dX5_init_45 : decode cX5_init 45 = .ok (.dup, 1) := by decide +kernel
theorem dX5_init_46 : decode cX5_init 46 = .ok (.invokespecial 29, 3) := by decide +kernel
theorem dX5_init_49 : decode cX5_init 49 = .ok (.putfield 30, 3) := by decide +kernel
theorem dX5_init_52 : decode cX5_init 52 = .ok (.aload_n 0, 1) := by decide +kernel
theorem dX5_init_53 : decode cX5_init 53 = .ok (.new 34, 3) := by decide +kernel
theorem dX5_init_56 : decode cX5_init 56 = .ok (.dup, 1) := by decide +kernel
theorem dX5_init_57 : decode cX5_init 57 = .ok (.invokespecial 36, 3) := by decide +kernel
theorem dX5_init_60 : decode cX5_init 60 = .ok (.putfield 37, 3) := by decide +kernel
theorem dX5_init_63 : decode cX5_init 63 = .ok (.aload_n 0, 1) := by decide +kernel
theorem dX5_init_64 : decode cX5_init 64 = .ok (.new 41, 3) := by decide +kernel
theorem dX5_init_67 : decode cX5_init 67 = .ok (.dup, 1) := by decide +kernel
theorem dX5_init_68 : decode cX5_init 68 = .ok (.invokespecial 43, 3) := by decide +kernel
theorem dX5_init_71 : decode cX5_init 71 = .ok (.putfield 44, 3) := by decide +kernel
theorem dX5_init_74 : decode cX5_init 74 = .ok (.aload_n 0, 1) := by decide +kernel
theorem dX5_init_75 : decode cX5_init 75 = .ok (.bipush 7, 2) := by decide +kernel
theorem dX5_init_77 : decode cX5_init 77 = .ok (.newarray .int, 2) := by decide +kernel
theorem dX5_init_79 : decode cX5_init 79 = .ok (.putfield 48, 3) := by decide +kernel
theorem dX5_init_82 : decode cX5_init 82 = .ok (.aload_n 0, 1) := by decide +kernel
theorem dX5_init_83 : decode cX5_init 83 = .ok (.bipush 6, 2) := by decide +kernel
theorem dX5_init_85 : decode cX5_init 85 = .ok (.newarray .int, 2) := by decide +kernel
theorem dX5_init_87 : decode cX5_init 87 = .ok (.putfield 52, 3) := by decide +kernel
theorem dX5_init_90 : decode cX5_init 90 = .ok (.aload_n 0, 1) := by decide +kernel
theorem dX5_init_91 : decode cX5_init 91 = .ok (.bipush 7, 2) := by decide +kernel
theorem dX5_init_93 : decode cX5_init 93 = .ok (.newarray .int, 2) := by decide +kernel
theorem dX5_init_95 : decode cX5_init 95 = .ok (.putfield 55, 3) := by decide +kernel
theorem dX5_init_98 : decode cX5_init 98 = .ok (.aload_n 0, 1) := by decide +kernel
theorem dX5_init_99 : decode cX5_init 99 = .ok (.bipush 7, 2) := by decide +kernel
theorem dX5_init_101 : decode cX5_init 101 = .ok (.newarray .int, 2) := by decide +kernel
theorem dX5_init_103 : decode cX5_init 103 = .ok (.putfield 58, 3) := by decide +kernel
theorem dX5_init_106 : decode cX5_init 106 = .ok (.aload_n 0, 1) := by decide +kernel
theorem dX5_init_107 : decode cX5_init 107 = .ok (.iconst 3, 1) := by decide +kernel
theorem dX5_init_108 : decode cX5_init 108 = .ok (.newarray .int, 2) := by decide +kernel
theorem dX5_init_110 : decode cX5_init 110 = .ok (.putfield 61, 3) := by decide +kernel
theorem dX5_init_113 : decode cX5_init 113 = .ok (.aload_n 0, 1) := by decide +kernel
theorem dX5_init_114 : decode cX5_init 114 = .ok (.lconst 0, 1) := by decide +kernel
theorem dX5_init_115 : decode cX5_init 115 = .ok (.putfield 64, 3) := by decide +kernel
theorem dX5_init_118 : decode cX5_init 118 = .ok (.aload_n 0, 1) := by decide +kernel
theorem dX5_init_119 : decode cX5_init 119 = .ok (.lconst 1, 1) := by decide +kernel
theorem dX5_init_120 : decode cX5_init 120 = .ok (.putfield 68, 3) := by decide +kernel
theorem dX5_init_123 : decode cX5_init 123 = .ok (.iconst 0, 1) := by decide +kernel
theorem dX5_init_124 : decode cX5_init 124 = .ok (.istore_n 1, 1) := by decide +kernel
theorem dX5_init_125 : decode cX5_init 125 = .ok (.iload_n 1, 1) := by decide +kernel
theorem dX5_init_126 : decode cX5_init 126 = .ok (.iconst 2, 1) := by decide +kernel
theorem dX5_init_127 : decode cX5_init 127 = .ok (.if_icmp .ge 22, 3) := by decide +kernel
theorem dX5_init_130 : decode cX5_init 130 = .ok (.aload_n 0, 1) := by decide +kernel
theorem dX5_init_131 : decode cX5_init 131 = .ok (.getfield 19, 3) := by decide +kernel
theorem dX5_init_134 : decode cX5_init 134 = .ok (.iload_n 1, 1) := by decide +kernel
theorem dX5_init_135 : decode cX5_init 135 = .ok (.new 7, 3) := by decide +kernel
theorem dX5_init_138 : decode cX5_init 138 = .ok (.dup, 1) := by decide +kernel
theorem dX5_init_139 : decode cX5_init 139 = .ok (.invokespecial 9, 3) := by decide +kernel
theorem dX5_init_142 : decode cX5_init 142 = .ok (.aastore, 1) := by decide +kernel
theorem dX5_init_143 : decode cX5_init 143 = .ok (.iinc 1 1, 3) := by decide +kernel
theorem dX5_init_146 : decode cX5_init 146 = .ok (.goto (-21), 3) := by decide +kernel
theorem dX5_init_149 : decode cX5_init 149 = .ok (.return_, 1) := by decide +kernel
theorem dX5_chapter_0 : decode cX5_chapter 0 = .ok (.aload_n 0, 1) := by decide +kernel
theorem dX5_chapter_1 : decode cX5_chapter 1 = .ok (.getfield 10, 3) := by decide +kernel
theorem dX5_chapter_4 : decode cX5_chapter 4 = .ok (.getfield 71, 3) := by decide +kernel
theorem dX5_chapter_7 : decode cX5_chapter 7 = .ok (.istore_n 1, 1) := by decide +kernel
theorem dX5_chapter_8 : decode cX5_chapter 8 = .ok (.aload_n 0, 1) := by decide +kernel
theorem dX5_chapter_9 : decode cX5_chapter 9 = .ok (.getfield 10, 3) := by decide +kernel
theorem dX5_chapter_12 : decode cX5_chapter 12 = .ok (.invokevirtual 75, 3) := by decide +kernel
theorem dX5_chapter_15 : decode cX5_chapter 15 = .ok (.iload_n 1, 1) := by decide +kernel
theorem dX5_chapter_16 : decode cX5_chapter 16 = .ok (.ireturn, 1) := by decide +kernel
theorem dX5_seat_0 : decode cX5_seat 0 = .ok (.iload_n 1, 1) := by decide +kernel
theorem dX5_seat_1 : decode cX5_seat 1 = .ok (.invokestatic 78, 3) := by decide +kernel
theorem dX5_seat_4 : decode cX5_seat 4 = .ok (.ifCond .eq 20, 3) := by decide +kernel
theorem dX5_seat_7 : decode cX5_seat 7 = .ok (.iload_n 2, 1) := by decide +kernel
theorem dX5_seat_8 : decode cX5_seat 8 = .ok (.invokestatic 82, 3) := by decide +kernel
theorem dX5_seat_11 : decode cX5_seat 11 = .ok (.ifCond .eq 13, 3) := by decide +kernel
theorem dX5_seat_14 : decode cX5_seat 14 = .ok (.iload_n 3, 1) := by decide +kernel
theorem dX5_seat_15 : decode cX5_seat 15 = .ok (.iconst 0, 1) := by decide +kernel
theorem dX5_seat_16 : decode cX5_seat 16 = .ok (.bipush 40, 2) := by decide +kernel
theorem dX5_seat_18 : decode cX5_seat 18 = .ok (.invokestatic 85, 3) := by decide +kernel
theorem dX5_seat_21 : decode cX5_seat 21 = .ok (.ifCond .ne 10, 3) := by decide +kernel
theorem dX5_seat_24 : decode cX5_seat 24 = .ok (.aload_n 0, 1) := by decide +kernel
theorem dX5_seat_25 : decode cX5_seat 25 = .ok (.bipush (-2), 2) := by decide +kernel
theorem dX5_seat_27 : decode cX5_seat 27 = .ok (.invokevirtual 89, 3) := by decide +kernel
theorem dX5_seat_30 : decode cX5_seat 30 = .ok (.ireturn, 1) := by decide +kernel
theorem dX5_seat_31 : decode cX5_seat 31 = .ok (.aload_n 0, 1) := by decide +kernel
theorem dX5_seat_32 : decode cX5_seat 32 = .ok (.getfield 10, 3) := by decide +kernel
theorem dX5_seat_35 : decode cX5_seat 35 = .ok (.getfield 93, 3) := by decide +kernel
theorem dX5_seat_38 : decode cX5_seat 38 = .ok (.bipush 7, 2) := by decide +kernel
theorem dX5_seat_40 : decode cX5_seat 40 = .ok (.if_icmp .lt 10, 3) := by decide +kernel
theorem dX5_seat_43 : decode cX5_seat 43 = .ok (.aload_n 0, 1) := by decide +kernel
theorem dX5_seat_44 : decode cX5_seat 44 = .ok (.bipush (-4), 2) := by decide +kernel
theorem dX5_seat_46 : decode cX5_seat 46 = .ok (.invokevirtual 89, 3) := by decide +kernel
theorem dX5_seat_49 : decode cX5_seat 49 = .ok (.ireturn, 1) := by decide +kernel
theorem dX5_seat_50 : decode cX5_seat 50 = .ok (.aload_n 0, 1) := by decide +kernel
theorem dX5_seat_51 : decode cX5_seat 51 = .ok (.getfield 10, 3) := by decide +kernel
theorem dX5_seat_54 : decode cX5_seat 54 = .ok (.iload_n 1, 1) := by decide +kernel
theorem dX5_seat_55 : decode cX5_seat 55 = .ok (.iload_n 2, 1) := by decide +kernel
theorem dX5_seat_56 : decode cX5_seat 56 = .ok (.iload_n 3, 1) := by decide +kernel
theorem dX5_seat_57 : decode cX5_seat 57 = .ok (.invokevirtual 96, 3) := by decide +kernel
theorem dX5_seat_60 : decode cX5_seat 60 = .ok (.ireturn, 1) := by decide +kernel
theorem dX5_canon_0 : decode cX5_canon 0 = .ok (.iload_n 1, 1) := by decide +kernel
theorem dX5_canon_1 : decode cX5_canon 1 = .ok (.invokestatic 78, 3) := by decide +kernel
theorem dX5_canon_4 : decode cX5_canon 4 = .ok (.ifCond .eq 13, 3) := by decide +kernel
theorem dX5_canon_7 : decode cX5_canon 7 = .ok (.iload_n 2, 1) := by decide +kernel
theorem dX5_canon_8 : decode cX5_canon 8 = .ok (.iconst 1, 1) := by decide +kernel
theorem dX5_canon_9 : decode cX5_canon 9 = .ok (.bipush 9, 2) := by decide +kernel
theorem dX5_canon_11 : decode cX5_canon 11 = .ok (.invokestatic 85, 3) := by decide +kernel
theorem dX5_canon_14 : decode cX5_canon 14 = .ok (.ifCond .ne 10, 3) := by decide +kernel
theorem dX5_canon_17 : decode cX5_canon 17 = .ok (.aload_n 0, 1) := by decide +kernel
theorem dX5_canon_18 : decode cX5_canon 18 = .ok (.bipush (-2), 2) := by decide +kernel
theorem dX5_canon_20 : decode cX5_canon 20 = .ok (.invokevirtual 89, 3) := by decide +kernel
theorem dX5_canon_23 : decode cX5_canon 23 = .ok (.ireturn, 1) := by decide +kernel
theorem dX5_canon_24 : decode cX5_canon 24 = .ok (.aload_n 0, 1) := by decide +kernel
theorem dX5_canon_25 : decode cX5_canon 25 = .ok (.getfield 10, 3) := by decide +kernel
theorem dX5_canon_28 : decode cX5_canon 28 = .ok (.getfield 71, 3) := by decide +kernel
theorem dX5_canon_31 : decode cX5_canon 31 = .ok (.iconst 5, 1) := by decide +kernel
theorem dX5_canon_32 : decode cX5_canon 32 = .ok (.if_icmp .lt 10, 3) := by decide +kernel
theorem dX5_canon_35 : decode cX5_canon 35 = .ok (.aload_n 0, 1) := by decide +kernel
theorem dX5_canon_36 : decode cX5_canon 36 = .ok (.bipush (-4), 2) := by decide +kernel
theorem dX5_canon_38 : decode cX5_canon 38 = .ok (.invokevirtual 89, 3) := by decide +kernel
theorem dX5_canon_41 : decode cX5_canon 41 = .ok (.ireturn, 1) := by decide +kernel
theorem dX5_canon_42 : decode cX5_canon 42 = .ok (.aload_n 0, 1) := by decide +kernel
theorem dX5_canon_43 : decode cX5_canon 43 = .ok (.getfield 10, 3) := by decide +kernel
theorem dX5_canon_46 : decode cX5_canon 46 = .ok (.iload_n 1, 1) := by decide +kernel
theorem dX5_canon_47 : decode cX5_canon 47 = .ok (.iload_n 2, 1) := by decide +kernel
theorem dX5_canon_48 : decode cX5_canon 48 = .ok (.invokevirtual 100, 3) := by decide +kernel
theorem dX5_canon_51 : decode cX5_canon 51 = .ok (.ireturn, 1) := by decide +kernel
theorem dX5_type_0 : decode cX5_type 0 = .ok (.iload_n 1, 1) := by decide +kernel
theorem dX5_type_1 : decode cX5_type 1 = .ok (.iconst 0, 1) := by decide +kernel
theorem dX5_type_2 : decode cX5_type 2 = .ok (.bipush 127, 2) := by decide +kernel
theorem dX5_type_4 : decode cX5_type 4 = .ok (.invokestatic 85, 3) := by decide +kernel
theorem dX5_type_7 : decode cX5_type 7 = .ok (.ifCond .ne 10, 3) := by decide +kernel
theorem dX5_type_10 : decode cX5_type 10 = .ok (.aload_n 0, 1) := by decide +kernel
theorem dX5_type_11 : decode cX5_type 11 = .ok (.bipush (-2), 2) := by decide +kernel
theorem dX5_type_13 : decode cX5_type 13 = .ok (.invokevirtual 89, 3) := by decide +kernel
theorem dX5_type_16 : decode cX5_type 16 = .ok (.ireturn, 1) := by decide +kernel
theorem dX5_type_17 : decode cX5_type 17 = .ok (.aload_n 0, 1) := by decide +kernel
theorem dX5_type_18 : decode cX5_type 18 = .ok (.getfield 37, 3) := by decide +kernel
theorem dX5_type_21 : decode cX5_type 21 = .ok (.getfield 104, 3) := by decide +kernel
theorem dX5_type_24 : decode cX5_type 24 = .ok (.sipush 150, 3) := by decide +kernel
theorem dX5_type_27 : decode cX5_type 27 = .ok (.if_icmp .lt 10, 3) := by decide +kernel
theorem dX5_type_30 : decode cX5_type 30 = .ok (.aload_n 0, 1) := by decide +kernel
theorem dX5_type_31 : decode cX5_type 31 = .ok (.bipush (-4), 2) := by decide +kernel
theorem dX5_type_33 : decode cX5_type 33 = .ok (.invokevirtual 89, 3) := by decide +kernel
theorem dX5_type_36 : decode cX5_type 36 = .ok (.ireturn, 1) := by decide +kernel
theorem dX5_type_37 : decode cX5_type 37 = .ok (.aload_n 0, 1) := by decide +kernel
theorem dX5_type_38 : decode cX5_type 38 = .ok (.getfield 37, 3) := by decide +kernel
theorem dX5_type_41 : decode cX5_type 41 = .ok (.getfield 107, 3) := by decide +kernel
theorem dX5_type_44 : decode cX5_type 44 = .ok (.aload_n 0, 1) := by decide +kernel
theorem dX5_type_45 : decode cX5_type 45 = .ok (.getfield 37, 3) := by decide +kernel
theorem dX5_type_48 : decode cX5_type 48 = .ok (.getfield 104, 3) := by decide +kernel
theorem dX5_type_51 : decode cX5_type 51 = .ok (.iload_n 1, 1) := by decide +kernel
theorem dX5_type_52 : decode cX5_type 52 = .ok (.i2b, 1) := by decide +kernel
theorem dX5_type_53 : decode cX5_type 53 = .ok (.bastore, 1) := by decide +kernel
theorem dX5_type_54 : decode cX5_type 54 = .ok (.aload_n 0, 1) := by decide +kernel
theorem dX5_type_55 : decode cX5_type 55 = .ok (.getfield 37, 3) := by decide +kernel
theorem dX5_type_58 : decode cX5_type 58 = .ok (.dup, 1) := by decide +kernel
theorem dX5_type_59 : decode cX5_type 59 = .ok (.getfield 104, 3) := by decide +kernel
theorem dX5_type_62 : decode cX5_type 62 = .ok (.iconst 1, 1) := by decide +kernel
theorem dX5_type_63 : decode cX5_type 63 = .ok (.iadd, 1) := by decide +kernel
theorem dX5_type_64 : decode cX5_type 64 = .ok (.putfield 104, 3) := by decide +kernel
theorem dX5_type_67 : decode cX5_type 67 = .ok (.aload_n 0, 1) := by decide +kernel
theorem dX5_type_68 : decode cX5_type 68 = .ok (.getfield 37, 3) := by decide +kernel
theorem dX5_type_71 : decode cX5_type 71 = .ok (.getfield 104, 3) := by decide +kernel
theorem dX5_type_74 : decode cX5_type 74 = .ok (.ireturn, 1) := by decide +kernel
theorem dX5_clear_0 : decode cX5_clear 0 = .ok (.aload_n 0, 1) := by decide +kernel
theorem dX5_clear_1 : decode cX5_clear 1 = .ok (.getfield 37, 3) := by decide +kernel
theorem dX5_clear_4 : decode cX5_clear 4 = .ok (.getfield 104, 3) := by decide +kernel
theorem dX5_clear_7 : decode cX5_clear 7 = .ok (.istore_n 1, 1) := by decide +kernel
theorem dX5_clear_8 : decode cX5_clear 8 = .ok (.aload_n 0, 1) := by decide +kernel
theorem dX5_clear_9 : decode cX5_clear 9 = .ok (.getfield 37, 3) := by decide +kernel
theorem dX5_clear_12 : decode cX5_clear 12 = .ok (.iconst 0, 1) := by decide +kernel
theorem dX5_clear_13 : decode cX5_clear 13 = .ok (.putfield 104, 3) := by decide +kernel
theorem dX5_clear_16 : decode cX5_clear 16 = .ok (.iload_n 1, 1) := by decide +kernel
theorem dX5_clear_17 : decode cX5_clear 17 = .ok (.ireturn, 1) := by decide +kernel
theorem dX5_read_0 : decode cX5_read 0 = .ok (.aload_n 0, 1) := by decide +kernel
theorem dX5_read_1 : decode cX5_read 1 = .ok (.getfield 37, 3) := by decide +kernel
theorem dX5_read_4 : decode cX5_read 4 = .ok (.aload_n 0, 1) := by decide +kernel
theorem dX5_read_5 : decode cX5_read 5 = .ok (.getfield 16, 3) := by decide +kernel
theorem dX5_read_8 : decode cX5_read 8 = .ok (.invokevirtual 111, 3) := by decide +kernel
theorem dX5_read_11 : decode cX5_read 11 = .ok (.istore_n 1, 1) := by decide +kernel
theorem dX5_read_12 : decode cX5_read 12 = .ok (.iload_n 1, 1) := by decide +kernel
theorem dX5_read_13 : decode cX5_read 13 = .ok (.iconst (-1), 1) := by decide +kernel
theorem dX5_read_14 : decode cX5_read 14 = .ok (.if_icmp .ne 14, 3) := by decide +kernel
theorem dX5_read_17 : decode cX5_read 17 = .ok (.bipush (-10), 2) := by decide +kernel
theorem dX5_read_19 : decode cX5_read 19 = .ok (.aload_n 0, 1) := by decide +kernel
theorem dX5_read_20 : decode cX5_read 20 = .ok (.getfield 37, 3) := by decide +kernel
theorem dX5_read_23 : decode cX5_read 23 = .ok (.getfield 115, 3) := by decide +kernel
theorem dX5_read_26 : decode cX5_read 26 = .ok (.isub, 1) := by decide +kernel
theorem dX5_read_27 : decode cX5_read 27 = .ok (.ireturn, 1) := by decide +kernel
theorem dX5_read_28 : decode cX5_read 28 = .ok (.aload_n 0, 1) := by decide +kernel
theorem dX5_read_29 : decode cX5_read 29 = .ok (.getfield 10, 3) := by decide +kernel
theorem dX5_read_32 : decode cX5_read 32 = .ok (.aload_n 0, 1) := by decide +kernel
theorem dX5_read_33 : decode cX5_read 33 = .ok (.getfield 16, 3) := by decide +kernel
theorem dX5_read_36 : decode cX5_read 36 = .ok (.invokevirtual 118, 3) := by decide +kernel
theorem dX5_read_39 : decode cX5_read 39 = .ok (.iload_n 1, 1) := by decide +kernel
theorem dX5_read_40 : decode cX5_read 40 = .ok (.ireturn, 1) := by decide +kernel
theorem dX5_sits_0 : decode cX5_sits 0 = .ok (.aload_n 0, 1) := by decide +kernel
theorem dX5_sits_1 : decode cX5_sits 1 = .ok (.iload_n 1, 1) := by decide +kernel
theorem dX5_sits_2 : decode cX5_sits 2 = .ok (.invokevirtual 122, 3) := by decide +kernel
theorem dX5_sits_5 : decode cX5_sits 5 = .ok (.ifCond .eq 11, 3) := by decide +kernel
theorem dX5_sits_8 : decode cX5_sits 8 = .ok (.aload_n 0, 1) := by decide +kernel
theorem dX5_sits_9 : decode cX5_sits 9 = .ok (.iload_n 2, 1) := by decide +kernel
theorem dX5_sits_10 : decode cX5_sits 10 = .ok (.invokevirtual 125, 3) := by decide +kernel
theorem dX5_sits_13 : decode cX5_sits 13 = .ok (.ifCond .ne 10, 3) := by decide +kernel
theorem dX5_sits_16 : decode cX5_sits 16 = .ok (.aload_n 0, 1) := by decide +kernel
theorem dX5_sits_17 : decode cX5_sits 17 = .ok (.bipush (-10), 2) := by decide +kernel
theorem dX5_sits_19 : decode cX5_sits 19 = .ok (.invokevirtual 128, 3) := by decide +kernel
theorem dX5_sits_22 : decode cX5_sits 22 = .ok (.ireturn, 1) := by decide +kernel
theorem dX5_sits_23 : decode cX5_sits 23 = .ok (.aload_n 0, 1) := by decide +kernel
theorem dX5_sits_24 : decode cX5_sits 24 = .ok (.getfield 10, 3) := by decide +kernel
theorem dX5_sits_27 : decode cX5_sits 27 = .ok (.getfield 131, 3) := by decide +kernel
theorem dX5_sits_30 : decode cX5_sits 30 = .ok (.iload_n 1, 1) := by decide +kernel
theorem dX5_sits_31 : decode cX5_sits 31 = .ok (.iload_n 2, 1) := by decide +kernel
theorem dX5_sits_32 : decode cX5_sits 32 = .ok (.invokevirtual 134, 3) := by decide +kernel
theorem dX5_sits_35 : decode cX5_sits 35 = .ok (.ifCond .eq 10, 3) := by decide +kernel
theorem dX5_sits_38 : decode cX5_sits 38 = .ok (.aload_n 0, 1) := by decide +kernel
theorem dX5_sits_39 : decode cX5_sits 39 = .ok (.bipush (-3), 2) := by decide +kernel
theorem dX5_sits_41 : decode cX5_sits 41 = .ok (.invokevirtual 89, 3) := by decide +kernel
theorem dX5_sits_44 : decode cX5_sits 44 = .ok (.ireturn, 1) := by decide +kernel
theorem dX5_sits_45 : decode cX5_sits 45 = .ok (.aload_n 0, 1) := by decide +kernel
theorem dX5_sits_46 : decode cX5_sits 46 = .ok (.getfield 10, 3) := by decide +kernel
theorem dX5_sits_49 : decode cX5_sits 49 = .ok (.invokevirtual 138, 3) := by decide +kernel
theorem dX5_sits_52 : decode cX5_sits 52 = .ok (.aload_n 0, 1) := by decide +kernel
theorem dX5_sits_53 : decode cX5_sits 53 = .ok (.getfield 10, 3) := by decide +kernel
theorem dX5_sits_56 : decode cX5_sits 56 = .ok (.getfield 131, 3) := by decide +kernel
theorem dX5_sits_59 : decode cX5_sits 59 = .ok (.getfield 141, 3) := by decide +kernel
theorem dX5_sits_62 : decode cX5_sits 62 = .ok (.iload_n 1, 1) := by decide +kernel
theorem dX5_sits_63 : decode cX5_sits 63 = .ok (.iaload, 1) := by decide +kernel
theorem dX5_sits_64 : decode cX5_sits 64 = .ok (.istore_n 3, 1) := by decide +kernel
theorem dX5_sits_65 : decode cX5_sits 65 = .ok (.aload_n 0, 1) := by decide +kernel
theorem dX5_sits_66 : decode cX5_sits 66 = .ok (.getfield 10, 3) := by decide +kernel
theorem dX5_sits_69 : decode cX5_sits 69 = .ok (.getfield 131, 3) := by decide +kernel
theorem dX5_sits_72 : decode cX5_sits 72 = .ok (.getfield 141, 3) := by decide +kernel
theorem dX5_sits_75 : decode cX5_sits 75 = .ok (.iload_n 1, 1) := by decide +kernel
theorem dX5_sits_76 : decode cX5_sits 76 = .ok (.iload_n 2, 1) := by decide +kernel
theorem dX5_sits_77 : decode cX5_sits 77 = .ok (.iastore, 1) := by decide +kernel
theorem dX5_sits_78 : decode cX5_sits 78 = .ok (.iload_n 3, 1) := by decide +kernel
theorem dX5_sits_79 : decode cX5_sits 79 = .ok (.ireturn, 1) := by decide +kernel
theorem dX5_swap_0 : decode cX5_swap 0 = .ok (.aload_n 0, 1) := by decide +kernel
theorem dX5_swap_1 : decode cX5_swap 1 = .ok (.iload_n 1, 1) := by decide +kernel
theorem dX5_swap_2 : decode cX5_swap 2 = .ok (.invokevirtual 122, 3) := by decide +kernel
theorem dX5_swap_5 : decode cX5_swap 5 = .ok (.ifCond .eq 16, 3) := by decide +kernel
theorem dX5_swap_8 : decode cX5_swap 8 = .ok (.aload_n 0, 1) := by decide +kernel
theorem dX5_swap_9 : decode cX5_swap 9 = .ok (.iload_n 2, 1) := by decide +kernel
theorem dX5_swap_10 : decode cX5_swap 10 = .ok (.invokevirtual 122, 3) := by decide +kernel
theorem dX5_swap_13 : decode cX5_swap 13 = .ok (.ifCond .eq 8, 3) := by decide +kernel
theorem dX5_swap_16 : decode cX5_swap 16 = .ok (.iload_n 1, 1) := by decide +kernel
theorem dX5_swap_17 : decode cX5_swap 17 = .ok (.iload_n 2, 1) := by decide +kernel
theorem dX5_swap_18 : decode cX5_swap 18 = .ok (.if_icmp .ne 10, 3) := by decide +kernel
theorem dX5_swap_21 : decode cX5_swap 21 = .ok (.aload_n 0, 1) := by decide +kernel
theorem dX5_swap_22 : decode cX5_swap 22 = .ok (.bipush (-2), 2) := by decide +kernel
theorem dX5_swap_24 : decode cX5_swap 24 = .ok (.invokevirtual 89, 3) := by decide +kernel
theorem dX5_swap_27 : decode cX5_swap 27 = .ok (.ireturn, 1) := by decide +kernel
theorem dX5_swap_28 : decode cX5_swap 28 = .ok (.aload_n 0, 1) := by decide +kernel
theorem dX5_swap_29 : decode cX5_swap 29 = .ok (.getfield 10, 3) := by decide +kernel
theorem dX5_swap_32 : decode cX5_swap 32 = .ok (.invokevirtual 138, 3) := by decide +kernel
theorem dX5_swap_35 : decode cX5_swap 35 = .ok (.aload_n 0, 1) := by decide +kernel
theorem dX5_swap_36 : decode cX5_swap 36 = .ok (.getfield 10, 3) := by decide +kernel
theorem dX5_swap_39 : decode cX5_swap 39 = .ok (.getfield 131, 3) := by decide +kernel
theorem dX5_swap_42 : decode cX5_swap 42 = .ok (.iload_n 1, 1) := by decide +kernel
theorem dX5_swap_43 : decode cX5_swap 43 = .ok (.iload_n 2, 1) := by decide +kernel
theorem dX5_swap_44 : decode cX5_swap 44 = .ok (.invokevirtual 144, 3) := by decide +kernel
theorem dX5_swap_47 : decode cX5_swap 47 = .ok (.iconst 1, 1) := by decide +kernel
theorem dX5_swap_48 : decode cX5_swap 48 = .ok (.ireturn, 1) := by decide +kernel
theorem dX5_year_0 : decode cX5_year 0 = .ok (.iload_n 1, 1) := by decide +kernel
theorem dX5_year_1 : decode cX5_year 1 = .ok (.iconst 1, 1) := by decide +kernel
theorem dX5_year_2 : decode cX5_year 2 = .ok (.bipush 30, 2) := by decide +kernel
theorem dX5_year_4 : decode cX5_year 4 = .ok (.invokestatic 85, 3) := by decide +kernel
theorem dX5_year_7 : decode cX5_year 7 = .ok (.ifCond .ne 10, 3) := by decide +kernel
theorem dX5_year_10 : decode cX5_year 10 = .ok (.aload_n 0, 1) := by decide +kernel
theorem dX5_year_11 : decode cX5_year 11 = .ok (.bipush (-2), 2) := by decide +kernel
theorem dX5_year_13 : decode cX5_year 13 = .ok (.invokevirtual 89, 3) := by decide +kernel
theorem dX5_year_16 : decode cX5_year 16 = .ok (.ireturn, 1) := by decide +kernel
theorem dX5_year_17 : decode cX5_year 17 = .ok (.aload_n 0, 1) := by decide +kernel
theorem dX5_year_18 : decode cX5_year 18 = .ok (.getfield 10, 3) := by decide +kernel
theorem dX5_year_21 : decode cX5_year 21 = .ok (.invokevirtual 138, 3) := by decide +kernel
theorem dX5_year_24 : decode cX5_year 24 = .ok (.aload_n 0, 1) := by decide +kernel
theorem dX5_year_25 : decode cX5_year 25 = .ok (.getfield 10, 3) := by decide +kernel
theorem dX5_year_28 : decode cX5_year 28 = .ok (.iload_n 1, 1) := by decide +kernel
theorem dX5_year_29 : decode cX5_year 29 = .ok (.invokevirtual 148, 3) := by decide +kernel
theorem dX5_year_32 : decode cX5_year 32 = .ok (.aload_n 0, 1) := by decide +kernel
theorem dX5_year_33 : decode cX5_year 33 = .ok (.getfield 10, 3) := by decide +kernel
theorem dX5_year_36 : decode cX5_year 36 = .ok (.getfield 131, 3) := by decide +kernel
theorem dX5_year_39 : decode cX5_year 39 = .ok (.invokevirtual 152, 3) := by decide +kernel
theorem dX5_year_42 : decode cX5_year 42 = .ok (.ireturn, 1) := by decide +kernel
theorem dX5_undo_0 : decode cX5_undo 0 = .ok (.aload_n 0, 1) := by decide +kernel
theorem dX5_undo_1 : decode cX5_undo 1 = .ok (.getfield 10, 3) := by decide +kernel
theorem dX5_undo_4 : decode cX5_undo 4 = .ok (.getfield 156, 3) := by decide +kernel
theorem dX5_undo_7 : decode cX5_undo 7 = .ok (.iconst 1, 1) := by decide +kernel
theorem dX5_undo_8 : decode cX5_undo 8 = .ok (.if_icmp .ge 10, 3) := by decide +kernel
theorem dX5_undo_11 : decode cX5_undo 11 = .ok (.aload_n 0, 1) := by decide +kernel
theorem dX5_undo_12 : decode cX5_undo 12 = .ok (.bipush (-3), 2) := by decide +kernel
theorem dX5_undo_14 : decode cX5_undo 14 = .ok (.invokevirtual 89, 3) := by decide +kernel
theorem dX5_undo_17 : decode cX5_undo 17 = .ok (.ireturn, 1) := by decide +kernel
theorem dX5_undo_18 : decode cX5_undo 18 = .ok (.aload_n 0, 1) := by decide +kernel
theorem dX5_undo_19 : decode cX5_undo 19 = .ok (.getfield 10, 3) := by decide +kernel
theorem dX5_undo_22 : decode cX5_undo 22 = .ok (.invokevirtual 159, 3) := by decide +kernel
theorem dX5_undo_25 : decode cX5_undo 25 = .ok (.aload_n 0, 1) := by decide +kernel
theorem dX5_undo_26 : decode cX5_undo 26 = .ok (.getfield 10, 3) := by decide +kernel
theorem dX5_undo_29 : decode cX5_undo 29 = .ok (.getfield 131, 3) := by decide +kernel
theorem dX5_undo_32 : decode cX5_undo 32 = .ok (.getfield 162, 3) := by decide +kernel
theorem dX5_undo_35 : decode cX5_undo 35 = .ok (.ireturn, 1) := by decide +kernel
theorem dX5_of_0 : decode cX5_of 0 = .ok (.aload_n 0, 1) := by decide +kernel
theorem dX5_of_1 : decode cX5_of 1 = .ok (.iload_n 1, 1) := by decide +kernel
theorem dX5_of_2 : decode cX5_of 2 = .ok (.invokevirtual 165, 3) := by decide +kernel
theorem dX5_of_5 : decode cX5_of 5 = .ok (.ifCond .eq 12, 3) := by decide +kernel
theorem dX5_of_8 : decode cX5_of 8 = .ok (.iload_n 2, 1) := by decide +kernel
theorem dX5_of_9 : decode cX5_of 9 = .ok (.iconst 0, 1) := by decide +kernel
theorem dX5_of_10 : decode cX5_of 10 = .ok (.iconst 3, 1) := by decide +kernel
theorem dX5_of_11 : decode cX5_of 11 = .ok (.invokestatic 85, 3) := by decide +kernel
theorem dX5_of_14 : decode cX5_of 14 = .ok (.ifCond .ne 10, 3) := by decide +kernel
theorem dX5_of_17 : decode cX5_of 17 = .ok (.aload_n 0, 1) := by decide +kernel
theorem dX5_of_18 : decode cX5_of 18 = .ok (.bipush (-10), 2) := by decide +kernel
theorem dX5_of_20 : decode cX5_of 20 = .ok (.invokevirtual 128, 3) := by decide +kernel
theorem dX5_of_23 : decode cX5_of 23 = .ok (.ireturn, 1) := by decide +kernel
theorem dX5_of_24 : decode cX5_of 24 = .ok (.iload_n 2, 1) := by decide +kernel
theorem dX5_of_25 : decode cX5_of 25 = .ok (.tableswitch 60 0 2 #[27, 37, 47], 27) := by decide +kernel
theorem dX5_of_52 : decode cX5_of 52 = .ok (.aload_n 0, 1) := by decide +kernel
theorem dX5_of_53 : decode cX5_of 53 = .ok (.getfield 10, 3) := by decide +kernel
theorem dX5_of_56 : decode cX5_of 56 = .ok (.getfield 168, 3) := by decide +kernel
theorem dX5_of_59 : decode cX5_of 59 = .ok (.iload_n 1, 1) := by decide +kernel
theorem dX5_of_60 : decode cX5_of 60 = .ok (.iaload, 1) := by decide +kernel
theorem dX5_of_61 : decode cX5_of 61 = .ok (.ireturn, 1) := by decide +kernel
theorem dX5_of_62 : decode cX5_of 62 = .ok (.aload_n 0, 1) := by decide +kernel
theorem dX5_of_63 : decode cX5_of 63 = .ok (.getfield 10, 3) := by decide +kernel
theorem dX5_of_66 : decode cX5_of 66 = .ok (.getfield 171, 3) := by decide +kernel
theorem dX5_of_69 : decode cX5_of 69 = .ok (.iload_n 1, 1) := by decide +kernel
theorem dX5_of_70 : decode cX5_of 70 = .ok (.iaload, 1) := by decide +kernel
theorem dX5_of_71 : decode cX5_of 71 = .ok (.ireturn, 1) := by decide +kernel
theorem dX5_of_72 : decode cX5_of 72 = .ok (.aload_n 0, 1) := by decide +kernel
theorem dX5_of_73 : decode cX5_of 73 = .ok (.getfield 10, 3) := by decide +kernel
theorem dX5_of_76 : decode cX5_of 76 = .ok (.getfield 131, 3) := by decide +kernel
theorem dX5_of_79 : decode cX5_of 79 = .ok (.getfield 174, 3) := by decide +kernel
theorem dX5_of_82 : decode cX5_of 82 = .ok (.iload_n 1, 1) := by decide +kernel
theorem dX5_of_83 : decode cX5_of 83 = .ok (.iaload, 1) := by decide +kernel
theorem dX5_of_84 : decode cX5_of 84 = .ok (.ireturn, 1) := by decide +kernel
theorem dX5_of_85 : decode cX5_of 85 = .ok (.aload_n 0, 1) := by decide +kernel
theorem dX5_of_86 : decode cX5_of 86 = .ok (.getfield 10, 3) := by decide +kernel
theorem dX5_of_89 : decode cX5_of 89 = .ok (.getfield 131, 3) := by decide +kernel
theorem dX5_of_92 : decode cX5_of 92 = .ok (.iload_n 1, 1) := by decide +kernel
theorem dX5_of_93 : decode cX5_of 93 = .ok (.invokevirtual 177, 3) := by decide +kernel
theorem dX5_of_96 : decode cX5_of 96 = .ok (.ireturn, 1) := by decide +kernel
theorem dX5_about_0 : decode cX5_about 0 = .ok (.aload_n 0, 1) := by decide +kernel
theorem dX5_about_1 : decode cX5_about 1 = .ok (.iload_n 1, 1) := by decide +kernel
theorem dX5_about_2 : decode cX5_about 2 = .ok (.invokevirtual 122, 3) := by decide +kernel
theorem dX5_about_5 : decode cX5_about 5 = .ok (.ifCond .eq 12, 3) := by decide +kernel
theorem dX5_about_8 : decode cX5_about 8 = .ok (.iload_n 2, 1) := by decide +kernel
theorem dX5_about_9 : decode cX5_about 9 = .ok (.iconst 0, 1) := by decide +kernel
theorem dX5_about_10 : decode cX5_about 10 = .ok (.iconst 4, 1) := by decide +kernel
theorem dX5_about_11 : decode cX5_about 11 = .ok (.invokestatic 85, 3) := by decide +kernel
theorem dX5_about_14 : decode cX5_about 14 = .ok (.ifCond .ne 10, 3) := by decide +kernel
theorem dX5_about_17 : decode cX5_about 17 = .ok (.aload_n 0, 1) := by decide +kernel
theorem dX5_about_18 : decode cX5_about 18 = .ok (.bipush (-10), 2) := by decide +kernel
theorem dX5_about_20 : decode cX5_about 20 = .ok (.invokevirtual 128, 3) := by decide +kernel
theorem dX5_about_23 : decode cX5_about 23 = .ok (.ireturn, 1) := by decide +kernel
theorem dX5_about_24 : decode cX5_about 24 = .ok (.iload_n 2, 1) := by decide +kernel
theorem dX5_about_25 : decode cX5_about 25 = .ok (.tableswitch 76 0 3 #[31, 41, 51, 64], 31) := by decide +kernel
theorem dX5_about_56 : decode cX5_about 56 = .ok (.aload_n 0, 1) := by decide +kernel
theorem dX5_about_57 : decode cX5_about 57 = .ok (.getfield 10, 3) := by decide +kernel
theorem dX5_about_60 : decode cX5_about 60 = .ok (.getfield 180, 3) := by decide +kernel
theorem dX5_about_63 : decode cX5_about 63 = .ok (.iload_n 1, 1) := by decide +kernel
theorem dX5_about_64 : decode cX5_about 64 = .ok (.iaload, 1) := by decide +kernel
theorem dX5_about_65 : decode cX5_about 65 = .ok (.ireturn, 1) := by decide +kernel
theorem dX5_about_66 : decode cX5_about 66 = .ok (.aload_n 0, 1) := by decide +kernel
theorem dX5_about_67 : decode cX5_about 67 = .ok (.getfield 10, 3) := by decide +kernel
theorem dX5_about_70 : decode cX5_about 70 = .ok (.getfield 183, 3) := by decide +kernel
theorem dX5_about_73 : decode cX5_about 73 = .ok (.iload_n 1, 1) := by decide +kernel
theorem dX5_about_74 : decode cX5_about 74 = .ok (.iaload, 1) := by decide +kernel
theorem dX5_about_75 : decode cX5_about 75 = .ok (.ireturn, 1) := by decide +kernel
theorem dX5_about_76 : decode cX5_about 76 = .ok (.aload_n 0, 1) := by decide +kernel
theorem dX5_about_77 : decode cX5_about 77 = .ok (.getfield 10, 3) := by decide +kernel
theorem dX5_about_80 : decode cX5_about 80 = .ok (.getfield 131, 3) := by decide +kernel
theorem dX5_about_83 : decode cX5_about 83 = .ok (.getfield 141, 3) := by decide +kernel
theorem dX5_about_86 : decode cX5_about 86 = .ok (.iload_n 1, 1) := by decide +kernel
theorem dX5_about_87 : decode cX5_about 87 = .ok (.iaload, 1) := by decide +kernel
theorem dX5_about_88 : decode cX5_about 88 = .ok (.ireturn, 1) := by decide +kernel
theorem dX5_about_89 : decode cX5_about 89 = .ok (.aload_n 0, 1) := by decide +kernel
theorem dX5_about_90 : decode cX5_about 90 = .ok (.getfield 10, 3) := by decide +kernel
theorem dX5_about_93 : decode cX5_about 93 = .ok (.getfield 131, 3) := by decide +kernel
theorem dX5_about_96 : decode cX5_about 96 = .ok (.iload_n 1, 1) := by decide +kernel
theorem dX5_about_97 : decode cX5_about 97 = .ok (.invokevirtual 186, 3) := by decide +kernel
theorem dX5_about_100 : decode cX5_about 100 = .ok (.ireturn, 1) := by decide +kernel
theorem dX5_about_101 : decode cX5_about 101 = .ok (.aload_n 0, 1) := by decide +kernel
theorem dX5_about_102 : decode cX5_about 102 = .ok (.getfield 10, 3) := by decide +kernel
theorem dX5_about_105 : decode cX5_about 105 = .ok (.getfield 189, 3) := by decide +kernel
theorem dX5_about_108 : decode cX5_about 108 = .ok (.iload_n 1, 1) := by decide +kernel
theorem dX5_about_109 : decode cX5_about 109 = .ok (.iaload, 1) := by decide +kernel
theorem dX5_about_110 : decode cX5_about 110 = .ok (.ireturn, 1) := by decide +kernel
theorem dX5_taken_0 : decode cX5_taken 0 = .ok (.aload_n 0, 1) := by decide +kernel
theorem dX5_taken_1 : decode cX5_taken 1 = .ok (.iload_n 1, 1) := by decide +kernel
theorem dX5_taken_2 : decode cX5_taken 2 = .ok (.invokevirtual 122, 3) := by decide +kernel
theorem dX5_taken_5 : decode cX5_taken 5 = .ok (.ifCond .eq 10, 3) := by decide +kernel
theorem dX5_taken_8 : decode cX5_taken 8 = .ok (.iload_n 2, 1) := by decide +kernel
theorem dX5_taken_9 : decode cX5_taken 9 = .ok (.invokestatic 82, 3) := by decide +kernel
theorem dX5_taken_12 : decode cX5_taken 12 = .ok (.ifCond .ne 10, 3) := by decide +kernel
theorem dX5_taken_15 : decode cX5_taken 15 = .ok (.aload_n 0, 1) := by decide +kernel
theorem dX5_taken_16 : decode cX5_taken 16 = .ok (.bipush (-2), 2) := by decide +kernel
theorem dX5_taken_18 : decode cX5_taken 18 = .ok (.invokevirtual 89, 3) := by decide +kernel
theorem dX5_taken_21 : decode cX5_taken 21 = .ok (.ireturn, 1) := by decide +kernel
theorem dX5_taken_22 : decode cX5_taken 22 = .ok (.aload_n 0, 1) := by decide +kernel
theorem dX5_taken_23 : decode cX5_taken 23 = .ok (.getfield 10, 3) := by decide +kernel
theorem dX5_taken_26 : decode cX5_taken 26 = .ok (.getfield 131, 3) := by decide +kernel
theorem dX5_taken_29 : decode cX5_taken 29 = .ok (.iload_n 1, 1) := by decide +kernel
theorem dX5_taken_30 : decode cX5_taken 30 = .ok (.iload_n 2, 1) := by decide +kernel
theorem dX5_taken_31 : decode cX5_taken 31 = .ok (.invokevirtual 192, 3) := by decide +kernel
theorem dX5_taken_34 : decode cX5_taken 34 = .ok (.ireturn, 1) := by decide +kernel
theorem dX5_takes_0 : decode cX5_takes 0 = .ok (.aload_n 0, 1) := by decide +kernel
theorem dX5_takes_1 : decode cX5_takes 1 = .ok (.iload_n 1, 1) := by decide +kernel
theorem dX5_takes_2 : decode cX5_takes 2 = .ok (.invokevirtual 122, 3) := by decide +kernel
theorem dX5_takes_5 : decode cX5_takes 5 = .ok (.ifCond .eq 11, 3) := by decide +kernel
theorem dX5_takes_8 : decode cX5_takes 8 = .ok (.aload_n 0, 1) := by decide +kernel
theorem dX5_takes_9 : decode cX5_takes 9 = .ok (.iload_n 2, 1) := by decide +kernel
theorem dX5_takes_10 : decode cX5_takes 10 = .ok (.invokevirtual 165, 3) := by decide +kernel
theorem dX5_takes_13 : decode cX5_takes 13 = .ok (.ifCond .ne 10, 3) := by decide +kernel
theorem dX5_takes_16 : decode cX5_takes 16 = .ok (.aload_n 0, 1) := by decide +kernel
theorem dX5_takes_17 : decode cX5_takes 17 = .ok (.bipush (-2), 2) := by decide +kernel
theorem dX5_takes_19 : decode cX5_takes 19 = .ok (.invokevirtual 89, 3) := by decide +kernel
theorem dX5_takes_22 : decode cX5_takes 22 = .ok (.ireturn, 1) := by decide +kernel
theorem dX5_takes_23 : decode cX5_takes 23 = .ok (.aload_n 0, 1) := by decide +kernel
theorem dX5_takes_24 : decode cX5_takes 24 = .ok (.getfield 10, 3) := by decide +kernel
theorem dX5_takes_27 : decode cX5_takes 27 = .ok (.aload_n 0, 1) := by decide +kernel
theorem dX5_takes_28 : decode cX5_takes 28 = .ok (.getfield 10, 3) := by decide +kernel
theorem dX5_takes_31 : decode cX5_takes 31 = .ok (.getfield 131, 3) := by decide +kernel
theorem dX5_takes_34 : decode cX5_takes 34 = .ok (.iload_n 1, 1) := by decide +kernel
theorem dX5_takes_35 : decode cX5_takes 35 = .ok (.iload_n 2, 1) := by decide +kernel
theorem dX5_takes_36 : decode cX5_takes 36 = .ok (.invokevirtual 195, 3) := by decide +kernel
theorem dX5_takes_39 : decode cX5_takes 39 = .ok (.ireturn, 1) := by decide +kernel
theorem dX5_then_0 : decode cX5_then 0 = .ok (.aload_n 0, 1) := by decide +kernel
theorem dX5_then_1 : decode cX5_then 1 = .ok (.iload_n 1, 1) := by decide +kernel
theorem dX5_then_2 : decode cX5_then 2 = .ok (.invokevirtual 122, 3) := by decide +kernel
theorem dX5_then_5 : decode cX5_then 5 = .ok (.ifCond .eq 17, 3) := by decide +kernel
theorem dX5_then_8 : decode cX5_then 8 = .ok (.iload_n 2, 1) := by decide +kernel
theorem dX5_then_9 : decode cX5_then 9 = .ok (.invokestatic 82, 3) := by decide +kernel
theorem dX5_then_12 : decode cX5_then 12 = .ok (.ifCond .eq 10, 3) := by decide +kernel
theorem dX5_then_15 : decode cX5_then 15 = .ok (.iload_n 3, 1) := by decide +kernel
theorem dX5_then_16 : decode cX5_then 16 = .ok (.invokestatic 199, 3) := by decide +kernel
theorem dX5_then_19 : decode cX5_then 19 = .ok (.ifCond .ne 10, 3) := by decide +kernel
theorem dX5_then_22 : decode cX5_then 22 = .ok (.aload_n 0, 1) := by decide +kernel
theorem dX5_then_23 : decode cX5_then 23 = .ok (.bipush (-2), 2) := by decide +kernel
theorem dX5_then_25 : decode cX5_then 25 = .ok (.invokevirtual 89, 3) := by decide +kernel
theorem dX5_then_28 : decode cX5_then 28 = .ok (.ireturn, 1) := by decide +kernel
theorem dX5_then_29 : decode cX5_then 29 = .ok (.aload_n 0, 1) := by decide +kernel
theorem dX5_then_30 : decode cX5_then 30 = .ok (.iload_n 3, 1) := by decide +kernel
theorem dX5_then_31 : decode cX5_then 31 = .ok (.invokevirtual 202, 3) := by decide +kernel
theorem dX5_then_34 : decode cX5_then 34 = .ok (.aload_n 0, 1) := by decide +kernel
theorem dX5_then_35 : decode cX5_then 35 = .ok (.getfield 30, 3) := by decide +kernel
theorem dX5_then_38 : decode cX5_then 38 = .ok (.iload_n 1, 1) := by decide +kernel
theorem dX5_then_39 : decode cX5_then 39 = .ok (.iload_n 2, 1) := by decide +kernel
theorem dX5_then_40 : decode cX5_then 40 = .ok (.invokevirtual 192, 3) := by decide +kernel
theorem dX5_then_43 : decode cX5_then 43 = .ok (.ireturn, 1) := by decide +kernel
theorem dX5_depth_0 : decode cX5_depth 0 = .ok (.aload_n 0, 1) := by decide +kernel
theorem dX5_depth_1 : decode cX5_depth 1 = .ok (.iload_n 1, 1) := by decide +kernel
theorem dX5_depth_2 : decode cX5_depth 2 = .ok (.invokevirtual 165, 3) := by decide +kernel
theorem dX5_depth_5 : decode cX5_depth 5 = .ok (.ifCond .eq 10, 3) := by decide +kernel
theorem dX5_depth_8 : decode cX5_depth 8 = .ok (.iload_n 2, 1) := by decide +kernel
theorem dX5_depth_9 : decode cX5_depth 9 = .ok (.invokestatic 199, 3) := by decide +kernel
theorem dX5_depth_12 : decode cX5_depth 12 = .ok (.ifCond .ne 10, 3) := by decide +kernel
theorem dX5_depth_15 : decode cX5_depth 15 = .ok (.aload_n 0, 1) := by decide +kernel
theorem dX5_depth_16 : decode cX5_depth 16 = .ok (.bipush (-2), 2) := by decide +kernel
theorem dX5_depth_18 : decode cX5_depth 18 = .ok (.invokevirtual 89, 3) := by decide +kernel
theorem dX5_depth_21 : decode cX5_depth 21 = .ok (.ireturn, 1) := by decide +kernel
theorem dX5_depth_22 : decode cX5_depth 22 = .ok (.aload_n 0, 1) := by decide +kernel
theorem dX5_depth_23 : decode cX5_depth 23 = .ok (.iload_n 2, 1) := by decide +kernel
theorem dX5_depth_24 : decode cX5_depth 24 = .ok (.invokevirtual 202, 3) := by decide +kernel
theorem dX5_depth_27 : decode cX5_depth 27 = .ok (.aload_n 0, 1) := by decide +kernel
theorem dX5_depth_28 : decode cX5_depth 28 = .ok (.getfield 30, 3) := by decide +kernel
theorem dX5_depth_31 : decode cX5_depth 31 = .ok (.getfield 174, 3) := by decide +kernel
theorem dX5_depth_34 : decode cX5_depth 34 = .ok (.iload_n 1, 1) := by decide +kernel
theorem dX5_depth_35 : decode cX5_depth 35 = .ok (.iaload, 1) := by decide +kernel
theorem dX5_depth_36 : decode cX5_depth 36 = .ok (.ireturn, 1) := by decide +kernel
theorem dX5_when_0 : decode cX5_when 0 = .ok (.aload_n 0, 1) := by decide +kernel
theorem dX5_when_1 : decode cX5_when 1 = .ok (.iload_n 1, 1) := by decide +kernel
theorem dX5_when_2 : decode cX5_when 2 = .ok (.invokevirtual 122, 3) := by decide +kernel
theorem dX5_when_5 : decode cX5_when 5 = .ok (.ifCond .eq 20, 3) := by decide +kernel
theorem dX5_when_8 : decode cX5_when 8 = .ok (.iload_n 2, 1) := by decide +kernel
theorem dX5_when_9 : decode cX5_when 9 = .ok (.invokestatic 82, 3) := by decide +kernel
theorem dX5_when_12 : decode cX5_when 12 = .ok (.ifCond .eq 13, 3) := by decide +kernel
theorem dX5_when_15 : decode cX5_when 15 = .ok (.iload_n 3, 1) := by decide +kernel
theorem dX5_when_16 : decode cX5_when 16 = .ok (.iconst 1, 1) := by decide +kernel
theorem dX5_when_17 : decode cX5_when 17 = .ok (.bipush 99, 2) := by decide +kernel
theorem dX5_when_19 : decode cX5_when 19 = .ok (.invokestatic 85, 3) := by decide +kernel
theorem dX5_when_22 : decode cX5_when 22 = .ok (.ifCond .ne 10, 3) := by decide +kernel
theorem dX5_when_25 : decode cX5_when 25 = .ok (.aload_n 0, 1) := by decide +kernel
theorem dX5_when_26 : decode cX5_when 26 = .ok (.bipush (-2), 2) := by decide +kernel
theorem dX5_when_28 : decode cX5_when 28 = .ok (.invokevirtual 89, 3) := by decide +kernel
theorem dX5_when_31 : decode cX5_when 31 = .ok (.ireturn, 1) := by decide +kernel
theorem dX5_when_32 : decode cX5_when 32 = .ok (.aload_n 0, 1) := by decide +kernel
theorem dX5_when_33 : decode cX5_when 33 = .ok (.iload_n 1, 1) := by decide +kernel
theorem dX5_when_34 : decode cX5_when 34 = .ok (.aload_n 0, 1) := by decide +kernel
theorem dX5_when_35 : decode cX5_when 35 = .ok (.getfield 10, 3) := by decide +kernel
theorem dX5_when_38 : decode cX5_when 38 = .ok (.getfield 131, 3) := by decide +kernel
theorem dX5_when_41 : decode cX5_when 41 = .ok (.getfield 141, 3) := by decide +kernel
theorem dX5_when_44 : decode cX5_when 44 = .ok (.iload_n 1, 1) := by decide +kernel
theorem dX5_when_45 : decode cX5_when 45 = .ok (.iaload, 1) := by decide +kernel
theorem dX5_when_46 : decode cX5_when 46 = .ok (.iload_n 2, 1) := by decide +kernel
theorem dX5_when_47 : decode cX5_when 47 = .ok (.iload_n 3, 1) := by decide +kernel
theorem dX5_when_48 : decode cX5_when 48 = .ok (.invokevirtual 205, 3) := by decide +kernel
theorem dX5_when_51 : decode cX5_when 51 = .ok (.ireturn, 1) := by decide +kernel
theorem dX5_first_0 : decode cX5_first 0 = .ok (.iload_n 1, 1) := by decide +kernel
theorem dX5_first_1 : decode cX5_first 1 = .ok (.invokestatic 82, 3) := by decide +kernel
theorem dX5_first_4 : decode cX5_first 4 = .ok (.ifCond .eq 12, 3) := by decide +kernel
theorem dX5_first_7 : decode cX5_first 7 = .ok (.iload_n 2, 1) := by decide +kernel
theorem dX5_first_8 : decode cX5_first 8 = .ok (.iconst 0, 1) := by decide +kernel
theorem dX5_first_9 : decode cX5_first 9 = .ok (.iconst 1, 1) := by decide +kernel
theorem dX5_first_10 : decode cX5_first 10 = .ok (.invokestatic 85, 3) := by decide +kernel
theorem dX5_first_13 : decode cX5_first 13 = .ok (.ifCond .ne 10, 3) := by decide +kernel
theorem dX5_first_16 : decode cX5_first 16 = .ok (.aload_n 0, 1) := by decide +kernel
theorem dX5_first_17 : decode cX5_first 17 = .ok (.bipush (-2), 2) := by decide +kernel
theorem dX5_first_19 : decode cX5_first 19 = .ok (.invokevirtual 89, 3) := by decide +kernel
theorem dX5_first_22 : decode cX5_first 22 = .ok (.ireturn, 1) := by decide +kernel
theorem dX5_first_23 : decode cX5_first 23 = .ok (.aload_n 0, 1) := by decide +kernel
theorem dX5_first_24 : decode cX5_first 24 = .ok (.getfield 30, 3) := by decide +kernel
theorem dX5_first_27 : decode cX5_first 27 = .ok (.aload_n 0, 1) := by decide +kernel
theorem dX5_first_28 : decode cX5_first 28 = .ok (.getfield 10, 3) := by decide +kernel
theorem dX5_first_31 : decode cX5_first 31 = .ok (.getfield 131, 3) := by decide +kernel
theorem dX5_first_34 : decode cX5_first 34 = .ok (.invokevirtual 209, 3) := by decide +kernel
theorem dX5_first_37 : decode cX5_first 37 = .ok (.iconst 0, 1) := by decide +kernel
theorem dX5_first_38 : decode cX5_first 38 = .ok (.istore_n 3, 1) := by decide +kernel
theorem dX5_first_39 : decode cX5_first 39 = .ok (.iload_n 3, 1) := by decide +kernel
theorem dX5_first_40 : decode cX5_first 40 = .ok (.bipush 60, 2) := by decide +kernel
theorem dX5_first_42 : decode cX5_first 42 = .ok (.if_icmp .gt 54, 3) := by decide +kernel
theorem dX5_first_45 : decode cX5_first 45 = .ok (.aload_n 0, 1) := by decide +kernel
theorem dX5_first_46 : decode cX5_first 46 = .ok (.getfield 30, 3) := by decide +kernel
theorem dX5_first_49 : decode cX5_first 49 = .ok (.iload_n 1, 1) := by decide +kernel
theorem dX5_first_50 : decode cX5_first 50 = .ok (.aload_n 0, 1) := by decide +kernel
theorem dX5_first_51 : decode cX5_first 51 = .ok (.getfield 10, 3) := by decide +kernel
theorem dX5_first_54 : decode cX5_first 54 = .ok (.getfield 71, 3) := by decide +kernel
theorem dX5_first_57 : decode cX5_first 57 = .ok (.invokevirtual 212, 3) := by decide +kernel
theorem dX5_first_60 : decode cX5_first 60 = .ok (.istore 4, 2) := by decide +kernel
theorem dX5_first_62 : decode cX5_first 62 = .ok (.iload 4, 2) := by decide +kernel
theorem dX5_first_64 : decode cX5_first 64 = .ok (.iconst (-1), 1) := by decide +kernel
theorem dX5_first_65 : decode cX5_first 65 = .ok (.if_icmp .eq 14, 3) := by decide +kernel
theorem dX5_first_68 : decode cX5_first 68 = .ok (.iload_n 2, 1) := by decide +kernel
theorem dX5_first_69 : decode cX5_first 69 = .ok (.ifCond .ne 8, 3) := by decide +kernel
theorem dX5_first_72 : decode cX5_first 72 = .ok (.iload 4, 2) := by decide +kernel
theorem dX5_first_74 : decode cX5_first 74 = .ok (.goto 4, 3) := by decide +kernel
theorem dX5_first_77 : decode cX5_first 77 = .ok (.iload_n 3, 1) := by decide +kernel
theorem dX5_first_78 : decode cX5_first 78 = .ok (.ireturn, 1) := by decide +kernel
theorem dX5_first_79 : decode cX5_first 79 = .ok (.aload_n 0, 1) := by decide +kernel
theorem dX5_first_80 : decode cX5_first 80 = .ok (.getfield 10, 3) := by decide +kernel
theorem dX5_first_83 : decode cX5_first 83 = .ok (.aload_n 0, 1) := by decide +kernel
theorem dX5_first_84 : decode cX5_first 84 = .ok (.getfield 30, 3) := by decide +kernel
theorem dX5_first_87 : decode cX5_first 87 = .ok (.invokevirtual 215, 3) := by decide +kernel
theorem dX5_first_90 : decode cX5_first 90 = .ok (.iinc 3 1, 3) := by decide +kernel
theorem dX5_first_93 : decode cX5_first 93 = .ok (.goto (-54), 3) := by decide +kernel
theorem dX5_first_96 : decode cX5_first 96 = .ok (.iconst (-1), 1) := by decide +kernel
theorem dX5_first_97 : decode cX5_first 97 = .ok (.ireturn, 1) := by decide +kernel
theorem dX5_blank_0 : decode cX5_blank 0 = .ok (.aload_n 0, 1) := by decide +kernel
theorem dX5_blank_1 : decode cX5_blank 1 = .ok (.iload_n 1, 1) := by decide +kernel
theorem dX5_blank_2 : decode cX5_blank 2 = .ok (.invokevirtual 165, 3) := by decide +kernel
theorem dX5_blank_5 : decode cX5_blank 5 = .ok (.ifCond .ne 10, 3) := by decide +kernel
theorem dX5_blank_8 : decode cX5_blank 8 = .ok (.aload_n 0, 1) := by decide +kernel
theorem dX5_blank_9 : decode cX5_blank 9 = .ok (.bipush (-2), 2) := by decide +kernel
theorem dX5_blank_11 : decode cX5_blank 11 = .ok (.invokevirtual 89, 3) := by decide +kernel
theorem dX5_blank_14 : decode cX5_blank 14 = .ok (.ireturn, 1) := by decide +kernel
theorem dX5_blank_15 : decode cX5_blank 15 = .ok (.aload_n 0, 1) := by decide +kernel
theorem dX5_blank_16 : decode cX5_blank 16 = .ok (.getfield 30, 3) := by decide +kernel
theorem dX5_blank_19 : decode cX5_blank 19 = .ok (.aload_n 0, 1) := by decide +kernel
theorem dX5_blank_20 : decode cX5_blank 20 = .ok (.getfield 10, 3) := by decide +kernel
theorem dX5_blank_23 : decode cX5_blank 23 = .ok (.getfield 131, 3) := by decide +kernel
theorem dX5_blank_26 : decode cX5_blank 26 = .ok (.invokevirtual 209, 3) := by decide +kernel
theorem dX5_blank_29 : decode cX5_blank 29 = .ok (.iconst 0, 1) := by decide +kernel
theorem dX5_blank_30 : decode cX5_blank 30 = .ok (.istore_n 2, 1) := by decide +kernel
theorem dX5_blank_31 : decode cX5_blank 31 = .ok (.iload_n 2, 1) := by decide +kernel
theorem dX5_blank_32 : decode cX5_blank 32 = .ok (.bipush 60, 2) := by decide +kernel
theorem dX5_blank_34 : decode cX5_blank 34 = .ok (.if_icmp .gt 54, 3) := by decide +kernel
theorem dX5_blank_37 : decode cX5_blank 37 = .ok (.aload_n 0, 1) := by decide +kernel
theorem dX5_blank_38 : decode cX5_blank 38 = .ok (.getfield 10, 3) := by decide +kernel
theorem dX5_blank_41 : decode cX5_blank 41 = .ok (.getfield 168, 3) := by decide +kernel
theorem dX5_blank_44 : decode cX5_blank 44 = .ok (.iload_n 1, 1) := by decide +kernel
theorem dX5_blank_45 : decode cX5_blank 45 = .ok (.iaload, 1) := by decide +kernel
theorem dX5_blank_46 : decode cX5_blank 46 = .ok (.aload_n 0, 1) := by decide +kernel
theorem dX5_blank_47 : decode cX5_blank 47 = .ok (.getfield 30, 3) := by decide +kernel
theorem dX5_blank_50 : decode cX5_blank 50 = .ok (.getfield 174, 3) := by decide +kernel
theorem dX5_blank_53 : decode cX5_blank 53 = .ok (.iload_n 1, 1) := by decide +kernel
theorem dX5_blank_54 : decode cX5_blank 54 = .ok (.iaload, 1) := by decide +kernel
theorem dX5_blank_55 : decode cX5_blank 55 = .ok (.aload_n 0, 1) := by decide +kernel
theorem dX5_blank_56 : decode cX5_blank 56 = .ok (.getfield 30, 3) := by decide +kernel
theorem dX5_blank_59 : decode cX5_blank 59 = .ok (.getfield 162, 3) := by decide +kernel
theorem dX5_blank_62 : decode cX5_blank 62 = .ok (.iconst 0, 1) := by decide +kernel
theorem dX5_blank_63 : decode cX5_blank 63 = .ok (.invokestatic 218, 3) := by decide +kernel
theorem dX5_blank_66 : decode cX5_blank 66 = .ok (.ifCond .ne 5, 3) := by decide +kernel
theorem dX5_blank_69 : decode cX5_blank 69 = .ok (.iload_n 2, 1) := by decide +kernel
theorem dX5_blank_70 : decode cX5_blank 70 = .ok (.ireturn, 1) := by decide +kernel
theorem dX5_blank_71 : decode cX5_blank 71 = .ok (.aload_n 0, 1) := by decide +kernel
theorem dX5_blank_72 : decode cX5_blank 72 = .ok (.getfield 10, 3) := by decide +kernel
theorem dX5_blank_75 : decode cX5_blank 75 = .ok (.aload_n 0, 1) := by decide +kernel
theorem dX5_blank_76 : decode cX5_blank 76 = .ok (.getfield 30, 3) := by decide +kernel
theorem dX5_blank_79 : decode cX5_blank 79 = .ok (.invokevirtual 215, 3) := by decide +kernel
theorem dX5_blank_82 : decode cX5_blank 82 = .ok (.iinc 2 1, 3) := by decide +kernel
theorem dX5_blank_85 : decode cX5_blank 85 = .ok (.goto (-54), 3) := by decide +kernel
theorem dX5_blank_88 : decode cX5_blank 88 = .ok (.iconst (-1), 1) := by decide +kernel
theorem dX5_blank_89 : decode cX5_blank 89 = .ok (.ireturn, 1) := by decide +kernel
theorem dX5_place_0 : decode cX5_place 0 = .ok (.aload_n 0, 1) := by decide +kernel
theorem dX5_place_1 : decode cX5_place 1 = .ok (.iload_n 1, 1) := by decide +kernel
theorem dX5_place_2 : decode cX5_place 2 = .ok (.invokevirtual 122, 3) := by decide +kernel
theorem dX5_place_5 : decode cX5_place 5 = .ok (.ifCond .eq 30, 3) := by decide +kernel
theorem dX5_place_8 : decode cX5_place 8 = .ok (.iload_n 2, 1) := by decide +kernel
theorem dX5_place_9 : decode cX5_place 9 = .ok (.invokestatic 82, 3) := by decide +kernel
theorem dX5_place_12 : decode cX5_place 12 = .ok (.ifCond .eq 23, 3) := by decide +kernel
theorem dX5_place_15 : decode cX5_place 15 = .ok (.iload_n 3, 1) := by decide +kernel
theorem dX5_place_16 : decode cX5_place 16 = .ok (.iconst 1, 1) := by decide +kernel
theorem dX5_place_17 : decode cX5_place 17 = .ok (.bipush 99, 2) := by decide +kernel
theorem dX5_place_19 : decode cX5_place 19 = .ok (.invokestatic 85, 3) := by decide +kernel
theorem dX5_place_22 : decode cX5_place 22 = .ok (.ifCond .eq 13, 3) := by decide +kernel
theorem dX5_place_25 : decode cX5_place 25 = .ok (.iload 4, 2) := by decide +kernel
theorem dX5_place_27 : decode cX5_place 27 = .ok (.iconst 0, 1) := by decide +kernel
theorem dX5_place_28 : decode cX5_place 28 = .ok (.iconst 1, 1) := by decide +kernel
theorem dX5_place_29 : decode cX5_place 29 = .ok (.invokestatic 85, 3) := by decide +kernel
theorem dX5_place_32 : decode cX5_place 32 = .ok (.ifCond .ne 10, 3) := by decide +kernel
theorem dX5_place_35 : decode cX5_place 35 = .ok (.aload_n 0, 1) := by decide +kernel
theorem dX5_place_36 : decode cX5_place 36 = .ok (.bipush (-2), 2) := by decide +kernel
theorem dX5_place_38 : decode cX5_place 38 = .ok (.invokevirtual 89, 3) := by decide +kernel
theorem dX5_place_41 : decode cX5_place 41 = .ok (.ireturn, 1) := by decide +kernel
theorem dX5_place_42 : decode cX5_place 42 = .ok (.iconst (-1), 1) := by decide +kernel
theorem dX5_place_43 : decode cX5_place 43 = .ok (.istore 5, 2) := by decide +kernel
theorem dX5_place_45 : decode cX5_place 45 = .ok (.iconst (-1), 1) := by decide +kernel
theorem dX5_place_46 : decode cX5_place 46 = .ok (.istore 6, 2) := by decide +kernel
theorem dX5_place_48 : decode cX5_place 48 = .ok (.iconst 0, 1) := by decide +kernel
theorem dX5_place_49 : decode cX5_place 49 = .ok (.istore 7, 2) := by decide +kernel
theorem dX5_place_51 : decode cX5_place 51 = .ok (.iload 7, 2) := by decide +kernel
theorem dX5_place_53 : decode cX5_place 53 = .ok (.aload_n 0, 1) := by decide +kernel
theorem dX5_place_54 : decode cX5_place 54 = .ok (.getfield 10, 3) := by decide +kernel
theorem dX5_place_57 : decode cX5_place 57 = .ok (.getfield 93, 3) := by decide +kernel
theorem dX5_place_60 : decode cX5_place 60 = .ok (.if_icmp .ge 67, 3) := by decide +kernel
theorem dX5_place_63 : decode cX5_place 63 = .ok (.aload_n 0, 1) := by decide +kernel
theorem dX5_place_64 : decode cX5_place 64 = .ok (.getfield 10, 3) := by decide +kernel
theorem dX5_place_67 : decode cX5_place 67 = .ok (.getfield 131, 3) := by decide +kernel
theorem dX5_place_70 : decode cX5_place 70 = .ok (.iload_n 1, 1) := by decide +kernel
theorem dX5_place_71 : decode cX5_place 71 = .ok (.iload 7, 2) := by decide +kernel
theorem dX5_place_73 : decode cX5_place 73 = .ok (.invokevirtual 134, 3) := by decide +kernel
theorem dX5_place_76 : decode cX5_place 76 = .ok (.ifCond .eq 7, 3) := by decide +kernel
theorem dX5_place_79 : decode cX5_place 79 = .ok (.iconst (-1), 1) := by decide +kernel
theorem dX5_place_80 : decode cX5_place 80 = .ok (.goto 12, 3) := by decide +kernel
theorem dX5_place_83 : decode cX5_place 83 = .ok (.aload_n 0, 1) := by decide +kernel
theorem dX5_place_84 : decode cX5_place 84 = .ok (.iload_n 1, 1) := by decide +kernel
theorem dX5_place_85 : decode cX5_place 85 = .ok (.iload 7, 2) := by decide +kernel
theorem dX5_place_87 : decode cX5_place 87 = .ok (.iload_n 2, 1) := by decide +kernel
theorem dX5_place_88 : decode cX5_place 88 = .ok (.iload_n 3, 1) := by decide +kernel
theorem dX5_place_89 : decode cX5_place 89 = .ok (.invokevirtual 205, 3) := by decide +kernel
theorem dX5_place_92 : decode cX5_place 92 = .ok (.istore 8, 2) := by decide +kernel
theorem dX5_place_94 : decode cX5_place 94 = .ok (.iload 8, 2) := by decide +kernel
theorem dX5_place_96 : decode cX5_place 96 = .ok (.iconst (-1), 1) := by decide +kernel
theorem dX5_place_97 : decode cX5_place 97 = .ok (.if_icmp .eq 24, 3) := by decide +kernel
theorem dX5_place_100 : decode cX5_place 100 = .ok (.iload 6, 2) := by decide +kernel
theorem dX5_place_102 : decode cX5_place 102 = .ok (.iconst (-1), 1) := by decide +kernel
theorem dX5_place_103 : decode cX5_place 103 = .ok (.if_icmp .eq 10, 3) := by decide +kernel
theorem dX5_place_106 : decode cX5_place 106 = .ok (.iload 8, 2) := by decide +kernel
theorem dX5_place_108 : decode cX5_place 108 = .ok (.iload 6, 2) := by decide +kernel
theorem dX5_place_110 : decode cX5_place 110 = .ok (.if_icmp .ge 11, 3) := by decide +kernel
theorem dX5_place_113 : decode cX5_place 113 = .ok (.iload 7, 2) := by decide +kernel
theorem dX5_place_115 : decode cX5_place 115 = .ok (.istore 5, 2) := by decide +kernel
theorem dX5_place_117 : decode cX5_place 117 = .ok (.iload 8, 2) := by decide +kernel
theorem dX5_place_119 : decode cX5_place 119 = .ok (.istore 6, 2) := by decide +kernel
theorem dX5_place_121 : decode cX5_place 121 = .ok (.iinc 7 1, 3) := by decide +kernel
theorem dX5_place_124 : decode cX5_place 124 = .ok (.goto (-73), 3) := by decide +kernel
theorem dX5_place_127 : decode cX5_place 127 = .ok (.iload 4, 2) := by decide +kernel
theorem dX5_place_129 : decode cX5_place 129 = .ok (.ifCond .ne 8, 3) := by decide +kernel
theorem dX5_place_132 : decode cX5_place 132 = .ok (.iload 5, 2) := by decide +kernel
theorem dX5_place_134 : decode cX5_place 134 = .ok (.goto 5, 3) := by decide +kernel
theorem dX5_place_137 : decode cX5_place 137 = .ok (.iload 6, 2) := by decide +kernel
theorem dX5_place_139 : decode cX5_place 139 = .ok (.ireturn, 1) := by decide +kernel
theorem dX5_wish_0 : decode cX5_wish 0 = .ok (.aload_n 0, 1) := by decide +kernel
theorem dX5_wish_1 : decode cX5_wish 1 = .ok (.iload_n 1, 1) := by decide +kernel
theorem dX5_wish_2 : decode cX5_wish 2 = .ok (.invokevirtual 122, 3) := by decide +kernel
theorem dX5_wish_5 : decode cX5_wish 5 = .ok (.ifCond .eq 20, 3) := by decide +kernel
theorem dX5_wish_8 : decode cX5_wish 8 = .ok (.iload_n 2, 1) := by decide +kernel
theorem dX5_wish_9 : decode cX5_wish 9 = .ok (.invokestatic 82, 3) := by decide +kernel
theorem dX5_wish_12 : decode cX5_wish 12 = .ok (.ifCond .eq 13, 3) := by decide +kernel
theorem dX5_wish_15 : decode cX5_wish 15 = .ok (.iload_n 3, 1) := by decide +kernel
theorem dX5_wish_16 : decode cX5_wish 16 = .ok (.iconst 0, 1) := by decide +kernel
theorem dX5_wish_17 : decode cX5_wish 17 = .ok (.bipush 99, 2) := by decide +kernel
theorem dX5_wish_19 : decode cX5_wish 19 = .ok (.invokestatic 85, 3) := by decide +kernel
theorem dX5_wish_22 : decode cX5_wish 22 = .ok (.ifCond .ne 10, 3) := by decide +kernel
theorem dX5_wish_25 : decode cX5_wish 25 = .ok (.aload_n 0, 1) := by decide +kernel
theorem dX5_wish_26 : decode cX5_wish 26 = .ok (.bipush (-2), 2) := by decide +kernel
theorem dX5_wish_28 : decode cX5_wish 28 = .ok (.invokevirtual 89, 3) := by decide +kernel
theorem dX5_wish_31 : decode cX5_wish 31 = .ok (.ireturn, 1) := by decide +kernel
theorem dX5_wish_32 : decode cX5_wish 32 = .ok (.aload_n 0, 1) := by decide +kernel
theorem dX5_wish_33 : decode cX5_wish 33 = .ok (.aload_n 0, 1) := by decide +kernel
theorem dX5_wish_34 : decode cX5_wish 34 = .ok (.getfield 10, 3) := by decide +kernel
theorem dX5_wish_37 : decode cX5_wish 37 = .ok (.getfield 221, 3) := by decide +kernel
theorem dX5_wish_40 : decode cX5_wish 40 = .ok (.iload_n 1, 1) := by decide +kernel
theorem dX5_wish_41 : decode cX5_wish 41 = .ok (.iload_n 2, 1) := by decide +kernel
theorem dX5_wish_42 : decode cX5_wish 42 = .ok (.iload_n 3, 1) := by decide +kernel
theorem dX5_wish_43 : decode cX5_wish 43 = .ok (.iconst 0, 1) := by decide +kernel
theorem dX5_wish_44 : decode cX5_wish 44 = .ok (.iconst 0, 1) := by decide +kernel
theorem dX5_wish_45 : decode cX5_wish 45 = .ok (.invokevirtual 225, 3) := by decide +kernel
theorem dX5_wish_48 : decode cX5_wish 48 = .ok (.ireturn, 1) := by decide +kernel
theorem dX5_seating_0 : decode cX5_seating 0 = .ok (.iload_n 1, 1) := by decide +kernel
theorem dX5_seating_1 : decode cX5_seating 1 = .ok (.iconst 0, 1) := by decide +kernel
theorem dX5_seating_2 : decode cX5_seating 2 = .ok (.bipush 12, 2) := by decide +kernel
theorem dX5_seating_4 : decode cX5_seating 4 = .ok (.invokestatic 85, 3) := by decide +kernel
theorem dX5_seating_7 : decode cX5_seating 7 = .ok (.ifCond .eq 16, 3) := by decide +kernel
theorem dX5_seating_10 : decode cX5_seating 10 = .ok (.iload_n 2, 1) := by decide +kernel
theorem dX5_seating_11 : decode cX5_seating 11 = .ok (.iconst (-1), 1) := by decide +kernel
theorem dX5_seating_12 : decode cX5_seating 12 = .ok (.if_icmp .eq 18, 3) := by decide +kernel
theorem dX5_seating_15 : decode cX5_seating 15 = .ok (.aload_n 0, 1) := by decide +kernel
theorem dX5_seating_16 : decode cX5_seating 16 = .ok (.iload_n 2, 1) := by decide +kernel
theorem dX5_seating_17 : decode cX5_seating 17 = .ok (.invokevirtual 122, 3) := by decide +kernel
theorem dX5_seating_20 : decode cX5_seating 20 = .ok (.ifCond .ne 10, 3) := by decide +kernel
theorem dX5_seating_23 : decode cX5_seating 23 = .ok (.aload_n 0, 1) := by decide +kernel
theorem dX5_seating_24 : decode cX5_seating 24 = .ok (.bipush (-10), 2) := by decide +kernel
theorem dX5_seating_26 : decode cX5_seating 26 = .ok (.invokevirtual 128, 3) := by decide +kernel
theorem dX5_seating_29 : decode cX5_seating 29 = .ok (.ireturn, 1) := by decide +kernel
theorem dX5_seating_30 : decode cX5_seating 30 = .ok (.aload_n 0, 1) := by decide +kernel
theorem dX5_seating_31 : decode cX5_seating 31 = .ok (.getfield 44, 3) := by decide +kernel
theorem dX5_seating_34 : decode cX5_seating 34 = .ok (.aload_n 0, 1) := by decide +kernel
theorem dX5_seating_35 : decode cX5_seating 35 = .ok (.getfield 10, 3) := by decide +kernel
theorem dX5_seating_38 : decode cX5_seating 38 = .ok (.aload_n 0, 1) := by decide +kernel
theorem dX5_seating_39 : decode cX5_seating 39 = .ok (.getfield 30, 3) := by decide +kernel
theorem dX5_seating_42 : decode cX5_seating 42 = .ok (.iload_n 1, 1) := by decide +kernel
theorem dX5_seating_43 : decode cX5_seating 43 = .ok (.invokevirtual 229, 3) := by decide +kernel
theorem dX5_seating_46 : decode cX5_seating 46 = .ok (.iload_n 2, 1) := by decide +kernel
theorem dX5_seating_47 : decode cX5_seating 47 = .ok (.iconst (-1), 1) := by decide +kernel
theorem dX5_seating_48 : decode cX5_seating 48 = .ok (.if_icmp .ne 13, 3) := by decide +kernel
theorem dX5_seating_51 : decode cX5_seating 51 = .ok (.aload_n 0, 1) := by decide +kernel
theorem dX5_seating_52 : decode cX5_seating 52 = .ok (.getfield 44, 3) := by decide +kernel
theorem dX5_seating_55 : decode cX5_seating 55 = .ok (.getfield 233, 3) := by decide +kernel
theorem dX5_seating_58 : decode cX5_seating 58 = .ok (.goto 12, 3) := by decide +kernel
theorem dX5_seating_61 : decode cX5_seating 61 = .ok (.aload_n 0, 1) := by decide +kernel
theorem dX5_seating_62 : decode cX5_seating 62 = .ok (.getfield 44, 3) := by decide +kernel
theorem dX5_seating_65 : decode cX5_seating 65 = .ok (.getfield 236, 3) := by decide +kernel
theorem dX5_seating_68 : decode cX5_seating 68 = .ok (.iload_n 2, 1) := by decide +kernel
theorem dX5_seating_69 : decode cX5_seating 69 = .ok (.iaload, 1) := by decide +kernel
theorem dX5_seating_70 : decode cX5_seating 70 = .ok (.ireturn, 1) := by decide +kernel
theorem dX5_quarrels_0 : decode cX5_quarrels 0 = .ok (.iconst 0, 1) := by decide +kernel
theorem dX5_quarrels_1 : decode cX5_quarrels 1 = .ok (.istore_n 1, 1) := by decide +kernel
theorem dX5_quarrels_2 : decode cX5_quarrels 2 = .ok (.iconst 1, 1) := by decide +kernel
theorem dX5_quarrels_3 : decode cX5_quarrels 3 = .ok (.istore_n 2, 1) := by decide +kernel
theorem dX5_quarrels_4 : decode cX5_quarrels 4 = .ok (.iload_n 2, 1) := by decide +kernel
theorem dX5_quarrels_5 : decode cX5_quarrels 5 = .ok (.aload_n 0, 1) := by decide +kernel
theorem dX5_quarrels_6 : decode cX5_quarrels 6 = .ok (.getfield 10, 3) := by decide +kernel
theorem dX5_quarrels_9 : decode cX5_quarrels 9 = .ok (.getfield 93, 3) := by decide +kernel
theorem dX5_quarrels_12 : decode cX5_quarrels 12 = .ok (.if_icmp .ge 35, 3) := by decide +kernel
theorem dX5_quarrels_15 : decode cX5_quarrels 15 = .ok (.aload_n 0, 1) := by decide +kernel
theorem dX5_quarrels_16 : decode cX5_quarrels 16 = .ok (.getfield 10, 3) := by decide +kernel
theorem dX5_quarrels_19 : decode cX5_quarrels 19 = .ok (.getfield 171, 3) := by decide +kernel
theorem dX5_quarrels_22 : decode cX5_quarrels 22 = .ok (.iload_n 2, 1) := by decide +kernel
theorem dX5_quarrels_23 : decode cX5_quarrels 23 = .ok (.iconst 1, 1) := by decide +kernel
theorem dX5_quarrels_24 : decode cX5_quarrels 24 = .ok (.isub, 1) := by decide +kernel
theorem dX5_quarrels_25 : decode cX5_quarrels 25 = .ok (.iaload, 1) := by decide +kernel
theorem dX5_quarrels_26 : decode cX5_quarrels 26 = .ok (.aload_n 0, 1) := by decide +kernel
theorem dX5_quarrels_27 : decode cX5_quarrels 27 = .ok (.getfield 10, 3) := by decide +kernel
theorem dX5_quarrels_30 : decode cX5_quarrels 30 = .ok (.getfield 171, 3) := by decide +kernel
theorem dX5_quarrels_33 : decode cX5_quarrels 33 = .ok (.iload_n 2, 1) := by decide +kernel
theorem dX5_quarrels_34 : decode cX5_quarrels 34 = .ok (.iaload, 1) := by decide +kernel
theorem dX5_quarrels_35 : decode cX5_quarrels 35 = .ok (.if_icmp .ne 6, 3) := by decide +kernel
theorem dX5_quarrels_38 : decode cX5_quarrels 38 = .ok (.iinc 1 1, 3) := by decide +kernel
theorem dX5_quarrels_41 : decode cX5_quarrels 41 = .ok (.iinc 2 1, 3) := by decide +kernel
theorem dX5_quarrels_44 : decode cX5_quarrels 44 = .ok (.goto (-40), 3) := by decide +kernel
theorem dX5_quarrels_47 : decode cX5_quarrels 47 = .ok (.iload_n 1, 1) := by decide +kernel
theorem dX5_quarrels_48 : decode cX5_quarrels 48 = .ok (.ireturn, 1) := by decide +kernel
theorem dX5_row_0 : decode cX5_row 0 = .ok (.aload_n 0, 1) := by decide +kernel
theorem dX5_row_1 : decode cX5_row 1 = .ok (.iload_n 1, 1) := by decide +kernel
theorem dX5_row_2 : decode cX5_row 2 = .ok (.invokevirtual 165, 3) := by decide +kernel
theorem dX5_row_5 : decode cX5_row 5 = .ok (.ifCond .ne 10, 3) := by decide +kernel
theorem dX5_row_8 : decode cX5_row 8 = .ok (.aload_n 0, 1) := by decide +kernel
theorem dX5_row_9 : decode cX5_row 9 = .ok (.bipush (-2), 2) := by decide +kernel
theorem dX5_row_11 : decode cX5_row 11 = .ok (.invokevirtual 89, 3) := by decide +kernel
theorem dX5_row_14 : decode cX5_row 14 = .ok (.ireturn, 1) := by decide +kernel
theorem dX5_row_15 : decode cX5_row 15 = .ok (.aload_n 0, 1) := by decide +kernel
theorem dX5_row_16 : decode cX5_row 16 = .ok (.getfield 10, 3) := by decide +kernel
theorem dX5_row_19 : decode cX5_row 19 = .ok (.aload_n 0, 1) := by decide +kernel
theorem dX5_row_20 : decode cX5_row 20 = .ok (.getfield 48, 3) := by decide +kernel
theorem dX5_row_23 : decode cX5_row 23 = .ok (.iconst 0, 1) := by decide +kernel
theorem dX5_row_24 : decode cX5_row 24 = .ok (.iconst 0, 1) := by decide +kernel
theorem dX5_row_25 : decode cX5_row 25 = .ok (.invokestatic 239, 3) := by decide +kernel
theorem dX5_row_28 : decode cX5_row 28 = .ok (.ifCond .eq 12, 3) := by decide +kernel
theorem dX5_row_31 : decode cX5_row 31 = .ok (.aload_n 0, 1) := by decide +kernel
theorem dX5_row_32 : decode cX5_row 32 = .ok (.getfield 48, 3) := by decide +kernel
theorem dX5_row_35 : decode cX5_row 35 = .ok (.iload_n 1, 1) := by decide +kernel
theorem dX5_row_36 : decode cX5_row 36 = .ok (.iaload, 1) := by decide +kernel
theorem dX5_row_37 : decode cX5_row 37 = .ok (.goto 4, 3) := by decide +kernel
theorem dX5_row_40 : decode cX5_row 40 = .ok (.iconst (-1), 1) := by decide +kernel
theorem dX5_row_41 : decode cX5_row 41 = .ok (.ireturn, 1) := by decide +kernel
theorem dX5_blur_0 : decode cX5_blur 0 = .ok (.aload_n 0, 1) := by decide +kernel
theorem dX5_blur_1 : decode cX5_blur 1 = .ok (.iload_n 1, 1) := by decide +kernel
theorem dX5_blur_2 : decode cX5_blur 2 = .ok (.invokevirtual 165, 3) := by decide +kernel
theorem dX5_blur_5 : decode cX5_blur 5 = .ok (.ifCond .eq 31, 3) := by decide +kernel
theorem dX5_blur_8 : decode cX5_blur 8 = .ok (.aload_n 0, 1) := by decide +kernel
theorem dX5_blur_9 : decode cX5_blur 9 = .ok (.iload_n 2, 1) := by decide +kernel
theorem dX5_blur_10 : decode cX5_blur 10 = .ok (.invokevirtual 122, 3) := by decide +kernel
theorem dX5_blur_13 : decode cX5_blur 13 = .ok (.ifCond .eq 23, 3) := by decide +kernel
theorem dX5_blur_16 : decode cX5_blur 16 = .ok (.iload_n 3, 1) := by decide +kernel
theorem dX5_blur_17 : decode cX5_blur 17 = .ok (.iconst 0, 1) := by decide +kernel
theorem dX5_blur_18 : decode cX5_blur 18 = .ok (.bipush 20, 2) := by decide +kernel
theorem dX5_blur_20 : decode cX5_blur 20 = .ok (.invokestatic 85, 3) := by decide +kernel
theorem dX5_blur_23 : decode cX5_blur 23 = .ok (.ifCond .eq 13, 3) := by decide +kernel
theorem dX5_blur_26 : decode cX5_blur 26 = .ok (.iload 4, 2) := by decide +kernel
theorem dX5_blur_28 : decode cX5_blur 28 = .ok (.iconst 0, 1) := by decide +kernel
theorem dX5_blur_29 : decode cX5_blur 29 = .ok (.iconst 2, 1) := by decide +kernel
theorem dX5_blur_30 : decode cX5_blur 30 = .ok (.invokestatic 85, 3) := by decide +kernel
theorem dX5_blur_33 : decode cX5_blur 33 = .ok (.ifCond .ne 10, 3) := by decide +kernel
theorem dX5_blur_36 : decode cX5_blur 36 = .ok (.aload_n 0, 1) := by decide +kernel
theorem dX5_blur_37 : decode cX5_blur 37 = .ok (.bipush (-2), 2) := by decide +kernel
theorem dX5_blur_39 : decode cX5_blur 39 = .ok (.invokevirtual 89, 3) := by decide +kernel
theorem dX5_blur_42 : decode cX5_blur 42 = .ok (.ireturn, 1) := by decide +kernel
theorem dX5_blur_43 : decode cX5_blur 43 = .ok (.iload_n 3, 1) := by decide +kernel
theorem dX5_blur_44 : decode cX5_blur 44 = .ok (.aload_n 0, 1) := by decide +kernel
theorem dX5_blur_45 : decode cX5_blur 45 = .ok (.getfield 10, 3) := by decide +kernel
theorem dX5_blur_48 : decode cX5_blur 48 = .ok (.getfield 168, 3) := by decide +kernel
theorem dX5_blur_51 : decode cX5_blur 51 = .ok (.iload_n 1, 1) := by decide +kernel
theorem dX5_blur_52 : decode cX5_blur 52 = .ok (.iaload, 1) := by decide +kernel
theorem dX5_blur_53 : decode cX5_blur 53 = .ok (.aload_n 0, 1) := by decide +kernel
theorem dX5_blur_54 : decode cX5_blur 54 = .ok (.getfield 10, 3) := by decide +kernel
theorem dX5_blur_57 : decode cX5_blur 57 = .ok (.getfield 189, 3) := by decide +kernel
theorem dX5_blur_60 : decode cX5_blur 60 = .ok (.iload_n 2, 1) := by decide +kernel
theorem dX5_blur_61 : decode cX5_blur 61 = .ok (.iaload, 1) := by decide +kernel
theorem dX5_blur_62 : decode cX5_blur 62 = .ok (.invokestatic 243, 3) := by decide +kernel
theorem dX5_blur_65 : decode cX5_blur 65 = .ok (.imul, 1) := by decide +kernel
theorem dX5_blur_66 : decode cX5_blur 66 = .ok (.istore 5, 2) := by decide +kernel
theorem dX5_blur_68 : decode cX5_blur 68 = .ok (.iconst 0, 1) := by decide +kernel
theorem dX5_blur_69 : decode cX5_blur 69 = .ok (.istore 6, 2) := by decide +kernel
theorem dX5_blur_71 : decode cX5_blur 71 = .ok (.iconst (-1), 1) := by decide +kernel
theorem dX5_blur_72 : decode cX5_blur 72 = .ok (.istore 7, 2) := by decide +kernel
theorem dX5_blur_74 : decode cX5_blur 74 = .ok (.iconst (-1), 1) := by decide +kernel
theorem dX5_blur_75 : decode cX5_blur 75 = .ok (.istore 8, 2) := by decide +kernel
theorem dX5_blur_77 : decode cX5_blur 77 = .ok (.iconst 0, 1) := by decide +kernel
theorem dX5_blur_78 : decode cX5_blur 78 = .ok (.istore 9, 2) := by decide +kernel
theorem dX5_blur_80 : decode cX5_blur 80 = .ok (.iload 9, 2) := by decide +kernel
theorem dX5_blur_82 : decode cX5_blur 82 = .ok (.bipush 40, 2) := by decide +kernel
theorem dX5_blur_84 : decode cX5_blur 84 = .ok (.if_icmp .gt 55, 3) := by decide +kernel
theorem dX5_blur_87 : decode cX5_blur 87 = .ok (.iload 9, 2) := by decide +kernel
theorem dX5_blur_89 : decode cX5_blur 89 = .ok (.iload 5, 2) := by decide +kernel
theorem dX5_blur_91 : decode cX5_blur 91 = .ok (.isub, 1) := by decide +kernel
theorem dX5_blur_92 : decode cX5_blur 92 = .ok (.iconst 0, 1) := by decide +kernel
theorem dX5_blur_93 : decode cX5_blur 93 = .ok (.invokestatic 246, 3) := by decide +kernel
theorem dX5_blur_96 : decode cX5_blur 96 = .ok (.aload_n 0, 1) := by decide +kernel
theorem dX5_blur_97 : decode cX5_blur 97 = .ok (.getfield 10, 3) := by decide +kernel
theorem dX5_blur_100 : decode cX5_blur 100 = .ok (.getfield 131, 3) := by decide +kernel
theorem dX5_blur_103 : decode cX5_blur 103 = .ok (.getfield 174, 3) := by decide +kernel
theorem dX5_blur_106 : decode cX5_blur 106 = .ok (.iload_n 1, 1) := by decide +kernel
theorem dX5_blur_107 : decode cX5_blur 107 = .ok (.iaload, 1) := by decide +kernel
theorem dX5_blur_108 : decode cX5_blur 108 = .ok (.if_icmp .ne 25, 3) := by decide +kernel
theorem dX5_blur_111 : decode cX5_blur 111 = .ok (.iinc 6 1, 3) := by decide +kernel
theorem dX5_blur_114 : decode cX5_blur 114 = .ok (.iload 7, 2) := by decide +kernel
theorem dX5_blur_116 : decode cX5_blur 116 = .ok (.iconst (-1), 1) := by decide +kernel
theorem dX5_blur_117 : decode cX5_blur 117 = .ok (.if_icmp .ne 8, 3) := by decide +kernel
theorem dX5_blur_120 : decode cX5_blur 120 = .ok (.iload 9, 2) := by decide +kernel
theorem dX5_blur_122 : decode cX5_blur 122 = .ok (.goto 5, 3) := by decide +kernel
theorem dX5_blur_125 : decode cX5_blur 125 = .ok (.iload 7, 2) := by decide +kernel
theorem dX5_blur_127 : decode cX5_blur 127 = .ok (.istore 7, 2) := by decide +kernel
theorem dX5_blur_129 : decode cX5_blur 129 = .ok (.iload 9, 2) := by decide +kernel
theorem dX5_blur_131 : decode cX5_blur 131 = .ok (.istore 8, 2) := by decide +kernel
theorem dX5_blur_133 : decode cX5_blur 133 = .ok (.iinc 9 1, 3) := by decide +kernel
theorem dX5_blur_136 : decode cX5_blur 136 = .ok (.goto (-56), 3) := by decide +kernel
theorem dX5_blur_139 : decode cX5_blur 139 = .ok (.iload 4, 2) := by decide +kernel
theorem dX5_blur_141 : decode cX5_blur 141 = .ok (.ifCond .ne 8, 3) := by decide +kernel
theorem dX5_blur_144 : decode cX5_blur 144 = .ok (.iload 6, 2) := by decide +kernel
theorem dX5_blur_146 : decode cX5_blur 146 = .ok (.goto 16, 3) := by decide +kernel
theorem dX5_blur_149 : decode cX5_blur 149 = .ok (.iload 4, 2) := by decide +kernel
theorem dX5_blur_151 : decode cX5_blur 151 = .ok (.iconst 1, 1) := by decide +kernel
theorem dX5_blur_152 : decode cX5_blur 152 = .ok (.if_icmp .ne 8, 3) := by decide +kernel
theorem dX5_blur_155 : decode cX5_blur 155 = .ok (.iload 7, 2) := by decide +kernel
theorem dX5_blur_157 : decode cX5_blur 157 = .ok (.goto 5, 3) := by decide +kernel
theorem dX5_blur_160 : decode cX5_blur 160 = .ok (.iload 8, 2) := by decide +kernel
theorem dX5_blur_162 : decode cX5_blur 162 = .ok (.ireturn, 1) := by decide +kernel
theorem dX5_where_0 : decode cX5_where 0 = .ok (.aload_n 0, 1) := by decide +kernel
theorem dX5_where_1 : decode cX5_where 1 = .ok (.iload_n 1, 1) := by decide +kernel
theorem dX5_where_2 : decode cX5_where 2 = .ok (.invokevirtual 122, 3) := by decide +kernel
theorem dX5_where_5 : decode cX5_where 5 = .ok (.ifCond .eq 20, 3) := by decide +kernel
theorem dX5_where_8 : decode cX5_where 8 = .ok (.iload_n 2, 1) := by decide +kernel
theorem dX5_where_9 : decode cX5_where 9 = .ok (.invokestatic 82, 3) := by decide +kernel
theorem dX5_where_12 : decode cX5_where 12 = .ok (.ifCond .eq 13, 3) := by decide +kernel
theorem dX5_where_15 : decode cX5_where 15 = .ok (.iload_n 3, 1) := by decide +kernel
theorem dX5_where_16 : decode cX5_where 16 = .ok (.iconst 0, 1) := by decide +kernel
theorem dX5_where_17 : decode cX5_where 17 = .ok (.bipush 60, 2) := by decide +kernel
theorem dX5_where_19 : decode cX5_where 19 = .ok (.invokestatic 85, 3) := by decide +kernel
theorem dX5_where_22 : decode cX5_where 22 = .ok (.ifCond .ne 10, 3) := by decide +kernel
theorem dX5_where_25 : decode cX5_where 25 = .ok (.aload_n 0, 1) := by decide +kernel
theorem dX5_where_26 : decode cX5_where 26 = .ok (.bipush (-2), 2) := by decide +kernel
theorem dX5_where_28 : decode cX5_where 28 = .ok (.invokevirtual 89, 3) := by decide +kernel
theorem dX5_where_31 : decode cX5_where 31 = .ok (.ireturn, 1) := by decide +kernel
theorem dX5_where_32 : decode cX5_where 32 = .ok (.iconst 0, 1) := by decide +kernel
theorem dX5_where_33 : decode cX5_where 33 = .ok (.istore 4, 2) := by decide +kernel
theorem dX5_where_35 : decode cX5_where 35 = .ok (.iconst 0, 1) := by decide +kernel
theorem dX5_where_36 : decode cX5_where 36 = .ok (.istore 5, 2) := by decide +kernel
theorem dX5_where_38 : decode cX5_where 38 = .ok (.iload 5, 2) := by decide +kernel
theorem dX5_where_40 : decode cX5_where 40 = .ok (.aload_n 0, 1) := by decide +kernel
theorem dX5_where_41 : decode cX5_where 41 = .ok (.getfield 10, 3) := by decide +kernel
theorem dX5_where_44 : decode cX5_where 44 = .ok (.getfield 93, 3) := by decide +kernel
theorem dX5_where_47 : decode cX5_where 47 = .ok (.if_icmp .ge 61, 3) := by decide +kernel
theorem dX5_where_50 : decode cX5_where 50 = .ok (.aload_n 0, 1) := by decide +kernel
theorem dX5_where_51 : decode cX5_where 51 = .ok (.getfield 10, 3) := by decide +kernel
theorem dX5_where_54 : decode cX5_where 54 = .ok (.getfield 171, 3) := by decide +kernel
theorem dX5_where_57 : decode cX5_where 57 = .ok (.iload 5, 2) := by decide +kernel
theorem dX5_where_59 : decode cX5_where 59 = .ok (.iaload, 1) := by decide +kernel
theorem dX5_where_60 : decode cX5_where 60 = .ok (.iload_n 2, 1) := by decide +kernel
theorem dX5_where_61 : decode cX5_where 61 = .ok (.if_icmp .ne 23, 3) := by decide +kernel
theorem dX5_where_64 : decode cX5_where 64 = .ok (.aload_n 0, 1) := by decide +kernel
theorem dX5_where_65 : decode cX5_where 65 = .ok (.getfield 10, 3) := by decide +kernel
theorem dX5_where_68 : decode cX5_where 68 = .ok (.aload_n 0, 1) := by decide +kernel
theorem dX5_where_69 : decode cX5_where 69 = .ok (.getfield 10, 3) := by decide +kernel
theorem dX5_where_72 : decode cX5_where 72 = .ok (.getfield 131, 3) := by decide +kernel
theorem dX5_where_75 : decode cX5_where 75 = .ok (.iload_n 1, 1) := by decide +kernel
theorem dX5_where_76 : decode cX5_where 76 = .ok (.iload 5, 2) := by decide +kernel
theorem dX5_where_78 : decode cX5_where 78 = .ok (.invokevirtual 195, 3) := by decide +kernel
theorem dX5_where_81 : decode cX5_where 81 = .ok (.goto 4, 3) := by decide +kernel
theorem dX5_where_84 : decode cX5_where 84 = .ok (.iconst 0, 1) := by decide +kernel
theorem dX5_where_85 : decode cX5_where 85 = .ok (.istore 6, 2) := by decide +kernel
theorem dX5_where_87 : decode cX5_where 87 = .ok (.iload 6, 2) := by decide +kernel
theorem dX5_where_89 : decode cX5_where 89 = .ok (.iload_n 3, 1) := by decide +kernel
theorem dX5_where_90 : decode cX5_where 90 = .ok (.if_icmp .ne 12, 3) := by decide +kernel
theorem dX5_where_93 : decode cX5_where 93 = .ok (.iload 4, 2) := by decide +kernel
theorem dX5_where_95 : decode cX5_where 95 = .ok (.iconst 1, 1) := by decide +kernel
theorem dX5_where_96 : decode cX5_where 96 = .ok (.iload 5, 2) := by decide +kernel
theorem dX5_where_98 : decode cX5_where 98 = .ok (.ishl, 1) := by decide +kernel
theorem dX5_where_99 : decode cX5_where 99 = .ok (.ior, 1) := by decide +kernel
theorem dX5_where_100 : decode cX5_where 100 = .ok (.istore 4, 2) := by decide +kernel
theorem dX5_where_102 : decode cX5_where 102 = .ok (.iinc 5 1, 3) := by decide +kernel
theorem dX5_where_105 : decode cX5_where 105 = .ok (.goto (-67), 3) := by decide +kernel
theorem dX5_where_108 : decode cX5_where 108 = .ok (.iload 4, 2) := by decide +kernel
theorem dX5_where_110 : decode cX5_where 110 = .ok (.ireturn, 1) := by decide +kernel
theorem dX5_note_0 : decode cX5_note 0 = .ok (.aload_n 0, 1) := by decide +kernel
theorem dX5_note_1 : decode cX5_note 1 = .ok (.iload_n 1, 1) := by decide +kernel
theorem dX5_note_2 : decode cX5_note 2 = .ok (.invokevirtual 165, 3) := by decide +kernel
theorem dX5_note_5 : decode cX5_note 5 = .ok (.ifCond .eq 45, 3) := by decide +kernel
theorem dX5_note_8 : decode cX5_note 8 = .ok (.iload_n 2, 1) := by decide +kernel
theorem dX5_note_9 : decode cX5_note 9 = .ok (.iconst 0, 1) := by decide +kernel
theorem dX5_note_10 : decode cX5_note 10 = .ok (.bipush 40, 2) := by decide +kernel
theorem dX5_note_12 : decode cX5_note 12 = .ok (.invokestatic 85, 3) := by decide +kernel
theorem dX5_note_15 : decode cX5_note 15 = .ok (.ifCond .eq 35, 3) := by decide +kernel
theorem dX5_note_18 : decode cX5_note 18 = .ok (.iload_n 3, 1) := by decide +kernel
theorem dX5_note_19 : decode cX5_note 19 = .ok (.iconst 0, 1) := by decide +kernel
theorem dX5_note_20 : decode cX5_note 20 = .ok (.bipush 99, 2) := by decide +kernel
theorem dX5_note_22 : decode cX5_note 22 = .ok (.invokestatic 85, 3) := by decide +kernel
theorem dX5_note_25 : decode cX5_note 25 = .ok (.ifCond .eq 25, 3) := by decide +kernel
theorem dX5_note_28 : decode cX5_note 28 = .ok (.iload 4, 2) := by decide +kernel
theorem dX5_note_30 : decode cX5_note 30 = .ok (.iconst 0, 1) := by decide +kernel
theorem dX5_note_31 : decode cX5_note 31 = .ok (.bipush 99, 2) := by decide +kernel
theorem dX5_note_33 : decode cX5_note 33 = .ok (.invokestatic 85, 3) := by decide +kernel
theorem dX5_note_36 : decode cX5_note 36 = .ok (.ifCond .eq 14, 3) := by decide +kernel
theorem dX5_note_39 : decode cX5_note 39 = .ok (.iload 5, 2) := by decide +kernel
theorem dX5_note_41 : decode cX5_note 41 = .ok (.iconst 0, 1) := by decide +kernel
theorem dX5_note_42 : decode cX5_note 42 = .ok (.bipush 40, 2) := by decide +kernel
theorem dX5_note_44 : decode cX5_note 44 = .ok (.invokestatic 85, 3) := by decide +kernel
theorem dX5_note_47 : decode cX5_note 47 = .ok (.ifCond .ne 10, 3) := by decide +kernel
theorem dX5_note_50 : decode cX5_note 50 = .ok (.aload_n 0, 1) := by decide +kernel
theorem dX5_note_51 : decode cX5_note 51 = .ok (.bipush (-2), 2) := by decide +kernel
theorem dX5_note_53 : decode cX5_note 53 = .ok (.invokevirtual 89, 3) := by decide +kernel
theorem dX5_note_56 : decode cX5_note 56 = .ok (.ireturn, 1) := by decide +kernel
theorem dX5_note_57 : decode cX5_note 57 = .ok (.aload_n 0, 1) := by decide +kernel
theorem dX5_note_58 : decode cX5_note 58 = .ok (.aload_n 0, 1) := by decide +kernel
theorem dX5_note_59 : decode cX5_note 59 = .ok (.getfield 10, 3) := by decide +kernel
theorem dX5_note_62 : decode cX5_note 62 = .ok (.getfield 251, 3) := by decide +kernel
theorem dX5_note_65 : decode cX5_note 65 = .ok (.iload_n 1, 1) := by decide +kernel
theorem dX5_note_66 : decode cX5_note 66 = .ok (.iload_n 2, 1) := by decide +kernel
theorem dX5_note_67 : decode cX5_note 67 = .ok (.iload_n 3, 1) := by decide +kernel
theorem dX5_note_68 : decode cX5_note 68 = .ok (.iload 4, 2) := by decide +kernel
theorem dX5_note_70 : decode cX5_note 70 = .ok (.iload 5, 2) := by decide +kernel
theorem dX5_note_72 : decode cX5_note 72 = .ok (.invokevirtual 225, 3) := by decide +kernel
theorem dX5_note_75 : decode cX5_note 75 = .ok (.ireturn, 1) := by decide +kernel
theorem dX5_mark_0 : decode cX5_mark 0 = .ok (.aload_n 0, 1) := by decide +kernel
theorem dX5_mark_1 : decode cX5_mark 1 = .ok (.iload_n 1, 1) := by decide +kernel
theorem dX5_mark_2 : decode cX5_mark 2 = .ok (.invokevirtual 122, 3) := by decide +kernel
theorem dX5_mark_5 : decode cX5_mark 5 = .ok (.ifCond .eq 34, 3) := by decide +kernel
theorem dX5_mark_8 : decode cX5_mark 8 = .ok (.iload_n 2, 1) := by decide +kernel
theorem dX5_mark_9 : decode cX5_mark 9 = .ok (.iconst 0, 1) := by decide +kernel
theorem dX5_mark_10 : decode cX5_mark 10 = .ok (.bipush 40, 2) := by decide +kernel
theorem dX5_mark_12 : decode cX5_mark 12 = .ok (.invokestatic 85, 3) := by decide +kernel
theorem dX5_mark_15 : decode cX5_mark 15 = .ok (.ifCond .eq 24, 3) := by decide +kernel
theorem dX5_mark_18 : decode cX5_mark 18 = .ok (.iload_n 3, 1) := by decide +kernel
theorem dX5_mark_19 : decode cX5_mark 19 = .ok (.iconst 0, 1) := by decide +kernel
theorem dX5_mark_20 : decode cX5_mark 20 = .ok (.bipush 99, 2) := by decide +kernel
theorem dX5_mark_22 : decode cX5_mark 22 = .ok (.invokestatic 85, 3) := by decide +kernel
theorem dX5_mark_25 : decode cX5_mark 25 = .ok (.ifCond .eq 14, 3) := by decide +kernel
theorem dX5_mark_28 : decode cX5_mark 28 = .ok (.iload 4, 2) := by decide +kernel
theorem dX5_mark_30 : decode cX5_mark 30 = .ok (.iconst 0, 1) := by decide +kernel
theorem dX5_mark_31 : decode cX5_mark 31 = .ok (.bipush 60, 2) := by decide +kernel
theorem dX5_mark_33 : decode cX5_mark 33 = .ok (.invokestatic 85, 3) := by decide +kernel
theorem dX5_mark_36 : decode cX5_mark 36 = .ok (.ifCond .ne 10, 3) := by decide +kernel
theorem dX5_mark_39 : decode cX5_mark 39 = .ok (.aload_n 0, 1) := by decide +kernel
theorem dX5_mark_40 : decode cX5_mark 40 = .ok (.bipush (-2), 2) := by decide +kernel
theorem dX5_mark_42 : decode cX5_mark 42 = .ok (.invokevirtual 89, 3) := by decide +kernel
theorem dX5_mark_45 : decode cX5_mark 45 = .ok (.ireturn, 1) := by decide +kernel
theorem dX5_mark_46 : decode cX5_mark 46 = .ok (.aload_n 0, 1) := by decide +kernel
theorem dX5_mark_47 : decode cX5_mark 47 = .ok (.aload_n 0, 1) := by decide +kernel
theorem dX5_mark_48 : decode cX5_mark 48 = .ok (.getfield 10, 3) := by decide +kernel
theorem dX5_mark_51 : decode cX5_mark 51 = .ok (.getfield 254, 3) := by decide +kernel
theorem dX5_mark_54 : decode cX5_mark 54 = .ok (.iload_n 1, 1) := by decide +kernel
theorem dX5_mark_55 : decode cX5_mark 55 = .ok (.iload_n 2, 1) := by decide +kernel
theorem dX5_mark_56 : decode cX5_mark 56 = .ok (.iload_n 3, 1) := by decide +kernel
theorem dX5_mark_57 : decode cX5_mark 57 = .ok (.iload 4, 2) := by decide +kernel
theorem dX5_mark_59 : decode cX5_mark 59 = .ok (.iconst 0, 1) := by decide +kernel
theorem dX5_mark_60 : decode cX5_mark 60 = .ok (.invokevirtual 225, 3) := by decide +kernel
theorem dX5_mark_63 : decode cX5_mark 63 = .ok (.ireturn, 1) := by decide +kernel
theorem dX5_forget_0 : decode cX5_forget 0 = .ok (.iload_n 1, 1) := by decide +kernel
theorem dX5_forget_1 : decode cX5_forget 1 = .ok (.iconst 0, 1) := by decide +kernel
theorem dX5_forget_2 : decode cX5_forget 2 = .ok (.iconst 2, 1) := by decide +kernel
theorem dX5_forget_3 : decode cX5_forget 3 = .ok (.invokestatic 85, 3) := by decide +kernel
theorem dX5_forget_6 : decode cX5_forget 6 = .ok (.ifCond .ne 10, 3) := by decide +kernel
theorem dX5_forget_9 : decode cX5_forget 9 = .ok (.aload_n 0, 1) := by decide +kernel
theorem dX5_forget_10 : decode cX5_forget 10 = .ok (.bipush (-2), 2) := by decide +kernel
theorem dX5_forget_12 : decode cX5_forget 12 = .ok (.invokevirtual 89, 3) := by decide +kernel
theorem dX5_forget_15 : decode cX5_forget 15 = .ok (.ireturn, 1) := by decide +kernel
theorem dX5_forget_16 : decode cX5_forget 16 = .ok (.iload_n 1, 1) := by decide +kernel
theorem dX5_forget_17 : decode cX5_forget 17 = .ok (.ifCond .ne 13, 3) := by decide +kernel
theorem dX5_forget_20 : decode cX5_forget 20 = .ok (.aload_n 0, 1) := by decide +kernel
theorem dX5_forget_21 : decode cX5_forget 21 = .ok (.getfield 10, 3) := by decide +kernel
theorem dX5_forget_24 : decode cX5_forget 24 = .ok (.getfield 221, 3) := by decide +kernel
theorem dX5_forget_27 : decode cX5_forget 27 = .ok (.goto 25, 3) := by decide +kernel
theorem dX5_forget_30 : decode cX5_forget 30 = .ok (.iload_n 1, 1) := by decide +kernel
theorem dX5_forget_31 : decode cX5_forget 31 = .ok (.iconst 1, 1) := by decide +kernel
theorem dX5_forget_32 : decode cX5_forget 32 = .ok (.if_icmp .ne 13, 3) := by decide +kernel
theorem dX5_forget_35 : decode cX5_forget 35 = .ok (.aload_n 0, 1) := by decide +kernel
theorem dX5_forget_36 : decode cX5_forget 36 = .ok (.getfield 10, 3) := by decide +kernel
theorem dX5_forget_39 : decode cX5_forget 39 = .ok (.getfield 251, 3) := by decide +kernel
theorem dX5_forget_42 : decode cX5_forget 42 = .ok (.goto 10, 3) := by decide +kernel
theorem dX5_forget_45 : decode cX5_forget 45 = .ok (.aload_n 0, 1) := by decide +kernel
theorem dX5_forget_46 : decode cX5_forget 46 = .ok (.getfield 10, 3) := by decide +kernel
theorem dX5_forget_49 : decode cX5_forget 49 = .ok (.getfield 254, 3) := by decide +kernel
theorem dX5_forget_52 : decode cX5_forget 52 = .ok (.astore_n 2, 1) := by decide +kernel
theorem dX5_forget_53 : decode cX5_forget 53 = .ok (.aload_n 2, 1) := by decide +kernel
theorem dX5_forget_54 : decode cX5_forget 54 = .ok (.getfield 257, 3) := by decide +kernel
theorem dX5_forget_57 : decode cX5_forget 57 = .ok (.istore_n 3, 1) := by decide +kernel
theorem dX5_forget_58 : decode cX5_forget 58 = .ok (.aload_n 2, 1) := by decide +kernel
theorem dX5_forget_59 : decode cX5_forget 59 = .ok (.iconst 0, 1) := by decide +kernel
theorem dX5_forget_60 : decode cX5_forget 60 = .ok (.putfield 257, 3) := by decide +kernel
theorem dX5_forget_63 : decode cX5_forget 63 = .ok (.iload_n 3, 1) := by decide +kernel
theorem dX5_forget_64 : decode cX5_forget 64 = .ok (.ireturn, 1) := by decide +kernel
theorem dX5_is_0 : decode cX5_is 0 = .ok (.aload_n 0, 1) := by decide +kernel
theorem dX5_is_1 : decode cX5_is 1 = .ok (.iload_n 1, 1) := by decide +kernel
theorem dX5_is_2 : decode cX5_is 2 = .ok (.invokevirtual 165, 3) := by decide +kernel
theorem dX5_is_5 : decode cX5_is 5 = .ok (.ifCond .eq 11, 3) := by decide +kernel
theorem dX5_is_8 : decode cX5_is 8 = .ok (.aload_n 0, 1) := by decide +kernel
theorem dX5_is_9 : decode cX5_is 9 = .ok (.iload_n 1, 1) := by decide +kernel
theorem dX5_is_10 : decode cX5_is 10 = .ok (.invokevirtual 262, 3) := by decide +kernel
theorem dX5_is_13 : decode cX5_is 13 = .ok (.goto 9, 3) := by decide +kernel
theorem dX5_is_16 : decode cX5_is 16 = .ok (.aload_n 0, 1) := by decide +kernel
theorem dX5_is_17 : decode cX5_is 17 = .ok (.bipush (-2), 2) := by decide +kernel
theorem dX5_is_19 : decode cX5_is 19 = .ok (.invokevirtual 89, 3) := by decide +kernel
theorem dX5_is_22 : decode cX5_is 22 = .ok (.ireturn, 1) := by decide +kernel
theorem dX5_look_0 : decode cX5_look 0 = .ok (.aload_n 0, 1) := by decide +kernel
theorem dX5_look_1 : decode cX5_look 1 = .ok (.iload_n 1, 1) := by decide +kernel
theorem dX5_look_2 : decode cX5_look 2 = .ok (.invokevirtual 165, 3) := by decide +kernel
theorem dX5_look_5 : decode cX5_look 5 = .ok (.ifCond .ne 10, 3) := by decide +kernel
theorem dX5_look_8 : decode cX5_look 8 = .ok (.aload_n 0, 1) := by decide +kernel
theorem dX5_look_9 : decode cX5_look 9 = .ok (.bipush (-2), 2) := by decide +kernel
theorem dX5_look_11 : decode cX5_look 11 = .ok (.invokevirtual 89, 3) := by decide +kernel
theorem dX5_look_14 : decode cX5_look 14 = .ok (.ireturn, 1) := by decide +kernel
theorem dX5_look_15 : decode cX5_look 15 = .ok (.aload_n 0, 1) := by decide +kernel
theorem dX5_look_16 : decode cX5_look 16 = .ok (.iload_n 1, 1) := by decide +kernel
theorem dX5_look_17 : decode cX5_look 17 = .ok (.invokevirtual 262, 3) := by decide +kernel
theorem dX5_look_20 : decode cX5_look 20 = .ok (.istore_n 2, 1) := by decide +kernel
theorem dX5_look_21 : decode cX5_look 21 = .ok (.iconst (-1), 1) := by decide +kernel
theorem dX5_look_22 : decode cX5_look 22 = .ok (.istore_n 3, 1) := by decide +kernel
theorem dX5_look_23 : decode cX5_look 23 = .ok (.bipush 7, 2) := by decide +kernel
theorem dX5_look_25 : decode cX5_look 25 = .ok (.istore 4, 2) := by decide +kernel
theorem dX5_look_27 : decode cX5_look 27 = .ok (.iconst 0, 1) := by decide +kernel
theorem dX5_look_28 : decode cX5_look 28 = .ok (.istore 5, 2) := by decide +kernel
theorem dX5_look_30 : decode cX5_look 30 = .ok (.iload 5, 2) := by decide +kernel
theorem dX5_look_32 : decode cX5_look 32 = .ok (.bipush 20, 2) := by decide +kernel
theorem dX5_look_34 : decode cX5_look 34 = .ok (.if_icmp .gt 99, 3) := by decide +kernel
theorem dX5_look_37 : decode cX5_look 37 = .ok (.iload_n 2, 1) := by decide +kernel
theorem dX5_look_38 : decode cX5_look 38 = .ok (.ifCond .eq 95, 3) := by decide +kernel
theorem dX5_look_41 : decode cX5_look 41 = .ok (.iconst 0, 1) := by decide +kernel
theorem dX5_look_42 : decode cX5_look 42 = .ok (.istore 6, 2) := by decide +kernel
theorem dX5_look_44 : decode cX5_look 44 = .ok (.iload 6, 2) := by decide +kernel
theorem dX5_look_46 : decode cX5_look 46 = .ok (.iconst 1, 1) := by decide +kernel
theorem dX5_look_47 : decode cX5_look 47 = .ok (.if_icmp .gt 80, 3) := by decide +kernel
theorem dX5_look_50 : decode cX5_look 50 = .ok (.iconst 0, 1) := by decide +kernel
theorem dX5_look_51 : decode cX5_look 51 = .ok (.istore 7, 2) := by decide +kernel
theorem dX5_look_53 : decode cX5_look 53 = .ok (.iload 7, 2) := by decide +kernel
theorem dX5_look_55 : decode cX5_look 55 = .ok (.bipush 6, 2) := by decide +kernel
theorem dX5_look_57 : decode cX5_look 57 = .ok (.if_icmp .ge 37, 3) := by decide +kernel
theorem dX5_look_60 : decode cX5_look 60 = .ok (.aload_n 0, 1) := by decide +kernel
theorem dX5_look_61 : decode cX5_look 61 = .ok (.getfield 52, 3) := by decide +kernel
theorem dX5_look_64 : decode cX5_look 64 = .ok (.iload 7, 2) := by decide +kernel
theorem dX5_look_66 : decode cX5_look 66 = .ok (.iload 7, 2) := by decide +kernel
theorem dX5_look_68 : decode cX5_look 68 = .ok (.aload_n 0, 1) := by decide +kernel
theorem dX5_look_69 : decode cX5_look 69 = .ok (.getfield 10, 3) := by decide +kernel
theorem dX5_look_72 : decode cX5_look 72 = .ok (.getfield 131, 3) := by decide +kernel
theorem dX5_look_75 : decode cX5_look 75 = .ok (.getfield 174, 3) := by decide +kernel
theorem dX5_look_78 : decode cX5_look 78 = .ok (.iload_n 1, 1) := by decide +kernel
theorem dX5_look_79 : decode cX5_look 79 = .ok (.iaload, 1) := by decide +kernel
theorem dX5_look_80 : decode cX5_look 80 = .ok (.iload 6, 2) := by decide +kernel
theorem dX5_look_82 : decode cX5_look 82 = .ok (.iload 5, 2) := by decide +kernel
theorem dX5_look_84 : decode cX5_look 84 = .ok (.invokestatic 218, 3) := by decide +kernel
theorem dX5_look_87 : decode cX5_look 87 = .ok (.iastore, 1) := by decide +kernel
theorem dX5_look_88 : decode cX5_look 88 = .ok (.iinc 7 1, 3) := by decide +kernel
theorem dX5_look_91 : decode cX5_look 91 = .ok (.goto (-38), 3) := by decide +kernel
theorem dX5_look_94 : decode cX5_look 94 = .ok (.aload_n 0, 1) := by decide +kernel
theorem dX5_look_95 : decode cX5_look 95 = .ok (.iload_n 2, 1) := by decide +kernel
theorem dX5_look_96 : decode cX5_look 96 = .ok (.invokevirtual 265, 3) := by decide +kernel
theorem dX5_look_99 : decode cX5_look 99 = .ok (.istore 7, 2) := by decide +kernel
theorem dX5_look_101 : decode cX5_look 101 = .ok (.iload 7, 2) := by decide +kernel
theorem dX5_look_103 : decode cX5_look 103 = .ok (.iload 4, 2) := by decide +kernel
theorem dX5_look_105 : decode cX5_look 105 = .ok (.if_icmp .ge 16, 3) := by decide +kernel
theorem dX5_look_108 : decode cX5_look 108 = .ok (.iload 7, 2) := by decide +kernel
theorem dX5_look_110 : decode cX5_look 110 = .ok (.istore 4, 2) := by decide +kernel
theorem dX5_look_112 : decode cX5_look 112 = .ok (.bipush 100, 2) := by decide +kernel
theorem dX5_look_114 : decode cX5_look 114 = .ok (.iload 5, 2) := by decide +kernel
theorem dX5_look_116 : decode cX5_look 116 = .ok (.imul, 1) := by decide +kernel
theorem dX5_look_117 : decode cX5_look 117 = .ok (.iload 6, 2) := by decide +kernel
theorem dX5_look_119 : decode cX5_look 119 = .ok (.iadd, 1) := by decide +kernel
theorem dX5_look_120 : decode cX5_look 120 = .ok (.istore_n 3, 1) := by decide +kernel
theorem dX5_look_121 : decode cX5_look 121 = .ok (.iinc 6 1, 3) := by decide +kernel
theorem dX5_look_124 : decode cX5_look 124 = .ok (.goto (-80), 3) := by decide +kernel
theorem dX5_look_127 : decode cX5_look 127 = .ok (.iinc 5 1, 3) := by decide +kernel
theorem dX5_look_130 : decode cX5_look 130 = .ok (.goto (-100), 3) := by decide +kernel
theorem dX5_look_133 : decode cX5_look 133 = .ok (.iload_n 3, 1) := by decide +kernel
theorem dX5_look_134 : decode cX5_look 134 = .ok (.ireturn, 1) := by decide +kernel
theorem dX5_what_0 : decode cX5_what 0 = .ok (.aload_n 0, 1) := by decide +kernel
theorem dX5_what_1 : decode cX5_what 1 = .ok (.iload_n 1, 1) := by decide +kernel
theorem dX5_what_2 : decode cX5_what 2 = .ok (.invokevirtual 122, 3) := by decide +kernel
theorem dX5_what_5 : decode cX5_what 5 = .ok (.ifCond .eq 11, 3) := by decide +kernel
theorem dX5_what_8 : decode cX5_what 8 = .ok (.aload_n 0, 1) := by decide +kernel
theorem dX5_what_9 : decode cX5_what 9 = .ok (.iload_n 1, 1) := by decide +kernel
theorem dX5_what_10 : decode cX5_what 10 = .ok (.invokevirtual 268, 3) := by decide +kernel
theorem dX5_what_13 : decode cX5_what 13 = .ok (.goto 9, 3) := by decide +kernel
theorem dX5_what_16 : decode cX5_what 16 = .ok (.aload_n 0, 1) := by decide +kernel
theorem dX5_what_17 : decode cX5_what 17 = .ok (.bipush (-2), 2) := by decide +kernel
theorem dX5_what_19 : decode cX5_what 19 = .ok (.invokevirtual 89, 3) := by decide +kernel
theorem dX5_what_22 : decode cX5_what 22 = .ok (.ireturn, 1) := by decide +kernel
theorem dX5_tries_0 : decode cX5_tries 0 = .ok (.aload_n 0, 1) := by decide +kernel
theorem dX5_tries_1 : decode cX5_tries 1 = .ok (.iload_n 1, 1) := by decide +kernel
theorem dX5_tries_2 : decode cX5_tries 2 = .ok (.invokevirtual 122, 3) := by decide +kernel
theorem dX5_tries_5 : decode cX5_tries 5 = .ok (.ifCond .ne 10, 3) := by decide +kernel
theorem dX5_tries_8 : decode cX5_tries 8 = .ok (.aload_n 0, 1) := by decide +kernel
theorem dX5_tries_9 : decode cX5_tries 9 = .ok (.bipush (-2), 2) := by decide +kernel
theorem dX5_tries_11 : decode cX5_tries 11 = .ok (.invokevirtual 89, 3) := by decide +kernel
theorem dX5_tries_14 : decode cX5_tries 14 = .ok (.ireturn, 1) := by decide +kernel
theorem dX5_tries_15 : decode cX5_tries 15 = .ok (.aload_n 0, 1) := by decide +kernel
theorem dX5_tries_16 : decode cX5_tries 16 = .ok (.iload_n 1, 1) := by decide +kernel
theorem dX5_tries_17 : decode cX5_tries 17 = .ok (.invokevirtual 268, 3) := by decide +kernel
theorem dX5_tries_20 : decode cX5_tries 20 = .ok (.istore_n 2, 1) := by decide +kernel
theorem dX5_tries_21 : decode cX5_tries 21 = .ok (.iconst (-1), 1) := by decide +kernel
theorem dX5_tries_22 : decode cX5_tries 22 = .ok (.istore_n 3, 1) := by decide +kernel
theorem dX5_tries_23 : decode cX5_tries 23 = .ok (.bipush 7, 2) := by decide +kernel
theorem dX5_tries_25 : decode cX5_tries 25 = .ok (.istore 4, 2) := by decide +kernel
theorem dX5_tries_27 : decode cX5_tries 27 = .ok (.iconst 0, 1) := by decide +kernel
theorem dX5_tries_28 : decode cX5_tries 28 = .ok (.istore 5, 2) := by decide +kernel
theorem dX5_tries_30 : decode cX5_tries 30 = .ok (.iload 5, 2) := by decide +kernel
theorem dX5_tries_32 : decode cX5_tries 32 = .ok (.bipush 9, 2) := by decide +kernel
theorem dX5_tries_34 : decode cX5_tries 34 = .ok (.if_icmp .gt 88, 3) := by decide +kernel
theorem dX5_tries_37 : decode cX5_tries 37 = .ok (.iload_n 2, 1) := by decide +kernel
theorem dX5_tries_38 : decode cX5_tries 38 = .ok (.ifCond .eq 84, 3) := by decide +kernel
theorem dX5_tries_41 : decode cX5_tries 41 = .ok (.iconst 0, 1) := by decide +kernel
theorem dX5_tries_42 : decode cX5_tries 42 = .ok (.istore 6, 2) := by decide +kernel
theorem dX5_tries_44 : decode cX5_tries 44 = .ok (.iload 6, 2) := by decide +kernel
theorem dX5_tries_46 : decode cX5_tries 46 = .ok (.bipush 20, 2) := by decide +kernel
theorem dX5_tries_48 : decode cX5_tries 48 = .ok (.if_icmp .gt 68, 3) := by decide +kernel
theorem dX5_tries_51 : decode cX5_tries 51 = .ok (.iconst 0, 1) := by decide +kernel
theorem dX5_tries_52 : decode cX5_tries 52 = .ok (.istore 7, 2) := by decide +kernel
theorem dX5_tries_54 : decode cX5_tries 54 = .ok (.iload 7, 2) := by decide +kernel
theorem dX5_tries_56 : decode cX5_tries 56 = .ok (.bipush 6, 2) := by decide +kernel
theorem dX5_tries_58 : decode cX5_tries 58 = .ok (.if_icmp .ge 25, 3) := by decide +kernel
theorem dX5_tries_61 : decode cX5_tries 61 = .ok (.aload_n 0, 1) := by decide +kernel
theorem dX5_tries_62 : decode cX5_tries 62 = .ok (.getfield 52, 3) := by decide +kernel
theorem dX5_tries_65 : decode cX5_tries 65 = .ok (.iload 7, 2) := by decide +kernel
theorem dX5_tries_67 : decode cX5_tries 67 = .ok (.iload 7, 2) := by decide +kernel
theorem dX5_tries_69 : decode cX5_tries 69 = .ok (.iload 5, 2) := by decide +kernel
theorem dX5_tries_71 : decode cX5_tries 71 = .ok (.iload 6, 2) := by decide +kernel
theorem dX5_tries_73 : decode cX5_tries 73 = .ok (.invokestatic 271, 3) := by decide +kernel
theorem dX5_tries_76 : decode cX5_tries 76 = .ok (.iastore, 1) := by decide +kernel
theorem dX5_tries_77 : decode cX5_tries 77 = .ok (.iinc 7 1, 3) := by decide +kernel
theorem dX5_tries_80 : decode cX5_tries 80 = .ok (.goto (-26), 3) := by decide +kernel
theorem dX5_tries_83 : decode cX5_tries 83 = .ok (.aload_n 0, 1) := by decide +kernel
theorem dX5_tries_84 : decode cX5_tries 84 = .ok (.iload_n 2, 1) := by decide +kernel
theorem dX5_tries_85 : decode cX5_tries 85 = .ok (.invokevirtual 265, 3) := by decide +kernel
theorem dX5_tries_88 : decode cX5_tries 88 = .ok (.istore 7, 2) := by decide +kernel
theorem dX5_tries_90 : decode cX5_tries 90 = .ok (.iload 7, 2) := by decide +kernel
theorem dX5_tries_92 : decode cX5_tries 92 = .ok (.iload 4, 2) := by decide +kernel
theorem dX5_tries_94 : decode cX5_tries 94 = .ok (.if_icmp .ge 16, 3) := by decide +kernel
theorem dX5_tries_97 : decode cX5_tries 97 = .ok (.iload 7, 2) := by decide +kernel
theorem dX5_tries_99 : decode cX5_tries 99 = .ok (.istore 4, 2) := by decide +kernel
theorem dX5_tries_101 : decode cX5_tries 101 = .ok (.bipush 100, 2) := by decide +kernel
theorem dX5_tries_103 : decode cX5_tries 103 = .ok (.iload 5, 2) := by decide +kernel
theorem dX5_tries_105 : decode cX5_tries 105 = .ok (.imul, 1) := by decide +kernel
theorem dX5_tries_106 : decode cX5_tries 106 = .ok (.iload 6, 2) := by decide +kernel
theorem dX5_tries_108 : decode cX5_tries 108 = .ok (.iadd, 1) := by decide +kernel
theorem dX5_tries_109 : decode cX5_tries 109 = .ok (.istore_n 3, 1) := by decide +kernel
theorem dX5_tries_110 : decode cX5_tries 110 = .ok (.iinc 6 1, 3) := by decide +kernel
theorem dX5_tries_113 : decode cX5_tries 113 = .ok (.goto (-69), 3) := by decide +kernel
theorem dX5_tries_116 : decode cX5_tries 116 = .ok (.iinc 5 1, 3) := by decide +kernel
theorem dX5_tries_119 : decode cX5_tries 119 = .ok (.goto (-89), 3) := by decide +kernel
theorem dX5_tries_122 : decode cX5_tries 122 = .ok (.iload_n 3, 1) := by decide +kernel
theorem dX5_tries_123 : decode cX5_tries 123 = .ok (.ireturn, 1) := by decide +kernel
theorem dX5_two_0 : decode cX5_two 0 = .ok (.aload_n 0, 1) := by decide +kernel
theorem dX5_two_1 : decode cX5_two 1 = .ok (.iload_n 1, 1) := by decide +kernel
theorem dX5_two_2 : decode cX5_two 2 = .ok (.invokevirtual 122, 3) := by decide +kernel
theorem dX5_two_5 : decode cX5_two 5 = .ok (.ifCond .eq 21, 3) := by decide +kernel
theorem dX5_two_8 : decode cX5_two 8 = .ok (.aload_n 0, 1) := by decide +kernel
theorem dX5_two_9 : decode cX5_two 9 = .ok (.iload_n 2, 1) := by decide +kernel
theorem dX5_two_10 : decode cX5_two 10 = .ok (.invokevirtual 122, 3) := by decide +kernel
theorem dX5_two_13 : decode cX5_two 13 = .ok (.ifCond .eq 13, 3) := by decide +kernel
theorem dX5_two_16 : decode cX5_two 16 = .ok (.iload_n 1, 1) := by decide +kernel
theorem dX5_two_17 : decode cX5_two 17 = .ok (.iload_n 2, 1) := by decide +kernel
theorem dX5_two_18 : decode cX5_two 18 = .ok (.if_icmp .eq 8, 3) := by decide +kernel
theorem dX5_two_21 : decode cX5_two 21 = .ok (.iload_n 3, 1) := by decide +kernel
theorem dX5_two_22 : decode cX5_two 22 = .ok (.iconst (-1), 1) := by decide +kernel
theorem dX5_two_23 : decode cX5_two 23 = .ok (.if_icmp .ge 10, 3) := by decide +kernel
theorem dX5_two_26 : decode cX5_two 26 = .ok (.aload_n 0, 1) := by decide +kernel
theorem dX5_two_27 : decode cX5_two 27 = .ok (.bipush (-10), 2) := by decide +kernel
theorem dX5_two_29 : decode cX5_two 29 = .ok (.invokevirtual 128, 3) := by decide +kernel
theorem dX5_two_32 : decode cX5_two 32 = .ok (.ireturn, 1) := by decide +kernel
theorem dX5_two_33 : decode cX5_two 33 = .ok (.iconst 0, 1) := by decide +kernel
theorem dX5_two_34 : decode cX5_two 34 = .ok (.istore 4, 2) := by decide +kernel
theorem dX5_two_36 : decode cX5_two 36 = .ok (.iload 4, 2) := by decide +kernel
theorem dX5_two_38 : decode cX5_two 38 = .ok (.aload_n 0, 1) := by decide +kernel
theorem dX5_two_39 : decode cX5_two 39 = .ok (.getfield 10, 3) := by decide +kernel
theorem dX5_two_42 : decode cX5_two 42 = .ok (.getfield 93, 3) := by decide +kernel
theorem dX5_two_45 : decode cX5_two 45 = .ok (.if_icmp .ge 57, 3) := by decide +kernel
theorem dX5_two_48 : decode cX5_two 48 = .ok (.aload_n 0, 1) := by decide +kernel
theorem dX5_two_49 : decode cX5_two 49 = .ok (.getfield 55, 3) := by decide +kernel
theorem dX5_two_52 : decode cX5_two 52 = .ok (.iload 4, 2) := by decide +kernel
theorem dX5_two_54 : decode cX5_two 54 = .ok (.aload_n 0, 1) := by decide +kernel
theorem dX5_two_55 : decode cX5_two 55 = .ok (.getfield 10, 3) := by decide +kernel
theorem dX5_two_58 : decode cX5_two 58 = .ok (.aload_n 0, 1) := by decide +kernel
theorem dX5_two_59 : decode cX5_two 59 = .ok (.getfield 10, 3) := by decide +kernel
theorem dX5_two_62 : decode cX5_two 62 = .ok (.getfield 131, 3) := by decide +kernel
theorem dX5_two_65 : decode cX5_two 65 = .ok (.iload_n 1, 1) := by decide +kernel
theorem dX5_two_66 : decode cX5_two 66 = .ok (.iload 4, 2) := by decide +kernel
theorem dX5_two_68 : decode cX5_two 68 = .ok (.invokevirtual 195, 3) := by decide +kernel
theorem dX5_two_71 : decode cX5_two 71 = .ok (.iastore, 1) := by decide +kernel
theorem dX5_two_72 : decode cX5_two 72 = .ok (.aload_n 0, 1) := by decide +kernel
theorem dX5_two_73 : decode cX5_two 73 = .ok (.getfield 58, 3) := by decide +kernel
theorem dX5_two_76 : decode cX5_two 76 = .ok (.iload 4, 2) := by decide +kernel
theorem dX5_two_78 : decode cX5_two 78 = .ok (.aload_n 0, 1) := by decide +kernel
theorem dX5_two_79 : decode cX5_two 79 = .ok (.getfield 10, 3) := by decide +kernel
theorem dX5_two_82 : decode cX5_two 82 = .ok (.aload_n 0, 1) := by decide +kernel
theorem dX5_two_83 : decode cX5_two 83 = .ok (.getfield 10, 3) := by decide +kernel
theorem dX5_two_86 : decode cX5_two 86 = .ok (.getfield 131, 3) := by decide +kernel
theorem dX5_two_89 : decode cX5_two 89 = .ok (.iload_n 2, 1) := by decide +kernel
theorem dX5_two_90 : decode cX5_two 90 = .ok (.iload 4, 2) := by decide +kernel
theorem dX5_two_92 : decode cX5_two 92 = .ok (.invokevirtual 195, 3) := by decide +kernel
theorem dX5_two_95 : decode cX5_two 95 = .ok (.iastore, 1) := by decide +kernel
theorem dX5_two_96 : decode cX5_two 96 = .ok (.iinc 4 1, 3) := by decide +kernel
theorem dX5_two_99 : decode cX5_two 99 = .ok (.goto (-63), 3) := by decide +kernel
theorem dX5_two_102 : decode cX5_two 102 = .ok (.iconst 0, 1) := by decide +kernel
theorem dX5_two_103 : decode cX5_two 103 = .ok (.istore 4, 2) := by decide +kernel
theorem dX5_two_105 : decode cX5_two 105 = .ok (.iconst 0, 1) := by decide +kernel
theorem dX5_two_106 : decode cX5_two 106 = .ok (.istore 5, 2) := by decide +kernel
theorem dX5_two_108 : decode cX5_two 108 = .ok (.iload 5, 2) := by decide +kernel
theorem dX5_two_110 : decode cX5_two 110 = .ok (.aload_n 0, 1) := by decide +kernel
theorem dX5_two_111 : decode cX5_two 111 = .ok (.getfield 10, 3) := by decide +kernel
theorem dX5_two_114 : decode cX5_two 114 = .ok (.getfield 93, 3) := by decide +kernel
theorem dX5_two_117 : decode cX5_two 117 = .ok (.if_icmp .ge 78, 3) := by decide +kernel
theorem dX5_two_120 : decode cX5_two 120 = .ok (.iconst 0, 1) := by decide +kernel
theorem dX5_two_121 : decode cX5_two 121 = .ok (.istore 6, 2) := by decide +kernel
theorem dX5_two_123 : decode cX5_two 123 = .ok (.iload 6, 2) := by decide +kernel
theorem dX5_two_125 : decode cX5_two 125 = .ok (.aload_n 0, 1) := by decide +kernel
theorem dX5_two_126 : decode cX5_two 126 = .ok (.getfield 10, 3) := by decide +kernel
theorem dX5_two_129 : decode cX5_two 129 = .ok (.getfield 93, 3) := by decide +kernel
theorem dX5_two_132 : decode cX5_two 132 = .ok (.if_icmp .ge 57, 3) := by decide +kernel
theorem dX5_two_135 : decode cX5_two 135 = .ok (.aload_n 0, 1) := by decide +kernel
theorem dX5_two_136 : decode cX5_two 136 = .ok (.aload_n 0, 1) := by decide +kernel
theorem dX5_two_137 : decode cX5_two 137 = .ok (.getfield 55, 3) := by decide +kernel
theorem dX5_two_140 : decode cX5_two 140 = .ok (.iload 5, 2) := by decide +kernel
theorem dX5_two_142 : decode cX5_two 142 = .ok (.iload 6, 2) := by decide +kernel
theorem dX5_two_144 : decode cX5_two 144 = .ok (.invokevirtual 274, 3) := by decide +kernel
theorem dX5_two_147 : decode cX5_two 147 = .ok (.ifCond .eq 36, 3) := by decide +kernel
theorem dX5_two_150 : decode cX5_two 150 = .ok (.aload_n 0, 1) := by decide +kernel
theorem dX5_two_151 : decode cX5_two 151 = .ok (.aload_n 0, 1) := by decide +kernel
theorem dX5_two_152 : decode cX5_two 152 = .ok (.getfield 58, 3) := by decide +kernel
theorem dX5_two_155 : decode cX5_two 155 = .ok (.iload 6, 2) := by decide +kernel
theorem dX5_two_157 : decode cX5_two 157 = .ok (.iload 5, 2) := by decide +kernel
theorem dX5_two_159 : decode cX5_two 159 = .ok (.invokevirtual 274, 3) := by decide +kernel
theorem dX5_two_162 : decode cX5_two 162 = .ok (.ifCond .eq 21, 3) := by decide +kernel
theorem dX5_two_165 : decode cX5_two 165 = .ok (.iload 4, 2) := by decide +kernel
theorem dX5_two_167 : decode cX5_two 167 = .ok (.iload_n 3, 1) := by decide +kernel
theorem dX5_two_168 : decode cX5_two 168 = .ok (.if_icmp .ne 12, 3) := by decide +kernel
theorem dX5_two_171 : decode cX5_two 171 = .ok (.bipush 7, 2) := by decide +kernel
theorem dX5_two_173 : decode cX5_two 173 = .ok (.iload 5, 2) := by decide +kernel
theorem dX5_two_175 : decode cX5_two 175 = .ok (.imul, 1) := by decide +kernel
theorem dX5_two_176 : decode cX5_two 176 = .ok (.iload 6, 2) := by decide +kernel
theorem dX5_two_178 : decode cX5_two 178 = .ok (.iadd, 1) := by decide +kernel
theorem dX5_two_179 : decode cX5_two 179 = .ok (.ireturn, 1) := by decide +kernel
theorem dX5_two_180 : decode cX5_two 180 = .ok (.iinc 4 1, 3) := by decide +kernel
theorem dX5_two_183 : decode cX5_two 183 = .ok (.iinc 6 1, 3) := by decide +kernel
theorem dX5_two_186 : decode cX5_two 186 = .ok (.goto (-63), 3) := by decide +kernel
theorem dX5_two_189 : decode cX5_two 189 = .ok (.iinc 5 1, 3) := by decide +kernel
theorem dX5_two_192 : decode cX5_two 192 = .ok (.goto (-84), 3) := by decide +kernel
theorem dX5_two_195 : decode cX5_two 195 = .ok (.iload_n 3, 1) := by decide +kernel
theorem dX5_two_196 : decode cX5_two 196 = .ok (.iconst (-1), 1) := by decide +kernel
theorem dX5_two_197 : decode cX5_two 197 = .ok (.if_icmp .ne 8, 3) := by decide +kernel
theorem dX5_two_200 : decode cX5_two 200 = .ok (.iload 4, 2) := by decide +kernel
theorem dX5_two_202 : decode cX5_two 202 = .ok (.goto 5, 3) := by decide +kernel
theorem dX5_two_205 : decode cX5_two 205 = .ok (.bipush (-5), 2) := by decide +kernel
theorem dX5_two_207 : decode cX5_two 207 = .ok (.ireturn, 1) := by decide +kernel
theorem dX5_left_0 : decode cX5_left 0 = .ok (.iload_n 1, 1) := by decide +kernel
theorem dX5_left_1 : decode cX5_left 1 = .ok (.iconst 0, 1) := by decide +kernel
theorem dX5_left_2 : decode cX5_left 2 = .ok (.iconst 5, 1) := by decide +kernel
theorem dX5_left_3 : decode cX5_left 3 = .ok (.invokestatic 85, 3) := by decide +kernel
theorem dX5_left_6 : decode cX5_left 6 = .ok (.ifCond .eq 22, 3) := by decide +kernel
theorem dX5_left_9 : decode cX5_left 9 = .ok (.iload_n 2, 1) := by decide +kernel
theorem dX5_left_10 : decode cX5_left 10 = .ok (.iconst 0, 1) := by decide +kernel
theorem dX5_left_11 : decode cX5_left 11 = .ok (.iconst 3, 1) := by decide +kernel
theorem dX5_left_12 : decode cX5_left 12 = .ok (.invokestatic 85, 3) := by decide +kernel
theorem dX5_left_15 : decode cX5_left 15 = .ok (.ifCond .eq 13, 3) := by decide +kernel
theorem dX5_left_18 : decode cX5_left 18 = .ok (.iload_n 3, 1) := by decide +kernel
theorem dX5_left_19 : decode cX5_left 19 = .ok (.iconst 0, 1) := by decide +kernel
theorem dX5_left_20 : decode cX5_left 20 = .ok (.bipush 10, 2) := by decide +kernel
theorem dX5_left_22 : decode cX5_left 22 = .ok (.invokestatic 85, 3) := by decide +kernel
theorem dX5_left_25 : decode cX5_left 25 = .ok (.ifCond .ne 10, 3) := by decide +kernel
theorem dX5_left_28 : decode cX5_left 28 = .ok (.aload_n 0, 1) := by decide +kernel
theorem dX5_left_29 : decode cX5_left 29 = .ok (.bipush (-2), 2) := by decide +kernel
theorem dX5_left_31 : decode cX5_left 31 = .ok (.invokevirtual 89, 3) := by decide +kernel
theorem dX5_left_34 : decode cX5_left 34 = .ok (.ireturn, 1) := by decide +kernel
theorem dX5_left_35 : decode cX5_left 35 = .ok (.ldc2_w 278, 3) := by decide +kernel
theorem dX5_left_38 : decode cX5_left 38 = .ok (.iload_n 2, 1) := by decide +kernel
theorem dX5_left_39 : decode cX5_left 39 = .ok (.invokestatic 280, 3) := by decide +kernel
theorem dX5_left_42 : decode cX5_left 42 = .ok (.lstore 4, 2) := by decide +kernel
theorem dX5_left_44 : decode cX5_left 44 = .ok (.bipush 10, 2) := by decide +kernel
theorem dX5_left_46 : decode cX5_left 46 = .ok (.iload_n 3, 1) := by decide +kernel
theorem dX5_left_47 : decode cX5_left 47 = .ok (.isub, 1) := by decide +kernel
theorem dX5_left_48 : decode cX5_left 48 = .ok (.i2l, 1) := by decide +kernel
theorem dX5_left_49 : decode cX5_left 49 = .ok (.iload_n 2, 1) := by decide +kernel
theorem dX5_left_50 : decode cX5_left 50 = .ok (.invokestatic 280, 3) := by decide +kernel
theorem dX5_left_53 : decode cX5_left 53 = .ok (.lstore 6, 2) := by decide +kernel
theorem dX5_left_55 : decode cX5_left 55 = .ok (.lconst 0, 1) := by decide +kernel
theorem dX5_left_56 : decode cX5_left 56 = .ok (.lstore 8, 2) := by decide +kernel
theorem dX5_left_58 : decode cX5_left 58 = .ok (.iload_n 1, 1) := by decide +kernel
theorem dX5_left_59 : decode cX5_left 59 = .ok (.istore 10, 2) := by decide +kernel
theorem dX5_left_61 : decode cX5_left 61 = .ok (.iload 10, 2) := by decide +kernel
theorem dX5_left_63 : decode cX5_left 63 = .ok (.aload_n 0, 1) := by decide +kernel
theorem dX5_left_64 : decode cX5_left 64 = .ok (.getfield 10, 3) := by decide +kernel
theorem dX5_left_67 : decode cX5_left 67 = .ok (.getfield 71, 3) := by decide +kernel
theorem dX5_left_70 : decode cX5_left 70 = .ok (.if_icmp .gt 53, 3) := by decide +kernel
theorem dX5_left_73 : decode cX5_left 73 = .ok (.lload 8, 2) := by decide +kernel
theorem dX5_left_75 : decode cX5_left 75 = .ok (.aload_n 0, 1) := by decide +kernel
theorem dX5_left_76 : decode cX5_left 76 = .ok (.getfield 10, 3) := by decide +kernel
theorem dX5_left_79 : decode cX5_left 79 = .ok (.getfield 71, 3) := by decide +kernel
theorem dX5_left_82 : decode cX5_left 82 = .ok (.iload 10, 2) := by decide +kernel
theorem dX5_left_84 : decode cX5_left 84 = .ok (.invokestatic 284, 3) := by decide +kernel
theorem dX5_left_87 : decode cX5_left 87 = .ok (.lload 6, 2) := by decide +kernel
theorem dX5_left_89 : decode cX5_left 89 = .ok (.iload 10, 2) := by decide +kernel
theorem dX5_left_91 : decode cX5_left 91 = .ok (.invokestatic 280, 3) := by decide +kernel
theorem dX5_left_94 : decode cX5_left 94 = .ok (.lmul, 1) := by decide +kernel
theorem dX5_left_95 : decode cX5_left 95 = .ok (.lload 4, 2) := by decide +kernel
theorem dX5_left_97 : decode cX5_left 97 = .ok (.lload 6, 2) := by decide +kernel
theorem dX5_left_99 : decode cX5_left 99 = .ok (.lsub, 1) := by decide +kernel
theorem dX5_left_100 : decode cX5_left 100 = .ok (.aload_n 0, 1) := by decide +kernel
theorem dX5_left_101 : decode cX5_left 101 = .ok (.getfield 10, 3) := by decide +kernel
theorem dX5_left_104 : decode cX5_left 104 = .ok (.getfield 71, 3) := by decide +kernel
theorem dX5_left_107 : decode cX5_left 107 = .ok (.iload 10, 2) := by decide +kernel
theorem dX5_left_109 : decode cX5_left 109 = .ok (.isub, 1) := by decide +kernel
theorem dX5_left_110 : decode cX5_left 110 = .ok (.invokestatic 280, 3) := by decide +kernel
theorem dX5_left_113 : decode cX5_left 113 = .ok (.lmul, 1) := by decide +kernel
theorem dX5_left_114 : decode cX5_left 114 = .ok (.ladd, 1) := by decide +kernel
theorem dX5_left_115 : decode cX5_left 115 = .ok (.lstore 8, 2) := by decide +kernel
theorem dX5_left_117 : decode cX5_left 117 = .ok (.iinc 10 1, 3) := by decide +kernel
theorem dX5_left_120 : decode cX5_left 120 = .ok (.goto (-59), 3) := by decide +kernel
theorem dX5_left_123 : decode cX5_left 123 = .ok (.aload_n 0, 1) := by decide +kernel
theorem dX5_left_124 : decode cX5_left 124 = .ok (.lload 8, 2) := by decide +kernel
theorem dX5_left_126 : decode cX5_left 126 = .ok (.lload 4, 2) := by decide +kernel
theorem dX5_left_128 : decode cX5_left 128 = .ok (.aload_n 0, 1) := by decide +kernel
theorem dX5_left_129 : decode cX5_left 129 = .ok (.getfield 10, 3) := by decide +kernel
theorem dX5_left_132 : decode cX5_left 132 = .ok (.getfield 71, 3) := by decide +kernel
theorem dX5_left_135 : decode cX5_left 135 = .ok (.invokestatic 280, 3) := by decide +kernel
theorem dX5_left_138 : decode cX5_left 138 = .ok (.invokevirtual 288, 3) := by decide +kernel
theorem dX5_left_141 : decode cX5_left 141 = .ok (.iconst 1, 1) := by decide +kernel
theorem dX5_left_142 : decode cX5_left 142 = .ok (.ireturn, 1) := by decide +kernel
theorem dX5_years_0 : decode cX5_years 0 = .ok (.iload_n 1, 1) := by decide +kernel
theorem dX5_years_1 : decode cX5_years 1 = .ok (.iconst 0, 1) := by decide +kernel
theorem dX5_years_2 : decode cX5_years 2 = .ok (.ldc_w 292, 3) := by decide +kernel
theorem dX5_years_5 : decode cX5_years 5 = .ok (.invokestatic 85, 3) := by decide +kernel
theorem dX5_years_8 : decode cX5_years 8 = .ok (.ifCond .eq 10, 3) := by decide +kernel
theorem dX5_years_11 : decode cX5_years 11 = .ok (.iload_n 2, 1) := by decide +kernel
theorem dX5_years_12 : decode cX5_years 12 = .ok (.invokestatic 199, 3) := by decide +kernel
theorem dX5_years_15 : decode cX5_years 15 = .ok (.ifCond .ne 10, 3) := by decide +kernel
theorem dX5_years_18 : decode cX5_years 18 = .ok (.aload_n 0, 1) := by decide +kernel
theorem dX5_years_19 : decode cX5_years 19 = .ok (.bipush (-2), 2) := by decide +kernel
theorem dX5_years_21 : decode cX5_years 21 = .ok (.invokevirtual 89, 3) := by decide +kernel
theorem dX5_years_24 : decode cX5_years 24 = .ok (.ireturn, 1) := by decide +kernel
theorem dX5_years_25 : decode cX5_years 25 = .ok (.aload_n 0, 1) := by decide +kernel
theorem dX5_years_26 : decode cX5_years 26 = .ok (.getfield 30, 3) := by decide +kernel
theorem dX5_years_29 : decode cX5_years 29 = .ok (.aload_n 0, 1) := by decide +kernel
theorem dX5_years_30 : decode cX5_years 30 = .ok (.getfield 10, 3) := by decide +kernel
theorem dX5_years_33 : decode cX5_years 33 = .ok (.getfield 131, 3) := by decide +kernel
theorem dX5_years_36 : decode cX5_years 36 = .ok (.invokevirtual 209, 3) := by decide +kernel
theorem dX5_years_39 : decode cX5_years 39 = .ok (.iload_n 1, 1) := by decide +kernel
theorem dX5_years_40 : decode cX5_years 40 = .ok (.i2l, 1) := by decide +kernel
theorem dX5_years_41 : decode cX5_years 41 = .ok (.lstore_n 3, 1) := by decide +kernel
theorem dX5_years_42 : decode cX5_years 42 = .ok (.iconst 0, 1) := by decide +kernel
theorem dX5_years_43 : decode cX5_years 43 = .ok (.istore 5, 2) := by decide +kernel
theorem dX5_years_45 : decode cX5_years 45 = .ok (.iload 5, 2) := by decide +kernel
theorem dX5_years_47 : decode cX5_years 47 = .ok (.iload_n 2, 1) := by decide +kernel
theorem dX5_years_48 : decode cX5_years 48 = .ok (.if_icmp .ge 94, 3) := by decide +kernel
theorem dX5_years_51 : decode cX5_years 51 = .ok (.lload_n 3, 1) := by decide +kernel
theorem dX5_years_52 : decode cX5_years 52 = .ok (.ldc2_w 293, 3) := by decide +kernel
theorem dX5_years_55 : decode cX5_years 55 = .ok (.lmul, 1) := by decide +kernel
theorem dX5_years_56 : decode cX5_years 56 = .ok (.ldc2_w 295, 3) := by decide +kernel
theorem dX5_years_59 : decode cX5_years 59 = .ok (.ladd, 1) := by decide +kernel
theorem dX5_years_60 : decode cX5_years 60 = .ok (.ldc2_w 297, 3) := by decide +kernel
theorem dX5_years_63 : decode cX5_years 63 = .ok (.lrem, 1) := by decide +kernel
theorem dX5_years_64 : decode cX5_years 64 = .ok (.lstore_n 3, 1) := by decide +kernel
theorem dX5_years_65 : decode cX5_years 65 = .ok (.lload_n 3, 1) := by decide +kernel
theorem dX5_years_66 : decode cX5_years 66 = .ok (.ldc2_w 299, 3) := by decide +kernel
theorem dX5_years_69 : decode cX5_years 69 = .ok (.ldiv, 1) := by decide +kernel
theorem dX5_years_70 : decode cX5_years 70 = .ok (.ldc2_w 301, 3) := by decide +kernel
theorem dX5_years_73 : decode cX5_years 73 = .ok (.lrem, 1) := by decide +kernel
theorem dX5_years_74 : decode cX5_years 74 = .ok (.l2i, 1) := by decide +kernel
theorem dX5_years_75 : decode cX5_years 75 = .ok (.istore 6, 2) := by decide +kernel
theorem dX5_years_77 : decode cX5_years 77 = .ok (.lload_n 3, 1) := by decide +kernel
theorem dX5_years_78 : decode cX5_years 78 = .ok (.ldc2_w 303, 3) := by decide +kernel
theorem dX5_years_81 : decode cX5_years 81 = .ok (.ldiv, 1) := by decide +kernel
theorem dX5_years_82 : decode cX5_years 82 = .ok (.ldc2_w 301, 3) := by decide +kernel
theorem dX5_years_85 : decode cX5_years 85 = .ok (.lrem, 1) := by decide +kernel
theorem dX5_years_86 : decode cX5_years 86 = .ok (.l2i, 1) := by decide +kernel
theorem dX5_years_87 : decode cX5_years 87 = .ok (.istore 7, 2) := by decide +kernel
theorem dX5_years_89 : decode cX5_years 89 = .ok (.aload_n 0, 1) := by decide +kernel
theorem dX5_years_90 : decode cX5_years 90 = .ok (.iload 6, 2) := by decide +kernel
theorem dX5_years_92 : decode cX5_years 92 = .ok (.invokevirtual 122, 3) := by decide +kernel
theorem dX5_years_95 : decode cX5_years 95 = .ok (.ifCond .eq 30, 3) := by decide +kernel
theorem dX5_years_98 : decode cX5_years 98 = .ok (.aload_n 0, 1) := by decide +kernel
theorem dX5_years_99 : decode cX5_years 99 = .ok (.iload 7, 2) := by decide +kernel
theorem dX5_years_101 : decode cX5_years 101 = .ok (.invokevirtual 122, 3) := by decide +kernel
theorem dX5_years_104 : decode cX5_years 104 = .ok (.ifCond .eq 21, 3) := by decide +kernel
theorem dX5_years_107 : decode cX5_years 107 = .ok (.iload 6, 2) := by decide +kernel
theorem dX5_years_109 : decode cX5_years 109 = .ok (.iload 7, 2) := by decide +kernel
theorem dX5_years_111 : decode cX5_years 111 = .ok (.if_icmp .eq 14, 3) := by decide +kernel
theorem dX5_years_114 : decode cX5_years 114 = .ok (.aload_n 0, 1) := by decide +kernel
theorem dX5_years_115 : decode cX5_years 115 = .ok (.getfield 30, 3) := by decide +kernel
theorem dX5_years_118 : decode cX5_years 118 = .ok (.iload 6, 2) := by decide +kernel
theorem dX5_years_120 : decode cX5_years 120 = .ok (.iload 7, 2) := by decide +kernel
theorem dX5_years_122 : decode cX5_years 122 = .ok (.invokevirtual 144, 3) := by decide +kernel
theorem dX5_years_125 : decode cX5_years 125 = .ok (.aload_n 0, 1) := by decide +kernel
theorem dX5_years_126 : decode cX5_years 126 = .ok (.getfield 10, 3) := by decide +kernel
theorem dX5_years_129 : decode cX5_years 129 = .ok (.aload_n 0, 1) := by decide +kernel
theorem dX5_years_130 : decode cX5_years 130 = .ok (.getfield 30, 3) := by decide +kernel
theorem dX5_years_133 : decode cX5_years 133 = .ok (.invokevirtual 215, 3) := by decide +kernel
theorem dX5_years_136 : decode cX5_years 136 = .ok (.iinc 5 1, 3) := by decide +kernel
theorem dX5_years_139 : decode cX5_years 139 = .ok (.goto (-94), 3) := by decide +kernel
theorem dX5_years_142 : decode cX5_years 142 = .ok (.aload_n 0, 1) := by decide +kernel
theorem dX5_years_143 : decode cX5_years 143 = .ok (.getfield 30, 3) := by decide +kernel
theorem dX5_years_146 : decode cX5_years 146 = .ok (.invokevirtual 152, 3) := by decide +kernel
theorem dX5_years_149 : decode cX5_years 149 = .ok (.ireturn, 1) := by decide +kernel
theorem dX5_part_0 : decode cX5_part 0 = .ok (.iload_n 1, 1) := by decide +kernel
theorem dX5_part_1 : decode cX5_part 1 = .ok (.iconst 0, 1) := by decide +kernel
theorem dX5_part_2 : decode cX5_part 2 = .ok (.iconst 1, 1) := by decide +kernel
theorem dX5_part_3 : decode cX5_part 3 = .ok (.invokestatic 85, 3) := by decide +kernel
theorem dX5_part_6 : decode cX5_part 6 = .ok (.ifCond .ne 11, 3) := by decide +kernel
theorem dX5_part_9 : decode cX5_part 9 = .ok (.aload_n 0, 1) := by decide +kernel
theorem dX5_part_10 : decode cX5_part 10 = .ok (.bipush (-2), 2) := by decide +kernel
theorem dX5_part_12 : decode cX5_part 12 = .ok (.invokevirtual 89, 3) := by decide +kernel
theorem dX5_part_15 : decode cX5_part 15 = .ok (.i2l, 1) := by decide +kernel
theorem dX5_part_16 : decode cX5_part 16 = .ok (.lreturn, 1) := by decide +kernel
theorem dX5_part_17 : decode cX5_part 17 = .ok (.iload_n 1, 1) := by decide +kernel
theorem dX5_part_18 : decode cX5_part 18 = .ok (.ifCond .ne 10, 3) := by decide +kernel
theorem dX5_part_21 : decode cX5_part 21 = .ok (.aload_n 0, 1) := by decide +kernel
theorem dX5_part_22 : decode cX5_part 22 = .ok (.getfield 64, 3) := by decide +kernel
theorem dX5_part_25 : decode cX5_part 25 = .ok (.goto 7, 3) := by decide +kernel
theorem dX5_part_28 : decode cX5_part 28 = .ok (.aload_n 0, 1) := by decide +kernel
theorem dX5_part_29 : decode cX5_part 29 = .ok (.getfield 68, 3) := by decide +kernel
theorem dX5_part_32 : decode cX5_part 32 = .ok (.lreturn, 1) := by decide +kernel
theorem dX5_image_0 : decode cX5_image 0 = .ok (.iload_n 1, 1) := by decide +kernel
theorem dX5_image_1 : decode cX5_image 1 = .ok (.iconst 0, 1) := by decide +kernel
theorem dX5_image_2 : decode cX5_image 2 = .ok (.iconst 1, 1) := by decide +kernel
theorem dX5_image_3 : decode cX5_image 3 = .ok (.invokestatic 85, 3) := by decide +kernel
theorem dX5_image_6 : decode cX5_image 6 = .ok (.ifCond .ne 10, 3) := by decide +kernel
theorem dX5_image_9 : decode cX5_image 9 = .ok (.aload_n 0, 1) := by decide +kernel
theorem dX5_image_10 : decode cX5_image 10 = .ok (.bipush (-2), 2) := by decide +kernel
theorem dX5_image_12 : decode cX5_image 12 = .ok (.invokevirtual 89, 3) := by decide +kernel
theorem dX5_image_15 : decode cX5_image 15 = .ok (.ireturn, 1) := by decide +kernel
theorem dX5_image_16 : decode cX5_image 16 = .ok (.aload_n 0, 1) := by decide +kernel
theorem dX5_image_17 : decode cX5_image 17 = .ok (.getfield 19, 3) := by decide +kernel
theorem dX5_image_20 : decode cX5_image 20 = .ok (.iload_n 1, 1) := by decide +kernel
theorem dX5_image_21 : decode cX5_image 21 = .ok (.aaload, 1) := by decide +kernel
theorem dX5_image_22 : decode cX5_image 22 = .ok (.aload_n 0, 1) := by decide +kernel
theorem dX5_image_23 : decode cX5_image 23 = .ok (.getfield 10, 3) := by decide +kernel
theorem dX5_image_26 : decode cX5_image 26 = .ok (.invokevirtual 118, 3) := by decide +kernel
theorem dX5_image_29 : decode cX5_image 29 = .ok (.aload_n 0, 1) := by decide +kernel
theorem dX5_image_30 : decode cX5_image 30 = .ok (.getfield 23, 3) := by decide +kernel
theorem dX5_image_33 : decode cX5_image 33 = .ok (.iload_n 1, 1) := by decide +kernel
theorem dX5_image_34 : decode cX5_image 34 = .ok (.iconst 1, 1) := by decide +kernel
theorem dX5_image_35 : decode cX5_image 35 = .ok (.bastore, 1) := by decide +kernel
theorem dX5_image_36 : decode cX5_image 36 = .ok (.iconst 1, 1) := by decide +kernel
theorem dX5_image_37 : decode cX5_image 37 = .ok (.ireturn, 1) := by decide +kernel
theorem dX5_from_0 : decode cX5_from 0 = .ok (.iload_n 1, 1) := by decide +kernel
theorem dX5_from_1 : decode cX5_from 1 = .ok (.iconst 0, 1) := by decide +kernel
theorem dX5_from_2 : decode cX5_from 2 = .ok (.iconst 1, 1) := by decide +kernel
theorem dX5_from_3 : decode cX5_from 3 = .ok (.invokestatic 85, 3) := by decide +kernel
theorem dX5_from_6 : decode cX5_from 6 = .ok (.ifCond .ne 10, 3) := by decide +kernel
theorem dX5_from_9 : decode cX5_from 9 = .ok (.aload_n 0, 1) := by decide +kernel
theorem dX5_from_10 : decode cX5_from 10 = .ok (.bipush (-2), 2) := by decide +kernel
theorem dX5_from_12 : decode cX5_from 12 = .ok (.invokevirtual 89, 3) := by decide +kernel
theorem dX5_from_15 : decode cX5_from 15 = .ok (.ireturn, 1) := by decide +kernel
theorem dX5_from_16 : decode cX5_from 16 = .ok (.aload_n 0, 1) := by decide +kernel
theorem dX5_from_17 : decode cX5_from 17 = .ok (.getfield 23, 3) := by decide +kernel
theorem dX5_from_20 : decode cX5_from 20 = .ok (.iload_n 1, 1) := by decide +kernel
theorem dX5_from_21 : decode cX5_from 21 = .ok (.baload, 1) := by decide +kernel
theorem dX5_from_22 : decode cX5_from 22 = .ok (.ifCond .ne 10, 3) := by decide +kernel
theorem dX5_from_25 : decode cX5_from 25 = .ok (.aload_n 0, 1) := by decide +kernel
theorem dX5_from_26 : decode cX5_from 26 = .ok (.bipush (-3), 2) := by decide +kernel
theorem dX5_from_28 : decode cX5_from 28 = .ok (.invokevirtual 89, 3) := by decide +kernel
theorem dX5_from_31 : decode cX5_from 31 = .ok (.ireturn, 1) := by decide +kernel
theorem dX5_from_32 : decode cX5_from 32 = .ok (.aload_n 0, 1) := by decide +kernel
theorem dX5_from_33 : decode cX5_from 33 = .ok (.getfield 10, 3) := by decide +kernel
theorem dX5_from_36 : decode cX5_from 36 = .ok (.aload_n 0, 1) := by decide +kernel
theorem dX5_from_37 : decode cX5_from 37 = .ok (.getfield 19, 3) := by decide +kernel
theorem dX5_from_40 : decode cX5_from 40 = .ok (.iload_n 1, 1) := by decide +kernel
theorem dX5_from_41 : decode cX5_from 41 = .ok (.aaload, 1) := by decide +kernel
theorem dX5_from_42 : decode cX5_from 42 = .ok (.invokevirtual 118, 3) := by decide +kernel
theorem dX5_from_45 : decode cX5_from 45 = .ok (.iconst 1, 1) := by decide +kernel
theorem dX5_from_46 : decode cX5_from 46 = .ok (.ireturn, 1) := by decide +kernel
theorem dX5_status_0 : decode cX5_status 0 = .ok (.iload_n 1, 1) := by decide +kernel
theorem dX5_status_1 : decode cX5_status 1 = .ok (.iconst 0, 1) := by decide +kernel
theorem dX5_status_2 : decode cX5_status 2 = .ok (.iconst 2, 1) := by decide +kernel
theorem dX5_status_3 : decode cX5_status 3 = .ok (.invokestatic 85, 3) := by decide +kernel
theorem dX5_status_6 : decode cX5_status 6 = .ok (.ifCond .eq 12, 3) := by decide +kernel
theorem dX5_status_9 : decode cX5_status 9 = .ok (.aload_n 0, 1) := by decide +kernel
theorem dX5_status_10 : decode cX5_status 10 = .ok (.getfield 61, 3) := by decide +kernel
theorem dX5_status_13 : decode cX5_status 13 = .ok (.iload_n 1, 1) := by decide +kernel
theorem dX5_status_14 : decode cX5_status 14 = .ok (.iaload, 1) := by decide +kernel
theorem dX5_status_15 : decode cX5_status 15 = .ok (.goto 8, 3) := by decide +kernel
theorem dX5_status_18 : decode cX5_status 18 = .ok (.aload_n 0, 1) := by decide +kernel
theorem dX5_status_19 : decode cX5_status 19 = .ok (.iconst (-1), 1) := by decide +kernel
theorem dX5_status_20 : decode cX5_status 20 = .ok (.invokevirtual 128, 3) := by decide +kernel
theorem dX5_status_23 : decode cX5_status 23 = .ok (.ireturn, 1) := by decide +kernel
theorem dX5_count_0 : decode cX5_count 0 = .ok (.iload_n 1, 1) := by decide +kernel
theorem dX5_count_1 : decode cX5_count 1 = .ok (.iconst 0, 1) := by decide +kernel
theorem dX5_count_2 : decode cX5_count 2 = .ok (.bipush 10, 2) := by decide +kernel
theorem dX5_count_4 : decode cX5_count 4 = .ok (.invokestatic 85, 3) := by decide +kernel
theorem dX5_count_7 : decode cX5_count 7 = .ok (.ifCond .eq 11, 3) := by decide +kernel
theorem dX5_count_10 : decode cX5_count 10 = .ok (.aload_n 0, 1) := by decide +kernel
theorem dX5_count_11 : decode cX5_count 11 = .ok (.iload_n 1, 1) := by decide +kernel
theorem dX5_count_12 : decode cX5_count 12 = .ok (.invokevirtual 305, 3) := by decide +kernel
theorem dX5_count_15 : decode cX5_count 15 = .ok (.goto 9, 3) := by decide +kernel
theorem dX5_count_18 : decode cX5_count 18 = .ok (.aload_n 0, 1) := by decide +kernel
theorem dX5_count_19 : decode cX5_count 19 = .ok (.bipush (-2), 2) := by decide +kernel
theorem dX5_count_21 : decode cX5_count 21 = .ok (.invokevirtual 89, 3) := by decide +kernel
theorem dX5_count_24 : decode cX5_count 24 = .ok (.ireturn, 1) := by decide +kernel
theorem dX5_digest_0 : decode cX5_digest 0 = .ok (.ldc2_w 308, 3) := by decide +kernel
theorem dX5_digest_3 : decode cX5_digest 3 = .ok (.lstore_n 1, 1) := by decide +kernel
theorem dX5_digest_4 : decode cX5_digest 4 = .ok (.iconst 0, 1) := by decide +kernel
theorem dX5_digest_5 : decode cX5_digest 5 = .ok (.istore_n 3, 1) := by decide +kernel
theorem dX5_digest_6 : decode cX5_digest 6 = .ok (.iload_n 3, 1) := by decide +kernel
theorem dX5_digest_7 : decode cX5_digest 7 = .ok (.bipush 10, 2) := by decide +kernel
theorem dX5_digest_9 : decode cX5_digest 9 = .ok (.if_icmp .gt 22, 3) := by decide +kernel
theorem dX5_digest_12 : decode cX5_digest 12 = .ok (.ldc2_w 310, 3) := by decide +kernel
theorem dX5_digest_15 : decode cX5_digest 15 = .ok (.lload_n 1, 1) := by decide +kernel
theorem dX5_digest_16 : decode cX5_digest 16 = .ok (.lmul, 1) := by decide +kernel
theorem dX5_digest_17 : decode cX5_digest 17 = .ok (.aload_n 0, 1) := by decide +kernel
theorem dX5_digest_18 : decode cX5_digest 18 = .ok (.iload_n 3, 1) := by decide +kernel
theorem dX5_digest_19 : decode cX5_digest 19 = .ok (.invokevirtual 305, 3) := by decide +kernel
theorem dX5_digest_22 : decode cX5_digest 22 = .ok (.i2l, 1) := by decide +kernel
theorem dX5_digest_23 : decode cX5_digest 23 = .ok (.ladd, 1) := by decide +kernel
theorem dX5_digest_24 : decode cX5_digest 24 = .ok (.lstore_n 1, 1) := by decide +kernel
theorem dX5_digest_25 : decode cX5_digest 25 = .ok (.iinc 3 1, 3) := by decide +kernel
theorem dX5_digest_28 : decode cX5_digest 28 = .ok (.goto (-22), 3) := by decide +kernel
theorem dX5_digest_31 : decode cX5_digest 31 = .ok (.aload_n 0, 1) := by decide +kernel
theorem dX5_digest_32 : decode cX5_digest 32 = .ok (.getfield 10, 3) := by decide +kernel
theorem dX5_digest_35 : decode cX5_digest 35 = .ok (.lload_n 1, 1) := by decide +kernel
theorem dX5_digest_36 : decode cX5_digest 36 = .ok (.invokevirtual 312, 3) := by decide +kernel
theorem dX5_digest_39 : decode cX5_digest 39 = .ok (.lstore_n 1, 1) := by decide +kernel
theorem dX5_digest_40 : decode cX5_digest 40 = .ok (.ldc2_w 310, 3) := by decide +kernel
theorem dX5_digest_43 : decode cX5_digest 43 = .ok (.ldc2_w 310, 3) := by decide +kernel
theorem dX5_digest_46 : decode cX5_digest 46 = .ok (.lload_n 1, 1) := by decide +kernel
theorem dX5_digest_47 : decode cX5_digest 47 = .ok (.lmul, 1) := by decide +kernel
theorem dX5_digest_48 : decode cX5_digest 48 = .ok (.aload_n 0, 1) := by decide +kernel
theorem dX5_digest_49 : decode cX5_digest 49 = .ok (.getfield 64, 3) := by decide +kernel
theorem dX5_digest_52 : decode cX5_digest 52 = .ok (.ladd, 1) := by decide +kernel
theorem dX5_digest_53 : decode cX5_digest 53 = .ok (.lmul, 1) := by decide +kernel
theorem dX5_digest_54 : decode cX5_digest 54 = .ok (.aload_n 0, 1) := by decide +kernel
theorem dX5_digest_55 : decode cX5_digest 55 = .ok (.getfield 68, 3) := by decide +kernel
theorem dX5_digest_58 : decode cX5_digest 58 = .ok (.ladd, 1) := by decide +kernel
theorem dX5_digest_59 : decode cX5_digest 59 = .ok (.lreturn, 1) := by decide +kernel
theorem dX5_refuse_0 : decode cX5_refuse 0 = .ok (.aload_n 0, 1) := by decide +kernel
theorem dX5_refuse_1 : decode cX5_refuse 1 = .ok (.getfield 61, 3) := by decide +kernel
theorem dX5_refuse_4 : decode cX5_refuse 4 = .ok (.iload_n 1, 1) := by decide +kernel
theorem dX5_refuse_5 : decode cX5_refuse 5 = .ok (.bipush (-2), 2) := by decide +kernel
theorem dX5_refuse_7 : decode cX5_refuse 7 = .ok (.if_icmp .ne 7, 3) := by decide +kernel
theorem dX5_refuse_10 : decode cX5_refuse 10 = .ok (.iconst 0, 1) := by decide +kernel
theorem dX5_refuse_11 : decode cX5_refuse 11 = .ok (.goto 14, 3) := by decide +kernel
theorem dX5_refuse_14 : decode cX5_refuse 14 = .ok (.iload_n 1, 1) := by decide +kernel
theorem dX5_refuse_15 : decode cX5_refuse 15 = .ok (.bipush (-3), 2) := by decide +kernel
theorem dX5_refuse_17 : decode cX5_refuse 17 = .ok (.if_icmp .ne 7, 3) := by decide +kernel
theorem dX5_refuse_20 : decode cX5_refuse 20 = .ok (.iconst 1, 1) := by decide +kernel
theorem dX5_refuse_21 : decode cX5_refuse 21 = .ok (.goto 4, 3) := by decide +kernel
theorem dX5_refuse_24 : decode cX5_refuse 24 = .ok (.iconst 2, 1) := by decide +kernel
theorem dX5_refuse_25 : decode cX5_refuse 25 = .ok (.dup2, 1) := by decide +kernel
theorem dX5_refuse_26 : decode cX5_refuse 26 = .ok (.iaload, 1) := by decide +kernel
theorem dX5_refuse_27 : decode cX5_refuse 27 = .ok (.iconst 1, 1) := by decide +kernel
