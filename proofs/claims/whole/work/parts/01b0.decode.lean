theorem dX0_init_0 : decode cX0_init 0 = .ok (.aload_n 0, 1) := by decide +kernel
theorem dX0_init_1 : decode cX0_init 1 = .ok (.invokespecial 3, 3) := by decide +kernel
theorem dX0_init_4 : decode cX0_init 4 = .ok (.aload_n 0, 1) := by decide +kernel
theorem dX0_init_5 : decode cX0_init 5 = .ok (.bipush 7, 2) := by decide +kernel
theorem dX0_init_7 : decode cX0_init 7 = .ok (.newarray .int, 2) := by decide +kernel
theorem dX0_init_9 : decode cX0_init 9 = .ok (.putfield 9, 3) := by decide +kernel
theorem dX0_init_12 : decode cX0_init 12 = .ok (.aload_n 0, 1) := by decide +kernel
theorem dX0_init_13 : decode cX0_init 13 = .ok (.bipush 7, 2) := by decide +kernel
theorem dX0_init_15 : decode cX0_init 15 = .ok (.newarray .int, 2) := by decide +kernel
theorem dX0_init_17 : decode cX0_init 17 = .ok (.putfield 15, 3) := by decide +kernel
theorem dX0_init_20 : decode cX0_init 20 = .ok (.aload_n 0, 1) := by decide +kernel
theorem dX0_init_21 : decode cX0_init 21 = .ok (.iconst 5, 1) := by decide +kernel
theorem dX0_init_22 : decode cX0_init 22 = .ok (.newarray .int, 2) := by decide +kernel
theorem dX0_init_24 : decode cX0_init 24 = .ok (.putfield 18, 3) := by decide +kernel
theorem dX0_init_27 : decode cX0_init 27 = .ok (.aload_n 0, 1) := by decide +kernel
theorem dX0_init_28 : decode cX0_init 28 = .ok (.iconst 5, 1) := by decide +kernel
theorem dX0_init_29 : decode cX0_init 29 = .ok (.newarray .int, 2) := by decide +kernel
theorem dX0_init_31 : decode cX0_init 31 = .ok (.putfield 21, 3) := by decide +kernel
theorem dX0_init_34 : decode cX0_init 34 = .ok (.aload_n 0, 1) := by decide +kernel
theorem dX0_init_35 : decode cX0_init 35 = .ok (.iconst 5, 1) := by decide +kernel
theorem dX0_init_36 : decode cX0_init 36 = .ok (.newarray .int, 2) := by decide +kernel
theorem dX0_init_38 : decode cX0_init 38 = .ok (.putfield 24, 3) := by decide +kernel
theorem dX0_init_41 : decode cX0_init 41 = .ok (.aload_n 0, 1) := by decide +kernel
theorem dX0_init_42 : decode cX0_init 42 = .ok (.new 27, 3) := by decide +kernel
theorem dX0_init_45 : decode cX0_init 45 = .ok (.dup, 1) := by decide +kernel
theorem dX0_init_46 : decode cX0_init 46 = .ok (.invokespecial 29, 3) := by decide +kernel
theorem dX0_init_49 : decode cX0_init 49 = .ok (.putfield 30, 3) := by decide +kernel
theorem dX0_init_52 : decode cX0_init 52 = .ok (.aload_n 0, 1) := by decide +kernel
theorem dX0_init_53 : decode cX0_init 53 = .ok (.bipush 8, 2) := by decide +kernel
theorem dX0_init_55 : decode cX0_init 55 = .ok (.anewarray 27, 3) := by decide +kernel
theorem dX0_init_58 : decode cX0_init 58 = .ok (.putfield 34, 3) := by decide +kernel
theorem dX0_init_61 : decode cX0_init 61 = .ok (.aload_n 0, 1) := by decide +kernel
theorem dX0_init_62 : decode cX0_init 62 = .ok (.new 38, 3) := by decide +kernel
theorem dX0_init_65 : decode cX0_init 65 = .ok (.dup, 1) := by decide +kernel
theorem dX0_init_66 : decode cX0_init 66 = .ok (.iconst 3, 1) := by decide +kernel
theorem dX0_init_67 : decode cX0_init 67 = .ok (.invokespecial 40, 3) := by decide +kernel
theorem dX0_init_70 : decode cX0_init 70 = .ok (.putfield 43, 3) := by decide +kernel
theorem dX0_init_73 : decode cX0_init 73 = .ok (.aload_n 0, 1) := by decide +kernel
theorem dX0_init_74 : decode cX0_init 74 = .ok (.new 38, 3) := by decide +kernel
theorem dX0_init_77 : decode cX0_init 77 = .ok (.dup, 1) := by decide +kernel
theorem dX0_init_78 : decode cX0_init 78 = .ok (.iconst 5, 1) := by decide +kernel
theorem dX0_init_79 : decode cX0_init 79 = .ok (.invokespecial 40, 3) := by decide +kernel
theorem dX0_init_82 : decode cX0_init 82 = .ok (.putfield 47, 3) := by decide +kernel
theorem dX0_init_85 : decode cX0_init 85 = .ok (.aload_n 0, 1) := by decide +kernel
theorem dX0_init_86 : decode cX0_init 86 = .ok (.new 38, 3) := by decide +kernel
theorem dX0_init_89 : decode cX0_init 89 = .ok (.dup, 1) := by decide +kernel
theorem dX0_init_90 : decode cX0_init 90 = .ok (.iconst 4, 1) := by decide +kernel
theorem dX0_init_91 : decode cX0_init 91 = .ok (.invokespecial 40, 3) := by decide +kernel
theorem dX0_init_94 : decode cX0_init 94 = .ok (.putfield 50, 3) := by decide +kernel
theorem dX0_init_97 : decode cX0_init 97 = .ok (.iconst 0, 1) := by decide +kernel
theorem dX0_init_98 : decode cX0_init 98 = .ok (.istore_n 1, 1) := by decide +kernel
theorem dX0_init_99 : decode cX0_init 99 = .ok (.iload_n 1, 1) := by decide +kernel
theorem dX0_init_100 : decode cX0_init 100 = .ok (.bipush 8, 2) := by decide +kernel
theorem dX0_init_102 : decode cX0_init 102 = .ok (.if_icmp .ge 22, 3) := by decide +kernel
theorem dX0_init_105 : decode cX0_init 105 = .ok (.aload_n 0, 1) := by decide +kernel
theorem dX0_init_106 : decode cX0_init 106 = .ok (.getfield 34, 3) := by decide +kernel
theorem dX0_init_109 : decode cX0_init 109 = .ok (.iload_n 1, 1) := by decide +kernel
theorem dX0_init_110 : decode cX0_init 110 = .ok (.new 27, 3) := by decide +kernel
theorem dX0_init_113 : decode cX0_init 113 = .ok (.dup, 1) := by decide +kernel
theorem dX0_init_114 : decode cX0_init 114 = .ok (.invokespecial 29, 3) := by decide +kernel
theorem dX0_init_117 : decode cX0_init 117 = .ok (.aastore, 1) := by decide +kernel
theorem dX0_init_118 : decode cX0_init 118 = .ok (.iinc 1 1, 3) := by decide +kernel
theorem dX0_init_121 : decode cX0_init 121 = .ok (.goto (-22), 3) := by decide +kernel
theorem dX0_init_124 : decode cX0_init 124 = .ok (.return_, 1) := by decide +kernel
theorem dX0_empty_0 : decode cX0_empty 0 = .ok (.aload_n 0, 1) := by decide +kernel
theorem dX0_empty_1 : decode cX0_empty 1 = .ok (.iconst 0, 1) := by decide +kernel
theorem dX0_empty_2 : decode cX0_empty 2 = .ok (.putfield 53, 3) := by decide +kernel
theorem dX0_empty_5 : decode cX0_empty 5 = .ok (.aload_n 0, 1) := by decide +kernel
theorem dX0_empty_6 : decode cX0_empty 6 = .ok (.iconst 0, 1) := by decide +kernel
theorem dX0_empty_7 : decode cX0_empty 7 = .ok (.putfield 57, 3) := by decide +kernel
theorem dX0_empty_10 : decode cX0_empty 10 = .ok (.aload_n 0, 1) := by decide +kernel
theorem dX0_empty_11 : decode cX0_empty 11 = .ok (.iconst 0, 1) := by decide +kernel
theorem dX0_empty_12 : decode cX0_empty 12 = .ok (.putfield 60, 3) := by decide +kernel
theorem dX0_empty_15 : decode cX0_empty 15 = .ok (.aload_n 0, 1) := by decide +kernel
theorem dX0_empty_16 : decode cX0_empty 16 = .ok (.getfield 30, 3) := by decide +kernel
theorem dX0_empty_19 : decode cX0_empty 19 = .ok (.invokevirtual 63, 3) := by decide +kernel
theorem dX0_empty_22 : decode cX0_empty 22 = .ok (.aload_n 0, 1) := by decide +kernel
theorem dX0_empty_23 : decode cX0_empty 23 = .ok (.getfield 43, 3) := by decide +kernel
theorem dX0_empty_26 : decode cX0_empty 26 = .ok (.iconst 0, 1) := by decide +kernel
theorem dX0_empty_27 : decode cX0_empty 27 = .ok (.putfield 66, 3) := by decide +kernel
theorem dX0_empty_30 : decode cX0_empty 30 = .ok (.aload_n 0, 1) := by decide +kernel
theorem dX0_empty_31 : decode cX0_empty 31 = .ok (.getfield 47, 3) := by decide +kernel
theorem dX0_empty_34 : decode cX0_empty 34 = .ok (.iconst 0, 1) := by decide +kernel
theorem dX0_empty_35 : decode cX0_empty 35 = .ok (.putfield 66, 3) := by decide +kernel
theorem dX0_empty_38 : decode cX0_empty 38 = .ok (.aload_n 0, 1) := by decide +kernel
theorem dX0_empty_39 : decode cX0_empty 39 = .ok (.getfield 50, 3) := by decide +kernel
theorem dX0_empty_42 : decode cX0_empty 42 = .ok (.iconst 0, 1) := by decide +kernel
theorem dX0_empty_43 : decode cX0_empty 43 = .ok (.putfield 66, 3) := by decide +kernel
theorem dX0_empty_46 : decode cX0_empty 46 = .ok (.return_, 1) := by decide +kernel
theorem dX0_become_0 : decode cX0_become 0 = .ok (.aload_n 0, 1) := by decide +kernel
theorem dX0_become_1 : decode cX0_become 1 = .ok (.aload_n 1, 1) := by decide +kernel
theorem dX0_become_2 : decode cX0_become 2 = .ok (.getfield 53, 3) := by decide +kernel
theorem dX0_become_5 : decode cX0_become 5 = .ok (.putfield 53, 3) := by decide +kernel
theorem dX0_become_8 : decode cX0_become 8 = .ok (.aload_n 0, 1) := by decide +kernel
theorem dX0_become_9 : decode cX0_become 9 = .ok (.aload_n 1, 1) := by decide +kernel
theorem dX0_become_10 : decode cX0_become 10 = .ok (.getfield 57, 3) := by decide +kernel
theorem dX0_become_13 : decode cX0_become 13 = .ok (.putfield 57, 3) := by decide +kernel
theorem dX0_become_16 : decode cX0_become 16 = .ok (.aload_n 0, 1) := by decide +kernel
theorem dX0_become_17 : decode cX0_become 17 = .ok (.aload_n 1, 1) := by decide +kernel
theorem dX0_become_18 : decode cX0_become 18 = .ok (.getfield 60, 3) := by decide +kernel
theorem dX0_become_21 : decode cX0_become 21 = .ok (.putfield 60, 3) := by decide +kernel
theorem dX0_become_24 : decode cX0_become 24 = .ok (.aload_n 1, 1) := by decide +kernel
theorem dX0_become_25 : decode cX0_become 25 = .ok (.getfield 9, 3) := by decide +kernel
theorem dX0_become_28 : decode cX0_become 28 = .ok (.iconst 0, 1) := by decide +kernel
theorem dX0_become_29 : decode cX0_become 29 = .ok (.aload_n 0, 1) := by decide +kernel
theorem dX0_become_30 : decode cX0_become 30 = .ok (.getfield 9, 3) := by decide +kernel
theorem dX0_become_33 : decode cX0_become 33 = .ok (.iconst 0, 1) := by decide +kernel
theorem dX0_become_34 : decode cX0_become 34 = .ok (.bipush 7, 2) := by decide +kernel
theorem dX0_become_36 : decode cX0_become 36 = .ok (.invokestatic 69, 3) := by decide +kernel
theorem dX0_become_39 : decode cX0_become 39 = .ok (.aload_n 1, 1) := by decide +kernel
theorem dX0_become_40 : decode cX0_become 40 = .ok (.getfield 15, 3) := by decide +kernel
theorem dX0_become_43 : decode cX0_become 43 = .ok (.iconst 0, 1) := by decide +kernel
theorem dX0_become_44 : decode cX0_become 44 = .ok (.aload_n 0, 1) := by decide +kernel
theorem dX0_become_45 : decode cX0_become 45 = .ok (.getfield 15, 3) := by decide +kernel
theorem dX0_become_48 : decode cX0_become 48 = .ok (.iconst 0, 1) := by decide +kernel
theorem dX0_become_49 : decode cX0_become 49 = .ok (.bipush 7, 2) := by decide +kernel
theorem dX0_become_51 : decode cX0_become 51 = .ok (.invokestatic 69, 3) := by decide +kernel
theorem dX0_become_54 : decode cX0_become 54 = .ok (.aload_n 1, 1) := by decide +kernel
theorem dX0_become_55 : decode cX0_become 55 = .ok (.getfield 18, 3) := by decide +kernel
theorem dX0_become_58 : decode cX0_become 58 = .ok (.iconst 0, 1) := by decide +kernel
theorem dX0_become_59 : decode cX0_become 59 = .ok (.aload_n 0, 1) := by decide +kernel
theorem dX0_become_60 : decode cX0_become 60 = .ok (.getfield 18, 3) := by decide +kernel
theorem dX0_become_63 : decode cX0_become 63 = .ok (.iconst 0, 1) := by decide +kernel
theorem dX0_become_64 : decode cX0_become 64 = .ok (.iconst 5, 1) := by decide +kernel
theorem dX0_become_65 : decode cX0_become 65 = .ok (.invokestatic 69, 3) := by decide +kernel
theorem dX0_become_68 : decode cX0_become 68 = .ok (.aload_n 1, 1) := by decide +kernel
theorem dX0_become_69 : decode cX0_become 69 = .ok (.getfield 21, 3) := by decide +kernel
theorem dX0_become_72 : decode cX0_become 72 = .ok (.iconst 0, 1) := by decide +kernel
theorem dX0_become_73 : decode cX0_become 73 = .ok (.aload_n 0, 1) := by decide +kernel
theorem dX0_become_74 : decode cX0_become 74 = .ok (.getfield 21, 3) := by decide +kernel
theorem dX0_become_77 : decode cX0_become 77 = .ok (.iconst 0, 1) := by decide +kernel
theorem dX0_become_78 : decode cX0_become 78 = .ok (.iconst 5, 1) := by decide +kernel
theorem dX0_become_79 : decode cX0_become 79 = .ok (.invokestatic 69, 3) := by decide +kernel
theorem dX0_become_82 : decode cX0_become 82 = .ok (.aload_n 1, 1) := by decide +kernel
theorem dX0_become_83 : decode cX0_become 83 = .ok (.getfield 24, 3) := by decide +kernel
theorem dX0_become_86 : decode cX0_become 86 = .ok (.iconst 0, 1) := by decide +kernel
theorem dX0_become_87 : decode cX0_become 87 = .ok (.aload_n 0, 1) := by decide +kernel
theorem dX0_become_88 : decode cX0_become 88 = .ok (.getfield 24, 3) := by decide +kernel
theorem dX0_become_91 : decode cX0_become 91 = .ok (.iconst 0, 1) := by decide +kernel
theorem dX0_become_92 : decode cX0_become 92 = .ok (.iconst 5, 1) := by decide +kernel
theorem dX0_become_93 : decode cX0_become 93 = .ok (.invokestatic 69, 3) := by decide +kernel
theorem dX0_become_96 : decode cX0_become 96 = .ok (.aload_n 0, 1) := by decide +kernel
theorem dX0_become_97 : decode cX0_become 97 = .ok (.getfield 30, 3) := by decide +kernel
theorem dX0_become_100 : decode cX0_become 100 = .ok (.aload_n 1, 1) := by decide +kernel
theorem dX0_become_101 : decode cX0_become 101 = .ok (.getfield 30, 3) := by decide +kernel
theorem dX0_become_104 : decode cX0_become 104 = .ok (.invokevirtual 75, 3) := by decide +kernel
theorem dX0_become_107 : decode cX0_become 107 = .ok (.iconst 0, 1) := by decide +kernel
theorem dX0_become_108 : decode cX0_become 108 = .ok (.istore_n 2, 1) := by decide +kernel
theorem dX0_become_109 : decode cX0_become 109 = .ok (.iload_n 2, 1) := by decide +kernel
theorem dX0_become_110 : decode cX0_become 110 = .ok (.aload_n 0, 1) := by decide +kernel
theorem dX0_become_111 : decode cX0_become 111 = .ok (.getfield 60, 3) := by decide +kernel
theorem dX0_become_114 : decode cX0_become 114 = .ok (.if_icmp .ge 24, 3) := by decide +kernel
theorem dX0_become_117 : decode cX0_become 117 = .ok (.aload_n 0, 1) := by decide +kernel
theorem dX0_become_118 : decode cX0_become 118 = .ok (.getfield 34, 3) := by decide +kernel
theorem dX0_become_121 : decode cX0_become 121 = .ok (.iload_n 2, 1) := by decide +kernel
theorem dX0_become_122 : decode cX0_become 122 = .ok (.aaload, 1) := by decide +kernel
theorem dX0_become_123 : decode cX0_become 123 = .ok (.aload_n 1, 1) := by decide +kernel
theorem dX0_become_124 : decode cX0_become 124 = .ok (.getfield 34, 3) := by decide +kernel
theorem dX0_become_127 : decode cX0_become 127 = .ok (.iload_n 2, 1) := by decide +kernel
theorem dX0_become_128 : decode cX0_become 128 = .ok (.aaload, 1) := by decide +kernel
theorem dX0_become_129 : decode cX0_become 129 = .ok (.invokevirtual 75, 3) := by decide +kernel
theorem dX0_become_132 : decode cX0_become 132 = .ok (.iinc 2 1, 3) := by decide +kernel
theorem dX0_become_135 : decode cX0_become 135 = .ok (.goto (-26), 3) := by decide +kernel
theorem dX0_become_138 : decode cX0_become 138 = .ok (.aload_n 0, 1) := by decide +kernel
theorem dX0_become_139 : decode cX0_become 139 = .ok (.getfield 43, 3) := by decide +kernel
theorem dX0_become_142 : decode cX0_become 142 = .ok (.aload_n 1, 1) := by decide +kernel
theorem dX0_become_143 : decode cX0_become 143 = .ok (.getfield 43, 3) := by decide +kernel
theorem dX0_become_146 : decode cX0_become 146 = .ok (.invokevirtual 79, 3) := by decide +kernel
theorem dX0_become_149 : decode cX0_become 149 = .ok (.aload_n 0, 1) := by decide +kernel
theorem dX0_become_150 : decode cX0_become 150 = .ok (.getfield 47, 3) := by decide +kernel
theorem dX0_become_153 : decode cX0_become 153 = .ok (.aload_n 1, 1) := by decide +kernel
theorem dX0_become_154 : decode cX0_become 154 = .ok (.getfield 47, 3) := by decide +kernel
theorem dX0_become_157 : decode cX0_become 157 = .ok (.invokevirtual 79, 3) := by decide +kernel
theorem dX0_become_160 : decode cX0_become 160 = .ok (.aload_n 0, 1) := by decide +kernel
theorem dX0_become_161 : decode cX0_become 161 = .ok (.getfield 50, 3) := by decide +kernel
theorem dX0_become_164 : decode cX0_become 164 = .ok (.aload_n 1, 1) := by decide +kernel
theorem dX0_become_165 : decode cX0_become 165 = .ok (.getfield 50, 3) := by decide +kernel
theorem dX0_become_168 : decode cX0_become 168 = .ok (.invokevirtual 79, 3) := by decide +kernel
theorem dX0_become_171 : decode cX0_become 171 = .ok (.return_, 1) := by decide +kernel
theorem dX0_addSeat_0 : decode cX0_addSeat 0 = .ok (.aload_n 0, 1) := by decide +kernel
theorem dX0_addSeat_1 : decode cX0_addSeat 1 = .ok (.getfield 9, 3) := by decide +kernel
theorem dX0_addSeat_4 : decode cX0_addSeat 4 = .ok (.aload_n 0, 1) := by decide +kernel
theorem dX0_addSeat_5 : decode cX0_addSeat 5 = .ok (.getfield 53, 3) := by decide +kernel
theorem dX0_addSeat_8 : decode cX0_addSeat 8 = .ok (.iload_n 1, 1) := by decide +kernel
theorem dX0_addSeat_9 : decode cX0_addSeat 9 = .ok (.iastore, 1) := by decide +kernel
theorem dX0_addSeat_10 : decode cX0_addSeat 10 = .ok (.aload_n 0, 1) := by decide +kernel
theorem dX0_addSeat_11 : decode cX0_addSeat 11 = .ok (.getfield 15, 3) := by decide +kernel
theorem dX0_addSeat_14 : decode cX0_addSeat 14 = .ok (.aload_n 0, 1) := by decide +kernel
theorem dX0_addSeat_15 : decode cX0_addSeat 15 = .ok (.getfield 53, 3) := by decide +kernel
theorem dX0_addSeat_18 : decode cX0_addSeat 18 = .ok (.iload_n 2, 1) := by decide +kernel
theorem dX0_addSeat_19 : decode cX0_addSeat 19 = .ok (.iastore, 1) := by decide +kernel
theorem dX0_addSeat_20 : decode cX0_addSeat 20 = .ok (.aload_n 0, 1) := by decide +kernel
theorem dX0_addSeat_21 : decode cX0_addSeat 21 = .ok (.getfield 30, 3) := by decide +kernel
theorem dX0_addSeat_24 : decode cX0_addSeat 24 = .ok (.getfield 82, 3) := by decide +kernel
theorem dX0_addSeat_27 : decode cX0_addSeat 27 = .ok (.aload_n 0, 1) := by decide +kernel
theorem dX0_addSeat_28 : decode cX0_addSeat 28 = .ok (.getfield 53, 3) := by decide +kernel
theorem dX0_addSeat_31 : decode cX0_addSeat 31 = .ok (.iload_n 3, 1) := by decide +kernel
theorem dX0_addSeat_32 : decode cX0_addSeat 32 = .ok (.iastore, 1) := by decide +kernel
theorem dX0_addSeat_33 : decode cX0_addSeat 33 = .ok (.aload_n 0, 1) := by decide +kernel
theorem dX0_addSeat_34 : decode cX0_addSeat 34 = .ok (.iconst 0, 1) := by decide +kernel
theorem dX0_addSeat_35 : decode cX0_addSeat 35 = .ok (.putfield 60, 3) := by decide +kernel
theorem dX0_addSeat_38 : decode cX0_addSeat 38 = .ok (.aload_n 0, 1) := by decide +kernel
theorem dX0_addSeat_39 : decode cX0_addSeat 39 = .ok (.dup, 1) := by decide +kernel
theorem dX0_addSeat_40 : decode cX0_addSeat 40 = .ok (.getfield 53, 3) := by decide +kernel
theorem dX0_addSeat_43 : decode cX0_addSeat 43 = .ok (.iconst 1, 1) := by decide +kernel
theorem dX0_addSeat_44 : decode cX0_addSeat 44 = .ok (.iadd, 1) := by decide +kernel
theorem dX0_addSeat_45 : decode cX0_addSeat 45 = .ok (.putfield 53, 3) := by decide +kernel
theorem dX0_addSeat_48 : decode cX0_addSeat 48 = .ok (.aload_n 0, 1) := by decide +kernel
theorem dX0_addSeat_49 : decode cX0_addSeat 49 = .ok (.getfield 53, 3) := by decide +kernel
theorem dX0_addSeat_52 : decode cX0_addSeat 52 = .ok (.iconst 1, 1) := by decide +kernel
theorem dX0_addSeat_53 : decode cX0_addSeat 53 = .ok (.isub, 1) := by decide +kernel
theorem dX0_addSeat_54 : decode cX0_addSeat 54 = .ok (.ireturn, 1) := by decide +kernel
theorem dX0_addCanon_0 : decode cX0_addCanon 0 = .ok (.aload_n 0, 1) := by decide +kernel
theorem dX0_addCanon_1 : decode cX0_addCanon 1 = .ok (.getfield 18, 3) := by decide +kernel
theorem dX0_addCanon_4 : decode cX0_addCanon 4 = .ok (.aload_n 0, 1) := by decide +kernel
theorem dX0_addCanon_5 : decode cX0_addCanon 5 = .ok (.getfield 57, 3) := by decide +kernel
theorem dX0_addCanon_8 : decode cX0_addCanon 8 = .ok (.iload_n 1, 1) := by decide +kernel
theorem dX0_addCanon_9 : decode cX0_addCanon 9 = .ok (.iastore, 1) := by decide +kernel
theorem dX0_addCanon_10 : decode cX0_addCanon 10 = .ok (.aload_n 0, 1) := by decide +kernel
theorem dX0_addCanon_11 : decode cX0_addCanon 11 = .ok (.getfield 21, 3) := by decide +kernel
theorem dX0_addCanon_14 : decode cX0_addCanon 14 = .ok (.aload_n 0, 1) := by decide +kernel
theorem dX0_addCanon_15 : decode cX0_addCanon 15 = .ok (.getfield 57, 3) := by decide +kernel
theorem dX0_addCanon_18 : decode cX0_addCanon 18 = .ok (.iload_n 2, 1) := by decide +kernel
theorem dX0_addCanon_19 : decode cX0_addCanon 19 = .ok (.iastore, 1) := by decide +kernel
theorem dX0_addCanon_20 : decode cX0_addCanon 20 = .ok (.aload_n 0, 1) := by decide +kernel
theorem dX0_addCanon_21 : decode cX0_addCanon 21 = .ok (.getfield 24, 3) := by decide +kernel
theorem dX0_addCanon_24 : decode cX0_addCanon 24 = .ok (.aload_n 0, 1) := by decide +kernel
theorem dX0_addCanon_25 : decode cX0_addCanon 25 = .ok (.getfield 57, 3) := by decide +kernel
theorem dX0_addCanon_28 : decode cX0_addCanon 28 = .ok (.iload_n 1, 1) := by decide +kernel
theorem dX0_addCanon_29 : decode cX0_addCanon 29 = .ok (.iload_n 2, 1) := by decide +kernel
theorem dX0_addCanon_30 : decode cX0_addCanon 30 = .ok (.invokestatic 85, 3) := by decide +kernel
theorem dX0_addCanon_33 : decode cX0_addCanon 33 = .ok (.iastore, 1) := by decide +kernel
theorem dX0_addCanon_34 : decode cX0_addCanon 34 = .ok (.aload_n 0, 1) := by decide +kernel
theorem dX0_addCanon_35 : decode cX0_addCanon 35 = .ok (.iconst 0, 1) := by decide +kernel
theorem dX0_addCanon_36 : decode cX0_addCanon 36 = .ok (.putfield 60, 3) := by decide +kernel
theorem dX0_addCanon_39 : decode cX0_addCanon 39 = .ok (.aload_n 0, 1) := by decide +kernel
theorem dX0_addCanon_40 : decode cX0_addCanon 40 = .ok (.dup, 1) := by decide +kernel
theorem dX0_addCanon_41 : decode cX0_addCanon 41 = .ok (.getfield 57, 3) := by decide +kernel
theorem dX0_addCanon_44 : decode cX0_addCanon 44 = .ok (.iconst 1, 1) := by decide +kernel
theorem dX0_addCanon_45 : decode cX0_addCanon 45 = .ok (.iadd, 1) := by decide +kernel
theorem dX0_addCanon_46 : decode cX0_addCanon 46 = .ok (.putfield 57, 3) := by decide +kernel
theorem dX0_addCanon_49 : decode cX0_addCanon 49 = .ok (.aload_n 0, 1) := by decide +kernel
theorem dX0_addCanon_50 : decode cX0_addCanon 50 = .ok (.getfield 57, 3) := by decide +kernel
theorem dX0_addCanon_53 : decode cX0_addCanon 53 = .ok (.iconst 1, 1) := by decide +kernel
theorem dX0_addCanon_54 : decode cX0_addCanon 54 = .ok (.isub, 1) := by decide +kernel
theorem dX0_addCanon_55 : decode cX0_addCanon 55 = .ok (.ireturn, 1) := by decide +kernel
theorem dX0_keepPast_0 : decode cX0_keepPast 0 = .ok (.aload_n 0, 1) := by decide +kernel
theorem dX0_keepPast_1 : decode cX0_keepPast 1 = .ok (.getfield 60, 3) := by decide +kernel
theorem dX0_keepPast_4 : decode cX0_keepPast 4 = .ok (.bipush 8, 2) := by decide +kernel
theorem dX0_keepPast_6 : decode cX0_keepPast 6 = .ok (.if_icmp .lt 52, 3) := by decide +kernel
theorem dX0_keepPast_9 : decode cX0_keepPast 9 = .ok (.aload_n 0, 1) := by decide +kernel
theorem dX0_keepPast_10 : decode cX0_keepPast 10 = .ok (.getfield 34, 3) := by decide +kernel
theorem dX0_keepPast_13 : decode cX0_keepPast 13 = .ok (.iconst 0, 1) := by decide +kernel
theorem dX0_keepPast_14 : decode cX0_keepPast 14 = .ok (.aaload, 1) := by decide +kernel
theorem dX0_keepPast_15 : decode cX0_keepPast 15 = .ok (.astore_n 1, 1) := by decide +kernel
theorem dX0_keepPast_16 : decode cX0_keepPast 16 = .ok (.iconst 1, 1) := by decide +kernel
theorem dX0_keepPast_17 : decode cX0_keepPast 17 = .ok (.istore_n 2, 1) := by decide +kernel
theorem dX0_keepPast_18 : decode cX0_keepPast 18 = .ok (.iload_n 2, 1) := by decide +kernel
theorem dX0_keepPast_19 : decode cX0_keepPast 19 = .ok (.bipush 8, 2) := by decide +kernel
theorem dX0_keepPast_21 : decode cX0_keepPast 21 = .ok (.if_icmp .ge 23, 3) := by decide +kernel
theorem dX0_keepPast_24 : decode cX0_keepPast 24 = .ok (.aload_n 0, 1) := by decide +kernel
theorem dX0_keepPast_25 : decode cX0_keepPast 25 = .ok (.getfield 34, 3) := by decide +kernel
theorem dX0_keepPast_28 : decode cX0_keepPast 28 = .ok (.iload_n 2, 1) := by decide +kernel
theorem dX0_keepPast_29 : decode cX0_keepPast 29 = .ok (.iconst 1, 1) := by decide +kernel
theorem dX0_keepPast_30 : decode cX0_keepPast 30 = .ok (.isub, 1) := by decide +kernel
theorem dX0_keepPast_31 : decode cX0_keepPast 31 = .ok (.aload_n 0, 1) := by decide +kernel
theorem dX0_keepPast_32 : decode cX0_keepPast 32 = .ok (.getfield 34, 3) := by decide +kernel
theorem dX0_keepPast_35 : decode cX0_keepPast 35 = .ok (.iload_n 2, 1) := by decide +kernel
theorem dX0_keepPast_36 : decode cX0_keepPast 36 = .ok (.aaload, 1) := by decide +kernel
theorem dX0_keepPast_37 : decode cX0_keepPast 37 = .ok (.aastore, 1) := by decide +kernel
theorem dX0_keepPast_38 : decode cX0_keepPast 38 = .ok (.iinc 2 1, 3) := by decide +kernel
theorem dX0_keepPast_41 : decode cX0_keepPast 41 = .ok (.goto (-23), 3) := by decide +kernel
theorem dX0_keepPast_44 : decode cX0_keepPast 44 = .ok (.aload_n 0, 1) := by decide +kernel
theorem dX0_keepPast_45 : decode cX0_keepPast 45 = .ok (.getfield 34, 3) := by decide +kernel
theorem dX0_keepPast_48 : decode cX0_keepPast 48 = .ok (.bipush 7, 2) := by decide +kernel
theorem dX0_keepPast_50 : decode cX0_keepPast 50 = .ok (.aload_n 1, 1) := by decide +kernel
theorem dX0_keepPast_51 : decode cX0_keepPast 51 = .ok (.aastore, 1) := by decide +kernel
theorem dX0_keepPast_52 : decode cX0_keepPast 52 = .ok (.aload_n 0, 1) := by decide +kernel
theorem dX0_keepPast_53 : decode cX0_keepPast 53 = .ok (.bipush 7, 2) := by decide +kernel
theorem dX0_keepPast_55 : decode cX0_keepPast 55 = .ok (.putfield 60, 3) := by decide +kernel
theorem dX0_keepPast_58 : decode cX0_keepPast 58 = .ok (.aload_n 0, 1) := by decide +kernel
theorem dX0_keepPast_59 : decode cX0_keepPast 59 = .ok (.getfield 34, 3) := by decide +kernel
theorem dX0_keepPast_62 : decode cX0_keepPast 62 = .ok (.aload_n 0, 1) := by decide +kernel
theorem dX0_keepPast_63 : decode cX0_keepPast 63 = .ok (.getfield 60, 3) := by decide +kernel
theorem dX0_keepPast_66 : decode cX0_keepPast 66 = .ok (.aaload, 1) := by decide +kernel
theorem dX0_keepPast_67 : decode cX0_keepPast 67 = .ok (.aload_n 0, 1) := by decide +kernel
theorem dX0_keepPast_68 : decode cX0_keepPast 68 = .ok (.getfield 30, 3) := by decide +kernel
theorem dX0_keepPast_71 : decode cX0_keepPast 71 = .ok (.invokevirtual 75, 3) := by decide +kernel
theorem dX0_keepPast_74 : decode cX0_keepPast 74 = .ok (.aload_n 0, 1) := by decide +kernel
theorem dX0_keepPast_75 : decode cX0_keepPast 75 = .ok (.dup, 1) := by decide +kernel
theorem dX0_keepPast_76 : decode cX0_keepPast 76 = .ok (.getfield 60, 3) := by decide +kernel
theorem dX0_keepPast_79 : decode cX0_keepPast 79 = .ok (.iconst 1, 1) := by decide +kernel
theorem dX0_keepPast_80 : decode cX0_keepPast 80 = .ok (.iadd, 1) := by decide +kernel
theorem dX0_keepPast_81 : decode cX0_keepPast 81 = .ok (.putfield 60, 3) := by decide +kernel
theorem dX0_keepPast_84 : decode cX0_keepPast 84 = .ok (.return_, 1) := by decide +kernel
theorem dX0_goBack_0 : decode cX0_goBack 0 = .ok (.aload_n 0, 1) := by decide +kernel
theorem dX0_goBack_1 : decode cX0_goBack 1 = .ok (.dup, 1) := by decide +kernel
theorem dX0_goBack_2 : decode cX0_goBack 2 = .ok (.getfield 60, 3) := by decide +kernel
theorem dX0_goBack_5 : decode cX0_goBack 5 = .ok (.iconst 1, 1) := by decide +kernel
theorem dX0_goBack_6 : decode cX0_goBack 6 = .ok (.isub, 1) := by decide +kernel
theorem dX0_goBack_7 : decode cX0_goBack 7 = .ok (.putfield 60, 3) := by decide +kernel
theorem dX0_goBack_10 : decode cX0_goBack 10 = .ok (.aload_n 0, 1) := by decide +kernel
theorem dX0_goBack_11 : decode cX0_goBack 11 = .ok (.getfield 30, 3) := by decide +kernel
theorem dX0_goBack_14 : decode cX0_goBack 14 = .ok (.aload_n 0, 1) := by decide +kernel
theorem dX0_goBack_15 : decode cX0_goBack 15 = .ok (.getfield 34, 3) := by decide +kernel
theorem dX0_goBack_18 : decode cX0_goBack 18 = .ok (.aload_n 0, 1) := by decide +kernel
theorem dX0_goBack_19 : decode cX0_goBack 19 = .ok (.getfield 60, 3) := by decide +kernel
theorem dX0_goBack_22 : decode cX0_goBack 22 = .ok (.aaload, 1) := by decide +kernel
theorem dX0_goBack_23 : decode cX0_goBack 23 = .ok (.invokevirtual 75, 3) := by decide +kernel
theorem dX0_goBack_26 : decode cX0_goBack 26 = .ok (.return_, 1) := by decide +kernel
theorem dX0_wouldTake_0 : decode cX0_wouldTake 0 = .ok (.aload_n 1, 1) := by decide +kernel
theorem dX0_wouldTake_1 : decode cX0_wouldTake 1 = .ok (.iload_n 2, 1) := by decide +kernel
theorem dX0_wouldTake_2 : decode cX0_wouldTake 2 = .ok (.aload_n 0, 1) := by decide +kernel
theorem dX0_wouldTake_3 : decode cX0_wouldTake 3 = .ok (.getfield 15, 3) := by decide +kernel
theorem dX0_wouldTake_6 : decode cX0_wouldTake 6 = .ok (.iload_n 3, 1) := by decide +kernel
theorem dX0_wouldTake_7 : decode cX0_wouldTake 7 = .ok (.iaload, 1) := by decide +kernel
theorem dX0_wouldTake_8 : decode cX0_wouldTake 8 = .ok (.invokevirtual 89, 3) := by decide +kernel
theorem dX0_wouldTake_11 : decode cX0_wouldTake 11 = .ok (.istore 4, 2) := by decide +kernel
theorem dX0_wouldTake_13 : decode cX0_wouldTake 13 = .ok (.aload_n 0, 1) := by decide +kernel
theorem dX0_wouldTake_14 : decode cX0_wouldTake 14 = .ok (.getfield 18, 3) := by decide +kernel
theorem dX0_wouldTake_17 : decode cX0_wouldTake 17 = .ok (.iload_n 2, 1) := by decide +kernel
theorem dX0_wouldTake_18 : decode cX0_wouldTake 18 = .ok (.iaload, 1) := by decide +kernel
theorem dX0_wouldTake_19 : decode cX0_wouldTake 19 = .ok (.aload_n 0, 1) := by decide +kernel
theorem dX0_wouldTake_20 : decode cX0_wouldTake 20 = .ok (.getfield 9, 3) := by decide +kernel
theorem dX0_wouldTake_23 : decode cX0_wouldTake 23 = .ok (.iload_n 3, 1) := by decide +kernel
theorem dX0_wouldTake_24 : decode cX0_wouldTake 24 = .ok (.iaload, 1) := by decide +kernel
theorem dX0_wouldTake_25 : decode cX0_wouldTake 25 = .ok (.aload_n 1, 1) := by decide +kernel
theorem dX0_wouldTake_26 : decode cX0_wouldTake 26 = .ok (.getfield 82, 3) := by decide +kernel
theorem dX0_wouldTake_29 : decode cX0_wouldTake 29 = .ok (.iload_n 3, 1) := by decide +kernel
theorem dX0_wouldTake_30 : decode cX0_wouldTake 30 = .ok (.iaload, 1) := by decide +kernel
theorem dX0_wouldTake_31 : decode cX0_wouldTake 31 = .ok (.aload_n 1, 1) := by decide +kernel
theorem dX0_wouldTake_32 : decode cX0_wouldTake 32 = .ok (.getfield 92, 3) := by decide +kernel
theorem dX0_wouldTake_35 : decode cX0_wouldTake 35 = .ok (.iload 4, 2) := by decide +kernel
theorem dX0_wouldTake_37 : decode cX0_wouldTake 37 = .ok (.invokestatic 95, 3) := by decide +kernel
theorem dX0_wouldTake_40 : decode cX0_wouldTake 40 = .ok (.iload 4, 2) := by decide +kernel
theorem dX0_wouldTake_42 : decode cX0_wouldTake 42 = .ok (.invokestatic 99, 3) := by decide +kernel
theorem dX0_wouldTake_45 : decode cX0_wouldTake 45 = .ok (.ireturn, 1) := by decide +kernel
theorem dX0_passFor_0 : decode cX0_passFor 0 = .ok (.aload_n 1, 1) := by decide +kernel
theorem dX0_passFor_1 : decode cX0_passFor 1 = .ok (.getfield 103, 3) := by decide +kernel
theorem dX0_passFor_4 : decode cX0_passFor 4 = .ok (.iload_n 2, 1) := by decide +kernel
theorem dX0_passFor_5 : decode cX0_passFor 5 = .ok (.iaload, 1) := by decide +kernel
theorem dX0_passFor_6 : decode cX0_passFor 6 = .ok (.istore_n 3, 1) := by decide +kernel
theorem dX0_passFor_7 : decode cX0_passFor 7 = .ok (.iload_n 3, 1) := by decide +kernel
theorem dX0_passFor_8 : decode cX0_passFor 8 = .ok (.iconst (-1), 1) := by decide +kernel
theorem dX0_passFor_9 : decode cX0_passFor 9 = .ok (.if_icmp .ne 4, 3) := by decide +kernel
theorem dX0_passFor_12 : decode cX0_passFor 12 = .ok (.return_, 1) := by decide +kernel
theorem dX0_passFor_13 : decode cX0_passFor 13 = .ok (.iload_n 2, 1) := by decide +kernel
theorem dX0_passFor_14 : decode cX0_passFor 14 = .ok (.iconst 4, 1) := by decide +kernel
theorem dX0_passFor_15 : decode cX0_passFor 15 = .ok (.imul, 1) := by decide +kernel
theorem dX0_passFor_16 : decode cX0_passFor 16 = .ok (.aload_n 0, 1) := by decide +kernel
theorem dX0_passFor_17 : decode cX0_passFor 17 = .ok (.getfield 15, 3) := by decide +kernel
theorem dX0_passFor_20 : decode cX0_passFor 20 = .ok (.iload_n 3, 1) := by decide +kernel
theorem dX0_passFor_21 : decode cX0_passFor 21 = .ok (.iaload, 1) := by decide +kernel
theorem dX0_passFor_22 : decode cX0_passFor 22 = .ok (.iadd, 1) := by decide +kernel
theorem dX0_passFor_23 : decode cX0_passFor 23 = .ok (.istore 4, 2) := by decide +kernel
theorem dX0_passFor_25 : decode cX0_passFor 25 = .ok (.aload_n 1, 1) := by decide +kernel
theorem dX0_passFor_26 : decode cX0_passFor 26 = .ok (.getfield 106, 3) := by decide +kernel
theorem dX0_passFor_29 : decode cX0_passFor 29 = .ok (.iload 4, 2) := by decide +kernel
theorem dX0_passFor_31 : decode cX0_passFor 31 = .ok (.aload_n 1, 1) := by decide +kernel
theorem dX0_passFor_32 : decode cX0_passFor 32 = .ok (.getfield 106, 3) := by decide +kernel
theorem dX0_passFor_35 : decode cX0_passFor 35 = .ok (.iload 4, 2) := by decide +kernel
theorem dX0_passFor_37 : decode cX0_passFor 37 = .ok (.iaload, 1) := by decide +kernel
theorem dX0_passFor_38 : decode cX0_passFor 38 = .ok (.aload_n 0, 1) := by decide +kernel
theorem dX0_passFor_39 : decode cX0_passFor 39 = .ok (.aload_n 1, 1) := by decide +kernel
theorem dX0_passFor_40 : decode cX0_passFor 40 = .ok (.iload_n 2, 1) := by decide +kernel
theorem dX0_passFor_41 : decode cX0_passFor 41 = .ok (.iload_n 3, 1) := by decide +kernel
theorem dX0_passFor_42 : decode cX0_passFor 42 = .ok (.invokevirtual 109, 3) := by decide +kernel
theorem dX0_passFor_45 : decode cX0_passFor 45 = .ok (.iadd, 1) := by decide +kernel
theorem dX0_passFor_46 : decode cX0_passFor 46 = .ok (.bipush 99, 2) := by decide +kernel
theorem dX0_passFor_48 : decode cX0_passFor 48 = .ok (.invokestatic 113, 3) := by decide +kernel
theorem dX0_passFor_51 : decode cX0_passFor 51 = .ok (.iastore, 1) := by decide +kernel
theorem dX0_passFor_52 : decode cX0_passFor 52 = .ok (.aload_n 1, 1) := by decide +kernel
theorem dX0_passFor_53 : decode cX0_passFor 53 = .ok (.getfield 82, 3) := by decide +kernel
theorem dX0_passFor_56 : decode cX0_passFor 56 = .ok (.iload_n 3, 1) := by decide +kernel
theorem dX0_passFor_57 : decode cX0_passFor 57 = .ok (.aload_n 1, 1) := by decide +kernel
theorem dX0_passFor_58 : decode cX0_passFor 58 = .ok (.getfield 82, 3) := by decide +kernel
theorem dX0_passFor_61 : decode cX0_passFor 61 = .ok (.iload_n 3, 1) := by decide +kernel
theorem dX0_passFor_62 : decode cX0_passFor 62 = .ok (.iaload, 1) := by decide +kernel
theorem dX0_passFor_63 : decode cX0_passFor 63 = .ok (.aload_n 0, 1) := by decide +kernel
theorem dX0_passFor_64 : decode cX0_passFor 64 = .ok (.getfield 9, 3) := by decide +kernel
theorem dX0_passFor_67 : decode cX0_passFor 67 = .ok (.iload_n 3, 1) := by decide +kernel
theorem dX0_passFor_68 : decode cX0_passFor 68 = .ok (.iaload, 1) := by decide +kernel
theorem dX0_passFor_69 : decode cX0_passFor 69 = .ok (.aload_n 0, 1) := by decide +kernel
theorem dX0_passFor_70 : decode cX0_passFor 70 = .ok (.getfield 24, 3) := by decide +kernel
theorem dX0_passFor_73 : decode cX0_passFor 73 = .ok (.iload_n 2, 1) := by decide +kernel
theorem dX0_passFor_74 : decode cX0_passFor 74 = .ok (.iaload, 1) := by decide +kernel
theorem dX0_passFor_75 : decode cX0_passFor 75 = .ok (.invokestatic 118, 3) := by decide +kernel
theorem dX0_passFor_78 : decode cX0_passFor 78 = .ok (.isub, 1) := by decide +kernel
theorem dX0_passFor_79 : decode cX0_passFor 79 = .ok (.iconst 0, 1) := by decide +kernel
theorem dX0_passFor_80 : decode cX0_passFor 80 = .ok (.invokestatic 121, 3) := by decide +kernel
theorem dX0_passFor_83 : decode cX0_passFor 83 = .ok (.iastore, 1) := by decide +kernel
theorem dX0_passFor_84 : decode cX0_passFor 84 = .ok (.return_, 1) := by decide +kernel
theorem dX0_pass_0 : decode cX0_pass 0 = .ok (.iconst 0, 1) := by decide +kernel
theorem dX0_pass_1 : decode cX0_pass 1 = .ok (.istore_n 2, 1) := by decide +kernel
theorem dX0_pass_2 : decode cX0_pass 2 = .ok (.iload_n 2, 1) := by decide +kernel
theorem dX0_pass_3 : decode cX0_pass 3 = .ok (.aload_n 0, 1) := by decide +kernel
theorem dX0_pass_4 : decode cX0_pass 4 = .ok (.getfield 57, 3) := by decide +kernel
theorem dX0_pass_7 : decode cX0_pass 7 = .ok (.if_icmp .ge 15, 3) := by decide +kernel
theorem dX0_pass_10 : decode cX0_pass 10 = .ok (.aload_n 0, 1) := by decide +kernel
theorem dX0_pass_11 : decode cX0_pass 11 = .ok (.aload_n 1, 1) := by decide +kernel
theorem dX0_pass_12 : decode cX0_pass 12 = .ok (.iload_n 2, 1) := by decide +kernel
theorem dX0_pass_13 : decode cX0_pass 13 = .ok (.invokevirtual 124, 3) := by decide +kernel
theorem dX0_pass_16 : decode cX0_pass 16 = .ok (.iinc 2 1, 3) := by decide +kernel
theorem dX0_pass_19 : decode cX0_pass 19 = .ok (.goto (-17), 3) := by decide +kernel
theorem dX0_pass_22 : decode cX0_pass 22 = .ok (.aload_n 1, 1) := by decide +kernel
theorem dX0_pass_23 : decode cX0_pass 23 = .ok (.dup, 1) := by decide +kernel
theorem dX0_pass_24 : decode cX0_pass 24 = .ok (.getfield 92, 3) := by decide +kernel
theorem dX0_pass_27 : decode cX0_pass 27 = .ok (.iconst 1, 1) := by decide +kernel
theorem dX0_pass_28 : decode cX0_pass 28 = .ok (.iadd, 1) := by decide +kernel
theorem dX0_pass_29 : decode cX0_pass 29 = .ok (.putfield 92, 3) := by decide +kernel
theorem dX0_pass_32 : decode cX0_pass 32 = .ok (.return_, 1) := by decide +kernel
theorem dX0_passUpToLast_0 : decode cX0_passUpToLast 0 = .ok (.iconst 0, 1) := by decide +kernel
theorem dX0_passUpToLast_1 : decode cX0_passUpToLast 1 = .ok (.istore_n 2, 1) := by decide +kernel
theorem dX0_passUpToLast_2 : decode cX0_passUpToLast 2 = .ok (.iload_n 2, 1) := by decide +kernel
theorem dX0_passUpToLast_3 : decode cX0_passUpToLast 3 = .ok (.iload_n 1, 1) := by decide +kernel
theorem dX0_passUpToLast_4 : decode cX0_passUpToLast 4 = .ok (.if_icmp .ge 30, 3) := by decide +kernel
theorem dX0_passUpToLast_7 : decode cX0_passUpToLast 7 = .ok (.aload_n 0, 1) := by decide +kernel
theorem dX0_passUpToLast_8 : decode cX0_passUpToLast 8 = .ok (.getfield 30, 3) := by decide +kernel
theorem dX0_passUpToLast_11 : decode cX0_passUpToLast 11 = .ok (.getfield 92, 3) := by decide +kernel
theorem dX0_passUpToLast_14 : decode cX0_passUpToLast 14 = .ok (.sipush 999, 3) := by decide +kernel
theorem dX0_passUpToLast_17 : decode cX0_passUpToLast 17 = .ok (.if_icmp .ge 17, 3) := by decide +kernel
theorem dX0_passUpToLast_20 : decode cX0_passUpToLast 20 = .ok (.aload_n 0, 1) := by decide +kernel
theorem dX0_passUpToLast_21 : decode cX0_passUpToLast 21 = .ok (.aload_n 0, 1) := by decide +kernel
theorem dX0_passUpToLast_22 : decode cX0_passUpToLast 22 = .ok (.getfield 30, 3) := by decide +kernel
theorem dX0_passUpToLast_25 : decode cX0_passUpToLast 25 = .ok (.invokevirtual 128, 3) := by decide +kernel
theorem dX0_passUpToLast_28 : decode cX0_passUpToLast 28 = .ok (.iinc 2 1, 3) := by decide +kernel
theorem dX0_passUpToLast_31 : decode cX0_passUpToLast 31 = .ok (.goto (-29), 3) := by decide +kernel
theorem dX0_passUpToLast_34 : decode cX0_passUpToLast 34 = .ok (.return_, 1) := by decide +kernel
theorem dX0_mix_0 : decode cX0_mix 0 = .ok (.lload_n 1, 1) := by decide +kernel
theorem dX0_mix_1 : decode cX0_mix 1 = .ok (.lstore_n 3, 1) := by decide +kernel
theorem dX0_mix_2 : decode cX0_mix 2 = .ok (.iconst 0, 1) := by decide +kernel
theorem dX0_mix_3 : decode cX0_mix 3 = .ok (.istore 5, 2) := by decide +kernel
theorem dX0_mix_5 : decode cX0_mix 5 = .ok (.iload 5, 2) := by decide +kernel
theorem dX0_mix_7 : decode cX0_mix 7 = .ok (.aload_n 0, 1) := by decide +kernel
theorem dX0_mix_8 : decode cX0_mix 8 = .ok (.getfield 53, 3) := by decide +kernel
theorem dX0_mix_11 : decode cX0_mix 11 = .ok (.if_icmp .ge 57, 3) := by decide +kernel
theorem dX0_mix_14 : decode cX0_mix 14 = .ok (.ldc2_w 131, 3) := by decide +kernel
theorem dX0_mix_17 : decode cX0_mix 17 = .ok (.lload_n 3, 1) := by decide +kernel
theorem dX0_mix_18 : decode cX0_mix 18 = .ok (.lmul, 1) := by decide +kernel
theorem dX0_mix_19 : decode cX0_mix 19 = .ok (.aload_n 0, 1) := by decide +kernel
theorem dX0_mix_20 : decode cX0_mix 20 = .ok (.getfield 9, 3) := by decide +kernel
theorem dX0_mix_23 : decode cX0_mix 23 = .ok (.iload 5, 2) := by decide +kernel
theorem dX0_mix_25 : decode cX0_mix 25 = .ok (.iaload, 1) := by decide +kernel
theorem dX0_mix_26 : decode cX0_mix 26 = .ok (.i2l, 1) := by decide +kernel
theorem dX0_mix_27 : decode cX0_mix 27 = .ok (.ladd, 1) := by decide +kernel
theorem dX0_mix_28 : decode cX0_mix 28 = .ok (.lstore_n 3, 1) := by decide +kernel
theorem dX0_mix_29 : decode cX0_mix 29 = .ok (.ldc2_w 131, 3) := by decide +kernel
theorem dX0_mix_32 : decode cX0_mix 32 = .ok (.lload_n 3, 1) := by decide +kernel
theorem dX0_mix_33 : decode cX0_mix 33 = .ok (.lmul, 1) := by decide +kernel
theorem dX0_mix_34 : decode cX0_mix 34 = .ok (.aload_n 0, 1) := by decide +kernel
theorem dX0_mix_35 : decode cX0_mix 35 = .ok (.getfield 15, 3) := by decide +kernel
theorem dX0_mix_38 : decode cX0_mix 38 = .ok (.iload 5, 2) := by decide +kernel
theorem dX0_mix_40 : decode cX0_mix 40 = .ok (.iaload, 1) := by decide +kernel
theorem dX0_mix_41 : decode cX0_mix 41 = .ok (.i2l, 1) := by decide +kernel
theorem dX0_mix_42 : decode cX0_mix 42 = .ok (.ladd, 1) := by decide +kernel
theorem dX0_mix_43 : decode cX0_mix 43 = .ok (.lstore_n 3, 1) := by decide +kernel
theorem dX0_mix_44 : decode cX0_mix 44 = .ok (.ldc2_w 131, 3) := by decide +kernel
theorem dX0_mix_47 : decode cX0_mix 47 = .ok (.lload_n 3, 1) := by decide +kernel
theorem dX0_mix_48 : decode cX0_mix 48 = .ok (.lmul, 1) := by decide +kernel
theorem dX0_mix_49 : decode cX0_mix 49 = .ok (.aload_n 0, 1) := by decide +kernel
theorem dX0_mix_50 : decode cX0_mix 50 = .ok (.getfield 30, 3) := by decide +kernel
theorem dX0_mix_53 : decode cX0_mix 53 = .ok (.getfield 82, 3) := by decide +kernel
theorem dX0_mix_56 : decode cX0_mix 56 = .ok (.iload 5, 2) := by decide +kernel
theorem dX0_mix_58 : decode cX0_mix 58 = .ok (.iaload, 1) := by decide +kernel
theorem dX0_mix_59 : decode cX0_mix 59 = .ok (.i2l, 1) := by decide +kernel
theorem dX0_mix_60 : decode cX0_mix 60 = .ok (.ladd, 1) := by decide +kernel
theorem dX0_mix_61 : decode cX0_mix 61 = .ok (.lstore_n 3, 1) := by decide +kernel
theorem dX0_mix_62 : decode cX0_mix 62 = .ok (.iinc 5 1, 3) := by decide +kernel
theorem dX0_mix_65 : decode cX0_mix 65 = .ok (.goto (-60), 3) := by decide +kernel
theorem dX0_mix_68 : decode cX0_mix 68 = .ok (.iconst 0, 1) := by decide +kernel
theorem dX0_mix_69 : decode cX0_mix 69 = .ok (.istore 5, 2) := by decide +kernel
theorem dX0_mix_71 : decode cX0_mix 71 = .ok (.iload 5, 2) := by decide +kernel
theorem dX0_mix_73 : decode cX0_mix 73 = .ok (.aload_n 0, 1) := by decide +kernel
theorem dX0_mix_74 : decode cX0_mix 74 = .ok (.getfield 57, 3) := by decide +kernel
theorem dX0_mix_77 : decode cX0_mix 77 = .ok (.if_icmp .ge 91, 3) := by decide +kernel
theorem dX0_mix_80 : decode cX0_mix 80 = .ok (.ldc2_w 131, 3) := by decide +kernel
theorem dX0_mix_83 : decode cX0_mix 83 = .ok (.lload_n 3, 1) := by decide +kernel
theorem dX0_mix_84 : decode cX0_mix 84 = .ok (.lmul, 1) := by decide +kernel
theorem dX0_mix_85 : decode cX0_mix 85 = .ok (.aload_n 0, 1) := by decide +kernel
theorem dX0_mix_86 : decode cX0_mix 86 = .ok (.getfield 18, 3) := by decide +kernel
theorem dX0_mix_89 : decode cX0_mix 89 = .ok (.iload 5, 2) := by decide +kernel
theorem dX0_mix_91 : decode cX0_mix 91 = .ok (.iaload, 1) := by decide +kernel
theorem dX0_mix_92 : decode cX0_mix 92 = .ok (.i2l, 1) := by decide +kernel
theorem dX0_mix_93 : decode cX0_mix 93 = .ok (.ladd, 1) := by decide +kernel
theorem dX0_mix_94 : decode cX0_mix 94 = .ok (.lstore_n 3, 1) := by decide +kernel
theorem dX0_mix_95 : decode cX0_mix 95 = .ok (.ldc2_w 131, 3) := by decide +kernel
theorem dX0_mix_98 : decode cX0_mix 98 = .ok (.lload_n 3, 1) := by decide +kernel
theorem dX0_mix_99 : decode cX0_mix 99 = .ok (.lmul, 1) := by decide +kernel
theorem dX0_mix_100 : decode cX0_mix 100 = .ok (.aload_n 0, 1) := by decide +kernel
theorem dX0_mix_101 : decode cX0_mix 101 = .ok (.getfield 21, 3) := by decide +kernel
theorem dX0_mix_104 : decode cX0_mix 104 = .ok (.iload 5, 2) := by decide +kernel
theorem dX0_mix_106 : decode cX0_mix 106 = .ok (.iaload, 1) := by decide +kernel
theorem dX0_mix_107 : decode cX0_mix 107 = .ok (.i2l, 1) := by decide +kernel
theorem dX0_mix_108 : decode cX0_mix 108 = .ok (.ladd, 1) := by decide +kernel
theorem dX0_mix_109 : decode cX0_mix 109 = .ok (.lstore_n 3, 1) := by decide +kernel
theorem dX0_mix_110 : decode cX0_mix 110 = .ok (.ldc2_w 131, 3) := by decide +kernel
theorem dX0_mix_113 : decode cX0_mix 113 = .ok (.lload_n 3, 1) := by decide +kernel
theorem dX0_mix_114 : decode cX0_mix 114 = .ok (.lmul, 1) := by decide +kernel
theorem dX0_mix_115 : decode cX0_mix 115 = .ok (.aload_n 0, 1) := by decide +kernel
theorem dX0_mix_116 : decode cX0_mix 116 = .ok (.getfield 30, 3) := by decide +kernel
theorem dX0_mix_119 : decode cX0_mix 119 = .ok (.getfield 103, 3) := by decide +kernel
theorem dX0_mix_122 : decode cX0_mix 122 = .ok (.iload 5, 2) := by decide +kernel
theorem dX0_mix_124 : decode cX0_mix 124 = .ok (.iaload, 1) := by decide +kernel
theorem dX0_mix_125 : decode cX0_mix 125 = .ok (.i2l, 1) := by decide +kernel
theorem dX0_mix_126 : decode cX0_mix 126 = .ok (.ladd, 1) := by decide +kernel
theorem dX0_mix_127 : decode cX0_mix 127 = .ok (.lstore_n 3, 1) := by decide +kernel
theorem dX0_mix_128 : decode cX0_mix 128 = .ok (.iconst 0, 1) := by decide +kernel
theorem dX0_mix_129 : decode cX0_mix 129 = .ok (.istore 6, 2) := by decide +kernel
theorem dX0_mix_131 : decode cX0_mix 131 = .ok (.iload 6, 2) := by decide +kernel
theorem dX0_mix_133 : decode cX0_mix 133 = .ok (.iconst 4, 1) := by decide +kernel
theorem dX0_mix_134 : decode cX0_mix 134 = .ok (.if_icmp .ge 28, 3) := by decide +kernel
theorem dX0_mix_137 : decode cX0_mix 137 = .ok (.ldc2_w 131, 3) := by decide +kernel
theorem dX0_mix_140 : decode cX0_mix 140 = .ok (.lload_n 3, 1) := by decide +kernel
theorem dX0_mix_141 : decode cX0_mix 141 = .ok (.lmul, 1) := by decide +kernel
theorem dX0_mix_142 : decode cX0_mix 142 = .ok (.aload_n 0, 1) := by decide +kernel
theorem dX0_mix_143 : decode cX0_mix 143 = .ok (.getfield 30, 3) := by decide +kernel
theorem dX0_mix_146 : decode cX0_mix 146 = .ok (.iload 5, 2) := by decide +kernel
theorem dX0_mix_148 : decode cX0_mix 148 = .ok (.iload 6, 2) := by decide +kernel
theorem dX0_mix_150 : decode cX0_mix 150 = .ok (.invokevirtual 89, 3) := by decide +kernel
theorem dX0_mix_153 : decode cX0_mix 153 = .ok (.i2l, 1) := by decide +kernel
theorem dX0_mix_154 : decode cX0_mix 154 = .ok (.ladd, 1) := by decide +kernel
theorem dX0_mix_155 : decode cX0_mix 155 = .ok (.lstore_n 3, 1) := by decide +kernel
theorem dX0_mix_156 : decode cX0_mix 156 = .ok (.iinc 6 1, 3) := by decide +kernel
theorem dX0_mix_159 : decode cX0_mix 159 = .ok (.goto (-28), 3) := by decide +kernel
theorem dX0_mix_162 : decode cX0_mix 162 = .ok (.iinc 5 1, 3) := by decide +kernel
theorem dX0_mix_165 : decode cX0_mix 165 = .ok (.goto (-94), 3) := by decide +kernel
theorem dX0_mix_168 : decode cX0_mix 168 = .ok (.aload_n 0, 1) := by decide +kernel
theorem dX0_mix_169 : decode cX0_mix 169 = .ok (.getfield 50, 3) := by decide +kernel
theorem dX0_mix_172 : decode cX0_mix 172 = .ok (.aload_n 0, 1) := by decide +kernel
theorem dX0_mix_173 : decode cX0_mix 173 = .ok (.getfield 47, 3) := by decide +kernel
theorem dX0_mix_176 : decode cX0_mix 176 = .ok (.aload_n 0, 1) := by decide +kernel
theorem dX0_mix_177 : decode cX0_mix 177 = .ok (.getfield 43, 3) := by decide +kernel
theorem dX0_mix_180 : decode cX0_mix 180 = .ok (.lload_n 3, 1) := by decide +kernel
theorem dX0_mix_181 : decode cX0_mix 181 = .ok (.invokevirtual 133, 3) := by decide +kernel
theorem dX0_mix_184 : decode cX0_mix 184 = .ok (.invokevirtual 133, 3) := by decide +kernel
theorem dX0_mix_187 : decode cX0_mix 187 = .ok (.invokevirtual 133, 3) := by decide +kernel
theorem dX0_mix_190 : decode cX0_mix 190 = .ok (.lreturn, 1) := by decide +kernel
theorem dX1_init_0 : decode cX1_init 0 = .ok (.aload_n 0, 1) := by decide +kernel
theorem dX1_init_1 : decode cX1_init 1 = .ok (.invokespecial 3, 3) := by decide +kernel
theorem dX1_init_4 : decode cX1_init 4 = .ok (.aload_n 0, 1) := by decide +kernel
theorem dX1_init_5 : decode cX1_init 5 = .ok (.bipush 30, 2) := by decide +kernel
theorem dX1_init_7 : decode cX1_init 7 = .ok (.newarray .int, 2) := by decide +kernel
theorem dX1_init_9 : decode cX1_init 9 = .ok (.putfield 11, 3) := by decide +kernel
theorem dX1_init_12 : decode cX1_init 12 = .ok (.aload_n 0, 1) := by decide +kernel
theorem dX1_init_13 : decode cX1_init 13 = .ok (.iload_n 1, 1) := by decide +kernel
theorem dX1_init_14 : decode cX1_init 14 = .ok (.putfield 15, 3) := by decide +kernel
theorem dX1_init_17 : decode cX1_init 17 = .ok (.return_, 1) := by decide +kernel
theorem dX1_become_0 : decode cX1_become 0 = .ok (.aload_n 0, 1) := by decide +kernel
theorem dX1_become_1 : decode cX1_become 1 = .ok (.aload_n 1, 1) := by decide +kernel
theorem dX1_become_2 : decode cX1_become 2 = .ok (.getfield 19, 3) := by decide +kernel
theorem dX1_become_5 : decode cX1_become 5 = .ok (.putfield 19, 3) := by decide +kernel
theorem dX1_become_8 : decode cX1_become 8 = .ok (.aload_n 1, 1) := by decide +kernel
theorem dX1_become_9 : decode cX1_become 9 = .ok (.getfield 11, 3) := by decide +kernel
theorem dX1_become_12 : decode cX1_become 12 = .ok (.iconst 0, 1) := by decide +kernel
theorem dX1_become_13 : decode cX1_become 13 = .ok (.aload_n 0, 1) := by decide +kernel
theorem dX1_become_14 : decode cX1_become 14 = .ok (.getfield 11, 3) := by decide +kernel
theorem dX1_become_17 : decode cX1_become 17 = .ok (.iconst 0, 1) := by decide +kernel
theorem dX1_become_18 : decode cX1_become 18 = .ok (.bipush 30, 2) := by decide +kernel
theorem dX1_become_20 : decode cX1_become 20 = .ok (.invokestatic 22, 3) := by decide +kernel
theorem dX1_become_23 : decode cX1_become 23 = .ok (.return_, 1) := by decide +kernel
theorem dX1_add_0 : decode cX1_add 0 = .ok (.aload_n 0, 1) := by decide +kernel
theorem dX1_add_1 : decode cX1_add 1 = .ok (.getfield 19, 3) := by decide +kernel
theorem dX1_add_4 : decode cX1_add 4 = .ok (.iconst 5, 1) := by decide +kernel
theorem dX1_add_5 : decode cX1_add 5 = .ok (.imul, 1) := by decide +kernel
theorem dX1_add_6 : decode cX1_add 6 = .ok (.istore 6, 2) := by decide +kernel
theorem dX1_add_8 : decode cX1_add 8 = .ok (.aload_n 0, 1) := by decide +kernel
theorem dX1_add_9 : decode cX1_add 9 = .ok (.getfield 11, 3) := by decide +kernel
theorem dX1_add_12 : decode cX1_add 12 = .ok (.iload 6, 2) := by decide +kernel
theorem dX1_add_14 : decode cX1_add 14 = .ok (.iload_n 1, 1) := by decide +kernel
theorem dX1_add_15 : decode cX1_add 15 = .ok (.iastore, 1) := by decide +kernel
theorem dX1_add_16 : decode cX1_add 16 = .ok (.aload_n 0, 1) := by decide +kernel
theorem dX1_add_17 : decode cX1_add 17 = .ok (.getfield 11, 3) := by decide +kernel
theorem dX1_add_20 : decode cX1_add 20 = .ok (.iload 6, 2) := by decide +kernel
theorem dX1_add_22 : decode cX1_add 22 = .ok (.iconst 1, 1) := by decide +kernel
theorem dX1_add_23 : decode cX1_add 23 = .ok (.iadd, 1) := by decide +kernel
theorem dX1_add_24 : decode cX1_add 24 = .ok (.iload_n 2, 1) := by decide +kernel
theorem dX1_add_25 : decode cX1_add 25 = .ok (.iastore, 1) := by decide +kernel
theorem dX1_add_26 : decode cX1_add 26 = .ok (.aload_n 0, 1) := by decide +kernel
theorem dX1_add_27 : decode cX1_add 27 = .ok (.getfield 11, 3) := by decide +kernel
theorem dX1_add_30 : decode cX1_add 30 = .ok (.iload 6, 2) := by decide +kernel
theorem dX1_add_32 : decode cX1_add 32 = .ok (.iconst 2, 1) := by decide +kernel
theorem dX1_add_33 : decode cX1_add 33 = .ok (.iadd, 1) := by decide +kernel
theorem dX1_add_34 : decode cX1_add 34 = .ok (.iload_n 3, 1) := by decide +kernel
theorem dX1_add_35 : decode cX1_add 35 = .ok (.iastore, 1) := by decide +kernel
theorem dX1_add_36 : decode cX1_add 36 = .ok (.aload_n 0, 1) := by decide +kernel
theorem dX1_add_37 : decode cX1_add 37 = .ok (.getfield 11, 3) := by decide +kernel
theorem dX1_add_40 : decode cX1_add 40 = .ok (.iload 6, 2) := by decide +kernel
theorem dX1_add_42 : decode cX1_add 42 = .ok (.iconst 3, 1) := by decide +kernel
theorem dX1_add_43 : decode cX1_add 43 = .ok (.iadd, 1) := by decide +kernel
theorem dX1_add_44 : decode cX1_add 44 = .ok (.iload 4, 2) := by decide +kernel
theorem dX1_add_46 : decode cX1_add 46 = .ok (.iastore, 1) := by decide +kernel
theorem dX1_add_47 : decode cX1_add 47 = .ok (.aload_n 0, 1) := by decide +kernel
theorem dX1_add_48 : decode cX1_add 48 = .ok (.getfield 11, 3) := by decide +kernel
theorem dX1_add_51 : decode cX1_add 51 = .ok (.iload 6, 2) := by decide +kernel
theorem dX1_add_53 : decode cX1_add 53 = .ok (.iconst 4, 1) := by decide +kernel
theorem dX1_add_54 : decode cX1_add 54 = .ok (.iadd, 1) := by decide +kernel
theorem dX1_add_55 : decode cX1_add 55 = .ok (.iload 5, 2) := by decide +kernel
theorem dX1_add_57 : decode cX1_add 57 = .ok (.iastore, 1) := by decide +kernel
theorem dX1_add_58 : decode cX1_add 58 = .ok (.aload_n 0, 1) := by decide +kernel
theorem dX1_add_59 : decode cX1_add 59 = .ok (.dup, 1) := by decide +kernel
theorem dX1_add_60 : decode cX1_add 60 = .ok (.getfield 19, 3) := by decide +kernel
theorem dX1_add_63 : decode cX1_add 63 = .ok (.iconst 1, 1) := by decide +kernel
theorem dX1_add_64 : decode cX1_add 64 = .ok (.iadd, 1) := by decide +kernel
theorem dX1_add_65 : decode cX1_add 65 = .ok (.putfield 19, 3) := by decide +kernel
theorem dX1_add_68 : decode cX1_add 68 = .ok (.return_, 1) := by decide +kernel
theorem dX1_at_0 : decode cX1_at 0 = .ok (.aload_n 0, 1) := by decide +kernel
theorem dX1_at_1 : decode cX1_at 1 = .ok (.getfield 11, 3) := by decide +kernel
theorem dX1_at_4 : decode cX1_at 4 = .ok (.iload_n 1, 1) := by decide +kernel
theorem dX1_at_5 : decode cX1_at 5 = .ok (.iconst 5, 1) := by decide +kernel
theorem dX1_at_6 : decode cX1_at 6 = .ok (.imul, 1) := by decide +kernel
theorem dX1_at_7 : decode cX1_at 7 = .ok (.iload_n 2, 1) := by decide +kernel
theorem dX1_at_8 : decode cX1_at 8 = .ok (.iadd, 1) := by decide +kernel
theorem dX1_at_9 : decode cX1_at 9 = .ok (.iaload, 1) := by decide +kernel
theorem dX1_at_10 : decode cX1_at 10 = .ok (.ireturn, 1) := by decide +kernel
theorem dX1_mix_0 : decode cX1_mix 0 = .ok (.lload_n 1, 1) := by decide +kernel
theorem dX1_mix_1 : decode cX1_mix 1 = .ok (.lstore_n 3, 1) := by decide +kernel
theorem dX1_mix_2 : decode cX1_mix 2 = .ok (.iconst 0, 1) := by decide +kernel
theorem dX1_mix_3 : decode cX1_mix 3 = .ok (.istore 5, 2) := by decide +kernel
theorem dX1_mix_5 : decode cX1_mix 5 = .ok (.iload 5, 2) := by decide +kernel
theorem dX1_mix_7 : decode cX1_mix 7 = .ok (.aload_n 0, 1) := by decide +kernel
theorem dX1_mix_8 : decode cX1_mix 8 = .ok (.getfield 19, 3) := by decide +kernel
theorem dX1_mix_11 : decode cX1_mix 11 = .ok (.if_icmp .ge 43, 3) := by decide +kernel
theorem dX1_mix_14 : decode cX1_mix 14 = .ok (.iconst 0, 1) := by decide +kernel
theorem dX1_mix_15 : decode cX1_mix 15 = .ok (.istore 6, 2) := by decide +kernel
theorem dX1_mix_17 : decode cX1_mix 17 = .ok (.iload 6, 2) := by decide +kernel
theorem dX1_mix_19 : decode cX1_mix 19 = .ok (.aload_n 0, 1) := by decide +kernel
theorem dX1_mix_20 : decode cX1_mix 20 = .ok (.getfield 15, 3) := by decide +kernel
theorem dX1_mix_23 : decode cX1_mix 23 = .ok (.if_icmp .ge 25, 3) := by decide +kernel
theorem dX1_mix_26 : decode cX1_mix 26 = .ok (.ldc2_w 28, 3) := by decide +kernel
theorem dX1_mix_29 : decode cX1_mix 29 = .ok (.lload_n 3, 1) := by decide +kernel
theorem dX1_mix_30 : decode cX1_mix 30 = .ok (.lmul, 1) := by decide +kernel
theorem dX1_mix_31 : decode cX1_mix 31 = .ok (.aload_n 0, 1) := by decide +kernel
theorem dX1_mix_32 : decode cX1_mix 32 = .ok (.iload 5, 2) := by decide +kernel
theorem dX1_mix_34 : decode cX1_mix 34 = .ok (.iload 6, 2) := by decide +kernel
theorem dX1_mix_36 : decode cX1_mix 36 = .ok (.invokevirtual 30, 3) := by decide +kernel
theorem dX1_mix_39 : decode cX1_mix 39 = .ok (.i2l, 1) := by decide +kernel
theorem dX1_mix_40 : decode cX1_mix 40 = .ok (.ladd, 1) := by decide +kernel
theorem dX1_mix_41 : decode cX1_mix 41 = .ok (.lstore_n 3, 1) := by decide +kernel
theorem dX1_mix_42 : decode cX1_mix 42 = .ok (.iinc 6 1, 3) := by decide +kernel
theorem dX1_mix_45 : decode cX1_mix 45 = .ok (.goto (-28), 3) := by decide +kernel
theorem dX1_mix_48 : decode cX1_mix 48 = .ok (.iinc 5 1, 3) := by decide +kernel
theorem dX1_mix_51 : decode cX1_mix 51 = .ok (.goto (-46), 3) := by decide +kernel
theorem dX1_mix_54 : decode cX1_mix 54 = .ok (.lload_n 3, 1) := by decide +kernel
theorem dX1_mix_55 : decode cX1_mix 55 = .ok (.lreturn, 1) := by decide +kernel
theorem dX2_init_0 : decode cX2_init 0 = .ok (.aload_n 0, 1) := by decide +kernel
theorem dX2_init_1 : decode cX2_init 1 = .ok (.invokespecial 3, 3) := by decide +kernel
theorem dX2_init_4 : decode cX2_init 4 = .ok (.aload_n 0, 1) := by decide +kernel
theorem dX2_init_5 : decode cX2_init 5 = .ok (.iconst 5, 1) := by decide +kernel
theorem dX2_init_6 : decode cX2_init 6 = .ok (.newarray .int, 2) := by decide +kernel
theorem dX2_init_8 : decode cX2_init 8 = .ok (.putfield 9, 3) := by decide +kernel
theorem dX2_init_11 : decode cX2_init 11 = .ok (.aload_n 0, 1) := by decide +kernel
theorem dX2_init_12 : decode cX2_init 12 = .ok (.bipush 20, 2) := by decide +kernel
theorem dX2_init_14 : decode cX2_init 14 = .ok (.newarray .int, 2) := by decide +kernel
theorem dX2_init_16 : decode cX2_init 16 = .ok (.putfield 15, 3) := by decide +kernel
theorem dX2_init_19 : decode cX2_init 19 = .ok (.aload_n 0, 1) := by decide +kernel
theorem dX2_init_20 : decode cX2_init 20 = .ok (.bipush 7, 2) := by decide +kernel
theorem dX2_init_22 : decode cX2_init 22 = .ok (.newarray .int, 2) := by decide +kernel
theorem dX2_init_24 : decode cX2_init 24 = .ok (.putfield 18, 3) := by decide +kernel
theorem dX2_init_27 : decode cX2_init 27 = .ok (.aload_n 0, 1) := by decide +kernel
theorem dX2_init_28 : decode cX2_init 28 = .ok (.getfield 9, 3) := by decide +kernel
theorem dX2_init_31 : decode cX2_init 31 = .ok (.iconst (-1), 1) := by decide +kernel
theorem dX2_init_32 : decode cX2_init 32 = .ok (.invokestatic 21, 3) := by decide +kernel
theorem dX2_init_35 : decode cX2_init 35 = .ok (.return_, 1) := by decide +kernel
theorem dX2_empty_0 : decode cX2_empty 0 = .ok (.aload_n 0, 1) := by decide +kernel
theorem dX2_empty_1 : decode cX2_empty 1 = .ok (.iconst 0, 1) := by decide +kernel
theorem dX2_empty_2 : decode cX2_empty 2 = .ok (.putfield 27, 3) := by decide +kernel
theorem dX2_empty_5 : decode cX2_empty 5 = .ok (.aload_n 0, 1) := by decide +kernel
theorem dX2_empty_6 : decode cX2_empty 6 = .ok (.getfield 9, 3) := by decide +kernel
theorem dX2_empty_9 : decode cX2_empty 9 = .ok (.iconst (-1), 1) := by decide +kernel
theorem dX2_empty_10 : decode cX2_empty 10 = .ok (.invokestatic 21, 3) := by decide +kernel
theorem dX2_empty_13 : decode cX2_empty 13 = .ok (.aload_n 0, 1) := by decide +kernel
theorem dX2_empty_14 : decode cX2_empty 14 = .ok (.getfield 15, 3) := by decide +kernel
theorem dX2_empty_17 : decode cX2_empty 17 = .ok (.iconst 0, 1) := by decide +kernel
theorem dX2_empty_18 : decode cX2_empty 18 = .ok (.invokestatic 21, 3) := by decide +kernel
theorem dX2_empty_21 : decode cX2_empty 21 = .ok (.aload_n 0, 1) := by decide +kernel
theorem dX2_empty_22 : decode cX2_empty 22 = .ok (.getfield 18, 3) := by decide +kernel
theorem dX2_empty_25 : decode cX2_empty 25 = .ok (.iconst 0, 1) := by decide +kernel
theorem dX2_empty_26 : decode cX2_empty 26 = .ok (.invokestatic 21, 3) := by decide +kernel
theorem dX2_empty_29 : decode cX2_empty 29 = .ok (.return_, 1) := by decide +kernel
theorem dX2_become_0 : decode cX2_become 0 = .ok (.aload_n 0, 1) := by decide +kernel
theorem dX2_become_1 : decode cX2_become 1 = .ok (.aload_n 1, 1) := by decide +kernel
theorem dX2_become_2 : decode cX2_become 2 = .ok (.getfield 27, 3) := by decide +kernel
theorem dX2_become_5 : decode cX2_become 5 = .ok (.putfield 27, 3) := by decide +kernel
theorem dX2_become_8 : decode cX2_become 8 = .ok (.aload_n 1, 1) := by decide +kernel
theorem dX2_become_9 : decode cX2_become 9 = .ok (.getfield 9, 3) := by decide +kernel
theorem dX2_become_12 : decode cX2_become 12 = .ok (.iconst 0, 1) := by decide +kernel
theorem dX2_become_13 : decode cX2_become 13 = .ok (.aload_n 0, 1) := by decide +kernel
theorem dX2_become_14 : decode cX2_become 14 = .ok (.getfield 9, 3) := by decide +kernel
theorem dX2_become_17 : decode cX2_become 17 = .ok (.iconst 0, 1) := by decide +kernel
theorem dX2_become_18 : decode cX2_become 18 = .ok (.iconst 5, 1) := by decide +kernel
theorem dX2_become_19 : decode cX2_become 19 = .ok (.invokestatic 31, 3) := by decide +kernel
theorem dX2_become_22 : decode cX2_become 22 = .ok (.aload_n 1, 1) := by decide +kernel
theorem dX2_become_23 : decode cX2_become 23 = .ok (.getfield 15, 3) := by decide +kernel
theorem dX2_become_26 : decode cX2_become 26 = .ok (.iconst 0, 1) := by decide +kernel
theorem dX2_become_27 : decode cX2_become 27 = .ok (.aload_n 0, 1) := by decide +kernel
theorem dX2_become_28 : decode cX2_become 28 = .ok (.getfield 15, 3) := by decide +kernel
theorem dX2_become_31 : decode cX2_become 31 = .ok (.iconst 0, 1) := by decide +kernel
theorem dX2_become_32 : decode cX2_become 32 = .ok (.bipush 20, 2) := by decide +kernel
theorem dX2_become_34 : decode cX2_become 34 = .ok (.invokestatic 31, 3) := by decide +kernel
theorem dX2_become_37 : decode cX2_become 37 = .ok (.aload_n 1, 1) := by decide +kernel
theorem dX2_become_38 : decode cX2_become 38 = .ok (.getfield 18, 3) := by decide +kernel
theorem dX2_become_41 : decode cX2_become 41 = .ok (.iconst 0, 1) := by decide +kernel
theorem dX2_become_42 : decode cX2_become 42 = .ok (.aload_n 0, 1) := by decide +kernel
theorem dX2_become_43 : decode cX2_become 43 = .ok (.getfield 18, 3) := by decide +kernel
theorem dX2_become_46 : decode cX2_become 46 = .ok (.iconst 0, 1) := by decide +kernel
theorem dX2_become_47 : decode cX2_become 47 = .ok (.bipush 7, 2) := by decide +kernel
theorem dX2_become_49 : decode cX2_become 49 = .ok (.invokestatic 31, 3) := by decide +kernel
theorem dX2_become_52 : decode cX2_become 52 = .ok (.return_, 1) := by decide +kernel
theorem dX2_takenOf_0 : decode cX2_takenOf 0 = .ok (.aload_n 0, 1) := by decide +kernel
theorem dX2_takenOf_1 : decode cX2_takenOf 1 = .ok (.getfield 15, 3) := by decide +kernel
theorem dX2_takenOf_4 : decode cX2_takenOf 4 = .ok (.iload_n 1, 1) := by decide +kernel
theorem dX2_takenOf_5 : decode cX2_takenOf 5 = .ok (.iconst 4, 1) := by decide +kernel
theorem dX2_takenOf_6 : decode cX2_takenOf 6 = .ok (.imul, 1) := by decide +kernel
theorem dX2_takenOf_7 : decode cX2_takenOf 7 = .ok (.iload_n 2, 1) := by decide +kernel
theorem dX2_takenOf_8 : decode cX2_takenOf 8 = .ok (.iadd, 1) := by decide +kernel
theorem dX2_takenOf_9 : decode cX2_takenOf 9 = .ok (.iaload, 1) := by decide +kernel
theorem dX2_takenOf_10 : decode cX2_takenOf 10 = .ok (.ireturn, 1) := by decide +kernel
theorem dX2_sitter_0 : decode cX2_sitter 0 = .ok (.iconst 0, 1) := by decide +kernel
theorem dX2_sitter_1 : decode cX2_sitter 1 = .ok (.istore_n 2, 1) := by decide +kernel
theorem dX2_sitter_2 : decode cX2_sitter 2 = .ok (.iload_n 2, 1) := by decide +kernel
theorem dX2_sitter_3 : decode cX2_sitter 3 = .ok (.iconst 5, 1) := by decide +kernel
theorem dX2_sitter_4 : decode cX2_sitter 4 = .ok (.if_icmp .ge 21, 3) := by decide +kernel
theorem dX2_sitter_7 : decode cX2_sitter 7 = .ok (.aload_n 0, 1) := by decide +kernel
theorem dX2_sitter_8 : decode cX2_sitter 8 = .ok (.getfield 9, 3) := by decide +kernel
theorem dX2_sitter_11 : decode cX2_sitter 11 = .ok (.iload_n 2, 1) := by decide +kernel
theorem dX2_sitter_12 : decode cX2_sitter 12 = .ok (.iaload, 1) := by decide +kernel
theorem dX2_sitter_13 : decode cX2_sitter 13 = .ok (.iload_n 1, 1) := by decide +kernel
theorem dX2_sitter_14 : decode cX2_sitter 14 = .ok (.if_icmp .ne 5, 3) := by decide +kernel
theorem dX2_sitter_17 : decode cX2_sitter 17 = .ok (.iload_n 2, 1) := by decide +kernel
theorem dX2_sitter_18 : decode cX2_sitter 18 = .ok (.ireturn, 1) := by decide +kernel
theorem dX2_sitter_19 : decode cX2_sitter 19 = .ok (.iinc 2 1, 3) := by decide +kernel
theorem dX2_sitter_22 : decode cX2_sitter 22 = .ok (.goto (-20), 3) := by decide +kernel
theorem dX2_sitter_25 : decode cX2_sitter 25 = .ok (.iconst (-1), 1) := by decide +kernel
theorem dX2_sitter_26 : decode cX2_sitter 26 = .ok (.ireturn, 1) := by decide +kernel
theorem dX2_isHeldByOther_0 : decode cX2_isHeldByOther 0 = .ok (.iload_n 2, 1) := by decide +kernel
theorem dX2_isHeldByOther_1 : decode cX2_isHeldByOther 1 = .ok (.iconst (-1), 1) := by decide +kernel
theorem dX2_isHeldByOther_2 : decode cX2_isHeldByOther 2 = .ok (.if_icmp .ne 7, 3) := by decide +kernel
theorem dX2_isHeldByOther_5 : decode cX2_isHeldByOther 5 = .ok (.iconst (-1), 1) := by decide +kernel
theorem dX2_isHeldByOther_6 : decode cX2_isHeldByOther 6 = .ok (.goto 8, 3) := by decide +kernel
theorem dX2_isHeldByOther_9 : decode cX2_isHeldByOther 9 = .ok (.aload_n 0, 1) := by decide +kernel
theorem dX2_isHeldByOther_10 : decode cX2_isHeldByOther 10 = .ok (.iload_n 2, 1) := by decide +kernel
theorem dX2_isHeldByOther_11 : decode cX2_isHeldByOther 11 = .ok (.invokevirtual 37, 3) := by decide +kernel
theorem dX2_isHeldByOther_14 : decode cX2_isHeldByOther 14 = .ok (.istore_n 3, 1) := by decide +kernel
theorem dX2_isHeldByOther_15 : decode cX2_isHeldByOther 15 = .ok (.iload_n 3, 1) := by decide +kernel
theorem dX2_isHeldByOther_16 : decode cX2_isHeldByOther 16 = .ok (.iconst (-1), 1) := by decide +kernel
theorem dX2_isHeldByOther_17 : decode cX2_isHeldByOther 17 = .ok (.if_icmp .eq 12, 3) := by decide +kernel
theorem dX2_isHeldByOther_20 : decode cX2_isHeldByOther 20 = .ok (.iload_n 3, 1) := by decide +kernel
theorem dX2_isHeldByOther_21 : decode cX2_isHeldByOther 21 = .ok (.iload_n 1, 1) := by decide +kernel
theorem dX2_isHeldByOther_22 : decode cX2_isHeldByOther 22 = .ok (.if_icmp .eq 7, 3) := by decide +kernel
theorem dX2_isHeldByOther_25 : decode cX2_isHeldByOther 25 = .ok (.iconst 1, 1) := by decide +kernel
theorem dX2_isHeldByOther_26 : decode cX2_isHeldByOther 26 = .ok (.goto 4, 3) := by decide +kernel
theorem dX2_isHeldByOther_29 : decode cX2_isHeldByOther 29 = .ok (.iconst 0, 1) := by decide +kernel
theorem dX2_isHeldByOther_30 : decode cX2_isHeldByOther 30 = .ok (.ireturn, 1) := by decide +kernel
theorem dX2_exchange_0 : decode cX2_exchange 0 = .ok (.aload_n 0, 1) := by decide +kernel
theorem dX2_exchange_1 : decode cX2_exchange 1 = .ok (.getfield 9, 3) := by decide +kernel
theorem dX2_exchange_4 : decode cX2_exchange 4 = .ok (.iload_n 1, 1) := by decide +kernel
theorem dX2_exchange_5 : decode cX2_exchange 5 = .ok (.iaload, 1) := by decide +kernel
theorem dX2_exchange_6 : decode cX2_exchange 6 = .ok (.istore_n 3, 1) := by decide +kernel
theorem dX2_exchange_7 : decode cX2_exchange 7 = .ok (.aload_n 0, 1) := by decide +kernel
theorem dX2_exchange_8 : decode cX2_exchange 8 = .ok (.getfield 9, 3) := by decide +kernel
theorem dX2_exchange_11 : decode cX2_exchange 11 = .ok (.iload_n 1, 1) := by decide +kernel
theorem dX2_exchange_12 : decode cX2_exchange 12 = .ok (.aload_n 0, 1) := by decide +kernel
theorem dX2_exchange_13 : decode cX2_exchange 13 = .ok (.getfield 9, 3) := by decide +kernel
theorem dX2_exchange_16 : decode cX2_exchange 16 = .ok (.iload_n 2, 1) := by decide +kernel
theorem dX2_exchange_17 : decode cX2_exchange 17 = .ok (.iaload, 1) := by decide +kernel
theorem dX2_exchange_18 : decode cX2_exchange 18 = .ok (.iastore, 1) := by decide +kernel
theorem dX2_exchange_19 : decode cX2_exchange 19 = .ok (.aload_n 0, 1) := by decide +kernel
theorem dX2_exchange_20 : decode cX2_exchange 20 = .ok (.getfield 9, 3) := by decide +kernel
theorem dX2_exchange_23 : decode cX2_exchange 23 = .ok (.iload_n 2, 1) := by decide +kernel
theorem dX2_exchange_24 : decode cX2_exchange 24 = .ok (.iload_n 3, 1) := by decide +kernel
theorem dX2_exchange_25 : decode cX2_exchange 25 = .ok (.iastore, 1) := by decide +kernel
theorem dX2_exchange_26 : decode cX2_exchange 26 = .ok (.return_, 1) := by decide +kernel
theorem dX2_doing_0 : decode cX2_doing 0 = .ok (.iconst 0, 1) := by decide +kernel
theorem dX2_doing_1 : decode cX2_doing 1 = .ok (.istore_n 2, 1) := by decide +kernel
theorem dX2_doing_2 : decode cX2_doing 2 = .ok (.iconst 1, 1) := by decide +kernel
theorem dX2_doing_3 : decode cX2_doing 3 = .ok (.istore_n 3, 1) := by decide +kernel
theorem dX2_doing_4 : decode cX2_doing 4 = .ok (.iload_n 3, 1) := by decide +kernel
theorem dX2_doing_5 : decode cX2_doing 5 = .ok (.iconst 4, 1) := by decide +kernel
theorem dX2_doing_6 : decode cX2_doing 6 = .ok (.if_icmp .ge 26, 3) := by decide +kernel
theorem dX2_doing_9 : decode cX2_doing 9 = .ok (.aload_n 0, 1) := by decide +kernel
theorem dX2_doing_10 : decode cX2_doing 10 = .ok (.iload_n 1, 1) := by decide +kernel
theorem dX2_doing_11 : decode cX2_doing 11 = .ok (.iload_n 3, 1) := by decide +kernel
theorem dX2_doing_12 : decode cX2_doing 12 = .ok (.invokevirtual 41, 3) := by decide +kernel
theorem dX2_doing_15 : decode cX2_doing 15 = .ok (.aload_n 0, 1) := by decide +kernel
theorem dX2_doing_16 : decode cX2_doing 16 = .ok (.iload_n 1, 1) := by decide +kernel
theorem dX2_doing_17 : decode cX2_doing 17 = .ok (.iload_n 2, 1) := by decide +kernel
theorem dX2_doing_18 : decode cX2_doing 18 = .ok (.invokevirtual 41, 3) := by decide +kernel
theorem dX2_doing_21 : decode cX2_doing 21 = .ok (.if_icmp .le 5, 3) := by decide +kernel
theorem dX2_doing_24 : decode cX2_doing 24 = .ok (.iload_n 3, 1) := by decide +kernel
theorem dX2_doing_25 : decode cX2_doing 25 = .ok (.istore_n 2, 1) := by decide +kernel
theorem dX2_doing_26 : decode cX2_doing 26 = .ok (.iinc 3 1, 3) := by decide +kernel
theorem dX2_doing_29 : decode cX2_doing 29 = .ok (.goto (-25), 3) := by decide +kernel
theorem dX2_doing_32 : decode cX2_doing 32 = .ok (.aload_n 0, 1) := by decide +kernel
theorem dX2_doing_33 : decode cX2_doing 33 = .ok (.iload_n 1, 1) := by decide +kernel
theorem dX2_doing_34 : decode cX2_doing 34 = .ok (.iload_n 2, 1) := by decide +kernel
theorem dX2_doing_35 : decode cX2_doing 35 = .ok (.invokevirtual 41, 3) := by decide +kernel
theorem dX2_doing_38 : decode cX2_doing 38 = .ok (.bipush 10, 2) := by decide +kernel
theorem dX2_doing_40 : decode cX2_doing 40 = .ok (.if_icmp .lt 7, 3) := by decide +kernel
theorem dX2_doing_43 : decode cX2_doing 43 = .ok (.iload_n 2, 1) := by decide +kernel
theorem dX2_doing_44 : decode cX2_doing 44 = .ok (.goto 4, 3) := by decide +kernel
theorem dX2_doing_47 : decode cX2_doing 47 = .ok (.iconst (-1), 1) := by decide +kernel
theorem dX2_doing_48 : decode cX2_doing 48 = .ok (.ireturn, 1) := by decide +kernel
theorem dX2_doers_0 : decode cX2_doers 0 = .ok (.iconst 0, 1) := by decide +kernel
theorem dX2_doers_1 : decode cX2_doers 1 = .ok (.istore_n 1, 1) := by decide +kernel
theorem dX2_doers_2 : decode cX2_doers 2 = .ok (.iconst 0, 1) := by decide +kernel
theorem dX2_doers_3 : decode cX2_doers 3 = .ok (.istore_n 2, 1) := by decide +kernel
theorem dX2_doers_4 : decode cX2_doers 4 = .ok (.iload_n 2, 1) := by decide +kernel
theorem dX2_doers_5 : decode cX2_doers 5 = .ok (.iconst 5, 1) := by decide +kernel
theorem dX2_doers_6 : decode cX2_doers 6 = .ok (.if_icmp .ge 26, 3) := by decide +kernel
theorem dX2_doers_9 : decode cX2_doers 9 = .ok (.iload_n 1, 1) := by decide +kernel
theorem dX2_doers_10 : decode cX2_doers 10 = .ok (.aload_n 0, 1) := by decide +kernel
theorem dX2_doers_11 : decode cX2_doers 11 = .ok (.iload_n 2, 1) := by decide +kernel
theorem dX2_doers_12 : decode cX2_doers 12 = .ok (.invokevirtual 45, 3) := by decide +kernel
theorem dX2_doers_15 : decode cX2_doers 15 = .ok (.iconst (-1), 1) := by decide +kernel
theorem dX2_doers_16 : decode cX2_doers 16 = .ok (.if_icmp .ne 7, 3) := by decide +kernel
theorem dX2_doers_19 : decode cX2_doers 19 = .ok (.iconst 0, 1) := by decide +kernel
theorem dX2_doers_20 : decode cX2_doers 20 = .ok (.goto 4, 3) := by decide +kernel
theorem dX2_doers_23 : decode cX2_doers 23 = .ok (.iconst 1, 1) := by decide +kernel
theorem dX2_doers_24 : decode cX2_doers 24 = .ok (.iadd, 1) := by decide +kernel
theorem dX2_doers_25 : decode cX2_doers 25 = .ok (.istore_n 1, 1) := by decide +kernel
theorem dX2_doers_26 : decode cX2_doers 26 = .ok (.iinc 2 1, 3) := by decide +kernel
theorem dX2_doers_29 : decode cX2_doers 29 = .ok (.goto (-25), 3) := by decide +kernel
theorem dX2_doers_32 : decode cX2_doers 32 = .ok (.iload_n 1, 1) := by decide +kernel
theorem dX2_doers_33 : decode cX2_doers 33 = .ok (.ireturn, 1) := by decide +kernel
theorem dX2_firstDoing_0 : decode cX2_firstDoing 0 = .ok (.iconst 0, 1) := by decide +kernel
theorem dX2_firstDoing_1 : decode cX2_firstDoing 1 = .ok (.istore_n 3, 1) := by decide +kernel
theorem dX2_firstDoing_2 : decode cX2_firstDoing 2 = .ok (.iload_n 3, 1) := by decide +kernel
theorem dX2_firstDoing_3 : decode cX2_firstDoing 3 = .ok (.iload_n 2, 1) := by decide +kernel
theorem dX2_firstDoing_4 : decode cX2_firstDoing 4 = .ok (.if_icmp .ge 20, 3) := by decide +kernel
theorem dX2_firstDoing_7 : decode cX2_firstDoing 7 = .ok (.aload_n 0, 1) := by decide +kernel
theorem dX2_firstDoing_8 : decode cX2_firstDoing 8 = .ok (.iload_n 3, 1) := by decide +kernel
theorem dX2_firstDoing_9 : decode cX2_firstDoing 9 = .ok (.invokevirtual 45, 3) := by decide +kernel
theorem dX2_firstDoing_12 : decode cX2_firstDoing 12 = .ok (.iload_n 1, 1) := by decide +kernel
theorem dX2_firstDoing_13 : decode cX2_firstDoing 13 = .ok (.if_icmp .ne 5, 3) := by decide +kernel
theorem dX2_firstDoing_16 : decode cX2_firstDoing 16 = .ok (.iload_n 3, 1) := by decide +kernel
theorem dX2_firstDoing_17 : decode cX2_firstDoing 17 = .ok (.ireturn, 1) := by decide +kernel
theorem dX2_firstDoing_18 : decode cX2_firstDoing 18 = .ok (.iinc 3 1, 3) := by decide +kernel
theorem dX2_firstDoing_21 : decode cX2_firstDoing 21 = .ok (.goto (-19), 3) := by decide +kernel
theorem dX2_firstDoing_24 : decode cX2_firstDoing 24 = .ok (.iconst (-1), 1) := by decide +kernel
theorem dX2_firstDoing_25 : decode cX2_firstDoing 25 = .ok (.ireturn, 1) := by decide +kernel
theorem dX2_whoSit_0 : decode cX2_whoSit 0 = .ok (.iconst 0, 1) := by decide +kernel
theorem dX2_whoSit_1 : decode cX2_whoSit 1 = .ok (.istore_n 1, 1) := by decide +kernel
theorem dX2_whoSit_2 : decode cX2_whoSit 2 = .ok (.iconst 0, 1) := by decide +kernel
theorem dX2_whoSit_3 : decode cX2_whoSit 3 = .ok (.istore_n 2, 1) := by decide +kernel
theorem dX2_whoSit_4 : decode cX2_whoSit 4 = .ok (.iload_n 2, 1) := by decide +kernel
theorem dX2_whoSit_5 : decode cX2_whoSit 5 = .ok (.iconst 5, 1) := by decide +kernel
theorem dX2_whoSit_6 : decode cX2_whoSit 6 = .ok (.if_icmp .ge 29, 3) := by decide +kernel
theorem dX2_whoSit_9 : decode cX2_whoSit 9 = .ok (.iload_n 1, 1) := by decide +kernel
theorem dX2_whoSit_10 : decode cX2_whoSit 10 = .ok (.aload_n 0, 1) := by decide +kernel
theorem dX2_whoSit_11 : decode cX2_whoSit 11 = .ok (.getfield 9, 3) := by decide +kernel
theorem dX2_whoSit_14 : decode cX2_whoSit 14 = .ok (.iload_n 2, 1) := by decide +kernel
theorem dX2_whoSit_15 : decode cX2_whoSit 15 = .ok (.iaload, 1) := by decide +kernel
theorem dX2_whoSit_16 : decode cX2_whoSit 16 = .ok (.iconst (-1), 1) := by decide +kernel
theorem dX2_whoSit_17 : decode cX2_whoSit 17 = .ok (.if_icmp .ne 7, 3) := by decide +kernel
theorem dX2_whoSit_20 : decode cX2_whoSit 20 = .ok (.iconst 0, 1) := by decide +kernel
theorem dX2_whoSit_21 : decode cX2_whoSit 21 = .ok (.goto 6, 3) := by decide +kernel
theorem dX2_whoSit_24 : decode cX2_whoSit 24 = .ok (.iconst 1, 1) := by decide +kernel
theorem dX2_whoSit_25 : decode cX2_whoSit 25 = .ok (.iload_n 2, 1) := by decide +kernel
theorem dX2_whoSit_26 : decode cX2_whoSit 26 = .ok (.ishl, 1) := by decide +kernel
theorem dX2_whoSit_27 : decode cX2_whoSit 27 = .ok (.ior, 1) := by decide +kernel
theorem dX2_whoSit_28 : decode cX2_whoSit 28 = .ok (.istore_n 1, 1) := by decide +kernel
theorem dX2_whoSit_29 : decode cX2_whoSit 29 = .ok (.iinc 2 1, 3) := by decide +kernel
theorem dX2_whoSit_32 : decode cX2_whoSit 32 = .ok (.goto (-28), 3) := by decide +kernel
theorem dX2_whoSit_35 : decode cX2_whoSit 35 = .ok (.iload_n 1, 1) := by decide +kernel
theorem dX2_whoSit_36 : decode cX2_whoSit 36 = .ok (.ireturn, 1) := by decide +kernel
theorem dX3_init_0 : decode cX3_init 0 = .ok (.aload_n 0, 1) := by decide +kernel
theorem dX3_init_1 : decode cX3_init 1 = .ok (.invokespecial 3, 3) := by decide +kernel
theorem dX3_init_4 : decode cX3_init 4 = .ok (.aload_n 0, 1) := by decide +kernel
theorem dX3_init_5 : decode cX3_init 5 = .ok (.iconst 5, 1) := by decide +kernel
theorem dX3_init_6 : decode cX3_init 6 = .ok (.newarray .int, 2) := by decide +kernel
theorem dX3_init_8 : decode cX3_init 8 = .ok (.putfield 9, 3) := by decide +kernel
theorem dX3_init_11 : decode cX3_init 11 = .ok (.aload_n 0, 1) := by decide +kernel
theorem dX3_init_12 : decode cX3_init 12 = .ok (.iconst 5, 1) := by decide +kernel
theorem dX3_init_13 : decode cX3_init 13 = .ok (.newarray .int, 2) := by decide +kernel
theorem dX3_init_15 : decode cX3_init 15 = .ok (.putfield 15, 3) := by decide +kernel
theorem dX3_init_18 : decode cX3_init 18 = .ok (.aload_n 0, 1) := by decide +kernel
theorem dX3_init_19 : decode cX3_init 19 = .ok (.bipush 40, 2) := by decide +kernel
theorem dX3_init_21 : decode cX3_init 21 = .ok (.newarray .int, 2) := by decide +kernel
theorem dX3_init_23 : decode cX3_init 23 = .ok (.putfield 18, 3) := by decide +kernel
theorem dX3_init_26 : decode cX3_init 26 = .ok (.aload_n 0, 1) := by decide +kernel
theorem dX3_init_27 : decode cX3_init 27 = .ok (.bipush 6, 2) := by decide +kernel
theorem dX3_init_29 : decode cX3_init 29 = .ok (.newarray .int, 2) := by decide +kernel
theorem dX3_init_31 : decode cX3_init 31 = .ok (.putfield 21, 3) := by decide +kernel
theorem dX3_init_34 : decode cX3_init 34 = .ok (.return_, 1) := by decide +kernel
theorem dX3_settle_0 : decode cX3_settle 0 = .ok (.aload_n 0, 1) := by decide +kernel
theorem dX3_settle_1 : decode cX3_settle 1 = .ok (.aload_n 1, 1) := by decide +kernel
theorem dX3_settle_2 : decode cX3_settle 2 = .ok (.getfield 24, 3) := by decide +kernel
theorem dX3_settle_5 : decode cX3_settle 5 = .ok (.putfield 30, 3) := by decide +kernel
theorem dX3_settle_8 : decode cX3_settle 8 = .ok (.aload_n 0, 1) := by decide +kernel
theorem dX3_settle_9 : decode cX3_settle 9 = .ok (.aload_n 1, 1) := by decide +kernel
theorem dX3_settle_10 : decode cX3_settle 10 = .ok (.getfield 31, 3) := by decide +kernel
theorem dX3_settle_13 : decode cX3_settle 13 = .ok (.putfield 34, 3) := by decide +kernel
theorem dX3_settle_16 : decode cX3_settle 16 = .ok (.aload_n 0, 1) := by decide +kernel
theorem dX3_settle_17 : decode cX3_settle 17 = .ok (.getfield 21, 3) := by decide +kernel
theorem dX3_settle_20 : decode cX3_settle 20 = .ok (.aload_n 0, 1) := by decide +kernel
theorem dX3_settle_21 : decode cX3_settle 21 = .ok (.getfield 34, 3) := by decide +kernel
theorem dX3_settle_24 : decode cX3_settle 24 = .ok (.iconst 0, 1) := by decide +kernel
theorem dX3_settle_25 : decode cX3_settle 25 = .ok (.iastore, 1) := by decide +kernel
theorem dX3_settle_26 : decode cX3_settle 26 = .ok (.aload_n 0, 1) := by decide +kernel
theorem dX3_settle_27 : decode cX3_settle 27 = .ok (.getfield 34, 3) := by decide +kernel
theorem dX3_settle_30 : decode cX3_settle 30 = .ok (.iconst 1, 1) := by decide +kernel
theorem dX3_settle_31 : decode cX3_settle 31 = .ok (.isub, 1) := by decide +kernel
theorem dX3_settle_32 : decode cX3_settle 32 = .ok (.istore 4, 2) := by decide +kernel
theorem dX3_settle_34 : decode cX3_settle 34 = .ok (.iload 4, 2) := by decide +kernel
theorem dX3_settle_36 : decode cX3_settle 36 = .ok (.ifCond .lt 87, 3) := by decide +kernel
theorem dX3_settle_39 : decode cX3_settle 39 = .ok (.iconst 0, 1) := by decide +kernel
theorem dX3_settle_40 : decode cX3_settle 40 = .ok (.istore 5, 2) := by decide +kernel
theorem dX3_settle_42 : decode cX3_settle 42 = .ok (.iconst (-1), 1) := by decide +kernel
theorem dX3_settle_43 : decode cX3_settle 43 = .ok (.istore 6, 2) := by decide +kernel
theorem dX3_settle_45 : decode cX3_settle 45 = .ok (.iload 6, 2) := by decide +kernel
theorem dX3_settle_47 : decode cX3_settle 47 = .ok (.aload_n 0, 1) := by decide +kernel
theorem dX3_settle_48 : decode cX3_settle 48 = .ok (.getfield 30, 3) := by decide +kernel
theorem dX3_settle_51 : decode cX3_settle 51 = .ok (.if_icmp .ge 47, 3) := by decide +kernel
theorem dX3_settle_54 : decode cX3_settle 54 = .ok (.aload_n 1, 1) := by decide +kernel
theorem dX3_settle_55 : decode cX3_settle 55 = .ok (.aload_n 2, 1) := by decide +kernel
theorem dX3_settle_56 : decode cX3_settle 56 = .ok (.iload 4, 2) := by decide +kernel
theorem dX3_settle_58 : decode cX3_settle 58 = .ok (.iload 6, 2) := by decide +kernel
theorem dX3_settle_60 : decode cX3_settle 60 = .ok (.iload_n 3, 1) := by decide +kernel
theorem dX3_settle_61 : decode cX3_settle 61 = .ok (.invokestatic 35, 3) := by decide +kernel
theorem dX3_settle_64 : decode cX3_settle 64 = .ok (.istore 7, 2) := by decide +kernel
theorem dX3_settle_66 : decode cX3_settle 66 = .ok (.aload_n 0, 1) := by decide +kernel
theorem dX3_settle_67 : decode cX3_settle 67 = .ok (.getfield 18, 3) := by decide +kernel
theorem dX3_settle_70 : decode cX3_settle 70 = .ok (.iload 4, 2) := by decide +kernel
theorem dX3_settle_72 : decode cX3_settle 72 = .ok (.bipush 8, 2) := by decide +kernel
theorem dX3_settle_74 : decode cX3_settle 74 = .ok (.imul, 1) := by decide +kernel
theorem dX3_settle_75 : decode cX3_settle 75 = .ok (.iload 6, 2) := by decide +kernel
theorem dX3_settle_77 : decode cX3_settle 77 = .ok (.iadd, 1) := by decide +kernel
theorem dX3_settle_78 : decode cX3_settle 78 = .ok (.iconst 1, 1) := by decide +kernel
theorem dX3_settle_79 : decode cX3_settle 79 = .ok (.iadd, 1) := by decide +kernel
theorem dX3_settle_80 : decode cX3_settle 80 = .ok (.iload 7, 2) := by decide +kernel
theorem dX3_settle_82 : decode cX3_settle 82 = .ok (.iastore, 1) := by decide +kernel
theorem dX3_settle_83 : decode cX3_settle 83 = .ok (.iload 5, 2) := by decide +kernel
theorem dX3_settle_85 : decode cX3_settle 85 = .ok (.iload 7, 2) := by decide +kernel
theorem dX3_settle_87 : decode cX3_settle 87 = .ok (.invokestatic 39, 3) := by decide +kernel
theorem dX3_settle_90 : decode cX3_settle 90 = .ok (.istore 5, 2) := by decide +kernel
theorem dX3_settle_92 : decode cX3_settle 92 = .ok (.iinc 6 1, 3) := by decide +kernel
theorem dX3_settle_95 : decode cX3_settle 95 = .ok (.goto (-50), 3) := by decide +kernel
theorem dX3_settle_98 : decode cX3_settle 98 = .ok (.aload_n 0, 1) := by decide +kernel
theorem dX3_settle_99 : decode cX3_settle 99 = .ok (.getfield 21, 3) := by decide +kernel
theorem dX3_settle_102 : decode cX3_settle 102 = .ok (.iload 4, 2) := by decide +kernel
theorem dX3_settle_104 : decode cX3_settle 104 = .ok (.aload_n 0, 1) := by decide +kernel
theorem dX3_settle_105 : decode cX3_settle 105 = .ok (.getfield 21, 3) := by decide +kernel
theorem dX3_settle_108 : decode cX3_settle 108 = .ok (.iload 4, 2) := by decide +kernel
theorem dX3_settle_110 : decode cX3_settle 110 = .ok (.iconst 1, 1) := by decide +kernel
theorem dX3_settle_111 : decode cX3_settle 111 = .ok (.iadd, 1) := by decide +kernel
theorem dX3_settle_112 : decode cX3_settle 112 = .ok (.iaload, 1) := by decide +kernel
theorem dX3_settle_113 : decode cX3_settle 113 = .ok (.iload 5, 2) := by decide +kernel
theorem dX3_settle_115 : decode cX3_settle 115 = .ok (.iadd, 1) := by decide +kernel
theorem dX3_settle_116 : decode cX3_settle 116 = .ok (.iastore, 1) := by decide +kernel
theorem dX3_settle_117 : decode cX3_settle 117 = .ok (.iinc 4 (-1), 3) := by decide +kernel
theorem dX3_settle_120 : decode cX3_settle 120 = .ok (.goto (-86), 3) := by decide +kernel
theorem dX3_settle_123 : decode cX3_settle 123 = .ok (.aload_n 0, 1) := by decide +kernel
theorem dX3_settle_124 : decode cX3_settle 124 = .ok (.iconst (-1), 1) := by decide +kernel
theorem dX3_settle_125 : decode cX3_settle 125 = .ok (.putfield 45, 3) := by decide +kernel
theorem dX3_settle_128 : decode cX3_settle 128 = .ok (.aload_n 0, 1) := by decide +kernel
theorem dX3_settle_129 : decode cX3_settle 129 = .ok (.iconst 0, 1) := by decide +kernel
theorem dX3_settle_130 : decode cX3_settle 130 = .ok (.iconst 0, 1) := by decide +kernel
theorem dX3_settle_131 : decode cX3_settle 131 = .ok (.iconst 0, 1) := by decide +kernel
theorem dX3_settle_132 : decode cX3_settle 132 = .ok (.invokestatic 48, 3) := by decide +kernel
theorem dX3_settle_135 : decode cX3_settle 135 = .ok (.return_, 1) := by decide +kernel
theorem dX3_wishesCome_0 : decode cX3_wishesCome 0 = .ok (.aload_n 1, 1) := by decide +kernel
theorem dX3_wishesCome_1 : decode cX3_wishesCome 1 = .ok (.aload_n 0, 1) := by decide +kernel
theorem dX3_wishesCome_2 : decode cX3_wishesCome 2 = .ok (.getfield 52, 3) := by decide +kernel
theorem dX3_wishesCome_5 : decode cX3_wishesCome 5 = .ok (.invokevirtual 56, 3) := by decide +kernel
theorem dX3_wishesCome_8 : decode cX3_wishesCome 8 = .ok (.aload_n 1, 1) := by decide +kernel
theorem dX3_wishesCome_9 : decode cX3_wishesCome 9 = .ok (.getfield 62, 3) := by decide +kernel
theorem dX3_wishesCome_12 : decode cX3_wishesCome 12 = .ok (.iload_n 2, 1) := by decide +kernel
theorem dX3_wishesCome_13 : decode cX3_wishesCome 13 = .ok (.iload_n 3, 1) := by decide +kernel
theorem dX3_wishesCome_14 : decode cX3_wishesCome 14 = .ok (.iastore, 1) := by decide +kernel
theorem dX3_wishesCome_15 : decode cX3_wishesCome 15 = .ok (.iconst 0, 1) := by decide +kernel
theorem dX3_wishesCome_16 : decode cX3_wishesCome 16 = .ok (.istore 5, 2) := by decide +kernel
theorem dX3_wishesCome_18 : decode cX3_wishesCome 18 = .ok (.iload 5, 2) := by decide +kernel
theorem dX3_wishesCome_20 : decode cX3_wishesCome 20 = .ok (.iload 4, 2) := by decide +kernel
theorem dX3_wishesCome_22 : decode cX3_wishesCome 22 = .ok (.if_icmp .ge 25, 3) := by decide +kernel
theorem dX3_wishesCome_25 : decode cX3_wishesCome 25 = .ok (.aload_n 0, 1) := by decide +kernel
theorem dX3_wishesCome_26 : decode cX3_wishesCome 26 = .ok (.aload_n 1, 1) := by decide +kernel
theorem dX3_wishesCome_27 : decode cX3_wishesCome 27 = .ok (.iload_n 2, 1) := by decide +kernel
theorem dX3_wishesCome_28 : decode cX3_wishesCome 28 = .ok (.invokevirtual 65, 3) := by decide +kernel
theorem dX3_wishesCome_31 : decode cX3_wishesCome 31 = .ok (.aload_n 1, 1) := by decide +kernel
theorem dX3_wishesCome_32 : decode cX3_wishesCome 32 = .ok (.dup, 1) := by decide +kernel
theorem dX3_wishesCome_33 : decode cX3_wishesCome 33 = .ok (.getfield 69, 3) := by decide +kernel
theorem dX3_wishesCome_36 : decode cX3_wishesCome 36 = .ok (.iconst 1, 1) := by decide +kernel
theorem dX3_wishesCome_37 : decode cX3_wishesCome 37 = .ok (.iadd, 1) := by decide +kernel
theorem dX3_wishesCome_38 : decode cX3_wishesCome 38 = .ok (.putfield 69, 3) := by decide +kernel
theorem dX3_wishesCome_41 : decode cX3_wishesCome 41 = .ok (.iinc 5 1, 3) := by decide +kernel
theorem dX3_wishesCome_44 : decode cX3_wishesCome 44 = .ok (.goto (-26), 3) := by decide +kernel
theorem dX3_wishesCome_47 : decode cX3_wishesCome 47 = .ok (.iconst 0, 1) := by decide +kernel
theorem dX3_wishesCome_48 : decode cX3_wishesCome 48 = .ok (.istore 5, 2) := by decide +kernel
theorem dX3_wishesCome_50 : decode cX3_wishesCome 50 = .ok (.iconst 0, 1) := by decide +kernel
theorem dX3_wishesCome_51 : decode cX3_wishesCome 51 = .ok (.istore 6, 2) := by decide +kernel
theorem dX3_wishesCome_53 : decode cX3_wishesCome 53 = .ok (.iload 6, 2) := by decide +kernel
theorem dX3_wishesCome_55 : decode cX3_wishesCome 55 = .ok (.aload_n 0, 1) := by decide +kernel
theorem dX3_wishesCome_56 : decode cX3_wishesCome 56 = .ok (.getfield 72, 3) := by decide +kernel
theorem dX3_wishesCome_59 : decode cX3_wishesCome 59 = .ok (.getfield 76, 3) := by decide +kernel
theorem dX3_wishesCome_62 : decode cX3_wishesCome 62 = .ok (.if_icmp .ge 73, 3) := by decide +kernel
theorem dX3_wishesCome_65 : decode cX3_wishesCome 65 = .ok (.aload_n 0, 1) := by decide +kernel
theorem dX3_wishesCome_66 : decode cX3_wishesCome 66 = .ok (.getfield 72, 3) := by decide +kernel
theorem dX3_wishesCome_69 : decode cX3_wishesCome 69 = .ok (.iload 6, 2) := by decide +kernel
theorem dX3_wishesCome_71 : decode cX3_wishesCome 71 = .ok (.iconst 0, 1) := by decide +kernel
theorem dX3_wishesCome_72 : decode cX3_wishesCome 72 = .ok (.invokevirtual 81, 3) := by decide +kernel
theorem dX3_wishesCome_75 : decode cX3_wishesCome 75 = .ok (.iload_n 2, 1) := by decide +kernel
theorem dX3_wishesCome_76 : decode cX3_wishesCome 76 = .ok (.if_icmp .ne 7, 3) := by decide +kernel
theorem dX3_wishesCome_79 : decode cX3_wishesCome 79 = .ok (.iconst 1, 1) := by decide +kernel
theorem dX3_wishesCome_80 : decode cX3_wishesCome 80 = .ok (.goto 4, 3) := by decide +kernel
theorem dX3_wishesCome_83 : decode cX3_wishesCome 83 = .ok (.iconst 0, 1) := by decide +kernel
theorem dX3_wishesCome_84 : decode cX3_wishesCome 84 = .ok (.istore 7, 2) := by decide +kernel
theorem dX3_wishesCome_86 : decode cX3_wishesCome 86 = .ok (.iload 5, 2) := by decide +kernel
theorem dX3_wishesCome_88 : decode cX3_wishesCome 88 = .ok (.iload 7, 2) := by decide +kernel
theorem dX3_wishesCome_90 : decode cX3_wishesCome 90 = .ok (.ifCond .eq 35, 3) := by decide +kernel
theorem dX3_wishesCome_93 : decode cX3_wishesCome 93 = .ok (.aload_n 1, 1) := by decide +kernel
theorem dX3_wishesCome_94 : decode cX3_wishesCome 94 = .ok (.iload_n 2, 1) := by decide +kernel
theorem dX3_wishesCome_95 : decode cX3_wishesCome 95 = .ok (.aload_n 0, 1) := by decide +kernel
theorem dX3_wishesCome_96 : decode cX3_wishesCome 96 = .ok (.getfield 72, 3) := by decide +kernel
theorem dX3_wishesCome_99 : decode cX3_wishesCome 99 = .ok (.iload 6, 2) := by decide +kernel
theorem dX3_wishesCome_101 : decode cX3_wishesCome 101 = .ok (.iconst 1, 1) := by decide +kernel
theorem dX3_wishesCome_102 : decode cX3_wishesCome 102 = .ok (.invokevirtual 81, 3) := by decide +kernel
theorem dX3_wishesCome_105 : decode cX3_wishesCome 105 = .ok (.invokevirtual 84, 3) := by decide +kernel
theorem dX3_wishesCome_108 : decode cX3_wishesCome 108 = .ok (.aload_n 0, 1) := by decide +kernel
theorem dX3_wishesCome_109 : decode cX3_wishesCome 109 = .ok (.getfield 72, 3) := by decide +kernel
theorem dX3_wishesCome_112 : decode cX3_wishesCome 112 = .ok (.iload 6, 2) := by decide +kernel
theorem dX3_wishesCome_114 : decode cX3_wishesCome 114 = .ok (.iconst 2, 1) := by decide +kernel
theorem dX3_wishesCome_115 : decode cX3_wishesCome 115 = .ok (.invokevirtual 81, 3) := by decide +kernel
theorem dX3_wishesCome_118 : decode cX3_wishesCome 118 = .ok (.if_icmp .lt 7, 3) := by decide +kernel
theorem dX3_wishesCome_121 : decode cX3_wishesCome 121 = .ok (.iconst 1, 1) := by decide +kernel
theorem dX3_wishesCome_122 : decode cX3_wishesCome 122 = .ok (.goto 4, 3) := by decide +kernel
theorem dX3_wishesCome_125 : decode cX3_wishesCome 125 = .ok (.iconst 0, 1) := by decide +kernel
theorem dX3_wishesCome_126 : decode cX3_wishesCome 126 = .ok (.iadd, 1) := by decide +kernel
theorem dX3_wishesCome_127 : decode cX3_wishesCome 127 = .ok (.istore 5, 2) := by decide +kernel
theorem dX3_wishesCome_129 : decode cX3_wishesCome 129 = .ok (.iinc 6 1, 3) := by decide +kernel
theorem dX3_wishesCome_132 : decode cX3_wishesCome 132 = .ok (.goto (-79), 3) := by decide +kernel
theorem dX3_wishesCome_135 : decode cX3_wishesCome 135 = .ok (.iload 5, 2) := by decide +kernel
theorem dX3_wishesCome_137 : decode cX3_wishesCome 137 = .ok (.ireturn, 1) := by decide +kernel
theorem dX3_tryFrom_0 : decode cX3_tryFrom 0 = .ok (.iload_n 3, 1) := by decide +kernel
theorem dX3_tryFrom_1 : decode cX3_tryFrom 1 = .ok (.aload_n 0, 1) := by decide +kernel
theorem dX3_tryFrom_2 : decode cX3_tryFrom 2 = .ok (.getfield 21, 3) := by decide +kernel
theorem dX3_tryFrom_5 : decode cX3_tryFrom 5 = .ok (.iload_n 1, 1) := by decide +kernel
theorem dX3_tryFrom_6 : decode cX3_tryFrom 6 = .ok (.iaload, 1) := by decide +kernel
theorem dX3_tryFrom_7 : decode cX3_tryFrom 7 = .ok (.iadd, 1) := by decide +kernel
theorem dX3_tryFrom_8 : decode cX3_tryFrom 8 = .ok (.aload_n 0, 1) := by decide +kernel
theorem dX3_tryFrom_9 : decode cX3_tryFrom 9 = .ok (.getfield 45, 3) := by decide +kernel
theorem dX3_tryFrom_12 : decode cX3_tryFrom 12 = .ok (.if_icmp .gt 4, 3) := by decide +kernel
theorem dX3_tryFrom_15 : decode cX3_tryFrom 15 = .ok (.return_, 1) := by decide +kernel
theorem dX3_tryFrom_16 : decode cX3_tryFrom 16 = .ok (.iload_n 1, 1) := by decide +kernel
theorem dX3_tryFrom_17 : decode cX3_tryFrom 17 = .ok (.aload_n 0, 1) := by decide +kernel
theorem dX3_tryFrom_18 : decode cX3_tryFrom 18 = .ok (.getfield 34, 3) := by decide +kernel
theorem dX3_tryFrom_21 : decode cX3_tryFrom 21 = .ok (.if_icmp .lt 23, 3) := by decide +kernel
theorem dX3_tryFrom_24 : decode cX3_tryFrom 24 = .ok (.aload_n 0, 1) := by decide +kernel
theorem dX3_tryFrom_25 : decode cX3_tryFrom 25 = .ok (.iload_n 3, 1) := by decide +kernel
theorem dX3_tryFrom_26 : decode cX3_tryFrom 26 = .ok (.putfield 45, 3) := by decide +kernel
theorem dX3_tryFrom_29 : decode cX3_tryFrom 29 = .ok (.aload_n 0, 1) := by decide +kernel
theorem dX3_tryFrom_30 : decode cX3_tryFrom 30 = .ok (.getfield 15, 3) := by decide +kernel
theorem dX3_tryFrom_33 : decode cX3_tryFrom 33 = .ok (.iconst 0, 1) := by decide +kernel
theorem dX3_tryFrom_34 : decode cX3_tryFrom 34 = .ok (.aload_n 0, 1) := by decide +kernel
theorem dX3_tryFrom_35 : decode cX3_tryFrom 35 = .ok (.getfield 9, 3) := by decide +kernel
theorem dX3_tryFrom_38 : decode cX3_tryFrom 38 = .ok (.iconst 0, 1) := by decide +kernel
theorem dX3_tryFrom_39 : decode cX3_tryFrom 39 = .ok (.iconst 5, 1) := by decide +kernel
theorem dX3_tryFrom_40 : decode cX3_tryFrom 40 = .ok (.invokestatic 87, 3) := by decide +kernel
theorem dX3_tryFrom_43 : decode cX3_tryFrom 43 = .ok (.return_, 1) := by decide +kernel
theorem dX3_tryFrom_44 : decode cX3_tryFrom 44 = .ok (.iconst (-1), 1) := by decide +kernel
theorem dX3_tryFrom_45 : decode cX3_tryFrom 45 = .ok (.istore 4, 2) := by decide +kernel
theorem dX3_tryFrom_47 : decode cX3_tryFrom 47 = .ok (.iload 4, 2) := by decide +kernel
theorem dX3_tryFrom_49 : decode cX3_tryFrom 49 = .ok (.aload_n 0, 1) := by decide +kernel
theorem dX3_tryFrom_50 : decode cX3_tryFrom 50 = .ok (.getfield 30, 3) := by decide +kernel
theorem dX3_tryFrom_53 : decode cX3_tryFrom 53 = .ok (.if_icmp .ge 67, 3) := by decide +kernel
theorem dX3_tryFrom_56 : decode cX3_tryFrom 56 = .ok (.iload 4, 2) := by decide +kernel
theorem dX3_tryFrom_58 : decode cX3_tryFrom 58 = .ok (.iconst (-1), 1) := by decide +kernel
theorem dX3_tryFrom_59 : decode cX3_tryFrom 59 = .ok (.if_icmp .ne 7, 3) := by decide +kernel
theorem dX3_tryFrom_62 : decode cX3_tryFrom 62 = .ok (.iconst 0, 1) := by decide +kernel
theorem dX3_tryFrom_63 : decode cX3_tryFrom 63 = .ok (.goto 7, 3) := by decide +kernel
theorem dX3_tryFrom_66 : decode cX3_tryFrom 66 = .ok (.iconst 1, 1) := by decide +kernel
theorem dX3_tryFrom_67 : decode cX3_tryFrom 67 = .ok (.iload 4, 2) := by decide +kernel
theorem dX3_tryFrom_69 : decode cX3_tryFrom 69 = .ok (.ishl, 1) := by decide +kernel
theorem dX3_tryFrom_70 : decode cX3_tryFrom 70 = .ok (.istore 5, 2) := by decide +kernel
theorem dX3_tryFrom_72 : decode cX3_tryFrom 72 = .ok (.iload_n 2, 1) := by decide +kernel
theorem dX3_tryFrom_73 : decode cX3_tryFrom 73 = .ok (.iload 5, 2) := by decide +kernel
theorem dX3_tryFrom_75 : decode cX3_tryFrom 75 = .ok (.iand, 1) := by decide +kernel
theorem dX3_tryFrom_76 : decode cX3_tryFrom 76 = .ok (.ifCond .ne 38, 3) := by decide +kernel
theorem dX3_tryFrom_79 : decode cX3_tryFrom 79 = .ok (.aload_n 0, 1) := by decide +kernel
theorem dX3_tryFrom_80 : decode cX3_tryFrom 80 = .ok (.getfield 15, 3) := by decide +kernel
theorem dX3_tryFrom_83 : decode cX3_tryFrom 83 = .ok (.iload_n 1, 1) := by decide +kernel
theorem dX3_tryFrom_84 : decode cX3_tryFrom 84 = .ok (.iload 4, 2) := by decide +kernel
theorem dX3_tryFrom_86 : decode cX3_tryFrom 86 = .ok (.iastore, 1) := by decide +kernel
theorem dX3_tryFrom_87 : decode cX3_tryFrom 87 = .ok (.aload_n 0, 1) := by decide +kernel
theorem dX3_tryFrom_88 : decode cX3_tryFrom 88 = .ok (.iload_n 1, 1) := by decide +kernel
theorem dX3_tryFrom_89 : decode cX3_tryFrom 89 = .ok (.iconst 1, 1) := by decide +kernel
theorem dX3_tryFrom_90 : decode cX3_tryFrom 90 = .ok (.iadd, 1) := by decide +kernel
theorem dX3_tryFrom_91 : decode cX3_tryFrom 91 = .ok (.iload_n 2, 1) := by decide +kernel
theorem dX3_tryFrom_92 : decode cX3_tryFrom 92 = .ok (.iload 5, 2) := by decide +kernel
theorem dX3_tryFrom_94 : decode cX3_tryFrom 94 = .ok (.ior, 1) := by decide +kernel
theorem dX3_tryFrom_95 : decode cX3_tryFrom 95 = .ok (.iload_n 3, 1) := by decide +kernel
theorem dX3_tryFrom_96 : decode cX3_tryFrom 96 = .ok (.aload_n 0, 1) := by decide +kernel
theorem dX3_tryFrom_97 : decode cX3_tryFrom 97 = .ok (.getfield 18, 3) := by decide +kernel
theorem dX3_tryFrom_100 : decode cX3_tryFrom 100 = .ok (.iload_n 1, 1) := by decide +kernel
theorem dX3_tryFrom_101 : decode cX3_tryFrom 101 = .ok (.bipush 8, 2) := by decide +kernel
theorem dX3_tryFrom_103 : decode cX3_tryFrom 103 = .ok (.imul, 1) := by decide +kernel
theorem dX3_tryFrom_104 : decode cX3_tryFrom 104 = .ok (.iload 4, 2) := by decide +kernel
theorem dX3_tryFrom_106 : decode cX3_tryFrom 106 = .ok (.iadd, 1) := by decide +kernel
theorem dX3_tryFrom_107 : decode cX3_tryFrom 107 = .ok (.iconst 1, 1) := by decide +kernel
theorem dX3_tryFrom_108 : decode cX3_tryFrom 108 = .ok (.iadd, 1) := by decide +kernel
theorem dX3_tryFrom_109 : decode cX3_tryFrom 109 = .ok (.iaload, 1) := by decide +kernel
theorem dX3_tryFrom_110 : decode cX3_tryFrom 110 = .ok (.iadd, 1) := by decide +kernel
theorem dX3_tryFrom_111 : decode cX3_tryFrom 111 = .ok (.invokestatic 48, 3) := by decide +kernel
theorem dX3_tryFrom_114 : decode cX3_tryFrom 114 = .ok (.iinc 4 1, 3) := by decide +kernel
theorem dX3_tryFrom_117 : decode cX3_tryFrom 117 = .ok (.goto (-70), 3) := by decide +kernel
theorem dX3_tryFrom_120 : decode cX3_tryFrom 120 = .ok (.return_, 1) := by decide +kernel
theorem dX4_init_0 : decode cX4_init 0 = .ok (.aload_n 0, 1) := by decide +kernel
theorem dX4_init_1 : decode cX4_init 1 = .ok (.invokespecial 3, 3) := by decide +kernel
theorem dX4_init_4 : decode cX4_init 4 = .ok (.aload_n 0, 1) := by decide +kernel
theorem dX4_init_5 : decode cX4_init 5 = .ok (.sipush 150, 3) := by decide +kernel
theorem dX4_init_8 : decode cX4_init 8 = .ok (.newarray .byte, 2) := by decide +kernel
theorem dX4_init_10 : decode cX4_init 10 = .ok (.putfield 11, 3) := by decide +kernel
theorem dX4_init_13 : decode cX4_init 13 = .ok (.aload_n 0, 1) := by decide +kernel
theorem dX4_init_14 : decode cX4_init 14 = .ok (.iconst 3, 1) := by decide +kernel
theorem dX4_init_15 : decode cX4_init 15 = .ok (.newarray .int, 2) := by decide +kernel
theorem dX4_init_17 : decode cX4_init 17 = .ok (.putfield 15, 3) := by decide +kernel
theorem dX4_init_20 : decode cX4_init 20 = .ok (.return_, 1) := by decide +kernel
theorem dX4_tell_0 : decode cX4_tell 0 = .ok (.aload_n 1, 1) := by decide +kernel
theorem dX4_tell_1 : decode cX4_tell 1 = .ok (.invokevirtual 19, 3) := by decide +kernel
theorem dX4_tell_4 : decode cX4_tell 4 = .ok (.aload_n 0, 1) := by decide +kernel
theorem dX4_tell_5 : decode cX4_tell 5 = .ok (.iconst 0, 1) := by decide +kernel
theorem dX4_tell_6 : decode cX4_tell 6 = .ok (.putfield 24, 3) := by decide +kernel
theorem dX4_tell_9 : decode cX4_tell 9 = .ok (.iconst 0, 1) := by decide +kernel
theorem dX4_tell_10 : decode cX4_tell 10 = .ok (.istore_n 2, 1) := by decide +kernel
theorem dX4_tell_11 : decode cX4_tell 11 = .ok (.iload_n 2, 1) := by decide +kernel
theorem dX4_tell_12 : decode cX4_tell 12 = .ok (.sipush 150, 3) := by decide +kernel
theorem dX4_tell_15 : decode cX4_tell 15 = .ok (.if_icmp .gt 161, 3) := by decide +kernel
theorem dX4_tell_18 : decode cX4_tell 18 = .ok (.aload_n 0, 1) := by decide +kernel
theorem dX4_tell_19 : decode cX4_tell 19 = .ok (.invokevirtual 28, 3) := by decide +kernel
theorem dX4_tell_22 : decode cX4_tell 22 = .ok (.aload_n 0, 1) := by decide +kernel
theorem dX4_tell_23 : decode cX4_tell 23 = .ok (.getfield 31, 3) := by decide +kernel
theorem dX4_tell_26 : decode cX4_tell 26 = .ok (.ifCond .ne 9, 3) := by decide +kernel
theorem dX4_tell_29 : decode cX4_tell 29 = .ok (.iload_n 2, 1) := by decide +kernel
theorem dX4_tell_30 : decode cX4_tell 30 = .ok (.ifCond .le 5, 3) := by decide +kernel
theorem dX4_tell_33 : decode cX4_tell 33 = .ok (.iload_n 2, 1) := by decide +kernel
theorem dX4_tell_34 : decode cX4_tell 34 = .ok (.ireturn, 1) := by decide +kernel
theorem dX4_tell_35 : decode cX4_tell 35 = .ok (.aload_n 0, 1) := by decide +kernel
theorem dX4_tell_36 : decode cX4_tell 36 = .ok (.aload_n 1, 1) := by decide +kernel
theorem dX4_tell_37 : decode cX4_tell 37 = .ok (.iload_n 2, 1) := by decide +kernel
theorem dX4_tell_38 : decode cX4_tell 38 = .ok (.ifCond .ne 7, 3) := by decide +kernel
theorem dX4_tell_41 : decode cX4_tell 41 = .ok (.iconst 1, 1) := by decide +kernel
theorem dX4_tell_42 : decode cX4_tell 42 = .ok (.goto 4, 3) := by decide +kernel
theorem dX4_tell_45 : decode cX4_tell 45 = .ok (.iconst 0, 1) := by decide +kernel
theorem dX4_tell_46 : decode cX4_tell 46 = .ok (.invokevirtual 34, 3) := by decide +kernel
theorem dX4_tell_49 : decode cX4_tell 49 = .ok (.ifCond .ne 5, 3) := by decide +kernel
theorem dX4_tell_52 : decode cX4_tell 52 = .ok (.iconst (-1), 1) := by decide +kernel
theorem dX4_tell_53 : decode cX4_tell 53 = .ok (.ireturn, 1) := by decide +kernel
theorem dX4_tell_54 : decode cX4_tell 54 = .ok (.aload_n 0, 1) := by decide +kernel
theorem dX4_tell_55 : decode cX4_tell 55 = .ok (.getfield 38, 3) := by decide +kernel
theorem dX4_tell_58 : decode cX4_tell 58 = .ok (.tableswitch 112 1 4 #[30, 56, 76, 99], 30) := by decide +kernel
theorem dX4_tell_88 : decode cX4_tell 88 = .ok (.aload_n 1, 1) := by decide +kernel
theorem dX4_tell_89 : decode cX4_tell 89 = .ok (.aload_n 0, 1) := by decide +kernel
theorem dX4_tell_90 : decode cX4_tell 90 = .ok (.getfield 15, 3) := by decide +kernel
theorem dX4_tell_93 : decode cX4_tell 93 = .ok (.iconst 0, 1) := by decide +kernel
theorem dX4_tell_94 : decode cX4_tell 94 = .ok (.iaload, 1) := by decide +kernel
theorem dX4_tell_95 : decode cX4_tell 95 = .ok (.aload_n 0, 1) := by decide +kernel
theorem dX4_tell_96 : decode cX4_tell 96 = .ok (.getfield 15, 3) := by decide +kernel
theorem dX4_tell_99 : decode cX4_tell 99 = .ok (.iconst 1, 1) := by decide +kernel
theorem dX4_tell_100 : decode cX4_tell 100 = .ok (.iaload, 1) := by decide +kernel
theorem dX4_tell_101 : decode cX4_tell 101 = .ok (.aload_n 0, 1) := by decide +kernel
theorem dX4_tell_102 : decode cX4_tell 102 = .ok (.getfield 15, 3) := by decide +kernel
theorem dX4_tell_105 : decode cX4_tell 105 = .ok (.iconst 2, 1) := by decide +kernel
theorem dX4_tell_106 : decode cX4_tell 106 = .ok (.iaload, 1) := by decide +kernel
theorem dX4_tell_107 : decode cX4_tell 107 = .ok (.invokevirtual 41, 3) := by decide +kernel
theorem dX4_tell_110 : decode cX4_tell 110 = .ok (.pop, 1) := by decide +kernel
theorem dX4_tell_111 : decode cX4_tell 111 = .ok (.goto 59, 3) := by decide +kernel
theorem dX4_tell_114 : decode cX4_tell 114 = .ok (.aload_n 1, 1) := by decide +kernel
theorem dX4_tell_115 : decode cX4_tell 115 = .ok (.aload_n 0, 1) := by decide +kernel
theorem dX4_tell_116 : decode cX4_tell 116 = .ok (.getfield 15, 3) := by decide +kernel
theorem dX4_tell_119 : decode cX4_tell 119 = .ok (.iconst 0, 1) := by decide +kernel
theorem dX4_tell_120 : decode cX4_tell 120 = .ok (.iaload, 1) := by decide +kernel
theorem dX4_tell_121 : decode cX4_tell 121 = .ok (.aload_n 0, 1) := by decide +kernel
theorem dX4_tell_122 : decode cX4_tell 122 = .ok (.getfield 15, 3) := by decide +kernel
theorem dX4_tell_125 : decode cX4_tell 125 = .ok (.iconst 1, 1) := by decide +kernel
theorem dX4_tell_126 : decode cX4_tell 126 = .ok (.iaload, 1) := by decide +kernel
theorem dX4_tell_127 : decode cX4_tell 127 = .ok (.invokevirtual 45, 3) := by decide +kernel
theorem dX4_tell_130 : decode cX4_tell 130 = .ok (.pop, 1) := by decide +kernel
theorem dX4_tell_131 : decode cX4_tell 131 = .ok (.goto 39, 3) := by decide +kernel
theorem dX4_tell_134 : decode cX4_tell 134 = .ok (.aload_n 1, 1) := by decide +kernel
theorem dX4_tell_135 : decode cX4_tell 135 = .ok (.getfield 49, 3) := by decide +kernel
theorem dX4_tell_138 : decode cX4_tell 138 = .ok (.getfield 53, 3) := by decide +kernel
theorem dX4_tell_141 : decode cX4_tell 141 = .ok (.aload_n 0, 1) := by decide +kernel
theorem dX4_tell_142 : decode cX4_tell 142 = .ok (.getfield 15, 3) := by decide +kernel
theorem dX4_tell_145 : decode cX4_tell 145 = .ok (.iconst 0, 1) := by decide +kernel
theorem dX4_tell_146 : decode cX4_tell 146 = .ok (.iaload, 1) := by decide +kernel
theorem dX4_tell_147 : decode cX4_tell 147 = .ok (.aload_n 0, 1) := by decide +kernel
theorem dX4_tell_148 : decode cX4_tell 148 = .ok (.getfield 15, 3) := by decide +kernel
theorem dX4_tell_151 : decode cX4_tell 151 = .ok (.iconst 1, 1) := by decide +kernel
theorem dX4_tell_152 : decode cX4_tell 152 = .ok (.iaload, 1) := by decide +kernel
theorem dX4_tell_153 : decode cX4_tell 153 = .ok (.iastore, 1) := by decide +kernel
theorem dX4_tell_154 : decode cX4_tell 154 = .ok (.goto 16, 3) := by decide +kernel
theorem dX4_tell_157 : decode cX4_tell 157 = .ok (.aload_n 1, 1) := by decide +kernel
theorem dX4_tell_158 : decode cX4_tell 158 = .ok (.aload_n 0, 1) := by decide +kernel
theorem dX4_tell_159 : decode cX4_tell 159 = .ok (.getfield 15, 3) := by decide +kernel
theorem dX4_tell_162 : decode cX4_tell 162 = .ok (.iconst 0, 1) := by decide +kernel
theorem dX4_tell_163 : decode cX4_tell 163 = .ok (.iaload, 1) := by decide +kernel
theorem dX4_tell_164 : decode cX4_tell 164 = .ok (.invokevirtual 58, 3) := by decide +kernel
theorem dX4_tell_167 : decode cX4_tell 167 = .ok (.goto 3, 3) := by decide +kernel
theorem dX4_tell_170 : decode cX4_tell 170 = .ok (.iinc 2 1, 3) := by decide +kernel
theorem dX4_tell_173 : decode cX4_tell 173 = .ok (.goto (-162), 3) := by decide +kernel
theorem dX4_tell_176 : decode cX4_tell 176 = .ok (.iconst (-1), 1) := by decide +kernel
theorem dX4_tell_177 : decode cX4_tell 177 = .ok (.ireturn, 1) := by decide +kernel
theorem dX4_takeItem_0 : decode cX4_takeItem 0 = .ok (.aload_n 0, 1) := by decide +kernel
theorem dX4_takeItem_1 : decode cX4_takeItem 1 = .ok (.aload_n 0, 1) := by decide +kernel
theorem dX4_takeItem_2 : decode cX4_takeItem 2 = .ok (.getfield 31, 3) := by decide +kernel
theorem dX4_takeItem_5 : decode cX4_takeItem 5 = .ok (.iconst 1, 1) := by decide +kernel
theorem dX4_takeItem_6 : decode cX4_takeItem 6 = .ok (.if_icmp .ne 10, 3) := by decide +kernel
theorem dX4_takeItem_9 : decode cX4_takeItem 9 = .ok (.aload_n 0, 1) := by decide +kernel
theorem dX4_takeItem_10 : decode cX4_takeItem 10 = .ok (.invokevirtual 62, 3) := by decide +kernel
theorem dX4_takeItem_13 : decode cX4_takeItem 13 = .ok (.goto 4, 3) := by decide +kernel
theorem dX4_takeItem_16 : decode cX4_takeItem 16 = .ok (.iconst (-1), 1) := by decide +kernel
theorem dX4_takeItem_17 : decode cX4_takeItem 17 = .ok (.putfield 38, 3) := by decide +kernel
theorem dX4_takeItem_20 : decode cX4_takeItem 20 = .ok (.iload_n 2, 1) := by decide +kernel
theorem dX4_takeItem_21 : decode cX4_takeItem 21 = .ok (.aload_n 0, 1) := by decide +kernel
theorem dX4_takeItem_22 : decode cX4_takeItem 22 = .ok (.getfield 38, 3) := by decide +kernel
theorem dX4_takeItem_25 : decode cX4_takeItem 25 = .ok (.ifCond .ne 7, 3) := by decide +kernel
theorem dX4_takeItem_28 : decode cX4_takeItem 28 = .ok (.iconst 1, 1) := by decide +kernel
theorem dX4_takeItem_29 : decode cX4_takeItem 29 = .ok (.goto 4, 3) := by decide +kernel
theorem dX4_takeItem_32 : decode cX4_takeItem 32 = .ok (.iconst 0, 1) := by decide +kernel
theorem dX4_takeItem_33 : decode cX4_takeItem 33 = .ok (.if_icmp .eq 5, 3) := by decide +kernel
theorem dX4_takeItem_36 : decode cX4_takeItem 36 = .ok (.iconst 0, 1) := by decide +kernel
theorem dX4_takeItem_37 : decode cX4_takeItem 37 = .ok (.ireturn, 1) := by decide +kernel
theorem dX4_takeItem_38 : decode cX4_takeItem 38 = .ok (.aload_n 0, 1) := by decide +kernel
theorem dX4_takeItem_39 : decode cX4_takeItem 39 = .ok (.getfield 38, 3) := by decide +kernel
theorem dX4_takeItem_42 : decode cX4_takeItem 42 = .ok (.tableswitch 223 0 4 #[34, 39, 92, 134, 199], 34) := by decide +kernel
theorem dX4_takeItem_76 : decode cX4_takeItem 76 = .ok (.aload_n 0, 1) := by decide +kernel
theorem dX4_takeItem_77 : decode cX4_takeItem 77 = .ok (.invokevirtual 66, 3) := by decide +kernel
theorem dX4_takeItem_80 : decode cX4_takeItem 80 = .ok (.ireturn, 1) := by decide +kernel
theorem dX4_takeItem_81 : decode cX4_takeItem 81 = .ok (.aload_n 1, 1) := by decide +kernel
theorem dX4_takeItem_82 : decode cX4_takeItem 82 = .ok (.getfield 70, 3) := by decide +kernel
theorem dX4_takeItem_85 : decode cX4_takeItem 85 = .ok (.bipush 7, 2) := by decide +kernel
theorem dX4_takeItem_87 : decode cX4_takeItem 87 = .ok (.if_icmp .ge 45, 3) := by decide +kernel
theorem dX4_takeItem_90 : decode cX4_takeItem 90 = .ok (.aload_n 0, 1) := by decide +kernel
theorem dX4_takeItem_91 : decode cX4_takeItem 91 = .ok (.iconst 0, 1) := by decide +kernel
theorem dX4_takeItem_92 : decode cX4_takeItem 92 = .ok (.iconst 0, 1) := by decide +kernel
theorem dX4_takeItem_93 : decode cX4_takeItem 93 = .ok (.iconst 5, 1) := by decide +kernel
theorem dX4_takeItem_94 : decode cX4_takeItem 94 = .ok (.invokevirtual 73, 3) := by decide +kernel
theorem dX4_takeItem_97 : decode cX4_takeItem 97 = .ok (.ifCond .eq 35, 3) := by decide +kernel
theorem dX4_takeItem_100 : decode cX4_takeItem 100 = .ok (.aload_n 0, 1) := by decide +kernel
theorem dX4_takeItem_101 : decode cX4_takeItem 101 = .ok (.iconst 1, 1) := by decide +kernel
theorem dX4_takeItem_102 : decode cX4_takeItem 102 = .ok (.iconst 0, 1) := by decide +kernel
theorem dX4_takeItem_103 : decode cX4_takeItem 103 = .ok (.iconst 3, 1) := by decide +kernel
theorem dX4_takeItem_104 : decode cX4_takeItem 104 = .ok (.invokevirtual 73, 3) := by decide +kernel
theorem dX4_takeItem_107 : decode cX4_takeItem 107 = .ok (.ifCond .eq 25, 3) := by decide +kernel
theorem dX4_takeItem_110 : decode cX4_takeItem 110 = .ok (.aload_n 0, 1) := by decide +kernel
theorem dX4_takeItem_111 : decode cX4_takeItem 111 = .ok (.iconst 2, 1) := by decide +kernel
theorem dX4_takeItem_112 : decode cX4_takeItem 112 = .ok (.iconst 0, 1) := by decide +kernel
theorem dX4_takeItem_113 : decode cX4_takeItem 113 = .ok (.bipush 40, 2) := by decide +kernel
theorem dX4_takeItem_115 : decode cX4_takeItem 115 = .ok (.invokevirtual 73, 3) := by decide +kernel
theorem dX4_takeItem_118 : decode cX4_takeItem 118 = .ok (.ifCond .eq 14, 3) := by decide +kernel
theorem dX4_takeItem_121 : decode cX4_takeItem 121 = .ok (.aload_n 0, 1) := by decide +kernel
theorem dX4_takeItem_122 : decode cX4_takeItem 122 = .ok (.invokevirtual 66, 3) := by decide +kernel
theorem dX4_takeItem_125 : decode cX4_takeItem 125 = .ok (.ifCond .eq 7, 3) := by decide +kernel
theorem dX4_takeItem_128 : decode cX4_takeItem 128 = .ok (.iconst 1, 1) := by decide +kernel
theorem dX4_takeItem_129 : decode cX4_takeItem 129 = .ok (.goto 4, 3) := by decide +kernel
theorem dX4_takeItem_132 : decode cX4_takeItem 132 = .ok (.iconst 0, 1) := by decide +kernel
theorem dX4_takeItem_133 : decode cX4_takeItem 133 = .ok (.ireturn, 1) := by decide +kernel
theorem dX4_takeItem_134 : decode cX4_takeItem 134 = .ok (.aload_n 1, 1) := by decide +kernel
theorem dX4_takeItem_135 : decode cX4_takeItem 135 = .ok (.getfield 77, 3) := by decide +kernel
theorem dX4_takeItem_138 : decode cX4_takeItem 138 = .ok (.iconst 5, 1) := by decide +kernel
theorem dX4_takeItem_139 : decode cX4_takeItem 139 = .ok (.if_icmp .ge 35, 3) := by decide +kernel
theorem dX4_takeItem_142 : decode cX4_takeItem 142 = .ok (.aload_n 0, 1) := by decide +kernel
theorem dX4_takeItem_143 : decode cX4_takeItem 143 = .ok (.iconst 0, 1) := by decide +kernel
theorem dX4_takeItem_144 : decode cX4_takeItem 144 = .ok (.iconst 0, 1) := by decide +kernel
theorem dX4_takeItem_145 : decode cX4_takeItem 145 = .ok (.iconst 5, 1) := by decide +kernel
theorem dX4_takeItem_146 : decode cX4_takeItem 146 = .ok (.invokevirtual 73, 3) := by decide +kernel
theorem dX4_takeItem_149 : decode cX4_takeItem 149 = .ok (.ifCond .eq 25, 3) := by decide +kernel
theorem dX4_takeItem_152 : decode cX4_takeItem 152 = .ok (.aload_n 0, 1) := by decide +kernel
theorem dX4_takeItem_153 : decode cX4_takeItem 153 = .ok (.iconst 1, 1) := by decide +kernel
theorem dX4_takeItem_154 : decode cX4_takeItem 154 = .ok (.iconst 1, 1) := by decide +kernel
theorem dX4_takeItem_155 : decode cX4_takeItem 155 = .ok (.bipush 9, 2) := by decide +kernel
theorem dX4_takeItem_157 : decode cX4_takeItem 157 = .ok (.invokevirtual 73, 3) := by decide +kernel
theorem dX4_takeItem_160 : decode cX4_takeItem 160 = .ok (.ifCond .eq 14, 3) := by decide +kernel
theorem dX4_takeItem_163 : decode cX4_takeItem 163 = .ok (.aload_n 0, 1) := by decide +kernel
theorem dX4_takeItem_164 : decode cX4_takeItem 164 = .ok (.invokevirtual 66, 3) := by decide +kernel
theorem dX4_takeItem_167 : decode cX4_takeItem 167 = .ok (.ifCond .eq 7, 3) := by decide +kernel
theorem dX4_takeItem_170 : decode cX4_takeItem 170 = .ok (.iconst 1, 1) := by decide +kernel
theorem dX4_takeItem_171 : decode cX4_takeItem 171 = .ok (.goto 4, 3) := by decide +kernel
theorem dX4_takeItem_174 : decode cX4_takeItem 174 = .ok (.iconst 0, 1) := by decide +kernel
theorem dX4_takeItem_175 : decode cX4_takeItem 175 = .ok (.ireturn, 1) := by decide +kernel
theorem dX4_takeItem_176 : decode cX4_takeItem 176 = .ok (.aload_n 0, 1) := by decide +kernel
theorem dX4_takeItem_177 : decode cX4_takeItem 177 = .ok (.iconst 0, 1) := by decide +kernel
theorem dX4_takeItem_178 : decode cX4_takeItem 178 = .ok (.iconst 0, 1) := by decide +kernel
theorem dX4_takeItem_179 : decode cX4_takeItem 179 = .ok (.aload_n 1, 1) := by decide +kernel
theorem dX4_takeItem_180 : decode cX4_takeItem 180 = .ok (.getfield 77, 3) := by decide +kernel
theorem dX4_takeItem_183 : decode cX4_takeItem 183 = .ok (.iconst 1, 1) := by decide +kernel
theorem dX4_takeItem_184 : decode cX4_takeItem 184 = .ok (.isub, 1) := by decide +kernel
theorem dX4_takeItem_185 : decode cX4_takeItem 185 = .ok (.invokevirtual 73, 3) := by decide +kernel
theorem dX4_takeItem_188 : decode cX4_takeItem 188 = .ok (.ifCond .eq 51, 3) := by decide +kernel
theorem dX4_takeItem_191 : decode cX4_takeItem 191 = .ok (.aload_n 0, 1) := by decide +kernel
theorem dX4_takeItem_192 : decode cX4_takeItem 192 = .ok (.iconst 1, 1) := by decide +kernel
theorem dX4_takeItem_193 : decode cX4_takeItem 193 = .ok (.iconst 0, 1) := by decide +kernel
theorem dX4_takeItem_194 : decode cX4_takeItem 194 = .ok (.aload_n 1, 1) := by decide +kernel
theorem dX4_takeItem_195 : decode cX4_takeItem 195 = .ok (.getfield 70, 3) := by decide +kernel
theorem dX4_takeItem_198 : decode cX4_takeItem 198 = .ok (.iconst 1, 1) := by decide +kernel
theorem dX4_takeItem_199 : decode cX4_takeItem 199 = .ok (.isub, 1) := by decide +kernel
theorem dX4_takeItem_200 : decode cX4_takeItem 200 = .ok (.invokevirtual 73, 3) := by decide +kernel
theorem dX4_takeItem_203 : decode cX4_takeItem 203 = .ok (.ifCond .eq 36, 3) := by decide +kernel
theorem dX4_takeItem_206 : decode cX4_takeItem 206 = .ok (.aload_n 1, 1) := by decide +kernel
theorem dX4_takeItem_207 : decode cX4_takeItem 207 = .ok (.getfield 49, 3) := by decide +kernel
theorem dX4_takeItem_210 : decode cX4_takeItem 210 = .ok (.aload_n 0, 1) := by decide +kernel
theorem dX4_takeItem_211 : decode cX4_takeItem 211 = .ok (.getfield 15, 3) := by decide +kernel
theorem dX4_takeItem_214 : decode cX4_takeItem 214 = .ok (.iconst 0, 1) := by decide +kernel
theorem dX4_takeItem_215 : decode cX4_takeItem 215 = .ok (.iaload, 1) := by decide +kernel
theorem dX4_takeItem_216 : decode cX4_takeItem 216 = .ok (.aload_n 0, 1) := by decide +kernel
theorem dX4_takeItem_217 : decode cX4_takeItem 217 = .ok (.getfield 15, 3) := by decide +kernel
theorem dX4_takeItem_220 : decode cX4_takeItem 220 = .ok (.iconst 1, 1) := by decide +kernel
theorem dX4_takeItem_221 : decode cX4_takeItem 221 = .ok (.iaload, 1) := by decide +kernel
theorem dX4_takeItem_222 : decode cX4_takeItem 222 = .ok (.invokevirtual 80, 3) := by decide +kernel
theorem dX4_takeItem_225 : decode cX4_takeItem 225 = .ok (.ifCond .ne 14, 3) := by decide +kernel
theorem dX4_takeItem_228 : decode cX4_takeItem 228 = .ok (.aload_n 0, 1) := by decide +kernel
theorem dX4_takeItem_229 : decode cX4_takeItem 229 = .ok (.invokevirtual 66, 3) := by decide +kernel
theorem dX4_takeItem_232 : decode cX4_takeItem 232 = .ok (.ifCond .eq 7, 3) := by decide +kernel
theorem dX4_takeItem_235 : decode cX4_takeItem 235 = .ok (.iconst 1, 1) := by decide +kernel
theorem dX4_takeItem_236 : decode cX4_takeItem 236 = .ok (.goto 4, 3) := by decide +kernel
theorem dX4_takeItem_239 : decode cX4_takeItem 239 = .ok (.iconst 0, 1) := by decide +kernel
theorem dX4_takeItem_240 : decode cX4_takeItem 240 = .ok (.ireturn, 1) := by decide +kernel
theorem dX4_takeItem_241 : decode cX4_takeItem 241 = .ok (.aload_n 0, 1) := by decide +kernel
theorem dX4_takeItem_242 : decode cX4_takeItem 242 = .ok (.iconst 0, 1) := by decide +kernel
theorem dX4_takeItem_243 : decode cX4_takeItem 243 = .ok (.iconst 1, 1) := by decide +kernel
theorem dX4_takeItem_244 : decode cX4_takeItem 244 = .ok (.bipush 30, 2) := by decide +kernel
theorem dX4_takeItem_246 : decode cX4_takeItem 246 = .ok (.invokevirtual 73, 3) := by decide +kernel
theorem dX4_takeItem_249 : decode cX4_takeItem 249 = .ok (.ifCond .eq 14, 3) := by decide +kernel
theorem dX4_takeItem_252 : decode cX4_takeItem 252 = .ok (.aload_n 0, 1) := by decide +kernel
theorem dX4_takeItem_253 : decode cX4_takeItem 253 = .ok (.invokevirtual 66, 3) := by decide +kernel
theorem dX4_takeItem_256 : decode cX4_takeItem 256 = .ok (.ifCond .eq 7, 3) := by decide +kernel
theorem dX4_takeItem_259 : decode cX4_takeItem 259 = .ok (.iconst 1, 1) := by decide +kernel
theorem dX4_takeItem_260 : decode cX4_takeItem 260 = .ok (.goto 4, 3) := by decide +kernel
theorem dX4_takeItem_263 : decode cX4_takeItem 263 = .ok (.iconst 0, 1) := by decide +kernel
theorem dX4_takeItem_264 : decode cX4_takeItem 264 = .ok (.ireturn, 1) := by decide +kernel
theorem dX4_takeItem_265 : decode cX4_takeItem 265 = .ok (.iconst 0, 1) := by decide +kernel
theorem dX4_takeItem_266 : decode cX4_takeItem 266 = .ok (.ireturn, 1) := by decide +kernel
theorem dX4_takeNumber_0 : decode cX4_takeNumber 0 = .ok (.aload_n 0, 1) := by decide +kernel
theorem dX4_takeNumber_1 : decode cX4_takeNumber 1 = .ok (.invokevirtual 28, 3) := by decide +kernel
theorem dX4_takeNumber_4 : decode cX4_takeNumber 4 = .ok (.aload_n 0, 1) := by decide +kernel
theorem dX4_takeNumber_5 : decode cX4_takeNumber 5 = .ok (.getfield 15, 3) := by decide +kernel
theorem dX4_takeNumber_8 : decode cX4_takeNumber 8 = .ok (.iload_n 1, 1) := by decide +kernel
theorem dX4_takeNumber_9 : decode cX4_takeNumber 9 = .ok (.aload_n 0, 1) := by decide +kernel
theorem dX4_takeNumber_10 : decode cX4_takeNumber 10 = .ok (.getfield 84, 3) := by decide +kernel
theorem dX4_takeNumber_13 : decode cX4_takeNumber 13 = .ok (.iastore, 1) := by decide +kernel
theorem dX4_takeNumber_14 : decode cX4_takeNumber 14 = .ok (.aload_n 0, 1) := by decide +kernel
theorem dX4_takeNumber_15 : decode cX4_takeNumber 15 = .ok (.getfield 31, 3) := by decide +kernel
theorem dX4_takeNumber_18 : decode cX4_takeNumber 18 = .ok (.iconst 2, 1) := by decide +kernel
theorem dX4_takeNumber_19 : decode cX4_takeNumber 19 = .ok (.if_icmp .ne 19, 3) := by decide +kernel
theorem dX4_takeNumber_22 : decode cX4_takeNumber 22 = .ok (.aload_n 0, 1) := by decide +kernel
theorem dX4_takeNumber_23 : decode cX4_takeNumber 23 = .ok (.getfield 84, 3) := by decide +kernel
theorem dX4_takeNumber_26 : decode cX4_takeNumber 26 = .ok (.iload_n 2, 1) := by decide +kernel
theorem dX4_takeNumber_27 : decode cX4_takeNumber 27 = .ok (.iload_n 3, 1) := by decide +kernel
theorem dX4_takeNumber_28 : decode cX4_takeNumber 28 = .ok (.invokestatic 87, 3) := by decide +kernel
theorem dX4_takeNumber_31 : decode cX4_takeNumber 31 = .ok (.ifCond .eq 7, 3) := by decide +kernel
theorem dX4_takeNumber_34 : decode cX4_takeNumber 34 = .ok (.iconst 1, 1) := by decide +kernel
theorem dX4_takeNumber_35 : decode cX4_takeNumber 35 = .ok (.goto 4, 3) := by decide +kernel
theorem dX4_takeNumber_38 : decode cX4_takeNumber 38 = .ok (.iconst 0, 1) := by decide +kernel
theorem dX4_takeNumber_39 : decode cX4_takeNumber 39 = .ok (.ireturn, 1) := by decide +kernel
theorem dX4_takeStop_0 : decode cX4_takeStop 0 = .ok (.aload_n 0, 1) := by decide +kernel
theorem dX4_takeStop_1 : decode cX4_takeStop 1 = .ok (.invokevirtual 28, 3) := by decide +kernel
theorem dX4_takeStop_4 : decode cX4_takeStop 4 = .ok (.aload_n 0, 1) := by decide +kernel
theorem dX4_takeStop_5 : decode cX4_takeStop 5 = .ok (.getfield 31, 3) := by decide +kernel
theorem dX4_takeStop_8 : decode cX4_takeStop 8 = .ok (.iconst 3, 1) := by decide +kernel
theorem dX4_takeStop_9 : decode cX4_takeStop 9 = .ok (.if_icmp .ne 7, 3) := by decide +kernel
theorem dX4_takeStop_12 : decode cX4_takeStop 12 = .ok (.iconst 1, 1) := by decide +kernel
theorem dX4_takeStop_13 : decode cX4_takeStop 13 = .ok (.goto 4, 3) := by decide +kernel
theorem dX4_takeStop_16 : decode cX4_takeStop 16 = .ok (.iconst 0, 1) := by decide +kernel
theorem dX4_takeStop_17 : decode cX4_takeStop 17 = .ok (.ireturn, 1) := by decide +kernel
theorem dX4_step_0 : decode cX4_step 0 = .ok (.aload_n 0, 1) := by decide +kernel
theorem dX4_step_1 : decode cX4_step 1 = .ok (.aload_n 0, 1) := by decide +kernel
theorem dX4_step_2 : decode cX4_step 2 = .ok (.getfield 24, 3) := by decide +kernel
theorem dX4_step_5 : decode cX4_step 5 = .ok (.putfield 90, 3) := by decide +kernel
theorem dX4_step_8 : decode cX4_step 8 = .ok (.aload_n 0, 1) := by decide +kernel
theorem dX4_step_9 : decode cX4_step 9 = .ok (.getfield 90, 3) := by decide +kernel
theorem dX4_step_12 : decode cX4_step 12 = .ok (.aload_n 0, 1) := by decide +kernel
theorem dX4_step_13 : decode cX4_step 13 = .ok (.getfield 93, 3) := by decide +kernel
theorem dX4_step_16 : decode cX4_step 16 = .ok (.if_icmp .ge 30, 3) := by decide +kernel
theorem dX4_step_19 : decode cX4_step 19 = .ok (.aload_n 0, 1) := by decide +kernel
theorem dX4_step_20 : decode cX4_step 20 = .ok (.getfield 11, 3) := by decide +kernel
theorem dX4_step_23 : decode cX4_step 23 = .ok (.aload_n 0, 1) := by decide +kernel
theorem dX4_step_24 : decode cX4_step 24 = .ok (.getfield 90, 3) := by decide +kernel
theorem dX4_step_27 : decode cX4_step 27 = .ok (.baload, 1) := by decide +kernel
theorem dX4_step_28 : decode cX4_step 28 = .ok (.bipush 32, 2) := by decide +kernel
theorem dX4_step_30 : decode cX4_step 30 = .ok (.if_icmp .ne 16, 3) := by decide +kernel
theorem dX4_step_33 : decode cX4_step 33 = .ok (.aload_n 0, 1) := by decide +kernel
theorem dX4_step_34 : decode cX4_step 34 = .ok (.dup, 1) := by decide +kernel
theorem dX4_step_35 : decode cX4_step 35 = .ok (.getfield 90, 3) := by decide +kernel
theorem dX4_step_38 : decode cX4_step 38 = .ok (.iconst 1, 1) := by decide +kernel
theorem dX4_step_39 : decode cX4_step 39 = .ok (.iadd, 1) := by decide +kernel
theorem dX4_step_40 : decode cX4_step 40 = .ok (.putfield 90, 3) := by decide +kernel
theorem dX4_step_43 : decode cX4_step 43 = .ok (.goto (-35), 3) := by decide +kernel
theorem dX4_step_46 : decode cX4_step 46 = .ok (.aload_n 0, 1) := by decide +kernel
theorem dX4_step_47 : decode cX4_step 47 = .ok (.aload_n 0, 1) := by decide +kernel
theorem dX4_step_48 : decode cX4_step 48 = .ok (.getfield 90, 3) := by decide +kernel
theorem dX4_step_51 : decode cX4_step 51 = .ok (.putfield 24, 3) := by decide +kernel
theorem dX4_step_54 : decode cX4_step 54 = .ok (.aload_n 0, 1) := by decide +kernel
theorem dX4_step_55 : decode cX4_step 55 = .ok (.getfield 90, 3) := by decide +kernel
theorem dX4_step_58 : decode cX4_step 58 = .ok (.aload_n 0, 1) := by decide +kernel
theorem dX4_step_59 : decode cX4_step 59 = .ok (.getfield 93, 3) := by decide +kernel
theorem dX4_step_62 : decode cX4_step 62 = .ok (.if_icmp .lt 11, 3) := by decide +kernel
theorem dX4_step_65 : decode cX4_step 65 = .ok (.aload_n 0, 1) := by decide +kernel
theorem dX4_step_66 : decode cX4_step 66 = .ok (.iconst 0, 1) := by decide +kernel
theorem dX4_step_67 : decode cX4_step 67 = .ok (.putfield 31, 3) := by decide +kernel
theorem dX4_step_70 : decode cX4_step 70 = .ok (.goto 72, 3) := by decide +kernel
theorem dX4_step_73 : decode cX4_step 73 = .ok (.aload_n 0, 1) := by decide +kernel
theorem dX4_step_74 : decode cX4_step 74 = .ok (.aload_n 0, 1) := by decide +kernel
theorem dX4_step_75 : decode cX4_step 75 = .ok (.getfield 90, 3) := by decide +kernel
theorem dX4_step_78 : decode cX4_step 78 = .ok (.invokevirtual 96, 3) := by decide +kernel
theorem dX4_step_81 : decode cX4_step 81 = .ok (.ifCond .eq 10, 3) := by decide +kernel
theorem dX4_step_84 : decode cX4_step 84 = .ok (.aload_n 0, 1) := by decide +kernel
theorem dX4_step_85 : decode cX4_step 85 = .ok (.invokevirtual 100, 3) := by decide +kernel
theorem dX4_step_88 : decode cX4_step 88 = .ok (.goto 54, 3) := by decide +kernel
theorem dX4_step_91 : decode cX4_step 91 = .ok (.aload_n 0, 1) := by decide +kernel
theorem dX4_step_92 : decode cX4_step 92 = .ok (.aload_n 0, 1) := by decide +kernel
theorem dX4_step_93 : decode cX4_step 93 = .ok (.getfield 90, 3) := by decide +kernel
theorem dX4_step_96 : decode cX4_step 96 = .ok (.invokevirtual 103, 3) := by decide +kernel
theorem dX4_step_99 : decode cX4_step 99 = .ok (.ifCond .eq 10, 3) := by decide +kernel
theorem dX4_step_102 : decode cX4_step 102 = .ok (.aload_n 0, 1) := by decide +kernel
theorem dX4_step_103 : decode cX4_step 103 = .ok (.invokevirtual 106, 3) := by decide +kernel
theorem dX4_step_106 : decode cX4_step 106 = .ok (.goto 36, 3) := by decide +kernel
theorem dX4_step_109 : decode cX4_step 109 = .ok (.aload_n 0, 1) := by decide +kernel
theorem dX4_step_110 : decode cX4_step 110 = .ok (.aload_n 0, 1) := by decide +kernel
theorem dX4_step_111 : decode cX4_step 111 = .ok (.getfield 11, 3) := by decide +kernel
theorem dX4_step_114 : decode cX4_step 114 = .ok (.aload_n 0, 1) := by decide +kernel
theorem dX4_step_115 : decode cX4_step 115 = .ok (.getfield 90, 3) := by decide +kernel
theorem dX4_step_118 : decode cX4_step 118 = .ok (.baload, 1) := by decide +kernel
theorem dX4_step_119 : decode cX4_step 119 = .ok (.bipush 59, 2) := by decide +kernel
theorem dX4_step_121 : decode cX4_step 121 = .ok (.if_icmp .ne 7, 3) := by decide +kernel
theorem dX4_step_124 : decode cX4_step 124 = .ok (.iconst 3, 1) := by decide +kernel
theorem dX4_step_125 : decode cX4_step 125 = .ok (.goto 4, 3) := by decide +kernel
theorem dX4_step_128 : decode cX4_step 128 = .ok (.iconst 4, 1) := by decide +kernel
theorem dX4_step_129 : decode cX4_step 129 = .ok (.putfield 31, 3) := by decide +kernel
theorem dX4_step_132 : decode cX4_step 132 = .ok (.aload_n 0, 1) := by decide +kernel
theorem dX4_step_133 : decode cX4_step 133 = .ok (.aload_n 0, 1) := by decide +kernel
theorem dX4_step_134 : decode cX4_step 134 = .ok (.getfield 90, 3) := by decide +kernel
theorem dX4_step_137 : decode cX4_step 137 = .ok (.iconst 1, 1) := by decide +kernel
theorem dX4_step_138 : decode cX4_step 138 = .ok (.iadd, 1) := by decide +kernel
theorem dX4_step_139 : decode cX4_step 139 = .ok (.putfield 24, 3) := by decide +kernel
theorem dX4_step_142 : decode cX4_step 142 = .ok (.return_, 1) := by decide +kernel
theorem dX4_stepWord_0 : decode cX4_stepWord 0 = .ok (.aload_n 0, 1) := by decide +kernel
theorem dX4_stepWord_1 : decode cX4_stepWord 1 = .ok (.getfield 24, 3) := by decide +kernel
theorem dX4_stepWord_4 : decode cX4_stepWord 4 = .ok (.aload_n 0, 1) := by decide +kernel
theorem dX4_stepWord_5 : decode cX4_stepWord 5 = .ok (.getfield 93, 3) := by decide +kernel
theorem dX4_stepWord_8 : decode cX4_stepWord 8 = .ok (.if_icmp .ge 27, 3) := by decide +kernel
theorem dX4_stepWord_11 : decode cX4_stepWord 11 = .ok (.aload_n 0, 1) := by decide +kernel
theorem dX4_stepWord_12 : decode cX4_stepWord 12 = .ok (.aload_n 0, 1) := by decide +kernel
theorem dX4_stepWord_13 : decode cX4_stepWord 13 = .ok (.getfield 24, 3) := by decide +kernel
theorem dX4_stepWord_16 : decode cX4_stepWord 16 = .ok (.invokevirtual 96, 3) := by decide +kernel
theorem dX4_stepWord_19 : decode cX4_stepWord 19 = .ok (.ifCond .eq 16, 3) := by decide +kernel
theorem dX4_stepWord_22 : decode cX4_stepWord 22 = .ok (.aload_n 0, 1) := by decide +kernel
theorem dX4_stepWord_23 : decode cX4_stepWord 23 = .ok (.dup, 1) := by decide +kernel
theorem dX4_stepWord_24 : decode cX4_stepWord 24 = .ok (.getfield 24, 3) := by decide +kernel
theorem dX4_stepWord_27 : decode cX4_stepWord 27 = .ok (.iconst 1, 1) := by decide +kernel
theorem dX4_stepWord_28 : decode cX4_stepWord 28 = .ok (.iadd, 1) := by decide +kernel
theorem dX4_stepWord_29 : decode cX4_stepWord 29 = .ok (.putfield 24, 3) := by decide +kernel
theorem dX4_stepWord_32 : decode cX4_stepWord 32 = .ok (.goto (-32), 3) := by decide +kernel
theorem dX4_stepWord_35 : decode cX4_stepWord 35 = .ok (.aload_n 0, 1) := by decide +kernel
theorem dX4_stepWord_36 : decode cX4_stepWord 36 = .ok (.iconst 1, 1) := by decide +kernel
theorem dX4_stepWord_37 : decode cX4_stepWord 37 = .ok (.putfield 31, 3) := by decide +kernel
theorem dX4_stepWord_40 : decode cX4_stepWord 40 = .ok (.return_, 1) := by decide +kernel
theorem dX4_stepNumber_0 : decode cX4_stepNumber 0 = .ok (.aload_n 0, 1) := by decide +kernel
theorem dX4_stepNumber_1 : decode cX4_stepNumber 1 = .ok (.iconst 0, 1) := by decide +kernel
theorem dX4_stepNumber_2 : decode cX4_stepNumber 2 = .ok (.putfield 84, 3) := by decide +kernel
theorem dX4_stepNumber_5 : decode cX4_stepNumber 5 = .ok (.aload_n 0, 1) := by decide +kernel
theorem dX4_stepNumber_6 : decode cX4_stepNumber 6 = .ok (.getfield 24, 3) := by decide +kernel
theorem dX4_stepNumber_9 : decode cX4_stepNumber 9 = .ok (.aload_n 0, 1) := by decide +kernel
theorem dX4_stepNumber_10 : decode cX4_stepNumber 10 = .ok (.getfield 93, 3) := by decide +kernel
theorem dX4_stepNumber_13 : decode cX4_stepNumber 13 = .ok (.if_icmp .ge 68, 3) := by decide +kernel
theorem dX4_stepNumber_16 : decode cX4_stepNumber 16 = .ok (.aload_n 0, 1) := by decide +kernel
theorem dX4_stepNumber_17 : decode cX4_stepNumber 17 = .ok (.aload_n 0, 1) := by decide +kernel
theorem dX4_stepNumber_18 : decode cX4_stepNumber 18 = .ok (.getfield 24, 3) := by decide +kernel
theorem dX4_stepNumber_21 : decode cX4_stepNumber 21 = .ok (.invokevirtual 103, 3) := by decide +kernel
theorem dX4_stepNumber_24 : decode cX4_stepNumber 24 = .ok (.ifCond .eq 57, 3) := by decide +kernel
theorem dX4_stepNumber_27 : decode cX4_stepNumber 27 = .ok (.aload_n 0, 1) := by decide +kernel
theorem dX4_stepNumber_28 : decode cX4_stepNumber 28 = .ok (.aload_n 0, 1) := by decide +kernel
theorem dX4_stepNumber_29 : decode cX4_stepNumber 29 = .ok (.getfield 24, 3) := by decide +kernel
theorem dX4_stepNumber_32 : decode cX4_stepNumber 32 = .ok (.aload_n 0, 1) := by decide +kernel
theorem dX4_stepNumber_33 : decode cX4_stepNumber 33 = .ok (.getfield 90, 3) := by decide +kernel
theorem dX4_stepNumber_36 : decode cX4_stepNumber 36 = .ok (.isub, 1) := by decide +kernel
theorem dX4_stepNumber_37 : decode cX4_stepNumber 37 = .ok (.iconst 2, 1) := by decide +kernel
theorem dX4_stepNumber_38 : decode cX4_stepNumber 38 = .ok (.if_icmp .ge 26, 3) := by decide +kernel
theorem dX4_stepNumber_41 : decode cX4_stepNumber 41 = .ok (.aload_n 0, 1) := by decide +kernel
theorem dX4_stepNumber_42 : decode cX4_stepNumber 42 = .ok (.getfield 84, 3) := by decide +kernel
theorem dX4_stepNumber_45 : decode cX4_stepNumber 45 = .ok (.bipush 10, 2) := by decide +kernel
theorem dX4_stepNumber_47 : decode cX4_stepNumber 47 = .ok (.imul, 1) := by decide +kernel
theorem dX4_stepNumber_48 : decode cX4_stepNumber 48 = .ok (.aload_n 0, 1) := by decide +kernel
theorem dX4_stepNumber_49 : decode cX4_stepNumber 49 = .ok (.getfield 11, 3) := by decide +kernel
theorem dX4_stepNumber_52 : decode cX4_stepNumber 52 = .ok (.aload_n 0, 1) := by decide +kernel
theorem dX4_stepNumber_53 : decode cX4_stepNumber 53 = .ok (.getfield 24, 3) := by decide +kernel
theorem dX4_stepNumber_56 : decode cX4_stepNumber 56 = .ok (.baload, 1) := by decide +kernel
theorem dX4_stepNumber_57 : decode cX4_stepNumber 57 = .ok (.iadd, 1) := by decide +kernel
theorem dX4_stepNumber_58 : decode cX4_stepNumber 58 = .ok (.bipush 48, 2) := by decide +kernel
theorem dX4_stepNumber_60 : decode cX4_stepNumber 60 = .ok (.isub, 1) := by decide +kernel
theorem dX4_stepNumber_61 : decode cX4_stepNumber 61 = .ok (.goto 4, 3) := by decide +kernel
theorem dX4_stepNumber_64 : decode cX4_stepNumber 64 = .ok (.iconst 0, 1) := by decide +kernel
theorem dX4_stepNumber_65 : decode cX4_stepNumber 65 = .ok (.putfield 84, 3) := by decide +kernel
theorem dX4_stepNumber_68 : decode cX4_stepNumber 68 = .ok (.aload_n 0, 1) := by decide +kernel
theorem dX4_stepNumber_69 : decode cX4_stepNumber 69 = .ok (.dup, 1) := by decide +kernel
theorem dX4_stepNumber_70 : decode cX4_stepNumber 70 = .ok (.getfield 24, 3) := by decide +kernel
theorem dX4_stepNumber_73 : decode cX4_stepNumber 73 = .ok (.iconst 1, 1) := by decide +kernel
theorem dX4_stepNumber_74 : decode cX4_stepNumber 74 = .ok (.iadd, 1) := by decide +kernel
theorem dX4_stepNumber_75 : decode cX4_stepNumber 75 = .ok (.putfield 24, 3) := by decide +kernel
theorem dX4_stepNumber_78 : decode cX4_stepNumber 78 = .ok (.goto (-73), 3) := by decide +kernel
theorem dX4_stepNumber_81 : decode cX4_stepNumber 81 = .ok (.aload_n 0, 1) := by decide +kernel
theorem dX4_stepNumber_82 : decode cX4_stepNumber 82 = .ok (.aload_n 0, 1) := by decide +kernel
theorem dX4_stepNumber_83 : decode cX4_stepNumber 83 = .ok (.getfield 24, 3) := by decide +kernel
theorem dX4_stepNumber_86 : decode cX4_stepNumber 86 = .ok (.aload_n 0, 1) := by decide +kernel
theorem dX4_stepNumber_87 : decode cX4_stepNumber 87 = .ok (.getfield 90, 3) := by decide +kernel
theorem dX4_stepNumber_90 : decode cX4_stepNumber 90 = .ok (.isub, 1) := by decide +kernel
theorem dX4_stepNumber_91 : decode cX4_stepNumber 91 = .ok (.iconst 2, 1) := by decide +kernel
theorem dX4_stepNumber_92 : decode cX4_stepNumber 92 = .ok (.if_icmp .gt 7, 3) := by decide +kernel
theorem dX4_stepNumber_95 : decode cX4_stepNumber 95 = .ok (.iconst 2, 1) := by decide +kernel
theorem dX4_stepNumber_96 : decode cX4_stepNumber 96 = .ok (.goto 4, 3) := by decide +kernel
theorem dX4_stepNumber_99 : decode cX4_stepNumber 99 = .ok (.iconst 4, 1) := by decide +kernel
theorem dX4_stepNumber_100 : decode cX4_stepNumber 100 = .ok (.putfield 31, 3) := by decide +kernel
theorem dX4_stepNumber_103 : decode cX4_stepNumber 103 = .ok (.return_, 1) := by decide +kernel
theorem dX4_isLetter_0 : decode cX4_isLetter 0 = .ok (.aload_n 0, 1) := by decide +kernel
theorem dX4_isLetter_1 : decode cX4_isLetter 1 = .ok (.getfield 11, 3) := by decide +kernel
theorem dX4_isLetter_4 : decode cX4_isLetter 4 = .ok (.iload_n 1, 1) := by decide +kernel
theorem dX4_isLetter_5 : decode cX4_isLetter 5 = .ok (.baload, 1) := by decide +kernel
theorem dX4_isLetter_6 : decode cX4_isLetter 6 = .ok (.bipush 97, 2) := by decide +kernel
theorem dX4_isLetter_8 : decode cX4_isLetter 8 = .ok (.if_icmp .lt 18, 3) := by decide +kernel
theorem dX4_isLetter_11 : decode cX4_isLetter 11 = .ok (.aload_n 0, 1) := by decide +kernel
theorem dX4_isLetter_12 : decode cX4_isLetter 12 = .ok (.getfield 11, 3) := by decide +kernel
theorem dX4_isLetter_15 : decode cX4_isLetter 15 = .ok (.iload_n 1, 1) := by decide +kernel
theorem dX4_isLetter_16 : decode cX4_isLetter 16 = .ok (.baload, 1) := by decide +kernel
theorem dX4_isLetter_17 : decode cX4_isLetter 17 = .ok (.bipush 122, 2) := by decide +kernel
theorem dX4_isLetter_19 : decode cX4_isLetter 19 = .ok (.if_icmp .gt 7, 3) := by decide +kernel
theorem dX4_isLetter_22 : decode cX4_isLetter 22 = .ok (.iconst 1, 1) := by decide +kernel
theorem dX4_isLetter_23 : decode cX4_isLetter 23 = .ok (.goto 4, 3) := by decide +kernel
theorem dX4_isLetter_26 : decode cX4_isLetter 26 = .ok (.iconst 0, 1) := by decide +kernel
theorem dX4_isLetter_27 : decode cX4_isLetter 27 = .ok (.ireturn, 1) := by decide +kernel
theorem dX4_isFigure_0 : decode cX4_isFigure 0 = .ok (.aload_n 0, 1) := by decide +kernel
theorem dX4_isFigure_1 : decode cX4_isFigure 1 = .ok (.getfield 11, 3) := by decide +kernel
theorem dX4_isFigure_4 : decode cX4_isFigure 4 = .ok (.iload_n 1, 1) := by decide +kernel
theorem dX4_isFigure_5 : decode cX4_isFigure 5 = .ok (.baload, 1) := by decide +kernel
theorem dX4_isFigure_6 : decode cX4_isFigure 6 = .ok (.bipush 48, 2) := by decide +kernel
theorem dX4_isFigure_8 : decode cX4_isFigure 8 = .ok (.if_icmp .lt 18, 3) := by decide +kernel
theorem dX4_isFigure_11 : decode cX4_isFigure 11 = .ok (.aload_n 0, 1) := by decide +kernel
theorem dX4_isFigure_12 : decode cX4_isFigure 12 = .ok (.getfield 11, 3) := by decide +kernel
theorem dX4_isFigure_15 : decode cX4_isFigure 15 = .ok (.iload_n 1, 1) := by decide +kernel
theorem dX4_isFigure_16 : decode cX4_isFigure 16 = .ok (.baload, 1) := by decide +kernel
theorem dX4_isFigure_17 : decode cX4_isFigure 17 = .ok (.bipush 57, 2) := by decide +kernel
theorem dX4_isFigure_19 : decode cX4_isFigure 19 = .ok (.if_icmp .gt 7, 3) := by decide +kernel
theorem dX4_isFigure_22 : decode cX4_isFigure 22 = .ok (.iconst 1, 1) := by decide +kernel
theorem dX4_isFigure_23 : decode cX4_isFigure 23 = .ok (.goto 4, 3) := by decide +kernel
theorem dX4_isFigure_26 : decode cX4_isFigure 26 = .ok (.iconst 0, 1) := by decide +kernel
theorem dX4_isFigure_27 : decode cX4_isFigure 27 = .ok (.ireturn, 1) := by decide +kernel
theorem dX4_wordNumber_0 : decode cX4_wordNumber 0 = .ok (.aload_n 0, 1) := by decide +kernel
theorem dX4_wordNumber_1 : decode cX4_wordNumber 1 = .ok (.ldc 109, 2) := by decide +kernel
theorem dX4_wordNumber_3 : decode cX4_wordNumber 3 = .ok (.invokevirtual 111, 3) := by decide +kernel
theorem dX4_wordNumber_6 : decode cX4_wordNumber 6 = .ok (.ifCond .eq 7, 3) := by decide +kernel
theorem dX4_wordNumber_9 : decode cX4_wordNumber 9 = .ok (.iconst 0, 1) := by decide +kernel
theorem dX4_wordNumber_10 : decode cX4_wordNumber 10 = .ok (.goto 56, 3) := by decide +kernel
theorem dX4_wordNumber_13 : decode cX4_wordNumber 13 = .ok (.aload_n 0, 1) := by decide +kernel
theorem dX4_wordNumber_14 : decode cX4_wordNumber 14 = .ok (.ldc 115, 2) := by decide +kernel
theorem dX4_wordNumber_16 : decode cX4_wordNumber 16 = .ok (.invokevirtual 111, 3) := by decide +kernel
theorem dX4_wordNumber_19 : decode cX4_wordNumber 19 = .ok (.ifCond .eq 7, 3) := by decide +kernel
theorem dX4_wordNumber_22 : decode cX4_wordNumber 22 = .ok (.iconst 1, 1) := by decide +kernel
theorem dX4_wordNumber_23 : decode cX4_wordNumber 23 = .ok (.goto 43, 3) := by decide +kernel
theorem dX4_wordNumber_26 : decode cX4_wordNumber 26 = .ok (.aload_n 0, 1) := by decide +kernel
theorem dX4_wordNumber_27 : decode cX4_wordNumber 27 = .ok (.ldc 117, 2) := by decide +kernel
theorem dX4_wordNumber_29 : decode cX4_wordNumber 29 = .ok (.invokevirtual 111, 3) := by decide +kernel
theorem dX4_wordNumber_32 : decode cX4_wordNumber 32 = .ok (.ifCond .eq 7, 3) := by decide +kernel
theorem dX4_wordNumber_35 : decode cX4_wordNumber 35 = .ok (.iconst 2, 1) := by decide +kernel
theorem dX4_wordNumber_36 : decode cX4_wordNumber 36 = .ok (.goto 30, 3) := by decide +kernel
theorem dX4_wordNumber_39 : decode cX4_wordNumber 39 = .ok (.aload_n 0, 1) := by decide +kernel
theorem dX4_wordNumber_40 : decode cX4_wordNumber 40 = .ok (.ldc 119, 2) := by decide +kernel
theorem dX4_wordNumber_42 : decode cX4_wordNumber 42 = .ok (.invokevirtual 111, 3) := by decide +kernel
theorem dX4_wordNumber_45 : decode cX4_wordNumber 45 = .ok (.ifCond .eq 7, 3) := by decide +kernel
theorem dX4_wordNumber_48 : decode cX4_wordNumber 48 = .ok (.iconst 3, 1) := by decide +kernel
theorem dX4_wordNumber_49 : decode cX4_wordNumber 49 = .ok (.goto 17, 3) := by decide +kernel
theorem dX4_wordNumber_52 : decode cX4_wordNumber 52 = .ok (.aload_n 0, 1) := by decide +kernel
theorem dX4_wordNumber_53 : decode cX4_wordNumber 53 = .ok (.ldc 121, 2) := by decide +kernel
theorem dX4_wordNumber_55 : decode cX4_wordNumber 55 = .ok (.invokevirtual 111, 3) := by decide +kernel
theorem dX4_wordNumber_58 : decode cX4_wordNumber 58 = .ok (.ifCond .eq 7, 3) := by decide +kernel
theorem dX4_wordNumber_61 : decode cX4_wordNumber 61 = .ok (.iconst 4, 1) := by decide +kernel
theorem dX4_wordNumber_62 : decode cX4_wordNumber 62 = .ok (.goto 4, 3) := by decide +kernel
theorem dX4_wordNumber_65 : decode cX4_wordNumber 65 = .ok (.iconst (-1), 1) := by decide +kernel
theorem dX4_wordNumber_66 : decode cX4_wordNumber 66 = .ok (.ireturn, 1) := by decide +kernel
theorem dX4_isWord_0 : decode cX4_isWord 0 = .ok (.aload_n 0, 1) := by decide +kernel
theorem dX4_isWord_1 : decode cX4_isWord 1 = .ok (.getfield 24, 3) := by decide +kernel
theorem dX4_isWord_4 : decode cX4_isWord 4 = .ok (.aload_n 0, 1) := by decide +kernel
theorem dX4_isWord_5 : decode cX4_isWord 5 = .ok (.getfield 90, 3) := by decide +kernel
theorem dX4_isWord_8 : decode cX4_isWord 8 = .ok (.isub, 1) := by decide +kernel
theorem dX4_isWord_9 : decode cX4_isWord 9 = .ok (.aload_n 1, 1) := by decide +kernel
theorem dX4_isWord_10 : decode cX4_isWord 10 = .ok (.invokevirtual 123, 3) := by decide +kernel
theorem dX4_isWord_13 : decode cX4_isWord 13 = .ok (.if_icmp .eq 5, 3) := by decide +kernel
theorem dX4_isWord_16 : decode cX4_isWord 16 = .ok (.iconst 0, 1) := by decide +kernel
theorem dX4_isWord_17 : decode cX4_isWord 17 = .ok (.ireturn, 1) := by decide +kernel
theorem dX4_isWord_18 : decode cX4_isWord 18 = .ok (.iconst 0, 1) := by decide +kernel
theorem dX4_isWord_19 : decode cX4_isWord 19 = .ok (.istore_n 2, 1) := by decide +kernel
theorem dX4_isWord_20 : decode cX4_isWord 20 = .ok (.iload_n 2, 1) := by decide +kernel
theorem dX4_isWord_21 : decode cX4_isWord 21 = .ok (.aload_n 1, 1) := by decide +kernel
theorem dX4_isWord_22 : decode cX4_isWord 22 = .ok (.invokevirtual 123, 3) := by decide +kernel
theorem dX4_isWord_25 : decode cX4_isWord 25 = .ok (.if_icmp .ge 30, 3) := by decide +kernel
theorem dX4_isWord_28 : decode cX4_isWord 28 = .ok (.aload_n 0, 1) := by decide +kernel
theorem dX4_isWord_29 : decode cX4_isWord 29 = .ok (.getfield 11, 3) := by decide +kernel
theorem dX4_isWord_32 : decode cX4_isWord 32 = .ok (.aload_n 0, 1) := by decide +kernel
theorem dX4_isWord_33 : decode cX4_isWord 33 = .ok (.getfield 90, 3) := by decide +kernel
theorem dX4_isWord_36 : decode cX4_isWord 36 = .ok (.iload_n 2, 1) := by decide +kernel
theorem dX4_isWord_37 : decode cX4_isWord 37 = .ok (.iadd, 1) := by decide +kernel
theorem dX4_isWord_38 : decode cX4_isWord 38 = .ok (.baload, 1) := by decide +kernel
theorem dX4_isWord_39 : decode cX4_isWord 39 = .ok (.aload_n 1, 1) := by decide +kernel
theorem dX4_isWord_40 : decode cX4_isWord 40 = .ok (.iload_n 2, 1) := by decide +kernel
