theorem dX6_step_197 : decode cX6_step 197 = .ok (.getfield 112, 3) := by decide +kernel
theorem dX6_step_200 : decode cX6_step 200 = .ok (.iaload, 1) := by decide +kernel
theorem dX6_step_201 : decode cX6_step 201 = .ok (.bipush 59, 2) := by decide +kernel
theorem dX6_step_203 : decode cX6_step 203 = .ok (.if_icmp .ne 7, 3) := by decide +kernel
theorem dX6_step_206 : decode cX6_step 206 = .ok (.iconst 3, 1) := by decide +kernel
theorem dX6_step_207 : decode cX6_step 207 = .ok (.goto 4, 3) := by decide +kernel
theorem dX6_step_210 : decode cX6_step 210 = .ok (.iconst 4, 1) := by decide +kernel
theorem dX6_step_211 : decode cX6_step 211 = .ok (.putfield 132, 3) := by decide +kernel
theorem dX6_step_214 : decode cX6_step 214 = .ok (.aload_n 0, 1) := by decide +kernel
theorem dX6_step_215 : decode cX6_step 215 = .ok (.dup, 1) := by decide +kernel
theorem dX6_step_216 : decode cX6_step 216 = .ok (.getfield 112, 3) := by decide +kernel
theorem dX6_step_219 : decode cX6_step 219 = .ok (.iconst 1, 1) := by decide +kernel
theorem dX6_step_220 : decode cX6_step 220 = .ok (.iadd, 1) := by decide +kernel
theorem dX6_step_221 : decode cX6_step 221 = .ok (.putfield 112, 3) := by decide +kernel
theorem dX6_step_224 : decode cX6_step 224 = .ok (.return_, 1) := by decide +kernel
theorem dX6_readsLetters_0 : decode cX6_readsLetters 0 = .ok (.aload_n 0, 1) := by decide +kernel
theorem dX6_readsLetters_1 : decode cX6_readsLetters 1 = .ok (.iconst 0, 1) := by decide +kernel
theorem dX6_readsLetters_2 : decode cX6_readsLetters 2 = .ok (.putfield 145, 3) := by decide +kernel
theorem dX6_readsLetters_5 : decode cX6_readsLetters 5 = .ok (.aload_n 0, 1) := by decide +kernel
theorem dX6_readsLetters_6 : decode cX6_readsLetters 6 = .ok (.invokevirtual 135, 3) := by decide +kernel
theorem dX6_readsLetters_9 : decode cX6_readsLetters 9 = .ok (.ifCond .eq 125, 3) := by decide +kernel
theorem dX6_readsLetters_12 : decode cX6_readsLetters 12 = .ok (.aload_n 0, 1) := by decide +kernel
theorem dX6_readsLetters_13 : decode cX6_readsLetters 13 = .ok (.aload_n 0, 1) := by decide +kernel
theorem dX6_readsLetters_14 : decode cX6_readsLetters 14 = .ok (.getfield 145, 3) := by decide +kernel
theorem dX6_readsLetters_17 : decode cX6_readsLetters 17 = .ok (.ifCond .ne 17, 3) := by decide +kernel
theorem dX6_readsLetters_20 : decode cX6_readsLetters 20 = .ok (.aload_n 0, 1) := by decide +kernel
theorem dX6_readsLetters_21 : decode cX6_readsLetters 21 = .ok (.getfield 112, 3) := by decide +kernel
theorem dX6_readsLetters_24 : decode cX6_readsLetters 24 = .ok (.aload_n 0, 1) := by decide +kernel
theorem dX6_readsLetters_25 : decode cX6_readsLetters 25 = .ok (.getfield 123, 3) := by decide +kernel
theorem dX6_readsLetters_28 : decode cX6_readsLetters 28 = .ok (.isub, 1) := by decide +kernel
theorem dX6_readsLetters_29 : decode cX6_readsLetters 29 = .ok (.bipush 7, 2) := by decide +kernel
theorem dX6_readsLetters_31 : decode cX6_readsLetters 31 = .ok (.if_icmp .lt 7, 3) := by decide +kernel
theorem dX6_readsLetters_34 : decode cX6_readsLetters 34 = .ok (.iconst 1, 1) := by decide +kernel
theorem dX6_readsLetters_35 : decode cX6_readsLetters 35 = .ok (.goto 4, 3) := by decide +kernel
theorem dX6_readsLetters_38 : decode cX6_readsLetters 38 = .ok (.iconst 0, 1) := by decide +kernel
theorem dX6_readsLetters_39 : decode cX6_readsLetters 39 = .ok (.putfield 145, 3) := by decide +kernel
theorem dX6_readsLetters_42 : decode cX6_readsLetters 42 = .ok (.aload_n 0, 1) := by decide +kernel
theorem dX6_readsLetters_43 : decode cX6_readsLetters 43 = .ok (.aload_n 0, 1) := by decide +kernel
theorem dX6_readsLetters_44 : decode cX6_readsLetters 44 = .ok (.getfield 112, 3) := by decide +kernel
theorem dX6_readsLetters_47 : decode cX6_readsLetters 47 = .ok (.aload_n 0, 1) := by decide +kernel
theorem dX6_readsLetters_48 : decode cX6_readsLetters 48 = .ok (.getfield 123, 3) := by decide +kernel
theorem dX6_readsLetters_51 : decode cX6_readsLetters 51 = .ok (.isub, 1) := by decide +kernel
theorem dX6_readsLetters_52 : decode cX6_readsLetters 52 = .ok (.bipush 6, 2) := by decide +kernel
theorem dX6_readsLetters_54 : decode cX6_readsLetters 54 = .ok (.if_icmp .ge 26, 3) := by decide +kernel
theorem dX6_readsLetters_57 : decode cX6_readsLetters 57 = .ok (.bipush 32, 2) := by decide +kernel
theorem dX6_readsLetters_59 : decode cX6_readsLetters 59 = .ok (.aload_n 0, 1) := by decide +kernel
theorem dX6_readsLetters_60 : decode cX6_readsLetters 60 = .ok (.getfield 126, 3) := by decide +kernel
theorem dX6_readsLetters_63 : decode cX6_readsLetters 63 = .ok (.imul, 1) := by decide +kernel
theorem dX6_readsLetters_64 : decode cX6_readsLetters 64 = .ok (.aload_n 0, 1) := by decide +kernel
theorem dX6_readsLetters_65 : decode cX6_readsLetters 65 = .ok (.getfield 26, 3) := by decide +kernel
theorem dX6_readsLetters_68 : decode cX6_readsLetters 68 = .ok (.aload_n 0, 1) := by decide +kernel
theorem dX6_readsLetters_69 : decode cX6_readsLetters 69 = .ok (.getfield 112, 3) := by decide +kernel
theorem dX6_readsLetters_72 : decode cX6_readsLetters 72 = .ok (.iaload, 1) := by decide +kernel
theorem dX6_readsLetters_73 : decode cX6_readsLetters 73 = .ok (.iadd, 1) := by decide +kernel
theorem dX6_readsLetters_74 : decode cX6_readsLetters 74 = .ok (.bipush 96, 2) := by decide +kernel
theorem dX6_readsLetters_76 : decode cX6_readsLetters 76 = .ok (.isub, 1) := by decide +kernel
theorem dX6_readsLetters_77 : decode cX6_readsLetters 77 = .ok (.goto 7, 3) := by decide +kernel
theorem dX6_readsLetters_80 : decode cX6_readsLetters 80 = .ok (.aload_n 0, 1) := by decide +kernel
theorem dX6_readsLetters_81 : decode cX6_readsLetters 81 = .ok (.getfield 126, 3) := by decide +kernel
theorem dX6_readsLetters_84 : decode cX6_readsLetters 84 = .ok (.putfield 126, 3) := by decide +kernel
theorem dX6_readsLetters_87 : decode cX6_readsLetters 87 = .ok (.aload_n 0, 1) := by decide +kernel
theorem dX6_readsLetters_88 : decode cX6_readsLetters 88 = .ok (.aload_n 0, 1) := by decide +kernel
theorem dX6_readsLetters_89 : decode cX6_readsLetters 89 = .ok (.getfield 112, 3) := by decide +kernel
theorem dX6_readsLetters_92 : decode cX6_readsLetters 92 = .ok (.aload_n 0, 1) := by decide +kernel
theorem dX6_readsLetters_93 : decode cX6_readsLetters 93 = .ok (.getfield 123, 3) := by decide +kernel
theorem dX6_readsLetters_96 : decode cX6_readsLetters 96 = .ok (.isub, 1) := by decide +kernel
theorem dX6_readsLetters_97 : decode cX6_readsLetters 97 = .ok (.bipush 6, 2) := by decide +kernel
theorem dX6_readsLetters_99 : decode cX6_readsLetters 99 = .ok (.if_icmp .ne 15, 3) := by decide +kernel
theorem dX6_readsLetters_102 : decode cX6_readsLetters 102 = .ok (.aload_n 0, 1) := by decide +kernel
theorem dX6_readsLetters_103 : decode cX6_readsLetters 103 = .ok (.getfield 26, 3) := by decide +kernel
theorem dX6_readsLetters_106 : decode cX6_readsLetters 106 = .ok (.aload_n 0, 1) := by decide +kernel
theorem dX6_readsLetters_107 : decode cX6_readsLetters 107 = .ok (.getfield 112, 3) := by decide +kernel
theorem dX6_readsLetters_110 : decode cX6_readsLetters 110 = .ok (.iaload, 1) := by decide +kernel
theorem dX6_readsLetters_111 : decode cX6_readsLetters 111 = .ok (.goto 7, 3) := by decide +kernel
theorem dX6_readsLetters_114 : decode cX6_readsLetters 114 = .ok (.aload_n 0, 1) := by decide +kernel
theorem dX6_readsLetters_115 : decode cX6_readsLetters 115 = .ok (.getfield 149, 3) := by decide +kernel
theorem dX6_readsLetters_118 : decode cX6_readsLetters 118 = .ok (.putfield 149, 3) := by decide +kernel
theorem dX6_readsLetters_121 : decode cX6_readsLetters 121 = .ok (.aload_n 0, 1) := by decide +kernel
theorem dX6_readsLetters_122 : decode cX6_readsLetters 122 = .ok (.dup, 1) := by decide +kernel
theorem dX6_readsLetters_123 : decode cX6_readsLetters 123 = .ok (.getfield 112, 3) := by decide +kernel
theorem dX6_readsLetters_126 : decode cX6_readsLetters 126 = .ok (.iconst 1, 1) := by decide +kernel
theorem dX6_readsLetters_127 : decode cX6_readsLetters 127 = .ok (.iadd, 1) := by decide +kernel
theorem dX6_readsLetters_128 : decode cX6_readsLetters 128 = .ok (.putfield 112, 3) := by decide +kernel
theorem dX6_readsLetters_131 : decode cX6_readsLetters 131 = .ok (.goto (-126), 3) := by decide +kernel
theorem dX6_readsLetters_134 : decode cX6_readsLetters 134 = .ok (.aload_n 0, 1) := by decide +kernel
theorem dX6_readsLetters_135 : decode cX6_readsLetters 135 = .ok (.aload_n 0, 1) := by decide +kernel
theorem dX6_readsLetters_136 : decode cX6_readsLetters 136 = .ok (.getfield 112, 3) := by decide +kernel
theorem dX6_readsLetters_139 : decode cX6_readsLetters 139 = .ok (.aload_n 0, 1) := by decide +kernel
theorem dX6_readsLetters_140 : decode cX6_readsLetters 140 = .ok (.getfield 123, 3) := by decide +kernel
theorem dX6_readsLetters_143 : decode cX6_readsLetters 143 = .ok (.isub, 1) := by decide +kernel
theorem dX6_readsLetters_144 : decode cX6_readsLetters 144 = .ok (.putfield 152, 3) := by decide +kernel
theorem dX6_readsLetters_147 : decode cX6_readsLetters 147 = .ok (.return_, 1) := by decide +kernel
theorem dX6_isWord_0 : decode cX6_isWord 0 = .ok (.aload_n 0, 1) := by decide +kernel
theorem dX6_isWord_1 : decode cX6_isWord 1 = .ok (.getfield 132, 3) := by decide +kernel
theorem dX6_isWord_4 : decode cX6_isWord 4 = .ok (.iconst 1, 1) := by decide +kernel
theorem dX6_isWord_5 : decode cX6_isWord 5 = .ok (.if_icmp .ne 23, 3) := by decide +kernel
theorem dX6_isWord_8 : decode cX6_isWord 8 = .ok (.aload_n 0, 1) := by decide +kernel
theorem dX6_isWord_9 : decode cX6_isWord 9 = .ok (.getfield 126, 3) := by decide +kernel
theorem dX6_isWord_12 : decode cX6_isWord 12 = .ok (.iload_n 1, 1) := by decide +kernel
theorem dX6_isWord_13 : decode cX6_isWord 13 = .ok (.if_icmp .ne 15, 3) := by decide +kernel
theorem dX6_isWord_16 : decode cX6_isWord 16 = .ok (.aload_n 0, 1) := by decide +kernel
theorem dX6_isWord_17 : decode cX6_isWord 17 = .ok (.getfield 152, 3) := by decide +kernel
theorem dX6_isWord_20 : decode cX6_isWord 20 = .ok (.iload_n 2, 1) := by decide +kernel
theorem dX6_isWord_21 : decode cX6_isWord 21 = .ok (.if_icmp .ne 7, 3) := by decide +kernel
theorem dX6_isWord_24 : decode cX6_isWord 24 = .ok (.iconst 1, 1) := by decide +kernel
theorem dX6_isWord_25 : decode cX6_isWord 25 = .ok (.goto 4, 3) := by decide +kernel
theorem dX6_isWord_28 : decode cX6_isWord 28 = .ok (.iconst 0, 1) := by decide +kernel
theorem dX6_isWord_29 : decode cX6_isWord 29 = .ok (.ireturn, 1) := by decide +kernel
theorem dX6_number_0 : decode cX6_number 0 = .ok (.aload_n 0, 1) := by decide +kernel
theorem dX6_number_1 : decode cX6_number 1 = .ok (.invokevirtual 155, 3) := by decide +kernel
theorem dX6_number_4 : decode cX6_number 4 = .ok (.aload_n 0, 1) := by decide +kernel
theorem dX6_number_5 : decode cX6_number 5 = .ok (.getfield 132, 3) := by decide +kernel
theorem dX6_number_8 : decode cX6_number 8 = .ok (.iconst 2, 1) := by decide +kernel
theorem dX6_number_9 : decode cX6_number 9 = .ok (.if_icmp .ne 22, 3) := by decide +kernel
theorem dX6_number_12 : decode cX6_number 12 = .ok (.aload_n 0, 1) := by decide +kernel
theorem dX6_number_13 : decode cX6_number 13 = .ok (.getfield 129, 3) := by decide +kernel
theorem dX6_number_16 : decode cX6_number 16 = .ok (.i2l, 1) := by decide +kernel
theorem dX6_number_17 : decode cX6_number 17 = .ok (.iload_n 1, 1) := by decide +kernel
theorem dX6_number_18 : decode cX6_number 18 = .ok (.i2l, 1) := by decide +kernel
theorem dX6_number_19 : decode cX6_number 19 = .ok (.iload_n 2, 1) := by decide +kernel
theorem dX6_number_20 : decode cX6_number 20 = .ok (.i2l, 1) := by decide +kernel
theorem dX6_number_21 : decode cX6_number 21 = .ok (.invokestatic 86, 3) := by decide +kernel
theorem dX6_number_24 : decode cX6_number 24 = .ok (.ifCond .eq 7, 3) := by decide +kernel
theorem dX6_number_27 : decode cX6_number 27 = .ok (.iconst 1, 1) := by decide +kernel
theorem dX6_number_28 : decode cX6_number 28 = .ok (.goto 4, 3) := by decide +kernel
theorem dX6_number_31 : decode cX6_number 31 = .ok (.iconst 0, 1) := by decide +kernel
theorem dX6_number_32 : decode cX6_number 32 = .ok (.ireturn, 1) := by decide +kernel
theorem dX6_readsSeat_0 : decode cX6_readsSeat 0 = .ok (.aload_n 0, 1) := by decide +kernel
theorem dX6_readsSeat_1 : decode cX6_readsSeat 1 = .ok (.getfield 13, 3) := by decide +kernel
theorem dX6_readsSeat_4 : decode cX6_readsSeat 4 = .ok (.bipush 33, 2) := by decide +kernel
theorem dX6_readsSeat_6 : decode cX6_readsSeat 6 = .ok (.iaload, 1) := by decide +kernel
theorem dX6_readsSeat_7 : decode cX6_readsSeat 7 = .ok (.istore_n 1, 1) := by decide +kernel
theorem dX6_readsSeat_8 : decode cX6_readsSeat 8 = .ok (.iload_n 1, 1) := by decide +kernel
theorem dX6_readsSeat_9 : decode cX6_readsSeat 9 = .ok (.bipush 7, 2) := by decide +kernel
theorem dX6_readsSeat_11 : decode cX6_readsSeat 11 = .ok (.if_icmp .eq 12, 3) := by decide +kernel
theorem dX6_readsSeat_14 : decode cX6_readsSeat 14 = .ok (.aload_n 0, 1) := by decide +kernel
theorem dX6_readsSeat_15 : decode cX6_readsSeat 15 = .ok (.iconst 0, 1) := by decide +kernel
theorem dX6_readsSeat_16 : decode cX6_readsSeat 16 = .ok (.iconst 5, 1) := by decide +kernel
theorem dX6_readsSeat_17 : decode cX6_readsSeat 17 = .ok (.invokevirtual 158, 3) := by decide +kernel
theorem dX6_readsSeat_20 : decode cX6_readsSeat 20 = .ok (.ifCond .ne 5, 3) := by decide +kernel
theorem dX6_readsSeat_23 : decode cX6_readsSeat 23 = .ok (.iconst 0, 1) := by decide +kernel
theorem dX6_readsSeat_24 : decode cX6_readsSeat 24 = .ok (.ireturn, 1) := by decide +kernel
theorem dX6_readsSeat_25 : decode cX6_readsSeat 25 = .ok (.aload_n 0, 1) := by decide +kernel
theorem dX6_readsSeat_26 : decode cX6_readsSeat 26 = .ok (.getfield 13, 3) := by decide +kernel
theorem dX6_readsSeat_29 : decode cX6_readsSeat 29 = .ok (.bipush 34, 2) := by decide +kernel
theorem dX6_readsSeat_31 : decode cX6_readsSeat 31 = .ok (.iload_n 1, 1) := by decide +kernel
theorem dX6_readsSeat_32 : decode cX6_readsSeat 32 = .ok (.iadd, 1) := by decide +kernel
theorem dX6_readsSeat_33 : decode cX6_readsSeat 33 = .ok (.aload_n 0, 1) := by decide +kernel
theorem dX6_readsSeat_34 : decode cX6_readsSeat 34 = .ok (.getfield 129, 3) := by decide +kernel
theorem dX6_readsSeat_37 : decode cX6_readsSeat 37 = .ok (.iastore, 1) := by decide +kernel
theorem dX6_readsSeat_38 : decode cX6_readsSeat 38 = .ok (.aload_n 0, 1) := by decide +kernel
theorem dX6_readsSeat_39 : decode cX6_readsSeat 39 = .ok (.iconst 0, 1) := by decide +kernel
theorem dX6_readsSeat_40 : decode cX6_readsSeat 40 = .ok (.iconst 3, 1) := by decide +kernel
theorem dX6_readsSeat_41 : decode cX6_readsSeat 41 = .ok (.invokevirtual 158, 3) := by decide +kernel
theorem dX6_readsSeat_44 : decode cX6_readsSeat 44 = .ok (.ifCond .ne 5, 3) := by decide +kernel
theorem dX6_readsSeat_47 : decode cX6_readsSeat 47 = .ok (.iconst 0, 1) := by decide +kernel
theorem dX6_readsSeat_48 : decode cX6_readsSeat 48 = .ok (.ireturn, 1) := by decide +kernel
theorem dX6_readsSeat_49 : decode cX6_readsSeat 49 = .ok (.aload_n 0, 1) := by decide +kernel
theorem dX6_readsSeat_50 : decode cX6_readsSeat 50 = .ok (.getfield 13, 3) := by decide +kernel
theorem dX6_readsSeat_53 : decode cX6_readsSeat 53 = .ok (.bipush 41, 2) := by decide +kernel
theorem dX6_readsSeat_55 : decode cX6_readsSeat 55 = .ok (.iload_n 1, 1) := by decide +kernel
theorem dX6_readsSeat_56 : decode cX6_readsSeat 56 = .ok (.iadd, 1) := by decide +kernel
theorem dX6_readsSeat_57 : decode cX6_readsSeat 57 = .ok (.aload_n 0, 1) := by decide +kernel
theorem dX6_readsSeat_58 : decode cX6_readsSeat 58 = .ok (.getfield 129, 3) := by decide +kernel
theorem dX6_readsSeat_61 : decode cX6_readsSeat 61 = .ok (.iastore, 1) := by decide +kernel
theorem dX6_readsSeat_62 : decode cX6_readsSeat 62 = .ok (.aload_n 0, 1) := by decide +kernel
theorem dX6_readsSeat_63 : decode cX6_readsSeat 63 = .ok (.iconst 0, 1) := by decide +kernel
theorem dX6_readsSeat_64 : decode cX6_readsSeat 64 = .ok (.bipush 40, 2) := by decide +kernel
theorem dX6_readsSeat_66 : decode cX6_readsSeat 66 = .ok (.invokevirtual 158, 3) := by decide +kernel
theorem dX6_readsSeat_69 : decode cX6_readsSeat 69 = .ok (.ifCond .ne 5, 3) := by decide +kernel
theorem dX6_readsSeat_72 : decode cX6_readsSeat 72 = .ok (.iconst 0, 1) := by decide +kernel
theorem dX6_readsSeat_73 : decode cX6_readsSeat 73 = .ok (.ireturn, 1) := by decide +kernel
theorem dX6_readsSeat_74 : decode cX6_readsSeat 74 = .ok (.aload_n 0, 1) := by decide +kernel
theorem dX6_readsSeat_75 : decode cX6_readsSeat 75 = .ok (.getfield 13, 3) := by decide +kernel
theorem dX6_readsSeat_78 : decode cX6_readsSeat 78 = .ok (.bipush 25, 2) := by decide +kernel
theorem dX6_readsSeat_80 : decode cX6_readsSeat 80 = .ok (.iload_n 1, 1) := by decide +kernel
theorem dX6_readsSeat_81 : decode cX6_readsSeat 81 = .ok (.iadd, 1) := by decide +kernel
theorem dX6_readsSeat_82 : decode cX6_readsSeat 82 = .ok (.aload_n 0, 1) := by decide +kernel
theorem dX6_readsSeat_83 : decode cX6_readsSeat 83 = .ok (.getfield 129, 3) := by decide +kernel
theorem dX6_readsSeat_86 : decode cX6_readsSeat 86 = .ok (.iastore, 1) := by decide +kernel
theorem dX6_readsSeat_87 : decode cX6_readsSeat 87 = .ok (.aload_n 0, 1) := by decide +kernel
theorem dX6_readsSeat_88 : decode cX6_readsSeat 88 = .ok (.getfield 13, 3) := by decide +kernel
theorem dX6_readsSeat_91 : decode cX6_readsSeat 91 = .ok (.bipush 33, 2) := by decide +kernel
theorem dX6_readsSeat_93 : decode cX6_readsSeat 93 = .ok (.dup2, 1) := by decide +kernel
theorem dX6_readsSeat_94 : decode cX6_readsSeat 94 = .ok (.iaload, 1) := by decide +kernel
theorem dX6_readsSeat_95 : decode cX6_readsSeat 95 = .ok (.iconst 1, 1) := by decide +kernel
theorem dX6_readsSeat_96 : decode cX6_readsSeat 96 = .ok (.iadd, 1) := by decide +kernel
theorem dX6_readsSeat_97 : decode cX6_readsSeat 97 = .ok (.iastore, 1) := by decide +kernel
theorem dX6_readsSeat_98 : decode cX6_readsSeat 98 = .ok (.iconst 1, 1) := by decide +kernel
theorem dX6_readsSeat_99 : decode cX6_readsSeat 99 = .ok (.ireturn, 1) := by decide +kernel
theorem dX6_readsCanon_0 : decode cX6_readsCanon 0 = .ok (.aload_n 0, 1) := by decide +kernel
theorem dX6_readsCanon_1 : decode cX6_readsCanon 1 = .ok (.getfield 13, 3) := by decide +kernel
theorem dX6_readsCanon_4 : decode cX6_readsCanon 4 = .ok (.bipush 48, 2) := by decide +kernel
theorem dX6_readsCanon_6 : decode cX6_readsCanon 6 = .ok (.iaload, 1) := by decide +kernel
theorem dX6_readsCanon_7 : decode cX6_readsCanon 7 = .ok (.istore_n 1, 1) := by decide +kernel
theorem dX6_readsCanon_8 : decode cX6_readsCanon 8 = .ok (.iload_n 1, 1) := by decide +kernel
theorem dX6_readsCanon_9 : decode cX6_readsCanon 9 = .ok (.iconst 5, 1) := by decide +kernel
theorem dX6_readsCanon_10 : decode cX6_readsCanon 10 = .ok (.if_icmp .eq 12, 3) := by decide +kernel
theorem dX6_readsCanon_13 : decode cX6_readsCanon 13 = .ok (.aload_n 0, 1) := by decide +kernel
theorem dX6_readsCanon_14 : decode cX6_readsCanon 14 = .ok (.iconst 0, 1) := by decide +kernel
theorem dX6_readsCanon_15 : decode cX6_readsCanon 15 = .ok (.iconst 5, 1) := by decide +kernel
theorem dX6_readsCanon_16 : decode cX6_readsCanon 16 = .ok (.invokevirtual 158, 3) := by decide +kernel
theorem dX6_readsCanon_19 : decode cX6_readsCanon 19 = .ok (.ifCond .ne 5, 3) := by decide +kernel
theorem dX6_readsCanon_22 : decode cX6_readsCanon 22 = .ok (.iconst 0, 1) := by decide +kernel
theorem dX6_readsCanon_23 : decode cX6_readsCanon 23 = .ok (.ireturn, 1) := by decide +kernel
theorem dX6_readsCanon_24 : decode cX6_readsCanon 24 = .ok (.aload_n 0, 1) := by decide +kernel
theorem dX6_readsCanon_25 : decode cX6_readsCanon 25 = .ok (.getfield 13, 3) := by decide +kernel
theorem dX6_readsCanon_28 : decode cX6_readsCanon 28 = .ok (.bipush 49, 2) := by decide +kernel
theorem dX6_readsCanon_30 : decode cX6_readsCanon 30 = .ok (.iload_n 1, 1) := by decide +kernel
theorem dX6_readsCanon_31 : decode cX6_readsCanon 31 = .ok (.iadd, 1) := by decide +kernel
theorem dX6_readsCanon_32 : decode cX6_readsCanon 32 = .ok (.aload_n 0, 1) := by decide +kernel
theorem dX6_readsCanon_33 : decode cX6_readsCanon 33 = .ok (.getfield 129, 3) := by decide +kernel
theorem dX6_readsCanon_36 : decode cX6_readsCanon 36 = .ok (.iastore, 1) := by decide +kernel
theorem dX6_readsCanon_37 : decode cX6_readsCanon 37 = .ok (.aload_n 0, 1) := by decide +kernel
theorem dX6_readsCanon_38 : decode cX6_readsCanon 38 = .ok (.iconst 1, 1) := by decide +kernel
theorem dX6_readsCanon_39 : decode cX6_readsCanon 39 = .ok (.bipush 9, 2) := by decide +kernel
theorem dX6_readsCanon_41 : decode cX6_readsCanon 41 = .ok (.invokevirtual 158, 3) := by decide +kernel
theorem dX6_readsCanon_44 : decode cX6_readsCanon 44 = .ok (.ifCond .ne 5, 3) := by decide +kernel
theorem dX6_readsCanon_47 : decode cX6_readsCanon 47 = .ok (.iconst 0, 1) := by decide +kernel
theorem dX6_readsCanon_48 : decode cX6_readsCanon 48 = .ok (.ireturn, 1) := by decide +kernel
theorem dX6_readsCanon_49 : decode cX6_readsCanon 49 = .ok (.aload_n 0, 1) := by decide +kernel
theorem dX6_readsCanon_50 : decode cX6_readsCanon 50 = .ok (.getfield 13, 3) := by decide +kernel
theorem dX6_readsCanon_53 : decode cX6_readsCanon 53 = .ok (.bipush 54, 2) := by decide +kernel
theorem dX6_readsCanon_55 : decode cX6_readsCanon 55 = .ok (.iload_n 1, 1) := by decide +kernel
theorem dX6_readsCanon_56 : decode cX6_readsCanon 56 = .ok (.iadd, 1) := by decide +kernel
theorem dX6_readsCanon_57 : decode cX6_readsCanon 57 = .ok (.aload_n 0, 1) := by decide +kernel
theorem dX6_readsCanon_58 : decode cX6_readsCanon 58 = .ok (.getfield 129, 3) := by decide +kernel
theorem dX6_readsCanon_61 : decode cX6_readsCanon 61 = .ok (.iastore, 1) := by decide +kernel
theorem dX6_readsCanon_62 : decode cX6_readsCanon 62 = .ok (.aload_n 0, 1) := by decide +kernel
theorem dX6_readsCanon_63 : decode cX6_readsCanon 63 = .ok (.getfield 13, 3) := by decide +kernel
theorem dX6_readsCanon_66 : decode cX6_readsCanon 66 = .ok (.bipush 48, 2) := by decide +kernel
theorem dX6_readsCanon_68 : decode cX6_readsCanon 68 = .ok (.dup2, 1) := by decide +kernel
theorem dX6_readsCanon_69 : decode cX6_readsCanon 69 = .ok (.iaload, 1) := by decide +kernel
theorem dX6_readsCanon_70 : decode cX6_readsCanon 70 = .ok (.iconst 1, 1) := by decide +kernel
theorem dX6_readsCanon_71 : decode cX6_readsCanon 71 = .ok (.iadd, 1) := by decide +kernel
theorem dX6_readsCanon_72 : decode cX6_readsCanon 72 = .ok (.iastore, 1) := by decide +kernel
theorem dX6_readsCanon_73 : decode cX6_readsCanon 73 = .ok (.iconst 1, 1) := by decide +kernel
theorem dX6_readsCanon_74 : decode cX6_readsCanon 74 = .ok (.ireturn, 1) := by decide +kernel
theorem dX6_readsSitting_0 : decode cX6_readsSitting 0 = .ok (.aload_n 0, 1) := by decide +kernel
theorem dX6_readsSitting_1 : decode cX6_readsSitting 1 = .ok (.iconst 0, 1) := by decide +kernel
theorem dX6_readsSitting_2 : decode cX6_readsSitting 2 = .ok (.aload_n 0, 1) := by decide +kernel
theorem dX6_readsSitting_3 : decode cX6_readsSitting 3 = .ok (.getfield 13, 3) := by decide +kernel
theorem dX6_readsSitting_6 : decode cX6_readsSitting 6 = .ok (.bipush 48, 2) := by decide +kernel
theorem dX6_readsSitting_8 : decode cX6_readsSitting 8 = .ok (.iaload, 1) := by decide +kernel
theorem dX6_readsSitting_9 : decode cX6_readsSitting 9 = .ok (.iconst 1, 1) := by decide +kernel
theorem dX6_readsSitting_10 : decode cX6_readsSitting 10 = .ok (.isub, 1) := by decide +kernel
theorem dX6_readsSitting_11 : decode cX6_readsSitting 11 = .ok (.invokevirtual 158, 3) := by decide +kernel
theorem dX6_readsSitting_14 : decode cX6_readsSitting 14 = .ok (.ifCond .ne 5, 3) := by decide +kernel
theorem dX6_readsSitting_17 : decode cX6_readsSitting 17 = .ok (.iconst 0, 1) := by decide +kernel
theorem dX6_readsSitting_18 : decode cX6_readsSitting 18 = .ok (.ireturn, 1) := by decide +kernel
theorem dX6_readsSitting_19 : decode cX6_readsSitting 19 = .ok (.aload_n 0, 1) := by decide +kernel
theorem dX6_readsSitting_20 : decode cX6_readsSitting 20 = .ok (.getfield 129, 3) := by decide +kernel
theorem dX6_readsSitting_23 : decode cX6_readsSitting 23 = .ok (.istore_n 1, 1) := by decide +kernel
theorem dX6_readsSitting_24 : decode cX6_readsSitting 24 = .ok (.aload_n 0, 1) := by decide +kernel
theorem dX6_readsSitting_25 : decode cX6_readsSitting 25 = .ok (.iconst 0, 1) := by decide +kernel
theorem dX6_readsSitting_26 : decode cX6_readsSitting 26 = .ok (.aload_n 0, 1) := by decide +kernel
theorem dX6_readsSitting_27 : decode cX6_readsSitting 27 = .ok (.getfield 13, 3) := by decide +kernel
theorem dX6_readsSitting_30 : decode cX6_readsSitting 30 = .ok (.bipush 33, 2) := by decide +kernel
theorem dX6_readsSitting_32 : decode cX6_readsSitting 32 = .ok (.iaload, 1) := by decide +kernel
theorem dX6_readsSitting_33 : decode cX6_readsSitting 33 = .ok (.iconst 1, 1) := by decide +kernel
theorem dX6_readsSitting_34 : decode cX6_readsSitting 34 = .ok (.isub, 1) := by decide +kernel
theorem dX6_readsSitting_35 : decode cX6_readsSitting 35 = .ok (.invokevirtual 158, 3) := by decide +kernel
theorem dX6_readsSitting_38 : decode cX6_readsSitting 38 = .ok (.ifCond .ne 5, 3) := by decide +kernel
theorem dX6_readsSitting_41 : decode cX6_readsSitting 41 = .ok (.iconst 0, 1) := by decide +kernel
theorem dX6_readsSitting_42 : decode cX6_readsSitting 42 = .ok (.ireturn, 1) := by decide +kernel
theorem dX6_readsSitting_43 : decode cX6_readsSitting 43 = .ok (.aload_n 0, 1) := by decide +kernel
theorem dX6_readsSitting_44 : decode cX6_readsSitting 44 = .ok (.getfield 13, 3) := by decide +kernel
theorem dX6_readsSitting_47 : decode cX6_readsSitting 47 = .ok (.aload_n 0, 1) := by decide +kernel
theorem dX6_readsSitting_48 : decode cX6_readsSitting 48 = .ok (.getfield 129, 3) := by decide +kernel
theorem dX6_readsSitting_51 : decode cX6_readsSitting 51 = .ok (.invokestatic 162, 3) := by decide +kernel
theorem dX6_readsSitting_54 : decode cX6_readsSitting 54 = .ok (.istore_n 2, 1) := by decide +kernel
theorem dX6_readsSitting_55 : decode cX6_readsSitting 55 = .ok (.iload_n 2, 1) := by decide +kernel
theorem dX6_readsSitting_56 : decode cX6_readsSitting 56 = .ok (.iconst (-1), 1) := by decide +kernel
theorem dX6_readsSitting_57 : decode cX6_readsSitting 57 = .ok (.if_icmp .eq 10, 3) := by decide +kernel
theorem dX6_readsSitting_60 : decode cX6_readsSitting 60 = .ok (.iload_n 2, 1) := by decide +kernel
theorem dX6_readsSitting_61 : decode cX6_readsSitting 61 = .ok (.iload_n 1, 1) := by decide +kernel
theorem dX6_readsSitting_62 : decode cX6_readsSitting 62 = .ok (.if_icmp .eq 5, 3) := by decide +kernel
theorem dX6_readsSitting_65 : decode cX6_readsSitting 65 = .ok (.iconst 0, 1) := by decide +kernel
theorem dX6_readsSitting_66 : decode cX6_readsSitting 66 = .ok (.ireturn, 1) := by decide +kernel
theorem dX6_readsSitting_67 : decode cX6_readsSitting 67 = .ok (.aload_n 0, 1) := by decide +kernel
theorem dX6_readsSitting_68 : decode cX6_readsSitting 68 = .ok (.getfield 13, 3) := by decide +kernel
theorem dX6_readsSitting_71 : decode cX6_readsSitting 71 = .ok (.iconst 0, 1) := by decide +kernel
theorem dX6_readsSitting_72 : decode cX6_readsSitting 72 = .ok (.iload_n 1, 1) := by decide +kernel
theorem dX6_readsSitting_73 : decode cX6_readsSitting 73 = .ok (.iadd, 1) := by decide +kernel
theorem dX6_readsSitting_74 : decode cX6_readsSitting 74 = .ok (.aload_n 0, 1) := by decide +kernel
theorem dX6_readsSitting_75 : decode cX6_readsSitting 75 = .ok (.getfield 129, 3) := by decide +kernel
theorem dX6_readsSitting_78 : decode cX6_readsSitting 78 = .ok (.iastore, 1) := by decide +kernel
theorem dX6_readsSitting_79 : decode cX6_readsSitting 79 = .ok (.iconst 1, 1) := by decide +kernel
theorem dX6_readsSitting_80 : decode cX6_readsSitting 80 = .ok (.ireturn, 1) := by decide +kernel
theorem dX6_readsYears_0 : decode cX6_readsYears 0 = .ok (.aload_n 0, 1) := by decide +kernel
theorem dX6_readsYears_1 : decode cX6_readsYears 1 = .ok (.iconst 1, 1) := by decide +kernel
theorem dX6_readsYears_2 : decode cX6_readsYears 2 = .ok (.bipush 30, 2) := by decide +kernel
theorem dX6_readsYears_4 : decode cX6_readsYears 4 = .ok (.invokevirtual 158, 3) := by decide +kernel
theorem dX6_readsYears_7 : decode cX6_readsYears 7 = .ok (.ifCond .ne 5, 3) := by decide +kernel
theorem dX6_readsYears_10 : decode cX6_readsYears 10 = .ok (.iconst 0, 1) := by decide +kernel
theorem dX6_readsYears_11 : decode cX6_readsYears 11 = .ok (.ireturn, 1) := by decide +kernel
theorem dX6_readsYears_12 : decode cX6_readsYears 12 = .ok (.iconst 0, 1) := by decide +kernel
theorem dX6_readsYears_13 : decode cX6_readsYears 13 = .ok (.istore_n 1, 1) := by decide +kernel
theorem dX6_readsYears_14 : decode cX6_readsYears 14 = .ok (.iload_n 1, 1) := by decide +kernel
theorem dX6_readsYears_15 : decode cX6_readsYears 15 = .ok (.aload_n 0, 1) := by decide +kernel
theorem dX6_readsYears_16 : decode cX6_readsYears 16 = .ok (.getfield 129, 3) := by decide +kernel
theorem dX6_readsYears_19 : decode cX6_readsYears 19 = .ok (.if_icmp .ge 38, 3) := by decide +kernel
theorem dX6_readsYears_22 : decode cX6_readsYears 22 = .ok (.aload_n 0, 1) := by decide +kernel
theorem dX6_readsYears_23 : decode cX6_readsYears 23 = .ok (.invokevirtual 165, 3) := by decide +kernel
theorem dX6_readsYears_26 : decode cX6_readsYears 26 = .ok (.aload_n 0, 1) := by decide +kernel
theorem dX6_readsYears_27 : decode cX6_readsYears 27 = .ok (.getfield 7, 3) := by decide +kernel
theorem dX6_readsYears_30 : decode cX6_readsYears 30 = .ok (.bipush 32, 2) := by decide +kernel
theorem dX6_readsYears_32 : decode cX6_readsYears 32 = .ok (.iaload, 1) := by decide +kernel
theorem dX6_readsYears_33 : decode cX6_readsYears 33 = .ok (.sipush 999, 3) := by decide +kernel
theorem dX6_readsYears_36 : decode cX6_readsYears 36 = .ok (.if_icmp .ge 11, 3) := by decide +kernel
theorem dX6_readsYears_39 : decode cX6_readsYears 39 = .ok (.aload_n 0, 1) := by decide +kernel
theorem dX6_readsYears_40 : decode cX6_readsYears 40 = .ok (.aload_n 0, 1) := by decide +kernel
theorem dX6_readsYears_41 : decode cX6_readsYears 41 = .ok (.getfield 7, 3) := by decide +kernel
theorem dX6_readsYears_44 : decode cX6_readsYears 44 = .ok (.invokevirtual 168, 3) := by decide +kernel
theorem dX6_readsYears_47 : decode cX6_readsYears 47 = .ok (.aload_n 0, 1) := by decide +kernel
theorem dX6_readsYears_48 : decode cX6_readsYears 48 = .ok (.invokevirtual 165, 3) := by decide +kernel
theorem dX6_readsYears_51 : decode cX6_readsYears 51 = .ok (.iinc 1 1, 3) := by decide +kernel
theorem dX6_readsYears_54 : decode cX6_readsYears 54 = .ok (.goto (-40), 3) := by decide +kernel
theorem dX6_readsYears_57 : decode cX6_readsYears 57 = .ok (.iconst 1, 1) := by decide +kernel
theorem dX6_readsYears_58 : decode cX6_readsYears 58 = .ok (.ireturn, 1) := by decide +kernel
theorem dX6_swapsRows_0 : decode cX6_swapsRows 0 = .ok (.iconst 0, 1) := by decide +kernel
theorem dX6_swapsRows_1 : decode cX6_swapsRows 1 = .ok (.istore_n 1, 1) := by decide +kernel
theorem dX6_swapsRows_2 : decode cX6_swapsRows 2 = .ok (.iload_n 1, 1) := by decide +kernel
theorem dX6_swapsRows_3 : decode cX6_swapsRows 3 = .ok (.sipush 399, 3) := by decide +kernel
theorem dX6_swapsRows_6 : decode cX6_swapsRows 6 = .ok (.if_icmp .ge 35, 3) := by decide +kernel
theorem dX6_swapsRows_9 : decode cX6_swapsRows 9 = .ok (.aload_n 0, 1) := by decide +kernel
theorem dX6_swapsRows_10 : decode cX6_swapsRows 10 = .ok (.getfield 7, 3) := by decide +kernel
theorem dX6_swapsRows_13 : decode cX6_swapsRows 13 = .ok (.iload_n 1, 1) := by decide +kernel
theorem dX6_swapsRows_14 : decode cX6_swapsRows 14 = .ok (.iaload, 1) := by decide +kernel
theorem dX6_swapsRows_15 : decode cX6_swapsRows 15 = .ok (.istore_n 2, 1) := by decide +kernel
theorem dX6_swapsRows_16 : decode cX6_swapsRows 16 = .ok (.aload_n 0, 1) := by decide +kernel
theorem dX6_swapsRows_17 : decode cX6_swapsRows 17 = .ok (.getfield 7, 3) := by decide +kernel
theorem dX6_swapsRows_20 : decode cX6_swapsRows 20 = .ok (.iload_n 1, 1) := by decide +kernel
theorem dX6_swapsRows_21 : decode cX6_swapsRows 21 = .ok (.aload_n 0, 1) := by decide +kernel
theorem dX6_swapsRows_22 : decode cX6_swapsRows 22 = .ok (.getfield 13, 3) := by decide +kernel
theorem dX6_swapsRows_25 : decode cX6_swapsRows 25 = .ok (.iload_n 1, 1) := by decide +kernel
theorem dX6_swapsRows_26 : decode cX6_swapsRows 26 = .ok (.iaload, 1) := by decide +kernel
theorem dX6_swapsRows_27 : decode cX6_swapsRows 27 = .ok (.iastore, 1) := by decide +kernel
theorem dX6_swapsRows_28 : decode cX6_swapsRows 28 = .ok (.aload_n 0, 1) := by decide +kernel
theorem dX6_swapsRows_29 : decode cX6_swapsRows 29 = .ok (.getfield 13, 3) := by decide +kernel
theorem dX6_swapsRows_32 : decode cX6_swapsRows 32 = .ok (.iload_n 1, 1) := by decide +kernel
theorem dX6_swapsRows_33 : decode cX6_swapsRows 33 = .ok (.iload_n 2, 1) := by decide +kernel
theorem dX6_swapsRows_34 : decode cX6_swapsRows 34 = .ok (.iastore, 1) := by decide +kernel
theorem dX6_swapsRows_35 : decode cX6_swapsRows 35 = .ok (.iinc 1 1, 3) := by decide +kernel
theorem dX6_swapsRows_38 : decode cX6_swapsRows 38 = .ok (.goto (-36), 3) := by decide +kernel
theorem dX6_swapsRows_41 : decode cX6_swapsRows 41 = .ok (.return_, 1) := by decide +kernel
theorem dX6_readsItem_0 : decode cX6_readsItem 0 = .ok (.aload_n 0, 1) := by decide +kernel
theorem dX6_readsItem_1 : decode cX6_readsItem 1 = .ok (.ldc 171, 2) := by decide +kernel
theorem dX6_readsItem_3 : decode cX6_readsItem 3 = .ok (.bipush 7, 2) := by decide +kernel
theorem dX6_readsItem_5 : decode cX6_readsItem 5 = .ok (.invokevirtual 172, 3) := by decide +kernel
theorem dX6_readsItem_8 : decode cX6_readsItem 8 = .ok (.ifCond .eq 22, 3) := by decide +kernel
theorem dX6_readsItem_11 : decode cX6_readsItem 11 = .ok (.aload_n 0, 1) := by decide +kernel
theorem dX6_readsItem_12 : decode cX6_readsItem 12 = .ok (.getfield 149, 3) := by decide +kernel
theorem dX6_readsItem_15 : decode cX6_readsItem 15 = .ok (.bipush 114, 2) := by decide +kernel
theorem dX6_readsItem_17 : decode cX6_readsItem 17 = .ok (.if_icmp .ne 13, 3) := by decide +kernel
theorem dX6_readsItem_20 : decode cX6_readsItem 20 = .ok (.iload_n 1, 1) := by decide +kernel
theorem dX6_readsItem_21 : decode cX6_readsItem 21 = .ok (.ifCond .ne 7, 3) := by decide +kernel
theorem dX6_readsItem_24 : decode cX6_readsItem 24 = .ok (.iconst 1, 1) := by decide +kernel
theorem dX6_readsItem_25 : decode cX6_readsItem 25 = .ok (.goto 4, 3) := by decide +kernel
theorem dX6_readsItem_28 : decode cX6_readsItem 28 = .ok (.iconst 0, 1) := by decide +kernel
theorem dX6_readsItem_29 : decode cX6_readsItem 29 = .ok (.ireturn, 1) := by decide +kernel
theorem dX6_readsItem_30 : decode cX6_readsItem 30 = .ok (.iload_n 1, 1) := by decide +kernel
theorem dX6_readsItem_31 : decode cX6_readsItem 31 = .ok (.ifCond .ne 5, 3) := by decide +kernel
theorem dX6_readsItem_34 : decode cX6_readsItem 34 = .ok (.iconst 0, 1) := by decide +kernel
theorem dX6_readsItem_35 : decode cX6_readsItem 35 = .ok (.ireturn, 1) := by decide +kernel
theorem dX6_readsItem_36 : decode cX6_readsItem 36 = .ok (.aload_n 0, 1) := by decide +kernel
theorem dX6_readsItem_37 : decode cX6_readsItem 37 = .ok (.ldc 175, 2) := by decide +kernel
theorem dX6_readsItem_39 : decode cX6_readsItem 39 = .ok (.iconst 4, 1) := by decide +kernel
theorem dX6_readsItem_40 : decode cX6_readsItem 40 = .ok (.invokevirtual 172, 3) := by decide +kernel
theorem dX6_readsItem_43 : decode cX6_readsItem 43 = .ok (.ifCond .eq 8, 3) := by decide +kernel
theorem dX6_readsItem_46 : decode cX6_readsItem 46 = .ok (.aload_n 0, 1) := by decide +kernel
theorem dX6_readsItem_47 : decode cX6_readsItem 47 = .ok (.invokevirtual 176, 3) := by decide +kernel
theorem dX6_readsItem_50 : decode cX6_readsItem 50 = .ok (.ireturn, 1) := by decide +kernel
theorem dX6_readsItem_51 : decode cX6_readsItem 51 = .ok (.aload_n 0, 1) := by decide +kernel
theorem dX6_readsItem_52 : decode cX6_readsItem 52 = .ok (.ldc 179, 2) := by decide +kernel
theorem dX6_readsItem_54 : decode cX6_readsItem 54 = .ok (.iconst 5, 1) := by decide +kernel
theorem dX6_readsItem_55 : decode cX6_readsItem 55 = .ok (.invokevirtual 172, 3) := by decide +kernel
theorem dX6_readsItem_58 : decode cX6_readsItem 58 = .ok (.ifCond .eq 8, 3) := by decide +kernel
theorem dX6_readsItem_61 : decode cX6_readsItem 61 = .ok (.aload_n 0, 1) := by decide +kernel
theorem dX6_readsItem_62 : decode cX6_readsItem 62 = .ok (.invokevirtual 180, 3) := by decide +kernel
theorem dX6_readsItem_65 : decode cX6_readsItem 65 = .ok (.ireturn, 1) := by decide +kernel
theorem dX6_readsItem_66 : decode cX6_readsItem 66 = .ok (.aload_n 0, 1) := by decide +kernel
theorem dX6_readsItem_67 : decode cX6_readsItem 67 = .ok (.ldc 183, 2) := by decide +kernel
theorem dX6_readsItem_69 : decode cX6_readsItem 69 = .ok (.iconst 4, 1) := by decide +kernel
theorem dX6_readsItem_70 : decode cX6_readsItem 70 = .ok (.invokevirtual 172, 3) := by decide +kernel
theorem dX6_readsItem_73 : decode cX6_readsItem 73 = .ok (.ifCond .eq 8, 3) := by decide +kernel
theorem dX6_readsItem_76 : decode cX6_readsItem 76 = .ok (.aload_n 0, 1) := by decide +kernel
theorem dX6_readsItem_77 : decode cX6_readsItem 77 = .ok (.invokevirtual 184, 3) := by decide +kernel
theorem dX6_readsItem_80 : decode cX6_readsItem 80 = .ok (.ireturn, 1) := by decide +kernel
theorem dX6_readsItem_81 : decode cX6_readsItem 81 = .ok (.aload_n 0, 1) := by decide +kernel
theorem dX6_readsItem_82 : decode cX6_readsItem 82 = .ok (.ldc 187, 2) := by decide +kernel
theorem dX6_readsItem_84 : decode cX6_readsItem 84 = .ok (.iconst 5, 1) := by decide +kernel
theorem dX6_readsItem_85 : decode cX6_readsItem 85 = .ok (.invokevirtual 172, 3) := by decide +kernel
theorem dX6_readsItem_88 : decode cX6_readsItem 88 = .ok (.ifCond .eq 14, 3) := by decide +kernel
theorem dX6_readsItem_91 : decode cX6_readsItem 91 = .ok (.aload_n 0, 1) := by decide +kernel
theorem dX6_readsItem_92 : decode cX6_readsItem 92 = .ok (.invokevirtual 188, 3) := by decide +kernel
theorem dX6_readsItem_95 : decode cX6_readsItem 95 = .ok (.ifCond .eq 7, 3) := by decide +kernel
theorem dX6_readsItem_98 : decode cX6_readsItem 98 = .ok (.iconst 1, 1) := by decide +kernel
theorem dX6_readsItem_99 : decode cX6_readsItem 99 = .ok (.goto 4, 3) := by decide +kernel
theorem dX6_readsItem_102 : decode cX6_readsItem 102 = .ok (.iconst 0, 1) := by decide +kernel
theorem dX6_readsItem_103 : decode cX6_readsItem 103 = .ok (.ireturn, 1) := by decide +kernel
theorem dX6_read_0 : decode cX6_read 0 = .ok (.aload_n 0, 1) := by decide +kernel
theorem dX6_read_1 : decode cX6_read 1 = .ok (.getfield 13, 3) := by decide +kernel
theorem dX6_read_4 : decode cX6_read 4 = .ok (.invokestatic 48, 3) := by decide +kernel
theorem dX6_read_7 : decode cX6_read 7 = .ok (.aload_n 0, 1) := by decide +kernel
theorem dX6_read_8 : decode cX6_read 8 = .ok (.iconst 0, 1) := by decide +kernel
theorem dX6_read_9 : decode cX6_read 9 = .ok (.putfield 112, 3) := by decide +kernel
theorem dX6_read_12 : decode cX6_read 12 = .ok (.iconst 0, 1) := by decide +kernel
theorem dX6_read_13 : decode cX6_read 13 = .ok (.istore_n 1, 1) := by decide +kernel
theorem dX6_read_14 : decode cX6_read 14 = .ok (.aload_n 0, 1) := by decide +kernel
theorem dX6_read_15 : decode cX6_read 15 = .ok (.invokevirtual 155, 3) := by decide +kernel
theorem dX6_read_18 : decode cX6_read 18 = .ok (.aload_n 0, 1) := by decide +kernel
theorem dX6_read_19 : decode cX6_read 19 = .ok (.getfield 132, 3) := by decide +kernel
theorem dX6_read_22 : decode cX6_read 22 = .ok (.ifCond .ne 7, 3) := by decide +kernel
theorem dX6_read_25 : decode cX6_read 25 = .ok (.iload_n 1, 1) := by decide +kernel
theorem dX6_read_26 : decode cX6_read 26 = .ok (.ifCond .ne 49, 3) := by decide +kernel
theorem dX6_read_29 : decode cX6_read 29 = .ok (.aload_n 0, 1) := by decide +kernel
theorem dX6_read_30 : decode cX6_read 30 = .ok (.iload_n 1, 1) := by decide +kernel
theorem dX6_read_31 : decode cX6_read 31 = .ok (.invokevirtual 191, 3) := by decide +kernel
theorem dX6_read_34 : decode cX6_read 34 = .ok (.ifCond .ne 11, 3) := by decide +kernel
theorem dX6_read_37 : decode cX6_read 37 = .ok (.bipush (-10), 2) := by decide +kernel
theorem dX6_read_39 : decode cX6_read 39 = .ok (.aload_n 0, 1) := by decide +kernel
theorem dX6_read_40 : decode cX6_read 40 = .ok (.getfield 123, 3) := by decide +kernel
theorem dX6_read_43 : decode cX6_read 43 = .ok (.isub, 1) := by decide +kernel
theorem dX6_read_44 : decode cX6_read 44 = .ok (.ireturn, 1) := by decide +kernel
theorem dX6_read_45 : decode cX6_read 45 = .ok (.aload_n 0, 1) := by decide +kernel
theorem dX6_read_46 : decode cX6_read 46 = .ok (.invokevirtual 155, 3) := by decide +kernel
theorem dX6_read_49 : decode cX6_read 49 = .ok (.aload_n 0, 1) := by decide +kernel
theorem dX6_read_50 : decode cX6_read 50 = .ok (.getfield 132, 3) := by decide +kernel
theorem dX6_read_53 : decode cX6_read 53 = .ok (.iconst 3, 1) := by decide +kernel
theorem dX6_read_54 : decode cX6_read 54 = .ok (.if_icmp .eq 11, 3) := by decide +kernel
theorem dX6_read_57 : decode cX6_read 57 = .ok (.bipush (-10), 2) := by decide +kernel
theorem dX6_read_59 : decode cX6_read 59 = .ok (.aload_n 0, 1) := by decide +kernel
theorem dX6_read_60 : decode cX6_read 60 = .ok (.getfield 123, 3) := by decide +kernel
theorem dX6_read_63 : decode cX6_read 63 = .ok (.isub, 1) := by decide +kernel
theorem dX6_read_64 : decode cX6_read 64 = .ok (.ireturn, 1) := by decide +kernel
theorem dX6_read_65 : decode cX6_read 65 = .ok (.iinc 1 1, 3) := by decide +kernel
theorem dX6_read_68 : decode cX6_read 68 = .ok (.aload_n 0, 1) := by decide +kernel
theorem dX6_read_69 : decode cX6_read 69 = .ok (.invokevirtual 155, 3) := by decide +kernel
theorem dX6_read_72 : decode cX6_read 72 = .ok (.goto (-54), 3) := by decide +kernel
theorem dX6_read_75 : decode cX6_read 75 = .ok (.aload_n 0, 1) := by decide +kernel
theorem dX6_read_76 : decode cX6_read 76 = .ok (.getfield 13, 3) := by decide +kernel
theorem dX6_read_79 : decode cX6_read 79 = .ok (.iconst 0, 1) := by decide +kernel
theorem dX6_read_80 : decode cX6_read 80 = .ok (.aload_n 0, 1) := by decide +kernel
theorem dX6_read_81 : decode cX6_read 81 = .ok (.getfield 7, 3) := by decide +kernel
theorem dX6_read_84 : decode cX6_read 84 = .ok (.iconst 0, 1) := by decide +kernel
theorem dX6_read_85 : decode cX6_read 85 = .ok (.sipush 399, 3) := by decide +kernel
theorem dX6_read_88 : decode cX6_read 88 = .ok (.invokestatic 82, 3) := by decide +kernel
theorem dX6_read_91 : decode cX6_read 91 = .ok (.iload_n 1, 1) := by decide +kernel
theorem dX6_read_92 : decode cX6_read 92 = .ok (.ireturn, 1) := by decide +kernel
theorem dX6_sits_0 : decode cX6_sits 0 = .ok (.aload_n 0, 1) := by decide +kernel
theorem dX6_sits_1 : decode cX6_sits 1 = .ok (.iload_n 1, 1) := by decide +kernel
theorem dX6_sits_2 : decode cX6_sits 2 = .ok (.invokevirtual 194, 3) := by decide +kernel
theorem dX6_sits_5 : decode cX6_sits 5 = .ok (.ifCond .eq 16, 3) := by decide +kernel
theorem dX6_sits_8 : decode cX6_sits 8 = .ok (.iload_n 2, 1) := by decide +kernel
theorem dX6_sits_9 : decode cX6_sits 9 = .ok (.iconst (-1), 1) := by decide +kernel
theorem dX6_sits_10 : decode cX6_sits 10 = .ok (.if_icmp .eq 16, 3) := by decide +kernel
theorem dX6_sits_13 : decode cX6_sits 13 = .ok (.aload_n 0, 1) := by decide +kernel
theorem dX6_sits_14 : decode cX6_sits 14 = .ok (.iload_n 2, 1) := by decide +kernel
theorem dX6_sits_15 : decode cX6_sits 15 = .ok (.invokevirtual 197, 3) := by decide +kernel
theorem dX6_sits_18 : decode cX6_sits 18 = .ok (.ifCond .ne 8, 3) := by decide +kernel
theorem dX6_sits_21 : decode cX6_sits 21 = .ok (.aload_n 0, 1) := by decide +kernel
theorem dX6_sits_22 : decode cX6_sits 22 = .ok (.invokevirtual 200, 3) := by decide +kernel
theorem dX6_sits_25 : decode cX6_sits 25 = .ok (.ireturn, 1) := by decide +kernel
theorem dX6_sits_26 : decode cX6_sits 26 = .ok (.iload_n 2, 1) := by decide +kernel
theorem dX6_sits_27 : decode cX6_sits 27 = .ok (.iconst (-1), 1) := by decide +kernel
theorem dX6_sits_28 : decode cX6_sits 28 = .ok (.if_icmp .ne 7, 3) := by decide +kernel
theorem dX6_sits_31 : decode cX6_sits 31 = .ok (.iconst (-1), 1) := by decide +kernel
theorem dX6_sits_32 : decode cX6_sits 32 = .ok (.goto 11, 3) := by decide +kernel
theorem dX6_sits_35 : decode cX6_sits 35 = .ok (.aload_n 0, 1) := by decide +kernel
theorem dX6_sits_36 : decode cX6_sits 36 = .ok (.getfield 7, 3) := by decide +kernel
theorem dX6_sits_39 : decode cX6_sits 39 = .ok (.iload_n 2, 1) := by decide +kernel
theorem dX6_sits_40 : decode cX6_sits 40 = .ok (.invokestatic 162, 3) := by decide +kernel
theorem dX6_sits_43 : decode cX6_sits 43 = .ok (.istore_n 3, 1) := by decide +kernel
theorem dX6_sits_44 : decode cX6_sits 44 = .ok (.iload_n 3, 1) := by decide +kernel
theorem dX6_sits_45 : decode cX6_sits 45 = .ok (.iconst (-1), 1) := by decide +kernel
theorem dX6_sits_46 : decode cX6_sits 46 = .ok (.if_icmp .eq 16, 3) := by decide +kernel
theorem dX6_sits_49 : decode cX6_sits 49 = .ok (.iload_n 3, 1) := by decide +kernel
theorem dX6_sits_50 : decode cX6_sits 50 = .ok (.iload_n 1, 1) := by decide +kernel
theorem dX6_sits_51 : decode cX6_sits 51 = .ok (.if_icmp .eq 11, 3) := by decide +kernel
theorem dX6_sits_54 : decode cX6_sits 54 = .ok (.aload_n 0, 1) := by decide +kernel
theorem dX6_sits_55 : decode cX6_sits 55 = .ok (.iconst 1, 1) := by decide +kernel
theorem dX6_sits_56 : decode cX6_sits 56 = .ok (.bipush (-3), 2) := by decide +kernel
theorem dX6_sits_58 : decode cX6_sits 58 = .ok (.invokevirtual 52, 3) := by decide +kernel
theorem dX6_sits_61 : decode cX6_sits 61 = .ok (.ireturn, 1) := by decide +kernel
theorem dX6_sits_62 : decode cX6_sits 62 = .ok (.aload_n 0, 1) := by decide +kernel
theorem dX6_sits_63 : decode cX6_sits 63 = .ok (.invokevirtual 203, 3) := by decide +kernel
theorem dX6_sits_66 : decode cX6_sits 66 = .ok (.aload_n 0, 1) := by decide +kernel
theorem dX6_sits_67 : decode cX6_sits 67 = .ok (.getfield 7, 3) := by decide +kernel
theorem dX6_sits_70 : decode cX6_sits 70 = .ok (.iconst 0, 1) := by decide +kernel
theorem dX6_sits_71 : decode cX6_sits 71 = .ok (.iload_n 1, 1) := by decide +kernel
theorem dX6_sits_72 : decode cX6_sits 72 = .ok (.iadd, 1) := by decide +kernel
theorem dX6_sits_73 : decode cX6_sits 73 = .ok (.iaload, 1) := by decide +kernel
theorem dX6_sits_74 : decode cX6_sits 74 = .ok (.istore 4, 2) := by decide +kernel
theorem dX6_sits_76 : decode cX6_sits 76 = .ok (.aload_n 0, 1) := by decide +kernel
theorem dX6_sits_77 : decode cX6_sits 77 = .ok (.getfield 7, 3) := by decide +kernel
theorem dX6_sits_80 : decode cX6_sits 80 = .ok (.iconst 0, 1) := by decide +kernel
theorem dX6_sits_81 : decode cX6_sits 81 = .ok (.iload_n 1, 1) := by decide +kernel
theorem dX6_sits_82 : decode cX6_sits 82 = .ok (.iadd, 1) := by decide +kernel
theorem dX6_sits_83 : decode cX6_sits 83 = .ok (.iload_n 2, 1) := by decide +kernel
theorem dX6_sits_84 : decode cX6_sits 84 = .ok (.iastore, 1) := by decide +kernel
theorem dX6_sits_85 : decode cX6_sits 85 = .ok (.iload 4, 2) := by decide +kernel
theorem dX6_sits_87 : decode cX6_sits 87 = .ok (.ireturn, 1) := by decide +kernel
theorem dX6_swaps_0 : decode cX6_swaps 0 = .ok (.aload_n 0, 1) := by decide +kernel
theorem dX6_swaps_1 : decode cX6_swaps 1 = .ok (.iconst 0, 1) := by decide +kernel
theorem dX6_swaps_2 : decode cX6_swaps 2 = .ok (.iload_n 1, 1) := by decide +kernel
theorem dX6_swaps_3 : decode cX6_swaps 3 = .ok (.iadd, 1) := by decide +kernel
theorem dX6_swaps_4 : decode cX6_swaps 4 = .ok (.iaload, 1) := by decide +kernel
theorem dX6_swaps_5 : decode cX6_swaps 5 = .ok (.istore_n 3, 1) := by decide +kernel
theorem dX6_swaps_6 : decode cX6_swaps 6 = .ok (.aload_n 0, 1) := by decide +kernel
theorem dX6_swaps_7 : decode cX6_swaps 7 = .ok (.iconst 0, 1) := by decide +kernel
theorem dX6_swaps_8 : decode cX6_swaps 8 = .ok (.iload_n 1, 1) := by decide +kernel
theorem dX6_swaps_9 : decode cX6_swaps 9 = .ok (.iadd, 1) := by decide +kernel
theorem dX6_swaps_10 : decode cX6_swaps 10 = .ok (.aload_n 0, 1) := by decide +kernel
theorem dX6_swaps_11 : decode cX6_swaps 11 = .ok (.iconst 0, 1) := by decide +kernel
theorem dX6_swaps_12 : decode cX6_swaps 12 = .ok (.iload_n 2, 1) := by decide +kernel
theorem dX6_swaps_13 : decode cX6_swaps 13 = .ok (.iadd, 1) := by decide +kernel
theorem dX6_swaps_14 : decode cX6_swaps 14 = .ok (.iaload, 1) := by decide +kernel
theorem dX6_swaps_15 : decode cX6_swaps 15 = .ok (.iastore, 1) := by decide +kernel
theorem dX6_swaps_16 : decode cX6_swaps 16 = .ok (.aload_n 0, 1) := by decide +kernel
theorem dX6_swaps_17 : decode cX6_swaps 17 = .ok (.iconst 0, 1) := by decide +kernel
theorem dX6_swaps_18 : decode cX6_swaps 18 = .ok (.iload_n 2, 1) := by decide +kernel
theorem dX6_swaps_19 : decode cX6_swaps 19 = .ok (.iadd, 1) := by decide +kernel
theorem dX6_swaps_20 : decode cX6_swaps 20 = .ok (.iload_n 3, 1) := by decide +kernel
theorem dX6_swaps_21 : decode cX6_swaps 21 = .ok (.iastore, 1) := by decide +kernel
theorem dX6_swaps_22 : decode cX6_swaps 22 = .ok (.return_, 1) := by decide +kernel
theorem dX6_swap_0 : decode cX6_swap 0 = .ok (.aload_n 0, 1) := by decide +kernel
theorem dX6_swap_1 : decode cX6_swap 1 = .ok (.iload_n 1, 1) := by decide +kernel
theorem dX6_swap_2 : decode cX6_swap 2 = .ok (.invokevirtual 194, 3) := by decide +kernel
theorem dX6_swap_5 : decode cX6_swap 5 = .ok (.ifCond .eq 16, 3) := by decide +kernel
theorem dX6_swap_8 : decode cX6_swap 8 = .ok (.aload_n 0, 1) := by decide +kernel
theorem dX6_swap_9 : decode cX6_swap 9 = .ok (.iload_n 2, 1) := by decide +kernel
theorem dX6_swap_10 : decode cX6_swap 10 = .ok (.invokevirtual 194, 3) := by decide +kernel
theorem dX6_swap_13 : decode cX6_swap 13 = .ok (.ifCond .eq 8, 3) := by decide +kernel
theorem dX6_swap_16 : decode cX6_swap 16 = .ok (.iload_n 1, 1) := by decide +kernel
theorem dX6_swap_17 : decode cX6_swap 17 = .ok (.iload_n 2, 1) := by decide +kernel
theorem dX6_swap_18 : decode cX6_swap 18 = .ok (.if_icmp .ne 8, 3) := by decide +kernel
theorem dX6_swap_21 : decode cX6_swap 21 = .ok (.aload_n 0, 1) := by decide +kernel
theorem dX6_swap_22 : decode cX6_swap 22 = .ok (.invokevirtual 100, 3) := by decide +kernel
theorem dX6_swap_25 : decode cX6_swap 25 = .ok (.ireturn, 1) := by decide +kernel
theorem dX6_swap_26 : decode cX6_swap 26 = .ok (.aload_n 0, 1) := by decide +kernel
theorem dX6_swap_27 : decode cX6_swap 27 = .ok (.invokevirtual 203, 3) := by decide +kernel
theorem dX6_swap_30 : decode cX6_swap 30 = .ok (.aload_n 0, 1) := by decide +kernel
theorem dX6_swap_31 : decode cX6_swap 31 = .ok (.getfield 7, 3) := by decide +kernel
theorem dX6_swap_34 : decode cX6_swap 34 = .ok (.iload_n 1, 1) := by decide +kernel
theorem dX6_swap_35 : decode cX6_swap 35 = .ok (.iload_n 2, 1) := by decide +kernel
theorem dX6_swap_36 : decode cX6_swap 36 = .ok (.invokestatic 206, 3) := by decide +kernel
theorem dX6_swap_39 : decode cX6_swap 39 = .ok (.iconst 1, 1) := by decide +kernel
theorem dX6_swap_40 : decode cX6_swap 40 = .ok (.ireturn, 1) := by decide +kernel
theorem dX6_year_0 : decode cX6_year 0 = .ok (.iload_n 1, 1) := by decide +kernel
theorem dX6_year_1 : decode cX6_year 1 = .ok (.i2l, 1) := by decide +kernel
theorem dX6_year_2 : decode cX6_year 2 = .ok (.lconst 1, 1) := by decide +kernel
theorem dX6_year_3 : decode cX6_year 3 = .ok (.ldc2_w 210, 3) := by decide +kernel
theorem dX6_year_6 : decode cX6_year 6 = .ok (.invokestatic 86, 3) := by decide +kernel
theorem dX6_year_9 : decode cX6_year 9 = .ok (.ifCond .ne 8, 3) := by decide +kernel
theorem dX6_year_12 : decode cX6_year 12 = .ok (.aload_n 0, 1) := by decide +kernel
theorem dX6_year_13 : decode cX6_year 13 = .ok (.invokevirtual 100, 3) := by decide +kernel
theorem dX6_year_16 : decode cX6_year 16 = .ok (.ireturn, 1) := by decide +kernel
theorem dX6_year_17 : decode cX6_year 17 = .ok (.aload_n 0, 1) := by decide +kernel
theorem dX6_year_18 : decode cX6_year 18 = .ok (.invokevirtual 203, 3) := by decide +kernel
theorem dX6_year_21 : decode cX6_year 21 = .ok (.iconst 0, 1) := by decide +kernel
theorem dX6_year_22 : decode cX6_year 22 = .ok (.istore_n 2, 1) := by decide +kernel
theorem dX6_year_23 : decode cX6_year 23 = .ok (.iload_n 2, 1) := by decide +kernel
theorem dX6_year_24 : decode cX6_year 24 = .ok (.iload_n 1, 1) := by decide +kernel
theorem dX6_year_25 : decode cX6_year 25 = .ok (.if_icmp .ge 30, 3) := by decide +kernel
theorem dX6_year_28 : decode cX6_year 28 = .ok (.aload_n 0, 1) := by decide +kernel
theorem dX6_year_29 : decode cX6_year 29 = .ok (.getfield 7, 3) := by decide +kernel
theorem dX6_year_32 : decode cX6_year 32 = .ok (.bipush 32, 2) := by decide +kernel
theorem dX6_year_34 : decode cX6_year 34 = .ok (.iaload, 1) := by decide +kernel
theorem dX6_year_35 : decode cX6_year 35 = .ok (.sipush 999, 3) := by decide +kernel
theorem dX6_year_38 : decode cX6_year 38 = .ok (.if_icmp .ge 17, 3) := by decide +kernel
theorem dX6_year_41 : decode cX6_year 41 = .ok (.aload_n 0, 1) := by decide +kernel
theorem dX6_year_42 : decode cX6_year 42 = .ok (.aload_n 0, 1) := by decide +kernel
theorem dX6_year_43 : decode cX6_year 43 = .ok (.getfield 7, 3) := by decide +kernel
theorem dX6_year_46 : decode cX6_year 46 = .ok (.invokevirtual 168, 3) := by decide +kernel
theorem dX6_year_49 : decode cX6_year 49 = .ok (.iinc 2 1, 3) := by decide +kernel
theorem dX6_year_52 : decode cX6_year 52 = .ok (.goto (-29), 3) := by decide +kernel
theorem dX6_year_55 : decode cX6_year 55 = .ok (.aload_n 0, 1) := by decide +kernel
theorem dX6_year_56 : decode cX6_year 56 = .ok (.aload_n 0, 1) := by decide +kernel
theorem dX6_year_57 : decode cX6_year 57 = .ok (.getfield 7, 3) := by decide +kernel
theorem dX6_year_60 : decode cX6_year 60 = .ok (.invokevirtual 212, 3) := by decide +kernel
theorem dX6_year_63 : decode cX6_year 63 = .ok (.ireturn, 1) := by decide +kernel
theorem dX6_undo_0 : decode cX6_undo 0 = .ok (.aload_n 0, 1) := by decide +kernel
theorem dX6_undo_1 : decode cX6_undo 1 = .ok (.getfield 7, 3) := by decide +kernel
theorem dX6_undo_4 : decode cX6_undo 4 = .ok (.sipush 134, 3) := by decide +kernel
theorem dX6_undo_7 : decode cX6_undo 7 = .ok (.iaload, 1) := by decide +kernel
theorem dX6_undo_8 : decode cX6_undo 8 = .ok (.ifCond .ne 11, 3) := by decide +kernel
theorem dX6_undo_11 : decode cX6_undo 11 = .ok (.aload_n 0, 1) := by decide +kernel
theorem dX6_undo_12 : decode cX6_undo 12 = .ok (.iconst 1, 1) := by decide +kernel
theorem dX6_undo_13 : decode cX6_undo 13 = .ok (.bipush (-3), 2) := by decide +kernel
theorem dX6_undo_15 : decode cX6_undo 15 = .ok (.invokevirtual 52, 3) := by decide +kernel
theorem dX6_undo_18 : decode cX6_undo 18 = .ok (.ireturn, 1) := by decide +kernel
theorem dX6_undo_19 : decode cX6_undo 19 = .ok (.aload_n 0, 1) := by decide +kernel
theorem dX6_undo_20 : decode cX6_undo 20 = .ok (.getfield 7, 3) := by decide +kernel
theorem dX6_undo_23 : decode cX6_undo 23 = .ok (.sipush 134, 3) := by decide +kernel
theorem dX6_undo_26 : decode cX6_undo 26 = .ok (.dup2, 1) := by decide +kernel
theorem dX6_undo_27 : decode cX6_undo 27 = .ok (.iaload, 1) := by decide +kernel
theorem dX6_undo_28 : decode cX6_undo 28 = .ok (.iconst 1, 1) := by decide +kernel
theorem dX6_undo_29 : decode cX6_undo 29 = .ok (.isub, 1) := by decide +kernel
theorem dX6_undo_30 : decode cX6_undo 30 = .ok (.iastore, 1) := by decide +kernel
theorem dX6_undo_31 : decode cX6_undo 31 = .ok (.aload_n 0, 1) := by decide +kernel
theorem dX6_undo_32 : decode cX6_undo 32 = .ok (.getfield 7, 3) := by decide +kernel
theorem dX6_undo_35 : decode cX6_undo 35 = .ok (.sipush 135, 3) := by decide +kernel
theorem dX6_undo_38 : decode cX6_undo 38 = .ok (.bipush 33, 2) := by decide +kernel
theorem dX6_undo_40 : decode cX6_undo 40 = .ok (.aload_n 0, 1) := by decide +kernel
theorem dX6_undo_41 : decode cX6_undo 41 = .ok (.getfield 7, 3) := by decide +kernel
theorem dX6_undo_44 : decode cX6_undo 44 = .ok (.sipush 134, 3) := by decide +kernel
theorem dX6_undo_47 : decode cX6_undo 47 = .ok (.iaload, 1) := by decide +kernel
theorem dX6_undo_48 : decode cX6_undo 48 = .ok (.imul, 1) := by decide +kernel
theorem dX6_undo_49 : decode cX6_undo 49 = .ok (.iadd, 1) := by decide +kernel
theorem dX6_undo_50 : decode cX6_undo 50 = .ok (.aload_n 0, 1) := by decide +kernel
theorem dX6_undo_51 : decode cX6_undo 51 = .ok (.getfield 7, 3) := by decide +kernel
theorem dX6_undo_54 : decode cX6_undo 54 = .ok (.iconst 0, 1) := by decide +kernel
theorem dX6_undo_55 : decode cX6_undo 55 = .ok (.bipush 33, 2) := by decide +kernel
theorem dX6_undo_57 : decode cX6_undo 57 = .ok (.invokestatic 82, 3) := by decide +kernel
theorem dX6_undo_60 : decode cX6_undo 60 = .ok (.aload_n 0, 1) := by decide +kernel
theorem dX6_undo_61 : decode cX6_undo 61 = .ok (.getfield 7, 3) := by decide +kernel
theorem dX6_undo_64 : decode cX6_undo 64 = .ok (.bipush 32, 2) := by decide +kernel
theorem dX6_undo_66 : decode cX6_undo 66 = .ok (.iaload, 1) := by decide +kernel
theorem dX6_undo_67 : decode cX6_undo 67 = .ok (.ireturn, 1) := by decide +kernel
theorem dX6_of_0 : decode cX6_of 0 = .ok (.aload_n 0, 1) := by decide +kernel
theorem dX6_of_1 : decode cX6_of 1 = .ok (.iload_n 1, 1) := by decide +kernel
theorem dX6_of_2 : decode cX6_of 2 = .ok (.invokevirtual 197, 3) := by decide +kernel
theorem dX6_of_5 : decode cX6_of 5 = .ok (.ifCond .eq 15, 3) := by decide +kernel
theorem dX6_of_8 : decode cX6_of 8 = .ok (.iload_n 2, 1) := by decide +kernel
theorem dX6_of_9 : decode cX6_of 9 = .ok (.i2l, 1) := by decide +kernel
theorem dX6_of_10 : decode cX6_of 10 = .ok (.lconst 0, 1) := by decide +kernel
theorem dX6_of_11 : decode cX6_of 11 = .ok (.ldc2_w 90, 3) := by decide +kernel
theorem dX6_of_14 : decode cX6_of 14 = .ok (.invokestatic 86, 3) := by decide +kernel
theorem dX6_of_17 : decode cX6_of 17 = .ok (.ifCond .ne 8, 3) := by decide +kernel
theorem dX6_of_20 : decode cX6_of 20 = .ok (.aload_n 0, 1) := by decide +kernel
theorem dX6_of_21 : decode cX6_of 21 = .ok (.invokevirtual 200, 3) := by decide +kernel
theorem dX6_of_24 : decode cX6_of 24 = .ok (.ireturn, 1) := by decide +kernel
theorem dX6_of_25 : decode cX6_of 25 = .ok (.iload_n 2, 1) := by decide +kernel
theorem dX6_of_26 : decode cX6_of 26 = .ok (.ifCond .ne 15, 3) := by decide +kernel
theorem dX6_of_29 : decode cX6_of 29 = .ok (.aload_n 0, 1) := by decide +kernel
theorem dX6_of_30 : decode cX6_of 30 = .ok (.getfield 7, 3) := by decide +kernel
theorem dX6_of_33 : decode cX6_of 33 = .ok (.bipush 34, 2) := by decide +kernel
theorem dX6_of_35 : decode cX6_of 35 = .ok (.iload_n 1, 1) := by decide +kernel
theorem dX6_of_36 : decode cX6_of 36 = .ok (.iadd, 1) := by decide +kernel
theorem dX6_of_37 : decode cX6_of 37 = .ok (.iaload, 1) := by decide +kernel
theorem dX6_of_38 : decode cX6_of 38 = .ok (.goto 45, 3) := by decide +kernel
theorem dX6_of_41 : decode cX6_of 41 = .ok (.iload_n 2, 1) := by decide +kernel
theorem dX6_of_42 : decode cX6_of 42 = .ok (.iconst 1, 1) := by decide +kernel
theorem dX6_of_43 : decode cX6_of 43 = .ok (.if_icmp .ne 15, 3) := by decide +kernel
theorem dX6_of_46 : decode cX6_of 46 = .ok (.aload_n 0, 1) := by decide +kernel
theorem dX6_of_47 : decode cX6_of 47 = .ok (.getfield 7, 3) := by decide +kernel
theorem dX6_of_50 : decode cX6_of 50 = .ok (.bipush 41, 2) := by decide +kernel
theorem dX6_of_52 : decode cX6_of 52 = .ok (.iload_n 1, 1) := by decide +kernel
theorem dX6_of_53 : decode cX6_of 53 = .ok (.iadd, 1) := by decide +kernel
theorem dX6_of_54 : decode cX6_of 54 = .ok (.iaload, 1) := by decide +kernel
theorem dX6_of_55 : decode cX6_of 55 = .ok (.goto 28, 3) := by decide +kernel
theorem dX6_of_58 : decode cX6_of 58 = .ok (.iload_n 2, 1) := by decide +kernel
theorem dX6_of_59 : decode cX6_of 59 = .ok (.iconst 2, 1) := by decide +kernel
theorem dX6_of_60 : decode cX6_of 60 = .ok (.if_icmp .ne 15, 3) := by decide +kernel
theorem dX6_of_63 : decode cX6_of 63 = .ok (.aload_n 0, 1) := by decide +kernel
theorem dX6_of_64 : decode cX6_of 64 = .ok (.getfield 7, 3) := by decide +kernel
theorem dX6_of_67 : decode cX6_of 67 = .ok (.bipush 25, 2) := by decide +kernel
theorem dX6_of_69 : decode cX6_of 69 = .ok (.iload_n 1, 1) := by decide +kernel
theorem dX6_of_70 : decode cX6_of 70 = .ok (.iadd, 1) := by decide +kernel
theorem dX6_of_71 : decode cX6_of 71 = .ok (.iaload, 1) := by decide +kernel
theorem dX6_of_72 : decode cX6_of 72 = .ok (.goto 11, 3) := by decide +kernel
theorem dX6_of_75 : decode cX6_of 75 = .ok (.aload_n 0, 1) := by decide +kernel
theorem dX6_of_76 : decode cX6_of 76 = .ok (.getfield 7, 3) := by decide +kernel
theorem dX6_of_79 : decode cX6_of 79 = .ok (.iload_n 1, 1) := by decide +kernel
theorem dX6_of_80 : decode cX6_of 80 = .ok (.invokestatic 162, 3) := by decide +kernel
theorem dX6_of_83 : decode cX6_of 83 = .ok (.ireturn, 1) := by decide +kernel
theorem dX6_about_0 : decode cX6_about 0 = .ok (.aload_n 0, 1) := by decide +kernel
theorem dX6_about_1 : decode cX6_about 1 = .ok (.iload_n 1, 1) := by decide +kernel
theorem dX6_about_2 : decode cX6_about 2 = .ok (.invokevirtual 194, 3) := by decide +kernel
theorem dX6_about_5 : decode cX6_about 5 = .ok (.ifCond .ne 8, 3) := by decide +kernel
theorem dX6_about_8 : decode cX6_about 8 = .ok (.aload_n 0, 1) := by decide +kernel
theorem dX6_about_9 : decode cX6_about 9 = .ok (.invokevirtual 200, 3) := by decide +kernel
theorem dX6_about_12 : decode cX6_about 12 = .ok (.ireturn, 1) := by decide +kernel
theorem dX6_about_13 : decode cX6_about 13 = .ok (.iload_n 2, 1) := by decide +kernel
theorem dX6_about_14 : decode cX6_about 14 = .ok (.tableswitch 94 0 4 #[34, 44, 54, 63, 72], 34) := by decide +kernel
theorem dX6_about_48 : decode cX6_about 48 = .ok (.aload_n 0, 1) := by decide +kernel
theorem dX6_about_49 : decode cX6_about 49 = .ok (.getfield 7, 3) := by decide +kernel
theorem dX6_about_52 : decode cX6_about 52 = .ok (.bipush 49, 2) := by decide +kernel
theorem dX6_about_54 : decode cX6_about 54 = .ok (.iload_n 1, 1) := by decide +kernel
theorem dX6_about_55 : decode cX6_about 55 = .ok (.iadd, 1) := by decide +kernel
theorem dX6_about_56 : decode cX6_about 56 = .ok (.iaload, 1) := by decide +kernel
theorem dX6_about_57 : decode cX6_about 57 = .ok (.ireturn, 1) := by decide +kernel
theorem dX6_about_58 : decode cX6_about 58 = .ok (.aload_n 0, 1) := by decide +kernel
theorem dX6_about_59 : decode cX6_about 59 = .ok (.getfield 7, 3) := by decide +kernel
theorem dX6_about_62 : decode cX6_about 62 = .ok (.bipush 54, 2) := by decide +kernel
theorem dX6_about_64 : decode cX6_about 64 = .ok (.iload_n 1, 1) := by decide +kernel
theorem dX6_about_65 : decode cX6_about 65 = .ok (.iadd, 1) := by decide +kernel
theorem dX6_about_66 : decode cX6_about 66 = .ok (.iaload, 1) := by decide +kernel
theorem dX6_about_67 : decode cX6_about 67 = .ok (.ireturn, 1) := by decide +kernel
theorem dX6_about_68 : decode cX6_about 68 = .ok (.aload_n 0, 1) := by decide +kernel
theorem dX6_about_69 : decode cX6_about 69 = .ok (.getfield 7, 3) := by decide +kernel
theorem dX6_about_72 : decode cX6_about 72 = .ok (.iconst 0, 1) := by decide +kernel
theorem dX6_about_73 : decode cX6_about 73 = .ok (.iload_n 1, 1) := by decide +kernel
theorem dX6_about_74 : decode cX6_about 74 = .ok (.iadd, 1) := by decide +kernel
theorem dX6_about_75 : decode cX6_about 75 = .ok (.iaload, 1) := by decide +kernel
theorem dX6_about_76 : decode cX6_about 76 = .ok (.ireturn, 1) := by decide +kernel
theorem dX6_about_77 : decode cX6_about 77 = .ok (.aload_n 0, 1) := by decide +kernel
theorem dX6_about_78 : decode cX6_about 78 = .ok (.getfield 7, 3) := by decide +kernel
theorem dX6_about_81 : decode cX6_about 81 = .ok (.iload_n 1, 1) := by decide +kernel
theorem dX6_about_82 : decode cX6_about 82 = .ok (.invokestatic 78, 3) := by decide +kernel
theorem dX6_about_85 : decode cX6_about 85 = .ok (.ireturn, 1) := by decide +kernel
theorem dX6_about_86 : decode cX6_about 86 = .ok (.aload_n 0, 1) := by decide +kernel
theorem dX6_about_87 : decode cX6_about 87 = .ok (.getfield 7, 3) := by decide +kernel
theorem dX6_about_90 : decode cX6_about 90 = .ok (.bipush 49, 2) := by decide +kernel
theorem dX6_about_92 : decode cX6_about 92 = .ok (.iload_n 1, 1) := by decide +kernel
theorem dX6_about_93 : decode cX6_about 93 = .ok (.iadd, 1) := by decide +kernel
theorem dX6_about_94 : decode cX6_about 94 = .ok (.iaload, 1) := by decide +kernel
theorem dX6_about_95 : decode cX6_about 95 = .ok (.aload_n 0, 1) := by decide +kernel
theorem dX6_about_96 : decode cX6_about 96 = .ok (.getfield 7, 3) := by decide +kernel
theorem dX6_about_99 : decode cX6_about 99 = .ok (.bipush 54, 2) := by decide +kernel
theorem dX6_about_101 : decode cX6_about 101 = .ok (.iload_n 1, 1) := by decide +kernel
theorem dX6_about_102 : decode cX6_about 102 = .ok (.iadd, 1) := by decide +kernel
theorem dX6_about_103 : decode cX6_about 103 = .ok (.iaload, 1) := by decide +kernel
theorem dX6_about_104 : decode cX6_about 104 = .ok (.invokestatic 72, 3) := by decide +kernel
theorem dX6_about_107 : decode cX6_about 107 = .ok (.ireturn, 1) := by decide +kernel
theorem dX6_about_108 : decode cX6_about 108 = .ok (.aload_n 0, 1) := by decide +kernel
theorem dX6_about_109 : decode cX6_about 109 = .ok (.invokevirtual 200, 3) := by decide +kernel
theorem dX6_about_112 : decode cX6_about 112 = .ok (.ireturn, 1) := by decide +kernel
theorem dX6_taken_0 : decode cX6_taken 0 = .ok (.aload_n 0, 1) := by decide +kernel
theorem dX6_taken_1 : decode cX6_taken 1 = .ok (.iload_n 1, 1) := by decide +kernel
theorem dX6_taken_2 : decode cX6_taken 2 = .ok (.invokevirtual 194, 3) := by decide +kernel
theorem dX6_taken_5 : decode cX6_taken 5 = .ok (.ifCond .eq 25, 3) := by decide +kernel
theorem dX6_taken_8 : decode cX6_taken 8 = .ok (.iload_n 2, 1) := by decide +kernel
theorem dX6_taken_9 : decode cX6_taken 9 = .ok (.invokestatic 94, 3) := by decide +kernel
theorem dX6_taken_12 : decode cX6_taken 12 = .ok (.ifCond .eq 18, 3) := by decide +kernel
theorem dX6_taken_15 : decode cX6_taken 15 = .ok (.aload_n 0, 1) := by decide +kernel
theorem dX6_taken_16 : decode cX6_taken 16 = .ok (.getfield 7, 3) := by decide +kernel
theorem dX6_taken_19 : decode cX6_taken 19 = .ok (.iconst 5, 1) := by decide +kernel
theorem dX6_taken_20 : decode cX6_taken 20 = .ok (.iconst 4, 1) := by decide +kernel
theorem dX6_taken_21 : decode cX6_taken 21 = .ok (.iload_n 1, 1) := by decide +kernel
theorem dX6_taken_22 : decode cX6_taken 22 = .ok (.imul, 1) := by decide +kernel
theorem dX6_taken_23 : decode cX6_taken 23 = .ok (.iadd, 1) := by decide +kernel
theorem dX6_taken_24 : decode cX6_taken 24 = .ok (.iload_n 2, 1) := by decide +kernel
theorem dX6_taken_25 : decode cX6_taken 25 = .ok (.iadd, 1) := by decide +kernel
theorem dX6_taken_26 : decode cX6_taken 26 = .ok (.iaload, 1) := by decide +kernel
theorem dX6_taken_27 : decode cX6_taken 27 = .ok (.goto 7, 3) := by decide +kernel
theorem dX6_taken_30 : decode cX6_taken 30 = .ok (.aload_n 0, 1) := by decide +kernel
theorem dX6_taken_31 : decode cX6_taken 31 = .ok (.invokevirtual 100, 3) := by decide +kernel
theorem dX6_taken_34 : decode cX6_taken 34 = .ok (.ireturn, 1) := by decide +kernel
theorem dX6_takes_0 : decode cX6_takes 0 = .ok (.aload_n 0, 1) := by decide +kernel
theorem dX6_takes_1 : decode cX6_takes 1 = .ok (.iload_n 1, 1) := by decide +kernel
theorem dX6_takes_2 : decode cX6_takes 2 = .ok (.invokevirtual 194, 3) := by decide +kernel
theorem dX6_takes_5 : decode cX6_takes 5 = .ok (.ifCond .eq 24, 3) := by decide +kernel
theorem dX6_takes_8 : decode cX6_takes 8 = .ok (.aload_n 0, 1) := by decide +kernel
theorem dX6_takes_9 : decode cX6_takes 9 = .ok (.iload_n 2, 1) := by decide +kernel
theorem dX6_takes_10 : decode cX6_takes 10 = .ok (.invokevirtual 197, 3) := by decide +kernel
theorem dX6_takes_13 : decode cX6_takes 13 = .ok (.ifCond .eq 16, 3) := by decide +kernel
theorem dX6_takes_16 : decode cX6_takes 16 = .ok (.aload_n 0, 1) := by decide +kernel
theorem dX6_takes_17 : decode cX6_takes 17 = .ok (.aload_n 0, 1) := by decide +kernel
theorem dX6_takes_18 : decode cX6_takes 18 = .ok (.getfield 7, 3) := by decide +kernel
theorem dX6_takes_21 : decode cX6_takes 21 = .ok (.iload_n 1, 1) := by decide +kernel
theorem dX6_takes_22 : decode cX6_takes 22 = .ok (.iload_n 2, 1) := by decide +kernel
theorem dX6_takes_23 : decode cX6_takes 23 = .ok (.invokevirtual 64, 3) := by decide +kernel
theorem dX6_takes_26 : decode cX6_takes 26 = .ok (.goto 7, 3) := by decide +kernel
theorem dX6_takes_29 : decode cX6_takes 29 = .ok (.aload_n 0, 1) := by decide +kernel
theorem dX6_takes_30 : decode cX6_takes 30 = .ok (.invokevirtual 100, 3) := by decide +kernel
theorem dX6_takes_33 : decode cX6_takes 33 = .ok (.ireturn, 1) := by decide +kernel
theorem dX6_layYears_0 : decode cX6_layYears 0 = .ok (.aload_n 0, 1) := by decide +kernel
theorem dX6_layYears_1 : decode cX6_layYears 1 = .ok (.invokevirtual 216, 3) := by decide +kernel
theorem dX6_layYears_4 : decode cX6_layYears 4 = .ok (.iconst 0, 1) := by decide +kernel
theorem dX6_layYears_5 : decode cX6_layYears 5 = .ok (.istore_n 2, 1) := by decide +kernel
theorem dX6_layYears_6 : decode cX6_layYears 6 = .ok (.iload_n 2, 1) := by decide +kernel
theorem dX6_layYears_7 : decode cX6_layYears 7 = .ok (.iload_n 1, 1) := by decide +kernel
theorem dX6_layYears_8 : decode cX6_layYears 8 = .ok (.if_icmp .ge 17, 3) := by decide +kernel
theorem dX6_layYears_11 : decode cX6_layYears 11 = .ok (.aload_n 0, 1) := by decide +kernel
theorem dX6_layYears_12 : decode cX6_layYears 12 = .ok (.aload_n 0, 1) := by decide +kernel
theorem dX6_layYears_13 : decode cX6_layYears 13 = .ok (.getfield 16, 3) := by decide +kernel
theorem dX6_layYears_16 : decode cX6_layYears 16 = .ok (.invokevirtual 168, 3) := by decide +kernel
theorem dX6_layYears_19 : decode cX6_layYears 19 = .ok (.iinc 2 1, 3) := by decide +kernel
theorem dX6_layYears_22 : decode cX6_layYears 22 = .ok (.goto (-16), 3) := by decide +kernel
theorem dX6_layYears_25 : decode cX6_layYears 25 = .ok (.return_, 1) := by decide +kernel
theorem dX6_then_0 : decode cX6_then 0 = .ok (.aload_n 0, 1) := by decide +kernel
theorem dX6_then_1 : decode cX6_then 1 = .ok (.iload_n 1, 1) := by decide +kernel
theorem dX6_then_2 : decode cX6_then 2 = .ok (.invokevirtual 194, 3) := by decide +kernel
theorem dX6_then_5 : decode cX6_then 5 = .ok (.ifCond .eq 22, 3) := by decide +kernel
theorem dX6_then_8 : decode cX6_then 8 = .ok (.iload_n 2, 1) := by decide +kernel
theorem dX6_then_9 : decode cX6_then 9 = .ok (.invokestatic 94, 3) := by decide +kernel
theorem dX6_then_12 : decode cX6_then 12 = .ok (.ifCond .eq 15, 3) := by decide +kernel
theorem dX6_then_15 : decode cX6_then 15 = .ok (.iload_n 3, 1) := by decide +kernel
theorem dX6_then_16 : decode cX6_then 16 = .ok (.i2l, 1) := by decide +kernel
theorem dX6_then_17 : decode cX6_then 17 = .ok (.lconst 0, 1) := by decide +kernel
theorem dX6_then_18 : decode cX6_then 18 = .ok (.ldc2_w 219, 3) := by decide +kernel
theorem dX6_then_21 : decode cX6_then 21 = .ok (.invokestatic 86, 3) := by decide +kernel
theorem dX6_then_24 : decode cX6_then 24 = .ok (.ifCond .ne 8, 3) := by decide +kernel
theorem dX6_then_27 : decode cX6_then 27 = .ok (.aload_n 0, 1) := by decide +kernel
theorem dX6_then_28 : decode cX6_then 28 = .ok (.invokevirtual 100, 3) := by decide +kernel
theorem dX6_then_31 : decode cX6_then 31 = .ok (.ireturn, 1) := by decide +kernel
theorem dX6_then_32 : decode cX6_then 32 = .ok (.aload_n 0, 1) := by decide +kernel
theorem dX6_then_33 : decode cX6_then 33 = .ok (.iload_n 3, 1) := by decide +kernel
theorem dX6_then_34 : decode cX6_then 34 = .ok (.invokevirtual 221, 3) := by decide +kernel
theorem dX6_then_37 : decode cX6_then 37 = .ok (.aload_n 0, 1) := by decide +kernel
theorem dX6_then_38 : decode cX6_then 38 = .ok (.getfield 16, 3) := by decide +kernel
theorem dX6_then_41 : decode cX6_then 41 = .ok (.iconst 5, 1) := by decide +kernel
theorem dX6_then_42 : decode cX6_then 42 = .ok (.iconst 4, 1) := by decide +kernel
theorem dX6_then_43 : decode cX6_then 43 = .ok (.iload_n 1, 1) := by decide +kernel
theorem dX6_then_44 : decode cX6_then 44 = .ok (.imul, 1) := by decide +kernel
theorem dX6_then_45 : decode cX6_then 45 = .ok (.iadd, 1) := by decide +kernel
theorem dX6_then_46 : decode cX6_then 46 = .ok (.iload_n 2, 1) := by decide +kernel
theorem dX6_then_47 : decode cX6_then 47 = .ok (.iadd, 1) := by decide +kernel
theorem dX6_then_48 : decode cX6_then 48 = .ok (.iaload, 1) := by decide +kernel
theorem dX6_then_49 : decode cX6_then 49 = .ok (.ireturn, 1) := by decide +kernel
theorem dX6_depth_0 : decode cX6_depth 0 = .ok (.aload_n 0, 1) := by decide +kernel
theorem dX6_depth_1 : decode cX6_depth 1 = .ok (.iload_n 1, 1) := by decide +kernel
theorem dX6_depth_2 : decode cX6_depth 2 = .ok (.invokevirtual 197, 3) := by decide +kernel
theorem dX6_depth_5 : decode cX6_depth 5 = .ok (.ifCond .eq 15, 3) := by decide +kernel
theorem dX6_depth_8 : decode cX6_depth 8 = .ok (.iload_n 2, 1) := by decide +kernel
theorem dX6_depth_9 : decode cX6_depth 9 = .ok (.i2l, 1) := by decide +kernel
theorem dX6_depth_10 : decode cX6_depth 10 = .ok (.lconst 0, 1) := by decide +kernel
theorem dX6_depth_11 : decode cX6_depth 11 = .ok (.ldc2_w 219, 3) := by decide +kernel
theorem dX6_depth_14 : decode cX6_depth 14 = .ok (.invokestatic 86, 3) := by decide +kernel
theorem dX6_depth_17 : decode cX6_depth 17 = .ok (.ifCond .ne 8, 3) := by decide +kernel
theorem dX6_depth_20 : decode cX6_depth 20 = .ok (.aload_n 0, 1) := by decide +kernel
theorem dX6_depth_21 : decode cX6_depth 21 = .ok (.invokevirtual 100, 3) := by decide +kernel
theorem dX6_depth_24 : decode cX6_depth 24 = .ok (.ireturn, 1) := by decide +kernel
theorem dX6_depth_25 : decode cX6_depth 25 = .ok (.aload_n 0, 1) := by decide +kernel
theorem dX6_depth_26 : decode cX6_depth 26 = .ok (.iload_n 2, 1) := by decide +kernel
theorem dX6_depth_27 : decode cX6_depth 27 = .ok (.invokevirtual 221, 3) := by decide +kernel
theorem dX6_depth_30 : decode cX6_depth 30 = .ok (.aload_n 0, 1) := by decide +kernel
theorem dX6_depth_31 : decode cX6_depth 31 = .ok (.getfield 16, 3) := by decide +kernel
theorem dX6_depth_34 : decode cX6_depth 34 = .ok (.bipush 25, 2) := by decide +kernel
theorem dX6_depth_36 : decode cX6_depth 36 = .ok (.iload_n 1, 1) := by decide +kernel
theorem dX6_depth_37 : decode cX6_depth 37 = .ok (.iadd, 1) := by decide +kernel
theorem dX6_depth_38 : decode cX6_depth 38 = .ok (.iaload, 1) := by decide +kernel
theorem dX6_depth_39 : decode cX6_depth 39 = .ok (.ireturn, 1) := by decide +kernel
theorem dX6_untilTaken_0 : decode cX6_untilTaken 0 = .ok (.iconst 0, 1) := by decide +kernel
theorem dX6_untilTaken_1 : decode cX6_untilTaken 1 = .ok (.istore 4, 2) := by decide +kernel
theorem dX6_untilTaken_3 : decode cX6_untilTaken 3 = .ok (.iload 4, 2) := by decide +kernel
theorem dX6_untilTaken_5 : decode cX6_untilTaken 5 = .ok (.bipush 61, 2) := by decide +kernel
theorem dX6_untilTaken_7 : decode cX6_untilTaken 7 = .ok (.if_icmp .ge 36, 3) := by decide +kernel
theorem dX6_untilTaken_10 : decode cX6_untilTaken 10 = .ok (.aload_n 0, 1) := by decide +kernel
theorem dX6_untilTaken_11 : decode cX6_untilTaken 11 = .ok (.getfield 16, 3) := by decide +kernel
theorem dX6_untilTaken_14 : decode cX6_untilTaken 14 = .ok (.iconst 5, 1) := by decide +kernel
theorem dX6_untilTaken_15 : decode cX6_untilTaken 15 = .ok (.iconst 4, 1) := by decide +kernel
theorem dX6_untilTaken_16 : decode cX6_untilTaken 16 = .ok (.iload_n 1, 1) := by decide +kernel
theorem dX6_untilTaken_17 : decode cX6_untilTaken 17 = .ok (.imul, 1) := by decide +kernel
theorem dX6_untilTaken_18 : decode cX6_untilTaken 18 = .ok (.iadd, 1) := by decide +kernel
theorem dX6_untilTaken_19 : decode cX6_untilTaken 19 = .ok (.iload_n 2, 1) := by decide +kernel
theorem dX6_untilTaken_20 : decode cX6_untilTaken 20 = .ok (.iadd, 1) := by decide +kernel
theorem dX6_untilTaken_21 : decode cX6_untilTaken 21 = .ok (.iaload, 1) := by decide +kernel
theorem dX6_untilTaken_22 : decode cX6_untilTaken 22 = .ok (.iload_n 3, 1) := by decide +kernel
theorem dX6_untilTaken_23 : decode cX6_untilTaken 23 = .ok (.if_icmp .lt 6, 3) := by decide +kernel
theorem dX6_untilTaken_26 : decode cX6_untilTaken 26 = .ok (.iload 4, 2) := by decide +kernel
theorem dX6_untilTaken_28 : decode cX6_untilTaken 28 = .ok (.ireturn, 1) := by decide +kernel
theorem dX6_untilTaken_29 : decode cX6_untilTaken 29 = .ok (.aload_n 0, 1) := by decide +kernel
theorem dX6_untilTaken_30 : decode cX6_untilTaken 30 = .ok (.aload_n 0, 1) := by decide +kernel
theorem dX6_untilTaken_31 : decode cX6_untilTaken 31 = .ok (.getfield 16, 3) := by decide +kernel
theorem dX6_untilTaken_34 : decode cX6_untilTaken 34 = .ok (.invokevirtual 168, 3) := by decide +kernel
theorem dX6_untilTaken_37 : decode cX6_untilTaken 37 = .ok (.iinc 4 1, 3) := by decide +kernel
theorem dX6_untilTaken_40 : decode cX6_untilTaken 40 = .ok (.goto (-37), 3) := by decide +kernel
theorem dX6_untilTaken_43 : decode cX6_untilTaken 43 = .ok (.iconst (-1), 1) := by decide +kernel
theorem dX6_untilTaken_44 : decode cX6_untilTaken 44 = .ok (.ireturn, 1) := by decide +kernel
theorem dX6_when_0 : decode cX6_when 0 = .ok (.aload_n 0, 1) := by decide +kernel
theorem dX6_when_1 : decode cX6_when 1 = .ok (.iload_n 1, 1) := by decide +kernel
theorem dX6_when_2 : decode cX6_when 2 = .ok (.invokevirtual 194, 3) := by decide +kernel
theorem dX6_when_5 : decode cX6_when 5 = .ok (.ifCond .eq 22, 3) := by decide +kernel
theorem dX6_when_8 : decode cX6_when 8 = .ok (.iload_n 2, 1) := by decide +kernel
theorem dX6_when_9 : decode cX6_when 9 = .ok (.invokestatic 94, 3) := by decide +kernel
theorem dX6_when_12 : decode cX6_when 12 = .ok (.ifCond .eq 15, 3) := by decide +kernel
theorem dX6_when_15 : decode cX6_when 15 = .ok (.iload_n 3, 1) := by decide +kernel
theorem dX6_when_16 : decode cX6_when 16 = .ok (.i2l, 1) := by decide +kernel
theorem dX6_when_17 : decode cX6_when 17 = .ok (.lconst 1, 1) := by decide +kernel
theorem dX6_when_18 : decode cX6_when 18 = .ok (.ldc2_w 225, 3) := by decide +kernel
theorem dX6_when_21 : decode cX6_when 21 = .ok (.invokestatic 86, 3) := by decide +kernel
theorem dX6_when_24 : decode cX6_when 24 = .ok (.ifCond .ne 8, 3) := by decide +kernel
theorem dX6_when_27 : decode cX6_when 27 = .ok (.aload_n 0, 1) := by decide +kernel
theorem dX6_when_28 : decode cX6_when 28 = .ok (.invokevirtual 100, 3) := by decide +kernel
theorem dX6_when_31 : decode cX6_when 31 = .ok (.ireturn, 1) := by decide +kernel
theorem dX6_when_32 : decode cX6_when 32 = .ok (.aload_n 0, 1) := by decide +kernel
theorem dX6_when_33 : decode cX6_when 33 = .ok (.invokevirtual 216, 3) := by decide +kernel
theorem dX6_when_36 : decode cX6_when 36 = .ok (.aload_n 0, 1) := by decide +kernel
theorem dX6_when_37 : decode cX6_when 37 = .ok (.iload_n 1, 1) := by decide +kernel
theorem dX6_when_38 : decode cX6_when 38 = .ok (.iload_n 2, 1) := by decide +kernel
theorem dX6_when_39 : decode cX6_when 39 = .ok (.iload_n 3, 1) := by decide +kernel
theorem dX6_when_40 : decode cX6_when 40 = .ok (.invokevirtual 227, 3) := by decide +kernel
theorem dX6_when_43 : decode cX6_when 43 = .ok (.ireturn, 1) := by decide +kernel
theorem dX6_first_0 : decode cX6_first 0 = .ok (.iload_n 1, 1) := by decide +kernel
theorem dX6_first_1 : decode cX6_first 1 = .ok (.invokestatic 94, 3) := by decide +kernel
theorem dX6_first_4 : decode cX6_first 4 = .ok (.ifCond .eq 13, 3) := by decide +kernel
theorem dX6_first_7 : decode cX6_first 7 = .ok (.iload_n 2, 1) := by decide +kernel
theorem dX6_first_8 : decode cX6_first 8 = .ok (.i2l, 1) := by decide +kernel
theorem dX6_first_9 : decode cX6_first 9 = .ok (.lconst 0, 1) := by decide +kernel
theorem dX6_first_10 : decode cX6_first 10 = .ok (.lconst 1, 1) := by decide +kernel
theorem dX6_first_11 : decode cX6_first 11 = .ok (.invokestatic 86, 3) := by decide +kernel
theorem dX6_first_14 : decode cX6_first 14 = .ok (.ifCond .ne 8, 3) := by decide +kernel
theorem dX6_first_17 : decode cX6_first 17 = .ok (.aload_n 0, 1) := by decide +kernel
theorem dX6_first_18 : decode cX6_first 18 = .ok (.invokevirtual 100, 3) := by decide +kernel
theorem dX6_first_21 : decode cX6_first 21 = .ok (.ireturn, 1) := by decide +kernel
theorem dX6_first_22 : decode cX6_first 22 = .ok (.aload_n 0, 1) := by decide +kernel
theorem dX6_first_23 : decode cX6_first 23 = .ok (.invokevirtual 216, 3) := by decide +kernel
theorem dX6_first_26 : decode cX6_first 26 = .ok (.iconst 0, 1) := by decide +kernel
theorem dX6_first_27 : decode cX6_first 27 = .ok (.istore_n 3, 1) := by decide +kernel
theorem dX6_first_28 : decode cX6_first 28 = .ok (.iload_n 3, 1) := by decide +kernel
theorem dX6_first_29 : decode cX6_first 29 = .ok (.bipush 61, 2) := by decide +kernel
theorem dX6_first_31 : decode cX6_first 31 = .ok (.if_icmp .ge 62, 3) := by decide +kernel
theorem dX6_first_34 : decode cX6_first 34 = .ok (.iconst 0, 1) := by decide +kernel
theorem dX6_first_35 : decode cX6_first 35 = .ok (.istore 4, 2) := by decide +kernel
theorem dX6_first_37 : decode cX6_first 37 = .ok (.iload 4, 2) := by decide +kernel
theorem dX6_first_39 : decode cX6_first 39 = .ok (.aload_n 0, 1) := by decide +kernel
theorem dX6_first_40 : decode cX6_first 40 = .ok (.getfield 7, 3) := by decide +kernel
theorem dX6_first_43 : decode cX6_first 43 = .ok (.bipush 48, 2) := by decide +kernel
theorem dX6_first_45 : decode cX6_first 45 = .ok (.iaload, 1) := by decide +kernel
theorem dX6_first_46 : decode cX6_first 46 = .ok (.if_icmp .ge 33, 3) := by decide +kernel
theorem dX6_first_49 : decode cX6_first 49 = .ok (.aload_n 0, 1) := by decide +kernel
theorem dX6_first_50 : decode cX6_first 50 = .ok (.getfield 16, 3) := by decide +kernel
theorem dX6_first_53 : decode cX6_first 53 = .ok (.iload 4, 2) := by decide +kernel
theorem dX6_first_55 : decode cX6_first 55 = .ok (.invokestatic 78, 3) := by decide +kernel
theorem dX6_first_58 : decode cX6_first 58 = .ok (.iload_n 1, 1) := by decide +kernel
theorem dX6_first_59 : decode cX6_first 59 = .ok (.if_icmp .ne 14, 3) := by decide +kernel
theorem dX6_first_62 : decode cX6_first 62 = .ok (.iload_n 2, 1) := by decide +kernel
theorem dX6_first_63 : decode cX6_first 63 = .ok (.ifCond .ne 8, 3) := by decide +kernel
theorem dX6_first_66 : decode cX6_first 66 = .ok (.iload 4, 2) := by decide +kernel
theorem dX6_first_68 : decode cX6_first 68 = .ok (.goto 4, 3) := by decide +kernel
theorem dX6_first_71 : decode cX6_first 71 = .ok (.iload_n 3, 1) := by decide +kernel
theorem dX6_first_72 : decode cX6_first 72 = .ok (.ireturn, 1) := by decide +kernel
theorem dX6_first_73 : decode cX6_first 73 = .ok (.iinc 4 1, 3) := by decide +kernel
theorem dX6_first_76 : decode cX6_first 76 = .ok (.goto (-39), 3) := by decide +kernel
theorem dX6_first_79 : decode cX6_first 79 = .ok (.aload_n 0, 1) := by decide +kernel
theorem dX6_first_80 : decode cX6_first 80 = .ok (.aload_n 0, 1) := by decide +kernel
theorem dX6_first_81 : decode cX6_first 81 = .ok (.getfield 16, 3) := by decide +kernel
theorem dX6_first_84 : decode cX6_first 84 = .ok (.invokevirtual 168, 3) := by decide +kernel
theorem dX6_first_87 : decode cX6_first 87 = .ok (.iinc 3 1, 3) := by decide +kernel
theorem dX6_first_90 : decode cX6_first 90 = .ok (.goto (-62), 3) := by decide +kernel
theorem dX6_first_93 : decode cX6_first 93 = .ok (.iconst (-1), 1) := by decide +kernel
theorem dX6_first_94 : decode cX6_first 94 = .ok (.ireturn, 1) := by decide +kernel
theorem dX6_blank_0 : decode cX6_blank 0 = .ok (.aload_n 0, 1) := by decide +kernel
theorem dX6_blank_1 : decode cX6_blank 1 = .ok (.iload_n 1, 1) := by decide +kernel
theorem dX6_blank_2 : decode cX6_blank 2 = .ok (.invokevirtual 197, 3) := by decide +kernel
theorem dX6_blank_5 : decode cX6_blank 5 = .ok (.ifCond .ne 8, 3) := by decide +kernel
theorem dX6_blank_8 : decode cX6_blank 8 = .ok (.aload_n 0, 1) := by decide +kernel
theorem dX6_blank_9 : decode cX6_blank 9 = .ok (.invokevirtual 100, 3) := by decide +kernel
theorem dX6_blank_12 : decode cX6_blank 12 = .ok (.ireturn, 1) := by decide +kernel
theorem dX6_blank_13 : decode cX6_blank 13 = .ok (.aload_n 0, 1) := by decide +kernel
theorem dX6_blank_14 : decode cX6_blank 14 = .ok (.invokevirtual 216, 3) := by decide +kernel
theorem dX6_blank_17 : decode cX6_blank 17 = .ok (.iconst 0, 1) := by decide +kernel
theorem dX6_blank_18 : decode cX6_blank 18 = .ok (.istore_n 2, 1) := by decide +kernel
theorem dX6_blank_19 : decode cX6_blank 19 = .ok (.iload_n 2, 1) := by decide +kernel
theorem dX6_blank_20 : decode cX6_blank 20 = .ok (.bipush 61, 2) := by decide +kernel
theorem dX6_blank_22 : decode cX6_blank 22 = .ok (.if_icmp .ge 51, 3) := by decide +kernel
theorem dX6_blank_25 : decode cX6_blank 25 = .ok (.aload_n 0, 1) := by decide +kernel
theorem dX6_blank_26 : decode cX6_blank 26 = .ok (.getfield 7, 3) := by decide +kernel
theorem dX6_blank_29 : decode cX6_blank 29 = .ok (.bipush 34, 2) := by decide +kernel
theorem dX6_blank_31 : decode cX6_blank 31 = .ok (.iload_n 1, 1) := by decide +kernel
theorem dX6_blank_32 : decode cX6_blank 32 = .ok (.iadd, 1) := by decide +kernel
theorem dX6_blank_33 : decode cX6_blank 33 = .ok (.iaload, 1) := by decide +kernel
theorem dX6_blank_34 : decode cX6_blank 34 = .ok (.aload_n 0, 1) := by decide +kernel
theorem dX6_blank_35 : decode cX6_blank 35 = .ok (.getfield 16, 3) := by decide +kernel
theorem dX6_blank_38 : decode cX6_blank 38 = .ok (.bipush 25, 2) := by decide +kernel
theorem dX6_blank_40 : decode cX6_blank 40 = .ok (.iload_n 1, 1) := by decide +kernel
theorem dX6_blank_41 : decode cX6_blank 41 = .ok (.iadd, 1) := by decide +kernel
theorem dX6_blank_42 : decode cX6_blank 42 = .ok (.iaload, 1) := by decide +kernel
theorem dX6_blank_43 : decode cX6_blank 43 = .ok (.iconst 0, 1) := by decide +kernel
theorem dX6_blank_44 : decode cX6_blank 44 = .ok (.aload_n 0, 1) := by decide +kernel
theorem dX6_blank_45 : decode cX6_blank 45 = .ok (.getfield 16, 3) := by decide +kernel
theorem dX6_blank_48 : decode cX6_blank 48 = .ok (.bipush 32, 2) := by decide +kernel
theorem dX6_blank_50 : decode cX6_blank 50 = .ok (.iaload, 1) := by decide +kernel
theorem dX6_blank_51 : decode cX6_blank 51 = .ok (.invokestatic 56, 3) := by decide +kernel
theorem dX6_blank_54 : decode cX6_blank 54 = .ok (.ifCond .ne 5, 3) := by decide +kernel
theorem dX6_blank_57 : decode cX6_blank 57 = .ok (.iload_n 2, 1) := by decide +kernel
theorem dX6_blank_58 : decode cX6_blank 58 = .ok (.ireturn, 1) := by decide +kernel
theorem dX6_blank_59 : decode cX6_blank 59 = .ok (.aload_n 0, 1) := by decide +kernel
theorem dX6_blank_60 : decode cX6_blank 60 = .ok (.aload_n 0, 1) := by decide +kernel
theorem dX6_blank_61 : decode cX6_blank 61 = .ok (.getfield 16, 3) := by decide +kernel
theorem dX6_blank_64 : decode cX6_blank 64 = .ok (.invokevirtual 168, 3) := by decide +kernel
theorem dX6_blank_67 : decode cX6_blank 67 = .ok (.iinc 2 1, 3) := by decide +kernel
theorem dX6_blank_70 : decode cX6_blank 70 = .ok (.goto (-51), 3) := by decide +kernel
theorem dX6_blank_73 : decode cX6_blank 73 = .ok (.iconst (-1), 1) := by decide +kernel
theorem dX6_blank_74 : decode cX6_blank 74 = .ok (.ireturn, 1) := by decide +kernel
theorem dX6_place_0 : decode cX6_place 0 = .ok (.aload_n 0, 1) := by decide +kernel
theorem dX6_place_1 : decode cX6_place 1 = .ok (.iload_n 1, 1) := by decide +kernel
theorem dX6_place_2 : decode cX6_place 2 = .ok (.invokevirtual 194, 3) := by decide +kernel
theorem dX6_place_5 : decode cX6_place 5 = .ok (.ifCond .eq 33, 3) := by decide +kernel
theorem dX6_place_8 : decode cX6_place 8 = .ok (.iload_n 2, 1) := by decide +kernel
theorem dX6_place_9 : decode cX6_place 9 = .ok (.invokestatic 94, 3) := by decide +kernel
theorem dX6_place_12 : decode cX6_place 12 = .ok (.ifCond .eq 26, 3) := by decide +kernel
theorem dX6_place_15 : decode cX6_place 15 = .ok (.iload_n 3, 1) := by decide +kernel
theorem dX6_place_16 : decode cX6_place 16 = .ok (.i2l, 1) := by decide +kernel
theorem dX6_place_17 : decode cX6_place 17 = .ok (.lconst 1, 1) := by decide +kernel
theorem dX6_place_18 : decode cX6_place 18 = .ok (.ldc2_w 225, 3) := by decide +kernel
theorem dX6_place_21 : decode cX6_place 21 = .ok (.invokestatic 86, 3) := by decide +kernel
theorem dX6_place_24 : decode cX6_place 24 = .ok (.ifCond .eq 14, 3) := by decide +kernel
theorem dX6_place_27 : decode cX6_place 27 = .ok (.iload 4, 2) := by decide +kernel
theorem dX6_place_29 : decode cX6_place 29 = .ok (.i2l, 1) := by decide +kernel
theorem dX6_place_30 : decode cX6_place 30 = .ok (.lconst 0, 1) := by decide +kernel
theorem dX6_place_31 : decode cX6_place 31 = .ok (.lconst 1, 1) := by decide +kernel
theorem dX6_place_32 : decode cX6_place 32 = .ok (.invokestatic 86, 3) := by decide +kernel
theorem dX6_place_35 : decode cX6_place 35 = .ok (.ifCond .ne 8, 3) := by decide +kernel
theorem dX6_place_38 : decode cX6_place 38 = .ok (.aload_n 0, 1) := by decide +kernel
theorem dX6_place_39 : decode cX6_place 39 = .ok (.invokevirtual 100, 3) := by decide +kernel
theorem dX6_place_42 : decode cX6_place 42 = .ok (.ireturn, 1) := by decide +kernel
theorem dX6_place_43 : decode cX6_place 43 = .ok (.iconst (-1), 1) := by decide +kernel
theorem dX6_place_44 : decode cX6_place 44 = .ok (.istore 5, 2) := by decide +kernel
theorem dX6_place_46 : decode cX6_place 46 = .ok (.ldc 230, 2) := by decide +kernel
theorem dX6_place_48 : decode cX6_place 48 = .ok (.istore 6, 2) := by decide +kernel
theorem dX6_place_50 : decode cX6_place 50 = .ok (.iconst 0, 1) := by decide +kernel
theorem dX6_place_51 : decode cX6_place 51 = .ok (.istore 7, 2) := by decide +kernel
theorem dX6_place_53 : decode cX6_place 53 = .ok (.iload 7, 2) := by decide +kernel
theorem dX6_place_55 : decode cX6_place 55 = .ok (.aload_n 0, 1) := by decide +kernel
theorem dX6_place_56 : decode cX6_place 56 = .ok (.getfield 7, 3) := by decide +kernel
theorem dX6_place_59 : decode cX6_place 59 = .ok (.bipush 33, 2) := by decide +kernel
theorem dX6_place_61 : decode cX6_place 61 = .ok (.iaload, 1) := by decide +kernel
theorem dX6_place_62 : decode cX6_place 62 = .ok (.if_icmp .ge 99, 3) := by decide +kernel
theorem dX6_place_65 : decode cX6_place 65 = .ok (.aload_n 0, 1) := by decide +kernel
theorem dX6_place_66 : decode cX6_place 66 = .ok (.getfield 7, 3) := by decide +kernel
theorem dX6_place_69 : decode cX6_place 69 = .ok (.iload 7, 2) := by decide +kernel
theorem dX6_place_71 : decode cX6_place 71 = .ok (.invokestatic 162, 3) := by decide +kernel
theorem dX6_place_74 : decode cX6_place 74 = .ok (.istore 8, 2) := by decide +kernel
theorem dX6_place_76 : decode cX6_place 76 = .ok (.iload 8, 2) := by decide +kernel
theorem dX6_place_78 : decode cX6_place 78 = .ok (.iconst (-1), 1) := by decide +kernel
theorem dX6_place_79 : decode cX6_place 79 = .ok (.if_icmp .eq 9, 3) := by decide +kernel
theorem dX6_place_82 : decode cX6_place 82 = .ok (.iload 8, 2) := by decide +kernel
theorem dX6_place_84 : decode cX6_place 84 = .ok (.iload_n 1, 1) := by decide +kernel
theorem dX6_place_85 : decode cX6_place 85 = .ok (.if_icmp .ne 70, 3) := by decide +kernel
theorem dX6_place_88 : decode cX6_place 88 = .ok (.aload_n 0, 1) := by decide +kernel
theorem dX6_place_89 : decode cX6_place 89 = .ok (.invokevirtual 216, 3) := by decide +kernel
theorem dX6_place_92 : decode cX6_place 92 = .ok (.aload_n 0, 1) := by decide +kernel
theorem dX6_place_93 : decode cX6_place 93 = .ok (.getfield 16, 3) := by decide +kernel
theorem dX6_place_96 : decode cX6_place 96 = .ok (.iconst 0, 1) := by decide +kernel
theorem dX6_place_97 : decode cX6_place 97 = .ok (.iload_n 1, 1) := by decide +kernel
theorem dX6_place_98 : decode cX6_place 98 = .ok (.iadd, 1) := by decide +kernel
theorem dX6_place_99 : decode cX6_place 99 = .ok (.iload 7, 2) := by decide +kernel
theorem dX6_place_101 : decode cX6_place 101 = .ok (.iastore, 1) := by decide +kernel
theorem dX6_place_102 : decode cX6_place 102 = .ok (.aload_n 0, 1) := by decide +kernel
theorem dX6_place_103 : decode cX6_place 103 = .ok (.iload_n 1, 1) := by decide +kernel
theorem dX6_place_104 : decode cX6_place 104 = .ok (.iload_n 2, 1) := by decide +kernel
theorem dX6_place_105 : decode cX6_place 105 = .ok (.iload_n 3, 1) := by decide +kernel
theorem dX6_place_106 : decode cX6_place 106 = .ok (.invokevirtual 227, 3) := by decide +kernel
theorem dX6_place_109 : decode cX6_place 109 = .ok (.istore 9, 2) := by decide +kernel
theorem dX6_place_111 : decode cX6_place 111 = .ok (.iload 9, 2) := by decide +kernel
theorem dX6_place_113 : decode cX6_place 113 = .ok (.iconst (-1), 1) := by decide +kernel
theorem dX6_place_114 : decode cX6_place 114 = .ok (.if_icmp .eq 15, 3) := by decide +kernel
theorem dX6_place_117 : decode cX6_place 117 = .ok (.iload 9, 2) := by decide +kernel
theorem dX6_place_119 : decode cX6_place 119 = .ok (.iload 6, 2) := by decide +kernel
theorem dX6_place_121 : decode cX6_place 121 = .ok (.if_icmp .ge 8, 3) := by decide +kernel
theorem dX6_place_124 : decode cX6_place 124 = .ok (.iload 7, 2) := by decide +kernel
theorem dX6_place_126 : decode cX6_place 126 = .ok (.goto 5, 3) := by decide +kernel
theorem dX6_place_129 : decode cX6_place 129 = .ok (.iload 5, 2) := by decide +kernel
theorem dX6_place_131 : decode cX6_place 131 = .ok (.istore 5, 2) := by decide +kernel
theorem dX6_place_133 : decode cX6_place 133 = .ok (.iload 9, 2) := by decide +kernel
theorem dX6_place_135 : decode cX6_place 135 = .ok (.iconst (-1), 1) := by decide +kernel
theorem dX6_place_136 : decode cX6_place 136 = .ok (.if_icmp .eq 15, 3) := by decide +kernel
theorem dX6_place_139 : decode cX6_place 139 = .ok (.iload 9, 2) := by decide +kernel
theorem dX6_place_141 : decode cX6_place 141 = .ok (.iload 6, 2) := by decide +kernel
theorem dX6_place_143 : decode cX6_place 143 = .ok (.if_icmp .ge 8, 3) := by decide +kernel
theorem dX6_place_146 : decode cX6_place 146 = .ok (.iload 9, 2) := by decide +kernel
theorem dX6_place_148 : decode cX6_place 148 = .ok (.goto 5, 3) := by decide +kernel
theorem dX6_place_151 : decode cX6_place 151 = .ok (.iload 6, 2) := by decide +kernel
theorem dX6_place_153 : decode cX6_place 153 = .ok (.istore 6, 2) := by decide +kernel
theorem dX6_place_155 : decode cX6_place 155 = .ok (.iinc 7 1, 3) := by decide +kernel
theorem dX6_place_158 : decode cX6_place 158 = .ok (.goto (-105), 3) := by decide +kernel
theorem dX6_place_161 : decode cX6_place 161 = .ok (.iload 5, 2) := by decide +kernel
theorem dX6_place_163 : decode cX6_place 163 = .ok (.iconst (-1), 1) := by decide +kernel
theorem dX6_place_164 : decode cX6_place 164 = .ok (.if_icmp .ne 7, 3) := by decide +kernel
theorem dX6_place_167 : decode cX6_place 167 = .ok (.iconst (-1), 1) := by decide +kernel
theorem dX6_place_168 : decode cX6_place 168 = .ok (.goto 15, 3) := by decide +kernel
theorem dX6_place_171 : decode cX6_place 171 = .ok (.iload 4, 2) := by decide +kernel
theorem dX6_place_173 : decode cX6_place 173 = .ok (.ifCond .ne 8, 3) := by decide +kernel
theorem dX6_place_176 : decode cX6_place 176 = .ok (.iload 5, 2) := by decide +kernel
theorem dX6_place_178 : decode cX6_place 178 = .ok (.goto 5, 3) := by decide +kernel
theorem dX6_place_181 : decode cX6_place 181 = .ok (.iload 6, 2) := by decide +kernel
theorem dX6_place_183 : decode cX6_place 183 = .ok (.ireturn, 1) := by decide +kernel
theorem dX6_wish_0 : decode cX6_wish 0 = .ok (.aload_n 0, 1) := by decide +kernel
theorem dX6_wish_1 : decode cX6_wish 1 = .ok (.iload_n 1, 1) := by decide +kernel
theorem dX6_wish_2 : decode cX6_wish 2 = .ok (.invokevirtual 194, 3) := by decide +kernel
theorem dX6_wish_5 : decode cX6_wish 5 = .ok (.ifCond .eq 22, 3) := by decide +kernel
theorem dX6_wish_8 : decode cX6_wish 8 = .ok (.iload_n 2, 1) := by decide +kernel
theorem dX6_wish_9 : decode cX6_wish 9 = .ok (.invokestatic 94, 3) := by decide +kernel
theorem dX6_wish_12 : decode cX6_wish 12 = .ok (.ifCond .eq 15, 3) := by decide +kernel
theorem dX6_wish_15 : decode cX6_wish 15 = .ok (.iload_n 3, 1) := by decide +kernel
theorem dX6_wish_16 : decode cX6_wish 16 = .ok (.i2l, 1) := by decide +kernel
theorem dX6_wish_17 : decode cX6_wish 17 = .ok (.lconst 0, 1) := by decide +kernel
theorem dX6_wish_18 : decode cX6_wish 18 = .ok (.ldc2_w 225, 3) := by decide +kernel
theorem dX6_wish_21 : decode cX6_wish 21 = .ok (.invokestatic 86, 3) := by decide +kernel
theorem dX6_wish_24 : decode cX6_wish 24 = .ok (.ifCond .ne 8, 3) := by decide +kernel
theorem dX6_wish_27 : decode cX6_wish 27 = .ok (.aload_n 0, 1) := by decide +kernel
theorem dX6_wish_28 : decode cX6_wish 28 = .ok (.invokevirtual 100, 3) := by decide +kernel
theorem dX6_wish_31 : decode cX6_wish 31 = .ok (.ireturn, 1) := by decide +kernel
theorem dX6_wish_32 : decode cX6_wish 32 = .ok (.aload_n 0, 1) := by decide +kernel
theorem dX6_wish_33 : decode cX6_wish 33 = .ok (.getfield 7, 3) := by decide +kernel
theorem dX6_wish_36 : decode cX6_wish 36 = .ok (.bipush 59, 2) := by decide +kernel
theorem dX6_wish_38 : decode cX6_wish 38 = .ok (.iaload, 1) := by decide +kernel
theorem dX6_wish_39 : decode cX6_wish 39 = .ok (.bipush 6, 2) := by decide +kernel
theorem dX6_wish_41 : decode cX6_wish 41 = .ok (.if_icmp .ne 11, 3) := by decide +kernel
theorem dX6_wish_44 : decode cX6_wish 44 = .ok (.aload_n 0, 1) := by decide +kernel
theorem dX6_wish_45 : decode cX6_wish 45 = .ok (.iconst 2, 1) := by decide +kernel
theorem dX6_wish_46 : decode cX6_wish 46 = .ok (.bipush (-4), 2) := by decide +kernel
theorem dX6_wish_48 : decode cX6_wish 48 = .ok (.invokevirtual 52, 3) := by decide +kernel
theorem dX6_wish_51 : decode cX6_wish 51 = .ok (.ireturn, 1) := by decide +kernel
theorem dX6_wish_52 : decode cX6_wish 52 = .ok (.bipush 60, 2) := by decide +kernel
theorem dX6_wish_54 : decode cX6_wish 54 = .ok (.iconst 3, 1) := by decide +kernel
theorem dX6_wish_55 : decode cX6_wish 55 = .ok (.aload_n 0, 1) := by decide +kernel
theorem dX6_wish_56 : decode cX6_wish 56 = .ok (.getfield 7, 3) := by decide +kernel
theorem dX6_wish_59 : decode cX6_wish 59 = .ok (.bipush 59, 2) := by decide +kernel
theorem dX6_wish_61 : decode cX6_wish 61 = .ok (.iaload, 1) := by decide +kernel
theorem dX6_wish_62 : decode cX6_wish 62 = .ok (.imul, 1) := by decide +kernel
theorem dX6_wish_63 : decode cX6_wish 63 = .ok (.iadd, 1) := by decide +kernel
theorem dX6_wish_64 : decode cX6_wish 64 = .ok (.istore 4, 2) := by decide +kernel
theorem dX6_wish_66 : decode cX6_wish 66 = .ok (.aload_n 0, 1) := by decide +kernel
theorem dX6_wish_67 : decode cX6_wish 67 = .ok (.getfield 7, 3) := by decide +kernel
theorem dX6_wish_70 : decode cX6_wish 70 = .ok (.iload 4, 2) := by decide +kernel
theorem dX6_wish_72 : decode cX6_wish 72 = .ok (.iload_n 1, 1) := by decide +kernel
theorem dX6_wish_73 : decode cX6_wish 73 = .ok (.iastore, 1) := by decide +kernel
theorem dX6_wish_74 : decode cX6_wish 74 = .ok (.aload_n 0, 1) := by decide +kernel
theorem dX6_wish_75 : decode cX6_wish 75 = .ok (.getfield 7, 3) := by decide +kernel
theorem dX6_wish_78 : decode cX6_wish 78 = .ok (.iload 4, 2) := by decide +kernel
theorem dX6_wish_80 : decode cX6_wish 80 = .ok (.iconst 1, 1) := by decide +kernel
theorem dX6_wish_81 : decode cX6_wish 81 = .ok (.iadd, 1) := by decide +kernel
theorem dX6_wish_82 : decode cX6_wish 82 = .ok (.iload_n 2, 1) := by decide +kernel
theorem dX6_wish_83 : decode cX6_wish 83 = .ok (.iastore, 1) := by decide +kernel
theorem dX6_wish_84 : decode cX6_wish 84 = .ok (.aload_n 0, 1) := by decide +kernel
theorem dX6_wish_85 : decode cX6_wish 85 = .ok (.getfield 7, 3) := by decide +kernel
theorem dX6_wish_88 : decode cX6_wish 88 = .ok (.iload 4, 2) := by decide +kernel
theorem dX6_wish_90 : decode cX6_wish 90 = .ok (.iconst 2, 1) := by decide +kernel
theorem dX6_wish_91 : decode cX6_wish 91 = .ok (.iadd, 1) := by decide +kernel
theorem dX6_wish_92 : decode cX6_wish 92 = .ok (.iload_n 3, 1) := by decide +kernel
theorem dX6_wish_93 : decode cX6_wish 93 = .ok (.iastore, 1) := by decide +kernel
theorem dX6_wish_94 : decode cX6_wish 94 = .ok (.aload_n 0, 1) := by decide +kernel
theorem dX6_wish_95 : decode cX6_wish 95 = .ok (.getfield 7, 3) := by decide +kernel
theorem dX6_wish_98 : decode cX6_wish 98 = .ok (.bipush 59, 2) := by decide +kernel
theorem dX6_wish_100 : decode cX6_wish 100 = .ok (.dup2, 1) := by decide +kernel
theorem dX6_wish_101 : decode cX6_wish 101 = .ok (.iaload, 1) := by decide +kernel
theorem dX6_wish_102 : decode cX6_wish 102 = .ok (.iconst 1, 1) := by decide +kernel
theorem dX6_wish_103 : decode cX6_wish 103 = .ok (.iadd, 1) := by decide +kernel
theorem dX6_wish_104 : decode cX6_wish 104 = .ok (.iastore, 1) := by decide +kernel
theorem dX6_wish_105 : decode cX6_wish 105 = .ok (.aload_n 0, 1) := by decide +kernel
theorem dX6_wish_106 : decode cX6_wish 106 = .ok (.getfield 7, 3) := by decide +kernel
theorem dX6_wish_109 : decode cX6_wish 109 = .ok (.bipush 59, 2) := by decide +kernel
theorem dX6_wish_111 : decode cX6_wish 111 = .ok (.iaload, 1) := by decide +kernel
theorem dX6_wish_112 : decode cX6_wish 112 = .ok (.ireturn, 1) := by decide +kernel
theorem dX6_fulfilled_0 : decode cX6_fulfilled 0 = .ok (.aload_n 0, 1) := by decide +kernel
theorem dX6_fulfilled_1 : decode cX6_fulfilled 1 = .ok (.invokevirtual 216, 3) := by decide +kernel
theorem dX6_fulfilled_4 : decode cX6_fulfilled 4 = .ok (.aload_n 0, 1) := by decide +kernel
theorem dX6_fulfilled_5 : decode cX6_fulfilled 5 = .ok (.getfield 16, 3) := by decide +kernel
theorem dX6_fulfilled_8 : decode cX6_fulfilled 8 = .ok (.iconst 0, 1) := by decide +kernel
theorem dX6_fulfilled_9 : decode cX6_fulfilled 9 = .ok (.iload_n 1, 1) := by decide +kernel
theorem dX6_fulfilled_10 : decode cX6_fulfilled 10 = .ok (.iadd, 1) := by decide +kernel
theorem dX6_fulfilled_11 : decode cX6_fulfilled 11 = .ok (.iload_n 2, 1) := by decide +kernel
theorem dX6_fulfilled_12 : decode cX6_fulfilled 12 = .ok (.iastore, 1) := by decide +kernel
theorem dX6_fulfilled_13 : decode cX6_fulfilled 13 = .ok (.iconst 0, 1) := by decide +kernel
theorem dX6_fulfilled_14 : decode cX6_fulfilled 14 = .ok (.istore 4, 2) := by decide +kernel
theorem dX6_fulfilled_16 : decode cX6_fulfilled 16 = .ok (.iload 4, 2) := by decide +kernel
theorem dX6_fulfilled_18 : decode cX6_fulfilled 18 = .ok (.iload_n 3, 1) := by decide +kernel
theorem dX6_fulfilled_19 : decode cX6_fulfilled 19 = .ok (.if_icmp .ge 14, 3) := by decide +kernel
theorem dX6_fulfilled_22 : decode cX6_fulfilled 22 = .ok (.aload_n 0, 1) := by decide +kernel
theorem dX6_fulfilled_23 : decode cX6_fulfilled 23 = .ok (.iload_n 1, 1) := by decide +kernel
theorem dX6_fulfilled_24 : decode cX6_fulfilled 24 = .ok (.invokevirtual 231, 3) := by decide +kernel
theorem dX6_fulfilled_27 : decode cX6_fulfilled 27 = .ok (.iinc 4 1, 3) := by decide +kernel
theorem dX6_fulfilled_30 : decode cX6_fulfilled 30 = .ok (.goto (-14), 3) := by decide +kernel
theorem dX6_fulfilled_33 : decode cX6_fulfilled 33 = .ok (.iconst 0, 1) := by decide +kernel
theorem dX6_fulfilled_34 : decode cX6_fulfilled 34 = .ok (.istore 4, 2) := by decide +kernel
theorem dX6_fulfilled_36 : decode cX6_fulfilled 36 = .ok (.bipush 60, 2) := by decide +kernel
theorem dX6_fulfilled_38 : decode cX6_fulfilled 38 = .ok (.istore 5, 2) := by decide +kernel
theorem dX6_fulfilled_40 : decode cX6_fulfilled 40 = .ok (.iload 5, 2) := by decide +kernel
theorem dX6_fulfilled_42 : decode cX6_fulfilled 42 = .ok (.bipush 60, 2) := by decide +kernel
theorem dX6_fulfilled_44 : decode cX6_fulfilled 44 = .ok (.iconst 3, 1) := by decide +kernel
theorem dX6_fulfilled_45 : decode cX6_fulfilled 45 = .ok (.aload_n 0, 1) := by decide +kernel
theorem dX6_fulfilled_46 : decode cX6_fulfilled 46 = .ok (.getfield 7, 3) := by decide +kernel
theorem dX6_fulfilled_49 : decode cX6_fulfilled 49 = .ok (.bipush 59, 2) := by decide +kernel
theorem dX6_fulfilled_51 : decode cX6_fulfilled 51 = .ok (.iaload, 1) := by decide +kernel
theorem dX6_fulfilled_52 : decode cX6_fulfilled 52 = .ok (.imul, 1) := by decide +kernel
theorem dX6_fulfilled_53 : decode cX6_fulfilled 53 = .ok (.iadd, 1) := by decide +kernel
theorem dX6_fulfilled_54 : decode cX6_fulfilled 54 = .ok (.if_icmp .ge 62, 3) := by decide +kernel
theorem dX6_fulfilled_57 : decode cX6_fulfilled 57 = .ok (.iload 4, 2) := by decide +kernel
theorem dX6_fulfilled_59 : decode cX6_fulfilled 59 = .ok (.aload_n 0, 1) := by decide +kernel
theorem dX6_fulfilled_60 : decode cX6_fulfilled 60 = .ok (.getfield 7, 3) := by decide +kernel
theorem dX6_fulfilled_63 : decode cX6_fulfilled 63 = .ok (.iload 5, 2) := by decide +kernel
theorem dX6_fulfilled_65 : decode cX6_fulfilled 65 = .ok (.iaload, 1) := by decide +kernel
theorem dX6_fulfilled_66 : decode cX6_fulfilled 66 = .ok (.iload_n 1, 1) := by decide +kernel
theorem dX6_fulfilled_67 : decode cX6_fulfilled 67 = .ok (.if_icmp .ne 39, 3) := by decide +kernel
theorem dX6_fulfilled_70 : decode cX6_fulfilled 70 = .ok (.aload_n 0, 1) := by decide +kernel
theorem dX6_fulfilled_71 : decode cX6_fulfilled 71 = .ok (.getfield 16, 3) := by decide +kernel
theorem dX6_fulfilled_74 : decode cX6_fulfilled 74 = .ok (.iconst 5, 1) := by decide +kernel
theorem dX6_fulfilled_75 : decode cX6_fulfilled 75 = .ok (.iconst 4, 1) := by decide +kernel
theorem dX6_fulfilled_76 : decode cX6_fulfilled 76 = .ok (.iload_n 1, 1) := by decide +kernel
theorem dX6_fulfilled_77 : decode cX6_fulfilled 77 = .ok (.imul, 1) := by decide +kernel
theorem dX6_fulfilled_78 : decode cX6_fulfilled 78 = .ok (.iadd, 1) := by decide +kernel
theorem dX6_fulfilled_79 : decode cX6_fulfilled 79 = .ok (.aload_n 0, 1) := by decide +kernel
theorem dX6_fulfilled_80 : decode cX6_fulfilled 80 = .ok (.getfield 7, 3) := by decide +kernel
theorem dX6_fulfilled_83 : decode cX6_fulfilled 83 = .ok (.iload 5, 2) := by decide +kernel
theorem dX6_fulfilled_85 : decode cX6_fulfilled 85 = .ok (.iconst 1, 1) := by decide +kernel
theorem dX6_fulfilled_86 : decode cX6_fulfilled 86 = .ok (.iadd, 1) := by decide +kernel
theorem dX6_fulfilled_87 : decode cX6_fulfilled 87 = .ok (.iaload, 1) := by decide +kernel
theorem dX6_fulfilled_88 : decode cX6_fulfilled 88 = .ok (.iadd, 1) := by decide +kernel
theorem dX6_fulfilled_89 : decode cX6_fulfilled 89 = .ok (.iaload, 1) := by decide +kernel
theorem dX6_fulfilled_90 : decode cX6_fulfilled 90 = .ok (.aload_n 0, 1) := by decide +kernel
theorem dX6_fulfilled_91 : decode cX6_fulfilled 91 = .ok (.getfield 7, 3) := by decide +kernel
theorem dX6_fulfilled_94 : decode cX6_fulfilled 94 = .ok (.iload 5, 2) := by decide +kernel
theorem dX6_fulfilled_96 : decode cX6_fulfilled 96 = .ok (.iconst 2, 1) := by decide +kernel
theorem dX6_fulfilled_97 : decode cX6_fulfilled 97 = .ok (.iadd, 1) := by decide +kernel
theorem dX6_fulfilled_98 : decode cX6_fulfilled 98 = .ok (.iaload, 1) := by decide +kernel
theorem dX6_fulfilled_99 : decode cX6_fulfilled 99 = .ok (.if_icmp .lt 7, 3) := by decide +kernel
theorem dX6_fulfilled_102 : decode cX6_fulfilled 102 = .ok (.iconst 1, 1) := by decide +kernel
theorem dX6_fulfilled_103 : decode cX6_fulfilled 103 = .ok (.goto 4, 3) := by decide +kernel
theorem dX6_fulfilled_106 : decode cX6_fulfilled 106 = .ok (.iconst 0, 1) := by decide +kernel
theorem dX6_fulfilled_107 : decode cX6_fulfilled 107 = .ok (.iadd, 1) := by decide +kernel
theorem dX6_fulfilled_108 : decode cX6_fulfilled 108 = .ok (.istore 4, 2) := by decide +kernel
theorem dX6_fulfilled_110 : decode cX6_fulfilled 110 = .ok (.iinc 5 3, 3) := by decide +kernel
theorem dX6_fulfilled_113 : decode cX6_fulfilled 113 = .ok (.goto (-73), 3) := by decide +kernel
theorem dX6_fulfilled_116 : decode cX6_fulfilled 116 = .ok (.iload 4, 2) := by decide +kernel
theorem dX6_fulfilled_118 : decode cX6_fulfilled 118 = .ok (.ireturn, 1) := by decide +kernel
theorem dX6_aloneGoes_0 : decode cX6_aloneGoes 0 = .ok (.aload_n 0, 1) := by decide +kernel
theorem dX6_aloneGoes_1 : decode cX6_aloneGoes 1 = .ok (.getfield 16, 3) := by decide +kernel
theorem dX6_aloneGoes_4 : decode cX6_aloneGoes 4 = .ok (.iconst 0, 1) := by decide +kernel
theorem dX6_aloneGoes_5 : decode cX6_aloneGoes 5 = .ok (.iload_n 1, 1) := by decide +kernel
theorem dX6_aloneGoes_6 : decode cX6_aloneGoes 6 = .ok (.iadd, 1) := by decide +kernel
theorem dX6_aloneGoes_7 : decode cX6_aloneGoes 7 = .ok (.iaload, 1) := by decide +kernel
theorem dX6_aloneGoes_8 : decode cX6_aloneGoes 8 = .ok (.istore_n 2, 1) := by decide +kernel
theorem dX6_aloneGoes_9 : decode cX6_aloneGoes 9 = .ok (.aload_n 0, 1) := by decide +kernel
theorem dX6_aloneGoes_10 : decode cX6_aloneGoes 10 = .ok (.aload_n 0, 1) := by decide +kernel
theorem dX6_aloneGoes_11 : decode cX6_aloneGoes 11 = .ok (.getfield 16, 3) := by decide +kernel
theorem dX6_aloneGoes_14 : decode cX6_aloneGoes 14 = .ok (.iload_n 1, 1) := by decide +kernel
theorem dX6_aloneGoes_15 : decode cX6_aloneGoes 15 = .ok (.invokevirtual 68, 3) := by decide +kernel
theorem dX6_aloneGoes_18 : decode cX6_aloneGoes 18 = .ok (.iload_n 2, 1) := by decide +kernel
theorem dX6_aloneGoes_19 : decode cX6_aloneGoes 19 = .ok (.iconst (-1), 1) := by decide +kernel
theorem dX6_aloneGoes_20 : decode cX6_aloneGoes 20 = .ok (.if_icmp .eq 65, 3) := by decide +kernel
theorem dX6_aloneGoes_23 : decode cX6_aloneGoes 23 = .ok (.aload_n 0, 1) := by decide +kernel
theorem dX6_aloneGoes_24 : decode cX6_aloneGoes 24 = .ok (.getfield 16, 3) := by decide +kernel
theorem dX6_aloneGoes_27 : decode cX6_aloneGoes 27 = .ok (.bipush 25, 2) := by decide +kernel
theorem dX6_aloneGoes_29 : decode cX6_aloneGoes 29 = .ok (.iload_n 2, 1) := by decide +kernel
theorem dX6_aloneGoes_30 : decode cX6_aloneGoes 30 = .ok (.iadd, 1) := by decide +kernel
theorem dX6_aloneGoes_31 : decode cX6_aloneGoes 31 = .ok (.iaload, 1) := by decide +kernel
theorem dX6_aloneGoes_32 : decode cX6_aloneGoes 32 = .ok (.aload_n 0, 1) := by decide +kernel
theorem dX6_aloneGoes_33 : decode cX6_aloneGoes 33 = .ok (.getfield 7, 3) := by decide +kernel
theorem dX6_aloneGoes_36 : decode cX6_aloneGoes 36 = .ok (.bipush 34, 2) := by decide +kernel
theorem dX6_aloneGoes_38 : decode cX6_aloneGoes 38 = .ok (.iload_n 2, 1) := by decide +kernel
theorem dX6_aloneGoes_39 : decode cX6_aloneGoes 39 = .ok (.iadd, 1) := by decide +kernel
theorem dX6_aloneGoes_40 : decode cX6_aloneGoes 40 = .ok (.iaload, 1) := by decide +kernel
theorem dX6_aloneGoes_41 : decode cX6_aloneGoes 41 = .ok (.aload_n 0, 1) := by decide +kernel
theorem dX6_aloneGoes_42 : decode cX6_aloneGoes 42 = .ok (.getfield 7, 3) := by decide +kernel
theorem dX6_aloneGoes_45 : decode cX6_aloneGoes 45 = .ok (.bipush 49, 2) := by decide +kernel
theorem dX6_aloneGoes_47 : decode cX6_aloneGoes 47 = .ok (.iload_n 1, 1) := by decide +kernel
theorem dX6_aloneGoes_48 : decode cX6_aloneGoes 48 = .ok (.iadd, 1) := by decide +kernel
theorem dX6_aloneGoes_49 : decode cX6_aloneGoes 49 = .ok (.iaload, 1) := by decide +kernel
theorem dX6_aloneGoes_50 : decode cX6_aloneGoes 50 = .ok (.aload_n 0, 1) := by decide +kernel
theorem dX6_aloneGoes_51 : decode cX6_aloneGoes 51 = .ok (.getfield 7, 3) := by decide +kernel
theorem dX6_aloneGoes_54 : decode cX6_aloneGoes 54 = .ok (.bipush 54, 2) := by decide +kernel
theorem dX6_aloneGoes_56 : decode cX6_aloneGoes 56 = .ok (.iload_n 1, 1) := by decide +kernel
theorem dX6_aloneGoes_57 : decode cX6_aloneGoes 57 = .ok (.iadd, 1) := by decide +kernel
theorem dX6_aloneGoes_58 : decode cX6_aloneGoes 58 = .ok (.iaload, 1) := by decide +kernel
theorem dX6_aloneGoes_59 : decode cX6_aloneGoes 59 = .ok (.invokestatic 72, 3) := by decide +kernel
theorem dX6_aloneGoes_62 : decode cX6_aloneGoes 62 = .ok (.invokestatic 75, 3) := by decide +kernel
theorem dX6_aloneGoes_65 : decode cX6_aloneGoes 65 = .ok (.isub, 1) := by decide +kernel
theorem dX6_aloneGoes_66 : decode cX6_aloneGoes 66 = .ok (.istore_n 3, 1) := by decide +kernel
theorem dX6_aloneGoes_67 : decode cX6_aloneGoes 67 = .ok (.aload_n 0, 1) := by decide +kernel
theorem dX6_aloneGoes_68 : decode cX6_aloneGoes 68 = .ok (.getfield 16, 3) := by decide +kernel
theorem dX6_aloneGoes_71 : decode cX6_aloneGoes 71 = .ok (.bipush 25, 2) := by decide +kernel
theorem dX6_aloneGoes_73 : decode cX6_aloneGoes 73 = .ok (.iload_n 2, 1) := by decide +kernel
theorem dX6_aloneGoes_74 : decode cX6_aloneGoes 74 = .ok (.iadd, 1) := by decide +kernel
theorem dX6_aloneGoes_75 : decode cX6_aloneGoes 75 = .ok (.iload_n 3, 1) := by decide +kernel
theorem dX6_aloneGoes_76 : decode cX6_aloneGoes 76 = .ok (.ifCond .ge 7, 3) := by decide +kernel
theorem dX6_aloneGoes_79 : decode cX6_aloneGoes 79 = .ok (.iconst 0, 1) := by decide +kernel
theorem dX6_aloneGoes_80 : decode cX6_aloneGoes 80 = .ok (.goto 4, 3) := by decide +kernel
theorem dX6_aloneGoes_83 : decode cX6_aloneGoes 83 = .ok (.iload_n 3, 1) := by decide +kernel
theorem dX6_aloneGoes_84 : decode cX6_aloneGoes 84 = .ok (.iastore, 1) := by decide +kernel
theorem dX6_aloneGoes_85 : decode cX6_aloneGoes 85 = .ok (.aload_n 0, 1) := by decide +kernel
theorem dX6_aloneGoes_86 : decode cX6_aloneGoes 86 = .ok (.getfield 16, 3) := by decide +kernel
theorem dX6_aloneGoes_89 : decode cX6_aloneGoes 89 = .ok (.bipush 32, 2) := by decide +kernel
theorem dX6_aloneGoes_91 : decode cX6_aloneGoes 91 = .ok (.dup2, 1) := by decide +kernel
theorem dX6_aloneGoes_92 : decode cX6_aloneGoes 92 = .ok (.iaload, 1) := by decide +kernel
theorem dX6_aloneGoes_93 : decode cX6_aloneGoes 93 = .ok (.iconst 1, 1) := by decide +kernel
theorem dX6_aloneGoes_94 : decode cX6_aloneGoes 94 = .ok (.iadd, 1) := by decide +kernel
theorem dX6_aloneGoes_95 : decode cX6_aloneGoes 95 = .ok (.iastore, 1) := by decide +kernel
theorem dX6_aloneGoes_96 : decode cX6_aloneGoes 96 = .ok (.return_, 1) := by decide +kernel
theorem dX6_nextRow_0 : decode cX6_nextRow 0 = .ok (.aload_n 0, 1) := by decide +kernel
theorem dX6_nextRow_1 : decode cX6_nextRow 1 = .ok (.getfield 7, 3) := by decide +kernel
theorem dX6_nextRow_4 : decode cX6_nextRow 4 = .ok (.bipush 48, 2) := by decide +kernel
theorem dX6_nextRow_6 : decode cX6_nextRow 6 = .ok (.iaload, 1) := by decide +kernel
theorem dX6_nextRow_7 : decode cX6_nextRow 7 = .ok (.iconst 1, 1) := by decide +kernel
theorem dX6_nextRow_8 : decode cX6_nextRow 8 = .ok (.isub, 1) := by decide +kernel
theorem dX6_nextRow_9 : decode cX6_nextRow 9 = .ok (.istore_n 1, 1) := by decide +kernel
theorem dX6_nextRow_10 : decode cX6_nextRow 10 = .ok (.iload_n 1, 1) := by decide +kernel
theorem dX6_nextRow_11 : decode cX6_nextRow 11 = .ok (.ifCond .lt 102, 3) := by decide +kernel
theorem dX6_nextRow_14 : decode cX6_nextRow 14 = .ok (.aload_n 0, 1) := by decide +kernel
theorem dX6_nextRow_15 : decode cX6_nextRow 15 = .ok (.getfield 39, 3) := by decide +kernel
theorem dX6_nextRow_18 : decode cX6_nextRow 18 = .ok (.iload_n 1, 1) := by decide +kernel
theorem dX6_nextRow_19 : decode cX6_nextRow 19 = .ok (.dup2, 1) := by decide +kernel
theorem dX6_nextRow_20 : decode cX6_nextRow 20 = .ok (.iaload, 1) := by decide +kernel
theorem dX6_nextRow_21 : decode cX6_nextRow 21 = .ok (.iconst 1, 1) := by decide +kernel
theorem dX6_nextRow_22 : decode cX6_nextRow 22 = .ok (.iadd, 1) := by decide +kernel
theorem dX6_nextRow_23 : decode cX6_nextRow 23 = .ok (.iastore, 1) := by decide +kernel
theorem dX6_nextRow_24 : decode cX6_nextRow 24 = .ok (.aload_n 0, 1) := by decide +kernel
theorem dX6_nextRow_25 : decode cX6_nextRow 25 = .ok (.getfield 39, 3) := by decide +kernel
theorem dX6_nextRow_28 : decode cX6_nextRow 28 = .ok (.iload_n 1, 1) := by decide +kernel
theorem dX6_nextRow_29 : decode cX6_nextRow 29 = .ok (.iaload, 1) := by decide +kernel
theorem dX6_nextRow_30 : decode cX6_nextRow 30 = .ok (.aload_n 0, 1) := by decide +kernel
theorem dX6_nextRow_31 : decode cX6_nextRow 31 = .ok (.getfield 7, 3) := by decide +kernel
theorem dX6_nextRow_34 : decode cX6_nextRow 34 = .ok (.bipush 33, 2) := by decide +kernel
theorem dX6_nextRow_36 : decode cX6_nextRow 36 = .ok (.iaload, 1) := by decide +kernel
theorem dX6_nextRow_37 : decode cX6_nextRow 37 = .ok (.if_icmp .ge 24, 3) := by decide +kernel
theorem dX6_nextRow_40 : decode cX6_nextRow 40 = .ok (.aload_n 0, 1) := by decide +kernel
theorem dX6_nextRow_41 : decode cX6_nextRow 41 = .ok (.iload_n 1, 1) := by decide +kernel
theorem dX6_nextRow_42 : decode cX6_nextRow 42 = .ok (.invokevirtual 234, 3) := by decide +kernel
theorem dX6_nextRow_45 : decode cX6_nextRow 45 = .ok (.ifCond .eq 16, 3) := by decide +kernel
theorem dX6_nextRow_48 : decode cX6_nextRow 48 = .ok (.aload_n 0, 1) := by decide +kernel
theorem dX6_nextRow_49 : decode cX6_nextRow 49 = .ok (.getfield 39, 3) := by decide +kernel
theorem dX6_nextRow_52 : decode cX6_nextRow 52 = .ok (.iload_n 1, 1) := by decide +kernel
theorem dX6_nextRow_53 : decode cX6_nextRow 53 = .ok (.dup2, 1) := by decide +kernel
theorem dX6_nextRow_54 : decode cX6_nextRow 54 = .ok (.iaload, 1) := by decide +kernel
theorem dX6_nextRow_55 : decode cX6_nextRow 55 = .ok (.iconst 1, 1) := by decide +kernel
theorem dX6_nextRow_56 : decode cX6_nextRow 56 = .ok (.iadd, 1) := by decide +kernel
theorem dX6_nextRow_57 : decode cX6_nextRow 57 = .ok (.iastore, 1) := by decide +kernel
theorem dX6_nextRow_58 : decode cX6_nextRow 58 = .ok (.goto (-34), 3) := by decide +kernel
theorem dX6_nextRow_61 : decode cX6_nextRow 61 = .ok (.aload_n 0, 1) := by decide +kernel
theorem dX6_nextRow_62 : decode cX6_nextRow 62 = .ok (.getfield 39, 3) := by decide +kernel
theorem dX6_nextRow_65 : decode cX6_nextRow 65 = .ok (.iload_n 1, 1) := by decide +kernel
theorem dX6_nextRow_66 : decode cX6_nextRow 66 = .ok (.iaload, 1) := by decide +kernel
theorem dX6_nextRow_67 : decode cX6_nextRow 67 = .ok (.aload_n 0, 1) := by decide +kernel
theorem dX6_nextRow_68 : decode cX6_nextRow 68 = .ok (.getfield 7, 3) := by decide +kernel
theorem dX6_nextRow_71 : decode cX6_nextRow 71 = .ok (.bipush 33, 2) := by decide +kernel
theorem dX6_nextRow_73 : decode cX6_nextRow 73 = .ok (.iaload, 1) := by decide +kernel
theorem dX6_nextRow_74 : decode cX6_nextRow 74 = .ok (.if_icmp .ge 33, 3) := by decide +kernel
theorem dX6_nextRow_77 : decode cX6_nextRow 77 = .ok (.iload_n 1, 1) := by decide +kernel
theorem dX6_nextRow_78 : decode cX6_nextRow 78 = .ok (.iconst 1, 1) := by decide +kernel
theorem dX6_nextRow_79 : decode cX6_nextRow 79 = .ok (.iadd, 1) := by decide +kernel
theorem dX6_nextRow_80 : decode cX6_nextRow 80 = .ok (.istore_n 2, 1) := by decide +kernel
theorem dX6_nextRow_81 : decode cX6_nextRow 81 = .ok (.iload_n 2, 1) := by decide +kernel
theorem dX6_nextRow_82 : decode cX6_nextRow 82 = .ok (.aload_n 0, 1) := by decide +kernel
theorem dX6_nextRow_83 : decode cX6_nextRow 83 = .ok (.getfield 7, 3) := by decide +kernel
theorem dX6_nextRow_86 : decode cX6_nextRow 86 = .ok (.bipush 48, 2) := by decide +kernel
theorem dX6_nextRow_88 : decode cX6_nextRow 88 = .ok (.iaload, 1) := by decide +kernel
theorem dX6_nextRow_89 : decode cX6_nextRow 89 = .ok (.if_icmp .ge 16, 3) := by decide +kernel
theorem dX6_nextRow_92 : decode cX6_nextRow 92 = .ok (.aload_n 0, 1) := by decide +kernel
theorem dX6_nextRow_93 : decode cX6_nextRow 93 = .ok (.getfield 39, 3) := by decide +kernel
theorem dX6_nextRow_96 : decode cX6_nextRow 96 = .ok (.iload_n 2, 1) := by decide +kernel
theorem dX6_nextRow_97 : decode cX6_nextRow 97 = .ok (.iconst (-1), 1) := by decide +kernel
theorem dX6_nextRow_98 : decode cX6_nextRow 98 = .ok (.iastore, 1) := by decide +kernel
theorem dX6_nextRow_99 : decode cX6_nextRow 99 = .ok (.iinc 2 1, 3) := by decide +kernel
theorem dX6_nextRow_102 : decode cX6_nextRow 102 = .ok (.goto (-21), 3) := by decide +kernel
theorem dX6_nextRow_105 : decode cX6_nextRow 105 = .ok (.iconst 1, 1) := by decide +kernel
theorem dX6_nextRow_106 : decode cX6_nextRow 106 = .ok (.ireturn, 1) := by decide +kernel
theorem dX6_nextRow_107 : decode cX6_nextRow 107 = .ok (.iinc 1 (-1), 3) := by decide +kernel
theorem dX6_nextRow_110 : decode cX6_nextRow 110 = .ok (.goto (-100), 3) := by decide +kernel
theorem dX6_nextRow_113 : decode cX6_nextRow 113 = .ok (.iconst 0, 1) := by decide +kernel
theorem dX6_nextRow_114 : decode cX6_nextRow 114 = .ok (.ireturn, 1) := by decide +kernel
theorem dX6_isBefore_0 : decode cX6_isBefore 0 = .ok (.iconst 0, 1) := by decide +kernel
theorem dX6_isBefore_1 : decode cX6_isBefore 1 = .ok (.istore_n 2, 1) := by decide +kernel
theorem dX6_isBefore_2 : decode cX6_isBefore 2 = .ok (.iconst 0, 1) := by decide +kernel
theorem dX6_isBefore_3 : decode cX6_isBefore 3 = .ok (.istore_n 3, 1) := by decide +kernel
theorem dX6_isBefore_4 : decode cX6_isBefore 4 = .ok (.iload_n 3, 1) := by decide +kernel
theorem dX6_isBefore_5 : decode cX6_isBefore 5 = .ok (.iload_n 1, 1) := by decide +kernel
theorem dX6_isBefore_6 : decode cX6_isBefore 6 = .ok (.if_icmp .ge 34, 3) := by decide +kernel
theorem dX6_isBefore_9 : decode cX6_isBefore 9 = .ok (.iload_n 2, 1) := by decide +kernel
theorem dX6_isBefore_10 : decode cX6_isBefore 10 = .ok (.ifCond .ne 18, 3) := by decide +kernel
theorem dX6_isBefore_13 : decode cX6_isBefore 13 = .ok (.aload_n 0, 1) := by decide +kernel
theorem dX6_isBefore_14 : decode cX6_isBefore 14 = .ok (.getfield 39, 3) := by decide +kernel
theorem dX6_isBefore_17 : decode cX6_isBefore 17 = .ok (.iload_n 3, 1) := by decide +kernel
theorem dX6_isBefore_18 : decode cX6_isBefore 18 = .ok (.iaload, 1) := by decide +kernel
theorem dX6_isBefore_19 : decode cX6_isBefore 19 = .ok (.aload_n 0, 1) := by decide +kernel
theorem dX6_isBefore_20 : decode cX6_isBefore 20 = .ok (.getfield 39, 3) := by decide +kernel
theorem dX6_isBefore_23 : decode cX6_isBefore 23 = .ok (.iload_n 1, 1) := by decide +kernel
theorem dX6_isBefore_24 : decode cX6_isBefore 24 = .ok (.iaload, 1) := by decide +kernel
theorem dX6_isBefore_25 : decode cX6_isBefore 25 = .ok (.if_icmp .ne 7, 3) := by decide +kernel
theorem dX6_isBefore_28 : decode cX6_isBefore 28 = .ok (.iconst 1, 1) := by decide +kernel
theorem dX6_isBefore_29 : decode cX6_isBefore 29 = .ok (.goto 4, 3) := by decide +kernel
theorem dX6_isBefore_32 : decode cX6_isBefore 32 = .ok (.iconst 0, 1) := by decide +kernel
theorem dX6_isBefore_33 : decode cX6_isBefore 33 = .ok (.istore_n 2, 1) := by decide +kernel
theorem dX6_isBefore_34 : decode cX6_isBefore 34 = .ok (.iinc 3 1, 3) := by decide +kernel
theorem dX6_isBefore_37 : decode cX6_isBefore 37 = .ok (.goto (-33), 3) := by decide +kernel
theorem dX6_isBefore_40 : decode cX6_isBefore 40 = .ok (.iload_n 2, 1) := by decide +kernel
theorem dX6_isBefore_41 : decode cX6_isBefore 41 = .ok (.ireturn, 1) := by decide +kernel
theorem dX6_laysSeating_0 : decode cX6_laysSeating 0 = .ok (.iconst 0, 1) := by decide +kernel
theorem dX6_laysSeating_1 : decode cX6_laysSeating 1 = .ok (.istore_n 2, 1) := by decide +kernel
theorem dX6_laysSeating_2 : decode cX6_laysSeating 2 = .ok (.iload_n 2, 1) := by decide +kernel
theorem dX6_laysSeating_3 : decode cX6_laysSeating 3 = .ok (.aload_n 0, 1) := by decide +kernel
theorem dX6_laysSeating_4 : decode cX6_laysSeating 4 = .ok (.getfield 7, 3) := by decide +kernel
theorem dX6_laysSeating_7 : decode cX6_laysSeating 7 = .ok (.bipush 48, 2) := by decide +kernel
theorem dX6_laysSeating_9 : decode cX6_laysSeating 9 = .ok (.iaload, 1) := by decide +kernel
theorem dX6_laysSeating_10 : decode cX6_laysSeating 10 = .ok (.if_icmp .ge 55, 3) := by decide +kernel
theorem dX6_laysSeating_13 : decode cX6_laysSeating 13 = .ok (.aload_n 0, 1) := by decide +kernel
theorem dX6_laysSeating_14 : decode cX6_laysSeating 14 = .ok (.getfield 39, 3) := by decide +kernel
theorem dX6_laysSeating_17 : decode cX6_laysSeating 17 = .ok (.iload_n 2, 1) := by decide +kernel
theorem dX6_laysSeating_18 : decode cX6_laysSeating 18 = .ok (.iconst (-1), 1) := by decide +kernel
theorem dX6_laysSeating_19 : decode cX6_laysSeating 19 = .ok (.iastore, 1) := by decide +kernel
theorem dX6_laysSeating_20 : decode cX6_laysSeating 20 = .ok (.iconst (-1), 1) := by decide +kernel
theorem dX6_laysSeating_21 : decode cX6_laysSeating 21 = .ok (.istore_n 3, 1) := by decide +kernel
theorem dX6_laysSeating_22 : decode cX6_laysSeating 22 = .ok (.iload_n 3, 1) := by decide +kernel
theorem dX6_laysSeating_23 : decode cX6_laysSeating 23 = .ok (.aload_n 0, 1) := by decide +kernel
theorem dX6_laysSeating_24 : decode cX6_laysSeating 24 = .ok (.getfield 7, 3) := by decide +kernel
theorem dX6_laysSeating_27 : decode cX6_laysSeating 27 = .ok (.bipush 33, 2) := by decide +kernel
theorem dX6_laysSeating_29 : decode cX6_laysSeating 29 = .ok (.iaload, 1) := by decide +kernel
theorem dX6_laysSeating_30 : decode cX6_laysSeating 30 = .ok (.if_icmp .ge 29, 3) := by decide +kernel
theorem dX6_laysSeating_33 : decode cX6_laysSeating 33 = .ok (.aload_n 0, 1) := by decide +kernel
theorem dX6_laysSeating_34 : decode cX6_laysSeating 34 = .ok (.getfield 36, 3) := by decide +kernel
theorem dX6_laysSeating_37 : decode cX6_laysSeating 37 = .ok (.bipush 8, 2) := by decide +kernel
theorem dX6_laysSeating_39 : decode cX6_laysSeating 39 = .ok (.iload_n 2, 1) := by decide +kernel
theorem dX6_laysSeating_40 : decode cX6_laysSeating 40 = .ok (.imul, 1) := by decide +kernel
theorem dX6_laysSeating_41 : decode cX6_laysSeating 41 = .ok (.iload_n 3, 1) := by decide +kernel
theorem dX6_laysSeating_42 : decode cX6_laysSeating 42 = .ok (.iadd, 1) := by decide +kernel
theorem dX6_laysSeating_43 : decode cX6_laysSeating 43 = .ok (.iconst 1, 1) := by decide +kernel
theorem dX6_laysSeating_44 : decode cX6_laysSeating 44 = .ok (.iadd, 1) := by decide +kernel
theorem dX6_laysSeating_45 : decode cX6_laysSeating 45 = .ok (.aload_n 0, 1) := by decide +kernel
theorem dX6_laysSeating_46 : decode cX6_laysSeating 46 = .ok (.iload_n 2, 1) := by decide +kernel
theorem dX6_laysSeating_47 : decode cX6_laysSeating 47 = .ok (.iload_n 3, 1) := by decide +kernel
theorem dX6_laysSeating_48 : decode cX6_laysSeating 48 = .ok (.iload_n 1, 1) := by decide +kernel
theorem dX6_laysSeating_49 : decode cX6_laysSeating 49 = .ok (.invokevirtual 237, 3) := by decide +kernel
theorem dX6_laysSeating_52 : decode cX6_laysSeating 52 = .ok (.iastore, 1) := by decide +kernel
theorem dX6_laysSeating_53 : decode cX6_laysSeating 53 = .ok (.iinc 3 1, 3) := by decide +kernel
theorem dX6_laysSeating_56 : decode cX6_laysSeating 56 = .ok (.goto (-34), 3) := by decide +kernel
theorem dX6_laysSeating_59 : decode cX6_laysSeating 59 = .ok (.iinc 2 1, 3) := by decide +kernel
theorem dX6_laysSeating_62 : decode cX6_laysSeating 62 = .ok (.goto (-60), 3) := by decide +kernel
theorem dX6_laysSeating_65 : decode cX6_laysSeating 65 = .ok (.iconst (-1), 1) := by decide +kernel
theorem dX6_laysSeating_66 : decode cX6_laysSeating 66 = .ok (.istore_n 2, 1) := by decide +kernel
theorem dX6_laysSeating_67 : decode cX6_laysSeating 67 = .ok (.iconst 1, 1) := by decide +kernel
theorem dX6_laysSeating_68 : decode cX6_laysSeating 68 = .ok (.istore_n 3, 1) := by decide +kernel
theorem dX6_laysSeating_69 : decode cX6_laysSeating 69 = .ok (.iload_n 3, 1) := by decide +kernel
theorem dX6_laysSeating_70 : decode cX6_laysSeating 70 = .ok (.ifCond .eq 89, 3) := by decide +kernel
theorem dX6_laysSeating_73 : decode cX6_laysSeating 73 = .ok (.iconst 0, 1) := by decide +kernel
theorem dX6_laysSeating_74 : decode cX6_laysSeating 74 = .ok (.istore 4, 2) := by decide +kernel
theorem dX6_laysSeating_76 : decode cX6_laysSeating 76 = .ok (.iconst 0, 1) := by decide +kernel
theorem dX6_laysSeating_77 : decode cX6_laysSeating 77 = .ok (.istore 5, 2) := by decide +kernel
theorem dX6_laysSeating_79 : decode cX6_laysSeating 79 = .ok (.iload 5, 2) := by decide +kernel
theorem dX6_laysSeating_81 : decode cX6_laysSeating 81 = .ok (.aload_n 0, 1) := by decide +kernel
theorem dX6_laysSeating_82 : decode cX6_laysSeating 82 = .ok (.getfield 7, 3) := by decide +kernel
theorem dX6_laysSeating_85 : decode cX6_laysSeating 85 = .ok (.bipush 48, 2) := by decide +kernel
theorem dX6_laysSeating_87 : decode cX6_laysSeating 87 = .ok (.iaload, 1) := by decide +kernel
theorem dX6_laysSeating_88 : decode cX6_laysSeating 88 = .ok (.if_icmp .ge 34, 3) := by decide +kernel
theorem dX6_laysSeating_91 : decode cX6_laysSeating 91 = .ok (.iload 4, 2) := by decide +kernel
theorem dX6_laysSeating_93 : decode cX6_laysSeating 93 = .ok (.aload_n 0, 1) := by decide +kernel
theorem dX6_laysSeating_94 : decode cX6_laysSeating 94 = .ok (.getfield 36, 3) := by decide +kernel
theorem dX6_laysSeating_97 : decode cX6_laysSeating 97 = .ok (.bipush 8, 2) := by decide +kernel
theorem dX6_laysSeating_99 : decode cX6_laysSeating 99 = .ok (.iload 5, 2) := by decide +kernel
theorem dX6_laysSeating_101 : decode cX6_laysSeating 101 = .ok (.imul, 1) := by decide +kernel
theorem dX6_laysSeating_102 : decode cX6_laysSeating 102 = .ok (.aload_n 0, 1) := by decide +kernel
theorem dX6_laysSeating_103 : decode cX6_laysSeating 103 = .ok (.getfield 39, 3) := by decide +kernel
theorem dX6_laysSeating_106 : decode cX6_laysSeating 106 = .ok (.iload 5, 2) := by decide +kernel
theorem dX6_laysSeating_108 : decode cX6_laysSeating 108 = .ok (.iaload, 1) := by decide +kernel
theorem dX6_laysSeating_109 : decode cX6_laysSeating 109 = .ok (.iadd, 1) := by decide +kernel
theorem dX6_laysSeating_110 : decode cX6_laysSeating 110 = .ok (.iconst 1, 1) := by decide +kernel
theorem dX6_laysSeating_111 : decode cX6_laysSeating 111 = .ok (.iadd, 1) := by decide +kernel
theorem dX6_laysSeating_112 : decode cX6_laysSeating 112 = .ok (.iaload, 1) := by decide +kernel
theorem dX6_laysSeating_113 : decode cX6_laysSeating 113 = .ok (.iadd, 1) := by decide +kernel
theorem dX6_laysSeating_114 : decode cX6_laysSeating 114 = .ok (.istore 4, 2) := by decide +kernel
theorem dX6_laysSeating_116 : decode cX6_laysSeating 116 = .ok (.iinc 5 1, 3) := by decide +kernel
theorem dX6_laysSeating_119 : decode cX6_laysSeating 119 = .ok (.goto (-40), 3) := by decide +kernel
theorem dX6_laysSeating_122 : decode cX6_laysSeating 122 = .ok (.iload 4, 2) := by decide +kernel
theorem dX6_laysSeating_124 : decode cX6_laysSeating 124 = .ok (.iload_n 2, 1) := by decide +kernel
theorem dX6_laysSeating_125 : decode cX6_laysSeating 125 = .ok (.if_icmp .le 26, 3) := by decide +kernel
theorem dX6_laysSeating_128 : decode cX6_laysSeating 128 = .ok (.iload 4, 2) := by decide +kernel
theorem dX6_laysSeating_130 : decode cX6_laysSeating 130 = .ok (.istore_n 2, 1) := by decide +kernel
theorem dX6_laysSeating_131 : decode cX6_laysSeating 131 = .ok (.aload_n 0, 1) := by decide +kernel
theorem dX6_laysSeating_132 : decode cX6_laysSeating 132 = .ok (.getfield 39, 3) := by decide +kernel
theorem dX6_laysSeating_135 : decode cX6_laysSeating 135 = .ok (.iconst 0, 1) := by decide +kernel
theorem dX6_laysSeating_136 : decode cX6_laysSeating 136 = .ok (.aload_n 0, 1) := by decide +kernel
theorem dX6_laysSeating_137 : decode cX6_laysSeating 137 = .ok (.getfield 42, 3) := by decide +kernel
theorem dX6_laysSeating_140 : decode cX6_laysSeating 140 = .ok (.iconst 0, 1) := by decide +kernel
theorem dX6_laysSeating_141 : decode cX6_laysSeating 141 = .ok (.aload_n 0, 1) := by decide +kernel
theorem dX6_laysSeating_142 : decode cX6_laysSeating 142 = .ok (.getfield 7, 3) := by decide +kernel
theorem dX6_laysSeating_145 : decode cX6_laysSeating 145 = .ok (.bipush 48, 2) := by decide +kernel
theorem dX6_laysSeating_147 : decode cX6_laysSeating 147 = .ok (.iaload, 1) := by decide +kernel
theorem dX6_laysSeating_148 : decode cX6_laysSeating 148 = .ok (.invokestatic 82, 3) := by decide +kernel
theorem dX6_laysSeating_151 : decode cX6_laysSeating 151 = .ok (.aload_n 0, 1) := by decide +kernel
theorem dX6_laysSeating_152 : decode cX6_laysSeating 152 = .ok (.invokevirtual 240, 3) := by decide +kernel
theorem dX6_laysSeating_155 : decode cX6_laysSeating 155 = .ok (.istore_n 3, 1) := by decide +kernel
theorem dX6_laysSeating_156 : decode cX6_laysSeating 156 = .ok (.goto (-87), 3) := by decide +kernel
theorem dX6_laysSeating_159 : decode cX6_laysSeating 159 = .ok (.iload_n 2, 1) := by decide +kernel
theorem dX6_laysSeating_160 : decode cX6_laysSeating 160 = .ok (.ireturn, 1) := by decide +kernel
theorem dX6_seating_0 : decode cX6_seating 0 = .ok (.iload_n 1, 1) := by decide +kernel
theorem dX6_seating_1 : decode cX6_seating 1 = .ok (.i2l, 1) := by decide +kernel
theorem dX6_seating_2 : decode cX6_seating 2 = .ok (.lconst 0, 1) := by decide +kernel
theorem dX6_seating_3 : decode cX6_seating 3 = .ok (.ldc2_w 243, 3) := by decide +kernel
theorem dX6_seating_6 : decode cX6_seating 6 = .ok (.invokestatic 86, 3) := by decide +kernel
theorem dX6_seating_9 : decode cX6_seating 9 = .ok (.ifCond .eq 16, 3) := by decide +kernel
theorem dX6_seating_12 : decode cX6_seating 12 = .ok (.iload_n 2, 1) := by decide +kernel
theorem dX6_seating_13 : decode cX6_seating 13 = .ok (.iconst (-1), 1) := by decide +kernel
theorem dX6_seating_14 : decode cX6_seating 14 = .ok (.if_icmp .eq 16, 3) := by decide +kernel
theorem dX6_seating_17 : decode cX6_seating 17 = .ok (.aload_n 0, 1) := by decide +kernel
theorem dX6_seating_18 : decode cX6_seating 18 = .ok (.iload_n 2, 1) := by decide +kernel
theorem dX6_seating_19 : decode cX6_seating 19 = .ok (.invokevirtual 194, 3) := by decide +kernel
theorem dX6_seating_22 : decode cX6_seating 22 = .ok (.ifCond .ne 8, 3) := by decide +kernel
theorem dX6_seating_25 : decode cX6_seating 25 = .ok (.aload_n 0, 1) := by decide +kernel
theorem dX6_seating_26 : decode cX6_seating 26 = .ok (.invokevirtual 200, 3) := by decide +kernel
theorem dX6_seating_29 : decode cX6_seating 29 = .ok (.ireturn, 1) := by decide +kernel
theorem dX6_seating_30 : decode cX6_seating 30 = .ok (.aload_n 0, 1) := by decide +kernel
theorem dX6_seating_31 : decode cX6_seating 31 = .ok (.iload_n 1, 1) := by decide +kernel
theorem dX6_seating_32 : decode cX6_seating 32 = .ok (.invokevirtual 245, 3) := by decide +kernel
theorem dX6_seating_35 : decode cX6_seating 35 = .ok (.istore_n 3, 1) := by decide +kernel
theorem dX6_seating_36 : decode cX6_seating 36 = .ok (.iload_n 2, 1) := by decide +kernel
theorem dX6_seating_37 : decode cX6_seating 37 = .ok (.iconst (-1), 1) := by decide +kernel
theorem dX6_seating_38 : decode cX6_seating 38 = .ok (.if_icmp .ne 7, 3) := by decide +kernel
theorem dX6_seating_41 : decode cX6_seating 41 = .ok (.iload_n 3, 1) := by decide +kernel
theorem dX6_seating_42 : decode cX6_seating 42 = .ok (.goto 9, 3) := by decide +kernel
theorem dX6_seating_45 : decode cX6_seating 45 = .ok (.aload_n 0, 1) := by decide +kernel
theorem dX6_seating_46 : decode cX6_seating 46 = .ok (.getfield 42, 3) := by decide +kernel
theorem dX6_seating_49 : decode cX6_seating 49 = .ok (.iload_n 2, 1) := by decide +kernel
theorem dX6_seating_50 : decode cX6_seating 50 = .ok (.iaload, 1) := by decide +kernel
theorem dX6_seating_51 : decode cX6_seating 51 = .ok (.ireturn, 1) := by decide +kernel
theorem dX6_quarrels_0 : decode cX6_quarrels 0 = .ok (.iconst 0, 1) := by decide +kernel
theorem dX6_quarrels_1 : decode cX6_quarrels 1 = .ok (.istore_n 1, 1) := by decide +kernel
theorem dX6_quarrels_2 : decode cX6_quarrels 2 = .ok (.iconst 1, 1) := by decide +kernel
theorem dX6_quarrels_3 : decode cX6_quarrels 3 = .ok (.istore_n 2, 1) := by decide +kernel
theorem dX6_quarrels_4 : decode cX6_quarrels 4 = .ok (.iload_n 2, 1) := by decide +kernel
theorem dX6_quarrels_5 : decode cX6_quarrels 5 = .ok (.aload_n 0, 1) := by decide +kernel
theorem dX6_quarrels_6 : decode cX6_quarrels 6 = .ok (.getfield 7, 3) := by decide +kernel
theorem dX6_quarrels_9 : decode cX6_quarrels 9 = .ok (.bipush 33, 2) := by decide +kernel
theorem dX6_quarrels_11 : decode cX6_quarrels 11 = .ok (.iaload, 1) := by decide +kernel
theorem dX6_quarrels_12 : decode cX6_quarrels 12 = .ok (.if_icmp .ge 40, 3) := by decide +kernel
theorem dX6_quarrels_15 : decode cX6_quarrels 15 = .ok (.iload_n 1, 1) := by decide +kernel
theorem dX6_quarrels_16 : decode cX6_quarrels 16 = .ok (.aload_n 0, 1) := by decide +kernel
theorem dX6_quarrels_17 : decode cX6_quarrels 17 = .ok (.getfield 7, 3) := by decide +kernel
theorem dX6_quarrels_20 : decode cX6_quarrels 20 = .ok (.bipush 41, 2) := by decide +kernel
theorem dX6_quarrels_22 : decode cX6_quarrels 22 = .ok (.iload_n 2, 1) := by decide +kernel
theorem dX6_quarrels_23 : decode cX6_quarrels 23 = .ok (.iadd, 1) := by decide +kernel
theorem dX6_quarrels_24 : decode cX6_quarrels 24 = .ok (.iaload, 1) := by decide +kernel
theorem dX6_quarrels_25 : decode cX6_quarrels 25 = .ok (.aload_n 0, 1) := by decide +kernel
theorem dX6_quarrels_26 : decode cX6_quarrels 26 = .ok (.getfield 7, 3) := by decide +kernel
theorem dX6_quarrels_29 : decode cX6_quarrels 29 = .ok (.bipush 41, 2) := by decide +kernel
theorem dX6_quarrels_31 : decode cX6_quarrels 31 = .ok (.iload_n 2, 1) := by decide +kernel
theorem dX6_quarrels_32 : decode cX6_quarrels 32 = .ok (.iadd, 1) := by decide +kernel
theorem dX6_quarrels_33 : decode cX6_quarrels 33 = .ok (.iconst 1, 1) := by decide +kernel
theorem dX6_quarrels_34 : decode cX6_quarrels 34 = .ok (.isub, 1) := by decide +kernel
theorem dX6_quarrels_35 : decode cX6_quarrels 35 = .ok (.iaload, 1) := by decide +kernel
theorem dX6_quarrels_36 : decode cX6_quarrels 36 = .ok (.if_icmp .ne 7, 3) := by decide +kernel
theorem dX6_quarrels_39 : decode cX6_quarrels 39 = .ok (.iconst 1, 1) := by decide +kernel
theorem dX6_quarrels_40 : decode cX6_quarrels 40 = .ok (.goto 4, 3) := by decide +kernel
theorem dX6_quarrels_43 : decode cX6_quarrels 43 = .ok (.iconst 0, 1) := by decide +kernel
theorem dX6_quarrels_44 : decode cX6_quarrels 44 = .ok (.iadd, 1) := by decide +kernel
theorem dX6_quarrels_45 : decode cX6_quarrels 45 = .ok (.istore_n 1, 1) := by decide +kernel
theorem dX6_quarrels_46 : decode cX6_quarrels 46 = .ok (.iinc 2 1, 3) := by decide +kernel
theorem dX6_quarrels_49 : decode cX6_quarrels 49 = .ok (.goto (-45), 3) := by decide +kernel
theorem dX6_quarrels_52 : decode cX6_quarrels 52 = .ok (.iload_n 1, 1) := by decide +kernel
theorem dX6_quarrels_53 : decode cX6_quarrels 53 = .ok (.ireturn, 1) := by decide +kernel
theorem dX6_nextOrder_0 : decode cX6_nextOrder 0 = .ok (.iload_n 1, 1) := by decide +kernel
theorem dX6_nextOrder_1 : decode cX6_nextOrder 1 = .ok (.iconst 2, 1) := by decide +kernel
theorem dX6_nextOrder_2 : decode cX6_nextOrder 2 = .ok (.isub, 1) := by decide +kernel
theorem dX6_nextOrder_3 : decode cX6_nextOrder 3 = .ok (.istore_n 2, 1) := by decide +kernel
theorem dX6_nextOrder_4 : decode cX6_nextOrder 4 = .ok (.iload_n 2, 1) := by decide +kernel
theorem dX6_nextOrder_5 : decode cX6_nextOrder 5 = .ok (.ifCond .lt 26, 3) := by decide +kernel
theorem dX6_nextOrder_8 : decode cX6_nextOrder 8 = .ok (.aload_n 0, 1) := by decide +kernel
theorem dX6_nextOrder_9 : decode cX6_nextOrder 9 = .ok (.getfield 39, 3) := by decide +kernel
theorem dX6_nextOrder_12 : decode cX6_nextOrder 12 = .ok (.iload_n 2, 1) := by decide +kernel
theorem dX6_nextOrder_13 : decode cX6_nextOrder 13 = .ok (.iaload, 1) := by decide +kernel
theorem dX6_nextOrder_14 : decode cX6_nextOrder 14 = .ok (.aload_n 0, 1) := by decide +kernel
theorem dX6_nextOrder_15 : decode cX6_nextOrder 15 = .ok (.getfield 39, 3) := by decide +kernel
theorem dX6_nextOrder_18 : decode cX6_nextOrder 18 = .ok (.iload_n 2, 1) := by decide +kernel
theorem dX6_nextOrder_19 : decode cX6_nextOrder 19 = .ok (.iconst 1, 1) := by decide +kernel
theorem dX6_nextOrder_20 : decode cX6_nextOrder 20 = .ok (.iadd, 1) := by decide +kernel
theorem dX6_nextOrder_21 : decode cX6_nextOrder 21 = .ok (.iaload, 1) := by decide +kernel
theorem dX6_nextOrder_22 : decode cX6_nextOrder 22 = .ok (.if_icmp .le 9, 3) := by decide +kernel
theorem dX6_nextOrder_25 : decode cX6_nextOrder 25 = .ok (.iinc 2 (-1), 3) := by decide +kernel
theorem dX6_nextOrder_28 : decode cX6_nextOrder 28 = .ok (.goto (-24), 3) := by decide +kernel
theorem dX6_nextOrder_31 : decode cX6_nextOrder 31 = .ok (.iload_n 2, 1) := by decide +kernel
theorem dX6_nextOrder_32 : decode cX6_nextOrder 32 = .ok (.ifCond .ge 5, 3) := by decide +kernel
theorem dX6_nextOrder_35 : decode cX6_nextOrder 35 = .ok (.iconst 0, 1) := by decide +kernel
theorem dX6_nextOrder_36 : decode cX6_nextOrder 36 = .ok (.ireturn, 1) := by decide +kernel
theorem dX6_nextOrder_37 : decode cX6_nextOrder 37 = .ok (.iload_n 1, 1) := by decide +kernel
theorem dX6_nextOrder_38 : decode cX6_nextOrder 38 = .ok (.iconst 1, 1) := by decide +kernel
theorem dX6_nextOrder_39 : decode cX6_nextOrder 39 = .ok (.isub, 1) := by decide +kernel
theorem dX6_nextOrder_40 : decode cX6_nextOrder 40 = .ok (.istore_n 3, 1) := by decide +kernel
theorem dX6_nextOrder_41 : decode cX6_nextOrder 41 = .ok (.aload_n 0, 1) := by decide +kernel
theorem dX6_nextOrder_42 : decode cX6_nextOrder 42 = .ok (.getfield 39, 3) := by decide +kernel
theorem dX6_nextOrder_45 : decode cX6_nextOrder 45 = .ok (.iload_n 3, 1) := by decide +kernel
theorem dX6_nextOrder_46 : decode cX6_nextOrder 46 = .ok (.iaload, 1) := by decide +kernel
theorem dX6_nextOrder_47 : decode cX6_nextOrder 47 = .ok (.aload_n 0, 1) := by decide +kernel
theorem dX6_nextOrder_48 : decode cX6_nextOrder 48 = .ok (.getfield 39, 3) := by decide +kernel
theorem dX6_nextOrder_51 : decode cX6_nextOrder 51 = .ok (.iload_n 2, 1) := by decide +kernel
theorem dX6_nextOrder_52 : decode cX6_nextOrder 52 = .ok (.iaload, 1) := by decide +kernel
theorem dX6_nextOrder_53 : decode cX6_nextOrder 53 = .ok (.if_icmp .ge 9, 3) := by decide +kernel
theorem dX6_nextOrder_56 : decode cX6_nextOrder 56 = .ok (.iinc 3 (-1), 3) := by decide +kernel
theorem dX6_nextOrder_59 : decode cX6_nextOrder 59 = .ok (.goto (-18), 3) := by decide +kernel
theorem dX6_nextOrder_62 : decode cX6_nextOrder 62 = .ok (.aload_n 0, 1) := by decide +kernel
theorem dX6_nextOrder_63 : decode cX6_nextOrder 63 = .ok (.getfield 39, 3) := by decide +kernel
theorem dX6_nextOrder_66 : decode cX6_nextOrder 66 = .ok (.iload_n 2, 1) := by decide +kernel
theorem dX6_nextOrder_67 : decode cX6_nextOrder 67 = .ok (.iaload, 1) := by decide +kernel
theorem dX6_nextOrder_68 : decode cX6_nextOrder 68 = .ok (.istore 4, 2) := by decide +kernel
theorem dX6_nextOrder_70 : decode cX6_nextOrder 70 = .ok (.aload_n 0, 1) := by decide +kernel
theorem dX6_nextOrder_71 : decode cX6_nextOrder 71 = .ok (.getfield 39, 3) := by decide +kernel
theorem dX6_nextOrder_74 : decode cX6_nextOrder 74 = .ok (.iload_n 2, 1) := by decide +kernel
theorem dX6_nextOrder_75 : decode cX6_nextOrder 75 = .ok (.aload_n 0, 1) := by decide +kernel
theorem dX6_nextOrder_76 : decode cX6_nextOrder 76 = .ok (.getfield 39, 3) := by decide +kernel
theorem dX6_nextOrder_79 : decode cX6_nextOrder 79 = .ok (.iload_n 3, 1) := by decide +kernel
theorem dX6_nextOrder_80 : decode cX6_nextOrder 80 = .ok (.iaload, 1) := by decide +kernel
theorem dX6_nextOrder_81 : decode cX6_nextOrder 81 = .ok (.iastore, 1) := by decide +kernel
theorem dX6_nextOrder_82 : decode cX6_nextOrder 82 = .ok (.aload_n 0, 1) := by decide +kernel
theorem dX6_nextOrder_83 : decode cX6_nextOrder 83 = .ok (.getfield 39, 3) := by decide +kernel
theorem dX6_nextOrder_86 : decode cX6_nextOrder 86 = .ok (.iload_n 3, 1) := by decide +kernel
theorem dX6_nextOrder_87 : decode cX6_nextOrder 87 = .ok (.iload 4, 2) := by decide +kernel
theorem dX6_nextOrder_89 : decode cX6_nextOrder 89 = .ok (.iastore, 1) := by decide +kernel
theorem dX6_nextOrder_90 : decode cX6_nextOrder 90 = .ok (.iload_n 2, 1) := by decide +kernel
theorem dX6_nextOrder_91 : decode cX6_nextOrder 91 = .ok (.iconst 1, 1) := by decide +kernel
theorem dX6_nextOrder_92 : decode cX6_nextOrder 92 = .ok (.iadd, 1) := by decide +kernel
theorem dX6_nextOrder_93 : decode cX6_nextOrder 93 = .ok (.istore 5, 2) := by decide +kernel
theorem dX6_nextOrder_95 : decode cX6_nextOrder 95 = .ok (.iload_n 1, 1) := by decide +kernel
theorem dX6_nextOrder_96 : decode cX6_nextOrder 96 = .ok (.iconst 1, 1) := by decide +kernel
theorem dX6_nextOrder_97 : decode cX6_nextOrder 97 = .ok (.isub, 1) := by decide +kernel
theorem dX6_nextOrder_98 : decode cX6_nextOrder 98 = .ok (.istore 6, 2) := by decide +kernel
theorem dX6_nextOrder_100 : decode cX6_nextOrder 100 = .ok (.iload 5, 2) := by decide +kernel
theorem dX6_nextOrder_102 : decode cX6_nextOrder 102 = .ok (.iload 6, 2) := by decide +kernel
theorem dX6_nextOrder_104 : decode cX6_nextOrder 104 = .ok (.if_icmp .ge 44, 3) := by decide +kernel
theorem dX6_nextOrder_107 : decode cX6_nextOrder 107 = .ok (.aload_n 0, 1) := by decide +kernel
theorem dX6_nextOrder_108 : decode cX6_nextOrder 108 = .ok (.getfield 39, 3) := by decide +kernel
theorem dX6_nextOrder_111 : decode cX6_nextOrder 111 = .ok (.iload 5, 2) := by decide +kernel
theorem dX6_nextOrder_113 : decode cX6_nextOrder 113 = .ok (.iaload, 1) := by decide +kernel
theorem dX6_nextOrder_114 : decode cX6_nextOrder 114 = .ok (.istore 4, 2) := by decide +kernel
theorem dX6_nextOrder_116 : decode cX6_nextOrder 116 = .ok (.aload_n 0, 1) := by decide +kernel
theorem dX6_nextOrder_117 : decode cX6_nextOrder 117 = .ok (.getfield 39, 3) := by decide +kernel
theorem dX6_nextOrder_120 : decode cX6_nextOrder 120 = .ok (.iload 5, 2) := by decide +kernel
theorem dX6_nextOrder_122 : decode cX6_nextOrder 122 = .ok (.aload_n 0, 1) := by decide +kernel
theorem dX6_nextOrder_123 : decode cX6_nextOrder 123 = .ok (.getfield 39, 3) := by decide +kernel
theorem dX6_nextOrder_126 : decode cX6_nextOrder 126 = .ok (.iload 6, 2) := by decide +kernel
theorem dX6_nextOrder_128 : decode cX6_nextOrder 128 = .ok (.iaload, 1) := by decide +kernel
