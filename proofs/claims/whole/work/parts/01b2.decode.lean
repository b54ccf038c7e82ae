theorem dX5_refuse_28 : decode cX5_refuse 28 = .ok (.iadd, 1) := by decide +kernel
theorem dX5_refuse_29 : decode cX5_refuse 29 = .ok (.iastore, 1) := by decide +kernel
theorem dX5_refuse_30 : decode cX5_refuse 30 = .ok (.iload_n 1, 1) := by decide +kernel
theorem dX5_refuse_31 : decode cX5_refuse 31 = .ok (.ireturn, 1) := by decide +kernel
theorem dX5_refuseAs_0 : decode cX5_refuseAs 0 = .ok (.aload_n 0, 1) := by decide +kernel
theorem dX5_refuseAs_1 : decode cX5_refuseAs 1 = .ok (.getfield 61, 3) := by decide +kernel
theorem dX5_refuseAs_4 : decode cX5_refuseAs 4 = .ok (.iconst 0, 1) := by decide +kernel
theorem dX5_refuseAs_5 : decode cX5_refuseAs 5 = .ok (.dup2, 1) := by decide +kernel
theorem dX5_refuseAs_6 : decode cX5_refuseAs 6 = .ok (.iaload, 1) := by decide +kernel
theorem dX5_refuseAs_7 : decode cX5_refuseAs 7 = .ok (.iconst 1, 1) := by decide +kernel
theorem dX5_refuseAs_8 : decode cX5_refuseAs 8 = .ok (.iadd, 1) := by decide +kernel
theorem dX5_refuseAs_9 : decode cX5_refuseAs 9 = .ok (.iastore, 1) := by decide +kernel
theorem dX5_refuseAs_10 : decode cX5_refuseAs 10 = .ok (.iload_n 1, 1) := by decide +kernel
theorem dX5_refuseAs_11 : decode cX5_refuseAs 11 = .ok (.ireturn, 1) := by decide +kernel
theorem dX5_within_0 : decode cX5_within 0 = .ok (.iload_n 0, 1) := by decide +kernel
theorem dX5_within_1 : decode cX5_within 1 = .ok (.iload_n 1, 1) := by decide +kernel
theorem dX5_within_2 : decode cX5_within 2 = .ok (.if_icmp .lt 12, 3) := by decide +kernel
theorem dX5_within_5 : decode cX5_within 5 = .ok (.iload_n 0, 1) := by decide +kernel
theorem dX5_within_6 : decode cX5_within 6 = .ok (.iload_n 2, 1) := by decide +kernel
theorem dX5_within_7 : decode cX5_within 7 = .ok (.if_icmp .gt 7, 3) := by decide +kernel
theorem dX5_within_10 : decode cX5_within 10 = .ok (.iconst 1, 1) := by decide +kernel
theorem dX5_within_11 : decode cX5_within 11 = .ok (.goto 4, 3) := by decide +kernel
theorem dX5_within_14 : decode cX5_within 14 = .ok (.iconst 0, 1) := by decide +kernel
theorem dX5_within_15 : decode cX5_within 15 = .ok (.ireturn, 1) := by decide +kernel
theorem dX5_isKind_0 : decode cX5_isKind 0 = .ok (.iload_n 0, 1) := by decide +kernel
theorem dX5_isKind_1 : decode cX5_isKind 1 = .ok (.iconst 0, 1) := by decide +kernel
theorem dX5_isKind_2 : decode cX5_isKind 2 = .ok (.iconst 5, 1) := by decide +kernel
theorem dX5_isKind_3 : decode cX5_isKind 3 = .ok (.invokestatic 85, 3) := by decide +kernel
theorem dX5_isKind_6 : decode cX5_isKind 6 = .ok (.ireturn, 1) := by decide +kernel
theorem dX5_isTrait_0 : decode cX5_isTrait 0 = .ok (.iload_n 0, 1) := by decide +kernel
theorem dX5_isTrait_1 : decode cX5_isTrait 1 = .ok (.iconst 0, 1) := by decide +kernel
theorem dX5_isTrait_2 : decode cX5_isTrait 2 = .ok (.iconst 3, 1) := by decide +kernel
theorem dX5_isTrait_3 : decode cX5_isTrait 3 = .ok (.invokestatic 85, 3) := by decide +kernel
theorem dX5_isTrait_6 : decode cX5_isTrait 6 = .ok (.ireturn, 1) := by decide +kernel
theorem dX5_isAhead_0 : decode cX5_isAhead 0 = .ok (.iload_n 0, 1) := by decide +kernel
theorem dX5_isAhead_1 : decode cX5_isAhead 1 = .ok (.iconst 0, 1) := by decide +kernel
theorem dX5_isAhead_2 : decode cX5_isAhead 2 = .ok (.bipush 60, 2) := by decide +kernel
theorem dX5_isAhead_4 : decode cX5_isAhead 4 = .ok (.invokestatic 85, 3) := by decide +kernel
theorem dX5_isAhead_7 : decode cX5_isAhead 7 = .ok (.ireturn, 1) := by decide +kernel
theorem dX5_isSeat_0 : decode cX5_isSeat 0 = .ok (.iload_n 1, 1) := by decide +kernel
theorem dX5_isSeat_1 : decode cX5_isSeat 1 = .ok (.iconst 0, 1) := by decide +kernel
theorem dX5_isSeat_2 : decode cX5_isSeat 2 = .ok (.aload_n 0, 1) := by decide +kernel
theorem dX5_isSeat_3 : decode cX5_isSeat 3 = .ok (.getfield 10, 3) := by decide +kernel
theorem dX5_isSeat_6 : decode cX5_isSeat 6 = .ok (.getfield 93, 3) := by decide +kernel
theorem dX5_isSeat_9 : decode cX5_isSeat 9 = .ok (.iconst 1, 1) := by decide +kernel
theorem dX5_isSeat_10 : decode cX5_isSeat 10 = .ok (.isub, 1) := by decide +kernel
theorem dX5_isSeat_11 : decode cX5_isSeat 11 = .ok (.invokestatic 85, 3) := by decide +kernel
theorem dX5_isSeat_14 : decode cX5_isSeat 14 = .ok (.ireturn, 1) := by decide +kernel
theorem dX5_isSeatOrNone_0 : decode cX5_isSeatOrNone 0 = .ok (.iload_n 1, 1) := by decide +kernel
theorem dX5_isSeatOrNone_1 : decode cX5_isSeatOrNone 1 = .ok (.iconst (-1), 1) := by decide +kernel
theorem dX5_isSeatOrNone_2 : decode cX5_isSeatOrNone 2 = .ok (.if_icmp .eq 11, 3) := by decide +kernel
theorem dX5_isSeatOrNone_5 : decode cX5_isSeatOrNone 5 = .ok (.aload_n 0, 1) := by decide +kernel
theorem dX5_isSeatOrNone_6 : decode cX5_isSeatOrNone 6 = .ok (.iload_n 1, 1) := by decide +kernel
theorem dX5_isSeatOrNone_7 : decode cX5_isSeatOrNone 7 = .ok (.invokevirtual 165, 3) := by decide +kernel
theorem dX5_isSeatOrNone_10 : decode cX5_isSeatOrNone 10 = .ok (.ifCond .eq 7, 3) := by decide +kernel
theorem dX5_isSeatOrNone_13 : decode cX5_isSeatOrNone 13 = .ok (.iconst 1, 1) := by decide +kernel
theorem dX5_isSeatOrNone_14 : decode cX5_isSeatOrNone 14 = .ok (.goto 4, 3) := by decide +kernel
theorem dX5_isSeatOrNone_17 : decode cX5_isSeatOrNone 17 = .ok (.iconst 0, 1) := by decide +kernel
theorem dX5_isSeatOrNone_18 : decode cX5_isSeatOrNone 18 = .ok (.ireturn, 1) := by decide +kernel
theorem dX5_isCanon_0 : decode cX5_isCanon 0 = .ok (.iload_n 1, 1) := by decide +kernel
theorem dX5_isCanon_1 : decode cX5_isCanon 1 = .ok (.iconst 0, 1) := by decide +kernel
theorem dX5_isCanon_2 : decode cX5_isCanon 2 = .ok (.aload_n 0, 1) := by decide +kernel
theorem dX5_isCanon_3 : decode cX5_isCanon 3 = .ok (.getfield 10, 3) := by decide +kernel
theorem dX5_isCanon_6 : decode cX5_isCanon 6 = .ok (.getfield 71, 3) := by decide +kernel
theorem dX5_isCanon_9 : decode cX5_isCanon 9 = .ok (.iconst 1, 1) := by decide +kernel
theorem dX5_isCanon_10 : decode cX5_isCanon 10 = .ok (.isub, 1) := by decide +kernel
theorem dX5_isCanon_11 : decode cX5_isCanon 11 = .ok (.invokestatic 85, 3) := by decide +kernel
theorem dX5_isCanon_14 : decode cX5_isCanon 14 = .ok (.ireturn, 1) := by decide +kernel
theorem dX5_lookAhead_0 : decode cX5_lookAhead 0 = .ok (.aload_n 0, 1) := by decide +kernel
theorem dX5_lookAhead_1 : decode cX5_lookAhead 1 = .ok (.getfield 30, 3) := by decide +kernel
theorem dX5_lookAhead_4 : decode cX5_lookAhead 4 = .ok (.aload_n 0, 1) := by decide +kernel
theorem dX5_lookAhead_5 : decode cX5_lookAhead 5 = .ok (.getfield 10, 3) := by decide +kernel
theorem dX5_lookAhead_8 : decode cX5_lookAhead 8 = .ok (.getfield 131, 3) := by decide +kernel
theorem dX5_lookAhead_11 : decode cX5_lookAhead 11 = .ok (.invokevirtual 209, 3) := by decide +kernel
theorem dX5_lookAhead_14 : decode cX5_lookAhead 14 = .ok (.iconst 0, 1) := by decide +kernel
theorem dX5_lookAhead_15 : decode cX5_lookAhead 15 = .ok (.istore_n 2, 1) := by decide +kernel
theorem dX5_lookAhead_16 : decode cX5_lookAhead 16 = .ok (.iload_n 2, 1) := by decide +kernel
theorem dX5_lookAhead_17 : decode cX5_lookAhead 17 = .ok (.iload_n 1, 1) := by decide +kernel
theorem dX5_lookAhead_18 : decode cX5_lookAhead 18 = .ok (.if_icmp .ge 20, 3) := by decide +kernel
theorem dX5_lookAhead_21 : decode cX5_lookAhead 21 = .ok (.aload_n 0, 1) := by decide +kernel
theorem dX5_lookAhead_22 : decode cX5_lookAhead 22 = .ok (.getfield 10, 3) := by decide +kernel
theorem dX5_lookAhead_25 : decode cX5_lookAhead 25 = .ok (.aload_n 0, 1) := by decide +kernel
theorem dX5_lookAhead_26 : decode cX5_lookAhead 26 = .ok (.getfield 30, 3) := by decide +kernel
theorem dX5_lookAhead_29 : decode cX5_lookAhead 29 = .ok (.invokevirtual 215, 3) := by decide +kernel
theorem dX5_lookAhead_32 : decode cX5_lookAhead 32 = .ok (.iinc 2 1, 3) := by decide +kernel
theorem dX5_lookAhead_35 : decode cX5_lookAhead 35 = .ok (.goto (-19), 3) := by decide +kernel
theorem dX5_lookAhead_38 : decode cX5_lookAhead 38 = .ok (.return_, 1) := by decide +kernel
theorem dX5_yearsUntil_0 : decode cX5_yearsUntil 0 = .ok (.aload_n 0, 1) := by decide +kernel
theorem dX5_yearsUntil_1 : decode cX5_yearsUntil 1 = .ok (.getfield 30, 3) := by decide +kernel
theorem dX5_yearsUntil_4 : decode cX5_yearsUntil 4 = .ok (.aload_n 0, 1) := by decide +kernel
theorem dX5_yearsUntil_5 : decode cX5_yearsUntil 5 = .ok (.getfield 10, 3) := by decide +kernel
theorem dX5_yearsUntil_8 : decode cX5_yearsUntil 8 = .ok (.getfield 131, 3) := by decide +kernel
theorem dX5_yearsUntil_11 : decode cX5_yearsUntil 11 = .ok (.invokevirtual 209, 3) := by decide +kernel
theorem dX5_yearsUntil_14 : decode cX5_yearsUntil 14 = .ok (.aload_n 0, 1) := by decide +kernel
theorem dX5_yearsUntil_15 : decode cX5_yearsUntil 15 = .ok (.getfield 30, 3) := by decide +kernel
theorem dX5_yearsUntil_18 : decode cX5_yearsUntil 18 = .ok (.getfield 141, 3) := by decide +kernel
theorem dX5_yearsUntil_21 : decode cX5_yearsUntil 21 = .ok (.iload_n 1, 1) := by decide +kernel
theorem dX5_yearsUntil_22 : decode cX5_yearsUntil 22 = .ok (.iload_n 2, 1) := by decide +kernel
theorem dX5_yearsUntil_23 : decode cX5_yearsUntil 23 = .ok (.iastore, 1) := by decide +kernel
theorem dX5_yearsUntil_24 : decode cX5_yearsUntil 24 = .ok (.iconst 0, 1) := by decide +kernel
theorem dX5_yearsUntil_25 : decode cX5_yearsUntil 25 = .ok (.istore 5, 2) := by decide +kernel
theorem dX5_yearsUntil_27 : decode cX5_yearsUntil 27 = .ok (.iload 5, 2) := by decide +kernel
theorem dX5_yearsUntil_29 : decode cX5_yearsUntil 29 = .ok (.bipush 60, 2) := by decide +kernel
theorem dX5_yearsUntil_31 : decode cX5_yearsUntil 31 = .ok (.if_icmp .gt 51, 3) := by decide +kernel
theorem dX5_yearsUntil_34 : decode cX5_yearsUntil 34 = .ok (.aload_n 0, 1) := by decide +kernel
theorem dX5_yearsUntil_35 : decode cX5_yearsUntil 35 = .ok (.getfield 30, 3) := by decide +kernel
theorem dX5_yearsUntil_38 : decode cX5_yearsUntil 38 = .ok (.iload_n 1, 1) := by decide +kernel
theorem dX5_yearsUntil_39 : decode cX5_yearsUntil 39 = .ok (.iload_n 3, 1) := by decide +kernel
theorem dX5_yearsUntil_40 : decode cX5_yearsUntil 40 = .ok (.invokevirtual 192, 3) := by decide +kernel
theorem dX5_yearsUntil_43 : decode cX5_yearsUntil 43 = .ok (.iload 4, 2) := by decide +kernel
theorem dX5_yearsUntil_45 : decode cX5_yearsUntil 45 = .ok (.if_icmp .lt 6, 3) := by decide +kernel
theorem dX5_yearsUntil_48 : decode cX5_yearsUntil 48 = .ok (.iload 5, 2) := by decide +kernel
theorem dX5_yearsUntil_50 : decode cX5_yearsUntil 50 = .ok (.ireturn, 1) := by decide +kernel
theorem dX5_yearsUntil_51 : decode cX5_yearsUntil 51 = .ok (.aload_n 0, 1) := by decide +kernel
theorem dX5_yearsUntil_52 : decode cX5_yearsUntil 52 = .ok (.getfield 10, 3) := by decide +kernel
theorem dX5_yearsUntil_55 : decode cX5_yearsUntil 55 = .ok (.aload_n 0, 1) := by decide +kernel
theorem dX5_yearsUntil_56 : decode cX5_yearsUntil 56 = .ok (.getfield 30, 3) := by decide +kernel
theorem dX5_yearsUntil_59 : decode cX5_yearsUntil 59 = .ok (.iload_n 1, 1) := by decide +kernel
theorem dX5_yearsUntil_60 : decode cX5_yearsUntil 60 = .ok (.invokevirtual 316, 3) := by decide +kernel
theorem dX5_yearsUntil_63 : decode cX5_yearsUntil 63 = .ok (.aload_n 0, 1) := by decide +kernel
theorem dX5_yearsUntil_64 : decode cX5_yearsUntil 64 = .ok (.getfield 30, 3) := by decide +kernel
theorem dX5_yearsUntil_67 : decode cX5_yearsUntil 67 = .ok (.dup, 1) := by decide +kernel
theorem dX5_yearsUntil_68 : decode cX5_yearsUntil 68 = .ok (.getfield 162, 3) := by decide +kernel
theorem dX5_yearsUntil_71 : decode cX5_yearsUntil 71 = .ok (.iconst 1, 1) := by decide +kernel
theorem dX5_yearsUntil_72 : decode cX5_yearsUntil 72 = .ok (.iadd, 1) := by decide +kernel
theorem dX5_yearsUntil_73 : decode cX5_yearsUntil 73 = .ok (.putfield 162, 3) := by decide +kernel
theorem dX5_yearsUntil_76 : decode cX5_yearsUntil 76 = .ok (.iinc 5 1, 3) := by decide +kernel
theorem dX5_yearsUntil_79 : decode cX5_yearsUntil 79 = .ok (.goto (-52), 3) := by decide +kernel
theorem dX5_yearsUntil_82 : decode cX5_yearsUntil 82 = .ok (.iconst (-1), 1) := by decide +kernel
theorem dX5_yearsUntil_83 : decode cX5_yearsUntil 83 = .ok (.ireturn, 1) := by decide +kernel
theorem dX5_write_0 : decode cX5_write 0 = .ok (.aload_n 1, 1) := by decide +kernel
theorem dX5_write_1 : decode cX5_write 1 = .ok (.getfield 257, 3) := by decide +kernel
theorem dX5_write_4 : decode cX5_write 4 = .ok (.bipush 6, 2) := by decide +kernel
theorem dX5_write_6 : decode cX5_write 6 = .ok (.if_icmp .lt 10, 3) := by decide +kernel
theorem dX5_write_9 : decode cX5_write 9 = .ok (.aload_n 0, 1) := by decide +kernel
theorem dX5_write_10 : decode cX5_write 10 = .ok (.bipush (-4), 2) := by decide +kernel
theorem dX5_write_12 : decode cX5_write 12 = .ok (.invokevirtual 89, 3) := by decide +kernel
theorem dX5_write_15 : decode cX5_write 15 = .ok (.ireturn, 1) := by decide +kernel
theorem dX5_write_16 : decode cX5_write 16 = .ok (.aload_n 1, 1) := by decide +kernel
theorem dX5_write_17 : decode cX5_write 17 = .ok (.iload_n 2, 1) := by decide +kernel
theorem dX5_write_18 : decode cX5_write 18 = .ok (.iload_n 3, 1) := by decide +kernel
theorem dX5_write_19 : decode cX5_write 19 = .ok (.iload 4, 2) := by decide +kernel
theorem dX5_write_21 : decode cX5_write 21 = .ok (.iload 5, 2) := by decide +kernel
theorem dX5_write_23 : decode cX5_write 23 = .ok (.iload 6, 2) := by decide +kernel
theorem dX5_write_25 : decode cX5_write 25 = .ok (.invokevirtual 320, 3) := by decide +kernel
theorem dX5_write_28 : decode cX5_write 28 = .ok (.aload_n 1, 1) := by decide +kernel
theorem dX5_write_29 : decode cX5_write 29 = .ok (.getfield 257, 3) := by decide +kernel
theorem dX5_write_32 : decode cX5_write 32 = .ok (.ireturn, 1) := by decide +kernel
theorem dX5_seatKinds_0 : decode cX5_seatKinds 0 = .ok (.aload_n 0, 1) := by decide +kernel
theorem dX5_seatKinds_1 : decode cX5_seatKinds 1 = .ok (.getfield 10, 3) := by decide +kernel
theorem dX5_seatKinds_4 : decode cX5_seatKinds 4 = .ok (.getfield 251, 3) := by decide +kernel
theorem dX5_seatKinds_7 : decode cX5_seatKinds 7 = .ok (.astore_n 2, 1) := by decide +kernel
theorem dX5_seatKinds_8 : decode cX5_seatKinds 8 = .ok (.iconst 0, 1) := by decide +kernel
theorem dX5_seatKinds_9 : decode cX5_seatKinds 9 = .ok (.istore_n 3, 1) := by decide +kernel
theorem dX5_seatKinds_10 : decode cX5_seatKinds 10 = .ok (.iconst 0, 1) := by decide +kernel
theorem dX5_seatKinds_11 : decode cX5_seatKinds 11 = .ok (.istore 4, 2) := by decide +kernel
theorem dX5_seatKinds_13 : decode cX5_seatKinds 13 = .ok (.iload 4, 2) := by decide +kernel
theorem dX5_seatKinds_15 : decode cX5_seatKinds 15 = .ok (.bipush 6, 2) := by decide +kernel
theorem dX5_seatKinds_17 : decode cX5_seatKinds 17 = .ok (.if_icmp .ge 109, 3) := by decide +kernel
theorem dX5_seatKinds_20 : decode cX5_seatKinds 20 = .ok (.iconst 1, 1) := by decide +kernel
theorem dX5_seatKinds_21 : decode cX5_seatKinds 21 = .ok (.istore 5, 2) := by decide +kernel
theorem dX5_seatKinds_23 : decode cX5_seatKinds 23 = .ok (.iconst 0, 1) := by decide +kernel
theorem dX5_seatKinds_24 : decode cX5_seatKinds 24 = .ok (.istore 6, 2) := by decide +kernel
theorem dX5_seatKinds_26 : decode cX5_seatKinds 26 = .ok (.iload 6, 2) := by decide +kernel
theorem dX5_seatKinds_28 : decode cX5_seatKinds 28 = .ok (.aload_n 2, 1) := by decide +kernel
theorem dX5_seatKinds_29 : decode cX5_seatKinds 29 = .ok (.getfield 257, 3) := by decide +kernel
theorem dX5_seatKinds_32 : decode cX5_seatKinds 32 = .ok (.if_icmp .ge 72, 3) := by decide +kernel
theorem dX5_seatKinds_35 : decode cX5_seatKinds 35 = .ok (.iload 4, 2) := by decide +kernel
theorem dX5_seatKinds_37 : decode cX5_seatKinds 37 = .ok (.aload_n 2, 1) := by decide +kernel
theorem dX5_seatKinds_38 : decode cX5_seatKinds 38 = .ok (.iload 6, 2) := by decide +kernel
theorem dX5_seatKinds_40 : decode cX5_seatKinds 40 = .ok (.iconst 1, 1) := by decide +kernel
theorem dX5_seatKinds_41 : decode cX5_seatKinds 41 = .ok (.invokevirtual 324, 3) := by decide +kernel
theorem dX5_seatKinds_44 : decode cX5_seatKinds 44 = .ok (.aload_n 2, 1) := by decide +kernel
theorem dX5_seatKinds_45 : decode cX5_seatKinds 45 = .ok (.iload 6, 2) := by decide +kernel
theorem dX5_seatKinds_47 : decode cX5_seatKinds 47 = .ok (.iconst 2, 1) := by decide +kernel
theorem dX5_seatKinds_48 : decode cX5_seatKinds 48 = .ok (.invokevirtual 324, 3) := by decide +kernel
theorem dX5_seatKinds_51 : decode cX5_seatKinds 51 = .ok (.aload_n 2, 1) := by decide +kernel
theorem dX5_seatKinds_52 : decode cX5_seatKinds 52 = .ok (.iload 6, 2) := by decide +kernel
theorem dX5_seatKinds_54 : decode cX5_seatKinds 54 = .ok (.iconst 3, 1) := by decide +kernel
theorem dX5_seatKinds_55 : decode cX5_seatKinds 55 = .ok (.invokevirtual 324, 3) := by decide +kernel
theorem dX5_seatKinds_58 : decode cX5_seatKinds 58 = .ok (.invokestatic 218, 3) := by decide +kernel
theorem dX5_seatKinds_61 : decode cX5_seatKinds 61 = .ok (.istore 7, 2) := by decide +kernel
theorem dX5_seatKinds_63 : decode cX5_seatKinds 63 = .ok (.iload 5, 2) := by decide +kernel
theorem dX5_seatKinds_65 : decode cX5_seatKinds 65 = .ok (.ifCond .eq 30, 3) := by decide +kernel
theorem dX5_seatKinds_68 : decode cX5_seatKinds 68 = .ok (.aload_n 2, 1) := by decide +kernel
theorem dX5_seatKinds_69 : decode cX5_seatKinds 69 = .ok (.iload 6, 2) := by decide +kernel
theorem dX5_seatKinds_71 : decode cX5_seatKinds 71 = .ok (.iconst 0, 1) := by decide +kernel
theorem dX5_seatKinds_72 : decode cX5_seatKinds 72 = .ok (.invokevirtual 324, 3) := by decide +kernel
theorem dX5_seatKinds_75 : decode cX5_seatKinds 75 = .ok (.iload_n 1, 1) := by decide +kernel
theorem dX5_seatKinds_76 : decode cX5_seatKinds 76 = .ok (.if_icmp .ne 15, 3) := by decide +kernel
theorem dX5_seatKinds_79 : decode cX5_seatKinds 79 = .ok (.iload 7, 2) := by decide +kernel
theorem dX5_seatKinds_81 : decode cX5_seatKinds 81 = .ok (.aload_n 2, 1) := by decide +kernel
theorem dX5_seatKinds_82 : decode cX5_seatKinds 82 = .ok (.iload 6, 2) := by decide +kernel
theorem dX5_seatKinds_84 : decode cX5_seatKinds 84 = .ok (.iconst 4, 1) := by decide +kernel
theorem dX5_seatKinds_85 : decode cX5_seatKinds 85 = .ok (.invokevirtual 324, 3) := by decide +kernel
theorem dX5_seatKinds_88 : decode cX5_seatKinds 88 = .ok (.if_icmp .ne 7, 3) := by decide +kernel
theorem dX5_seatKinds_91 : decode cX5_seatKinds 91 = .ok (.iconst 1, 1) := by decide +kernel
theorem dX5_seatKinds_92 : decode cX5_seatKinds 92 = .ok (.goto 4, 3) := by decide +kernel
theorem dX5_seatKinds_95 : decode cX5_seatKinds 95 = .ok (.iconst 0, 1) := by decide +kernel
theorem dX5_seatKinds_96 : decode cX5_seatKinds 96 = .ok (.istore 5, 2) := by decide +kernel
theorem dX5_seatKinds_98 : decode cX5_seatKinds 98 = .ok (.iinc 6 1, 3) := by decide +kernel
theorem dX5_seatKinds_101 : decode cX5_seatKinds 101 = .ok (.goto (-75), 3) := by decide +kernel
theorem dX5_seatKinds_104 : decode cX5_seatKinds 104 = .ok (.iload_n 3, 1) := by decide +kernel
theorem dX5_seatKinds_105 : decode cX5_seatKinds 105 = .ok (.iload 5, 2) := by decide +kernel
theorem dX5_seatKinds_107 : decode cX5_seatKinds 107 = .ok (.ifCond .eq 10, 3) := by decide +kernel
theorem dX5_seatKinds_110 : decode cX5_seatKinds 110 = .ok (.iconst 1, 1) := by decide +kernel
theorem dX5_seatKinds_111 : decode cX5_seatKinds 111 = .ok (.iload 4, 2) := by decide +kernel
theorem dX5_seatKinds_113 : decode cX5_seatKinds 113 = .ok (.ishl, 1) := by decide +kernel
theorem dX5_seatKinds_114 : decode cX5_seatKinds 114 = .ok (.goto 4, 3) := by decide +kernel
theorem dX5_seatKinds_117 : decode cX5_seatKinds 117 = .ok (.iconst 0, 1) := by decide +kernel
theorem dX5_seatKinds_118 : decode cX5_seatKinds 118 = .ok (.ior, 1) := by decide +kernel
theorem dX5_seatKinds_119 : decode cX5_seatKinds 119 = .ok (.istore_n 3, 1) := by decide +kernel
theorem dX5_seatKinds_120 : decode cX5_seatKinds 120 = .ok (.iinc 4 1, 3) := by decide +kernel
theorem dX5_seatKinds_123 : decode cX5_seatKinds 123 = .ok (.goto (-110), 3) := by decide +kernel
theorem dX5_seatKinds_126 : decode cX5_seatKinds 126 = .ok (.iload_n 3, 1) := by decide +kernel
theorem dX5_seatKinds_127 : decode cX5_seatKinds 127 = .ok (.ireturn, 1) := by decide +kernel
theorem dX5_canonKinds_0 : decode cX5_canonKinds 0 = .ok (.aload_n 0, 1) := by decide +kernel
theorem dX5_canonKinds_1 : decode cX5_canonKinds 1 = .ok (.getfield 10, 3) := by decide +kernel
theorem dX5_canonKinds_4 : decode cX5_canonKinds 4 = .ok (.getfield 254, 3) := by decide +kernel
theorem dX5_canonKinds_7 : decode cX5_canonKinds 7 = .ok (.astore_n 2, 1) := by decide +kernel
theorem dX5_canonKinds_8 : decode cX5_canonKinds 8 = .ok (.iconst 0, 1) := by decide +kernel
theorem dX5_canonKinds_9 : decode cX5_canonKinds 9 = .ok (.istore_n 3, 1) := by decide +kernel
theorem dX5_canonKinds_10 : decode cX5_canonKinds 10 = .ok (.iconst 0, 1) := by decide +kernel
theorem dX5_canonKinds_11 : decode cX5_canonKinds 11 = .ok (.istore 4, 2) := by decide +kernel
theorem dX5_canonKinds_13 : decode cX5_canonKinds 13 = .ok (.iload 4, 2) := by decide +kernel
theorem dX5_canonKinds_15 : decode cX5_canonKinds 15 = .ok (.bipush 6, 2) := by decide +kernel
theorem dX5_canonKinds_17 : decode cX5_canonKinds 17 = .ok (.if_icmp .ge 102, 3) := by decide +kernel
theorem dX5_canonKinds_20 : decode cX5_canonKinds 20 = .ok (.iconst 1, 1) := by decide +kernel
theorem dX5_canonKinds_21 : decode cX5_canonKinds 21 = .ok (.istore 5, 2) := by decide +kernel
theorem dX5_canonKinds_23 : decode cX5_canonKinds 23 = .ok (.iconst 0, 1) := by decide +kernel
theorem dX5_canonKinds_24 : decode cX5_canonKinds 24 = .ok (.istore 6, 2) := by decide +kernel
theorem dX5_canonKinds_26 : decode cX5_canonKinds 26 = .ok (.iload 6, 2) := by decide +kernel
theorem dX5_canonKinds_28 : decode cX5_canonKinds 28 = .ok (.aload_n 2, 1) := by decide +kernel
theorem dX5_canonKinds_29 : decode cX5_canonKinds 29 = .ok (.getfield 257, 3) := by decide +kernel
theorem dX5_canonKinds_32 : decode cX5_canonKinds 32 = .ok (.if_icmp .ge 65, 3) := by decide +kernel
theorem dX5_canonKinds_35 : decode cX5_canonKinds 35 = .ok (.iload 4, 2) := by decide +kernel
theorem dX5_canonKinds_37 : decode cX5_canonKinds 37 = .ok (.aload_n 2, 1) := by decide +kernel
theorem dX5_canonKinds_38 : decode cX5_canonKinds 38 = .ok (.iload 6, 2) := by decide +kernel
theorem dX5_canonKinds_40 : decode cX5_canonKinds 40 = .ok (.iconst 1, 1) := by decide +kernel
theorem dX5_canonKinds_41 : decode cX5_canonKinds 41 = .ok (.invokevirtual 324, 3) := by decide +kernel
theorem dX5_canonKinds_44 : decode cX5_canonKinds 44 = .ok (.aload_n 2, 1) := by decide +kernel
theorem dX5_canonKinds_45 : decode cX5_canonKinds 45 = .ok (.iload 6, 2) := by decide +kernel
theorem dX5_canonKinds_47 : decode cX5_canonKinds 47 = .ok (.iconst 2, 1) := by decide +kernel
theorem dX5_canonKinds_48 : decode cX5_canonKinds 48 = .ok (.invokevirtual 324, 3) := by decide +kernel
theorem dX5_canonKinds_51 : decode cX5_canonKinds 51 = .ok (.invokestatic 271, 3) := by decide +kernel
theorem dX5_canonKinds_54 : decode cX5_canonKinds 54 = .ok (.istore 7, 2) := by decide +kernel
theorem dX5_canonKinds_56 : decode cX5_canonKinds 56 = .ok (.iload 5, 2) := by decide +kernel
theorem dX5_canonKinds_58 : decode cX5_canonKinds 58 = .ok (.ifCond .eq 30, 3) := by decide +kernel
theorem dX5_canonKinds_61 : decode cX5_canonKinds 61 = .ok (.aload_n 2, 1) := by decide +kernel
theorem dX5_canonKinds_62 : decode cX5_canonKinds 62 = .ok (.iload 6, 2) := by decide +kernel
theorem dX5_canonKinds_64 : decode cX5_canonKinds 64 = .ok (.iconst 0, 1) := by decide +kernel
theorem dX5_canonKinds_65 : decode cX5_canonKinds 65 = .ok (.invokevirtual 324, 3) := by decide +kernel
theorem dX5_canonKinds_68 : decode cX5_canonKinds 68 = .ok (.iload_n 1, 1) := by decide +kernel
theorem dX5_canonKinds_69 : decode cX5_canonKinds 69 = .ok (.if_icmp .ne 15, 3) := by decide +kernel
theorem dX5_canonKinds_72 : decode cX5_canonKinds 72 = .ok (.iload 7, 2) := by decide +kernel
theorem dX5_canonKinds_74 : decode cX5_canonKinds 74 = .ok (.aload_n 2, 1) := by decide +kernel
theorem dX5_canonKinds_75 : decode cX5_canonKinds 75 = .ok (.iload 6, 2) := by decide +kernel
theorem dX5_canonKinds_77 : decode cX5_canonKinds 77 = .ok (.iconst 3, 1) := by decide +kernel
theorem dX5_canonKinds_78 : decode cX5_canonKinds 78 = .ok (.invokevirtual 324, 3) := by decide +kernel
theorem dX5_canonKinds_81 : decode cX5_canonKinds 81 = .ok (.if_icmp .ne 7, 3) := by decide +kernel
theorem dX5_canonKinds_84 : decode cX5_canonKinds 84 = .ok (.iconst 1, 1) := by decide +kernel
theorem dX5_canonKinds_85 : decode cX5_canonKinds 85 = .ok (.goto 4, 3) := by decide +kernel
theorem dX5_canonKinds_88 : decode cX5_canonKinds 88 = .ok (.iconst 0, 1) := by decide +kernel
theorem dX5_canonKinds_89 : decode cX5_canonKinds 89 = .ok (.istore 5, 2) := by decide +kernel
theorem dX5_canonKinds_91 : decode cX5_canonKinds 91 = .ok (.iinc 6 1, 3) := by decide +kernel
theorem dX5_canonKinds_94 : decode cX5_canonKinds 94 = .ok (.goto (-68), 3) := by decide +kernel
theorem dX5_canonKinds_97 : decode cX5_canonKinds 97 = .ok (.iload_n 3, 1) := by decide +kernel
theorem dX5_canonKinds_98 : decode cX5_canonKinds 98 = .ok (.iload 5, 2) := by decide +kernel
theorem dX5_canonKinds_100 : decode cX5_canonKinds 100 = .ok (.ifCond .eq 10, 3) := by decide +kernel
theorem dX5_canonKinds_103 : decode cX5_canonKinds 103 = .ok (.iconst 1, 1) := by decide +kernel
theorem dX5_canonKinds_104 : decode cX5_canonKinds 104 = .ok (.iload 4, 2) := by decide +kernel
theorem dX5_canonKinds_106 : decode cX5_canonKinds 106 = .ok (.ishl, 1) := by decide +kernel
theorem dX5_canonKinds_107 : decode cX5_canonKinds 107 = .ok (.goto 4, 3) := by decide +kernel
theorem dX5_canonKinds_110 : decode cX5_canonKinds 110 = .ok (.iconst 0, 1) := by decide +kernel
theorem dX5_canonKinds_111 : decode cX5_canonKinds 111 = .ok (.ior, 1) := by decide +kernel
theorem dX5_canonKinds_112 : decode cX5_canonKinds 112 = .ok (.istore_n 3, 1) := by decide +kernel
theorem dX5_canonKinds_113 : decode cX5_canonKinds 113 = .ok (.iinc 4 1, 3) := by decide +kernel
theorem dX5_canonKinds_116 : decode cX5_canonKinds 116 = .ok (.goto (-103), 3) := by decide +kernel
theorem dX5_canonKinds_119 : decode cX5_canonKinds 119 = .ok (.iload_n 3, 1) := by decide +kernel
theorem dX5_canonKinds_120 : decode cX5_canonKinds 120 = .ok (.ireturn, 1) := by decide +kernel
theorem dX5_mostAlike_0 : decode cX5_mostAlike 0 = .ok (.iconst 0, 1) := by decide +kernel
theorem dX5_mostAlike_1 : decode cX5_mostAlike 1 = .ok (.istore_n 2, 1) := by decide +kernel
theorem dX5_mostAlike_2 : decode cX5_mostAlike 2 = .ok (.iconst 0, 1) := by decide +kernel
theorem dX5_mostAlike_3 : decode cX5_mostAlike 3 = .ok (.istore_n 3, 1) := by decide +kernel
theorem dX5_mostAlike_4 : decode cX5_mostAlike 4 = .ok (.iload_n 3, 1) := by decide +kernel
theorem dX5_mostAlike_5 : decode cX5_mostAlike 5 = .ok (.bipush 6, 2) := by decide +kernel
theorem dX5_mostAlike_7 : decode cX5_mostAlike 7 = .ok (.if_icmp .ge 73, 3) := by decide +kernel
theorem dX5_mostAlike_10 : decode cX5_mostAlike 10 = .ok (.iconst 0, 1) := by decide +kernel
theorem dX5_mostAlike_11 : decode cX5_mostAlike 11 = .ok (.istore 4, 2) := by decide +kernel
theorem dX5_mostAlike_13 : decode cX5_mostAlike 13 = .ok (.iconst 0, 1) := by decide +kernel
theorem dX5_mostAlike_14 : decode cX5_mostAlike 14 = .ok (.istore 5, 2) := by decide +kernel
theorem dX5_mostAlike_16 : decode cX5_mostAlike 16 = .ok (.iload 5, 2) := by decide +kernel
theorem dX5_mostAlike_18 : decode cX5_mostAlike 18 = .ok (.bipush 6, 2) := by decide +kernel
theorem dX5_mostAlike_20 : decode cX5_mostAlike 20 = .ok (.if_icmp .ge 47, 3) := by decide +kernel
theorem dX5_mostAlike_23 : decode cX5_mostAlike 23 = .ok (.iload_n 1, 1) := by decide +kernel
theorem dX5_mostAlike_24 : decode cX5_mostAlike 24 = .ok (.iload_n 3, 1) := by decide +kernel
theorem dX5_mostAlike_25 : decode cX5_mostAlike 25 = .ok (.ishr, 1) := by decide +kernel
theorem dX5_mostAlike_26 : decode cX5_mostAlike 26 = .ok (.iconst 1, 1) := by decide +kernel
theorem dX5_mostAlike_27 : decode cX5_mostAlike 27 = .ok (.iand, 1) := by decide +kernel
theorem dX5_mostAlike_28 : decode cX5_mostAlike 28 = .ok (.iconst 1, 1) := by decide +kernel
theorem dX5_mostAlike_29 : decode cX5_mostAlike 29 = .ok (.if_icmp .ne 32, 3) := by decide +kernel
theorem dX5_mostAlike_32 : decode cX5_mostAlike 32 = .ok (.iload_n 1, 1) := by decide +kernel
theorem dX5_mostAlike_33 : decode cX5_mostAlike 33 = .ok (.iload 5, 2) := by decide +kernel
theorem dX5_mostAlike_35 : decode cX5_mostAlike 35 = .ok (.ishr, 1) := by decide +kernel
theorem dX5_mostAlike_36 : decode cX5_mostAlike 36 = .ok (.iconst 1, 1) := by decide +kernel
theorem dX5_mostAlike_37 : decode cX5_mostAlike 37 = .ok (.iand, 1) := by decide +kernel
theorem dX5_mostAlike_38 : decode cX5_mostAlike 38 = .ok (.iconst 1, 1) := by decide +kernel
theorem dX5_mostAlike_39 : decode cX5_mostAlike 39 = .ok (.if_icmp .ne 22, 3) := by decide +kernel
theorem dX5_mostAlike_42 : decode cX5_mostAlike 42 = .ok (.aload_n 0, 1) := by decide +kernel
theorem dX5_mostAlike_43 : decode cX5_mostAlike 43 = .ok (.getfield 52, 3) := by decide +kernel
theorem dX5_mostAlike_46 : decode cX5_mostAlike 46 = .ok (.iload 5, 2) := by decide +kernel
theorem dX5_mostAlike_48 : decode cX5_mostAlike 48 = .ok (.iaload, 1) := by decide +kernel
theorem dX5_mostAlike_49 : decode cX5_mostAlike 49 = .ok (.aload_n 0, 1) := by decide +kernel
theorem dX5_mostAlike_50 : decode cX5_mostAlike 50 = .ok (.getfield 52, 3) := by decide +kernel
theorem dX5_mostAlike_53 : decode cX5_mostAlike 53 = .ok (.iload_n 3, 1) := by decide +kernel
theorem dX5_mostAlike_54 : decode cX5_mostAlike 54 = .ok (.iaload, 1) := by decide +kernel
theorem dX5_mostAlike_55 : decode cX5_mostAlike 55 = .ok (.if_icmp .ne 6, 3) := by decide +kernel
theorem dX5_mostAlike_58 : decode cX5_mostAlike 58 = .ok (.iinc 4 1, 3) := by decide +kernel
theorem dX5_mostAlike_61 : decode cX5_mostAlike 61 = .ok (.iinc 5 1, 3) := by decide +kernel
theorem dX5_mostAlike_64 : decode cX5_mostAlike 64 = .ok (.goto (-48), 3) := by decide +kernel
theorem dX5_mostAlike_67 : decode cX5_mostAlike 67 = .ok (.iload_n 2, 1) := by decide +kernel
theorem dX5_mostAlike_68 : decode cX5_mostAlike 68 = .ok (.iload 4, 2) := by decide +kernel
theorem dX5_mostAlike_70 : decode cX5_mostAlike 70 = .ok (.invokestatic 246, 3) := by decide +kernel
theorem dX5_mostAlike_73 : decode cX5_mostAlike 73 = .ok (.istore_n 2, 1) := by decide +kernel
theorem dX5_mostAlike_74 : decode cX5_mostAlike 74 = .ok (.iinc 3 1, 3) := by decide +kernel
theorem dX5_mostAlike_77 : decode cX5_mostAlike 77 = .ok (.goto (-73), 3) := by decide +kernel
theorem dX5_mostAlike_80 : decode cX5_mostAlike 80 = .ok (.iload_n 2, 1) := by decide +kernel
theorem dX5_mostAlike_81 : decode cX5_mostAlike 81 = .ok (.ireturn, 1) := by decide +kernel
theorem dX5_isContent_0 : decode cX5_isContent 0 = .ok (.iload_n 2, 1) := by decide +kernel
theorem dX5_isContent_1 : decode cX5_isContent 1 = .ok (.iload_n 3, 1) := by decide +kernel
theorem dX5_isContent_2 : decode cX5_isContent 2 = .ok (.if_icmp .ne 7, 3) := by decide +kernel
theorem dX5_isContent_5 : decode cX5_isContent 5 = .ok (.iconst 0, 1) := by decide +kernel
theorem dX5_isContent_6 : decode cX5_isContent 6 = .ok (.goto 6, 3) := by decide +kernel
theorem dX5_isContent_9 : decode cX5_isContent 9 = .ok (.aload_n 1, 1) := by decide +kernel
theorem dX5_isContent_10 : decode cX5_isContent 10 = .ok (.iload_n 2, 1) := by decide +kernel
theorem dX5_isContent_11 : decode cX5_isContent 11 = .ok (.iaload, 1) := by decide +kernel
theorem dX5_isContent_12 : decode cX5_isContent 12 = .ok (.istore 4, 2) := by decide +kernel
theorem dX5_isContent_14 : decode cX5_isContent 14 = .ok (.iconst 0, 1) := by decide +kernel
theorem dX5_isContent_15 : decode cX5_isContent 15 = .ok (.istore 5, 2) := by decide +kernel
theorem dX5_isContent_17 : decode cX5_isContent 17 = .ok (.iload 5, 2) := by decide +kernel
theorem dX5_isContent_19 : decode cX5_isContent 19 = .ok (.aload_n 0, 1) := by decide +kernel
theorem dX5_isContent_20 : decode cX5_isContent 20 = .ok (.getfield 10, 3) := by decide +kernel
theorem dX5_isContent_23 : decode cX5_isContent 23 = .ok (.getfield 93, 3) := by decide +kernel
theorem dX5_isContent_26 : decode cX5_isContent 26 = .ok (.if_icmp .ge 26, 3) := by decide +kernel
theorem dX5_isContent_29 : decode cX5_isContent 29 = .ok (.iload 5, 2) := by decide +kernel
theorem dX5_isContent_31 : decode cX5_isContent 31 = .ok (.iload_n 3, 1) := by decide +kernel
theorem dX5_isContent_32 : decode cX5_isContent 32 = .ok (.if_icmp .eq 14, 3) := by decide +kernel
theorem dX5_isContent_35 : decode cX5_isContent 35 = .ok (.aload_n 1, 1) := by decide +kernel
theorem dX5_isContent_36 : decode cX5_isContent 36 = .ok (.iload 5, 2) := by decide +kernel
theorem dX5_isContent_38 : decode cX5_isContent 38 = .ok (.iaload, 1) := by decide +kernel
theorem dX5_isContent_39 : decode cX5_isContent 39 = .ok (.iload 4, 2) := by decide +kernel
theorem dX5_isContent_41 : decode cX5_isContent 41 = .ok (.if_icmp .le 5, 3) := by decide +kernel
theorem dX5_isContent_44 : decode cX5_isContent 44 = .ok (.iconst 0, 1) := by decide +kernel
theorem dX5_isContent_45 : decode cX5_isContent 45 = .ok (.ireturn, 1) := by decide +kernel
theorem dX5_isContent_46 : decode cX5_isContent 46 = .ok (.iinc 5 1, 3) := by decide +kernel
theorem dX5_isContent_49 : decode cX5_isContent 49 = .ok (.goto (-32), 3) := by decide +kernel
theorem dX5_isContent_52 : decode cX5_isContent 52 = .ok (.iconst 1, 1) := by decide +kernel
theorem dX5_isContent_53 : decode cX5_isContent 53 = .ok (.ireturn, 1) := by decide +kernel
theorem dX5_setFraction_0 : decode cX5_setFraction 0 = .ok (.lload_n 1, 1) := by decide +kernel
theorem dX5_setFraction_1 : decode cX5_setFraction 1 = .ok (.lstore 5, 2) := by decide +kernel
theorem dX5_setFraction_3 : decode cX5_setFraction 3 = .ok (.lload_n 3, 1) := by decide +kernel
theorem dX5_setFraction_4 : decode cX5_setFraction 4 = .ok (.lstore 7, 2) := by decide +kernel
theorem dX5_setFraction_6 : decode cX5_setFraction 6 = .ok (.iconst 0, 1) := by decide +kernel
theorem dX5_setFraction_7 : decode cX5_setFraction 7 = .ok (.istore 9, 2) := by decide +kernel
theorem dX5_setFraction_9 : decode cX5_setFraction 9 = .ok (.iload 9, 2) := by decide +kernel
theorem dX5_setFraction_11 : decode cX5_setFraction 11 = .ok (.sipush 1000, 3) := by decide +kernel
theorem dX5_setFraction_14 : decode cX5_setFraction 14 = .ok (.if_icmp .ge 31, 3) := by decide +kernel
theorem dX5_setFraction_17 : decode cX5_setFraction 17 = .ok (.lload 7, 2) := by decide +kernel
theorem dX5_setFraction_19 : decode cX5_setFraction 19 = .ok (.lconst 0, 1) := by decide +kernel
theorem dX5_setFraction_20 : decode cX5_setFraction 20 = .ok (.lcmp, 1) := by decide +kernel
theorem dX5_setFraction_21 : decode cX5_setFraction 21 = .ok (.ifCond .eq 24, 3) := by decide +kernel
theorem dX5_setFraction_24 : decode cX5_setFraction 24 = .ok (.lload 5, 2) := by decide +kernel
theorem dX5_setFraction_26 : decode cX5_setFraction 26 = .ok (.lload 7, 2) := by decide +kernel
theorem dX5_setFraction_28 : decode cX5_setFraction 28 = .ok (.lrem, 1) := by decide +kernel
theorem dX5_setFraction_29 : decode cX5_setFraction 29 = .ok (.lstore 10, 2) := by decide +kernel
theorem dX5_setFraction_31 : decode cX5_setFraction 31 = .ok (.lload 7, 2) := by decide +kernel
theorem dX5_setFraction_33 : decode cX5_setFraction 33 = .ok (.lstore 5, 2) := by decide +kernel
theorem dX5_setFraction_35 : decode cX5_setFraction 35 = .ok (.lload 10, 2) := by decide +kernel
theorem dX5_setFraction_37 : decode cX5_setFraction 37 = .ok (.lstore 7, 2) := by decide +kernel
theorem dX5_setFraction_39 : decode cX5_setFraction 39 = .ok (.iinc 9 1, 3) := by decide +kernel
theorem dX5_setFraction_42 : decode cX5_setFraction 42 = .ok (.goto (-33), 3) := by decide +kernel
theorem dX5_setFraction_45 : decode cX5_setFraction 45 = .ok (.lload 5, 2) := by decide +kernel
theorem dX5_setFraction_47 : decode cX5_setFraction 47 = .ok (.lconst 0, 1) := by decide +kernel
theorem dX5_setFraction_48 : decode cX5_setFraction 48 = .ok (.lcmp, 1) := by decide +kernel
theorem dX5_setFraction_49 : decode cX5_setFraction 49 = .ok (.ifCond .le 19, 3) := by decide +kernel
theorem dX5_setFraction_52 : decode cX5_setFraction 52 = .ok (.aload_n 0, 1) := by decide +kernel
theorem dX5_setFraction_53 : decode cX5_setFraction 53 = .ok (.lload_n 1, 1) := by decide +kernel
theorem dX5_setFraction_54 : decode cX5_setFraction 54 = .ok (.lload 5, 2) := by decide +kernel
theorem dX5_setFraction_56 : decode cX5_setFraction 56 = .ok (.ldiv, 1) := by decide +kernel
theorem dX5_setFraction_57 : decode cX5_setFraction 57 = .ok (.putfield 64, 3) := by decide +kernel
theorem dX5_setFraction_60 : decode cX5_setFraction 60 = .ok (.aload_n 0, 1) := by decide +kernel
theorem dX5_setFraction_61 : decode cX5_setFraction 61 = .ok (.lload_n 3, 1) := by decide +kernel
theorem dX5_setFraction_62 : decode cX5_setFraction 62 = .ok (.lload 5, 2) := by decide +kernel
theorem dX5_setFraction_64 : decode cX5_setFraction 64 = .ok (.ldiv, 1) := by decide +kernel
theorem dX5_setFraction_65 : decode cX5_setFraction 65 = .ok (.putfield 68, 3) := by decide +kernel
theorem dX5_setFraction_68 : decode cX5_setFraction 68 = .ok (.return_, 1) := by decide +kernel
theorem dX5_power_0 : decode cX5_power 0 = .ok (.lconst 1, 1) := by decide +kernel
theorem dX5_power_1 : decode cX5_power 1 = .ok (.lstore_n 3, 1) := by decide +kernel
theorem dX5_power_2 : decode cX5_power 2 = .ok (.iconst 0, 1) := by decide +kernel
theorem dX5_power_3 : decode cX5_power 3 = .ok (.istore 5, 2) := by decide +kernel
theorem dX5_power_5 : decode cX5_power 5 = .ok (.iload 5, 2) := by decide +kernel
theorem dX5_power_7 : decode cX5_power 7 = .ok (.iload_n 2, 1) := by decide +kernel
theorem dX5_power_8 : decode cX5_power 8 = .ok (.if_icmp .ge 13, 3) := by decide +kernel
theorem dX5_power_11 : decode cX5_power 11 = .ok (.lload_n 3, 1) := by decide +kernel
theorem dX5_power_12 : decode cX5_power 12 = .ok (.lload_n 0, 1) := by decide +kernel
theorem dX5_power_13 : decode cX5_power 13 = .ok (.lmul, 1) := by decide +kernel
theorem dX5_power_14 : decode cX5_power 14 = .ok (.lstore_n 3, 1) := by decide +kernel
theorem dX5_power_15 : decode cX5_power 15 = .ok (.iinc 5 1, 3) := by decide +kernel
theorem dX5_power_18 : decode cX5_power 18 = .ok (.goto (-13), 3) := by decide +kernel
theorem dX5_power_21 : decode cX5_power 21 = .ok (.lload_n 3, 1) := by decide +kernel
theorem dX5_power_22 : decode cX5_power 22 = .ok (.lreturn, 1) := by decide +kernel
theorem dX5_choices_0 : decode cX5_choices 0 = .ok (.lconst 1, 1) := by decide +kernel
theorem dX5_choices_1 : decode cX5_choices 1 = .ok (.lstore_n 2, 1) := by decide +kernel
theorem dX5_choices_2 : decode cX5_choices 2 = .ok (.iconst 0, 1) := by decide +kernel
theorem dX5_choices_3 : decode cX5_choices 3 = .ok (.istore 4, 2) := by decide +kernel
theorem dX5_choices_5 : decode cX5_choices 5 = .ok (.iload 4, 2) := by decide +kernel
theorem dX5_choices_7 : decode cX5_choices 7 = .ok (.iload_n 1, 1) := by decide +kernel
theorem dX5_choices_8 : decode cX5_choices 8 = .ok (.if_icmp .ge 23, 3) := by decide +kernel
theorem dX5_choices_11 : decode cX5_choices 11 = .ok (.lload_n 2, 1) := by decide +kernel
theorem dX5_choices_12 : decode cX5_choices 12 = .ok (.iload_n 0, 1) := by decide +kernel
theorem dX5_choices_13 : decode cX5_choices 13 = .ok (.iload 4, 2) := by decide +kernel
theorem dX5_choices_15 : decode cX5_choices 15 = .ok (.isub, 1) := by decide +kernel
theorem dX5_choices_16 : decode cX5_choices 16 = .ok (.i2l, 1) := by decide +kernel
theorem dX5_choices_17 : decode cX5_choices 17 = .ok (.lmul, 1) := by decide +kernel
theorem dX5_choices_18 : decode cX5_choices 18 = .ok (.iload 4, 2) := by decide +kernel
theorem dX5_choices_20 : decode cX5_choices 20 = .ok (.iconst 1, 1) := by decide +kernel
theorem dX5_choices_21 : decode cX5_choices 21 = .ok (.iadd, 1) := by decide +kernel
theorem dX5_choices_22 : decode cX5_choices 22 = .ok (.i2l, 1) := by decide +kernel
theorem dX5_choices_23 : decode cX5_choices 23 = .ok (.ldiv, 1) := by decide +kernel
theorem dX5_choices_24 : decode cX5_choices 24 = .ok (.lstore_n 2, 1) := by decide +kernel
theorem dX5_choices_25 : decode cX5_choices 25 = .ok (.iinc 4 1, 3) := by decide +kernel
theorem dX5_choices_28 : decode cX5_choices 28 = .ok (.goto (-23), 3) := by decide +kernel
theorem dX5_choices_31 : decode cX5_choices 31 = .ok (.lload_n 2, 1) := by decide +kernel
theorem dX5_choices_32 : decode cX5_choices 32 = .ok (.lreturn, 1) := by decide +kernel
theorem dX5_howMany_0 : decode cX5_howMany 0 = .ok (.iload_n 1, 1) := by decide +kernel
theorem dX5_howMany_1 : decode cX5_howMany 1 = .ok (.tableswitch 162 0 9 #[55, 63, 71, 82, 93, 107, 121, 132, 143, 154], 55) := by decide +kernel
theorem dX5_howMany_56 : decode cX5_howMany 56 = .ok (.aload_n 0, 1) := by decide +kernel
theorem dX5_howMany_57 : decode cX5_howMany 57 = .ok (.getfield 10, 3) := by decide +kernel
theorem dX5_howMany_60 : decode cX5_howMany 60 = .ok (.getfield 93, 3) := by decide +kernel
theorem dX5_howMany_63 : decode cX5_howMany 63 = .ok (.ireturn, 1) := by decide +kernel
theorem dX5_howMany_64 : decode cX5_howMany 64 = .ok (.aload_n 0, 1) := by decide +kernel
theorem dX5_howMany_65 : decode cX5_howMany 65 = .ok (.getfield 10, 3) := by decide +kernel
theorem dX5_howMany_68 : decode cX5_howMany 68 = .ok (.getfield 71, 3) := by decide +kernel
theorem dX5_howMany_71 : decode cX5_howMany 71 = .ok (.ireturn, 1) := by decide +kernel
theorem dX5_howMany_72 : decode cX5_howMany 72 = .ok (.aload_n 0, 1) := by decide +kernel
theorem dX5_howMany_73 : decode cX5_howMany 73 = .ok (.getfield 10, 3) := by decide +kernel
theorem dX5_howMany_76 : decode cX5_howMany 76 = .ok (.getfield 131, 3) := by decide +kernel
theorem dX5_howMany_79 : decode cX5_howMany 79 = .ok (.getfield 162, 3) := by decide +kernel
theorem dX5_howMany_82 : decode cX5_howMany 82 = .ok (.ireturn, 1) := by decide +kernel
theorem dX5_howMany_83 : decode cX5_howMany 83 = .ok (.aload_n 0, 1) := by decide +kernel
theorem dX5_howMany_84 : decode cX5_howMany 84 = .ok (.getfield 10, 3) := by decide +kernel
theorem dX5_howMany_87 : decode cX5_howMany 87 = .ok (.getfield 131, 3) := by decide +kernel
theorem dX5_howMany_90 : decode cX5_howMany 90 = .ok (.invokevirtual 327, 3) := by decide +kernel
theorem dX5_howMany_93 : decode cX5_howMany 93 = .ok (.ireturn, 1) := by decide +kernel
theorem dX5_howMany_94 : decode cX5_howMany 94 = .ok (.aload_n 0, 1) := by decide +kernel
theorem dX5_howMany_95 : decode cX5_howMany 95 = .ok (.getfield 10, 3) := by decide +kernel
theorem dX5_howMany_98 : decode cX5_howMany 98 = .ok (.getfield 131, 3) := by decide +kernel
theorem dX5_howMany_101 : decode cX5_howMany 101 = .ok (.getfield 174, 3) := by decide +kernel
theorem dX5_howMany_104 : decode cX5_howMany 104 = .ok (.invokestatic 330, 3) := by decide +kernel
theorem dX5_howMany_107 : decode cX5_howMany 107 = .ok (.ireturn, 1) := by decide +kernel
theorem dX5_howMany_108 : decode cX5_howMany 108 = .ok (.aload_n 0, 1) := by decide +kernel
theorem dX5_howMany_109 : decode cX5_howMany 109 = .ok (.getfield 10, 3) := by decide +kernel
theorem dX5_howMany_112 : decode cX5_howMany 112 = .ok (.getfield 131, 3) := by decide +kernel
theorem dX5_howMany_115 : decode cX5_howMany 115 = .ok (.getfield 334, 3) := by decide +kernel
theorem dX5_howMany_118 : decode cX5_howMany 118 = .ok (.invokestatic 330, 3) := by decide +kernel
theorem dX5_howMany_121 : decode cX5_howMany 121 = .ok (.ireturn, 1) := by decide +kernel
theorem dX5_howMany_122 : decode cX5_howMany 122 = .ok (.aload_n 0, 1) := by decide +kernel
theorem dX5_howMany_123 : decode cX5_howMany 123 = .ok (.getfield 10, 3) := by decide +kernel
theorem dX5_howMany_126 : decode cX5_howMany 126 = .ok (.getfield 221, 3) := by decide +kernel
theorem dX5_howMany_129 : decode cX5_howMany 129 = .ok (.getfield 257, 3) := by decide +kernel
theorem dX5_howMany_132 : decode cX5_howMany 132 = .ok (.ireturn, 1) := by decide +kernel
theorem dX5_howMany_133 : decode cX5_howMany 133 = .ok (.aload_n 0, 1) := by decide +kernel
theorem dX5_howMany_134 : decode cX5_howMany 134 = .ok (.getfield 10, 3) := by decide +kernel
theorem dX5_howMany_137 : decode cX5_howMany 137 = .ok (.getfield 251, 3) := by decide +kernel
theorem dX5_howMany_140 : decode cX5_howMany 140 = .ok (.getfield 257, 3) := by decide +kernel
theorem dX5_howMany_143 : decode cX5_howMany 143 = .ok (.ireturn, 1) := by decide +kernel
theorem dX5_howMany_144 : decode cX5_howMany 144 = .ok (.aload_n 0, 1) := by decide +kernel
theorem dX5_howMany_145 : decode cX5_howMany 145 = .ok (.getfield 10, 3) := by decide +kernel
theorem dX5_howMany_148 : decode cX5_howMany 148 = .ok (.getfield 254, 3) := by decide +kernel
theorem dX5_howMany_151 : decode cX5_howMany 151 = .ok (.getfield 257, 3) := by decide +kernel
theorem dX5_howMany_154 : decode cX5_howMany 154 = .ok (.ireturn, 1) := by decide +kernel
theorem dX5_howMany_155 : decode cX5_howMany 155 = .ok (.aload_n 0, 1) := by decide +kernel
theorem dX5_howMany_156 : decode cX5_howMany 156 = .ok (.getfield 10, 3) := by decide +kernel
theorem dX5_howMany_159 : decode cX5_howMany 159 = .ok (.getfield 156, 3) := by decide +kernel
theorem dX5_howMany_162 : decode cX5_howMany 162 = .ok (.ireturn, 1) := by decide +kernel
theorem dX5_howMany_163 : decode cX5_howMany 163 = .ok (.aload_n 0, 1) := by decide +kernel
theorem dX5_howMany_164 : decode cX5_howMany 164 = .ok (.getfield 37, 3) := by decide +kernel
theorem dX5_howMany_167 : decode cX5_howMany 167 = .ok (.getfield 104, 3) := by decide +kernel
theorem dX5_howMany_170 : decode cX5_howMany 170 = .ok (.ireturn, 1) := by decide +kernel
theorem dX5_sum_0 : decode cX5_sum 0 = .ok (.iconst 0, 1) := by decide +kernel
theorem dX5_sum_1 : decode cX5_sum 1 = .ok (.istore_n 1, 1) := by decide +kernel
theorem dX5_sum_2 : decode cX5_sum 2 = .ok (.aload_n 0, 1) := by decide +kernel
theorem dX5_sum_3 : decode cX5_sum 3 = .ok (.astore_n 2, 1) := by decide +kernel
theorem dX5_sum_4 : decode cX5_sum 4 = .ok (.aload_n 2, 1) := by decide +kernel
theorem dX5_sum_5 : decode cX5_sum 5 = .ok (.arraylength, 1) := by decide +kernel
theorem dX5_sum_6 : decode cX5_sum 6 = .ok (.istore_n 3, 1) := by decide +kernel
theorem dX5_sum_7 : decode cX5_sum 7 = .ok (.iconst 0, 1) := by decide +kernel
theorem dX5_sum_8 : decode cX5_sum 8 = .ok (.istore 4, 2) := by decide +kernel
theorem dX5_sum_10 : decode cX5_sum 10 = .ok (.iload 4, 2) := by decide +kernel
theorem dX5_sum_12 : decode cX5_sum 12 = .ok (.iload_n 3, 1) := by decide +kernel
theorem dX5_sum_13 : decode cX5_sum 13 = .ok (.if_icmp .ge 20, 3) := by decide +kernel
theorem dX5_sum_16 : decode cX5_sum 16 = .ok (.aload_n 2, 1) := by decide +kernel
theorem dX5_sum_17 : decode cX5_sum 17 = .ok (.iload 4, 2) := by decide +kernel
theorem dX5_sum_19 : decode cX5_sum 19 = .ok (.iaload, 1) := by decide +kernel
theorem dX5_sum_20 : decode cX5_sum 20 = .ok (.istore 5, 2) := by decide +kernel
theorem dX5_sum_22 : decode cX5_sum 22 = .ok (.iload_n 1, 1) := by decide +kernel
theorem dX5_sum_23 : decode cX5_sum 23 = .ok (.iload 5, 2) := by decide +kernel
theorem dX5_sum_25 : decode cX5_sum 25 = .ok (.iadd, 1) := by decide +kernel
theorem dX5_sum_26 : decode cX5_sum 26 = .ok (.istore_n 1, 1) := by decide +kernel
theorem dX5_sum_27 : decode cX5_sum 27 = .ok (.iinc 4 1, 3) := by decide +kernel
theorem dX5_sum_30 : decode cX5_sum 30 = .ok (.goto (-20), 3) := by decide +kernel
theorem dX5_sum_33 : decode cX5_sum 33 = .ok (.iload_n 1, 1) := by decide +kernel
theorem dX5_sum_34 : decode cX5_sum 34 = .ok (.ireturn, 1) := by decide +kernel
theorem dX5_fillOrder_0 : decode cX5_fillOrder 0 = .ok (.iload_n 2, 1) := by decide +kernel
theorem dX5_fillOrder_1 : decode cX5_fillOrder 1 = .ok (.aload_n 0, 1) := by decide +kernel
theorem dX5_fillOrder_2 : decode cX5_fillOrder 2 = .ok (.getfield 93, 3) := by decide +kernel
theorem dX5_fillOrder_5 : decode cX5_fillOrder 5 = .ok (.if_icmp .lt 5, 3) := by decide +kernel
theorem dX5_fillOrder_8 : decode cX5_fillOrder 8 = .ok (.iconst 1, 1) := by decide +kernel
theorem dX5_fillOrder_9 : decode cX5_fillOrder 9 = .ok (.ireturn, 1) := by decide +kernel
theorem dX5_fillOrder_10 : decode cX5_fillOrder 10 = .ok (.iconst 0, 1) := by decide +kernel
theorem dX5_fillOrder_11 : decode cX5_fillOrder 11 = .ok (.istore 4, 2) := by decide +kernel
theorem dX5_fillOrder_13 : decode cX5_fillOrder 13 = .ok (.iload 4, 2) := by decide +kernel
theorem dX5_fillOrder_15 : decode cX5_fillOrder 15 = .ok (.aload_n 0, 1) := by decide +kernel
theorem dX5_fillOrder_16 : decode cX5_fillOrder 16 = .ok (.getfield 93, 3) := by decide +kernel
theorem dX5_fillOrder_19 : decode cX5_fillOrder 19 = .ok (.if_icmp .ge 78, 3) := by decide +kernel
theorem dX5_fillOrder_22 : decode cX5_fillOrder 22 = .ok (.iload_n 2, 1) := by decide +kernel
theorem dX5_fillOrder_23 : decode cX5_fillOrder 23 = .ok (.ifCond .eq 23, 3) := by decide +kernel
theorem dX5_fillOrder_26 : decode cX5_fillOrder 26 = .ok (.aload_n 0, 1) := by decide +kernel
theorem dX5_fillOrder_27 : decode cX5_fillOrder 27 = .ok (.getfield 171, 3) := by decide +kernel
theorem dX5_fillOrder_30 : decode cX5_fillOrder 30 = .ok (.aload_n 1, 1) := by decide +kernel
theorem dX5_fillOrder_31 : decode cX5_fillOrder 31 = .ok (.iload_n 2, 1) := by decide +kernel
theorem dX5_fillOrder_32 : decode cX5_fillOrder 32 = .ok (.iconst 1, 1) := by decide +kernel
theorem dX5_fillOrder_33 : decode cX5_fillOrder 33 = .ok (.isub, 1) := by decide +kernel
theorem dX5_fillOrder_34 : decode cX5_fillOrder 34 = .ok (.iaload, 1) := by decide +kernel
theorem dX5_fillOrder_35 : decode cX5_fillOrder 35 = .ok (.iaload, 1) := by decide +kernel
theorem dX5_fillOrder_36 : decode cX5_fillOrder 36 = .ok (.aload_n 0, 1) := by decide +kernel
theorem dX5_fillOrder_37 : decode cX5_fillOrder 37 = .ok (.getfield 171, 3) := by decide +kernel
theorem dX5_fillOrder_40 : decode cX5_fillOrder 40 = .ok (.iload 4, 2) := by decide +kernel
theorem dX5_fillOrder_42 : decode cX5_fillOrder 42 = .ok (.iaload, 1) := by decide +kernel
theorem dX5_fillOrder_43 : decode cX5_fillOrder 43 = .ok (.if_icmp .eq 7, 3) := by decide +kernel
theorem dX5_fillOrder_46 : decode cX5_fillOrder 46 = .ok (.iconst 1, 1) := by decide +kernel
theorem dX5_fillOrder_47 : decode cX5_fillOrder 47 = .ok (.goto 4, 3) := by decide +kernel
theorem dX5_fillOrder_50 : decode cX5_fillOrder 50 = .ok (.iconst 0, 1) := by decide +kernel
theorem dX5_fillOrder_51 : decode cX5_fillOrder 51 = .ok (.istore 5, 2) := by decide +kernel
theorem dX5_fillOrder_53 : decode cX5_fillOrder 53 = .ok (.iload 5, 2) := by decide +kernel
theorem dX5_fillOrder_55 : decode cX5_fillOrder 55 = .ok (.ifCond .eq 36, 3) := by decide +kernel
theorem dX5_fillOrder_58 : decode cX5_fillOrder 58 = .ok (.iload_n 3, 1) := by decide +kernel
theorem dX5_fillOrder_59 : decode cX5_fillOrder 59 = .ok (.iload 4, 2) := by decide +kernel
theorem dX5_fillOrder_61 : decode cX5_fillOrder 61 = .ok (.ishr, 1) := by decide +kernel
theorem dX5_fillOrder_62 : decode cX5_fillOrder 62 = .ok (.iconst 1, 1) := by decide +kernel
theorem dX5_fillOrder_63 : decode cX5_fillOrder 63 = .ok (.iand, 1) := by decide +kernel
theorem dX5_fillOrder_64 : decode cX5_fillOrder 64 = .ok (.ifCond .ne 27, 3) := by decide +kernel
theorem dX5_fillOrder_67 : decode cX5_fillOrder 67 = .ok (.aload_n 1, 1) := by decide +kernel
theorem dX5_fillOrder_68 : decode cX5_fillOrder 68 = .ok (.iload_n 2, 1) := by decide +kernel
theorem dX5_fillOrder_69 : decode cX5_fillOrder 69 = .ok (.iload 4, 2) := by decide +kernel
theorem dX5_fillOrder_71 : decode cX5_fillOrder 71 = .ok (.iastore, 1) := by decide +kernel
theorem dX5_fillOrder_72 : decode cX5_fillOrder 72 = .ok (.aload_n 0, 1) := by decide +kernel
theorem dX5_fillOrder_73 : decode cX5_fillOrder 73 = .ok (.aload_n 1, 1) := by decide +kernel
theorem dX5_fillOrder_74 : decode cX5_fillOrder 74 = .ok (.iload_n 2, 1) := by decide +kernel
theorem dX5_fillOrder_75 : decode cX5_fillOrder 75 = .ok (.iconst 1, 1) := by decide +kernel
theorem dX5_fillOrder_76 : decode cX5_fillOrder 76 = .ok (.iadd, 1) := by decide +kernel
theorem dX5_fillOrder_77 : decode cX5_fillOrder 77 = .ok (.iload_n 3, 1) := by decide +kernel
theorem dX5_fillOrder_78 : decode cX5_fillOrder 78 = .ok (.iconst 1, 1) := by decide +kernel
theorem dX5_fillOrder_79 : decode cX5_fillOrder 79 = .ok (.iload 4, 2) := by decide +kernel
theorem dX5_fillOrder_81 : decode cX5_fillOrder 81 = .ok (.ishl, 1) := by decide +kernel
theorem dX5_fillOrder_82 : decode cX5_fillOrder 82 = .ok (.ior, 1) := by decide +kernel
theorem dX5_fillOrder_83 : decode cX5_fillOrder 83 = .ok (.invokestatic 239, 3) := by decide +kernel
theorem dX5_fillOrder_86 : decode cX5_fillOrder 86 = .ok (.ifCond .eq 5, 3) := by decide +kernel
theorem dX5_fillOrder_89 : decode cX5_fillOrder 89 = .ok (.iconst 1, 1) := by decide +kernel
theorem dX5_fillOrder_90 : decode cX5_fillOrder 90 = .ok (.ireturn, 1) := by decide +kernel
theorem dX5_fillOrder_91 : decode cX5_fillOrder 91 = .ok (.iinc 4 1, 3) := by decide +kernel
theorem dX5_fillOrder_94 : decode cX5_fillOrder 94 = .ok (.goto (-81), 3) := by decide +kernel
theorem dX5_fillOrder_97 : decode cX5_fillOrder 97 = .ok (.iconst 0, 1) := by decide +kernel
theorem dX5_fillOrder_98 : decode cX5_fillOrder 98 = .ok (.ireturn, 1) := by decide +kernel
theorem dX5_given_0 : decode cX5_given 0 = .ok (.iload_n 1, 1) := by decide +kernel
theorem dX5_given_1 : decode cX5_given 1 = .ok (.iconst 4, 1) := by decide +kernel
theorem dX5_given_2 : decode cX5_given 2 = .ok (.idiv, 1) := by decide +kernel
theorem dX5_given_3 : decode cX5_given 3 = .ok (.istore 4, 2) := by decide +kernel
theorem dX5_given_5 : decode cX5_given 5 = .ok (.iconst 2, 1) := by decide +kernel
theorem dX5_given_6 : decode cX5_given 6 = .ok (.iload 4, 2) := by decide +kernel
theorem dX5_given_8 : decode cX5_given 8 = .ok (.imul, 1) := by decide +kernel
theorem dX5_given_9 : decode cX5_given 9 = .ok (.istore 5, 2) := by decide +kernel
theorem dX5_given_11 : decode cX5_given 11 = .ok (.iload_n 0, 1) := by decide +kernel
theorem dX5_given_12 : decode cX5_given 12 = .ok (.tableswitch 67 2 5 #[32, 35, 44, 60], 32) := by decide +kernel
theorem dX5_given_44 : decode cX5_given 44 = .ok (.iload 5, 2) := by decide +kernel
theorem dX5_given_46 : decode cX5_given 46 = .ok (.ireturn, 1) := by decide +kernel
theorem dX5_given_47 : decode cX5_given 47 = .ok (.iload 4, 2) := by decide +kernel
theorem dX5_given_49 : decode cX5_given 49 = .ok (.iconst 2, 1) := by decide +kernel
theorem dX5_given_50 : decode cX5_given 50 = .ok (.isub, 1) := by decide +kernel
theorem dX5_given_51 : decode cX5_given 51 = .ok (.iconst 0, 1) := by decide +kernel
theorem dX5_given_52 : decode cX5_given 52 = .ok (.invokestatic 246, 3) := by decide +kernel
theorem dX5_given_55 : decode cX5_given 55 = .ok (.ireturn, 1) := by decide +kernel
theorem dX5_given_56 : decode cX5_given 56 = .ok (.iload_n 2, 1) := by decide +kernel
theorem dX5_given_57 : decode cX5_given 57 = .ok (.iconst 2, 1) := by decide +kernel
theorem dX5_given_58 : decode cX5_given 58 = .ok (.irem, 1) := by decide +kernel
theorem dX5_given_59 : decode cX5_given 59 = .ok (.ifCond .ne 8, 3) := by decide +kernel
theorem dX5_given_62 : decode cX5_given 62 = .ok (.iload 5, 2) := by decide +kernel
theorem dX5_given_64 : decode cX5_given 64 = .ok (.goto 7, 3) := by decide +kernel
theorem dX5_given_67 : decode cX5_given 67 = .ok (.iload 5, 2) := by decide +kernel
theorem dX5_given_69 : decode cX5_given 69 = .ok (.iconst 2, 1) := by decide +kernel
theorem dX5_given_70 : decode cX5_given 70 = .ok (.idiv, 1) := by decide +kernel
theorem dX5_given_71 : decode cX5_given 71 = .ok (.ireturn, 1) := by decide +kernel
theorem dX5_given_72 : decode cX5_given 72 = .ok (.iload 4, 2) := by decide +kernel
theorem dX5_given_74 : decode cX5_given 74 = .ok (.iload_n 3, 1) := by decide +kernel
theorem dX5_given_75 : decode cX5_given 75 = .ok (.iconst 5, 1) := by decide +kernel
theorem dX5_given_76 : decode cX5_given 76 = .ok (.idiv, 1) := by decide +kernel
theorem dX5_given_77 : decode cX5_given 77 = .ok (.iadd, 1) := by decide +kernel
theorem dX5_given_78 : decode cX5_given 78 = .ok (.ireturn, 1) := by decide +kernel
theorem dX5_given_79 : decode cX5_given 79 = .ok (.iload 4, 2) := by decide +kernel
theorem dX5_given_81 : decode cX5_given 81 = .ok (.ireturn, 1) := by decide +kernel
theorem dX5_worn_0 : decode cX5_worn 0 = .ok (.iload_n 1, 1) := by decide +kernel
theorem dX5_worn_1 : decode cX5_worn 1 = .ok (.iconst 3, 1) := by decide +kernel
theorem dX5_worn_2 : decode cX5_worn 2 = .ok (.idiv, 1) := by decide +kernel
theorem dX5_worn_3 : decode cX5_worn 3 = .ok (.istore_n 2, 1) := by decide +kernel
theorem dX5_worn_4 : decode cX5_worn 4 = .ok (.iload_n 0, 1) := by decide +kernel
theorem dX5_worn_5 : decode cX5_worn 5 = .ok (.tableswitch 45 1 5 #[35, 45, 39, 39, 43], 35) := by decide +kernel
theorem dX5_worn_40 : decode cX5_worn 40 = .ok (.iload_n 2, 1) := by decide +kernel
theorem dX5_worn_41 : decode cX5_worn 41 = .ok (.iconst 2, 1) := by decide +kernel
theorem dX5_worn_42 : decode cX5_worn 42 = .ok (.idiv, 1) := by decide +kernel
theorem dX5_worn_43 : decode cX5_worn 43 = .ok (.ireturn, 1) := by decide +kernel
theorem dX5_worn_44 : decode cX5_worn 44 = .ok (.iload_n 2, 1) := by decide +kernel
theorem dX5_worn_45 : decode cX5_worn 45 = .ok (.iconst 1, 1) := by decide +kernel
theorem dX5_worn_46 : decode cX5_worn 46 = .ok (.iadd, 1) := by decide +kernel
theorem dX5_worn_47 : decode cX5_worn 47 = .ok (.ireturn, 1) := by decide +kernel
theorem dX5_worn_48 : decode cX5_worn 48 = .ok (.iconst 0, 1) := by decide +kernel
theorem dX5_worn_49 : decode cX5_worn 49 = .ok (.ireturn, 1) := by decide +kernel
theorem dX5_worn_50 : decode cX5_worn 50 = .ok (.iload_n 2, 1) := by decide +kernel
theorem dX5_worn_51 : decode cX5_worn 51 = .ok (.ireturn, 1) := by decide +kernel
theorem dX5_accepted_0 : decode cX5_accepted 0 = .ok (.iload_n 1, 1) := by decide +kernel
theorem dX5_accepted_1 : decode cX5_accepted 1 = .ok (.iconst 2, 1) := by decide +kernel
theorem dX5_accepted_2 : decode cX5_accepted 2 = .ok (.idiv, 1) := by decide +kernel
theorem dX5_accepted_3 : decode cX5_accepted 3 = .ok (.istore_n 3, 1) := by decide +kernel
theorem dX5_accepted_4 : decode cX5_accepted 4 = .ok (.iload_n 1, 1) := by decide +kernel
theorem dX5_accepted_5 : decode cX5_accepted 5 = .ok (.iconst 1, 1) := by decide +kernel
theorem dX5_accepted_6 : decode cX5_accepted 6 = .ok (.if_icmp .lt 9, 3) := by decide +kernel
theorem dX5_accepted_9 : decode cX5_accepted 9 = .ok (.iload_n 1, 1) := by decide +kernel
theorem dX5_accepted_10 : decode cX5_accepted 10 = .ok (.iconst 1, 1) := by decide +kernel
theorem dX5_accepted_11 : decode cX5_accepted 11 = .ok (.iadd, 1) := by decide +kernel
theorem dX5_accepted_12 : decode cX5_accepted 12 = .ok (.goto 4, 3) := by decide +kernel
theorem dX5_accepted_15 : decode cX5_accepted 15 = .ok (.iload_n 1, 1) := by decide +kernel
theorem dX5_accepted_16 : decode cX5_accepted 16 = .ok (.istore 4, 2) := by decide +kernel
theorem dX5_accepted_18 : decode cX5_accepted 18 = .ok (.iload_n 0, 1) := by decide +kernel
theorem dX5_accepted_19 : decode cX5_accepted 19 = .ok (.tableswitch 63 1 5 #[33, 35, 38, 40, 53], 33) := by decide +kernel
theorem dX5_accepted_52 : decode cX5_accepted 52 = .ok (.iload_n 3, 1) := by decide +kernel
theorem dX5_accepted_53 : decode cX5_accepted 53 = .ok (.ireturn, 1) := by decide +kernel
theorem dX5_accepted_54 : decode cX5_accepted 54 = .ok (.iload 4, 2) := by decide +kernel
theorem dX5_accepted_56 : decode cX5_accepted 56 = .ok (.ireturn, 1) := by decide +kernel
theorem dX5_accepted_57 : decode cX5_accepted 57 = .ok (.iconst 0, 1) := by decide +kernel
theorem dX5_accepted_58 : decode cX5_accepted 58 = .ok (.ireturn, 1) := by decide +kernel
theorem dX5_accepted_59 : decode cX5_accepted 59 = .ok (.iload_n 2, 1) := by decide +kernel
theorem dX5_accepted_60 : decode cX5_accepted 60 = .ok (.bipush 20, 2) := by decide +kernel
theorem dX5_accepted_62 : decode cX5_accepted 62 = .ok (.if_icmp .lt 7, 3) := by decide +kernel
theorem dX5_accepted_65 : decode cX5_accepted 65 = .ok (.iconst 0, 1) := by decide +kernel
theorem dX5_accepted_66 : decode cX5_accepted 66 = .ok (.goto 5, 3) := by decide +kernel
theorem dX5_accepted_69 : decode cX5_accepted 69 = .ok (.iload 4, 2) := by decide +kernel
theorem dX5_accepted_71 : decode cX5_accepted 71 = .ok (.ireturn, 1) := by decide +kernel
theorem dX5_accepted_72 : decode cX5_accepted 72 = .ok (.iload_n 2, 1) := by decide +kernel
theorem dX5_accepted_73 : decode cX5_accepted 73 = .ok (.ifCond .ne 7, 3) := by decide +kernel
theorem dX5_accepted_76 : decode cX5_accepted 76 = .ok (.iload_n 1, 1) := by decide +kernel
theorem dX5_accepted_77 : decode cX5_accepted 77 = .ok (.goto 4, 3) := by decide +kernel
theorem dX5_accepted_80 : decode cX5_accepted 80 = .ok (.iload_n 3, 1) := by decide +kernel
theorem dX5_accepted_81 : decode cX5_accepted 81 = .ok (.ireturn, 1) := by decide +kernel
theorem dX5_accepted_82 : decode cX5_accepted 82 = .ok (.iload_n 1, 1) := by decide +kernel
theorem dX5_accepted_83 : decode cX5_accepted 83 = .ok (.ireturn, 1) := by decide +kernel
theorem dX5_heavy_0 : decode cX5_heavy 0 = .ok (.iload_n 0, 1) := by decide +kernel
theorem dX5_heavy_1 : decode cX5_heavy 1 = .ok (.tableswitch 45 2 5 #[31, 37, 31, 41], 31) := by decide +kernel
theorem dX5_heavy_32 : decode cX5_heavy 32 = .ok (.iload_n 1, 1) := by decide +kernel
theorem dX5_heavy_33 : decode cX5_heavy 33 = .ok (.iconst 1, 1) := by decide +kernel
theorem dX5_heavy_34 : decode cX5_heavy 34 = .ok (.iadd, 1) := by decide +kernel
theorem dX5_heavy_35 : decode cX5_heavy 35 = .ok (.iconst 2, 1) := by decide +kernel
theorem dX5_heavy_36 : decode cX5_heavy 36 = .ok (.idiv, 1) := by decide +kernel
theorem dX5_heavy_37 : decode cX5_heavy 37 = .ok (.ireturn, 1) := by decide +kernel
theorem dX5_heavy_38 : decode cX5_heavy 38 = .ok (.iconst 2, 1) := by decide +kernel
theorem dX5_heavy_39 : decode cX5_heavy 39 = .ok (.iload_n 1, 1) := by decide +kernel
theorem dX5_heavy_40 : decode cX5_heavy 40 = .ok (.imul, 1) := by decide +kernel
theorem dX5_heavy_41 : decode cX5_heavy 41 = .ok (.ireturn, 1) := by decide +kernel
theorem dX5_heavy_42 : decode cX5_heavy 42 = .ok (.iload_n 1, 1) := by decide +kernel
theorem dX5_heavy_43 : decode cX5_heavy 43 = .ok (.iconst 1, 1) := by decide +kernel
theorem dX5_heavy_44 : decode cX5_heavy 44 = .ok (.iadd, 1) := by decide +kernel
theorem dX5_heavy_45 : decode cX5_heavy 45 = .ok (.ireturn, 1) := by decide +kernel
theorem dX5_heavy_46 : decode cX5_heavy 46 = .ok (.iload_n 1, 1) := by decide +kernel
theorem dX5_heavy_47 : decode cX5_heavy 47 = .ok (.ireturn, 1) := by decide +kernel
theorem dX6_init_0 : decode cX6_init 0 = .ok (.aload_n 0, 1) := by decide +kernel
theorem dX6_init_1 : decode cX6_init 1 = .ok (.invokespecial 1, 3) := by decide +kernel
theorem dX6_init_4 : decode cX6_init 4 = .ok (.aload_n 0, 1) := by decide +kernel
theorem dX6_init_5 : decode cX6_init 5 = .ok (.sipush 399, 3) := by decide +kernel
theorem dX6_init_8 : decode cX6_init 8 = .ok (.newarray .int, 2) := by decide +kernel
theorem dX6_init_10 : decode cX6_init 10 = .ok (.putfield 7, 3) := by decide +kernel
theorem dX6_init_13 : decode cX6_init 13 = .ok (.aload_n 0, 1) := by decide +kernel
theorem dX6_init_14 : decode cX6_init 14 = .ok (.sipush 399, 3) := by decide +kernel
theorem dX6_init_17 : decode cX6_init 17 = .ok (.newarray .int, 2) := by decide +kernel
theorem dX6_init_19 : decode cX6_init 19 = .ok (.putfield 13, 3) := by decide +kernel
theorem dX6_init_22 : decode cX6_init 22 = .ok (.aload_n 0, 1) := by decide +kernel
theorem dX6_init_23 : decode cX6_init 23 = .ok (.bipush 33, 2) := by decide +kernel
theorem dX6_init_25 : decode cX6_init 25 = .ok (.newarray .int, 2) := by decide +kernel
theorem dX6_init_27 : decode cX6_init 27 = .ok (.putfield 16, 3) := by decide +kernel
theorem dX6_init_30 : decode cX6_init 30 = .ok (.aload_n 0, 1) := by decide +kernel
theorem dX6_init_31 : decode cX6_init 31 = .ok (.sipush 798, 3) := by decide +kernel
theorem dX6_init_34 : decode cX6_init 34 = .ok (.newarray .int, 2) := by decide +kernel
theorem dX6_init_36 : decode cX6_init 36 = .ok (.putfield 19, 3) := by decide +kernel
theorem dX6_init_39 : decode cX6_init 39 = .ok (.aload_n 0, 1) := by decide +kernel
theorem dX6_init_40 : decode cX6_init 40 = .ok (.iconst 2, 1) := by decide +kernel
theorem dX6_init_41 : decode cX6_init 41 = .ok (.newarray .boolean, 2) := by decide +kernel
theorem dX6_init_43 : decode cX6_init 43 = .ok (.putfield 22, 3) := by decide +kernel
theorem dX6_init_46 : decode cX6_init 46 = .ok (.aload_n 0, 1) := by decide +kernel
theorem dX6_init_47 : decode cX6_init 47 = .ok (.sipush 150, 3) := by decide +kernel
theorem dX6_init_50 : decode cX6_init 50 = .ok (.newarray .int, 2) := by decide +kernel
theorem dX6_init_52 : decode cX6_init 52 = .ok (.putfield 26, 3) := by decide +kernel
theorem dX6_init_55 : decode cX6_init 55 = .ok (.aload_n 0, 1) := by decide +kernel
theorem dX6_init_56 : decode cX6_init 56 = .ok (.lconst 1, 1) := by decide +kernel
theorem dX6_init_57 : decode cX6_init 57 = .ok (.putfield 29, 3) := by decide +kernel
theorem dX6_init_60 : decode cX6_init 60 = .ok (.aload_n 0, 1) := by decide +kernel
theorem dX6_init_61 : decode cX6_init 61 = .ok (.iconst 3, 1) := by decide +kernel
theorem dX6_init_62 : decode cX6_init 62 = .ok (.newarray .int, 2) := by decide +kernel
theorem dX6_init_64 : decode cX6_init 64 = .ok (.putfield 33, 3) := by decide +kernel
theorem dX6_init_67 : decode cX6_init 67 = .ok (.aload_n 0, 1) := by decide +kernel
theorem dX6_init_68 : decode cX6_init 68 = .ok (.bipush 40, 2) := by decide +kernel
theorem dX6_init_70 : decode cX6_init 70 = .ok (.newarray .int, 2) := by decide +kernel
theorem dX6_init_72 : decode cX6_init 72 = .ok (.putfield 36, 3) := by decide +kernel
theorem dX6_init_75 : decode cX6_init 75 = .ok (.aload_n 0, 1) := by decide +kernel
theorem dX6_init_76 : decode cX6_init 76 = .ok (.bipush 7, 2) := by decide +kernel
theorem dX6_init_78 : decode cX6_init 78 = .ok (.newarray .int, 2) := by decide +kernel
theorem dX6_init_80 : decode cX6_init 80 = .ok (.putfield 39, 3) := by decide +kernel
theorem dX6_init_83 : decode cX6_init 83 = .ok (.aload_n 0, 1) := by decide +kernel
theorem dX6_init_84 : decode cX6_init 84 = .ok (.bipush 7, 2) := by decide +kernel
theorem dX6_init_86 : decode cX6_init 86 = .ok (.newarray .int, 2) := by decide +kernel
theorem dX6_init_88 : decode cX6_init 88 = .ok (.putfield 42, 3) := by decide +kernel
theorem dX6_init_91 : decode cX6_init 91 = .ok (.aload_n 0, 1) := by decide +kernel
theorem dX6_init_92 : decode cX6_init 92 = .ok (.bipush 120, 2) := by decide +kernel
theorem dX6_init_94 : decode cX6_init 94 = .ok (.newarray .int, 2) := by decide +kernel
theorem dX6_init_96 : decode cX6_init 96 = .ok (.putfield 45, 3) := by decide +kernel
theorem dX6_init_99 : decode cX6_init 99 = .ok (.aload_n 0, 1) := by decide +kernel
theorem dX6_init_100 : decode cX6_init 100 = .ok (.getfield 7, 3) := by decide +kernel
theorem dX6_init_103 : decode cX6_init 103 = .ok (.invokestatic 48, 3) := by decide +kernel
theorem dX6_init_106 : decode cX6_init 106 = .ok (.return_, 1) := by decide +kernel
theorem dX6_in_0 : decode cX6_in 0 = .ok (.lload_n 0, 1) := by decide +kernel
theorem dX6_in_1 : decode cX6_in 1 = .ok (.lload_n 2, 1) := by decide +kernel
theorem dX6_in_2 : decode cX6_in 2 = .ok (.lcmp, 1) := by decide +kernel
theorem dX6_in_3 : decode cX6_in 3 = .ok (.ifCond .lt 14, 3) := by decide +kernel
theorem dX6_in_6 : decode cX6_in 6 = .ok (.lload_n 0, 1) := by decide +kernel
theorem dX6_in_7 : decode cX6_in 7 = .ok (.lload 4, 2) := by decide +kernel
theorem dX6_in_9 : decode cX6_in 9 = .ok (.lcmp, 1) := by decide +kernel
theorem dX6_in_10 : decode cX6_in 10 = .ok (.ifCond .gt 7, 3) := by decide +kernel
theorem dX6_in_13 : decode cX6_in 13 = .ok (.iconst 1, 1) := by decide +kernel
theorem dX6_in_14 : decode cX6_in 14 = .ok (.goto 4, 3) := by decide +kernel
theorem dX6_in_17 : decode cX6_in 17 = .ok (.iconst 0, 1) := by decide +kernel
theorem dX6_in_18 : decode cX6_in 18 = .ok (.ireturn, 1) := by decide +kernel
theorem dX6_has_0 : decode cX6_has 0 = .ok (.iload_n 0, 1) := by decide +kernel
theorem dX6_has_1 : decode cX6_has 1 = .ok (.iload_n 1, 1) := by decide +kernel
theorem dX6_has_2 : decode cX6_has 2 = .ok (.ishr, 1) := by decide +kernel
theorem dX6_has_3 : decode cX6_has 3 = .ok (.iconst 1, 1) := by decide +kernel
theorem dX6_has_4 : decode cX6_has 4 = .ok (.iand, 1) := by decide +kernel
theorem dX6_has_5 : decode cX6_has 5 = .ok (.iconst 1, 1) := by decide +kernel
theorem dX6_has_6 : decode cX6_has 6 = .ok (.if_icmp .ne 7, 3) := by decide +kernel
theorem dX6_has_9 : decode cX6_has 9 = .ok (.iconst 1, 1) := by decide +kernel
theorem dX6_has_10 : decode cX6_has 10 = .ok (.goto 4, 3) := by decide +kernel
theorem dX6_has_13 : decode cX6_has 13 = .ok (.iconst 0, 1) := by decide +kernel
theorem dX6_has_14 : decode cX6_has 14 = .ok (.ireturn, 1) := by decide +kernel
theorem dX6_copies_0 : decode cX6_copies 0 = .ok (.iconst 0, 1) := by decide +kernel
theorem dX6_copies_1 : decode cX6_copies 1 = .ok (.istore 5, 2) := by decide +kernel
theorem dX6_copies_3 : decode cX6_copies 3 = .ok (.iload 5, 2) := by decide +kernel
theorem dX6_copies_5 : decode cX6_copies 5 = .ok (.iload 4, 2) := by decide +kernel
theorem dX6_copies_7 : decode cX6_copies 7 = .ok (.if_icmp .ge 21, 3) := by decide +kernel
theorem dX6_copies_10 : decode cX6_copies 10 = .ok (.aload_n 2, 1) := by decide +kernel
theorem dX6_copies_11 : decode cX6_copies 11 = .ok (.iload_n 3, 1) := by decide +kernel
theorem dX6_copies_12 : decode cX6_copies 12 = .ok (.iload 5, 2) := by decide +kernel
theorem dX6_copies_14 : decode cX6_copies 14 = .ok (.iadd, 1) := by decide +kernel
theorem dX6_copies_15 : decode cX6_copies 15 = .ok (.aload_n 0, 1) := by decide +kernel
theorem dX6_copies_16 : decode cX6_copies 16 = .ok (.iload_n 1, 1) := by decide +kernel
theorem dX6_copies_17 : decode cX6_copies 17 = .ok (.iload 5, 2) := by decide +kernel
theorem dX6_copies_19 : decode cX6_copies 19 = .ok (.iadd, 1) := by decide +kernel
theorem dX6_copies_20 : decode cX6_copies 20 = .ok (.iaload, 1) := by decide +kernel
theorem dX6_copies_21 : decode cX6_copies 21 = .ok (.iastore, 1) := by decide +kernel
theorem dX6_copies_22 : decode cX6_copies 22 = .ok (.iinc 5 1, 3) := by decide +kernel
theorem dX6_copies_25 : decode cX6_copies 25 = .ok (.goto (-22), 3) := by decide +kernel
theorem dX6_copies_28 : decode cX6_copies 28 = .ok (.return_, 1) := by decide +kernel
theorem dX6_refused_0 : decode cX6_refused 0 = .ok (.aload_n 0, 1) := by decide +kernel
theorem dX6_refused_1 : decode cX6_refused 1 = .ok (.getfield 33, 3) := by decide +kernel
theorem dX6_refused_4 : decode cX6_refused 4 = .ok (.iload_n 1, 1) := by decide +kernel
theorem dX6_refused_5 : decode cX6_refused 5 = .ok (.dup2, 1) := by decide +kernel
theorem dX6_refused_6 : decode cX6_refused 6 = .ok (.iaload, 1) := by decide +kernel
theorem dX6_refused_7 : decode cX6_refused 7 = .ok (.iconst 1, 1) := by decide +kernel
theorem dX6_refused_8 : decode cX6_refused 8 = .ok (.iadd, 1) := by decide +kernel
theorem dX6_refused_9 : decode cX6_refused 9 = .ok (.iastore, 1) := by decide +kernel
theorem dX6_refused_10 : decode cX6_refused 10 = .ok (.iload_n 2, 1) := by decide +kernel
theorem dX6_refused_11 : decode cX6_refused 11 = .ok (.ireturn, 1) := by decide +kernel
theorem dX6_bad_0 : decode cX6_bad 0 = .ok (.aload_n 0, 1) := by decide +kernel
theorem dX6_bad_1 : decode cX6_bad 1 = .ok (.iconst 0, 1) := by decide +kernel
theorem dX6_bad_2 : decode cX6_bad 2 = .ok (.bipush (-2), 2) := by decide +kernel
theorem dX6_bad_4 : decode cX6_bad 4 = .ok (.invokevirtual 52, 3) := by decide +kernel
theorem dX6_bad_7 : decode cX6_bad 7 = .ok (.ireturn, 1) := by decide +kernel
theorem dX6_badTen_0 : decode cX6_badTen 0 = .ok (.aload_n 0, 1) := by decide +kernel
theorem dX6_badTen_1 : decode cX6_badTen 1 = .ok (.iconst 0, 1) := by decide +kernel
theorem dX6_badTen_2 : decode cX6_badTen 2 = .ok (.bipush (-10), 2) := by decide +kernel
theorem dX6_badTen_4 : decode cX6_badTen 4 = .ok (.invokevirtual 52, 3) := by decide +kernel
theorem dX6_badTen_7 : decode cX6_badTen 7 = .ok (.ireturn, 1) := by decide +kernel
theorem dX6_empties_0 : decode cX6_empties 0 = .ok (.iconst 0, 1) := by decide +kernel
theorem dX6_empties_1 : decode cX6_empties 1 = .ok (.istore_n 1, 1) := by decide +kernel
theorem dX6_empties_2 : decode cX6_empties 2 = .ok (.iload_n 1, 1) := by decide +kernel
theorem dX6_empties_3 : decode cX6_empties 3 = .ok (.sipush 399, 3) := by decide +kernel
theorem dX6_empties_6 : decode cX6_empties 6 = .ok (.if_icmp .ge 13, 3) := by decide +kernel
theorem dX6_empties_9 : decode cX6_empties 9 = .ok (.aload_n 0, 1) := by decide +kernel
theorem dX6_empties_10 : decode cX6_empties 10 = .ok (.iload_n 1, 1) := by decide +kernel
theorem dX6_empties_11 : decode cX6_empties 11 = .ok (.iconst 0, 1) := by decide +kernel
theorem dX6_empties_12 : decode cX6_empties 12 = .ok (.iastore, 1) := by decide +kernel
theorem dX6_empties_13 : decode cX6_empties 13 = .ok (.iinc 1 1, 3) := by decide +kernel
theorem dX6_empties_16 : decode cX6_empties 16 = .ok (.goto (-14), 3) := by decide +kernel
theorem dX6_empties_19 : decode cX6_empties 19 = .ok (.iconst 0, 1) := by decide +kernel
theorem dX6_empties_20 : decode cX6_empties 20 = .ok (.istore_n 1, 1) := by decide +kernel
theorem dX6_empties_21 : decode cX6_empties 21 = .ok (.iload_n 1, 1) := by decide +kernel
theorem dX6_empties_22 : decode cX6_empties 22 = .ok (.iconst 5, 1) := by decide +kernel
theorem dX6_empties_23 : decode cX6_empties 23 = .ok (.if_icmp .ge 15, 3) := by decide +kernel
theorem dX6_empties_26 : decode cX6_empties 26 = .ok (.aload_n 0, 1) := by decide +kernel
theorem dX6_empties_27 : decode cX6_empties 27 = .ok (.iconst 0, 1) := by decide +kernel
theorem dX6_empties_28 : decode cX6_empties 28 = .ok (.iload_n 1, 1) := by decide +kernel
theorem dX6_empties_29 : decode cX6_empties 29 = .ok (.iadd, 1) := by decide +kernel
theorem dX6_empties_30 : decode cX6_empties 30 = .ok (.iconst (-1), 1) := by decide +kernel
theorem dX6_empties_31 : decode cX6_empties 31 = .ok (.iastore, 1) := by decide +kernel
theorem dX6_empties_32 : decode cX6_empties 32 = .ok (.iinc 1 1, 3) := by decide +kernel
theorem dX6_empties_35 : decode cX6_empties 35 = .ok (.goto (-14), 3) := by decide +kernel
theorem dX6_empties_38 : decode cX6_empties 38 = .ok (.return_, 1) := by decide +kernel
theorem dX6_gives_0 : decode cX6_gives 0 = .ok (.iload_n 1, 1) := by decide +kernel
theorem dX6_gives_1 : decode cX6_gives 1 = .ok (.iconst 4, 1) := by decide +kernel
theorem dX6_gives_2 : decode cX6_gives 2 = .ok (.idiv, 1) := by decide +kernel
theorem dX6_gives_3 : decode cX6_gives 3 = .ok (.istore 4, 2) := by decide +kernel
theorem dX6_gives_5 : decode cX6_gives 5 = .ok (.iload_n 0, 1) := by decide +kernel
theorem dX6_gives_6 : decode cX6_gives 6 = .ok (.tableswitch 73 2 5 #[30, 35, 50, 66], 30) := by decide +kernel
theorem dX6_gives_36 : decode cX6_gives 36 = .ok (.iconst 2, 1) := by decide +kernel
theorem dX6_gives_37 : decode cX6_gives 37 = .ok (.iload 4, 2) := by decide +kernel
theorem dX6_gives_39 : decode cX6_gives 39 = .ok (.imul, 1) := by decide +kernel
theorem dX6_gives_40 : decode cX6_gives 40 = .ok (.ireturn, 1) := by decide +kernel
theorem dX6_gives_41 : decode cX6_gives 41 = .ok (.iload 4, 2) := by decide +kernel
theorem dX6_gives_43 : decode cX6_gives 43 = .ok (.iconst 2, 1) := by decide +kernel
theorem dX6_gives_44 : decode cX6_gives 44 = .ok (.if_icmp .ge 7, 3) := by decide +kernel
theorem dX6_gives_47 : decode cX6_gives 47 = .ok (.iconst 0, 1) := by decide +kernel
theorem dX6_gives_48 : decode cX6_gives 48 = .ok (.goto 7, 3) := by decide +kernel
theorem dX6_gives_51 : decode cX6_gives 51 = .ok (.iload 4, 2) := by decide +kernel
theorem dX6_gives_53 : decode cX6_gives 53 = .ok (.iconst 2, 1) := by decide +kernel
theorem dX6_gives_54 : decode cX6_gives 54 = .ok (.isub, 1) := by decide +kernel
theorem dX6_gives_55 : decode cX6_gives 55 = .ok (.ireturn, 1) := by decide +kernel
theorem dX6_gives_56 : decode cX6_gives 56 = .ok (.iload_n 3, 1) := by decide +kernel
theorem dX6_gives_57 : decode cX6_gives 57 = .ok (.iconst 2, 1) := by decide +kernel
theorem dX6_gives_58 : decode cX6_gives 58 = .ok (.irem, 1) := by decide +kernel
theorem dX6_gives_59 : decode cX6_gives 59 = .ok (.ifCond .ne 10, 3) := by decide +kernel
theorem dX6_gives_62 : decode cX6_gives 62 = .ok (.iconst 2, 1) := by decide +kernel
theorem dX6_gives_63 : decode cX6_gives 63 = .ok (.iload 4, 2) := by decide +kernel
theorem dX6_gives_65 : decode cX6_gives 65 = .ok (.imul, 1) := by decide +kernel
theorem dX6_gives_66 : decode cX6_gives 66 = .ok (.goto 5, 3) := by decide +kernel
theorem dX6_gives_69 : decode cX6_gives 69 = .ok (.iload 4, 2) := by decide +kernel
theorem dX6_gives_71 : decode cX6_gives 71 = .ok (.ireturn, 1) := by decide +kernel
theorem dX6_gives_72 : decode cX6_gives 72 = .ok (.iload 4, 2) := by decide +kernel
theorem dX6_gives_74 : decode cX6_gives 74 = .ok (.iload_n 2, 1) := by decide +kernel
theorem dX6_gives_75 : decode cX6_gives 75 = .ok (.iconst 5, 1) := by decide +kernel
theorem dX6_gives_76 : decode cX6_gives 76 = .ok (.idiv, 1) := by decide +kernel
theorem dX6_gives_77 : decode cX6_gives 77 = .ok (.iadd, 1) := by decide +kernel
theorem dX6_gives_78 : decode cX6_gives 78 = .ok (.ireturn, 1) := by decide +kernel
theorem dX6_gives_79 : decode cX6_gives 79 = .ok (.iload 4, 2) := by decide +kernel
theorem dX6_gives_81 : decode cX6_gives 81 = .ok (.ireturn, 1) := by decide +kernel
theorem dX6_worn_0 : decode cX6_worn 0 = .ok (.iload_n 1, 1) := by decide +kernel
theorem dX6_worn_1 : decode cX6_worn 1 = .ok (.iconst 3, 1) := by decide +kernel
theorem dX6_worn_2 : decode cX6_worn 2 = .ok (.idiv, 1) := by decide +kernel
theorem dX6_worn_3 : decode cX6_worn 3 = .ok (.istore_n 2, 1) := by decide +kernel
theorem dX6_worn_4 : decode cX6_worn 4 = .ok (.iload_n 0, 1) := by decide +kernel
theorem dX6_worn_5 : decode cX6_worn 5 = .ok (.tableswitch 45 1 5 #[35, 45, 39, 39, 43], 35) := by decide +kernel
theorem dX6_worn_40 : decode cX6_worn 40 = .ok (.iload_n 2, 1) := by decide +kernel
theorem dX6_worn_41 : decode cX6_worn 41 = .ok (.iconst 2, 1) := by decide +kernel
theorem dX6_worn_42 : decode cX6_worn 42 = .ok (.idiv, 1) := by decide +kernel
theorem dX6_worn_43 : decode cX6_worn 43 = .ok (.ireturn, 1) := by decide +kernel
theorem dX6_worn_44 : decode cX6_worn 44 = .ok (.iload_n 2, 1) := by decide +kernel
theorem dX6_worn_45 : decode cX6_worn 45 = .ok (.iconst 1, 1) := by decide +kernel
theorem dX6_worn_46 : decode cX6_worn 46 = .ok (.iadd, 1) := by decide +kernel
theorem dX6_worn_47 : decode cX6_worn 47 = .ok (.ireturn, 1) := by decide +kernel
theorem dX6_worn_48 : decode cX6_worn 48 = .ok (.iconst 0, 1) := by decide +kernel
theorem dX6_worn_49 : decode cX6_worn 49 = .ok (.ireturn, 1) := by decide +kernel
theorem dX6_worn_50 : decode cX6_worn 50 = .ok (.iload_n 2, 1) := by decide +kernel
theorem dX6_worn_51 : decode cX6_worn 51 = .ok (.ireturn, 1) := by decide +kernel
theorem dX6_takesOf_0 : decode cX6_takesOf 0 = .ok (.iload_n 1, 1) := by decide +kernel
theorem dX6_takesOf_1 : decode cX6_takesOf 1 = .ok (.ifCond .le 9, 3) := by decide +kernel
theorem dX6_takesOf_4 : decode cX6_takesOf 4 = .ok (.iload_n 1, 1) := by decide +kernel
theorem dX6_takesOf_5 : decode cX6_takesOf 5 = .ok (.iconst 1, 1) := by decide +kernel
theorem dX6_takesOf_6 : decode cX6_takesOf 6 = .ok (.iadd, 1) := by decide +kernel
theorem dX6_takesOf_7 : decode cX6_takesOf 7 = .ok (.goto 4, 3) := by decide +kernel
theorem dX6_takesOf_10 : decode cX6_takesOf 10 = .ok (.iload_n 1, 1) := by decide +kernel
theorem dX6_takesOf_11 : decode cX6_takesOf 11 = .ok (.istore_n 3, 1) := by decide +kernel
theorem dX6_takesOf_12 : decode cX6_takesOf 12 = .ok (.iload_n 0, 1) := by decide +kernel
theorem dX6_takesOf_13 : decode cX6_takesOf 13 = .ok (.tableswitch 67 1 5 #[35, 39, 41, 43, 55], 35) := by decide +kernel
theorem dX6_takesOf_48 : decode cX6_takesOf 48 = .ok (.iload_n 1, 1) := by decide +kernel
theorem dX6_takesOf_49 : decode cX6_takesOf 49 = .ok (.iconst 2, 1) := by decide +kernel
theorem dX6_takesOf_50 : decode cX6_takesOf 50 = .ok (.idiv, 1) := by decide +kernel
theorem dX6_takesOf_51 : decode cX6_takesOf 51 = .ok (.ireturn, 1) := by decide +kernel
theorem dX6_takesOf_52 : decode cX6_takesOf 52 = .ok (.iload_n 3, 1) := by decide +kernel
theorem dX6_takesOf_53 : decode cX6_takesOf 53 = .ok (.ireturn, 1) := by decide +kernel
theorem dX6_takesOf_54 : decode cX6_takesOf 54 = .ok (.iconst 0, 1) := by decide +kernel
theorem dX6_takesOf_55 : decode cX6_takesOf 55 = .ok (.ireturn, 1) := by decide +kernel
theorem dX6_takesOf_56 : decode cX6_takesOf 56 = .ok (.iload_n 2, 1) := by decide +kernel
theorem dX6_takesOf_57 : decode cX6_takesOf 57 = .ok (.bipush 19, 2) := by decide +kernel
theorem dX6_takesOf_59 : decode cX6_takesOf 59 = .ok (.if_icmp .le 7, 3) := by decide +kernel
theorem dX6_takesOf_62 : decode cX6_takesOf 62 = .ok (.iconst 0, 1) := by decide +kernel
theorem dX6_takesOf_63 : decode cX6_takesOf 63 = .ok (.goto 4, 3) := by decide +kernel
theorem dX6_takesOf_66 : decode cX6_takesOf 66 = .ok (.iload_n 3, 1) := by decide +kernel
theorem dX6_takesOf_67 : decode cX6_takesOf 67 = .ok (.ireturn, 1) := by decide +kernel
theorem dX6_takesOf_68 : decode cX6_takesOf 68 = .ok (.iload_n 2, 1) := by decide +kernel
theorem dX6_takesOf_69 : decode cX6_takesOf 69 = .ok (.ifCond .ne 7, 3) := by decide +kernel
theorem dX6_takesOf_72 : decode cX6_takesOf 72 = .ok (.iload_n 1, 1) := by decide +kernel
theorem dX6_takesOf_73 : decode cX6_takesOf 73 = .ok (.goto 6, 3) := by decide +kernel
theorem dX6_takesOf_76 : decode cX6_takesOf 76 = .ok (.iload_n 1, 1) := by decide +kernel
theorem dX6_takesOf_77 : decode cX6_takesOf 77 = .ok (.iconst 2, 1) := by decide +kernel
theorem dX6_takesOf_78 : decode cX6_takesOf 78 = .ok (.idiv, 1) := by decide +kernel
theorem dX6_takesOf_79 : decode cX6_takesOf 79 = .ok (.ireturn, 1) := by decide +kernel
theorem dX6_takesOf_80 : decode cX6_takesOf 80 = .ok (.iload_n 1, 1) := by decide +kernel
theorem dX6_takesOf_81 : decode cX6_takesOf 81 = .ok (.ireturn, 1) := by decide +kernel
theorem dX6_heavy_0 : decode cX6_heavy 0 = .ok (.iload_n 0, 1) := by decide +kernel
theorem dX6_heavy_1 : decode cX6_heavy 1 = .ok (.tableswitch 45 2 5 #[31, 37, 31, 41], 31) := by decide +kernel
theorem dX6_heavy_32 : decode cX6_heavy 32 = .ok (.iload_n 1, 1) := by decide +kernel
theorem dX6_heavy_33 : decode cX6_heavy 33 = .ok (.iconst 1, 1) := by decide +kernel
theorem dX6_heavy_34 : decode cX6_heavy 34 = .ok (.iadd, 1) := by decide +kernel
theorem dX6_heavy_35 : decode cX6_heavy 35 = .ok (.iconst 2, 1) := by decide +kernel
theorem dX6_heavy_36 : decode cX6_heavy 36 = .ok (.idiv, 1) := by decide +kernel
theorem dX6_heavy_37 : decode cX6_heavy 37 = .ok (.ireturn, 1) := by decide +kernel
theorem dX6_heavy_38 : decode cX6_heavy 38 = .ok (.iconst 2, 1) := by decide +kernel
theorem dX6_heavy_39 : decode cX6_heavy 39 = .ok (.iload_n 1, 1) := by decide +kernel
theorem dX6_heavy_40 : decode cX6_heavy 40 = .ok (.imul, 1) := by decide +kernel
theorem dX6_heavy_41 : decode cX6_heavy 41 = .ok (.ireturn, 1) := by decide +kernel
theorem dX6_heavy_42 : decode cX6_heavy 42 = .ok (.iload_n 1, 1) := by decide +kernel
theorem dX6_heavy_43 : decode cX6_heavy 43 = .ok (.iconst 1, 1) := by decide +kernel
theorem dX6_heavy_44 : decode cX6_heavy 44 = .ok (.iadd, 1) := by decide +kernel
theorem dX6_heavy_45 : decode cX6_heavy 45 = .ok (.ireturn, 1) := by decide +kernel
theorem dX6_heavy_46 : decode cX6_heavy 46 = .ok (.iload_n 1, 1) := by decide +kernel
theorem dX6_heavy_47 : decode cX6_heavy 47 = .ok (.ireturn, 1) := by decide +kernel
theorem dX6_takesOn_0 : decode cX6_takesOn 0 = .ok (.aload_n 1, 1) := by decide +kernel
theorem dX6_takesOn_1 : decode cX6_takesOn 1 = .ok (.iconst 5, 1) := by decide +kernel
theorem dX6_takesOn_2 : decode cX6_takesOn 2 = .ok (.iconst 4, 1) := by decide +kernel
theorem dX6_takesOn_3 : decode cX6_takesOn 3 = .ok (.iload_n 2, 1) := by decide +kernel
theorem dX6_takesOn_4 : decode cX6_takesOn 4 = .ok (.imul, 1) := by decide +kernel
theorem dX6_takesOn_5 : decode cX6_takesOn 5 = .ok (.iadd, 1) := by decide +kernel
theorem dX6_takesOn_6 : decode cX6_takesOn 6 = .ok (.aload_n 0, 1) := by decide +kernel
theorem dX6_takesOn_7 : decode cX6_takesOn 7 = .ok (.getfield 7, 3) := by decide +kernel
theorem dX6_takesOn_10 : decode cX6_takesOn 10 = .ok (.bipush 41, 2) := by decide +kernel
theorem dX6_takesOn_12 : decode cX6_takesOn 12 = .ok (.iload_n 3, 1) := by decide +kernel
theorem dX6_takesOn_13 : decode cX6_takesOn 13 = .ok (.iadd, 1) := by decide +kernel
theorem dX6_takesOn_14 : decode cX6_takesOn 14 = .ok (.iaload, 1) := by decide +kernel
theorem dX6_takesOn_15 : decode cX6_takesOn 15 = .ok (.iadd, 1) := by decide +kernel
theorem dX6_takesOn_16 : decode cX6_takesOn 16 = .ok (.iaload, 1) := by decide +kernel
theorem dX6_takesOn_17 : decode cX6_takesOn 17 = .ok (.istore 4, 2) := by decide +kernel
theorem dX6_takesOn_19 : decode cX6_takesOn 19 = .ok (.aload_n 0, 1) := by decide +kernel
theorem dX6_takesOn_20 : decode cX6_takesOn 20 = .ok (.getfield 7, 3) := by decide +kernel
theorem dX6_takesOn_23 : decode cX6_takesOn 23 = .ok (.bipush 49, 2) := by decide +kernel
theorem dX6_takesOn_25 : decode cX6_takesOn 25 = .ok (.iload_n 2, 1) := by decide +kernel
theorem dX6_takesOn_26 : decode cX6_takesOn 26 = .ok (.iadd, 1) := by decide +kernel
theorem dX6_takesOn_27 : decode cX6_takesOn 27 = .ok (.iaload, 1) := by decide +kernel
theorem dX6_takesOn_28 : decode cX6_takesOn 28 = .ok (.aload_n 0, 1) := by decide +kernel
theorem dX6_takesOn_29 : decode cX6_takesOn 29 = .ok (.getfield 7, 3) := by decide +kernel
theorem dX6_takesOn_32 : decode cX6_takesOn 32 = .ok (.bipush 34, 2) := by decide +kernel
theorem dX6_takesOn_34 : decode cX6_takesOn 34 = .ok (.iload_n 3, 1) := by decide +kernel
theorem dX6_takesOn_35 : decode cX6_takesOn 35 = .ok (.iadd, 1) := by decide +kernel
theorem dX6_takesOn_36 : decode cX6_takesOn 36 = .ok (.iaload, 1) := by decide +kernel
theorem dX6_takesOn_37 : decode cX6_takesOn 37 = .ok (.aload_n 1, 1) := by decide +kernel
theorem dX6_takesOn_38 : decode cX6_takesOn 38 = .ok (.bipush 25, 2) := by decide +kernel
theorem dX6_takesOn_40 : decode cX6_takesOn 40 = .ok (.iload_n 3, 1) := by decide +kernel
theorem dX6_takesOn_41 : decode cX6_takesOn 41 = .ok (.iadd, 1) := by decide +kernel
theorem dX6_takesOn_42 : decode cX6_takesOn 42 = .ok (.iaload, 1) := by decide +kernel
theorem dX6_takesOn_43 : decode cX6_takesOn 43 = .ok (.iload 4, 2) := by decide +kernel
theorem dX6_takesOn_45 : decode cX6_takesOn 45 = .ok (.aload_n 1, 1) := by decide +kernel
theorem dX6_takesOn_46 : decode cX6_takesOn 46 = .ok (.bipush 32, 2) := by decide +kernel
theorem dX6_takesOn_48 : decode cX6_takesOn 48 = .ok (.iaload, 1) := by decide +kernel
theorem dX6_takesOn_49 : decode cX6_takesOn 49 = .ok (.invokestatic 56, 3) := by decide +kernel
theorem dX6_takesOn_52 : decode cX6_takesOn 52 = .ok (.iload 4, 2) := by decide +kernel
theorem dX6_takesOn_54 : decode cX6_takesOn 54 = .ok (.invokestatic 60, 3) := by decide +kernel
theorem dX6_takesOn_57 : decode cX6_takesOn 57 = .ok (.ireturn, 1) := by decide +kernel
theorem dX6_oneTakes_0 : decode cX6_oneTakes 0 = .ok (.aload_n 1, 1) := by decide +kernel
theorem dX6_oneTakes_1 : decode cX6_oneTakes 1 = .ok (.iconst 0, 1) := by decide +kernel
theorem dX6_oneTakes_2 : decode cX6_oneTakes 2 = .ok (.iload_n 2, 1) := by decide +kernel
theorem dX6_oneTakes_3 : decode cX6_oneTakes 3 = .ok (.iadd, 1) := by decide +kernel
theorem dX6_oneTakes_4 : decode cX6_oneTakes 4 = .ok (.iaload, 1) := by decide +kernel
theorem dX6_oneTakes_5 : decode cX6_oneTakes 5 = .ok (.istore_n 3, 1) := by decide +kernel
theorem dX6_oneTakes_6 : decode cX6_oneTakes 6 = .ok (.iload_n 3, 1) := by decide +kernel
theorem dX6_oneTakes_7 : decode cX6_oneTakes 7 = .ok (.iconst (-1), 1) := by decide +kernel
theorem dX6_oneTakes_8 : decode cX6_oneTakes 8 = .ok (.if_icmp .eq 52, 3) := by decide +kernel
theorem dX6_oneTakes_11 : decode cX6_oneTakes 11 = .ok (.iconst 5, 1) := by decide +kernel
theorem dX6_oneTakes_12 : decode cX6_oneTakes 12 = .ok (.iconst 4, 1) := by decide +kernel
theorem dX6_oneTakes_13 : decode cX6_oneTakes 13 = .ok (.iload_n 2, 1) := by decide +kernel
theorem dX6_oneTakes_14 : decode cX6_oneTakes 14 = .ok (.imul, 1) := by decide +kernel
theorem dX6_oneTakes_15 : decode cX6_oneTakes 15 = .ok (.iadd, 1) := by decide +kernel
theorem dX6_oneTakes_16 : decode cX6_oneTakes 16 = .ok (.aload_n 0, 1) := by decide +kernel
theorem dX6_oneTakes_17 : decode cX6_oneTakes 17 = .ok (.getfield 7, 3) := by decide +kernel
theorem dX6_oneTakes_20 : decode cX6_oneTakes 20 = .ok (.bipush 41, 2) := by decide +kernel
theorem dX6_oneTakes_22 : decode cX6_oneTakes 22 = .ok (.iload_n 3, 1) := by decide +kernel
theorem dX6_oneTakes_23 : decode cX6_oneTakes 23 = .ok (.iadd, 1) := by decide +kernel
theorem dX6_oneTakes_24 : decode cX6_oneTakes 24 = .ok (.iaload, 1) := by decide +kernel
theorem dX6_oneTakes_25 : decode cX6_oneTakes 25 = .ok (.iadd, 1) := by decide +kernel
theorem dX6_oneTakes_26 : decode cX6_oneTakes 26 = .ok (.istore 4, 2) := by decide +kernel
theorem dX6_oneTakes_28 : decode cX6_oneTakes 28 = .ok (.aload_n 1, 1) := by decide +kernel
theorem dX6_oneTakes_29 : decode cX6_oneTakes 29 = .ok (.iload 4, 2) := by decide +kernel
theorem dX6_oneTakes_31 : decode cX6_oneTakes 31 = .ok (.iaload, 1) := by decide +kernel
theorem dX6_oneTakes_32 : decode cX6_oneTakes 32 = .ok (.aload_n 0, 1) := by decide +kernel
theorem dX6_oneTakes_33 : decode cX6_oneTakes 33 = .ok (.aload_n 1, 1) := by decide +kernel
theorem dX6_oneTakes_34 : decode cX6_oneTakes 34 = .ok (.iload_n 2, 1) := by decide +kernel
theorem dX6_oneTakes_35 : decode cX6_oneTakes 35 = .ok (.iload_n 3, 1) := by decide +kernel
theorem dX6_oneTakes_36 : decode cX6_oneTakes 36 = .ok (.invokevirtual 64, 3) := by decide +kernel
theorem dX6_oneTakes_39 : decode cX6_oneTakes 39 = .ok (.iadd, 1) := by decide +kernel
theorem dX6_oneTakes_40 : decode cX6_oneTakes 40 = .ok (.istore 5, 2) := by decide +kernel
theorem dX6_oneTakes_42 : decode cX6_oneTakes 42 = .ok (.aload_n 1, 1) := by decide +kernel
theorem dX6_oneTakes_43 : decode cX6_oneTakes 43 = .ok (.iload 4, 2) := by decide +kernel
theorem dX6_oneTakes_45 : decode cX6_oneTakes 45 = .ok (.iload 5, 2) := by decide +kernel
theorem dX6_oneTakes_47 : decode cX6_oneTakes 47 = .ok (.bipush 99, 2) := by decide +kernel
theorem dX6_oneTakes_49 : decode cX6_oneTakes 49 = .ok (.if_icmp .le 8, 3) := by decide +kernel
theorem dX6_oneTakes_52 : decode cX6_oneTakes 52 = .ok (.bipush 99, 2) := by decide +kernel
theorem dX6_oneTakes_54 : decode cX6_oneTakes 54 = .ok (.goto 5, 3) := by decide +kernel
theorem dX6_oneTakes_57 : decode cX6_oneTakes 57 = .ok (.iload 5, 2) := by decide +kernel
theorem dX6_oneTakes_59 : decode cX6_oneTakes 59 = .ok (.iastore, 1) := by decide +kernel
theorem dX6_oneTakes_60 : decode cX6_oneTakes 60 = .ok (.return_, 1) := by decide +kernel
theorem dX6_yearGoes_0 : decode cX6_yearGoes 0 = .ok (.iconst 0, 1) := by decide +kernel
theorem dX6_yearGoes_1 : decode cX6_yearGoes 1 = .ok (.istore_n 2, 1) := by decide +kernel
theorem dX6_yearGoes_2 : decode cX6_yearGoes 2 = .ok (.iload_n 2, 1) := by decide +kernel
theorem dX6_yearGoes_3 : decode cX6_yearGoes 3 = .ok (.aload_n 0, 1) := by decide +kernel
theorem dX6_yearGoes_4 : decode cX6_yearGoes 4 = .ok (.getfield 7, 3) := by decide +kernel
theorem dX6_yearGoes_7 : decode cX6_yearGoes 7 = .ok (.bipush 48, 2) := by decide +kernel
theorem dX6_yearGoes_9 : decode cX6_yearGoes 9 = .ok (.iaload, 1) := by decide +kernel
theorem dX6_yearGoes_10 : decode cX6_yearGoes 10 = .ok (.if_icmp .ge 15, 3) := by decide +kernel
theorem dX6_yearGoes_13 : decode cX6_yearGoes 13 = .ok (.aload_n 0, 1) := by decide +kernel
theorem dX6_yearGoes_14 : decode cX6_yearGoes 14 = .ok (.aload_n 1, 1) := by decide +kernel
theorem dX6_yearGoes_15 : decode cX6_yearGoes 15 = .ok (.iload_n 2, 1) := by decide +kernel
theorem dX6_yearGoes_16 : decode cX6_yearGoes 16 = .ok (.invokevirtual 68, 3) := by decide +kernel
theorem dX6_yearGoes_19 : decode cX6_yearGoes 19 = .ok (.iinc 2 1, 3) := by decide +kernel
theorem dX6_yearGoes_22 : decode cX6_yearGoes 22 = .ok (.goto (-20), 3) := by decide +kernel
theorem dX6_yearGoes_25 : decode cX6_yearGoes 25 = .ok (.iconst 0, 1) := by decide +kernel
theorem dX6_yearGoes_26 : decode cX6_yearGoes 26 = .ok (.istore_n 2, 1) := by decide +kernel
theorem dX6_yearGoes_27 : decode cX6_yearGoes 27 = .ok (.iload_n 2, 1) := by decide +kernel
theorem dX6_yearGoes_28 : decode cX6_yearGoes 28 = .ok (.aload_n 0, 1) := by decide +kernel
theorem dX6_yearGoes_29 : decode cX6_yearGoes 29 = .ok (.getfield 7, 3) := by decide +kernel
theorem dX6_yearGoes_32 : decode cX6_yearGoes 32 = .ok (.bipush 48, 2) := by decide +kernel
theorem dX6_yearGoes_34 : decode cX6_yearGoes 34 = .ok (.iaload, 1) := by decide +kernel
theorem dX6_yearGoes_35 : decode cX6_yearGoes 35 = .ok (.if_icmp .ge 79, 3) := by decide +kernel
theorem dX6_yearGoes_38 : decode cX6_yearGoes 38 = .ok (.aload_n 1, 1) := by decide +kernel
theorem dX6_yearGoes_39 : decode cX6_yearGoes 39 = .ok (.iconst 0, 1) := by decide +kernel
theorem dX6_yearGoes_40 : decode cX6_yearGoes 40 = .ok (.iload_n 2, 1) := by decide +kernel
theorem dX6_yearGoes_41 : decode cX6_yearGoes 41 = .ok (.iadd, 1) := by decide +kernel
theorem dX6_yearGoes_42 : decode cX6_yearGoes 42 = .ok (.iaload, 1) := by decide +kernel
theorem dX6_yearGoes_43 : decode cX6_yearGoes 43 = .ok (.istore_n 3, 1) := by decide +kernel
theorem dX6_yearGoes_44 : decode cX6_yearGoes 44 = .ok (.iload_n 3, 1) := by decide +kernel
theorem dX6_yearGoes_45 : decode cX6_yearGoes 45 = .ok (.iconst (-1), 1) := by decide +kernel
theorem dX6_yearGoes_46 : decode cX6_yearGoes 46 = .ok (.if_icmp .eq 62, 3) := by decide +kernel
theorem dX6_yearGoes_49 : decode cX6_yearGoes 49 = .ok (.aload_n 1, 1) := by decide +kernel
theorem dX6_yearGoes_50 : decode cX6_yearGoes 50 = .ok (.bipush 25, 2) := by decide +kernel
theorem dX6_yearGoes_52 : decode cX6_yearGoes 52 = .ok (.iload_n 3, 1) := by decide +kernel
theorem dX6_yearGoes_53 : decode cX6_yearGoes 53 = .ok (.iadd, 1) := by decide +kernel
theorem dX6_yearGoes_54 : decode cX6_yearGoes 54 = .ok (.iaload, 1) := by decide +kernel
theorem dX6_yearGoes_55 : decode cX6_yearGoes 55 = .ok (.aload_n 0, 1) := by decide +kernel
theorem dX6_yearGoes_56 : decode cX6_yearGoes 56 = .ok (.getfield 7, 3) := by decide +kernel
theorem dX6_yearGoes_59 : decode cX6_yearGoes 59 = .ok (.bipush 34, 2) := by decide +kernel
theorem dX6_yearGoes_61 : decode cX6_yearGoes 61 = .ok (.iload_n 3, 1) := by decide +kernel
theorem dX6_yearGoes_62 : decode cX6_yearGoes 62 = .ok (.iadd, 1) := by decide +kernel
theorem dX6_yearGoes_63 : decode cX6_yearGoes 63 = .ok (.iaload, 1) := by decide +kernel
theorem dX6_yearGoes_64 : decode cX6_yearGoes 64 = .ok (.aload_n 0, 1) := by decide +kernel
theorem dX6_yearGoes_65 : decode cX6_yearGoes 65 = .ok (.getfield 7, 3) := by decide +kernel
theorem dX6_yearGoes_68 : decode cX6_yearGoes 68 = .ok (.bipush 49, 2) := by decide +kernel
theorem dX6_yearGoes_70 : decode cX6_yearGoes 70 = .ok (.iload_n 2, 1) := by decide +kernel
theorem dX6_yearGoes_71 : decode cX6_yearGoes 71 = .ok (.iadd, 1) := by decide +kernel
theorem dX6_yearGoes_72 : decode cX6_yearGoes 72 = .ok (.iaload, 1) := by decide +kernel
theorem dX6_yearGoes_73 : decode cX6_yearGoes 73 = .ok (.aload_n 0, 1) := by decide +kernel
theorem dX6_yearGoes_74 : decode cX6_yearGoes 74 = .ok (.getfield 7, 3) := by decide +kernel
theorem dX6_yearGoes_77 : decode cX6_yearGoes 77 = .ok (.bipush 54, 2) := by decide +kernel
theorem dX6_yearGoes_79 : decode cX6_yearGoes 79 = .ok (.iload_n 2, 1) := by decide +kernel
theorem dX6_yearGoes_80 : decode cX6_yearGoes 80 = .ok (.iadd, 1) := by decide +kernel
theorem dX6_yearGoes_81 : decode cX6_yearGoes 81 = .ok (.iaload, 1) := by decide +kernel
theorem dX6_yearGoes_82 : decode cX6_yearGoes 82 = .ok (.invokestatic 72, 3) := by decide +kernel
theorem dX6_yearGoes_85 : decode cX6_yearGoes 85 = .ok (.invokestatic 75, 3) := by decide +kernel
theorem dX6_yearGoes_88 : decode cX6_yearGoes 88 = .ok (.isub, 1) := by decide +kernel
theorem dX6_yearGoes_89 : decode cX6_yearGoes 89 = .ok (.istore 4, 2) := by decide +kernel
theorem dX6_yearGoes_91 : decode cX6_yearGoes 91 = .ok (.aload_n 1, 1) := by decide +kernel
theorem dX6_yearGoes_92 : decode cX6_yearGoes 92 = .ok (.bipush 25, 2) := by decide +kernel
theorem dX6_yearGoes_94 : decode cX6_yearGoes 94 = .ok (.iload_n 3, 1) := by decide +kernel
theorem dX6_yearGoes_95 : decode cX6_yearGoes 95 = .ok (.iadd, 1) := by decide +kernel
theorem dX6_yearGoes_96 : decode cX6_yearGoes 96 = .ok (.iload 4, 2) := by decide +kernel
theorem dX6_yearGoes_98 : decode cX6_yearGoes 98 = .ok (.ifCond .ge 7, 3) := by decide +kernel
theorem dX6_yearGoes_101 : decode cX6_yearGoes 101 = .ok (.iconst 0, 1) := by decide +kernel
theorem dX6_yearGoes_102 : decode cX6_yearGoes 102 = .ok (.goto 5, 3) := by decide +kernel
theorem dX6_yearGoes_105 : decode cX6_yearGoes 105 = .ok (.iload 4, 2) := by decide +kernel
theorem dX6_yearGoes_107 : decode cX6_yearGoes 107 = .ok (.iastore, 1) := by decide +kernel
theorem dX6_yearGoes_108 : decode cX6_yearGoes 108 = .ok (.iinc 2 1, 3) := by decide +kernel
theorem dX6_yearGoes_111 : decode cX6_yearGoes 111 = .ok (.goto (-84), 3) := by decide +kernel
theorem dX6_yearGoes_114 : decode cX6_yearGoes 114 = .ok (.aload_n 1, 1) := by decide +kernel
theorem dX6_yearGoes_115 : decode cX6_yearGoes 115 = .ok (.bipush 32, 2) := by decide +kernel
theorem dX6_yearGoes_117 : decode cX6_yearGoes 117 = .ok (.dup2, 1) := by decide +kernel
theorem dX6_yearGoes_118 : decode cX6_yearGoes 118 = .ok (.iaload, 1) := by decide +kernel
theorem dX6_yearGoes_119 : decode cX6_yearGoes 119 = .ok (.iconst 1, 1) := by decide +kernel
theorem dX6_yearGoes_120 : decode cX6_yearGoes 120 = .ok (.iadd, 1) := by decide +kernel
theorem dX6_yearGoes_121 : decode cX6_yearGoes 121 = .ok (.iastore, 1) := by decide +kernel
theorem dX6_yearGoes_122 : decode cX6_yearGoes 122 = .ok (.return_, 1) := by decide +kernel
theorem dX6_does_0 : decode cX6_does 0 = .ok (.iconst 0, 1) := by decide +kernel
theorem dX6_does_1 : decode cX6_does 1 = .ok (.istore_n 2, 1) := by decide +kernel
theorem dX6_does_2 : decode cX6_does 2 = .ok (.iconst 1, 1) := by decide +kernel
theorem dX6_does_3 : decode cX6_does 3 = .ok (.istore_n 3, 1) := by decide +kernel
theorem dX6_does_4 : decode cX6_does 4 = .ok (.iload_n 3, 1) := by decide +kernel
theorem dX6_does_5 : decode cX6_does 5 = .ok (.iconst 4, 1) := by decide +kernel
theorem dX6_does_6 : decode cX6_does 6 = .ok (.if_icmp .ge 36, 3) := by decide +kernel
theorem dX6_does_9 : decode cX6_does 9 = .ok (.aload_n 0, 1) := by decide +kernel
theorem dX6_does_10 : decode cX6_does 10 = .ok (.iconst 5, 1) := by decide +kernel
theorem dX6_does_11 : decode cX6_does 11 = .ok (.iconst 4, 1) := by decide +kernel
theorem dX6_does_12 : decode cX6_does 12 = .ok (.iload_n 1, 1) := by decide +kernel
theorem dX6_does_13 : decode cX6_does 13 = .ok (.imul, 1) := by decide +kernel
theorem dX6_does_14 : decode cX6_does 14 = .ok (.iadd, 1) := by decide +kernel
theorem dX6_does_15 : decode cX6_does 15 = .ok (.iload_n 3, 1) := by decide +kernel
theorem dX6_does_16 : decode cX6_does 16 = .ok (.iadd, 1) := by decide +kernel
theorem dX6_does_17 : decode cX6_does 17 = .ok (.iaload, 1) := by decide +kernel
theorem dX6_does_18 : decode cX6_does 18 = .ok (.aload_n 0, 1) := by decide +kernel
theorem dX6_does_19 : decode cX6_does 19 = .ok (.iconst 5, 1) := by decide +kernel
theorem dX6_does_20 : decode cX6_does 20 = .ok (.iconst 4, 1) := by decide +kernel
theorem dX6_does_21 : decode cX6_does 21 = .ok (.iload_n 1, 1) := by decide +kernel
theorem dX6_does_22 : decode cX6_does 22 = .ok (.imul, 1) := by decide +kernel
theorem dX6_does_23 : decode cX6_does 23 = .ok (.iadd, 1) := by decide +kernel
theorem dX6_does_24 : decode cX6_does 24 = .ok (.iload_n 2, 1) := by decide +kernel
theorem dX6_does_25 : decode cX6_does 25 = .ok (.iadd, 1) := by decide +kernel
theorem dX6_does_26 : decode cX6_does 26 = .ok (.iaload, 1) := by decide +kernel
theorem dX6_does_27 : decode cX6_does 27 = .ok (.if_icmp .le 7, 3) := by decide +kernel
theorem dX6_does_30 : decode cX6_does 30 = .ok (.iload_n 3, 1) := by decide +kernel
theorem dX6_does_31 : decode cX6_does 31 = .ok (.goto 4, 3) := by decide +kernel
theorem dX6_does_34 : decode cX6_does 34 = .ok (.iload_n 2, 1) := by decide +kernel
theorem dX6_does_35 : decode cX6_does 35 = .ok (.istore_n 2, 1) := by decide +kernel
theorem dX6_does_36 : decode cX6_does 36 = .ok (.iinc 3 1, 3) := by decide +kernel
theorem dX6_does_39 : decode cX6_does 39 = .ok (.goto (-35), 3) := by decide +kernel
theorem dX6_does_42 : decode cX6_does 42 = .ok (.aload_n 0, 1) := by decide +kernel
theorem dX6_does_43 : decode cX6_does 43 = .ok (.iconst 5, 1) := by decide +kernel
theorem dX6_does_44 : decode cX6_does 44 = .ok (.iconst 4, 1) := by decide +kernel
theorem dX6_does_45 : decode cX6_does 45 = .ok (.iload_n 1, 1) := by decide +kernel
theorem dX6_does_46 : decode cX6_does 46 = .ok (.imul, 1) := by decide +kernel
theorem dX6_does_47 : decode cX6_does 47 = .ok (.iadd, 1) := by decide +kernel
theorem dX6_does_48 : decode cX6_does 48 = .ok (.iload_n 2, 1) := by decide +kernel
theorem dX6_does_49 : decode cX6_does 49 = .ok (.iadd, 1) := by decide +kernel
theorem dX6_does_50 : decode cX6_does 50 = .ok (.iaload, 1) := by decide +kernel
theorem dX6_does_51 : decode cX6_does 51 = .ok (.bipush 10, 2) := by decide +kernel
theorem dX6_does_53 : decode cX6_does 53 = .ok (.if_icmp .ge 7, 3) := by decide +kernel
theorem dX6_does_56 : decode cX6_does 56 = .ok (.iconst (-1), 1) := by decide +kernel
theorem dX6_does_57 : decode cX6_does 57 = .ok (.goto 4, 3) := by decide +kernel
theorem dX6_does_60 : decode cX6_does 60 = .ok (.iload_n 2, 1) := by decide +kernel
theorem dX6_does_61 : decode cX6_does 61 = .ok (.ireturn, 1) := by decide +kernel
theorem dX6_whoDo_0 : decode cX6_whoDo 0 = .ok (.iconst 0, 1) := by decide +kernel
theorem dX6_whoDo_1 : decode cX6_whoDo 1 = .ok (.istore_n 2, 1) := by decide +kernel
theorem dX6_whoDo_2 : decode cX6_whoDo 2 = .ok (.iconst 0, 1) := by decide +kernel
theorem dX6_whoDo_3 : decode cX6_whoDo 3 = .ok (.istore_n 3, 1) := by decide +kernel
theorem dX6_whoDo_4 : decode cX6_whoDo 4 = .ok (.iload_n 3, 1) := by decide +kernel
theorem dX6_whoDo_5 : decode cX6_whoDo 5 = .ok (.aload_n 0, 1) := by decide +kernel
theorem dX6_whoDo_6 : decode cX6_whoDo 6 = .ok (.getfield 7, 3) := by decide +kernel
theorem dX6_whoDo_9 : decode cX6_whoDo 9 = .ok (.bipush 48, 2) := by decide +kernel
theorem dX6_whoDo_11 : decode cX6_whoDo 11 = .ok (.iaload, 1) := by decide +kernel
theorem dX6_whoDo_12 : decode cX6_whoDo 12 = .ok (.if_icmp .ge 26, 3) := by decide +kernel
theorem dX6_whoDo_15 : decode cX6_whoDo 15 = .ok (.iload_n 2, 1) := by decide +kernel
theorem dX6_whoDo_16 : decode cX6_whoDo 16 = .ok (.aload_n 1, 1) := by decide +kernel
theorem dX6_whoDo_17 : decode cX6_whoDo 17 = .ok (.iload_n 3, 1) := by decide +kernel
theorem dX6_whoDo_18 : decode cX6_whoDo 18 = .ok (.invokestatic 78, 3) := by decide +kernel
theorem dX6_whoDo_21 : decode cX6_whoDo 21 = .ok (.iconst (-1), 1) := by decide +kernel
theorem dX6_whoDo_22 : decode cX6_whoDo 22 = .ok (.if_icmp .ne 7, 3) := by decide +kernel
theorem dX6_whoDo_25 : decode cX6_whoDo 25 = .ok (.iconst 0, 1) := by decide +kernel
theorem dX6_whoDo_26 : decode cX6_whoDo 26 = .ok (.goto 4, 3) := by decide +kernel
theorem dX6_whoDo_29 : decode cX6_whoDo 29 = .ok (.iconst 1, 1) := by decide +kernel
theorem dX6_whoDo_30 : decode cX6_whoDo 30 = .ok (.iadd, 1) := by decide +kernel
theorem dX6_whoDo_31 : decode cX6_whoDo 31 = .ok (.istore_n 2, 1) := by decide +kernel
theorem dX6_whoDo_32 : decode cX6_whoDo 32 = .ok (.iinc 3 1, 3) := by decide +kernel
theorem dX6_whoDo_35 : decode cX6_whoDo 35 = .ok (.goto (-31), 3) := by decide +kernel
theorem dX6_whoDo_38 : decode cX6_whoDo 38 = .ok (.iload_n 2, 1) := by decide +kernel
theorem dX6_whoDo_39 : decode cX6_whoDo 39 = .ok (.ireturn, 1) := by decide +kernel
theorem dX6_whoOn_0 : decode cX6_whoOn 0 = .ok (.iconst (-1), 1) := by decide +kernel
theorem dX6_whoOn_1 : decode cX6_whoOn 1 = .ok (.istore_n 2, 1) := by decide +kernel
theorem dX6_whoOn_2 : decode cX6_whoOn 2 = .ok (.iconst 4, 1) := by decide +kernel
theorem dX6_whoOn_3 : decode cX6_whoOn 3 = .ok (.istore_n 3, 1) := by decide +kernel
theorem dX6_whoOn_4 : decode cX6_whoOn 4 = .ok (.iload_n 3, 1) := by decide +kernel
theorem dX6_whoOn_5 : decode cX6_whoOn 5 = .ok (.ifCond .lt 24, 3) := by decide +kernel
theorem dX6_whoOn_8 : decode cX6_whoOn 8 = .ok (.aload_n 0, 1) := by decide +kernel
theorem dX6_whoOn_9 : decode cX6_whoOn 9 = .ok (.iconst 0, 1) := by decide +kernel
theorem dX6_whoOn_10 : decode cX6_whoOn 10 = .ok (.iload_n 3, 1) := by decide +kernel
theorem dX6_whoOn_11 : decode cX6_whoOn 11 = .ok (.iadd, 1) := by decide +kernel
theorem dX6_whoOn_12 : decode cX6_whoOn 12 = .ok (.iaload, 1) := by decide +kernel
theorem dX6_whoOn_13 : decode cX6_whoOn 13 = .ok (.iload_n 1, 1) := by decide +kernel
theorem dX6_whoOn_14 : decode cX6_whoOn 14 = .ok (.if_icmp .ne 7, 3) := by decide +kernel
theorem dX6_whoOn_17 : decode cX6_whoOn 17 = .ok (.iload_n 3, 1) := by decide +kernel
theorem dX6_whoOn_18 : decode cX6_whoOn 18 = .ok (.goto 4, 3) := by decide +kernel
theorem dX6_whoOn_21 : decode cX6_whoOn 21 = .ok (.iload_n 2, 1) := by decide +kernel
theorem dX6_whoOn_22 : decode cX6_whoOn 22 = .ok (.istore_n 2, 1) := by decide +kernel
theorem dX6_whoOn_23 : decode cX6_whoOn 23 = .ok (.iinc 3 (-1), 3) := by decide +kernel
theorem dX6_whoOn_26 : decode cX6_whoOn 26 = .ok (.goto (-22), 3) := by decide +kernel
theorem dX6_whoOn_29 : decode cX6_whoOn 29 = .ok (.iload_n 2, 1) := by decide +kernel
theorem dX6_whoOn_30 : decode cX6_whoOn 30 = .ok (.ireturn, 1) := by decide +kernel
theorem dX6_remember_0 : decode cX6_remember 0 = .ok (.aload_n 0, 1) := by decide +kernel
theorem dX6_remember_1 : decode cX6_remember 1 = .ok (.getfield 7, 3) := by decide +kernel
theorem dX6_remember_4 : decode cX6_remember 4 = .ok (.sipush 134, 3) := by decide +kernel
theorem dX6_remember_7 : decode cX6_remember 7 = .ok (.iaload, 1) := by decide +kernel
theorem dX6_remember_8 : decode cX6_remember 8 = .ok (.bipush 8, 2) := by decide +kernel
theorem dX6_remember_10 : decode cX6_remember 10 = .ok (.if_icmp .ne 53, 3) := by decide +kernel
theorem dX6_remember_13 : decode cX6_remember 13 = .ok (.iconst 0, 1) := by decide +kernel
theorem dX6_remember_14 : decode cX6_remember 14 = .ok (.istore_n 1, 1) := by decide +kernel
theorem dX6_remember_15 : decode cX6_remember 15 = .ok (.iload_n 1, 1) := by decide +kernel
theorem dX6_remember_16 : decode cX6_remember 16 = .ok (.sipush 231, 3) := by decide +kernel
theorem dX6_remember_19 : decode cX6_remember 19 = .ok (.if_icmp .ge 32, 3) := by decide +kernel
theorem dX6_remember_22 : decode cX6_remember 22 = .ok (.aload_n 0, 1) := by decide +kernel
theorem dX6_remember_23 : decode cX6_remember 23 = .ok (.getfield 7, 3) := by decide +kernel
theorem dX6_remember_26 : decode cX6_remember 26 = .ok (.sipush 135, 3) := by decide +kernel
theorem dX6_remember_29 : decode cX6_remember 29 = .ok (.iload_n 1, 1) := by decide +kernel
theorem dX6_remember_30 : decode cX6_remember 30 = .ok (.iadd, 1) := by decide +kernel
theorem dX6_remember_31 : decode cX6_remember 31 = .ok (.aload_n 0, 1) := by decide +kernel
theorem dX6_remember_32 : decode cX6_remember 32 = .ok (.getfield 7, 3) := by decide +kernel
theorem dX6_remember_35 : decode cX6_remember 35 = .ok (.sipush 135, 3) := by decide +kernel
theorem dX6_remember_38 : decode cX6_remember 38 = .ok (.iload_n 1, 1) := by decide +kernel
theorem dX6_remember_39 : decode cX6_remember 39 = .ok (.iadd, 1) := by decide +kernel
theorem dX6_remember_40 : decode cX6_remember 40 = .ok (.bipush 33, 2) := by decide +kernel
theorem dX6_remember_42 : decode cX6_remember 42 = .ok (.iadd, 1) := by decide +kernel
theorem dX6_remember_43 : decode cX6_remember 43 = .ok (.iaload, 1) := by decide +kernel
theorem dX6_remember_44 : decode cX6_remember 44 = .ok (.iastore, 1) := by decide +kernel
theorem dX6_remember_45 : decode cX6_remember 45 = .ok (.iinc 1 1, 3) := by decide +kernel
theorem dX6_remember_48 : decode cX6_remember 48 = .ok (.goto (-33), 3) := by decide +kernel
theorem dX6_remember_51 : decode cX6_remember 51 = .ok (.aload_n 0, 1) := by decide +kernel
theorem dX6_remember_52 : decode cX6_remember 52 = .ok (.getfield 7, 3) := by decide +kernel
theorem dX6_remember_55 : decode cX6_remember 55 = .ok (.sipush 134, 3) := by decide +kernel
theorem dX6_remember_58 : decode cX6_remember 58 = .ok (.dup2, 1) := by decide +kernel
theorem dX6_remember_59 : decode cX6_remember 59 = .ok (.iaload, 1) := by decide +kernel
theorem dX6_remember_60 : decode cX6_remember 60 = .ok (.iconst 1, 1) := by decide +kernel
theorem dX6_remember_61 : decode cX6_remember 61 = .ok (.isub, 1) := by decide +kernel
theorem dX6_remember_62 : decode cX6_remember 62 = .ok (.iastore, 1) := by decide +kernel
theorem dX6_remember_63 : decode cX6_remember 63 = .ok (.aload_n 0, 1) := by decide +kernel
theorem dX6_remember_64 : decode cX6_remember 64 = .ok (.getfield 7, 3) := by decide +kernel
theorem dX6_remember_67 : decode cX6_remember 67 = .ok (.iconst 0, 1) := by decide +kernel
theorem dX6_remember_68 : decode cX6_remember 68 = .ok (.aload_n 0, 1) := by decide +kernel
theorem dX6_remember_69 : decode cX6_remember 69 = .ok (.getfield 7, 3) := by decide +kernel
theorem dX6_remember_72 : decode cX6_remember 72 = .ok (.sipush 135, 3) := by decide +kernel
theorem dX6_remember_75 : decode cX6_remember 75 = .ok (.bipush 33, 2) := by decide +kernel
theorem dX6_remember_77 : decode cX6_remember 77 = .ok (.aload_n 0, 1) := by decide +kernel
theorem dX6_remember_78 : decode cX6_remember 78 = .ok (.getfield 7, 3) := by decide +kernel
theorem dX6_remember_81 : decode cX6_remember 81 = .ok (.sipush 134, 3) := by decide +kernel
theorem dX6_remember_84 : decode cX6_remember 84 = .ok (.iaload, 1) := by decide +kernel
theorem dX6_remember_85 : decode cX6_remember 85 = .ok (.imul, 1) := by decide +kernel
theorem dX6_remember_86 : decode cX6_remember 86 = .ok (.iadd, 1) := by decide +kernel
theorem dX6_remember_87 : decode cX6_remember 87 = .ok (.bipush 33, 2) := by decide +kernel
theorem dX6_remember_89 : decode cX6_remember 89 = .ok (.invokestatic 82, 3) := by decide +kernel
theorem dX6_remember_92 : decode cX6_remember 92 = .ok (.aload_n 0, 1) := by decide +kernel
theorem dX6_remember_93 : decode cX6_remember 93 = .ok (.getfield 7, 3) := by decide +kernel
theorem dX6_remember_96 : decode cX6_remember 96 = .ok (.sipush 134, 3) := by decide +kernel
theorem dX6_remember_99 : decode cX6_remember 99 = .ok (.dup2, 1) := by decide +kernel
theorem dX6_remember_100 : decode cX6_remember 100 = .ok (.iaload, 1) := by decide +kernel
theorem dX6_remember_101 : decode cX6_remember 101 = .ok (.iconst 1, 1) := by decide +kernel
theorem dX6_remember_102 : decode cX6_remember 102 = .ok (.iadd, 1) := by decide +kernel
theorem dX6_remember_103 : decode cX6_remember 103 = .ok (.iastore, 1) := by decide +kernel
theorem dX6_remember_104 : decode cX6_remember 104 = .ok (.return_, 1) := by decide +kernel
theorem dX6_layAside_0 : decode cX6_layAside 0 = .ok (.aload_n 0, 1) := by decide +kernel
theorem dX6_layAside_1 : decode cX6_layAside 1 = .ok (.getfield 7, 3) := by decide +kernel
theorem dX6_layAside_4 : decode cX6_layAside 4 = .ok (.iconst 0, 1) := by decide +kernel
theorem dX6_layAside_5 : decode cX6_layAside 5 = .ok (.aload_n 0, 1) := by decide +kernel
theorem dX6_layAside_6 : decode cX6_layAside 6 = .ok (.getfield 16, 3) := by decide +kernel
theorem dX6_layAside_9 : decode cX6_layAside 9 = .ok (.iconst 0, 1) := by decide +kernel
theorem dX6_layAside_10 : decode cX6_layAside 10 = .ok (.bipush 33, 2) := by decide +kernel
theorem dX6_layAside_12 : decode cX6_layAside 12 = .ok (.invokestatic 82, 3) := by decide +kernel
theorem dX6_layAside_15 : decode cX6_layAside 15 = .ok (.return_, 1) := by decide +kernel
theorem dX6_isSeat_0 : decode cX6_isSeat 0 = .ok (.iload_n 1, 1) := by decide +kernel
theorem dX6_isSeat_1 : decode cX6_isSeat 1 = .ok (.i2l, 1) := by decide +kernel
theorem dX6_isSeat_2 : decode cX6_isSeat 2 = .ok (.lconst 0, 1) := by decide +kernel
theorem dX6_isSeat_3 : decode cX6_isSeat 3 = .ok (.aload_n 0, 1) := by decide +kernel
theorem dX6_isSeat_4 : decode cX6_isSeat 4 = .ok (.getfield 7, 3) := by decide +kernel
theorem dX6_isSeat_7 : decode cX6_isSeat 7 = .ok (.bipush 33, 2) := by decide +kernel
theorem dX6_isSeat_9 : decode cX6_isSeat 9 = .ok (.iaload, 1) := by decide +kernel
theorem dX6_isSeat_10 : decode cX6_isSeat 10 = .ok (.iconst 1, 1) := by decide +kernel
theorem dX6_isSeat_11 : decode cX6_isSeat 11 = .ok (.isub, 1) := by decide +kernel
theorem dX6_isSeat_12 : decode cX6_isSeat 12 = .ok (.i2l, 1) := by decide +kernel
theorem dX6_isSeat_13 : decode cX6_isSeat 13 = .ok (.invokestatic 86, 3) := by decide +kernel
theorem dX6_isSeat_16 : decode cX6_isSeat 16 = .ok (.ireturn, 1) := by decide +kernel
theorem dX6_isCanon_0 : decode cX6_isCanon 0 = .ok (.iload_n 1, 1) := by decide +kernel
theorem dX6_isCanon_1 : decode cX6_isCanon 1 = .ok (.i2l, 1) := by decide +kernel
theorem dX6_isCanon_2 : decode cX6_isCanon 2 = .ok (.lconst 0, 1) := by decide +kernel
theorem dX6_isCanon_3 : decode cX6_isCanon 3 = .ok (.aload_n 0, 1) := by decide +kernel
theorem dX6_isCanon_4 : decode cX6_isCanon 4 = .ok (.getfield 7, 3) := by decide +kernel
theorem dX6_isCanon_7 : decode cX6_isCanon 7 = .ok (.bipush 48, 2) := by decide +kernel
theorem dX6_isCanon_9 : decode cX6_isCanon 9 = .ok (.iaload, 1) := by decide +kernel
theorem dX6_isCanon_10 : decode cX6_isCanon 10 = .ok (.iconst 1, 1) := by decide +kernel
theorem dX6_isCanon_11 : decode cX6_isCanon 11 = .ok (.isub, 1) := by decide +kernel
theorem dX6_isCanon_12 : decode cX6_isCanon 12 = .ok (.i2l, 1) := by decide +kernel
theorem dX6_isCanon_13 : decode cX6_isCanon 13 = .ok (.invokestatic 86, 3) := by decide +kernel
theorem dX6_isCanon_16 : decode cX6_isCanon 16 = .ok (.ireturn, 1) := by decide +kernel
theorem dX6_isTrait_0 : decode cX6_isTrait 0 = .ok (.iload_n 0, 1) := by decide +kernel
theorem dX6_isTrait_1 : decode cX6_isTrait 1 = .ok (.i2l, 1) := by decide +kernel
theorem dX6_isTrait_2 : decode cX6_isTrait 2 = .ok (.lconst 0, 1) := by decide +kernel
theorem dX6_isTrait_3 : decode cX6_isTrait 3 = .ok (.ldc2_w 90, 3) := by decide +kernel
theorem dX6_isTrait_6 : decode cX6_isTrait 6 = .ok (.invokestatic 86, 3) := by decide +kernel
theorem dX6_isTrait_9 : decode cX6_isTrait 9 = .ok (.ireturn, 1) := by decide +kernel
theorem dX6_chapter_0 : decode cX6_chapter 0 = .ok (.aload_n 0, 1) := by decide +kernel
theorem dX6_chapter_1 : decode cX6_chapter 1 = .ok (.getfield 7, 3) := by decide +kernel
theorem dX6_chapter_4 : decode cX6_chapter 4 = .ok (.bipush 48, 2) := by decide +kernel
theorem dX6_chapter_6 : decode cX6_chapter 6 = .ok (.iaload, 1) := by decide +kernel
theorem dX6_chapter_7 : decode cX6_chapter 7 = .ok (.istore_n 1, 1) := by decide +kernel
theorem dX6_chapter_8 : decode cX6_chapter 8 = .ok (.aload_n 0, 1) := by decide +kernel
theorem dX6_chapter_9 : decode cX6_chapter 9 = .ok (.getfield 7, 3) := by decide +kernel
theorem dX6_chapter_12 : decode cX6_chapter 12 = .ok (.invokestatic 48, 3) := by decide +kernel
theorem dX6_chapter_15 : decode cX6_chapter 15 = .ok (.iload_n 1, 1) := by decide +kernel
theorem dX6_chapter_16 : decode cX6_chapter 16 = .ok (.ireturn, 1) := by decide +kernel
theorem dX6_seat_0 : decode cX6_seat 0 = .ok (.iload_n 1, 1) := by decide +kernel
theorem dX6_seat_1 : decode cX6_seat 1 = .ok (.i2l, 1) := by decide +kernel
theorem dX6_seat_2 : decode cX6_seat 2 = .ok (.lconst 0, 1) := by decide +kernel
theorem dX6_seat_3 : decode cX6_seat 3 = .ok (.ldc2_w 92, 3) := by decide +kernel
theorem dX6_seat_6 : decode cX6_seat 6 = .ok (.invokestatic 86, 3) := by decide +kernel
theorem dX6_seat_9 : decode cX6_seat 9 = .ok (.ifCond .eq 22, 3) := by decide +kernel
theorem dX6_seat_12 : decode cX6_seat 12 = .ok (.iload_n 2, 1) := by decide +kernel
theorem dX6_seat_13 : decode cX6_seat 13 = .ok (.invokestatic 94, 3) := by decide +kernel
theorem dX6_seat_16 : decode cX6_seat 16 = .ok (.ifCond .eq 15, 3) := by decide +kernel
theorem dX6_seat_19 : decode cX6_seat 19 = .ok (.iload_n 3, 1) := by decide +kernel
theorem dX6_seat_20 : decode cX6_seat 20 = .ok (.i2l, 1) := by decide +kernel
theorem dX6_seat_21 : decode cX6_seat 21 = .ok (.lconst 0, 1) := by decide +kernel
theorem dX6_seat_22 : decode cX6_seat 22 = .ok (.ldc2_w 98, 3) := by decide +kernel
theorem dX6_seat_25 : decode cX6_seat 25 = .ok (.invokestatic 86, 3) := by decide +kernel
theorem dX6_seat_28 : decode cX6_seat 28 = .ok (.ifCond .ne 8, 3) := by decide +kernel
theorem dX6_seat_31 : decode cX6_seat 31 = .ok (.aload_n 0, 1) := by decide +kernel
theorem dX6_seat_32 : decode cX6_seat 32 = .ok (.invokevirtual 100, 3) := by decide +kernel
theorem dX6_seat_35 : decode cX6_seat 35 = .ok (.ireturn, 1) := by decide +kernel
theorem dX6_seat_36 : decode cX6_seat 36 = .ok (.aload_n 0, 1) := by decide +kernel
theorem dX6_seat_37 : decode cX6_seat 37 = .ok (.getfield 7, 3) := by decide +kernel
theorem dX6_seat_40 : decode cX6_seat 40 = .ok (.bipush 33, 2) := by decide +kernel
theorem dX6_seat_42 : decode cX6_seat 42 = .ok (.iaload, 1) := by decide +kernel
theorem dX6_seat_43 : decode cX6_seat 43 = .ok (.bipush 7, 2) := by decide +kernel
theorem dX6_seat_45 : decode cX6_seat 45 = .ok (.if_icmp .ne 11, 3) := by decide +kernel
theorem dX6_seat_48 : decode cX6_seat 48 = .ok (.aload_n 0, 1) := by decide +kernel
theorem dX6_seat_49 : decode cX6_seat 49 = .ok (.iconst 2, 1) := by decide +kernel
theorem dX6_seat_50 : decode cX6_seat 50 = .ok (.bipush (-4), 2) := by decide +kernel
theorem dX6_seat_52 : decode cX6_seat 52 = .ok (.invokevirtual 52, 3) := by decide +kernel
theorem dX6_seat_55 : decode cX6_seat 55 = .ok (.ireturn, 1) := by decide +kernel
theorem dX6_seat_56 : decode cX6_seat 56 = .ok (.aload_n 0, 1) := by decide +kernel
theorem dX6_seat_57 : decode cX6_seat 57 = .ok (.getfield 7, 3) := by decide +kernel
theorem dX6_seat_60 : decode cX6_seat 60 = .ok (.bipush 33, 2) := by decide +kernel
theorem dX6_seat_62 : decode cX6_seat 62 = .ok (.iaload, 1) := by decide +kernel
theorem dX6_seat_63 : decode cX6_seat 63 = .ok (.istore 4, 2) := by decide +kernel
theorem dX6_seat_65 : decode cX6_seat 65 = .ok (.aload_n 0, 1) := by decide +kernel
theorem dX6_seat_66 : decode cX6_seat 66 = .ok (.getfield 7, 3) := by decide +kernel
theorem dX6_seat_69 : decode cX6_seat 69 = .ok (.bipush 34, 2) := by decide +kernel
theorem dX6_seat_71 : decode cX6_seat 71 = .ok (.iload 4, 2) := by decide +kernel
theorem dX6_seat_73 : decode cX6_seat 73 = .ok (.iadd, 1) := by decide +kernel
theorem dX6_seat_74 : decode cX6_seat 74 = .ok (.iload_n 1, 1) := by decide +kernel
theorem dX6_seat_75 : decode cX6_seat 75 = .ok (.iastore, 1) := by decide +kernel
theorem dX6_seat_76 : decode cX6_seat 76 = .ok (.aload_n 0, 1) := by decide +kernel
theorem dX6_seat_77 : decode cX6_seat 77 = .ok (.getfield 7, 3) := by decide +kernel
theorem dX6_seat_80 : decode cX6_seat 80 = .ok (.bipush 41, 2) := by decide +kernel
theorem dX6_seat_82 : decode cX6_seat 82 = .ok (.iload 4, 2) := by decide +kernel
theorem dX6_seat_84 : decode cX6_seat 84 = .ok (.iadd, 1) := by decide +kernel
theorem dX6_seat_85 : decode cX6_seat 85 = .ok (.iload_n 2, 1) := by decide +kernel
theorem dX6_seat_86 : decode cX6_seat 86 = .ok (.iastore, 1) := by decide +kernel
theorem dX6_seat_87 : decode cX6_seat 87 = .ok (.aload_n 0, 1) := by decide +kernel
theorem dX6_seat_88 : decode cX6_seat 88 = .ok (.getfield 7, 3) := by decide +kernel
theorem dX6_seat_91 : decode cX6_seat 91 = .ok (.bipush 25, 2) := by decide +kernel
theorem dX6_seat_93 : decode cX6_seat 93 = .ok (.iload 4, 2) := by decide +kernel
theorem dX6_seat_95 : decode cX6_seat 95 = .ok (.iadd, 1) := by decide +kernel
theorem dX6_seat_96 : decode cX6_seat 96 = .ok (.iload_n 3, 1) := by decide +kernel
theorem dX6_seat_97 : decode cX6_seat 97 = .ok (.iastore, 1) := by decide +kernel
theorem dX6_seat_98 : decode cX6_seat 98 = .ok (.aload_n 0, 1) := by decide +kernel
theorem dX6_seat_99 : decode cX6_seat 99 = .ok (.getfield 7, 3) := by decide +kernel
theorem dX6_seat_102 : decode cX6_seat 102 = .ok (.bipush 33, 2) := by decide +kernel
theorem dX6_seat_104 : decode cX6_seat 104 = .ok (.dup2, 1) := by decide +kernel
theorem dX6_seat_105 : decode cX6_seat 105 = .ok (.iaload, 1) := by decide +kernel
theorem dX6_seat_106 : decode cX6_seat 106 = .ok (.iconst 1, 1) := by decide +kernel
theorem dX6_seat_107 : decode cX6_seat 107 = .ok (.iadd, 1) := by decide +kernel
theorem dX6_seat_108 : decode cX6_seat 108 = .ok (.iastore, 1) := by decide +kernel
theorem dX6_seat_109 : decode cX6_seat 109 = .ok (.aload_n 0, 1) := by decide +kernel
theorem dX6_seat_110 : decode cX6_seat 110 = .ok (.getfield 7, 3) := by decide +kernel
theorem dX6_seat_113 : decode cX6_seat 113 = .ok (.sipush 134, 3) := by decide +kernel
theorem dX6_seat_116 : decode cX6_seat 116 = .ok (.iconst 0, 1) := by decide +kernel
theorem dX6_seat_117 : decode cX6_seat 117 = .ok (.iastore, 1) := by decide +kernel
theorem dX6_seat_118 : decode cX6_seat 118 = .ok (.iload 4, 2) := by decide +kernel
theorem dX6_seat_120 : decode cX6_seat 120 = .ok (.ireturn, 1) := by decide +kernel
theorem dX6_canon_0 : decode cX6_canon 0 = .ok (.iload_n 1, 1) := by decide +kernel
theorem dX6_canon_1 : decode cX6_canon 1 = .ok (.i2l, 1) := by decide +kernel
theorem dX6_canon_2 : decode cX6_canon 2 = .ok (.lconst 0, 1) := by decide +kernel
theorem dX6_canon_3 : decode cX6_canon 3 = .ok (.ldc2_w 92, 3) := by decide +kernel
theorem dX6_canon_6 : decode cX6_canon 6 = .ok (.invokestatic 86, 3) := by decide +kernel
theorem dX6_canon_9 : decode cX6_canon 9 = .ok (.ifCond .eq 15, 3) := by decide +kernel
theorem dX6_canon_12 : decode cX6_canon 12 = .ok (.iload_n 2, 1) := by decide +kernel
theorem dX6_canon_13 : decode cX6_canon 13 = .ok (.i2l, 1) := by decide +kernel
theorem dX6_canon_14 : decode cX6_canon 14 = .ok (.lconst 1, 1) := by decide +kernel
theorem dX6_canon_15 : decode cX6_canon 15 = .ok (.ldc2_w 104, 3) := by decide +kernel
theorem dX6_canon_18 : decode cX6_canon 18 = .ok (.invokestatic 86, 3) := by decide +kernel
theorem dX6_canon_21 : decode cX6_canon 21 = .ok (.ifCond .ne 8, 3) := by decide +kernel
theorem dX6_canon_24 : decode cX6_canon 24 = .ok (.aload_n 0, 1) := by decide +kernel
theorem dX6_canon_25 : decode cX6_canon 25 = .ok (.invokevirtual 100, 3) := by decide +kernel
theorem dX6_canon_28 : decode cX6_canon 28 = .ok (.ireturn, 1) := by decide +kernel
theorem dX6_canon_29 : decode cX6_canon 29 = .ok (.aload_n 0, 1) := by decide +kernel
theorem dX6_canon_30 : decode cX6_canon 30 = .ok (.getfield 7, 3) := by decide +kernel
theorem dX6_canon_33 : decode cX6_canon 33 = .ok (.bipush 48, 2) := by decide +kernel
theorem dX6_canon_35 : decode cX6_canon 35 = .ok (.iaload, 1) := by decide +kernel
theorem dX6_canon_36 : decode cX6_canon 36 = .ok (.iconst 5, 1) := by decide +kernel
theorem dX6_canon_37 : decode cX6_canon 37 = .ok (.if_icmp .ne 11, 3) := by decide +kernel
theorem dX6_canon_40 : decode cX6_canon 40 = .ok (.aload_n 0, 1) := by decide +kernel
theorem dX6_canon_41 : decode cX6_canon 41 = .ok (.iconst 2, 1) := by decide +kernel
theorem dX6_canon_42 : decode cX6_canon 42 = .ok (.bipush (-4), 2) := by decide +kernel
theorem dX6_canon_44 : decode cX6_canon 44 = .ok (.invokevirtual 52, 3) := by decide +kernel
theorem dX6_canon_47 : decode cX6_canon 47 = .ok (.ireturn, 1) := by decide +kernel
theorem dX6_canon_48 : decode cX6_canon 48 = .ok (.aload_n 0, 1) := by decide +kernel
theorem dX6_canon_49 : decode cX6_canon 49 = .ok (.getfield 7, 3) := by decide +kernel
theorem dX6_canon_52 : decode cX6_canon 52 = .ok (.bipush 48, 2) := by decide +kernel
theorem dX6_canon_54 : decode cX6_canon 54 = .ok (.iaload, 1) := by decide +kernel
theorem dX6_canon_55 : decode cX6_canon 55 = .ok (.istore_n 3, 1) := by decide +kernel
theorem dX6_canon_56 : decode cX6_canon 56 = .ok (.aload_n 0, 1) := by decide +kernel
theorem dX6_canon_57 : decode cX6_canon 57 = .ok (.getfield 7, 3) := by decide +kernel
theorem dX6_canon_60 : decode cX6_canon 60 = .ok (.bipush 49, 2) := by decide +kernel
theorem dX6_canon_62 : decode cX6_canon 62 = .ok (.iload_n 3, 1) := by decide +kernel
theorem dX6_canon_63 : decode cX6_canon 63 = .ok (.iadd, 1) := by decide +kernel
theorem dX6_canon_64 : decode cX6_canon 64 = .ok (.iload_n 1, 1) := by decide +kernel
theorem dX6_canon_65 : decode cX6_canon 65 = .ok (.iastore, 1) := by decide +kernel
theorem dX6_canon_66 : decode cX6_canon 66 = .ok (.aload_n 0, 1) := by decide +kernel
theorem dX6_canon_67 : decode cX6_canon 67 = .ok (.getfield 7, 3) := by decide +kernel
theorem dX6_canon_70 : decode cX6_canon 70 = .ok (.bipush 54, 2) := by decide +kernel
theorem dX6_canon_72 : decode cX6_canon 72 = .ok (.iload_n 3, 1) := by decide +kernel
theorem dX6_canon_73 : decode cX6_canon 73 = .ok (.iadd, 1) := by decide +kernel
theorem dX6_canon_74 : decode cX6_canon 74 = .ok (.iload_n 2, 1) := by decide +kernel
theorem dX6_canon_75 : decode cX6_canon 75 = .ok (.iastore, 1) := by decide +kernel
theorem dX6_canon_76 : decode cX6_canon 76 = .ok (.aload_n 0, 1) := by decide +kernel
theorem dX6_canon_77 : decode cX6_canon 77 = .ok (.getfield 7, 3) := by decide +kernel
theorem dX6_canon_80 : decode cX6_canon 80 = .ok (.bipush 48, 2) := by decide +kernel
theorem dX6_canon_82 : decode cX6_canon 82 = .ok (.dup2, 1) := by decide +kernel
theorem dX6_canon_83 : decode cX6_canon 83 = .ok (.iaload, 1) := by decide +kernel
theorem dX6_canon_84 : decode cX6_canon 84 = .ok (.iconst 1, 1) := by decide +kernel
theorem dX6_canon_85 : decode cX6_canon 85 = .ok (.iadd, 1) := by decide +kernel
theorem dX6_canon_86 : decode cX6_canon 86 = .ok (.iastore, 1) := by decide +kernel
theorem dX6_canon_87 : decode cX6_canon 87 = .ok (.aload_n 0, 1) := by decide +kernel
theorem dX6_canon_88 : decode cX6_canon 88 = .ok (.getfield 7, 3) := by decide +kernel
theorem dX6_canon_91 : decode cX6_canon 91 = .ok (.sipush 134, 3) := by decide +kernel
theorem dX6_canon_94 : decode cX6_canon 94 = .ok (.iconst 0, 1) := by decide +kernel
theorem dX6_canon_95 : decode cX6_canon 95 = .ok (.iastore, 1) := by decide +kernel
theorem dX6_canon_96 : decode cX6_canon 96 = .ok (.iload_n 3, 1) := by decide +kernel
theorem dX6_canon_97 : decode cX6_canon 97 = .ok (.ireturn, 1) := by decide +kernel
theorem dX6_type_0 : decode cX6_type 0 = .ok (.iload_n 1, 1) := by decide +kernel
theorem dX6_type_1 : decode cX6_type 1 = .ok (.i2l, 1) := by decide +kernel
theorem dX6_type_2 : decode cX6_type 2 = .ok (.lconst 0, 1) := by decide +kernel
theorem dX6_type_3 : decode cX6_type 3 = .ok (.ldc2_w 106, 3) := by decide +kernel
theorem dX6_type_6 : decode cX6_type 6 = .ok (.invokestatic 86, 3) := by decide +kernel
theorem dX6_type_9 : decode cX6_type 9 = .ok (.ifCond .ne 8, 3) := by decide +kernel
theorem dX6_type_12 : decode cX6_type 12 = .ok (.aload_n 0, 1) := by decide +kernel
theorem dX6_type_13 : decode cX6_type 13 = .ok (.invokevirtual 100, 3) := by decide +kernel
theorem dX6_type_16 : decode cX6_type 16 = .ok (.ireturn, 1) := by decide +kernel
theorem dX6_type_17 : decode cX6_type 17 = .ok (.aload_n 0, 1) := by decide +kernel
theorem dX6_type_18 : decode cX6_type 18 = .ok (.getfield 108, 3) := by decide +kernel
theorem dX6_type_21 : decode cX6_type 21 = .ok (.sipush 150, 3) := by decide +kernel
theorem dX6_type_24 : decode cX6_type 24 = .ok (.if_icmp .ne 11, 3) := by decide +kernel
theorem dX6_type_27 : decode cX6_type 27 = .ok (.aload_n 0, 1) := by decide +kernel
theorem dX6_type_28 : decode cX6_type 28 = .ok (.iconst 2, 1) := by decide +kernel
theorem dX6_type_29 : decode cX6_type 29 = .ok (.bipush (-4), 2) := by decide +kernel
theorem dX6_type_31 : decode cX6_type 31 = .ok (.invokevirtual 52, 3) := by decide +kernel
theorem dX6_type_34 : decode cX6_type 34 = .ok (.ireturn, 1) := by decide +kernel
theorem dX6_type_35 : decode cX6_type 35 = .ok (.aload_n 0, 1) := by decide +kernel
theorem dX6_type_36 : decode cX6_type 36 = .ok (.getfield 26, 3) := by decide +kernel
theorem dX6_type_39 : decode cX6_type 39 = .ok (.aload_n 0, 1) := by decide +kernel
theorem dX6_type_40 : decode cX6_type 40 = .ok (.getfield 108, 3) := by decide +kernel
theorem dX6_type_43 : decode cX6_type 43 = .ok (.iload_n 1, 1) := by decide +kernel
theorem dX6_type_44 : decode cX6_type 44 = .ok (.iastore, 1) := by decide +kernel
theorem dX6_type_45 : decode cX6_type 45 = .ok (.aload_n 0, 1) := by decide +kernel
theorem dX6_type_46 : decode cX6_type 46 = .ok (.dup, 1) := by decide +kernel
theorem dX6_type_47 : decode cX6_type 47 = .ok (.getfield 108, 3) := by decide +kernel
theorem dX6_type_50 : decode cX6_type 50 = .ok (.iconst 1, 1) := by decide +kernel
theorem dX6_type_51 : decode cX6_type 51 = .ok (.iadd, 1) := by decide +kernel
theorem dX6_type_52 : decode cX6_type 52 = .ok (.putfield 108, 3) := by decide +kernel
theorem dX6_type_55 : decode cX6_type 55 = .ok (.aload_n 0, 1) := by decide +kernel
theorem dX6_type_56 : decode cX6_type 56 = .ok (.getfield 108, 3) := by decide +kernel
theorem dX6_type_59 : decode cX6_type 59 = .ok (.ireturn, 1) := by decide +kernel
theorem dX6_clear_0 : decode cX6_clear 0 = .ok (.aload_n 0, 1) := by decide +kernel
theorem dX6_clear_1 : decode cX6_clear 1 = .ok (.getfield 108, 3) := by decide +kernel
theorem dX6_clear_4 : decode cX6_clear 4 = .ok (.istore_n 1, 1) := by decide +kernel
theorem dX6_clear_5 : decode cX6_clear 5 = .ok (.aload_n 0, 1) := by decide +kernel
theorem dX6_clear_6 : decode cX6_clear 6 = .ok (.iconst 0, 1) := by decide +kernel
theorem dX6_clear_7 : decode cX6_clear 7 = .ok (.putfield 108, 3) := by decide +kernel
theorem dX6_clear_10 : decode cX6_clear 10 = .ok (.iload_n 1, 1) := by decide +kernel
theorem dX6_clear_11 : decode cX6_clear 11 = .ok (.ireturn, 1) := by decide +kernel
theorem dX6_isLetter_0 : decode cX6_isLetter 0 = .ok (.aload_n 0, 1) := by decide +kernel
theorem dX6_isLetter_1 : decode cX6_isLetter 1 = .ok (.getfield 112, 3) := by decide +kernel
theorem dX6_isLetter_4 : decode cX6_isLetter 4 = .ok (.aload_n 0, 1) := by decide +kernel
theorem dX6_isLetter_5 : decode cX6_isLetter 5 = .ok (.getfield 108, 3) := by decide +kernel
theorem dX6_isLetter_8 : decode cX6_isLetter 8 = .ok (.if_icmp .ge 29, 3) := by decide +kernel
theorem dX6_isLetter_11 : decode cX6_isLetter 11 = .ok (.aload_n 0, 1) := by decide +kernel
theorem dX6_isLetter_12 : decode cX6_isLetter 12 = .ok (.getfield 26, 3) := by decide +kernel
theorem dX6_isLetter_15 : decode cX6_isLetter 15 = .ok (.aload_n 0, 1) := by decide +kernel
theorem dX6_isLetter_16 : decode cX6_isLetter 16 = .ok (.getfield 112, 3) := by decide +kernel
theorem dX6_isLetter_19 : decode cX6_isLetter 19 = .ok (.iaload, 1) := by decide +kernel
theorem dX6_isLetter_20 : decode cX6_isLetter 20 = .ok (.i2l, 1) := by decide +kernel
theorem dX6_isLetter_21 : decode cX6_isLetter 21 = .ok (.ldc2_w 115, 3) := by decide +kernel
theorem dX6_isLetter_24 : decode cX6_isLetter 24 = .ok (.ldc2_w 117, 3) := by decide +kernel
theorem dX6_isLetter_27 : decode cX6_isLetter 27 = .ok (.invokestatic 86, 3) := by decide +kernel
theorem dX6_isLetter_30 : decode cX6_isLetter 30 = .ok (.ifCond .eq 7, 3) := by decide +kernel
theorem dX6_isLetter_33 : decode cX6_isLetter 33 = .ok (.iconst 1, 1) := by decide +kernel
theorem dX6_isLetter_34 : decode cX6_isLetter 34 = .ok (.goto 4, 3) := by decide +kernel
theorem dX6_isLetter_37 : decode cX6_isLetter 37 = .ok (.iconst 0, 1) := by decide +kernel
theorem dX6_isLetter_38 : decode cX6_isLetter 38 = .ok (.ireturn, 1) := by decide +kernel
theorem dX6_isFigure_0 : decode cX6_isFigure 0 = .ok (.aload_n 0, 1) := by decide +kernel
theorem dX6_isFigure_1 : decode cX6_isFigure 1 = .ok (.getfield 112, 3) := by decide +kernel
theorem dX6_isFigure_4 : decode cX6_isFigure 4 = .ok (.aload_n 0, 1) := by decide +kernel
theorem dX6_isFigure_5 : decode cX6_isFigure 5 = .ok (.getfield 108, 3) := by decide +kernel
theorem dX6_isFigure_8 : decode cX6_isFigure 8 = .ok (.if_icmp .ge 29, 3) := by decide +kernel
theorem dX6_isFigure_11 : decode cX6_isFigure 11 = .ok (.aload_n 0, 1) := by decide +kernel
theorem dX6_isFigure_12 : decode cX6_isFigure 12 = .ok (.getfield 26, 3) := by decide +kernel
theorem dX6_isFigure_15 : decode cX6_isFigure 15 = .ok (.aload_n 0, 1) := by decide +kernel
theorem dX6_isFigure_16 : decode cX6_isFigure 16 = .ok (.getfield 112, 3) := by decide +kernel
theorem dX6_isFigure_19 : decode cX6_isFigure 19 = .ok (.iaload, 1) := by decide +kernel
theorem dX6_isFigure_20 : decode cX6_isFigure 20 = .ok (.i2l, 1) := by decide +kernel
theorem dX6_isFigure_21 : decode cX6_isFigure 21 = .ok (.ldc2_w 119, 3) := by decide +kernel
theorem dX6_isFigure_24 : decode cX6_isFigure 24 = .ok (.ldc2_w 121, 3) := by decide +kernel
theorem dX6_isFigure_27 : decode cX6_isFigure 27 = .ok (.invokestatic 86, 3) := by decide +kernel
theorem dX6_isFigure_30 : decode cX6_isFigure 30 = .ok (.ifCond .eq 7, 3) := by decide +kernel
theorem dX6_isFigure_33 : decode cX6_isFigure 33 = .ok (.iconst 1, 1) := by decide +kernel
theorem dX6_isFigure_34 : decode cX6_isFigure 34 = .ok (.goto 4, 3) := by decide +kernel
theorem dX6_isFigure_37 : decode cX6_isFigure 37 = .ok (.iconst 0, 1) := by decide +kernel
theorem dX6_isFigure_38 : decode cX6_isFigure 38 = .ok (.ireturn, 1) := by decide +kernel
theorem dX6_step_0 : decode cX6_step 0 = .ok (.aload_n 0, 1) := by decide +kernel
theorem dX6_step_1 : decode cX6_step 1 = .ok (.getfield 112, 3) := by decide +kernel
theorem dX6_step_4 : decode cX6_step 4 = .ok (.aload_n 0, 1) := by decide +kernel
theorem dX6_step_5 : decode cX6_step 5 = .ok (.getfield 108, 3) := by decide +kernel
theorem dX6_step_8 : decode cX6_step 8 = .ok (.if_icmp .ge 30, 3) := by decide +kernel
theorem dX6_step_11 : decode cX6_step 11 = .ok (.aload_n 0, 1) := by decide +kernel
theorem dX6_step_12 : decode cX6_step 12 = .ok (.getfield 26, 3) := by decide +kernel
theorem dX6_step_15 : decode cX6_step 15 = .ok (.aload_n 0, 1) := by decide +kernel
theorem dX6_step_16 : decode cX6_step 16 = .ok (.getfield 112, 3) := by decide +kernel
theorem dX6_step_19 : decode cX6_step 19 = .ok (.iaload, 1) := by decide +kernel
theorem dX6_step_20 : decode cX6_step 20 = .ok (.bipush 32, 2) := by decide +kernel
theorem dX6_step_22 : decode cX6_step 22 = .ok (.if_icmp .ne 16, 3) := by decide +kernel
theorem dX6_step_25 : decode cX6_step 25 = .ok (.aload_n 0, 1) := by decide +kernel
theorem dX6_step_26 : decode cX6_step 26 = .ok (.dup, 1) := by decide +kernel
theorem dX6_step_27 : decode cX6_step 27 = .ok (.getfield 112, 3) := by decide +kernel
theorem dX6_step_30 : decode cX6_step 30 = .ok (.iconst 1, 1) := by decide +kernel
theorem dX6_step_31 : decode cX6_step 31 = .ok (.iadd, 1) := by decide +kernel
theorem dX6_step_32 : decode cX6_step 32 = .ok (.putfield 112, 3) := by decide +kernel
theorem dX6_step_35 : decode cX6_step 35 = .ok (.goto (-35), 3) := by decide +kernel
theorem dX6_step_38 : decode cX6_step 38 = .ok (.aload_n 0, 1) := by decide +kernel
theorem dX6_step_39 : decode cX6_step 39 = .ok (.aload_n 0, 1) := by decide +kernel
theorem dX6_step_40 : decode cX6_step 40 = .ok (.getfield 112, 3) := by decide +kernel
theorem dX6_step_43 : decode cX6_step 43 = .ok (.putfield 123, 3) := by decide +kernel
theorem dX6_step_46 : decode cX6_step 46 = .ok (.aload_n 0, 1) := by decide +kernel
theorem dX6_step_47 : decode cX6_step 47 = .ok (.iconst 0, 1) := by decide +kernel
theorem dX6_step_48 : decode cX6_step 48 = .ok (.putfield 126, 3) := by decide +kernel
theorem dX6_step_51 : decode cX6_step 51 = .ok (.aload_n 0, 1) := by decide +kernel
theorem dX6_step_52 : decode cX6_step 52 = .ok (.iconst 0, 1) := by decide +kernel
theorem dX6_step_53 : decode cX6_step 53 = .ok (.putfield 129, 3) := by decide +kernel
theorem dX6_step_56 : decode cX6_step 56 = .ok (.aload_n 0, 1) := by decide +kernel
theorem dX6_step_57 : decode cX6_step 57 = .ok (.getfield 112, 3) := by decide +kernel
theorem dX6_step_60 : decode cX6_step 60 = .ok (.aload_n 0, 1) := by decide +kernel
theorem dX6_step_61 : decode cX6_step 61 = .ok (.getfield 108, 3) := by decide +kernel
theorem dX6_step_64 : decode cX6_step 64 = .ok (.if_icmp .ne 11, 3) := by decide +kernel
theorem dX6_step_67 : decode cX6_step 67 = .ok (.aload_n 0, 1) := by decide +kernel
theorem dX6_step_68 : decode cX6_step 68 = .ok (.iconst 0, 1) := by decide +kernel
theorem dX6_step_69 : decode cX6_step 69 = .ok (.putfield 132, 3) := by decide +kernel
theorem dX6_step_72 : decode cX6_step 72 = .ok (.goto 152, 3) := by decide +kernel
theorem dX6_step_75 : decode cX6_step 75 = .ok (.aload_n 0, 1) := by decide +kernel
theorem dX6_step_76 : decode cX6_step 76 = .ok (.invokevirtual 135, 3) := by decide +kernel
theorem dX6_step_79 : decode cX6_step 79 = .ok (.ifCond .eq 15, 3) := by decide +kernel
theorem dX6_step_82 : decode cX6_step 82 = .ok (.aload_n 0, 1) := by decide +kernel
theorem dX6_step_83 : decode cX6_step 83 = .ok (.iconst 1, 1) := by decide +kernel
theorem dX6_step_84 : decode cX6_step 84 = .ok (.putfield 132, 3) := by decide +kernel
theorem dX6_step_87 : decode cX6_step 87 = .ok (.aload_n 0, 1) := by decide +kernel
theorem dX6_step_88 : decode cX6_step 88 = .ok (.invokevirtual 139, 3) := by decide +kernel
theorem dX6_step_91 : decode cX6_step 91 = .ok (.goto 133, 3) := by decide +kernel
theorem dX6_step_94 : decode cX6_step 94 = .ok (.aload_n 0, 1) := by decide +kernel
theorem dX6_step_95 : decode cX6_step 95 = .ok (.invokevirtual 142, 3) := by decide +kernel
theorem dX6_step_98 : decode cX6_step 98 = .ok (.ifCond .eq 93, 3) := by decide +kernel
theorem dX6_step_101 : decode cX6_step 101 = .ok (.aload_n 0, 1) := by decide +kernel
theorem dX6_step_102 : decode cX6_step 102 = .ok (.iconst 2, 1) := by decide +kernel
theorem dX6_step_103 : decode cX6_step 103 = .ok (.putfield 132, 3) := by decide +kernel
theorem dX6_step_106 : decode cX6_step 106 = .ok (.aload_n 0, 1) := by decide +kernel
theorem dX6_step_107 : decode cX6_step 107 = .ok (.invokevirtual 142, 3) := by decide +kernel
theorem dX6_step_110 : decode cX6_step 110 = .ok (.ifCond .eq 56, 3) := by decide +kernel
theorem dX6_step_113 : decode cX6_step 113 = .ok (.aload_n 0, 1) := by decide +kernel
theorem dX6_step_114 : decode cX6_step 114 = .ok (.aload_n 0, 1) := by decide +kernel
theorem dX6_step_115 : decode cX6_step 115 = .ok (.getfield 129, 3) := by decide +kernel
theorem dX6_step_118 : decode cX6_step 118 = .ok (.bipush 99, 2) := by decide +kernel
theorem dX6_step_120 : decode cX6_step 120 = .ok (.if_icmp .le 10, 3) := by decide +kernel
theorem dX6_step_123 : decode cX6_step 123 = .ok (.aload_n 0, 1) := by decide +kernel
theorem dX6_step_124 : decode cX6_step 124 = .ok (.getfield 129, 3) := by decide +kernel
theorem dX6_step_127 : decode cX6_step 127 = .ok (.goto 23, 3) := by decide +kernel
theorem dX6_step_130 : decode cX6_step 130 = .ok (.bipush 10, 2) := by decide +kernel
theorem dX6_step_132 : decode cX6_step 132 = .ok (.aload_n 0, 1) := by decide +kernel
theorem dX6_step_133 : decode cX6_step 133 = .ok (.getfield 129, 3) := by decide +kernel
theorem dX6_step_136 : decode cX6_step 136 = .ok (.imul, 1) := by decide +kernel
theorem dX6_step_137 : decode cX6_step 137 = .ok (.aload_n 0, 1) := by decide +kernel
theorem dX6_step_138 : decode cX6_step 138 = .ok (.getfield 26, 3) := by decide +kernel
theorem dX6_step_141 : decode cX6_step 141 = .ok (.aload_n 0, 1) := by decide +kernel
theorem dX6_step_142 : decode cX6_step 142 = .ok (.getfield 112, 3) := by decide +kernel
theorem dX6_step_145 : decode cX6_step 145 = .ok (.iaload, 1) := by decide +kernel
theorem dX6_step_146 : decode cX6_step 146 = .ok (.iadd, 1) := by decide +kernel
theorem dX6_step_147 : decode cX6_step 147 = .ok (.bipush 48, 2) := by decide +kernel
theorem dX6_step_149 : decode cX6_step 149 = .ok (.isub, 1) := by decide +kernel
theorem dX6_step_150 : decode cX6_step 150 = .ok (.putfield 129, 3) := by decide +kernel
theorem dX6_step_153 : decode cX6_step 153 = .ok (.aload_n 0, 1) := by decide +kernel
theorem dX6_step_154 : decode cX6_step 154 = .ok (.dup, 1) := by decide +kernel
theorem dX6_step_155 : decode cX6_step 155 = .ok (.getfield 112, 3) := by decide +kernel
theorem dX6_step_158 : decode cX6_step 158 = .ok (.iconst 1, 1) := by decide +kernel
theorem dX6_step_159 : decode cX6_step 159 = .ok (.iadd, 1) := by decide +kernel
theorem dX6_step_160 : decode cX6_step 160 = .ok (.putfield 112, 3) := by decide +kernel
theorem dX6_step_163 : decode cX6_step 163 = .ok (.goto (-57), 3) := by decide +kernel
theorem dX6_step_166 : decode cX6_step 166 = .ok (.aload_n 0, 1) := by decide +kernel
theorem dX6_step_167 : decode cX6_step 167 = .ok (.aload_n 0, 1) := by decide +kernel
theorem dX6_step_168 : decode cX6_step 168 = .ok (.getfield 112, 3) := by decide +kernel
theorem dX6_step_171 : decode cX6_step 171 = .ok (.aload_n 0, 1) := by decide +kernel
theorem dX6_step_172 : decode cX6_step 172 = .ok (.getfield 123, 3) := by decide +kernel
theorem dX6_step_175 : decode cX6_step 175 = .ok (.isub, 1) := by decide +kernel
theorem dX6_step_176 : decode cX6_step 176 = .ok (.iconst 2, 1) := by decide +kernel
theorem dX6_step_177 : decode cX6_step 177 = .ok (.if_icmp .le 7, 3) := by decide +kernel
theorem dX6_step_180 : decode cX6_step 180 = .ok (.iconst 4, 1) := by decide +kernel
theorem dX6_step_181 : decode cX6_step 181 = .ok (.goto 4, 3) := by decide +kernel
theorem dX6_step_184 : decode cX6_step 184 = .ok (.iconst 2, 1) := by decide +kernel
theorem dX6_step_185 : decode cX6_step 185 = .ok (.putfield 132, 3) := by decide +kernel
theorem dX6_step_188 : decode cX6_step 188 = .ok (.goto 36, 3) := by decide +kernel
theorem dX6_step_191 : decode cX6_step 191 = .ok (.aload_n 0, 1) := by decide +kernel
theorem dX6_step_192 : decode cX6_step 192 = .ok (.aload_n 0, 1) := by decide +kernel
theorem dX6_step_193 : decode cX6_step 193 = .ok (.getfield 26, 3) := by decide +kernel
theorem dX6_step_196 : decode cX6_step 196 = .ok (.aload_n 0, 1) := by decide +kernel
