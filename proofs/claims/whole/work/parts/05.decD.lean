/-! the instructions, decoded. Printed by wip/gen/gen04.py -/
theorem jd_D_init_0 : decode jb_D_init 0 = .ok (.aload_n 0, 1) := by decide +kernel
theorem jd_D_init_1 : decode jb_D_init 1 = .ok (.invokespecial 3, 3) := by decide +kernel
theorem jd_D_init_4 : decode jb_D_init 4 = .ok (.aload_n 0, 1) := by decide +kernel
theorem jd_D_init_5 : decode jb_D_init 5 = .ok (.new 9, 3) := by decide +kernel
theorem jd_D_init_8 : decode jb_D_init 8 = .ok (.dup, 1) := by decide +kernel
theorem jd_D_init_9 : decode jb_D_init 9 = .ok (.invokespecial 11, 3) := by decide +kernel
theorem jd_D_init_12 : decode jb_D_init 12 = .ok (.putfield 12, 3) := by decide +kernel
theorem jd_D_init_15 : decode jb_D_init 15 = .ok (.aload_n 0, 1) := by decide +kernel
theorem jd_D_init_16 : decode jb_D_init 16 = .ok (.iconst 4, 1) := by decide +kernel
theorem jd_D_init_17 : decode jb_D_init 17 = .ok (.sipush 128, 3) := by decide +kernel
theorem jd_D_init_20 : decode jb_D_init 20 = .ok (.multianewarray 18 2, 4) := by decide +kernel
theorem jd_D_init_24 : decode jb_D_init 24 = .ok (.putfield 20, 3) := by decide +kernel
theorem jd_D_init_27 : decode jb_D_init 27 = .ok (.aload_n 0, 1) := by decide +kernel
theorem jd_D_init_28 : decode jb_D_init 28 = .ok (.iconst 4, 1) := by decide +kernel
theorem jd_D_init_29 : decode jb_D_init 29 = .ok (.sipush 128, 3) := by decide +kernel
theorem jd_D_init_32 : decode jb_D_init 32 = .ok (.multianewarray 18 2, 4) := by decide +kernel
theorem jd_D_init_36 : decode jb_D_init 36 = .ok (.putfield 23, 3) := by decide +kernel
theorem jd_D_init_39 : decode jb_D_init 39 = .ok (.aload_n 0, 1) := by decide +kernel
theorem jd_D_init_40 : decode jb_D_init 40 = .ok (.sipush 512, 3) := by decide +kernel
theorem jd_D_init_43 : decode jb_D_init 43 = .ok (.newarray .int, 2) := by decide +kernel
theorem jd_D_init_45 : decode jb_D_init 45 = .ok (.putfield 26, 3) := by decide +kernel
theorem jd_D_init_48 : decode jb_D_init 48 = .ok (.aload_n 0, 1) := by decide +kernel
theorem jd_D_init_49 : decode jb_D_init 49 = .ok (.iconst (-1), 1) := by decide +kernel
theorem jd_D_init_50 : decode jb_D_init 50 = .ok (.putfield 30, 3) := by decide +kernel
theorem jd_D_init_53 : decode jb_D_init 53 = .ok (.aload_n 0, 1) := by decide +kernel
theorem jd_D_init_54 : decode jb_D_init 54 = .ok (.aload_n 1, 1) := by decide +kernel
theorem jd_D_init_55 : decode jb_D_init 55 = .ok (.putfield 34, 3) := by decide +kernel
theorem jd_D_init_58 : decode jb_D_init 58 = .ok (.aload_n 0, 1) := by decide +kernel
theorem jd_D_init_59 : decode jb_D_init 59 = .ok (.aload_n 2, 1) := by decide +kernel
theorem jd_D_init_60 : decode jb_D_init 60 = .ok (.putfield 38, 3) := by decide +kernel
theorem jd_D_init_63 : decode jb_D_init 63 = .ok (.return_, 1) := by decide +kernel
theorem jd_D_tell_0 : decode jb_D_tell 0 = .ok (.aload_n 0, 1) := by decide +kernel
theorem jd_D_tell_1 : decode jb_D_tell 1 = .ok (.getfield 12, 3) := by decide +kernel
theorem jd_D_tell_4 : decode jb_D_tell 4 = .ok (.getfield 56, 3) := by decide +kernel
theorem jd_D_tell_7 : decode jb_D_tell 7 = .ok (.iload_n 1, 1) := by decide +kernel
theorem jd_D_tell_8 : decode jb_D_tell 8 = .ok (.iaload, 1) := by decide +kernel
theorem jd_D_tell_9 : decode jb_D_tell 9 = .ok (.istore_n 3, 1) := by decide +kernel
theorem jd_D_tell_10 : decode jb_D_tell 10 = .ok (.aload_n 0, 1) := by decide +kernel
theorem jd_D_tell_11 : decode jb_D_tell 11 = .ok (.getfield 12, 3) := by decide +kernel
theorem jd_D_tell_14 : decode jb_D_tell 14 = .ok (.getfield 59, 3) := by decide +kernel
theorem jd_D_tell_17 : decode jb_D_tell 17 = .ok (.iload_n 1, 1) := by decide +kernel
theorem jd_D_tell_18 : decode jb_D_tell 18 = .ok (.iaload, 1) := by decide +kernel
theorem jd_D_tell_19 : decode jb_D_tell 19 = .ok (.ifCond .ne 7, 3) := by decide +kernel
theorem jd_D_tell_22 : decode jb_D_tell 22 = .ok (.iconst 1, 1) := by decide +kernel
theorem jd_D_tell_23 : decode jb_D_tell 23 = .ok (.goto 4, 3) := by decide +kernel
theorem jd_D_tell_26 : decode jb_D_tell 26 = .ok (.iconst 0, 1) := by decide +kernel
theorem jd_D_tell_27 : decode jb_D_tell 27 = .ok (.istore 4, 2) := by decide +kernel
theorem jd_D_tell_29 : decode jb_D_tell 29 = .ok (.iload_n 2, 1) := by decide +kernel
theorem jd_D_tell_30 : decode jb_D_tell 30 = .ok (.tableswitch 99 0 4 #[34, 44, 46, 69, 84], 34) := by decide +kernel
theorem jd_D_tell_64 : decode jb_D_tell 64 = .ok (.aload_n 0, 1) := by decide +kernel
theorem jd_D_tell_65 : decode jb_D_tell 65 = .ok (.getfield 12, 3) := by decide +kernel
theorem jd_D_tell_68 : decode jb_D_tell 68 = .ok (.getfield 59, 3) := by decide +kernel
theorem jd_D_tell_71 : decode jb_D_tell 71 = .ok (.iload_n 1, 1) := by decide +kernel
theorem jd_D_tell_72 : decode jb_D_tell 72 = .ok (.iaload, 1) := by decide +kernel
theorem jd_D_tell_73 : decode jb_D_tell 73 = .ok (.ireturn, 1) := by decide +kernel
theorem jd_D_tell_74 : decode jb_D_tell 74 = .ok (.iload_n 3, 1) := by decide +kernel
theorem jd_D_tell_75 : decode jb_D_tell 75 = .ok (.ireturn, 1) := by decide +kernel
theorem jd_D_tell_76 : decode jb_D_tell 76 = .ok (.iload 4, 2) := by decide +kernel
theorem jd_D_tell_78 : decode jb_D_tell 78 = .ok (.ifCond .eq 11, 3) := by decide +kernel
theorem jd_D_tell_81 : decode jb_D_tell 81 = .ok (.aload_n 0, 1) := by decide +kernel
theorem jd_D_tell_82 : decode jb_D_tell 82 = .ok (.iload_n 3, 1) := by decide +kernel
theorem jd_D_tell_83 : decode jb_D_tell 83 = .ok (.invokevirtual 62, 3) := by decide +kernel
theorem jd_D_tell_86 : decode jb_D_tell 86 = .ok (.goto 12, 3) := by decide +kernel
theorem jd_D_tell_89 : decode jb_D_tell 89 = .ok (.aload_n 0, 1) := by decide +kernel
theorem jd_D_tell_90 : decode jb_D_tell 90 = .ok (.getfield 12, 3) := by decide +kernel
theorem jd_D_tell_93 : decode jb_D_tell 93 = .ok (.getfield 66, 3) := by decide +kernel
theorem jd_D_tell_96 : decode jb_D_tell 96 = .ok (.iload_n 1, 1) := by decide +kernel
theorem jd_D_tell_97 : decode jb_D_tell 97 = .ok (.iaload, 1) := by decide +kernel
theorem jd_D_tell_98 : decode jb_D_tell 98 = .ok (.ireturn, 1) := by decide +kernel
theorem jd_D_tell_99 : decode jb_D_tell 99 = .ok (.iload 4, 2) := by decide +kernel
theorem jd_D_tell_101 : decode jb_D_tell 101 = .ok (.ifCond .eq 11, 3) := by decide +kernel
theorem jd_D_tell_104 : decode jb_D_tell 104 = .ok (.aload_n 0, 1) := by decide +kernel
theorem jd_D_tell_105 : decode jb_D_tell 105 = .ok (.iload_n 3, 1) := by decide +kernel
theorem jd_D_tell_106 : decode jb_D_tell 106 = .ok (.invokevirtual 69, 3) := by decide +kernel
theorem jd_D_tell_109 : decode jb_D_tell 109 = .ok (.goto 4, 3) := by decide +kernel
theorem jd_D_tell_112 : decode jb_D_tell 112 = .ok (.iconst (-1), 1) := by decide +kernel
theorem jd_D_tell_113 : decode jb_D_tell 113 = .ok (.ireturn, 1) := by decide +kernel
theorem jd_D_tell_114 : decode jb_D_tell 114 = .ok (.iload 4, 2) := by decide +kernel
theorem jd_D_tell_116 : decode jb_D_tell 116 = .ok (.ifCond .eq 11, 3) := by decide +kernel
theorem jd_D_tell_119 : decode jb_D_tell 119 = .ok (.aload_n 0, 1) := by decide +kernel
theorem jd_D_tell_120 : decode jb_D_tell 120 = .ok (.iload_n 3, 1) := by decide +kernel
theorem jd_D_tell_121 : decode jb_D_tell 121 = .ok (.invokevirtual 72, 3) := by decide +kernel
theorem jd_D_tell_124 : decode jb_D_tell 124 = .ok (.goto 4, 3) := by decide +kernel
theorem jd_D_tell_127 : decode jb_D_tell 127 = .ok (.iconst (-1), 1) := by decide +kernel
theorem jd_D_tell_128 : decode jb_D_tell 128 = .ok (.ireturn, 1) := by decide +kernel
theorem jd_D_tell_129 : decode jb_D_tell 129 = .ok (.iconst (-1), 1) := by decide +kernel
theorem jd_D_tell_130 : decode jb_D_tell 130 = .ok (.ireturn, 1) := by decide +kernel
theorem jd_D_passOf_0 : decode jb_D_passOf 0 = .ok (.aload_n 0, 1) := by decide +kernel
theorem jd_D_passOf_1 : decode jb_D_passOf 1 = .ok (.getfield 26, 3) := by decide +kernel
theorem jd_D_passOf_4 : decode jb_D_passOf 4 = .ok (.iload_n 1, 1) := by decide +kernel
theorem jd_D_passOf_5 : decode jb_D_passOf 5 = .ok (.iconst 1, 1) := by decide +kernel
theorem jd_D_passOf_6 : decode jb_D_passOf 6 = .ok (.isub, 1) := by decide +kernel
theorem jd_D_passOf_7 : decode jb_D_passOf 7 = .ok (.iaload, 1) := by decide +kernel
theorem jd_D_passOf_8 : decode jb_D_passOf 8 = .ok (.bipush 16, 2) := by decide +kernel
theorem jd_D_passOf_10 : decode jb_D_passOf 10 = .ok (.ishr, 1) := by decide +kernel
theorem jd_D_passOf_11 : decode jb_D_passOf 11 = .ok (.ireturn, 1) := by decide +kernel
theorem jd_D_fromOf_0 : decode jb_D_fromOf 0 = .ok (.aload_n 0, 1) := by decide +kernel
theorem jd_D_fromOf_1 : decode jb_D_fromOf 1 = .ok (.getfield 26, 3) := by decide +kernel
theorem jd_D_fromOf_4 : decode jb_D_fromOf 4 = .ok (.iload_n 1, 1) := by decide +kernel
theorem jd_D_fromOf_5 : decode jb_D_fromOf 5 = .ok (.iconst 1, 1) := by decide +kernel
theorem jd_D_fromOf_6 : decode jb_D_fromOf 6 = .ok (.isub, 1) := by decide +kernel
theorem jd_D_fromOf_7 : decode jb_D_fromOf 7 = .ok (.iaload, 1) := by decide +kernel
theorem jd_D_fromOf_8 : decode jb_D_fromOf 8 = .ok (.bipush 8, 2) := by decide +kernel
theorem jd_D_fromOf_10 : decode jb_D_fromOf 10 = .ok (.ishr, 1) := by decide +kernel
theorem jd_D_fromOf_11 : decode jb_D_fromOf 11 = .ok (.sipush 255, 3) := by decide +kernel
theorem jd_D_fromOf_14 : decode jb_D_fromOf 14 = .ok (.iand, 1) := by decide +kernel
theorem jd_D_fromOf_15 : decode jb_D_fromOf 15 = .ok (.ireturn, 1) := by decide +kernel
theorem jd_D_toOf_0 : decode jb_D_toOf 0 = .ok (.aload_n 0, 1) := by decide +kernel
theorem jd_D_toOf_1 : decode jb_D_toOf 1 = .ok (.getfield 26, 3) := by decide +kernel
theorem jd_D_toOf_4 : decode jb_D_toOf 4 = .ok (.iload_n 1, 1) := by decide +kernel
theorem jd_D_toOf_5 : decode jb_D_toOf 5 = .ok (.iconst 1, 1) := by decide +kernel
theorem jd_D_toOf_6 : decode jb_D_toOf 6 = .ok (.isub, 1) := by decide +kernel
theorem jd_D_toOf_7 : decode jb_D_toOf 7 = .ok (.iaload, 1) := by decide +kernel
theorem jd_D_toOf_8 : decode jb_D_toOf 8 = .ok (.sipush 255, 3) := by decide +kernel
theorem jd_D_toOf_11 : decode jb_D_toOf 11 = .ok (.iand, 1) := by decide +kernel
theorem jd_D_toOf_12 : decode jb_D_toOf 12 = .ok (.ireturn, 1) := by decide +kernel
theorem jd_D_isOver_0 : decode jb_D_isOver 0 = .ok (.aload_n 0, 1) := by decide +kernel
theorem jd_D_isOver_1 : decode jb_D_isOver 1 = .ok (.getfield 30, 3) := by decide +kernel
theorem jd_D_isOver_4 : decode jb_D_isOver 4 = .ok (.iconst 4, 1) := by decide +kernel
theorem jd_D_isOver_5 : decode jb_D_isOver 5 = .ok (.if_icmp .ne 7, 3) := by decide +kernel
theorem jd_D_isOver_8 : decode jb_D_isOver 8 = .ok (.iconst 1, 1) := by decide +kernel
theorem jd_D_isOver_9 : decode jb_D_isOver 9 = .ok (.goto 4, 3) := by decide +kernel
theorem jd_D_isOver_12 : decode jb_D_isOver 12 = .ok (.iconst 0, 1) := by decide +kernel
theorem jd_D_isOver_13 : decode jb_D_isOver 13 = .ok (.ireturn, 1) := by decide +kernel
theorem jd_D_isBegun_0 : decode jb_D_isBegun 0 = .ok (.aload_n 0, 1) := by decide +kernel
theorem jd_D_isBegun_1 : decode jb_D_isBegun 1 = .ok (.getfield 30, 3) := by decide +kernel
theorem jd_D_isBegun_4 : decode jb_D_isBegun 4 = .ok (.iconst (-1), 1) := by decide +kernel
theorem jd_D_isBegun_5 : decode jb_D_isBegun 5 = .ok (.if_icmp .eq 7, 3) := by decide +kernel
theorem jd_D_isBegun_8 : decode jb_D_isBegun 8 = .ok (.iconst 1, 1) := by decide +kernel
theorem jd_D_isBegun_9 : decode jb_D_isBegun 9 = .ok (.goto 4, 3) := by decide +kernel
theorem jd_D_isBegun_12 : decode jb_D_isBegun 12 = .ok (.iconst 0, 1) := by decide +kernel
theorem jd_D_isBegun_13 : decode jb_D_isBegun 13 = .ok (.ireturn, 1) := by decide +kernel
theorem jd_D_begin_0 : decode jb_D_begin 0 = .ok (.aload_n 0, 1) := by decide +kernel
theorem jd_D_begin_1 : decode jb_D_begin 1 = .ok (.iload_n 1, 1) := by decide +kernel
theorem jd_D_begin_2 : decode jb_D_begin 2 = .ok (.putfield 41, 3) := by decide +kernel
theorem jd_D_begin_5 : decode jb_D_begin 5 = .ok (.aload_n 0, 1) := by decide +kernel
theorem jd_D_begin_6 : decode jb_D_begin 6 = .ok (.iload_n 2, 1) := by decide +kernel
theorem jd_D_begin_7 : decode jb_D_begin 7 = .ok (.putfield 44, 3) := by decide +kernel
theorem jd_D_begin_10 : decode jb_D_begin 10 = .ok (.iconst 0, 1) := by decide +kernel
theorem jd_D_begin_11 : decode jb_D_begin 11 = .ok (.istore_n 3, 1) := by decide +kernel
theorem jd_D_begin_12 : decode jb_D_begin 12 = .ok (.iload_n 3, 1) := by decide +kernel
theorem jd_D_begin_13 : decode jb_D_begin 13 = .ok (.iconst 4, 1) := by decide +kernel
theorem jd_D_begin_14 : decode jb_D_begin 14 = .ok (.if_icmp .ge 19, 3) := by decide +kernel
theorem jd_D_begin_17 : decode jb_D_begin 17 = .ok (.aload_n 0, 1) := by decide +kernel
theorem jd_D_begin_18 : decode jb_D_begin 18 = .ok (.getfield 23, 3) := by decide +kernel
theorem jd_D_begin_21 : decode jb_D_begin 21 = .ok (.iload_n 3, 1) := by decide +kernel
theorem jd_D_begin_22 : decode jb_D_begin 22 = .ok (.aaload, 1) := by decide +kernel
theorem jd_D_begin_23 : decode jb_D_begin 23 = .ok (.iconst (-1), 1) := by decide +kernel
theorem jd_D_begin_24 : decode jb_D_begin 24 = .ok (.invokestatic 47, 3) := by decide +kernel
theorem jd_D_begin_27 : decode jb_D_begin 27 = .ok (.iinc 3 1, 3) := by decide +kernel
theorem jd_D_begin_30 : decode jb_D_begin 30 = .ok (.goto (-18), 3) := by decide +kernel
theorem jd_D_begin_33 : decode jb_D_begin 33 = .ok (.aload_n 0, 1) := by decide +kernel
theorem jd_D_begin_34 : decode jb_D_begin 34 = .ok (.iconst 0, 1) := by decide +kernel
theorem jd_D_begin_35 : decode jb_D_begin 35 = .ok (.putfield 30, 3) := by decide +kernel
theorem jd_D_begin_38 : decode jb_D_begin 38 = .ok (.aload_n 0, 1) := by decide +kernel
theorem jd_D_begin_39 : decode jb_D_begin 39 = .ok (.invokevirtual 53, 3) := by decide +kernel
theorem jd_D_begin_42 : decode jb_D_begin 42 = .ok (.return_, 1) := by decide +kernel
theorem jd_D_goOn_0 : decode jb_D_goOn 0 = .ok (.iconst 0, 1) := by decide +kernel
theorem jd_D_goOn_1 : decode jb_D_goOn 1 = .ok (.istore_n 1, 1) := by decide +kernel
theorem jd_D_goOn_2 : decode jb_D_goOn 2 = .ok (.iconst 0, 1) := by decide +kernel
theorem jd_D_goOn_3 : decode jb_D_goOn 3 = .ok (.istore_n 2, 1) := by decide +kernel
theorem jd_D_goOn_4 : decode jb_D_goOn 4 = .ok (.iload_n 2, 1) := by decide +kernel
theorem jd_D_goOn_5 : decode jb_D_goOn 5 = .ok (.sipush 256, 3) := by decide +kernel
theorem jd_D_goOn_8 : decode jb_D_goOn 8 = .ok (.if_icmp .ge 40, 3) := by decide +kernel
theorem jd_D_goOn_11 : decode jb_D_goOn 11 = .ok (.iload_n 1, 1) := by decide +kernel
theorem jd_D_goOn_12 : decode jb_D_goOn 12 = .ok (.ifCond .ne 36, 3) := by decide +kernel
theorem jd_D_goOn_15 : decode jb_D_goOn 15 = .ok (.aload_n 0, 1) := by decide +kernel
theorem jd_D_goOn_16 : decode jb_D_goOn 16 = .ok (.invokevirtual 111, 3) := by decide +kernel
theorem jd_D_goOn_19 : decode jb_D_goOn 19 = .ok (.ifCond .ne 29, 3) := by decide +kernel
theorem jd_D_goOn_22 : decode jb_D_goOn 22 = .ok (.aload_n 0, 1) := by decide +kernel
theorem jd_D_goOn_23 : decode jb_D_goOn 23 = .ok (.invokevirtual 114, 3) := by decide +kernel
theorem jd_D_goOn_26 : decode jb_D_goOn 26 = .ok (.ifCond .ne 10, 3) := by decide +kernel
theorem jd_D_goOn_29 : decode jb_D_goOn 29 = .ok (.aload_n 0, 1) := by decide +kernel
theorem jd_D_goOn_30 : decode jb_D_goOn 30 = .ok (.invokevirtual 117, 3) := by decide +kernel
theorem jd_D_goOn_33 : decode jb_D_goOn 33 = .ok (.ifCond .eq 7, 3) := by decide +kernel
theorem jd_D_goOn_36 : decode jb_D_goOn 36 = .ok (.iconst 1, 1) := by decide +kernel
theorem jd_D_goOn_37 : decode jb_D_goOn 37 = .ok (.goto 4, 3) := by decide +kernel
theorem jd_D_goOn_40 : decode jb_D_goOn 40 = .ok (.iconst 0, 1) := by decide +kernel
theorem jd_D_goOn_41 : decode jb_D_goOn 41 = .ok (.istore_n 1, 1) := by decide +kernel
theorem jd_D_goOn_42 : decode jb_D_goOn 42 = .ok (.iinc 2 1, 3) := by decide +kernel
theorem jd_D_goOn_45 : decode jb_D_goOn 45 = .ok (.goto (-41), 3) := by decide +kernel
theorem jd_D_goOn_48 : decode jb_D_goOn 48 = .ok (.return_, 1) := by decide +kernel
theorem jd_D_askForBlock_0 : decode jb_D_askForBlock 0 = .ok (.aload_n 0, 1) := by decide +kernel
theorem jd_D_askForBlock_1 : decode jb_D_askForBlock 1 = .ok (.aload_n 0, 1) := by decide +kernel
theorem jd_D_askForBlock_2 : decode jb_D_askForBlock 2 = .ok (.getfield 30, 3) := by decide +kernel
theorem jd_D_askForBlock_5 : decode jb_D_askForBlock 5 = .ok (.invokevirtual 120, 3) := by decide +kernel
theorem jd_D_askForBlock_8 : decode jb_D_askForBlock 8 = .ok (.istore_n 1, 1) := by decide +kernel
theorem jd_D_askForBlock_9 : decode jb_D_askForBlock 9 = .ok (.iconst 0, 1) := by decide +kernel
theorem jd_D_askForBlock_10 : decode jb_D_askForBlock 10 = .ok (.istore_n 2, 1) := by decide +kernel
theorem jd_D_askForBlock_11 : decode jb_D_askForBlock 11 = .ok (.iload_n 2, 1) := by decide +kernel
theorem jd_D_askForBlock_12 : decode jb_D_askForBlock 12 = .ok (.iload_n 1, 1) := by decide +kernel
theorem jd_D_askForBlock_13 : decode jb_D_askForBlock 13 = .ok (.if_icmp .ge 56, 3) := by decide +kernel
theorem jd_D_askForBlock_16 : decode jb_D_askForBlock 16 = .ok (.iload_n 2, 1) := by decide +kernel
theorem jd_D_askForBlock_17 : decode jb_D_askForBlock 17 = .ok (.aload_n 0, 1) := by decide +kernel
theorem jd_D_askForBlock_18 : decode jb_D_askForBlock 18 = .ok (.aload_n 0, 1) := by decide +kernel
theorem jd_D_askForBlock_19 : decode jb_D_askForBlock 19 = .ok (.getfield 30, 3) := by decide +kernel
theorem jd_D_askForBlock_22 : decode jb_D_askForBlock 22 = .ok (.invokevirtual 123, 3) := by decide +kernel
theorem jd_D_askForBlock_25 : decode jb_D_askForBlock 25 = .ok (.imul, 1) := by decide +kernel
theorem jd_D_askForBlock_26 : decode jb_D_askForBlock 26 = .ok (.istore_n 3, 1) := by decide +kernel
theorem jd_D_askForBlock_27 : decode jb_D_askForBlock 27 = .ok (.aload_n 0, 1) := by decide +kernel
theorem jd_D_askForBlock_28 : decode jb_D_askForBlock 28 = .ok (.getfield 23, 3) := by decide +kernel
theorem jd_D_askForBlock_31 : decode jb_D_askForBlock 31 = .ok (.aload_n 0, 1) := by decide +kernel
theorem jd_D_askForBlock_32 : decode jb_D_askForBlock 32 = .ok (.getfield 30, 3) := by decide +kernel
theorem jd_D_askForBlock_35 : decode jb_D_askForBlock 35 = .ok (.aaload, 1) := by decide +kernel
theorem jd_D_askForBlock_36 : decode jb_D_askForBlock 36 = .ok (.iload_n 3, 1) := by decide +kernel
theorem jd_D_askForBlock_37 : decode jb_D_askForBlock 37 = .ok (.iaload, 1) := by decide +kernel
theorem jd_D_askForBlock_38 : decode jb_D_askForBlock 38 = .ok (.iconst (-1), 1) := by decide +kernel
theorem jd_D_askForBlock_39 : decode jb_D_askForBlock 39 = .ok (.if_icmp .ne 24, 3) := by decide +kernel
theorem jd_D_askForBlock_42 : decode jb_D_askForBlock 42 = .ok (.aload_n 0, 1) := by decide +kernel
theorem jd_D_askForBlock_43 : decode jb_D_askForBlock 43 = .ok (.aload_n 0, 1) := by decide +kernel
theorem jd_D_askForBlock_44 : decode jb_D_askForBlock 44 = .ok (.getfield 30, 3) := by decide +kernel
theorem jd_D_askForBlock_47 : decode jb_D_askForBlock 47 = .ok (.iload_n 3, 1) := by decide +kernel
theorem jd_D_askForBlock_48 : decode jb_D_askForBlock 48 = .ok (.aload_n 0, 1) := by decide +kernel
theorem jd_D_askForBlock_49 : decode jb_D_askForBlock 49 = .ok (.aload_n 0, 1) := by decide +kernel
theorem jd_D_askForBlock_50 : decode jb_D_askForBlock 50 = .ok (.getfield 30, 3) := by decide +kernel
theorem jd_D_askForBlock_53 : decode jb_D_askForBlock 53 = .ok (.iload_n 3, 1) := by decide +kernel
theorem jd_D_askForBlock_54 : decode jb_D_askForBlock 54 = .ok (.invokevirtual 126, 3) := by decide +kernel
theorem jd_D_askForBlock_57 : decode jb_D_askForBlock 57 = .ok (.iload_n 3, 1) := by decide +kernel
theorem jd_D_askForBlock_58 : decode jb_D_askForBlock 58 = .ok (.invokevirtual 129, 3) := by decide +kernel
theorem jd_D_askForBlock_61 : decode jb_D_askForBlock 61 = .ok (.iconst 1, 1) := by decide +kernel
theorem jd_D_askForBlock_62 : decode jb_D_askForBlock 62 = .ok (.ireturn, 1) := by decide +kernel
theorem jd_D_askForBlock_63 : decode jb_D_askForBlock 63 = .ok (.iinc 2 1, 3) := by decide +kernel
theorem jd_D_askForBlock_66 : decode jb_D_askForBlock 66 = .ok (.goto (-55), 3) := by decide +kernel
theorem jd_D_askForBlock_69 : decode jb_D_askForBlock 69 = .ok (.iconst 0, 1) := by decide +kernel
theorem jd_D_askForBlock_70 : decode jb_D_askForBlock 70 = .ok (.ireturn, 1) := by decide +kernel
theorem jd_D_blockCount_0 : decode jb_D_blockCount 0 = .ok (.aload_n 0, 1) := by decide +kernel
theorem jd_D_blockCount_1 : decode jb_D_blockCount 1 = .ok (.getfield 41, 3) := by decide +kernel
theorem jd_D_blockCount_4 : decode jb_D_blockCount 4 = .ok (.iconst 4, 1) := by decide +kernel
theorem jd_D_blockCount_5 : decode jb_D_blockCount 5 = .ok (.if_icmp .ge 7, 3) := by decide +kernel
theorem jd_D_blockCount_8 : decode jb_D_blockCount 8 = .ok (.iconst 0, 1) := by decide +kernel
theorem jd_D_blockCount_9 : decode jb_D_blockCount 9 = .ok (.goto 17, 3) := by decide +kernel
theorem jd_D_blockCount_12 : decode jb_D_blockCount 12 = .ok (.aload_n 0, 1) := by decide +kernel
theorem jd_D_blockCount_13 : decode jb_D_blockCount 13 = .ok (.getfield 44, 3) := by decide +kernel
theorem jd_D_blockCount_16 : decode jb_D_blockCount 16 = .ok (.iconst 1, 1) := by decide +kernel
theorem jd_D_blockCount_17 : decode jb_D_blockCount 17 = .ok (.isub, 1) := by decide +kernel
theorem jd_D_blockCount_18 : decode jb_D_blockCount 18 = .ok (.aload_n 0, 1) := by decide +kernel
theorem jd_D_blockCount_19 : decode jb_D_blockCount 19 = .ok (.iload_n 1, 1) := by decide +kernel
theorem jd_D_blockCount_20 : decode jb_D_blockCount 20 = .ok (.invokevirtual 123, 3) := by decide +kernel
theorem jd_D_blockCount_23 : decode jb_D_blockCount 23 = .ok (.idiv, 1) := by decide +kernel
theorem jd_D_blockCount_24 : decode jb_D_blockCount 24 = .ok (.iconst 1, 1) := by decide +kernel
theorem jd_D_blockCount_25 : decode jb_D_blockCount 25 = .ok (.iadd, 1) := by decide +kernel
theorem jd_D_blockCount_26 : decode jb_D_blockCount 26 = .ok (.ireturn, 1) := by decide +kernel
theorem jd_D_blockSize_0 : decode jb_D_blockSize 0 = .ok (.aload_n 0, 1) := by decide +kernel
theorem jd_D_blockSize_1 : decode jb_D_blockSize 1 = .ok (.getfield 41, 3) := by decide +kernel
theorem jd_D_blockSize_4 : decode jb_D_blockSize 4 = .ok (.iload_n 1, 1) := by decide +kernel
theorem jd_D_blockSize_5 : decode jb_D_blockSize 5 = .ok (.ishl, 1) := by decide +kernel
theorem jd_D_blockSize_6 : decode jb_D_blockSize 6 = .ok (.ireturn, 1) := by decide +kernel
theorem jd_D_blockEnd_0 : decode jb_D_blockEnd 0 = .ok (.iload_n 2, 1) := by decide +kernel
theorem jd_D_blockEnd_1 : decode jb_D_blockEnd 1 = .ok (.aload_n 0, 1) := by decide +kernel
theorem jd_D_blockEnd_2 : decode jb_D_blockEnd 2 = .ok (.iload_n 1, 1) := by decide +kernel
theorem jd_D_blockEnd_3 : decode jb_D_blockEnd 3 = .ok (.invokevirtual 123, 3) := by decide +kernel
theorem jd_D_blockEnd_6 : decode jb_D_blockEnd 6 = .ok (.iadd, 1) := by decide +kernel
theorem jd_D_blockEnd_7 : decode jb_D_blockEnd 7 = .ok (.aload_n 0, 1) := by decide +kernel
theorem jd_D_blockEnd_8 : decode jb_D_blockEnd 8 = .ok (.getfield 44, 3) := by decide +kernel
theorem jd_D_blockEnd_11 : decode jb_D_blockEnd 11 = .ok (.invokestatic 148, 3) := by decide +kernel
theorem jd_D_blockEnd_14 : decode jb_D_blockEnd 14 = .ok (.ireturn, 1) := by decide +kernel
theorem jd_D_ask_0 : decode jb_D_ask 0 = .ok (.aload_n 0, 1) := by decide +kernel
theorem jd_D_ask_1 : decode jb_D_ask 1 = .ok (.getfield 82, 3) := by decide +kernel
theorem jd_D_ask_4 : decode jb_D_ask 4 = .ok (.sipush 512, 3) := by decide +kernel
theorem jd_D_ask_7 : decode jb_D_ask 7 = .ok (.if_icmp .ne 4, 3) := by decide +kernel
theorem jd_D_ask_10 : decode jb_D_ask 10 = .ok (.return_, 1) := by decide +kernel
theorem jd_D_ask_11 : decode jb_D_ask 11 = .ok (.aload_n 0, 1) := by decide +kernel
theorem jd_D_ask_12 : decode jb_D_ask 12 = .ok (.getfield 26, 3) := by decide +kernel
theorem jd_D_ask_15 : decode jb_D_ask 15 = .ok (.aload_n 0, 1) := by decide +kernel
theorem jd_D_ask_16 : decode jb_D_ask 16 = .ok (.getfield 82, 3) := by decide +kernel
theorem jd_D_ask_19 : decode jb_D_ask 19 = .ok (.iload_n 1, 1) := by decide +kernel
theorem jd_D_ask_20 : decode jb_D_ask 20 = .ok (.bipush 16, 2) := by decide +kernel
theorem jd_D_ask_22 : decode jb_D_ask 22 = .ok (.ishl, 1) := by decide +kernel
theorem jd_D_ask_23 : decode jb_D_ask 23 = .ok (.iload_n 2, 1) := by decide +kernel
theorem jd_D_ask_24 : decode jb_D_ask 24 = .ok (.bipush 8, 2) := by decide +kernel
theorem jd_D_ask_26 : decode jb_D_ask 26 = .ok (.ishl, 1) := by decide +kernel
theorem jd_D_ask_27 : decode jb_D_ask 27 = .ok (.ior, 1) := by decide +kernel
theorem jd_D_ask_28 : decode jb_D_ask 28 = .ok (.iload_n 3, 1) := by decide +kernel
theorem jd_D_ask_29 : decode jb_D_ask 29 = .ok (.ior, 1) := by decide +kernel
theorem jd_D_ask_30 : decode jb_D_ask 30 = .ok (.iastore, 1) := by decide +kernel
theorem jd_D_ask_31 : decode jb_D_ask 31 = .ok (.aload_n 0, 1) := by decide +kernel
theorem jd_D_ask_32 : decode jb_D_ask 32 = .ok (.dup, 1) := by decide +kernel
theorem jd_D_ask_33 : decode jb_D_ask 33 = .ok (.getfield 82, 3) := by decide +kernel
theorem jd_D_ask_36 : decode jb_D_ask 36 = .ok (.iconst 1, 1) := by decide +kernel
theorem jd_D_ask_37 : decode jb_D_ask 37 = .ok (.iadd, 1) := by decide +kernel
theorem jd_D_ask_38 : decode jb_D_ask 38 = .ok (.putfield 82, 3) := by decide +kernel
theorem jd_D_ask_41 : decode jb_D_ask 41 = .ok (.aload_n 0, 1) := by decide +kernel
theorem jd_D_ask_42 : decode jb_D_ask 42 = .ok (.iload 4, 2) := by decide +kernel
theorem jd_D_ask_44 : decode jb_D_ask 44 = .ok (.putfield 89, 3) := by decide +kernel
theorem jd_D_ask_47 : decode jb_D_ask 47 = .ok (.aload_n 0, 1) := by decide +kernel
theorem jd_D_ask_48 : decode jb_D_ask 48 = .ok (.getfield 12, 3) := by decide +kernel
theorem jd_D_ask_51 : decode jb_D_ask 51 = .ok (.iconst 0, 1) := by decide +kernel
theorem jd_D_ask_52 : decode jb_D_ask 52 = .ok (.aload_n 0, 1) := by decide +kernel
theorem jd_D_ask_53 : decode jb_D_ask 53 = .ok (.getfield 82, 3) := by decide +kernel
theorem jd_D_ask_56 : decode jb_D_ask 56 = .ok (.iconst 0, 1) := by decide +kernel
theorem jd_D_ask_57 : decode jb_D_ask 57 = .ok (.invokevirtual 107, 3) := by decide +kernel
theorem jd_D_ask_60 : decode jb_D_ask 60 = .ok (.return_, 1) := by decide +kernel
theorem jd_D_mendOrMoveOn_0 : decode jb_D_mendOrMoveOn 0 = .ok (.aload_n 0, 1) := by decide +kernel
theorem jd_D_mendOrMoveOn_1 : decode jb_D_mendOrMoveOn 1 = .ok (.invokevirtual 133, 3) := by decide +kernel
theorem jd_D_mendOrMoveOn_4 : decode jb_D_mendOrMoveOn 4 = .ok (.istore_n 1, 1) := by decide +kernel
theorem jd_D_mendOrMoveOn_5 : decode jb_D_mendOrMoveOn 5 = .ok (.iload_n 1, 1) := by decide +kernel
theorem jd_D_mendOrMoveOn_6 : decode jb_D_mendOrMoveOn 6 = .ok (.iconst (-1), 1) := by decide +kernel
theorem jd_D_mendOrMoveOn_7 : decode jb_D_mendOrMoveOn 7 = .ok (.if_icmp .ne 15, 3) := by decide +kernel
theorem jd_D_mendOrMoveOn_10 : decode jb_D_mendOrMoveOn 10 = .ok (.aload_n 0, 1) := by decide +kernel
theorem jd_D_mendOrMoveOn_11 : decode jb_D_mendOrMoveOn 11 = .ok (.dup, 1) := by decide +kernel
theorem jd_D_mendOrMoveOn_12 : decode jb_D_mendOrMoveOn 12 = .ok (.getfield 30, 3) := by decide +kernel
theorem jd_D_mendOrMoveOn_15 : decode jb_D_mendOrMoveOn 15 = .ok (.iconst 1, 1) := by decide +kernel
theorem jd_D_mendOrMoveOn_16 : decode jb_D_mendOrMoveOn 16 = .ok (.iadd, 1) := by decide +kernel
theorem jd_D_mendOrMoveOn_17 : decode jb_D_mendOrMoveOn 17 = .ok (.putfield 30, 3) := by decide +kernel
theorem jd_D_mendOrMoveOn_20 : decode jb_D_mendOrMoveOn 20 = .ok (.iconst 0, 1) := by decide +kernel
theorem jd_D_mendOrMoveOn_21 : decode jb_D_mendOrMoveOn 21 = .ok (.ireturn, 1) := by decide +kernel
theorem jd_D_mendOrMoveOn_22 : decode jb_D_mendOrMoveOn 22 = .ok (.aload_n 0, 1) := by decide +kernel
theorem jd_D_mendOrMoveOn_23 : decode jb_D_mendOrMoveOn 23 = .ok (.iload_n 1, 1) := by decide +kernel
theorem jd_D_mendOrMoveOn_24 : decode jb_D_mendOrMoveOn 24 = .ok (.sipush 128, 3) := by decide +kernel
theorem jd_D_mendOrMoveOn_27 : decode jb_D_mendOrMoveOn 27 = .ok (.idiv, 1) := by decide +kernel
theorem jd_D_mendOrMoveOn_28 : decode jb_D_mendOrMoveOn 28 = .ok (.iload_n 1, 1) := by decide +kernel
theorem jd_D_mendOrMoveOn_29 : decode jb_D_mendOrMoveOn 29 = .ok (.sipush 128, 3) := by decide +kernel
theorem jd_D_mendOrMoveOn_32 : decode jb_D_mendOrMoveOn 32 = .ok (.irem, 1) := by decide +kernel
theorem jd_D_mendOrMoveOn_33 : decode jb_D_mendOrMoveOn 33 = .ok (.invokevirtual 137, 3) := by decide +kernel
theorem jd_D_mendOrMoveOn_36 : decode jb_D_mendOrMoveOn 36 = .ok (.ireturn, 1) := by decide +kernel
theorem jd_D_smallestOddBlock_0 : decode jb_D_smallestOddBlock 0 = .ok (.iconst (-1), 1) := by decide +kernel
theorem jd_D_smallestOddBlock_1 : decode jb_D_smallestOddBlock 1 = .ok (.istore_n 1, 1) := by decide +kernel
theorem jd_D_smallestOddBlock_2 : decode jb_D_smallestOddBlock 2 = .ok (.sipush 129, 3) := by decide +kernel
theorem jd_D_smallestOddBlock_5 : decode jb_D_smallestOddBlock 5 = .ok (.istore_n 2, 1) := by decide +kernel
theorem jd_D_smallestOddBlock_6 : decode jb_D_smallestOddBlock 6 = .ok (.iconst 0, 1) := by decide +kernel
theorem jd_D_smallestOddBlock_7 : decode jb_D_smallestOddBlock 7 = .ok (.istore_n 3, 1) := by decide +kernel
theorem jd_D_smallestOddBlock_8 : decode jb_D_smallestOddBlock 8 = .ok (.iload_n 3, 1) := by decide +kernel
theorem jd_D_smallestOddBlock_9 : decode jb_D_smallestOddBlock 9 = .ok (.aload_n 0, 1) := by decide +kernel
theorem jd_D_smallestOddBlock_10 : decode jb_D_smallestOddBlock 10 = .ok (.getfield 30, 3) := by decide +kernel
theorem jd_D_smallestOddBlock_13 : decode jb_D_smallestOddBlock 13 = .ok (.if_icmp .gt 89, 3) := by decide +kernel
theorem jd_D_smallestOddBlock_16 : decode jb_D_smallestOddBlock 16 = .ok (.aload_n 0, 1) := by decide +kernel
theorem jd_D_smallestOddBlock_17 : decode jb_D_smallestOddBlock 17 = .ok (.iload_n 3, 1) := by decide +kernel
theorem jd_D_smallestOddBlock_18 : decode jb_D_smallestOddBlock 18 = .ok (.invokevirtual 120, 3) := by decide +kernel
theorem jd_D_smallestOddBlock_21 : decode jb_D_smallestOddBlock 21 = .ok (.istore 4, 2) := by decide +kernel
theorem jd_D_smallestOddBlock_23 : decode jb_D_smallestOddBlock 23 = .ok (.iconst 0, 1) := by decide +kernel
theorem jd_D_smallestOddBlock_24 : decode jb_D_smallestOddBlock 24 = .ok (.istore 5, 2) := by decide +kernel
theorem jd_D_smallestOddBlock_26 : decode jb_D_smallestOddBlock 26 = .ok (.iload 5, 2) := by decide +kernel
theorem jd_D_smallestOddBlock_28 : decode jb_D_smallestOddBlock 28 = .ok (.iload 4, 2) := by decide +kernel
theorem jd_D_smallestOddBlock_30 : decode jb_D_smallestOddBlock 30 = .ok (.if_icmp .ge 66, 3) := by decide +kernel
theorem jd_D_smallestOddBlock_33 : decode jb_D_smallestOddBlock 33 = .ok (.iload 5, 2) := by decide +kernel
theorem jd_D_smallestOddBlock_35 : decode jb_D_smallestOddBlock 35 = .ok (.aload_n 0, 1) := by decide +kernel
theorem jd_D_smallestOddBlock_36 : decode jb_D_smallestOddBlock 36 = .ok (.iload_n 3, 1) := by decide +kernel
theorem jd_D_smallestOddBlock_37 : decode jb_D_smallestOddBlock 37 = .ok (.invokevirtual 123, 3) := by decide +kernel
theorem jd_D_smallestOddBlock_40 : decode jb_D_smallestOddBlock 40 = .ok (.imul, 1) := by decide +kernel
theorem jd_D_smallestOddBlock_41 : decode jb_D_smallestOddBlock 41 = .ok (.istore 6, 2) := by decide +kernel
theorem jd_D_smallestOddBlock_43 : decode jb_D_smallestOddBlock 43 = .ok (.aload_n 0, 1) := by decide +kernel
theorem jd_D_smallestOddBlock_44 : decode jb_D_smallestOddBlock 44 = .ok (.iload_n 3, 1) := by decide +kernel
theorem jd_D_smallestOddBlock_45 : decode jb_D_smallestOddBlock 45 = .ok (.iload 6, 2) := by decide +kernel
theorem jd_D_smallestOddBlock_47 : decode jb_D_smallestOddBlock 47 = .ok (.invokevirtual 126, 3) := by decide +kernel
theorem jd_D_smallestOddBlock_50 : decode jb_D_smallestOddBlock 50 = .ok (.istore 7, 2) := by decide +kernel
theorem jd_D_smallestOddBlock_52 : decode jb_D_smallestOddBlock 52 = .ok (.iload 7, 2) := by decide +kernel
theorem jd_D_smallestOddBlock_54 : decode jb_D_smallestOddBlock 54 = .ok (.iload 6, 2) := by decide +kernel
theorem jd_D_smallestOddBlock_56 : decode jb_D_smallestOddBlock 56 = .ok (.isub, 1) := by decide +kernel
theorem jd_D_smallestOddBlock_57 : decode jb_D_smallestOddBlock 57 = .ok (.iload_n 2, 1) := by decide +kernel
theorem jd_D_smallestOddBlock_58 : decode jb_D_smallestOddBlock 58 = .ok (.if_icmp .ge 32, 3) := by decide +kernel
theorem jd_D_smallestOddBlock_61 : decode jb_D_smallestOddBlock 61 = .ok (.aload_n 0, 1) := by decide +kernel
theorem jd_D_smallestOddBlock_62 : decode jb_D_smallestOddBlock 62 = .ok (.iload_n 3, 1) := by decide +kernel
theorem jd_D_smallestOddBlock_63 : decode jb_D_smallestOddBlock 63 = .ok (.iload 6, 2) := by decide +kernel
theorem jd_D_smallestOddBlock_65 : decode jb_D_smallestOddBlock 65 = .ok (.iload 7, 2) := by decide +kernel
theorem jd_D_smallestOddBlock_67 : decode jb_D_smallestOddBlock 67 = .ok (.iload 6, 2) := by decide +kernel
theorem jd_D_smallestOddBlock_69 : decode jb_D_smallestOddBlock 69 = .ok (.invokevirtual 141, 3) := by decide +kernel
theorem jd_D_smallestOddBlock_72 : decode jb_D_smallestOddBlock 72 = .ok (.ifCond .eq 18, 3) := by decide +kernel
theorem jd_D_smallestOddBlock_75 : decode jb_D_smallestOddBlock 75 = .ok (.iload_n 3, 1) := by decide +kernel
theorem jd_D_smallestOddBlock_76 : decode jb_D_smallestOddBlock 76 = .ok (.sipush 128, 3) := by decide +kernel
theorem jd_D_smallestOddBlock_79 : decode jb_D_smallestOddBlock 79 = .ok (.imul, 1) := by decide +kernel
theorem jd_D_smallestOddBlock_80 : decode jb_D_smallestOddBlock 80 = .ok (.iload 6, 2) := by decide +kernel
theorem jd_D_smallestOddBlock_82 : decode jb_D_smallestOddBlock 82 = .ok (.iadd, 1) := by decide +kernel
theorem jd_D_smallestOddBlock_83 : decode jb_D_smallestOddBlock 83 = .ok (.istore_n 1, 1) := by decide +kernel
theorem jd_D_smallestOddBlock_84 : decode jb_D_smallestOddBlock 84 = .ok (.iload 7, 2) := by decide +kernel
theorem jd_D_smallestOddBlock_86 : decode jb_D_smallestOddBlock 86 = .ok (.iload 6, 2) := by decide +kernel
theorem jd_D_smallestOddBlock_88 : decode jb_D_smallestOddBlock 88 = .ok (.isub, 1) := by decide +kernel
theorem jd_D_smallestOddBlock_89 : decode jb_D_smallestOddBlock 89 = .ok (.istore_n 2, 1) := by decide +kernel
theorem jd_D_smallestOddBlock_90 : decode jb_D_smallestOddBlock 90 = .ok (.iinc 5 1, 3) := by decide +kernel
theorem jd_D_smallestOddBlock_93 : decode jb_D_smallestOddBlock 93 = .ok (.goto (-67), 3) := by decide +kernel
theorem jd_D_smallestOddBlock_96 : decode jb_D_smallestOddBlock 96 = .ok (.iinc 3 1, 3) := by decide +kernel
theorem jd_D_smallestOddBlock_99 : decode jb_D_smallestOddBlock 99 = .ok (.goto (-91), 3) := by decide +kernel
theorem jd_D_smallestOddBlock_102 : decode jb_D_smallestOddBlock 102 = .ok (.iload_n 1, 1) := by decide +kernel
theorem jd_D_smallestOddBlock_103 : decode jb_D_smallestOddBlock 103 = .ok (.ireturn, 1) := by decide +kernel
theorem jd_D_isOdd_0 : decode jb_D_isOdd 0 = .ok (.aload_n 0, 1) := by decide +kernel
theorem jd_D_isOdd_1 : decode jb_D_isOdd 1 = .ok (.getfield 23, 3) := by decide +kernel
theorem jd_D_isOdd_4 : decode jb_D_isOdd 4 = .ok (.iload_n 1, 1) := by decide +kernel
theorem jd_D_isOdd_5 : decode jb_D_isOdd 5 = .ok (.aaload, 1) := by decide +kernel
theorem jd_D_isOdd_6 : decode jb_D_isOdd 6 = .ok (.iload 4, 2) := by decide +kernel
theorem jd_D_isOdd_8 : decode jb_D_isOdd 8 = .ok (.iaload, 1) := by decide +kernel
theorem jd_D_isOdd_9 : decode jb_D_isOdd 9 = .ok (.aload_n 0, 1) := by decide +kernel
theorem jd_D_isOdd_10 : decode jb_D_isOdd 10 = .ok (.getfield 38, 3) := by decide +kernel
theorem jd_D_isOdd_13 : decode jb_D_isOdd 13 = .ok (.aload_n 0, 1) := by decide +kernel
theorem jd_D_isOdd_14 : decode jb_D_isOdd 14 = .ok (.getfield 20, 3) := by decide +kernel
theorem jd_D_isOdd_17 : decode jb_D_isOdd 17 = .ok (.iload_n 1, 1) := by decide +kernel
theorem jd_D_isOdd_18 : decode jb_D_isOdd 18 = .ok (.aaload, 1) := by decide +kernel
theorem jd_D_isOdd_19 : decode jb_D_isOdd 19 = .ok (.iload_n 2, 1) := by decide +kernel
theorem jd_D_isOdd_20 : decode jb_D_isOdd 20 = .ok (.iload_n 3, 1) := by decide +kernel
theorem jd_D_isOdd_21 : decode jb_D_isOdd 21 = .ok (.invokevirtual 101, 3) := by decide +kernel
theorem jd_D_isOdd_24 : decode jb_D_isOdd 24 = .ok (.if_icmp .eq 7, 3) := by decide +kernel
theorem jd_D_isOdd_27 : decode jb_D_isOdd 27 = .ok (.iconst 1, 1) := by decide +kernel
theorem jd_D_isOdd_28 : decode jb_D_isOdd 28 = .ok (.goto 4, 3) := by decide +kernel
theorem jd_D_isOdd_31 : decode jb_D_isOdd 31 = .ok (.iconst 0, 1) := by decide +kernel
theorem jd_D_isOdd_32 : decode jb_D_isOdd 32 = .ok (.ireturn, 1) := by decide +kernel
theorem jd_D_search_0 : decode jb_D_search 0 = .ok (.iload_n 2, 1) := by decide +kernel
theorem jd_D_search_1 : decode jb_D_search 1 = .ok (.istore_n 3, 1) := by decide +kernel
theorem jd_D_search_2 : decode jb_D_search 2 = .ok (.aload_n 0, 1) := by decide +kernel
theorem jd_D_search_3 : decode jb_D_search 3 = .ok (.iload_n 1, 1) := by decide +kernel
theorem jd_D_search_4 : decode jb_D_search 4 = .ok (.iload_n 2, 1) := by decide +kernel
theorem jd_D_search_5 : decode jb_D_search 5 = .ok (.invokevirtual 126, 3) := by decide +kernel
theorem jd_D_search_8 : decode jb_D_search 8 = .ok (.istore 4, 2) := by decide +kernel
theorem jd_D_search_10 : decode jb_D_search 10 = .ok (.iconst 0, 1) := by decide +kernel
theorem jd_D_search_11 : decode jb_D_search 11 = .ok (.istore 5, 2) := by decide +kernel
theorem jd_D_search_13 : decode jb_D_search 13 = .ok (.iload 5, 2) := by decide +kernel
theorem jd_D_search_15 : decode jb_D_search 15 = .ok (.sipush 128, 3) := by decide +kernel
theorem jd_D_search_18 : decode jb_D_search 18 = .ok (.if_icmp .ge 77, 3) := by decide +kernel
theorem jd_D_search_21 : decode jb_D_search 21 = .ok (.iload 4, 2) := by decide +kernel
theorem jd_D_search_23 : decode jb_D_search 23 = .ok (.iload_n 3, 1) := by decide +kernel
theorem jd_D_search_24 : decode jb_D_search 24 = .ok (.isub, 1) := by decide +kernel
theorem jd_D_search_25 : decode jb_D_search 25 = .ok (.iconst 1, 1) := by decide +kernel
theorem jd_D_search_26 : decode jb_D_search 26 = .ok (.if_icmp .le 69, 3) := by decide +kernel
theorem jd_D_search_29 : decode jb_D_search 29 = .ok (.iload_n 3, 1) := by decide +kernel
theorem jd_D_search_30 : decode jb_D_search 30 = .ok (.iload 4, 2) := by decide +kernel
theorem jd_D_search_32 : decode jb_D_search 32 = .ok (.iload_n 3, 1) := by decide +kernel
theorem jd_D_search_33 : decode jb_D_search 33 = .ok (.isub, 1) := by decide +kernel
theorem jd_D_search_34 : decode jb_D_search 34 = .ok (.iconst 1, 1) := by decide +kernel
theorem jd_D_search_35 : decode jb_D_search 35 = .ok (.iadd, 1) := by decide +kernel
theorem jd_D_search_36 : decode jb_D_search 36 = .ok (.iconst 2, 1) := by decide +kernel
theorem jd_D_search_37 : decode jb_D_search 37 = .ok (.idiv, 1) := by decide +kernel
theorem jd_D_search_38 : decode jb_D_search 38 = .ok (.iadd, 1) := by decide +kernel
theorem jd_D_search_39 : decode jb_D_search 39 = .ok (.istore 6, 2) := by decide +kernel
theorem jd_D_search_41 : decode jb_D_search 41 = .ok (.aload_n 0, 1) := by decide +kernel
theorem jd_D_search_42 : decode jb_D_search 42 = .ok (.getfield 23, 3) := by decide +kernel
theorem jd_D_search_45 : decode jb_D_search 45 = .ok (.iload_n 1, 1) := by decide +kernel
theorem jd_D_search_46 : decode jb_D_search 46 = .ok (.aaload, 1) := by decide +kernel
theorem jd_D_search_47 : decode jb_D_search 47 = .ok (.iload 6, 2) := by decide +kernel
theorem jd_D_search_49 : decode jb_D_search 49 = .ok (.iaload, 1) := by decide +kernel
theorem jd_D_search_50 : decode jb_D_search 50 = .ok (.iconst (-1), 1) := by decide +kernel
theorem jd_D_search_51 : decode jb_D_search 51 = .ok (.if_icmp .ne 15, 3) := by decide +kernel
theorem jd_D_search_54 : decode jb_D_search 54 = .ok (.aload_n 0, 1) := by decide +kernel
theorem jd_D_search_55 : decode jb_D_search 55 = .ok (.iload_n 1, 1) := by decide +kernel
theorem jd_D_search_56 : decode jb_D_search 56 = .ok (.iload_n 3, 1) := by decide +kernel
theorem jd_D_search_57 : decode jb_D_search 57 = .ok (.iload 6, 2) := by decide +kernel
theorem jd_D_search_59 : decode jb_D_search 59 = .ok (.iload 6, 2) := by decide +kernel
theorem jd_D_search_61 : decode jb_D_search 61 = .ok (.invokevirtual 129, 3) := by decide +kernel
theorem jd_D_search_64 : decode jb_D_search 64 = .ok (.iconst 1, 1) := by decide +kernel
theorem jd_D_search_65 : decode jb_D_search 65 = .ok (.ireturn, 1) := by decide +kernel
theorem jd_D_search_66 : decode jb_D_search 66 = .ok (.aload_n 0, 1) := by decide +kernel
theorem jd_D_search_67 : decode jb_D_search 67 = .ok (.iload_n 1, 1) := by decide +kernel
theorem jd_D_search_68 : decode jb_D_search 68 = .ok (.iload_n 3, 1) := by decide +kernel
theorem jd_D_search_69 : decode jb_D_search 69 = .ok (.iload 6, 2) := by decide +kernel
theorem jd_D_search_71 : decode jb_D_search 71 = .ok (.iload 6, 2) := by decide +kernel
theorem jd_D_search_73 : decode jb_D_search 73 = .ok (.invokevirtual 141, 3) := by decide +kernel
theorem jd_D_search_76 : decode jb_D_search 76 = .ok (.ifCond .eq 10, 3) := by decide +kernel
theorem jd_D_search_79 : decode jb_D_search 79 = .ok (.iload 6, 2) := by decide +kernel
theorem jd_D_search_81 : decode jb_D_search 81 = .ok (.istore 4, 2) := by decide +kernel
theorem jd_D_search_83 : decode jb_D_search 83 = .ok (.goto 6, 3) := by decide +kernel
theorem jd_D_search_86 : decode jb_D_search 86 = .ok (.iload 6, 2) := by decide +kernel
theorem jd_D_search_88 : decode jb_D_search 88 = .ok (.istore_n 3, 1) := by decide +kernel
theorem jd_D_search_89 : decode jb_D_search 89 = .ok (.iinc 5 1, 3) := by decide +kernel
theorem jd_D_search_92 : decode jb_D_search 92 = .ok (.goto (-79), 3) := by decide +kernel
theorem jd_D_search_95 : decode jb_D_search 95 = .ok (.aload_n 0, 1) := by decide +kernel
theorem jd_D_search_96 : decode jb_D_search 96 = .ok (.getfield 38, 3) := by decide +kernel
theorem jd_D_search_99 : decode jb_D_search 99 = .ok (.getfield 145, 3) := by decide +kernel
theorem jd_D_search_102 : decode jb_D_search 102 = .ok (.aload_n 0, 1) := by decide +kernel
theorem jd_D_search_103 : decode jb_D_search 103 = .ok (.getfield 20, 3) := by decide +kernel
theorem jd_D_search_106 : decode jb_D_search 106 = .ok (.iload_n 1, 1) := by decide +kernel
theorem jd_D_search_107 : decode jb_D_search 107 = .ok (.aaload, 1) := by decide +kernel
theorem jd_D_search_108 : decode jb_D_search 108 = .ok (.iload_n 3, 1) := by decide +kernel
theorem jd_D_search_109 : decode jb_D_search 109 = .ok (.iaload, 1) := by decide +kernel
theorem jd_D_search_110 : decode jb_D_search 110 = .ok (.dup2, 1) := by decide +kernel
theorem jd_D_search_111 : decode jb_D_search 111 = .ok (.iaload, 1) := by decide +kernel
theorem jd_D_search_112 : decode jb_D_search 112 = .ok (.iconst 1, 1) := by decide +kernel
theorem jd_D_search_113 : decode jb_D_search 113 = .ok (.ixor, 1) := by decide +kernel
theorem jd_D_search_114 : decode jb_D_search 114 = .ok (.iastore, 1) := by decide +kernel
theorem jd_D_search_115 : decode jb_D_search 115 = .ok (.iconst 0, 1) := by decide +kernel
theorem jd_D_search_116 : decode jb_D_search 116 = .ok (.ireturn, 1) := by decide +kernel
theorem jd_D_deliver_0 : decode jb_D_deliver 0 = .ok (.aload_n 0, 1) := by decide +kernel
theorem jd_D_deliver_1 : decode jb_D_deliver 1 = .ok (.getfield 12, 3) := by decide +kernel
theorem jd_D_deliver_4 : decode jb_D_deliver 4 = .ok (.getfield 59, 3) := by decide +kernel
theorem jd_D_deliver_7 : decode jb_D_deliver 7 = .ok (.iload_n 1, 1) := by decide +kernel
theorem jd_D_deliver_8 : decode jb_D_deliver 8 = .ok (.iaload, 1) := by decide +kernel
theorem jd_D_deliver_9 : decode jb_D_deliver 9 = .ok (.istore_n 2, 1) := by decide +kernel
theorem jd_D_deliver_10 : decode jb_D_deliver 10 = .ok (.aload_n 0, 1) := by decide +kernel
theorem jd_D_deliver_11 : decode jb_D_deliver 11 = .ok (.getfield 12, 3) := by decide +kernel
theorem jd_D_deliver_14 : decode jb_D_deliver 14 = .ok (.getfield 56, 3) := by decide +kernel
theorem jd_D_deliver_17 : decode jb_D_deliver 17 = .ok (.iload_n 1, 1) := by decide +kernel
theorem jd_D_deliver_18 : decode jb_D_deliver 18 = .ok (.iaload, 1) := by decide +kernel
theorem jd_D_deliver_19 : decode jb_D_deliver 19 = .ok (.istore_n 3, 1) := by decide +kernel
theorem jd_D_deliver_20 : decode jb_D_deliver 20 = .ok (.aload_n 0, 1) := by decide +kernel
theorem jd_D_deliver_21 : decode jb_D_deliver 21 = .ok (.getfield 12, 3) := by decide +kernel
theorem jd_D_deliver_24 : decode jb_D_deliver 24 = .ok (.getfield 66, 3) := by decide +kernel
theorem jd_D_deliver_27 : decode jb_D_deliver 27 = .ok (.iload_n 1, 1) := by decide +kernel
theorem jd_D_deliver_28 : decode jb_D_deliver 28 = .ok (.iaload, 1) := by decide +kernel
theorem jd_D_deliver_29 : decode jb_D_deliver 29 = .ok (.istore 4, 2) := by decide +kernel
theorem jd_D_deliver_31 : decode jb_D_deliver 31 = .ok (.aload_n 0, 1) := by decide +kernel
theorem jd_D_deliver_32 : decode jb_D_deliver 32 = .ok (.getfield 12, 3) := by decide +kernel
theorem jd_D_deliver_35 : decode jb_D_deliver 35 = .ok (.iload_n 1, 1) := by decide +kernel
theorem jd_D_deliver_36 : decode jb_D_deliver 36 = .ok (.invokevirtual 75, 3) := by decide +kernel
theorem jd_D_deliver_39 : decode jb_D_deliver 39 = .ok (.iload_n 2, 1) := by decide +kernel
theorem jd_D_deliver_40 : decode jb_D_deliver 40 = .ok (.ifCond .ne 11, 3) := by decide +kernel
theorem jd_D_deliver_43 : decode jb_D_deliver 43 = .ok (.aload_n 0, 1) := by decide +kernel
theorem jd_D_deliver_44 : decode jb_D_deliver 44 = .ok (.iload_n 3, 1) := by decide +kernel
theorem jd_D_deliver_45 : decode jb_D_deliver 45 = .ok (.invokevirtual 79, 3) := by decide +kernel
theorem jd_D_deliver_48 : decode jb_D_deliver 48 = .ok (.goto 42, 3) := by decide +kernel
theorem jd_D_deliver_51 : decode jb_D_deliver 51 = .ok (.iload_n 3, 1) := by decide +kernel
theorem jd_D_deliver_52 : decode jb_D_deliver 52 = .ok (.aload_n 0, 1) := by decide +kernel
theorem jd_D_deliver_53 : decode jb_D_deliver 53 = .ok (.getfield 82, 3) := by decide +kernel
theorem jd_D_deliver_56 : decode jb_D_deliver 56 = .ok (.if_icmp .ne 34, 3) := by decide +kernel
theorem jd_D_deliver_59 : decode jb_D_deliver 59 = .ok (.aload_n 0, 1) := by decide +kernel
theorem jd_D_deliver_60 : decode jb_D_deliver 60 = .ok (.invokevirtual 85, 3) := by decide +kernel
theorem jd_D_deliver_63 : decode jb_D_deliver 63 = .ok (.ifCond .eq 27, 3) := by decide +kernel
theorem jd_D_deliver_66 : decode jb_D_deliver 66 = .ok (.aload_n 0, 1) := by decide +kernel
theorem jd_D_deliver_67 : decode jb_D_deliver 67 = .ok (.getfield 23, 3) := by decide +kernel
theorem jd_D_deliver_70 : decode jb_D_deliver 70 = .ok (.aload_n 0, 1) := by decide +kernel
theorem jd_D_deliver_71 : decode jb_D_deliver 71 = .ok (.aload_n 0, 1) := by decide +kernel
theorem jd_D_deliver_72 : decode jb_D_deliver 72 = .ok (.getfield 82, 3) := by decide +kernel
theorem jd_D_deliver_75 : decode jb_D_deliver 75 = .ok (.invokevirtual 62, 3) := by decide +kernel
theorem jd_D_deliver_78 : decode jb_D_deliver 78 = .ok (.aaload, 1) := by decide +kernel
theorem jd_D_deliver_79 : decode jb_D_deliver 79 = .ok (.aload_n 0, 1) := by decide +kernel
theorem jd_D_deliver_80 : decode jb_D_deliver 80 = .ok (.getfield 89, 3) := by decide +kernel
theorem jd_D_deliver_83 : decode jb_D_deliver 83 = .ok (.iload 4, 2) := by decide +kernel
theorem jd_D_deliver_85 : decode jb_D_deliver 85 = .ok (.iastore, 1) := by decide +kernel
theorem jd_D_deliver_86 : decode jb_D_deliver 86 = .ok (.aload_n 0, 1) := by decide +kernel
theorem jd_D_deliver_87 : decode jb_D_deliver 87 = .ok (.invokevirtual 53, 3) := by decide +kernel
theorem jd_D_deliver_90 : decode jb_D_deliver 90 = .ok (.return_, 1) := by decide +kernel
theorem jd_D_answer_0 : decode jb_D_answer 0 = .ok (.aload_n 0, 1) := by decide +kernel
theorem jd_D_answer_1 : decode jb_D_answer 1 = .ok (.aload_n 0, 1) := by decide +kernel
theorem jd_D_answer_2 : decode jb_D_answer 2 = .ok (.getfield 92, 3) := by decide +kernel
theorem jd_D_answer_5 : decode jb_D_answer 5 = .ok (.iload_n 1, 1) := by decide +kernel
theorem jd_D_answer_6 : decode jb_D_answer 6 = .ok (.invokestatic 95, 3) := by decide +kernel
theorem jd_D_answer_9 : decode jb_D_answer 9 = .ok (.putfield 92, 3) := by decide +kernel
theorem jd_D_answer_12 : decode jb_D_answer 12 = .ok (.aload_n 0, 1) := by decide +kernel
theorem jd_D_answer_13 : decode jb_D_answer 13 = .ok (.getfield 34, 3) := by decide +kernel
theorem jd_D_answer_16 : decode jb_D_answer 16 = .ok (.aload_n 0, 1) := by decide +kernel
theorem jd_D_answer_17 : decode jb_D_answer 17 = .ok (.getfield 20, 3) := by decide +kernel
theorem jd_D_answer_20 : decode jb_D_answer 20 = .ok (.aload_n 0, 1) := by decide +kernel
theorem jd_D_answer_21 : decode jb_D_answer 21 = .ok (.iload_n 1, 1) := by decide +kernel
theorem jd_D_answer_22 : decode jb_D_answer 22 = .ok (.invokevirtual 62, 3) := by decide +kernel
theorem jd_D_answer_25 : decode jb_D_answer 25 = .ok (.aaload, 1) := by decide +kernel
theorem jd_D_answer_26 : decode jb_D_answer 26 = .ok (.aload_n 0, 1) := by decide +kernel
theorem jd_D_answer_27 : decode jb_D_answer 27 = .ok (.iload_n 1, 1) := by decide +kernel
theorem jd_D_answer_28 : decode jb_D_answer 28 = .ok (.invokevirtual 69, 3) := by decide +kernel
theorem jd_D_answer_31 : decode jb_D_answer 31 = .ok (.aload_n 0, 1) := by decide +kernel
theorem jd_D_answer_32 : decode jb_D_answer 32 = .ok (.iload_n 1, 1) := by decide +kernel
theorem jd_D_answer_33 : decode jb_D_answer 33 = .ok (.invokevirtual 72, 3) := by decide +kernel
theorem jd_D_answer_36 : decode jb_D_answer 36 = .ok (.invokevirtual 101, 3) := by decide +kernel
theorem jd_D_answer_39 : decode jb_D_answer 39 = .ok (.istore_n 2, 1) := by decide +kernel
theorem jd_D_answer_40 : decode jb_D_answer 40 = .ok (.aload_n 0, 1) := by decide +kernel
theorem jd_D_answer_41 : decode jb_D_answer 41 = .ok (.getfield 12, 3) := by decide +kernel
theorem jd_D_answer_44 : decode jb_D_answer 44 = .ok (.iconst 1, 1) := by decide +kernel
theorem jd_D_answer_45 : decode jb_D_answer 45 = .ok (.iload_n 1, 1) := by decide +kernel
theorem jd_D_answer_46 : decode jb_D_answer 46 = .ok (.iload_n 2, 1) := by decide +kernel
theorem jd_D_answer_47 : decode jb_D_answer 47 = .ok (.invokevirtual 107, 3) := by decide +kernel
theorem jd_D_answer_50 : decode jb_D_answer 50 = .ok (.return_, 1) := by decide +kernel
theorem jd_D_isNewestUnknown_0 : decode jb_D_isNewestUnknown 0 = .ok (.aload_n 0, 1) := by decide +kernel
theorem jd_D_isNewestUnknown_1 : decode jb_D_isNewestUnknown 1 = .ok (.getfield 23, 3) := by decide +kernel
theorem jd_D_isNewestUnknown_4 : decode jb_D_isNewestUnknown 4 = .ok (.aload_n 0, 1) := by decide +kernel
theorem jd_D_isNewestUnknown_5 : decode jb_D_isNewestUnknown 5 = .ok (.aload_n 0, 1) := by decide +kernel
theorem jd_D_isNewestUnknown_6 : decode jb_D_isNewestUnknown 6 = .ok (.getfield 82, 3) := by decide +kernel
theorem jd_D_isNewestUnknown_9 : decode jb_D_isNewestUnknown 9 = .ok (.invokevirtual 62, 3) := by decide +kernel
theorem jd_D_isNewestUnknown_12 : decode jb_D_isNewestUnknown 12 = .ok (.aaload, 1) := by decide +kernel
theorem jd_D_isNewestUnknown_13 : decode jb_D_isNewestUnknown 13 = .ok (.aload_n 0, 1) := by decide +kernel
theorem jd_D_isNewestUnknown_14 : decode jb_D_isNewestUnknown 14 = .ok (.getfield 89, 3) := by decide +kernel
theorem jd_D_isNewestUnknown_17 : decode jb_D_isNewestUnknown 17 = .ok (.iaload, 1) := by decide +kernel
theorem jd_D_isNewestUnknown_18 : decode jb_D_isNewestUnknown 18 = .ok (.iconst (-1), 1) := by decide +kernel
theorem jd_D_isNewestUnknown_19 : decode jb_D_isNewestUnknown 19 = .ok (.if_icmp .ne 7, 3) := by decide +kernel
theorem jd_D_isNewestUnknown_22 : decode jb_D_isNewestUnknown 22 = .ok (.iconst 1, 1) := by decide +kernel
theorem jd_D_isNewestUnknown_23 : decode jb_D_isNewestUnknown 23 = .ok (.goto 4, 3) := by decide +kernel
theorem jd_D_isNewestUnknown_26 : decode jb_D_isNewestUnknown 26 = .ok (.iconst 0, 1) := by decide +kernel
theorem jd_D_isNewestUnknown_27 : decode jb_D_isNewestUnknown 27 = .ok (.ireturn, 1) := by decide +kernel
theorem jd_D_askAgain_0 : decode jb_D_askAgain 0 = .ok (.aload_n 0, 1) := by decide +kernel
theorem jd_D_askAgain_1 : decode jb_D_askAgain 1 = .ok (.invokevirtual 85, 3) := by decide +kernel
theorem jd_D_askAgain_4 : decode jb_D_askAgain 4 = .ok (.ifCond .eq 16, 3) := by decide +kernel
theorem jd_D_askAgain_7 : decode jb_D_askAgain 7 = .ok (.aload_n 0, 1) := by decide +kernel
theorem jd_D_askAgain_8 : decode jb_D_askAgain 8 = .ok (.getfield 12, 3) := by decide +kernel
theorem jd_D_askAgain_11 : decode jb_D_askAgain 11 = .ok (.iconst 0, 1) := by decide +kernel
theorem jd_D_askAgain_12 : decode jb_D_askAgain 12 = .ok (.aload_n 0, 1) := by decide +kernel
theorem jd_D_askAgain_13 : decode jb_D_askAgain 13 = .ok (.getfield 82, 3) := by decide +kernel
theorem jd_D_askAgain_16 : decode jb_D_askAgain 16 = .ok (.iconst 0, 1) := by decide +kernel
theorem jd_D_askAgain_17 : decode jb_D_askAgain 17 = .ok (.invokevirtual 107, 3) := by decide +kernel
theorem jd_D_askAgain_20 : decode jb_D_askAgain 20 = .ok (.return_, 1) := by decide +kernel
