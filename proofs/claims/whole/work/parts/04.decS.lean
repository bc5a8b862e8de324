/-! the instructions, decoded. Printed by wip/gen/gen04.py -/
theorem jd_S_init_0 : decode jb_S_init 0 = .ok (.aload_n 0, 1) := by decide +kernel
theorem jd_S_init_1 : decode jb_S_init 1 = .ok (.invokespecial 3, 3) := by decide +kernel
theorem jd_S_init_4 : decode jb_S_init 4 = .ok (.aload_n 0, 1) := by decide +kernel
theorem jd_S_init_5 : decode jb_S_init 5 = .ok (.sipush 128, 3) := by decide +kernel
theorem jd_S_init_8 : decode jb_S_init 8 = .ok (.newarray .boolean, 2) := by decide +kernel
theorem jd_S_init_10 : decode jb_S_init 10 = .ok (.putfield 9, 3) := by decide +kernel
theorem jd_S_init_13 : decode jb_S_init 13 = .ok (.aload_n 0, 1) := by decide +kernel
theorem jd_S_init_14 : decode jb_S_init 14 = .ok (.sipush 128, 3) := by decide +kernel
theorem jd_S_init_17 : decode jb_S_init 17 = .ok (.newarray .int, 2) := by decide +kernel
theorem jd_S_init_19 : decode jb_S_init 19 = .ok (.putfield 15, 3) := by decide +kernel
theorem jd_S_init_22 : decode jb_S_init 22 = .ok (.aload_n 0, 1) := by decide +kernel
theorem jd_S_init_23 : decode jb_S_init 23 = .ok (.sipush 128, 3) := by decide +kernel
theorem jd_S_init_26 : decode jb_S_init 26 = .ok (.newarray .int, 2) := by decide +kernel
theorem jd_S_init_28 : decode jb_S_init 28 = .ok (.putfield 19, 3) := by decide +kernel
theorem jd_S_init_31 : decode jb_S_init 31 = .ok (.aload_n 0, 1) := by decide +kernel
theorem jd_S_init_32 : decode jb_S_init 32 = .ok (.sipush 128, 3) := by decide +kernel
theorem jd_S_init_35 : decode jb_S_init 35 = .ok (.newarray .int, 2) := by decide +kernel
theorem jd_S_init_37 : decode jb_S_init 37 = .ok (.putfield 22, 3) := by decide +kernel
theorem jd_S_init_40 : decode jb_S_init 40 = .ok (.aload_n 0, 1) := by decide +kernel
theorem jd_S_init_41 : decode jb_S_init 41 = .ok (.sipush 128, 3) := by decide +kernel
theorem jd_S_init_44 : decode jb_S_init 44 = .ok (.newarray .int, 2) := by decide +kernel
theorem jd_S_init_46 : decode jb_S_init 46 = .ok (.putfield 25, 3) := by decide +kernel
theorem jd_S_init_49 : decode jb_S_init 49 = .ok (.return_, 1) := by decide +kernel
theorem jd_G_init_0 : decode jb_G_init 0 = .ok (.aload_n 0, 1) := by decide +kernel
theorem jd_G_init_1 : decode jb_G_init 1 = .ok (.invokespecial 1, 3) := by decide +kernel
theorem jd_G_init_4 : decode jb_G_init 4 = .ok (.return_, 1) := by decide +kernel
theorem jd_E_init_0 : decode jb_E_init 0 = .ok (.aload_n 0, 1) := by decide +kernel
theorem jd_E_init_1 : decode jb_E_init 1 = .ok (.invokespecial 3, 3) := by decide +kernel
theorem jd_E_init_4 : decode jb_E_init 4 = .ok (.aload_n 0, 1) := by decide +kernel
theorem jd_E_init_5 : decode jb_E_init 5 = .ok (.bipush 16, 2) := by decide +kernel
theorem jd_E_init_7 : decode jb_E_init 7 = .ok (.newarray .int, 2) := by decide +kernel
theorem jd_E_init_9 : decode jb_E_init 9 = .ok (.putfield 9, 3) := by decide +kernel
theorem jd_E_init_12 : decode jb_E_init 12 = .ok (.aload_n 0, 1) := by decide +kernel
theorem jd_E_init_13 : decode jb_E_init 13 = .ok (.bipush 16, 2) := by decide +kernel
theorem jd_E_init_15 : decode jb_E_init 15 = .ok (.newarray .int, 2) := by decide +kernel
theorem jd_E_init_17 : decode jb_E_init 17 = .ok (.putfield 15, 3) := by decide +kernel
theorem jd_E_init_20 : decode jb_E_init 20 = .ok (.aload_n 0, 1) := by decide +kernel
theorem jd_E_init_21 : decode jb_E_init 21 = .ok (.bipush 16, 2) := by decide +kernel
theorem jd_E_init_23 : decode jb_E_init 23 = .ok (.newarray .int, 2) := by decide +kernel
theorem jd_E_init_25 : decode jb_E_init 25 = .ok (.putfield 18, 3) := by decide +kernel
theorem jd_E_init_28 : decode jb_E_init 28 = .ok (.return_, 1) := by decide +kernel
theorem jd_E_has_0 : decode jb_E_has 0 = .ok (.iload_n 1, 1) := by decide +kernel
theorem jd_E_has_1 : decode jb_E_has 1 = .ok (.ifCond .lt 15, 3) := by decide +kernel
theorem jd_E_has_4 : decode jb_E_has 4 = .ok (.iload_n 1, 1) := by decide +kernel
theorem jd_E_has_5 : decode jb_E_has 5 = .ok (.aload_n 0, 1) := by decide +kernel
theorem jd_E_has_6 : decode jb_E_has 6 = .ok (.getfield 21, 3) := by decide +kernel
theorem jd_E_has_9 : decode jb_E_has 9 = .ok (.if_icmp .ge 7, 3) := by decide +kernel
theorem jd_E_has_12 : decode jb_E_has 12 = .ok (.iconst 1, 1) := by decide +kernel
theorem jd_E_has_13 : decode jb_E_has 13 = .ok (.goto 4, 3) := by decide +kernel
theorem jd_E_has_16 : decode jb_E_has 16 = .ok (.iconst 0, 1) := by decide +kernel
theorem jd_E_has_17 : decode jb_E_has 17 = .ok (.ireturn, 1) := by decide +kernel
theorem jd_S_hasAnyOf_0 : decode jb_S_hasAnyOf 0 = .ok (.iconst 0, 1) := by decide +kernel
theorem jd_S_hasAnyOf_1 : decode jb_S_hasAnyOf 1 = .ok (.istore_n 3, 1) := by decide +kernel
theorem jd_S_hasAnyOf_2 : decode jb_S_hasAnyOf 2 = .ok (.iload_n 3, 1) := by decide +kernel
theorem jd_S_hasAnyOf_3 : decode jb_S_hasAnyOf 3 = .ok (.iload_n 2, 1) := by decide +kernel
theorem jd_S_hasAnyOf_4 : decode jb_S_hasAnyOf 4 = .ok (.if_icmp .ge 22, 3) := by decide +kernel
theorem jd_S_hasAnyOf_7 : decode jb_S_hasAnyOf 7 = .ok (.aload_n 0, 1) := by decide +kernel
theorem jd_S_hasAnyOf_8 : decode jb_S_hasAnyOf 8 = .ok (.getfield 9, 3) := by decide +kernel
theorem jd_S_hasAnyOf_11 : decode jb_S_hasAnyOf 11 = .ok (.iload_n 1, 1) := by decide +kernel
theorem jd_S_hasAnyOf_12 : decode jb_S_hasAnyOf 12 = .ok (.iload_n 3, 1) := by decide +kernel
theorem jd_S_hasAnyOf_13 : decode jb_S_hasAnyOf 13 = .ok (.iadd, 1) := by decide +kernel
theorem jd_S_hasAnyOf_14 : decode jb_S_hasAnyOf 14 = .ok (.baload, 1) := by decide +kernel
theorem jd_S_hasAnyOf_15 : decode jb_S_hasAnyOf 15 = .ok (.ifCond .eq 5, 3) := by decide +kernel
theorem jd_S_hasAnyOf_18 : decode jb_S_hasAnyOf 18 = .ok (.iconst 1, 1) := by decide +kernel
theorem jd_S_hasAnyOf_19 : decode jb_S_hasAnyOf 19 = .ok (.ireturn, 1) := by decide +kernel
theorem jd_S_hasAnyOf_20 : decode jb_S_hasAnyOf 20 = .ok (.iinc 3 1, 3) := by decide +kernel
theorem jd_S_hasAnyOf_23 : decode jb_S_hasAnyOf 23 = .ok (.goto (-21), 3) := by decide +kernel
theorem jd_S_hasAnyOf_26 : decode jb_S_hasAnyOf 26 = .ok (.iconst 0, 1) := by decide +kernel
theorem jd_S_hasAnyOf_27 : decode jb_S_hasAnyOf 27 = .ok (.ireturn, 1) := by decide +kernel
theorem jd_S_note_0 : decode jb_S_note 0 = .ok (.iconst 0, 1) := by decide +kernel
theorem jd_S_note_1 : decode jb_S_note 1 = .ok (.istore 6, 2) := by decide +kernel
theorem jd_S_note_3 : decode jb_S_note 3 = .ok (.iload 6, 2) := by decide +kernel
theorem jd_S_note_5 : decode jb_S_note 5 = .ok (.iload_n 2, 1) := by decide +kernel
theorem jd_S_note_6 : decode jb_S_note 6 = .ok (.if_icmp .ge 66, 3) := by decide +kernel
theorem jd_S_note_9 : decode jb_S_note 9 = .ok (.aload_n 0, 1) := by decide +kernel
theorem jd_S_note_10 : decode jb_S_note 10 = .ok (.getfield 9, 3) := by decide +kernel
theorem jd_S_note_13 : decode jb_S_note 13 = .ok (.iload_n 1, 1) := by decide +kernel
theorem jd_S_note_14 : decode jb_S_note 14 = .ok (.iload 6, 2) := by decide +kernel
theorem jd_S_note_16 : decode jb_S_note 16 = .ok (.iadd, 1) := by decide +kernel
theorem jd_S_note_17 : decode jb_S_note 17 = .ok (.iconst 1, 1) := by decide +kernel
theorem jd_S_note_18 : decode jb_S_note 18 = .ok (.bastore, 1) := by decide +kernel
theorem jd_S_note_19 : decode jb_S_note 19 = .ok (.aload_n 0, 1) := by decide +kernel
theorem jd_S_note_20 : decode jb_S_note 20 = .ok (.getfield 15, 3) := by decide +kernel
theorem jd_S_note_23 : decode jb_S_note 23 = .ok (.iload_n 1, 1) := by decide +kernel
theorem jd_S_note_24 : decode jb_S_note 24 = .ok (.iload 6, 2) := by decide +kernel
theorem jd_S_note_26 : decode jb_S_note 26 = .ok (.iadd, 1) := by decide +kernel
theorem jd_S_note_27 : decode jb_S_note 27 = .ok (.iload_n 3, 1) := by decide +kernel
theorem jd_S_note_28 : decode jb_S_note 28 = .ok (.iload 6, 2) := by decide +kernel
theorem jd_S_note_30 : decode jb_S_note 30 = .ok (.iushr, 1) := by decide +kernel
theorem jd_S_note_31 : decode jb_S_note 31 = .ok (.iconst 1, 1) := by decide +kernel
theorem jd_S_note_32 : decode jb_S_note 32 = .ok (.iand, 1) := by decide +kernel
theorem jd_S_note_33 : decode jb_S_note 33 = .ok (.iastore, 1) := by decide +kernel
theorem jd_S_note_34 : decode jb_S_note 34 = .ok (.aload_n 0, 1) := by decide +kernel
theorem jd_S_note_35 : decode jb_S_note 35 = .ok (.getfield 19, 3) := by decide +kernel
theorem jd_S_note_38 : decode jb_S_note 38 = .ok (.iload_n 1, 1) := by decide +kernel
theorem jd_S_note_39 : decode jb_S_note 39 = .ok (.iload 6, 2) := by decide +kernel
theorem jd_S_note_41 : decode jb_S_note 41 = .ok (.iadd, 1) := by decide +kernel
theorem jd_S_note_42 : decode jb_S_note 42 = .ok (.iload 4, 2) := by decide +kernel
theorem jd_S_note_44 : decode jb_S_note 44 = .ok (.iload 6, 2) := by decide +kernel
theorem jd_S_note_46 : decode jb_S_note 46 = .ok (.iushr, 1) := by decide +kernel
theorem jd_S_note_47 : decode jb_S_note 47 = .ok (.iconst 1, 1) := by decide +kernel
theorem jd_S_note_48 : decode jb_S_note 48 = .ok (.iand, 1) := by decide +kernel
theorem jd_S_note_49 : decode jb_S_note 49 = .ok (.iastore, 1) := by decide +kernel
theorem jd_S_note_50 : decode jb_S_note 50 = .ok (.aload_n 0, 1) := by decide +kernel
theorem jd_S_note_51 : decode jb_S_note 51 = .ok (.getfield 22, 3) := by decide +kernel
theorem jd_S_note_54 : decode jb_S_note 54 = .ok (.iload_n 1, 1) := by decide +kernel
theorem jd_S_note_55 : decode jb_S_note 55 = .ok (.iload 6, 2) := by decide +kernel
theorem jd_S_note_57 : decode jb_S_note 57 = .ok (.iadd, 1) := by decide +kernel
theorem jd_S_note_58 : decode jb_S_note 58 = .ok (.iload 5, 2) := by decide +kernel
theorem jd_S_note_60 : decode jb_S_note 60 = .ok (.iload 6, 2) := by decide +kernel
theorem jd_S_note_62 : decode jb_S_note 62 = .ok (.iushr, 1) := by decide +kernel
theorem jd_S_note_63 : decode jb_S_note 63 = .ok (.iconst 1, 1) := by decide +kernel
theorem jd_S_note_64 : decode jb_S_note 64 = .ok (.iand, 1) := by decide +kernel
theorem jd_S_note_65 : decode jb_S_note 65 = .ok (.iastore, 1) := by decide +kernel
theorem jd_S_note_66 : decode jb_S_note 66 = .ok (.iinc 6 1, 3) := by decide +kernel
theorem jd_S_note_69 : decode jb_S_note 69 = .ok (.goto (-66), 3) := by decide +kernel
theorem jd_S_note_72 : decode jb_S_note 72 = .ok (.aload_n 0, 1) := by decide +kernel
theorem jd_S_note_73 : decode jb_S_note 73 = .ok (.dup, 1) := by decide +kernel
theorem jd_S_note_74 : decode jb_S_note 74 = .ok (.getfield 28, 3) := by decide +kernel
theorem jd_S_note_77 : decode jb_S_note 77 = .ok (.iload_n 2, 1) := by decide +kernel
theorem jd_S_note_78 : decode jb_S_note 78 = .ok (.iadd, 1) := by decide +kernel
theorem jd_S_note_79 : decode jb_S_note 79 = .ok (.putfield 28, 3) := by decide +kernel
theorem jd_S_note_82 : decode jb_S_note 82 = .ok (.return_, 1) := by decide +kernel
theorem jd_G_shuffle_0 : decode jb_G_shuffle 0 = .ok (.aload_n 0, 1) := by decide +kernel
theorem jd_G_shuffle_1 : decode jb_G_shuffle 1 = .ok (.lload_n 1, 1) := by decide +kernel
theorem jd_G_shuffle_2 : decode jb_G_shuffle 2 = .ok (.invokevirtual 23, 3) := by decide +kernel
theorem jd_G_shuffle_5 : decode jb_G_shuffle 5 = .ok (.iconst 0, 1) := by decide +kernel
theorem jd_G_shuffle_6 : decode jb_G_shuffle 6 = .ok (.istore 5, 2) := by decide +kernel
theorem jd_G_shuffle_8 : decode jb_G_shuffle 8 = .ok (.iload 5, 2) := by decide +kernel
theorem jd_G_shuffle_10 : decode jb_G_shuffle 10 = .ok (.iload_n 3, 1) := by decide +kernel
theorem jd_G_shuffle_11 : decode jb_G_shuffle 11 = .ok (.if_icmp .ge 16, 3) := by decide +kernel
theorem jd_G_shuffle_14 : decode jb_G_shuffle 14 = .ok (.aload 4, 2) := by decide +kernel
theorem jd_G_shuffle_16 : decode jb_G_shuffle 16 = .ok (.iload 5, 2) := by decide +kernel
theorem jd_G_shuffle_18 : decode jb_G_shuffle 18 = .ok (.iload 5, 2) := by decide +kernel
theorem jd_G_shuffle_20 : decode jb_G_shuffle 20 = .ok (.iastore, 1) := by decide +kernel
theorem jd_G_shuffle_21 : decode jb_G_shuffle 21 = .ok (.iinc 5 1, 3) := by decide +kernel
theorem jd_G_shuffle_24 : decode jb_G_shuffle 24 = .ok (.goto (-16), 3) := by decide +kernel
theorem jd_G_shuffle_27 : decode jb_G_shuffle 27 = .ok (.iload_n 3, 1) := by decide +kernel
theorem jd_G_shuffle_28 : decode jb_G_shuffle 28 = .ok (.iconst 1, 1) := by decide +kernel
theorem jd_G_shuffle_29 : decode jb_G_shuffle 29 = .ok (.isub, 1) := by decide +kernel
theorem jd_G_shuffle_30 : decode jb_G_shuffle 30 = .ok (.istore 5, 2) := by decide +kernel
theorem jd_G_shuffle_32 : decode jb_G_shuffle 32 = .ok (.iload 5, 2) := by decide +kernel
theorem jd_G_shuffle_34 : decode jb_G_shuffle 34 = .ok (.iconst 1, 1) := by decide +kernel
theorem jd_G_shuffle_35 : decode jb_G_shuffle 35 = .ok (.if_icmp .lt 43, 3) := by decide +kernel
theorem jd_G_shuffle_38 : decode jb_G_shuffle 38 = .ok (.aload_n 0, 1) := by decide +kernel
theorem jd_G_shuffle_39 : decode jb_G_shuffle 39 = .ok (.iload 5, 2) := by decide +kernel
theorem jd_G_shuffle_41 : decode jb_G_shuffle 41 = .ok (.iconst 1, 1) := by decide +kernel
theorem jd_G_shuffle_42 : decode jb_G_shuffle 42 = .ok (.iadd, 1) := by decide +kernel
theorem jd_G_shuffle_43 : decode jb_G_shuffle 43 = .ok (.invokevirtual 27, 3) := by decide +kernel
theorem jd_G_shuffle_46 : decode jb_G_shuffle 46 = .ok (.istore 6, 2) := by decide +kernel
theorem jd_G_shuffle_48 : decode jb_G_shuffle 48 = .ok (.aload 4, 2) := by decide +kernel
theorem jd_G_shuffle_50 : decode jb_G_shuffle 50 = .ok (.iload 6, 2) := by decide +kernel
theorem jd_G_shuffle_52 : decode jb_G_shuffle 52 = .ok (.iaload, 1) := by decide +kernel
theorem jd_G_shuffle_53 : decode jb_G_shuffle 53 = .ok (.istore 7, 2) := by decide +kernel
theorem jd_G_shuffle_55 : decode jb_G_shuffle 55 = .ok (.aload 4, 2) := by decide +kernel
theorem jd_G_shuffle_57 : decode jb_G_shuffle 57 = .ok (.iload 6, 2) := by decide +kernel
theorem jd_G_shuffle_59 : decode jb_G_shuffle 59 = .ok (.aload 4, 2) := by decide +kernel
theorem jd_G_shuffle_61 : decode jb_G_shuffle 61 = .ok (.iload 5, 2) := by decide +kernel
theorem jd_G_shuffle_63 : decode jb_G_shuffle 63 = .ok (.iaload, 1) := by decide +kernel
theorem jd_G_shuffle_64 : decode jb_G_shuffle 64 = .ok (.iastore, 1) := by decide +kernel
theorem jd_G_shuffle_65 : decode jb_G_shuffle 65 = .ok (.aload 4, 2) := by decide +kernel
theorem jd_G_shuffle_67 : decode jb_G_shuffle 67 = .ok (.iload 5, 2) := by decide +kernel
theorem jd_G_shuffle_69 : decode jb_G_shuffle 69 = .ok (.iload 7, 2) := by decide +kernel
theorem jd_G_shuffle_71 : decode jb_G_shuffle 71 = .ok (.iastore, 1) := by decide +kernel
theorem jd_G_shuffle_72 : decode jb_G_shuffle 72 = .ok (.iinc 5 (-1), 3) := by decide +kernel
theorem jd_G_shuffle_75 : decode jb_G_shuffle 75 = .ok (.goto (-43), 3) := by decide +kernel
theorem jd_G_shuffle_78 : decode jb_G_shuffle 78 = .ok (.return_, 1) := by decide +kernel
theorem jd_G_restart_0 : decode jb_G_restart 0 = .ok (.aload_n 0, 1) := by decide +kernel
theorem jd_G_restart_1 : decode jb_G_restart 1 = .ok (.lload_n 1, 1) := by decide +kernel
theorem jd_G_restart_2 : decode jb_G_restart 2 = .ok (.putfield 7, 3) := by decide +kernel
theorem jd_G_restart_5 : decode jb_G_restart 5 = .ok (.return_, 1) := by decide +kernel
theorem jd_G_drawBelow_0 : decode jb_G_drawBelow 0 = .ok (.iload_n 1, 1) := by decide +kernel
theorem jd_G_drawBelow_1 : decode jb_G_drawBelow 1 = .ok (.iconst 2, 1) := by decide +kernel
theorem jd_G_drawBelow_2 : decode jb_G_drawBelow 2 = .ok (.if_icmp .ge 5, 3) := by decide +kernel
theorem jd_G_drawBelow_5 : decode jb_G_drawBelow 5 = .ok (.iconst 0, 1) := by decide +kernel
theorem jd_G_drawBelow_6 : decode jb_G_drawBelow 6 = .ok (.ireturn, 1) := by decide +kernel
theorem jd_G_drawBelow_7 : decode jb_G_drawBelow 7 = .ok (.ldc2_w 20, 3) := by decide +kernel
theorem jd_G_drawBelow_10 : decode jb_G_drawBelow 10 = .ok (.iload_n 1, 1) := by decide +kernel
theorem jd_G_drawBelow_11 : decode jb_G_drawBelow 11 = .ok (.i2l, 1) := by decide +kernel
theorem jd_G_drawBelow_12 : decode jb_G_drawBelow 12 = .ok (.ldiv, 1) := by decide +kernel
theorem jd_G_drawBelow_13 : decode jb_G_drawBelow 13 = .ok (.iload_n 1, 1) := by decide +kernel
theorem jd_G_drawBelow_14 : decode jb_G_drawBelow 14 = .ok (.i2l, 1) := by decide +kernel
theorem jd_G_drawBelow_15 : decode jb_G_drawBelow 15 = .ok (.lmul, 1) := by decide +kernel
theorem jd_G_drawBelow_16 : decode jb_G_drawBelow 16 = .ok (.lstore_n 2, 1) := by decide +kernel
theorem jd_G_drawBelow_17 : decode jb_G_drawBelow 17 = .ok (.iconst 0, 1) := by decide +kernel
theorem jd_G_drawBelow_18 : decode jb_G_drawBelow 18 = .ok (.istore 4, 2) := by decide +kernel
theorem jd_G_drawBelow_20 : decode jb_G_drawBelow 20 = .ok (.iload 4, 2) := by decide +kernel
theorem jd_G_drawBelow_22 : decode jb_G_drawBelow 22 = .ok (.ldc 22, 2) := by decide +kernel
theorem jd_G_drawBelow_24 : decode jb_G_drawBelow 24 = .ok (.if_icmp .ge 36, 3) := by decide +kernel
theorem jd_G_drawBelow_27 : decode jb_G_drawBelow 27 = .ok (.aload_n 0, 1) := by decide +kernel
theorem jd_G_drawBelow_28 : decode jb_G_drawBelow 28 = .ok (.invokevirtual 17, 3) := by decide +kernel
theorem jd_G_drawBelow_31 : decode jb_G_drawBelow 31 = .ok (.aload_n 0, 1) := by decide +kernel
theorem jd_G_drawBelow_32 : decode jb_G_drawBelow 32 = .ok (.getfield 7, 3) := by decide +kernel
theorem jd_G_drawBelow_35 : decode jb_G_drawBelow 35 = .ok (.bipush 33, 2) := by decide +kernel
theorem jd_G_drawBelow_37 : decode jb_G_drawBelow 37 = .ok (.lushr, 1) := by decide +kernel
theorem jd_G_drawBelow_38 : decode jb_G_drawBelow 38 = .ok (.lstore 5, 2) := by decide +kernel
theorem jd_G_drawBelow_40 : decode jb_G_drawBelow 40 = .ok (.lload 5, 2) := by decide +kernel
theorem jd_G_drawBelow_42 : decode jb_G_drawBelow 42 = .ok (.lload_n 2, 1) := by decide +kernel
theorem jd_G_drawBelow_43 : decode jb_G_drawBelow 43 = .ok (.lcmp, 1) := by decide +kernel
theorem jd_G_drawBelow_44 : decode jb_G_drawBelow 44 = .ok (.ifCond .ge 10, 3) := by decide +kernel
theorem jd_G_drawBelow_47 : decode jb_G_drawBelow 47 = .ok (.lload 5, 2) := by decide +kernel
theorem jd_G_drawBelow_49 : decode jb_G_drawBelow 49 = .ok (.iload_n 1, 1) := by decide +kernel
theorem jd_G_drawBelow_50 : decode jb_G_drawBelow 50 = .ok (.i2l, 1) := by decide +kernel
theorem jd_G_drawBelow_51 : decode jb_G_drawBelow 51 = .ok (.lrem, 1) := by decide +kernel
theorem jd_G_drawBelow_52 : decode jb_G_drawBelow 52 = .ok (.l2i, 1) := by decide +kernel
theorem jd_G_drawBelow_53 : decode jb_G_drawBelow 53 = .ok (.ireturn, 1) := by decide +kernel
theorem jd_G_drawBelow_54 : decode jb_G_drawBelow 54 = .ok (.iinc 4 1, 3) := by decide +kernel
theorem jd_G_drawBelow_57 : decode jb_G_drawBelow 57 = .ok (.goto (-37), 3) := by decide +kernel
theorem jd_G_drawBelow_60 : decode jb_G_drawBelow 60 = .ok (.iconst 0, 1) := by decide +kernel
theorem jd_G_drawBelow_61 : decode jb_G_drawBelow 61 = .ok (.ireturn, 1) := by decide +kernel
theorem jd_G_advance_0 : decode jb_G_advance 0 = .ok (.aload_n 0, 1) := by decide +kernel
theorem jd_G_advance_1 : decode jb_G_advance 1 = .ok (.aload_n 0, 1) := by decide +kernel
theorem jd_G_advance_2 : decode jb_G_advance 2 = .ok (.getfield 7, 3) := by decide +kernel
theorem jd_G_advance_5 : decode jb_G_advance 5 = .ok (.ldc2_w 13, 3) := by decide +kernel
theorem jd_G_advance_8 : decode jb_G_advance 8 = .ok (.lmul, 1) := by decide +kernel
theorem jd_G_advance_9 : decode jb_G_advance 9 = .ok (.ldc2_w 15, 3) := by decide +kernel
theorem jd_G_advance_12 : decode jb_G_advance 12 = .ok (.ladd, 1) := by decide +kernel
theorem jd_G_advance_13 : decode jb_G_advance 13 = .ok (.putfield 7, 3) := by decide +kernel
theorem jd_G_advance_16 : decode jb_G_advance 16 = .ok (.return_, 1) := by decide +kernel
theorem jd_Arrays_fill_0 : decode jb_Arrays_fill 0 = .ok (.iconst 0, 1) := by decide +kernel
theorem jd_Arrays_fill_1 : decode jb_Arrays_fill 1 = .ok (.istore_n 2, 1) := by decide +kernel
theorem jd_Arrays_fill_2 : decode jb_Arrays_fill 2 = .ok (.aload_n 0, 1) := by decide +kernel
theorem jd_Arrays_fill_3 : decode jb_Arrays_fill 3 = .ok (.arraylength, 1) := by decide +kernel
theorem jd_Arrays_fill_4 : decode jb_Arrays_fill 4 = .ok (.istore_n 3, 1) := by decide +kernel
theorem jd_Arrays_fill_5 : decode jb_Arrays_fill 5 = .ok (.iload_n 2, 1) := by decide +kernel
theorem jd_Arrays_fill_6 : decode jb_Arrays_fill 6 = .ok (.iload_n 3, 1) := by decide +kernel
theorem jd_Arrays_fill_7 : decode jb_Arrays_fill 7 = .ok (.if_icmp .ge 13, 3) := by decide +kernel
theorem jd_Arrays_fill_10 : decode jb_Arrays_fill 10 = .ok (.aload_n 0, 1) := by decide +kernel
theorem jd_Arrays_fill_11 : decode jb_Arrays_fill 11 = .ok (.iload_n 2, 1) := by decide +kernel
theorem jd_Arrays_fill_12 : decode jb_Arrays_fill 12 = .ok (.iload_n 1, 1) := by decide +kernel
theorem jd_Arrays_fill_13 : decode jb_Arrays_fill 13 = .ok (.iastore, 1) := by decide +kernel
theorem jd_Arrays_fill_14 : decode jb_Arrays_fill 14 = .ok (.iinc 2 1, 3) := by decide +kernel
theorem jd_Arrays_fill_17 : decode jb_Arrays_fill 17 = .ok (.goto (-12), 3) := by decide +kernel
theorem jd_Arrays_fill_20 : decode jb_Arrays_fill 20 = .ok (.return_, 1) := by decide +kernel
theorem jd_S_leaveOut_0 : decode jb_S_leaveOut 0 = .ok (.iconst 0, 1) := by decide +kernel
theorem jd_S_leaveOut_1 : decode jb_S_leaveOut 1 = .ok (.istore_n 3, 1) := by decide +kernel
theorem jd_S_leaveOut_2 : decode jb_S_leaveOut 2 = .ok (.iconst 0, 1) := by decide +kernel
theorem jd_S_leaveOut_3 : decode jb_S_leaveOut 3 = .ok (.istore 4, 2) := by decide +kernel
theorem jd_S_leaveOut_5 : decode jb_S_leaveOut 5 = .ok (.iload 4, 2) := by decide +kernel
theorem jd_S_leaveOut_7 : decode jb_S_leaveOut 7 = .ok (.iload_n 2, 1) := by decide +kernel
theorem jd_S_leaveOut_8 : decode jb_S_leaveOut 8 = .ok (.if_icmp .ge 32, 3) := by decide +kernel
theorem jd_S_leaveOut_11 : decode jb_S_leaveOut 11 = .ok (.aload_n 1, 1) := by decide +kernel
theorem jd_S_leaveOut_12 : decode jb_S_leaveOut 12 = .ok (.iload 4, 2) := by decide +kernel
theorem jd_S_leaveOut_14 : decode jb_S_leaveOut 14 = .ok (.iaload, 1) := by decide +kernel
theorem jd_S_leaveOut_15 : decode jb_S_leaveOut 15 = .ok (.ifCond .ne 19, 3) := by decide +kernel
theorem jd_S_leaveOut_18 : decode jb_S_leaveOut 18 = .ok (.aload_n 0, 1) := by decide +kernel
theorem jd_S_leaveOut_19 : decode jb_S_leaveOut 19 = .ok (.getfield 25, 3) := by decide +kernel
theorem jd_S_leaveOut_22 : decode jb_S_leaveOut 22 = .ok (.iload_n 3, 1) := by decide +kernel
theorem jd_S_leaveOut_23 : decode jb_S_leaveOut 23 = .ok (.aload_n 0, 1) := by decide +kernel
theorem jd_S_leaveOut_24 : decode jb_S_leaveOut 24 = .ok (.getfield 25, 3) := by decide +kernel
theorem jd_S_leaveOut_27 : decode jb_S_leaveOut 27 = .ok (.iload 4, 2) := by decide +kernel
theorem jd_S_leaveOut_29 : decode jb_S_leaveOut 29 = .ok (.iaload, 1) := by decide +kernel
theorem jd_S_leaveOut_30 : decode jb_S_leaveOut 30 = .ok (.iastore, 1) := by decide +kernel
theorem jd_S_leaveOut_31 : decode jb_S_leaveOut 31 = .ok (.iinc 3 1, 3) := by decide +kernel
theorem jd_S_leaveOut_34 : decode jb_S_leaveOut 34 = .ok (.iinc 4 1, 3) := by decide +kernel
theorem jd_S_leaveOut_37 : decode jb_S_leaveOut 37 = .ok (.goto (-32), 3) := by decide +kernel
theorem jd_S_leaveOut_40 : decode jb_S_leaveOut 40 = .ok (.return_, 1) := by decide +kernel
theorem jd_E_send_0 : decode jb_E_send 0 = .ok (.aload_n 0, 1) := by decide +kernel
theorem jd_E_send_1 : decode jb_E_send 1 = .ok (.getfield 21, 3) := by decide +kernel
theorem jd_E_send_4 : decode jb_E_send 4 = .ok (.bipush 16, 2) := by decide +kernel
theorem jd_E_send_6 : decode jb_E_send 6 = .ok (.if_icmp .ne 4, 3) := by decide +kernel
theorem jd_E_send_9 : decode jb_E_send 9 = .ok (.return_, 1) := by decide +kernel
theorem jd_E_send_10 : decode jb_E_send 10 = .ok (.aload_n 0, 1) := by decide +kernel
theorem jd_E_send_11 : decode jb_E_send 11 = .ok (.getfield 9, 3) := by decide +kernel
theorem jd_E_send_14 : decode jb_E_send 14 = .ok (.aload_n 0, 1) := by decide +kernel
theorem jd_E_send_15 : decode jb_E_send 15 = .ok (.getfield 21, 3) := by decide +kernel
theorem jd_E_send_18 : decode jb_E_send 18 = .ok (.iload_n 1, 1) := by decide +kernel
theorem jd_E_send_19 : decode jb_E_send 19 = .ok (.iastore, 1) := by decide +kernel
theorem jd_E_send_20 : decode jb_E_send 20 = .ok (.aload_n 0, 1) := by decide +kernel
theorem jd_E_send_21 : decode jb_E_send 21 = .ok (.getfield 15, 3) := by decide +kernel
theorem jd_E_send_24 : decode jb_E_send 24 = .ok (.aload_n 0, 1) := by decide +kernel
theorem jd_E_send_25 : decode jb_E_send 25 = .ok (.getfield 21, 3) := by decide +kernel
theorem jd_E_send_28 : decode jb_E_send 28 = .ok (.iload_n 2, 1) := by decide +kernel
theorem jd_E_send_29 : decode jb_E_send 29 = .ok (.iastore, 1) := by decide +kernel
theorem jd_E_send_30 : decode jb_E_send 30 = .ok (.aload_n 0, 1) := by decide +kernel
theorem jd_E_send_31 : decode jb_E_send 31 = .ok (.getfield 18, 3) := by decide +kernel
theorem jd_E_send_34 : decode jb_E_send 34 = .ok (.aload_n 0, 1) := by decide +kernel
theorem jd_E_send_35 : decode jb_E_send 35 = .ok (.getfield 21, 3) := by decide +kernel
theorem jd_E_send_38 : decode jb_E_send 38 = .ok (.iload_n 3, 1) := by decide +kernel
theorem jd_E_send_39 : decode jb_E_send 39 = .ok (.iastore, 1) := by decide +kernel
theorem jd_E_send_40 : decode jb_E_send 40 = .ok (.aload_n 0, 1) := by decide +kernel
theorem jd_E_send_41 : decode jb_E_send 41 = .ok (.dup, 1) := by decide +kernel
theorem jd_E_send_42 : decode jb_E_send 42 = .ok (.getfield 21, 3) := by decide +kernel
theorem jd_E_send_45 : decode jb_E_send 45 = .ok (.iconst 1, 1) := by decide +kernel
theorem jd_E_send_46 : decode jb_E_send 46 = .ok (.iadd, 1) := by decide +kernel
theorem jd_E_send_47 : decode jb_E_send 47 = .ok (.putfield 21, 3) := by decide +kernel
theorem jd_E_send_50 : decode jb_E_send 50 = .ok (.return_, 1) := by decide +kernel
theorem jd_S_parity_0 : decode jb_S_parity 0 = .ok (.iconst 0, 1) := by decide +kernel
theorem jd_S_parity_1 : decode jb_S_parity 1 = .ok (.istore 4, 2) := by decide +kernel
theorem jd_S_parity_3 : decode jb_S_parity 3 = .ok (.iload_n 2, 1) := by decide +kernel
theorem jd_S_parity_4 : decode jb_S_parity 4 = .ok (.istore 5, 2) := by decide +kernel
theorem jd_S_parity_6 : decode jb_S_parity 6 = .ok (.iload 5, 2) := by decide +kernel
theorem jd_S_parity_8 : decode jb_S_parity 8 = .ok (.iload_n 3, 1) := by decide +kernel
theorem jd_S_parity_9 : decode jb_S_parity 9 = .ok (.if_icmp .ge 23, 3) := by decide +kernel
theorem jd_S_parity_12 : decode jb_S_parity 12 = .ok (.iload 4, 2) := by decide +kernel
theorem jd_S_parity_14 : decode jb_S_parity 14 = .ok (.aload_n 0, 1) := by decide +kernel
theorem jd_S_parity_15 : decode jb_S_parity 15 = .ok (.getfield 25, 3) := by decide +kernel
theorem jd_S_parity_18 : decode jb_S_parity 18 = .ok (.aload_n 1, 1) := by decide +kernel
theorem jd_S_parity_19 : decode jb_S_parity 19 = .ok (.iload 5, 2) := by decide +kernel
theorem jd_S_parity_21 : decode jb_S_parity 21 = .ok (.iaload, 1) := by decide +kernel
theorem jd_S_parity_22 : decode jb_S_parity 22 = .ok (.iaload, 1) := by decide +kernel
theorem jd_S_parity_23 : decode jb_S_parity 23 = .ok (.ixor, 1) := by decide +kernel
theorem jd_S_parity_24 : decode jb_S_parity 24 = .ok (.istore 4, 2) := by decide +kernel
theorem jd_S_parity_26 : decode jb_S_parity 26 = .ok (.iinc 5 1, 3) := by decide +kernel
theorem jd_S_parity_29 : decode jb_S_parity 29 = .ok (.goto (-23), 3) := by decide +kernel
theorem jd_S_parity_32 : decode jb_S_parity 32 = .ok (.iload 4, 2) := by decide +kernel
theorem jd_S_parity_34 : decode jb_S_parity 34 = .ok (.ireturn, 1) := by decide +kernel
theorem jd_E_takeOut_0 : decode jb_E_takeOut 0 = .ok (.iload_n 1, 1) := by decide +kernel
theorem jd_E_takeOut_1 : decode jb_E_takeOut 1 = .ok (.iconst 1, 1) := by decide +kernel
theorem jd_E_takeOut_2 : decode jb_E_takeOut 2 = .ok (.iadd, 1) := by decide +kernel
theorem jd_E_takeOut_3 : decode jb_E_takeOut 3 = .ok (.istore_n 2, 1) := by decide +kernel
theorem jd_E_takeOut_4 : decode jb_E_takeOut 4 = .ok (.iload_n 2, 1) := by decide +kernel
theorem jd_E_takeOut_5 : decode jb_E_takeOut 5 = .ok (.aload_n 0, 1) := by decide +kernel
theorem jd_E_takeOut_6 : decode jb_E_takeOut 6 = .ok (.getfield 21, 3) := by decide +kernel
theorem jd_E_takeOut_9 : decode jb_E_takeOut 9 = .ok (.if_icmp .ge 51, 3) := by decide +kernel
theorem jd_E_takeOut_12 : decode jb_E_takeOut 12 = .ok (.aload_n 0, 1) := by decide +kernel
theorem jd_E_takeOut_13 : decode jb_E_takeOut 13 = .ok (.getfield 9, 3) := by decide +kernel
theorem jd_E_takeOut_16 : decode jb_E_takeOut 16 = .ok (.iload_n 2, 1) := by decide +kernel
theorem jd_E_takeOut_17 : decode jb_E_takeOut 17 = .ok (.iconst 1, 1) := by decide +kernel
theorem jd_E_takeOut_18 : decode jb_E_takeOut 18 = .ok (.isub, 1) := by decide +kernel
theorem jd_E_takeOut_19 : decode jb_E_takeOut 19 = .ok (.aload_n 0, 1) := by decide +kernel
theorem jd_E_takeOut_20 : decode jb_E_takeOut 20 = .ok (.getfield 9, 3) := by decide +kernel
theorem jd_E_takeOut_23 : decode jb_E_takeOut 23 = .ok (.iload_n 2, 1) := by decide +kernel
theorem jd_E_takeOut_24 : decode jb_E_takeOut 24 = .ok (.iaload, 1) := by decide +kernel
theorem jd_E_takeOut_25 : decode jb_E_takeOut 25 = .ok (.iastore, 1) := by decide +kernel
theorem jd_E_takeOut_26 : decode jb_E_takeOut 26 = .ok (.aload_n 0, 1) := by decide +kernel
theorem jd_E_takeOut_27 : decode jb_E_takeOut 27 = .ok (.getfield 15, 3) := by decide +kernel
theorem jd_E_takeOut_30 : decode jb_E_takeOut 30 = .ok (.iload_n 2, 1) := by decide +kernel
theorem jd_E_takeOut_31 : decode jb_E_takeOut 31 = .ok (.iconst 1, 1) := by decide +kernel
theorem jd_E_takeOut_32 : decode jb_E_takeOut 32 = .ok (.isub, 1) := by decide +kernel
theorem jd_E_takeOut_33 : decode jb_E_takeOut 33 = .ok (.aload_n 0, 1) := by decide +kernel
theorem jd_E_takeOut_34 : decode jb_E_takeOut 34 = .ok (.getfield 15, 3) := by decide +kernel
theorem jd_E_takeOut_37 : decode jb_E_takeOut 37 = .ok (.iload_n 2, 1) := by decide +kernel
theorem jd_E_takeOut_38 : decode jb_E_takeOut 38 = .ok (.iaload, 1) := by decide +kernel
theorem jd_E_takeOut_39 : decode jb_E_takeOut 39 = .ok (.iastore, 1) := by decide +kernel
theorem jd_E_takeOut_40 : decode jb_E_takeOut 40 = .ok (.aload_n 0, 1) := by decide +kernel
theorem jd_E_takeOut_41 : decode jb_E_takeOut 41 = .ok (.getfield 18, 3) := by decide +kernel
theorem jd_E_takeOut_44 : decode jb_E_takeOut 44 = .ok (.iload_n 2, 1) := by decide +kernel
theorem jd_E_takeOut_45 : decode jb_E_takeOut 45 = .ok (.iconst 1, 1) := by decide +kernel
theorem jd_E_takeOut_46 : decode jb_E_takeOut 46 = .ok (.isub, 1) := by decide +kernel
theorem jd_E_takeOut_47 : decode jb_E_takeOut 47 = .ok (.aload_n 0, 1) := by decide +kernel
theorem jd_E_takeOut_48 : decode jb_E_takeOut 48 = .ok (.getfield 18, 3) := by decide +kernel
theorem jd_E_takeOut_51 : decode jb_E_takeOut 51 = .ok (.iload_n 2, 1) := by decide +kernel
theorem jd_E_takeOut_52 : decode jb_E_takeOut 52 = .ok (.iaload, 1) := by decide +kernel
theorem jd_E_takeOut_53 : decode jb_E_takeOut 53 = .ok (.iastore, 1) := by decide +kernel
theorem jd_E_takeOut_54 : decode jb_E_takeOut 54 = .ok (.iinc 2 1, 3) := by decide +kernel
theorem jd_E_takeOut_57 : decode jb_E_takeOut 57 = .ok (.goto (-53), 3) := by decide +kernel
theorem jd_E_takeOut_60 : decode jb_E_takeOut 60 = .ok (.aload_n 0, 1) := by decide +kernel
theorem jd_E_takeOut_61 : decode jb_E_takeOut 61 = .ok (.dup, 1) := by decide +kernel
theorem jd_E_takeOut_62 : decode jb_E_takeOut 62 = .ok (.getfield 21, 3) := by decide +kernel
theorem jd_E_takeOut_65 : decode jb_E_takeOut 65 = .ok (.iconst 1, 1) := by decide +kernel
theorem jd_E_takeOut_66 : decode jb_E_takeOut 66 = .ok (.isub, 1) := by decide +kernel
theorem jd_E_takeOut_67 : decode jb_E_takeOut 67 = .ok (.putfield 21, 3) := by decide +kernel
theorem jd_E_takeOut_70 : decode jb_E_takeOut 70 = .ok (.return_, 1) := by decide +kernel
theorem jd_S_tagWith_0 : decode jb_S_tagWith 0 = .ok (.iconst 0, 1) := by decide +kernel
theorem jd_S_tagWith_1 : decode jb_S_tagWith 1 = .ok (.istore_n 3, 1) := by decide +kernel
theorem jd_S_tagWith_2 : decode jb_S_tagWith 2 = .ok (.iconst 0, 1) := by decide +kernel
theorem jd_S_tagWith_3 : decode jb_S_tagWith 3 = .ok (.istore 4, 2) := by decide +kernel
theorem jd_S_tagWith_5 : decode jb_S_tagWith 5 = .ok (.iload 4, 2) := by decide +kernel
theorem jd_S_tagWith_7 : decode jb_S_tagWith 7 = .ok (.iload_n 2, 1) := by decide +kernel
theorem jd_S_tagWith_8 : decode jb_S_tagWith 8 = .ok (.if_icmp .ge 31, 3) := by decide +kernel
theorem jd_S_tagWith_11 : decode jb_S_tagWith 11 = .ok (.iload_n 1, 1) := by decide +kernel
theorem jd_S_tagWith_12 : decode jb_S_tagWith 12 = .ok (.iload_n 3, 1) := by decide +kernel
theorem jd_S_tagWith_13 : decode jb_S_tagWith 13 = .ok (.aload_n 0, 1) := by decide +kernel
theorem jd_S_tagWith_14 : decode jb_S_tagWith 14 = .ok (.iload 4, 2) := by decide +kernel
theorem jd_S_tagWith_16 : decode jb_S_tagWith 16 = .ok (.iload 4, 2) := by decide +kernel
theorem jd_S_tagWith_18 : decode jb_S_tagWith 18 = .ok (.bipush 16, 2) := by decide +kernel
theorem jd_S_tagWith_20 : decode jb_S_tagWith 20 = .ok (.iadd, 1) := by decide +kernel
theorem jd_S_tagWith_21 : decode jb_S_tagWith 21 = .ok (.iload_n 2, 1) := by decide +kernel
theorem jd_S_tagWith_22 : decode jb_S_tagWith 22 = .ok (.invokestatic 32, 3) := by decide +kernel
theorem jd_S_tagWith_25 : decode jb_S_tagWith 25 = .ok (.invokevirtual 38, 3) := by decide +kernel
theorem jd_S_tagWith_28 : decode jb_S_tagWith 28 = .ok (.ixor, 1) := by decide +kernel
theorem jd_S_tagWith_29 : decode jb_S_tagWith 29 = .ok (.invokestatic 41, 3) := by decide +kernel
theorem jd_S_tagWith_32 : decode jb_S_tagWith 32 = .ok (.istore_n 3, 1) := by decide +kernel
theorem jd_S_tagWith_33 : decode jb_S_tagWith 33 = .ok (.iinc 4 16, 3) := by decide +kernel
theorem jd_S_tagWith_36 : decode jb_S_tagWith 36 = .ok (.goto (-31), 3) := by decide +kernel
theorem jd_S_tagWith_39 : decode jb_S_tagWith 39 = .ok (.iload_n 1, 1) := by decide +kernel
theorem jd_S_tagWith_40 : decode jb_S_tagWith 40 = .ok (.iload_n 3, 1) := by decide +kernel
theorem jd_S_tagWith_41 : decode jb_S_tagWith 41 = .ok (.iload_n 2, 1) := by decide +kernel
theorem jd_S_tagWith_42 : decode jb_S_tagWith 42 = .ok (.ixor, 1) := by decide +kernel
theorem jd_S_tagWith_43 : decode jb_S_tagWith 43 = .ok (.invokestatic 41, 3) := by decide +kernel
theorem jd_S_tagWith_46 : decode jb_S_tagWith 46 = .ok (.ireturn, 1) := by decide +kernel
theorem jd_S_word_0 : decode jb_S_word 0 = .ok (.iconst 0, 1) := by decide +kernel
theorem jd_S_word_1 : decode jb_S_word 1 = .ok (.istore_n 3, 1) := by decide +kernel
theorem jd_S_word_2 : decode jb_S_word 2 = .ok (.iload_n 1, 1) := by decide +kernel
theorem jd_S_word_3 : decode jb_S_word 3 = .ok (.istore 4, 2) := by decide +kernel
theorem jd_S_word_5 : decode jb_S_word 5 = .ok (.iload 4, 2) := by decide +kernel
theorem jd_S_word_7 : decode jb_S_word 7 = .ok (.iload_n 2, 1) := by decide +kernel
theorem jd_S_word_8 : decode jb_S_word 8 = .ok (.if_icmp .ge 24, 3) := by decide +kernel
theorem jd_S_word_11 : decode jb_S_word 11 = .ok (.iload_n 3, 1) := by decide +kernel
theorem jd_S_word_12 : decode jb_S_word 12 = .ok (.aload_n 0, 1) := by decide +kernel
theorem jd_S_word_13 : decode jb_S_word 13 = .ok (.getfield 25, 3) := by decide +kernel
theorem jd_S_word_16 : decode jb_S_word 16 = .ok (.iload 4, 2) := by decide +kernel
theorem jd_S_word_18 : decode jb_S_word 18 = .ok (.iaload, 1) := by decide +kernel
theorem jd_S_word_19 : decode jb_S_word 19 = .ok (.iload 4, 2) := by decide +kernel
theorem jd_S_word_21 : decode jb_S_word 21 = .ok (.iload_n 1, 1) := by decide +kernel
theorem jd_S_word_22 : decode jb_S_word 22 = .ok (.isub, 1) := by decide +kernel
theorem jd_S_word_23 : decode jb_S_word 23 = .ok (.ishl, 1) := by decide +kernel
theorem jd_S_word_24 : decode jb_S_word 24 = .ok (.ior, 1) := by decide +kernel
theorem jd_S_word_25 : decode jb_S_word 25 = .ok (.istore_n 3, 1) := by decide +kernel
theorem jd_S_word_26 : decode jb_S_word 26 = .ok (.iinc 4 1, 3) := by decide +kernel
theorem jd_S_word_29 : decode jb_S_word 29 = .ok (.goto (-24), 3) := by decide +kernel
theorem jd_S_word_32 : decode jb_S_word 32 = .ok (.iload_n 3, 1) := by decide +kernel
theorem jd_S_word_33 : decode jb_S_word 33 = .ok (.ireturn, 1) := by decide +kernel
theorem jd_S_product_0 : decode jb_S_product 0 = .ok (.iconst 0, 1) := by decide +kernel
theorem jd_S_product_1 : decode jb_S_product 1 = .ok (.istore_n 2, 1) := by decide +kernel
theorem jd_S_product_2 : decode jb_S_product 2 = .ok (.iload_n 0, 1) := by decide +kernel
theorem jd_S_product_3 : decode jb_S_product 3 = .ok (.istore_n 3, 1) := by decide +kernel
theorem jd_S_product_4 : decode jb_S_product 4 = .ok (.iconst 0, 1) := by decide +kernel
theorem jd_S_product_5 : decode jb_S_product 5 = .ok (.istore 4, 2) := by decide +kernel
theorem jd_S_product_7 : decode jb_S_product 7 = .ok (.iload 4, 2) := by decide +kernel
theorem jd_S_product_9 : decode jb_S_product 9 = .ok (.bipush 16, 2) := by decide +kernel
theorem jd_S_product_11 : decode jb_S_product 11 = .ok (.if_icmp .ge 38, 3) := by decide +kernel
theorem jd_S_product_14 : decode jb_S_product 14 = .ok (.iload_n 1, 1) := by decide +kernel
theorem jd_S_product_15 : decode jb_S_product 15 = .ok (.iload 4, 2) := by decide +kernel
theorem jd_S_product_17 : decode jb_S_product 17 = .ok (.iushr, 1) := by decide +kernel
theorem jd_S_product_18 : decode jb_S_product 18 = .ok (.iconst 1, 1) := by decide +kernel
theorem jd_S_product_19 : decode jb_S_product 19 = .ok (.iand, 1) := by decide +kernel
theorem jd_S_product_20 : decode jb_S_product 20 = .ok (.iconst 1, 1) := by decide +kernel
theorem jd_S_product_21 : decode jb_S_product 21 = .ok (.if_icmp .ne 7, 3) := by decide +kernel
theorem jd_S_product_24 : decode jb_S_product 24 = .ok (.iload_n 2, 1) := by decide +kernel
theorem jd_S_product_25 : decode jb_S_product 25 = .ok (.iload_n 3, 1) := by decide +kernel
theorem jd_S_product_26 : decode jb_S_product 26 = .ok (.ixor, 1) := by decide +kernel
theorem jd_S_product_27 : decode jb_S_product 27 = .ok (.istore_n 2, 1) := by decide +kernel
theorem jd_S_product_28 : decode jb_S_product 28 = .ok (.iload_n 3, 1) := by decide +kernel
theorem jd_S_product_29 : decode jb_S_product 29 = .ok (.iconst 1, 1) := by decide +kernel
theorem jd_S_product_30 : decode jb_S_product 30 = .ok (.ishl, 1) := by decide +kernel
theorem jd_S_product_31 : decode jb_S_product 31 = .ok (.istore_n 3, 1) := by decide +kernel
theorem jd_S_product_32 : decode jb_S_product 32 = .ok (.iload_n 3, 1) := by decide +kernel
theorem jd_S_product_33 : decode jb_S_product 33 = .ok (.ldc 44, 2) := by decide +kernel
theorem jd_S_product_35 : decode jb_S_product 35 = .ok (.if_icmp .le 8, 3) := by decide +kernel
theorem jd_S_product_38 : decode jb_S_product 38 = .ok (.iload_n 3, 1) := by decide +kernel
theorem jd_S_product_39 : decode jb_S_product 39 = .ok (.ldc 45, 2) := by decide +kernel
theorem jd_S_product_41 : decode jb_S_product 41 = .ok (.ixor, 1) := by decide +kernel
theorem jd_S_product_42 : decode jb_S_product 42 = .ok (.istore_n 3, 1) := by decide +kernel
theorem jd_S_product_43 : decode jb_S_product 43 = .ok (.iinc 4 1, 3) := by decide +kernel
theorem jd_S_product_46 : decode jb_S_product 46 = .ok (.goto (-39), 3) := by decide +kernel
theorem jd_S_product_49 : decode jb_S_product 49 = .ok (.iload_n 2, 1) := by decide +kernel
theorem jd_S_product_50 : decode jb_S_product 50 = .ok (.ireturn, 1) := by decide +kernel
theorem jd_G_drawBit_0 : decode jb_G_drawBit 0 = .ok (.aload_n 0, 1) := by decide +kernel
theorem jd_G_drawBit_1 : decode jb_G_drawBit 1 = .ok (.invokevirtual 17, 3) := by decide +kernel
theorem jd_G_drawBit_4 : decode jb_G_drawBit 4 = .ok (.aload_n 0, 1) := by decide +kernel
theorem jd_G_drawBit_5 : decode jb_G_drawBit 5 = .ok (.getfield 7, 3) := by decide +kernel
theorem jd_G_drawBit_8 : decode jb_G_drawBit 8 = .ok (.bipush 63, 2) := by decide +kernel
theorem jd_G_drawBit_10 : decode jb_G_drawBit 10 = .ok (.lushr, 1) := by decide +kernel
theorem jd_G_drawBit_11 : decode jb_G_drawBit 11 = .ok (.l2i, 1) := by decide +kernel
theorem jd_G_drawBit_12 : decode jb_G_drawBit 12 = .ok (.ireturn, 1) := by decide +kernel
