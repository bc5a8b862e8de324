/-! the instructions, decoded. Printed by wip/gen/gen04.py -/
theorem jd_K_init_0 : decode jb_K_init 0 = .ok (.aload_n 0, 1) := by decide +kernel
theorem jd_K_init_1 : decode jb_K_init 1 = .ok (.invokespecial 1, 3) := by decide +kernel
theorem jd_K_init_4 : decode jb_K_init 4 = .ok (.aload_n 0, 1) := by decide +kernel
theorem jd_K_init_5 : decode jb_K_init 5 = .ok (.new 7, 3) := by decide +kernel
theorem jd_K_init_8 : decode jb_K_init 8 = .ok (.dup, 1) := by decide +kernel
theorem jd_K_init_9 : decode jb_K_init 9 = .ok (.invokespecial 9, 3) := by decide +kernel
theorem jd_K_init_12 : decode jb_K_init 12 = .ok (.putfield 10, 3) := by decide +kernel
theorem jd_K_init_15 : decode jb_K_init 15 = .ok (.aload_n 0, 1) := by decide +kernel
theorem jd_K_init_16 : decode jb_K_init 16 = .ok (.new 7, 3) := by decide +kernel
theorem jd_K_init_19 : decode jb_K_init 19 = .ok (.dup, 1) := by decide +kernel
theorem jd_K_init_20 : decode jb_K_init 20 = .ok (.invokespecial 9, 3) := by decide +kernel
theorem jd_K_init_23 : decode jb_K_init 23 = .ok (.putfield 16, 3) := by decide +kernel
theorem jd_K_init_26 : decode jb_K_init 26 = .ok (.aload_n 0, 1) := by decide +kernel
theorem jd_K_init_27 : decode jb_K_init 27 = .ok (.new 19, 3) := by decide +kernel
theorem jd_K_init_30 : decode jb_K_init 30 = .ok (.dup, 1) := by decide +kernel
theorem jd_K_init_31 : decode jb_K_init 31 = .ok (.invokespecial 21, 3) := by decide +kernel
theorem jd_K_init_34 : decode jb_K_init 34 = .ok (.putfield 22, 3) := by decide +kernel
theorem jd_K_init_37 : decode jb_K_init 37 = .ok (.aload_n 0, 1) := by decide +kernel
theorem jd_K_init_38 : decode jb_K_init 38 = .ok (.new 26, 3) := by decide +kernel
theorem jd_K_init_41 : decode jb_K_init 41 = .ok (.dup, 1) := by decide +kernel
theorem jd_K_init_42 : decode jb_K_init 42 = .ok (.aload_n 0, 1) := by decide +kernel
theorem jd_K_init_43 : decode jb_K_init 43 = .ok (.getfield 10, 3) := by decide +kernel
theorem jd_K_init_46 : decode jb_K_init 46 = .ok (.aload_n 0, 1) := by decide +kernel
theorem jd_K_init_47 : decode jb_K_init 47 = .ok (.getfield 16, 3) := by decide +kernel
theorem jd_K_init_50 : decode jb_K_init 50 = .ok (.invokespecial 28, 3) := by decide +kernel
theorem jd_K_init_53 : decode jb_K_init 53 = .ok (.putfield 31, 3) := by decide +kernel
theorem jd_K_init_56 : decode jb_K_init 56 = .ok (.aload_n 0, 1) := by decide +kernel
theorem jd_K_init_57 : decode jb_K_init 57 = .ok (.sipush 128, 3) := by decide +kernel
theorem jd_K_init_60 : decode jb_K_init 60 = .ok (.newarray .int, 2) := by decide +kernel
theorem jd_K_init_62 : decode jb_K_init 62 = .ok (.putfield 35, 3) := by decide +kernel
theorem jd_K_init_65 : decode jb_K_init 65 = .ok (.aload_n 0, 1) := by decide +kernel
theorem jd_K_init_66 : decode jb_K_init 66 = .ok (.sipush 128, 3) := by decide +kernel
theorem jd_K_init_69 : decode jb_K_init 69 = .ok (.newarray .int, 2) := by decide +kernel
theorem jd_K_init_71 : decode jb_K_init 71 = .ok (.putfield 39, 3) := by decide +kernel
theorem jd_K_init_74 : decode jb_K_init 74 = .ok (.aload_n 0, 1) := by decide +kernel
theorem jd_K_init_75 : decode jb_K_init 75 = .ok (.sipush 256, 3) := by decide +kernel
theorem jd_K_init_78 : decode jb_K_init 78 = .ok (.newarray .int, 2) := by decide +kernel
theorem jd_K_init_80 : decode jb_K_init 80 = .ok (.putfield 42, 3) := by decide +kernel
theorem jd_K_init_83 : decode jb_K_init 83 = .ok (.aload_n 0, 1) := by decide +kernel
theorem jd_K_init_84 : decode jb_K_init 84 = .ok (.iconst (-1), 1) := by decide +kernel
theorem jd_K_init_85 : decode jb_K_init 85 = .ok (.putfield 45, 3) := by decide +kernel
theorem jd_K_init_88 : decode jb_K_init 88 = .ok (.return_, 1) := by decide +kernel
theorem jd_K_length_0 : decode jb_K_length 0 = .ok (.aload_n 0, 1) := by decide +kernel
theorem jd_K_length_1 : decode jb_K_length 1 = .ok (.getfield 45, 3) := by decide +kernel
theorem jd_K_length_4 : decode jb_K_length 4 = .ok (.ireturn, 1) := by decide +kernel
theorem jd_K_sampled_0 : decode jb_K_sampled 0 = .ok (.iload_n 1, 1) := by decide +kernel
theorem jd_K_sampled_1 : decode jb_K_sampled 1 = .ok (.lookupswitch 37 #[(0, 27), (1, 32)], 27) := by decide +kernel
theorem jd_K_sampled_28 : decode jb_K_sampled 28 = .ok (.aload_n 0, 1) := by decide +kernel
theorem jd_K_sampled_29 : decode jb_K_sampled 29 = .ok (.getfield 115, 3) := by decide +kernel
theorem jd_K_sampled_32 : decode jb_K_sampled 32 = .ok (.ireturn, 1) := by decide +kernel
theorem jd_K_sampled_33 : decode jb_K_sampled 33 = .ok (.aload_n 0, 1) := by decide +kernel
theorem jd_K_sampled_34 : decode jb_K_sampled 34 = .ok (.getfield 118, 3) := by decide +kernel
theorem jd_K_sampled_37 : decode jb_K_sampled 37 = .ok (.ireturn, 1) := by decide +kernel
theorem jd_K_sampled_38 : decode jb_K_sampled 38 = .ok (.iconst (-1), 1) := by decide +kernel
theorem jd_K_sampled_39 : decode jb_K_sampled 39 = .ok (.ireturn, 1) := by decide +kernel
theorem jd_K_told_0 : decode jb_K_told 0 = .ok (.aload_n 0, 1) := by decide +kernel
theorem jd_K_told_1 : decode jb_K_told 1 = .ok (.getfield 31, 3) := by decide +kernel
theorem jd_K_told_4 : decode jb_K_told 4 = .ok (.getfield 133, 3) := by decide +kernel
theorem jd_K_told_7 : decode jb_K_told 7 = .ok (.iload_n 1, 1) := by decide +kernel
theorem jd_K_told_8 : decode jb_K_told 8 = .ok (.invokevirtual 144, 3) := by decide +kernel
theorem jd_K_told_11 : decode jb_K_told 11 = .ok (.ifCond .eq 15, 3) := by decide +kernel
theorem jd_K_told_14 : decode jb_K_told 14 = .ok (.aload_n 0, 1) := by decide +kernel
theorem jd_K_told_15 : decode jb_K_told 15 = .ok (.getfield 31, 3) := by decide +kernel
theorem jd_K_told_18 : decode jb_K_told 18 = .ok (.iload_n 1, 1) := by decide +kernel
theorem jd_K_told_19 : decode jb_K_told 19 = .ok (.iload_n 2, 1) := by decide +kernel
theorem jd_K_told_20 : decode jb_K_told 20 = .ok (.invokevirtual 174, 3) := by decide +kernel
theorem jd_K_told_23 : decode jb_K_told 23 = .ok (.goto 4, 3) := by decide +kernel
theorem jd_K_told_26 : decode jb_K_told 26 = .ok (.iconst (-1), 1) := by decide +kernel
theorem jd_K_told_27 : decode jb_K_told 27 = .ok (.ireturn, 1) := by decide +kernel
theorem jd_K_done_0 : decode jb_K_done 0 = .ok (.aload_n 0, 1) := by decide +kernel
theorem jd_K_done_1 : decode jb_K_done 1 = .ok (.getfield 31, 3) := by decide +kernel
theorem jd_K_done_4 : decode jb_K_done 4 = .ok (.invokevirtual 183, 3) := by decide +kernel
theorem jd_K_done_7 : decode jb_K_done 7 = .ok (.ireturn, 1) := by decide +kernel
theorem jd_K_pass_0 : decode jb_K_pass 0 = .ok (.aload_n 0, 1) := by decide +kernel
theorem jd_K_pass_1 : decode jb_K_pass 1 = .ok (.getfield 31, 3) := by decide +kernel
theorem jd_K_pass_4 : decode jb_K_pass 4 = .ok (.getfield 186, 3) := by decide +kernel
theorem jd_K_pass_7 : decode jb_K_pass 7 = .ok (.ireturn, 1) := by decide +kernel
theorem jd_K_disclosed_0 : decode jb_K_disclosed 0 = .ok (.aload_n 0, 1) := by decide +kernel
theorem jd_K_disclosed_1 : decode jb_K_disclosed 1 = .ok (.getfield 31, 3) := by decide +kernel
theorem jd_K_disclosed_4 : decode jb_K_disclosed 4 = .ok (.getfield 189, 3) := by decide +kernel
theorem jd_K_disclosed_7 : decode jb_K_disclosed 7 = .ok (.ireturn, 1) := by decide +kernel
theorem jd_K_answered_0 : decode jb_K_answered 0 = .ok (.iload_n 1, 1) := by decide +kernel
theorem jd_K_answered_1 : decode jb_K_answered 1 = .ok (.ifCond .lt 26, 3) := by decide +kernel
theorem jd_K_answered_4 : decode jb_K_answered 4 = .ok (.iload_n 1, 1) := by decide +kernel
theorem jd_K_answered_5 : decode jb_K_answered 5 = .ok (.aload_n 0, 1) := by decide +kernel
theorem jd_K_answered_6 : decode jb_K_answered 6 = .ok (.getfield 31, 3) := by decide +kernel
theorem jd_K_answered_9 : decode jb_K_answered 9 = .ok (.getfield 189, 3) := by decide +kernel
theorem jd_K_answered_12 : decode jb_K_answered 12 = .ok (.if_icmp .ge 15, 3) := by decide +kernel
theorem jd_K_answered_15 : decode jb_K_answered 15 = .ok (.aload_n 0, 1) := by decide +kernel
theorem jd_K_answered_16 : decode jb_K_answered 16 = .ok (.getfield 31, 3) := by decide +kernel
theorem jd_K_answered_19 : decode jb_K_answered 19 = .ok (.getfield 192, 3) := by decide +kernel
theorem jd_K_answered_22 : decode jb_K_answered 22 = .ok (.iload_n 1, 1) := by decide +kernel
theorem jd_K_answered_23 : decode jb_K_answered 23 = .ok (.iaload, 1) := by decide +kernel
theorem jd_K_answered_24 : decode jb_K_answered 24 = .ok (.goto 4, 3) := by decide +kernel
theorem jd_K_answered_27 : decode jb_K_answered 27 = .ok (.iconst (-1), 1) := by decide +kernel
theorem jd_K_answered_28 : decode jb_K_answered 28 = .ok (.ireturn, 1) := by decide +kernel
theorem jd_K_record_0 : decode jb_K_record 0 = .ok (.iload_n 1, 1) := by decide +kernel
theorem jd_K_record_1 : decode jb_K_record 1 = .ok (.invokestatic 49, 3) := by decide +kernel
theorem jd_K_record_4 : decode jb_K_record 4 = .ok (.ifCond .eq 27, 3) := by decide +kernel
theorem jd_K_record_7 : decode jb_K_record 7 = .ok (.iload_n 3, 1) := by decide +kernel
theorem jd_K_record_8 : decode jb_K_record 8 = .ok (.iconst 1, 1) := by decide +kernel
theorem jd_K_record_9 : decode jb_K_record 9 = .ok (.if_icmp .lt 22, 3) := by decide +kernel
theorem jd_K_record_12 : decode jb_K_record 12 = .ok (.iload_n 3, 1) := by decide +kernel
theorem jd_K_record_13 : decode jb_K_record 13 = .ok (.bipush 32, 2) := by decide +kernel
theorem jd_K_record_15 : decode jb_K_record 15 = .ok (.if_icmp .gt 16, 3) := by decide +kernel
theorem jd_K_record_18 : decode jb_K_record 18 = .ok (.iload_n 2, 1) := by decide +kernel
theorem jd_K_record_19 : decode jb_K_record 19 = .ok (.ifCond .lt 12, 3) := by decide +kernel
theorem jd_K_record_22 : decode jb_K_record 22 = .ok (.iload_n 2, 1) := by decide +kernel
theorem jd_K_record_23 : decode jb_K_record 23 = .ok (.sipush 128, 3) := by decide +kernel
theorem jd_K_record_26 : decode jb_K_record 26 = .ok (.iload_n 3, 1) := by decide +kernel
theorem jd_K_record_27 : decode jb_K_record 27 = .ok (.isub, 1) := by decide +kernel
theorem jd_K_record_28 : decode jb_K_record 28 = .ok (.if_icmp .le 13, 3) := by decide +kernel
theorem jd_K_record_31 : decode jb_K_record 31 = .ok (.new 53, 3) := by decide +kernel
theorem jd_K_record_34 : decode jb_K_record 34 = .ok (.dup, 1) := by decide +kernel
theorem jd_K_record_35 : decode jb_K_record 35 = .ok (.ldc 55, 2) := by decide +kernel
theorem jd_K_record_37 : decode jb_K_record 37 = .ok (.invokespecial 57, 3) := by decide +kernel
theorem jd_K_record_40 : decode jb_K_record 40 = .ok (.athrow, 1) := by decide +kernel
theorem jd_K_record_41 : decode jb_K_record 41 = .ok (.aload_n 0, 1) := by decide +kernel
theorem jd_K_record_42 : decode jb_K_record 42 = .ok (.iload_n 1, 1) := by decide +kernel
theorem jd_K_record_43 : decode jb_K_record 43 = .ok (.invokevirtual 60, 3) := by decide +kernel
theorem jd_K_record_46 : decode jb_K_record 46 = .ok (.astore 7, 2) := by decide +kernel
theorem jd_K_record_48 : decode jb_K_record 48 = .ok (.aload_n 0, 1) := by decide +kernel
theorem jd_K_record_49 : decode jb_K_record 49 = .ok (.invokevirtual 64, 3) := by decide +kernel
theorem jd_K_record_52 : decode jb_K_record 52 = .ok (.ifCond .ne 13, 3) := by decide +kernel
theorem jd_K_record_55 : decode jb_K_record 55 = .ok (.aload 7, 2) := by decide +kernel
theorem jd_K_record_57 : decode jb_K_record 57 = .ok (.iload_n 2, 1) := by decide +kernel
theorem jd_K_record_58 : decode jb_K_record 58 = .ok (.iload_n 3, 1) := by decide +kernel
theorem jd_K_record_59 : decode jb_K_record 59 = .ok (.invokevirtual 68, 3) := by decide +kernel
theorem jd_K_record_62 : decode jb_K_record 62 = .ok (.ifCond .eq 13, 3) := by decide +kernel
theorem jd_K_record_65 : decode jb_K_record 65 = .ok (.new 72, 3) := by decide +kernel
theorem jd_K_record_68 : decode jb_K_record 68 = .ok (.dup, 1) := by decide +kernel
theorem jd_K_record_69 : decode jb_K_record 69 = .ok (.ldc 74, 2) := by decide +kernel
theorem jd_K_record_71 : decode jb_K_record 71 = .ok (.invokespecial 76, 3) := by decide +kernel
theorem jd_K_record_74 : decode jb_K_record 74 = .ok (.athrow, 1) := by decide +kernel
theorem jd_K_record_75 : decode jb_K_record 75 = .ok (.aload 7, 2) := by decide +kernel
theorem jd_K_record_77 : decode jb_K_record 77 = .ok (.iload_n 2, 1) := by decide +kernel
theorem jd_K_record_78 : decode jb_K_record 78 = .ok (.iload_n 3, 1) := by decide +kernel
theorem jd_K_record_79 : decode jb_K_record 79 = .ok (.iload 4, 2) := by decide +kernel
theorem jd_K_record_81 : decode jb_K_record 81 = .ok (.iload 5, 2) := by decide +kernel
theorem jd_K_record_83 : decode jb_K_record 83 = .ok (.iload 6, 2) := by decide +kernel
theorem jd_K_record_85 : decode jb_K_record 85 = .ok (.invokevirtual 77, 3) := by decide +kernel
theorem jd_K_record_88 : decode jb_K_record 88 = .ok (.aload 7, 2) := by decide +kernel
theorem jd_K_record_90 : decode jb_K_record 90 = .ok (.getfield 81, 3) := by decide +kernel
theorem jd_K_record_93 : decode jb_K_record 93 = .ok (.ireturn, 1) := by decide +kernel
theorem jd_K_isStation_0 : decode jb_K_isStation 0 = .ok (.iload_n 0, 1) := by decide +kernel
theorem jd_K_isStation_1 : decode jb_K_isStation 1 = .ok (.ifCond .eq 8, 3) := by decide +kernel
theorem jd_K_isStation_4 : decode jb_K_isStation 4 = .ok (.iload_n 0, 1) := by decide +kernel
theorem jd_K_isStation_5 : decode jb_K_isStation 5 = .ok (.iconst 1, 1) := by decide +kernel
theorem jd_K_isStation_6 : decode jb_K_isStation 6 = .ok (.if_icmp .ne 7, 3) := by decide +kernel
theorem jd_K_isStation_9 : decode jb_K_isStation 9 = .ok (.iconst 1, 1) := by decide +kernel
theorem jd_K_isStation_10 : decode jb_K_isStation 10 = .ok (.goto 4, 3) := by decide +kernel
theorem jd_K_isStation_13 : decode jb_K_isStation 13 = .ok (.iconst 0, 1) := by decide +kernel
theorem jd_K_isStation_14 : decode jb_K_isStation 14 = .ok (.ireturn, 1) := by decide +kernel
theorem jd_K_stationOf_0 : decode jb_K_stationOf 0 = .ok (.iload_n 1, 1) := by decide +kernel
theorem jd_K_stationOf_1 : decode jb_K_stationOf 1 = .ok (.ifCond .ne 10, 3) := by decide +kernel
theorem jd_K_stationOf_4 : decode jb_K_stationOf 4 = .ok (.aload_n 0, 1) := by decide +kernel
theorem jd_K_stationOf_5 : decode jb_K_stationOf 5 = .ok (.getfield 10, 3) := by decide +kernel
theorem jd_K_stationOf_8 : decode jb_K_stationOf 8 = .ok (.goto 7, 3) := by decide +kernel
theorem jd_K_stationOf_11 : decode jb_K_stationOf 11 = .ok (.aload_n 0, 1) := by decide +kernel
theorem jd_K_stationOf_12 : decode jb_K_stationOf 12 = .ok (.getfield 16, 3) := by decide +kernel
theorem jd_K_stationOf_15 : decode jb_K_stationOf 15 = .ok (.areturn, 1) := by decide +kernel
theorem jd_K_isSifted_0 : decode jb_K_isSifted 0 = .ok (.aload_n 0, 1) := by decide +kernel
theorem jd_K_isSifted_1 : decode jb_K_isSifted 1 = .ok (.getfield 45, 3) := by decide +kernel
theorem jd_K_isSifted_4 : decode jb_K_isSifted 4 = .ok (.iconst (-1), 1) := by decide +kernel
theorem jd_K_isSifted_5 : decode jb_K_isSifted 5 = .ok (.if_icmp .eq 7, 3) := by decide +kernel
theorem jd_K_isSifted_8 : decode jb_K_isSifted 8 = .ok (.iconst 1, 1) := by decide +kernel
theorem jd_K_isSifted_9 : decode jb_K_isSifted 9 = .ok (.goto 4, 3) := by decide +kernel
theorem jd_K_isSifted_12 : decode jb_K_isSifted 12 = .ok (.iconst 0, 1) := by decide +kernel
theorem jd_K_isSifted_13 : decode jb_K_isSifted 13 = .ok (.ireturn, 1) := by decide +kernel
theorem jd_K_sift_0 : decode jb_K_sift 0 = .ok (.aload_n 0, 1) := by decide +kernel
theorem jd_K_sift_1 : decode jb_K_sift 1 = .ok (.invokevirtual 64, 3) := by decide +kernel
theorem jd_K_sift_4 : decode jb_K_sift 4 = .ok (.ifCond .eq 13, 3) := by decide +kernel
theorem jd_K_sift_7 : decode jb_K_sift 7 = .ok (.new 72, 3) := by decide +kernel
theorem jd_K_sift_10 : decode jb_K_sift 10 = .ok (.dup, 1) := by decide +kernel
theorem jd_K_sift_11 : decode jb_K_sift 11 = .ok (.ldc 84, 2) := by decide +kernel
theorem jd_K_sift_13 : decode jb_K_sift 13 = .ok (.invokespecial 76, 3) := by decide +kernel
theorem jd_K_sift_16 : decode jb_K_sift 16 = .ok (.athrow, 1) := by decide +kernel
theorem jd_K_sift_17 : decode jb_K_sift 17 = .ok (.iconst 0, 1) := by decide +kernel
theorem jd_K_sift_18 : decode jb_K_sift 18 = .ok (.istore_n 1, 1) := by decide +kernel
theorem jd_K_sift_19 : decode jb_K_sift 19 = .ok (.iconst 0, 1) := by decide +kernel
theorem jd_K_sift_20 : decode jb_K_sift 20 = .ok (.istore_n 2, 1) := by decide +kernel
theorem jd_K_sift_21 : decode jb_K_sift 21 = .ok (.iload_n 2, 1) := by decide +kernel
theorem jd_K_sift_22 : decode jb_K_sift 22 = .ok (.sipush 128, 3) := by decide +kernel
theorem jd_K_sift_25 : decode jb_K_sift 25 = .ok (.if_icmp .ge 56, 3) := by decide +kernel
theorem jd_K_sift_28 : decode jb_K_sift 28 = .ok (.aload_n 0, 1) := by decide +kernel
theorem jd_K_sift_29 : decode jb_K_sift 29 = .ok (.iload_n 2, 1) := by decide +kernel
theorem jd_K_sift_30 : decode jb_K_sift 30 = .ok (.invokevirtual 86, 3) := by decide +kernel
theorem jd_K_sift_33 : decode jb_K_sift 33 = .ok (.ifCond .eq 42, 3) := by decide +kernel
theorem jd_K_sift_36 : decode jb_K_sift 36 = .ok (.aload_n 0, 1) := by decide +kernel
theorem jd_K_sift_37 : decode jb_K_sift 37 = .ok (.getfield 10, 3) := by decide +kernel
theorem jd_K_sift_40 : decode jb_K_sift 40 = .ok (.getfield 89, 3) := by decide +kernel
theorem jd_K_sift_43 : decode jb_K_sift 43 = .ok (.iload_n 1, 1) := by decide +kernel
theorem jd_K_sift_44 : decode jb_K_sift 44 = .ok (.aload_n 0, 1) := by decide +kernel
theorem jd_K_sift_45 : decode jb_K_sift 45 = .ok (.getfield 10, 3) := by decide +kernel
theorem jd_K_sift_48 : decode jb_K_sift 48 = .ok (.getfield 92, 3) := by decide +kernel
theorem jd_K_sift_51 : decode jb_K_sift 51 = .ok (.iload_n 2, 1) := by decide +kernel
theorem jd_K_sift_52 : decode jb_K_sift 52 = .ok (.iaload, 1) := by decide +kernel
theorem jd_K_sift_53 : decode jb_K_sift 53 = .ok (.iastore, 1) := by decide +kernel
theorem jd_K_sift_54 : decode jb_K_sift 54 = .ok (.aload_n 0, 1) := by decide +kernel
theorem jd_K_sift_55 : decode jb_K_sift 55 = .ok (.getfield 16, 3) := by decide +kernel
theorem jd_K_sift_58 : decode jb_K_sift 58 = .ok (.getfield 89, 3) := by decide +kernel
theorem jd_K_sift_61 : decode jb_K_sift 61 = .ok (.iload_n 1, 1) := by decide +kernel
theorem jd_K_sift_62 : decode jb_K_sift 62 = .ok (.aload_n 0, 1) := by decide +kernel
theorem jd_K_sift_63 : decode jb_K_sift 63 = .ok (.getfield 16, 3) := by decide +kernel
theorem jd_K_sift_66 : decode jb_K_sift 66 = .ok (.getfield 92, 3) := by decide +kernel
theorem jd_K_sift_69 : decode jb_K_sift 69 = .ok (.iload_n 2, 1) := by decide +kernel
theorem jd_K_sift_70 : decode jb_K_sift 70 = .ok (.iaload, 1) := by decide +kernel
theorem jd_K_sift_71 : decode jb_K_sift 71 = .ok (.iastore, 1) := by decide +kernel
theorem jd_K_sift_72 : decode jb_K_sift 72 = .ok (.iinc 1 1, 3) := by decide +kernel
theorem jd_K_sift_75 : decode jb_K_sift 75 = .ok (.iinc 2 1, 3) := by decide +kernel
theorem jd_K_sift_78 : decode jb_K_sift 78 = .ok (.goto (-57), 3) := by decide +kernel
theorem jd_K_sift_81 : decode jb_K_sift 81 = .ok (.aload_n 0, 1) := by decide +kernel
theorem jd_K_sift_82 : decode jb_K_sift 82 = .ok (.iload_n 1, 1) := by decide +kernel
theorem jd_K_sift_83 : decode jb_K_sift 83 = .ok (.putfield 45, 3) := by decide +kernel
theorem jd_K_sift_86 : decode jb_K_sift 86 = .ok (.aload_n 0, 1) := by decide +kernel
theorem jd_K_sift_87 : decode jb_K_sift 87 = .ok (.getfield 45, 3) := by decide +kernel
theorem jd_K_sift_90 : decode jb_K_sift 90 = .ok (.ireturn, 1) := by decide +kernel
theorem jd_K_isKept_0 : decode jb_K_isKept 0 = .ok (.aload_n 0, 1) := by decide +kernel
theorem jd_K_isKept_1 : decode jb_K_isKept 1 = .ok (.getfield 10, 3) := by decide +kernel
theorem jd_K_isKept_4 : decode jb_K_isKept 4 = .ok (.getfield 230, 3) := by decide +kernel
theorem jd_K_isKept_7 : decode jb_K_isKept 7 = .ok (.iload_n 1, 1) := by decide +kernel
theorem jd_K_isKept_8 : decode jb_K_isKept 8 = .ok (.baload, 1) := by decide +kernel
theorem jd_K_isKept_9 : decode jb_K_isKept 9 = .ok (.ifCond .eq 53, 3) := by decide +kernel
theorem jd_K_isKept_12 : decode jb_K_isKept 12 = .ok (.aload_n 0, 1) := by decide +kernel
theorem jd_K_isKept_13 : decode jb_K_isKept 13 = .ok (.getfield 16, 3) := by decide +kernel
theorem jd_K_isKept_16 : decode jb_K_isKept 16 = .ok (.getfield 230, 3) := by decide +kernel
theorem jd_K_isKept_19 : decode jb_K_isKept 19 = .ok (.iload_n 1, 1) := by decide +kernel
theorem jd_K_isKept_20 : decode jb_K_isKept 20 = .ok (.baload, 1) := by decide +kernel
theorem jd_K_isKept_21 : decode jb_K_isKept 21 = .ok (.ifCond .eq 41, 3) := by decide +kernel
theorem jd_K_isKept_24 : decode jb_K_isKept 24 = .ok (.aload_n 0, 1) := by decide +kernel
theorem jd_K_isKept_25 : decode jb_K_isKept 25 = .ok (.getfield 16, 3) := by decide +kernel
theorem jd_K_isKept_28 : decode jb_K_isKept 28 = .ok (.getfield 234, 3) := by decide +kernel
theorem jd_K_isKept_31 : decode jb_K_isKept 31 = .ok (.iload_n 1, 1) := by decide +kernel
theorem jd_K_isKept_32 : decode jb_K_isKept 32 = .ok (.iaload, 1) := by decide +kernel
theorem jd_K_isKept_33 : decode jb_K_isKept 33 = .ok (.iconst 1, 1) := by decide +kernel
theorem jd_K_isKept_34 : decode jb_K_isKept 34 = .ok (.if_icmp .ne 28, 3) := by decide +kernel
theorem jd_K_isKept_37 : decode jb_K_isKept 37 = .ok (.aload_n 0, 1) := by decide +kernel
theorem jd_K_isKept_38 : decode jb_K_isKept 38 = .ok (.getfield 10, 3) := by decide +kernel
theorem jd_K_isKept_41 : decode jb_K_isKept 41 = .ok (.getfield 237, 3) := by decide +kernel
theorem jd_K_isKept_44 : decode jb_K_isKept 44 = .ok (.iload_n 1, 1) := by decide +kernel
theorem jd_K_isKept_45 : decode jb_K_isKept 45 = .ok (.iaload, 1) := by decide +kernel
theorem jd_K_isKept_46 : decode jb_K_isKept 46 = .ok (.aload_n 0, 1) := by decide +kernel
theorem jd_K_isKept_47 : decode jb_K_isKept 47 = .ok (.getfield 16, 3) := by decide +kernel
theorem jd_K_isKept_50 : decode jb_K_isKept 50 = .ok (.getfield 237, 3) := by decide +kernel
theorem jd_K_isKept_53 : decode jb_K_isKept 53 = .ok (.iload_n 1, 1) := by decide +kernel
theorem jd_K_isKept_54 : decode jb_K_isKept 54 = .ok (.iaload, 1) := by decide +kernel
theorem jd_K_isKept_55 : decode jb_K_isKept 55 = .ok (.if_icmp .ne 7, 3) := by decide +kernel
theorem jd_K_isKept_58 : decode jb_K_isKept 58 = .ok (.iconst 1, 1) := by decide +kernel
theorem jd_K_isKept_59 : decode jb_K_isKept 59 = .ok (.goto 4, 3) := by decide +kernel
theorem jd_K_isKept_62 : decode jb_K_isKept 62 = .ok (.iconst 0, 1) := by decide +kernel
theorem jd_K_isKept_63 : decode jb_K_isKept 63 = .ok (.ireturn, 1) := by decide +kernel
theorem jd_K_sample_0 : decode jb_K_sample 0 = .ok (.aload_n 0, 1) := by decide +kernel
theorem jd_K_sample_1 : decode jb_K_sample 1 = .ok (.invokevirtual 64, 3) := by decide +kernel
theorem jd_K_sample_4 : decode jb_K_sample 4 = .ok (.ifCond .eq 13, 3) := by decide +kernel
theorem jd_K_sample_7 : decode jb_K_sample 7 = .ok (.aload_n 0, 1) := by decide +kernel
theorem jd_K_sample_8 : decode jb_K_sample 8 = .ok (.getfield 31, 3) := by decide +kernel
theorem jd_K_sample_11 : decode jb_K_sample 11 = .ok (.invokevirtual 95, 3) := by decide +kernel
theorem jd_K_sample_14 : decode jb_K_sample 14 = .ok (.ifCond .eq 13, 3) := by decide +kernel
theorem jd_K_sample_17 : decode jb_K_sample 17 = .ok (.new 72, 3) := by decide +kernel
theorem jd_K_sample_20 : decode jb_K_sample 20 = .ok (.dup, 1) := by decide +kernel
theorem jd_K_sample_21 : decode jb_K_sample 21 = .ok (.ldc 98, 2) := by decide +kernel
theorem jd_K_sample_23 : decode jb_K_sample 23 = .ok (.invokespecial 76, 3) := by decide +kernel
theorem jd_K_sample_26 : decode jb_K_sample 26 = .ok (.athrow, 1) := by decide +kernel
theorem jd_K_sample_27 : decode jb_K_sample 27 = .ok (.iload_n 3, 1) := by decide +kernel
theorem jd_K_sample_28 : decode jb_K_sample 28 = .ok (.ifCond .lt 11, 3) := by decide +kernel
theorem jd_K_sample_31 : decode jb_K_sample 31 = .ok (.iload_n 3, 1) := by decide +kernel
theorem jd_K_sample_32 : decode jb_K_sample 32 = .ok (.aload_n 0, 1) := by decide +kernel
theorem jd_K_sample_33 : decode jb_K_sample 33 = .ok (.getfield 45, 3) := by decide +kernel
theorem jd_K_sample_36 : decode jb_K_sample 36 = .ok (.if_icmp .le 13, 3) := by decide +kernel
theorem jd_K_sample_39 : decode jb_K_sample 39 = .ok (.new 53, 3) := by decide +kernel
theorem jd_K_sample_42 : decode jb_K_sample 42 = .ok (.dup, 1) := by decide +kernel
theorem jd_K_sample_43 : decode jb_K_sample 43 = .ok (.ldc 100, 2) := by decide +kernel
theorem jd_K_sample_45 : decode jb_K_sample 45 = .ok (.invokespecial 57, 3) := by decide +kernel
theorem jd_K_sample_48 : decode jb_K_sample 48 = .ok (.athrow, 1) := by decide +kernel
theorem jd_K_sample_49 : decode jb_K_sample 49 = .ok (.aload_n 0, 1) := by decide +kernel
theorem jd_K_sample_50 : decode jb_K_sample 50 = .ok (.getfield 22, 3) := by decide +kernel
theorem jd_K_sample_53 : decode jb_K_sample 53 = .ok (.lload_n 1, 1) := by decide +kernel
theorem jd_K_sample_54 : decode jb_K_sample 54 = .ok (.aload_n 0, 1) := by decide +kernel
theorem jd_K_sample_55 : decode jb_K_sample 55 = .ok (.getfield 45, 3) := by decide +kernel
theorem jd_K_sample_58 : decode jb_K_sample 58 = .ok (.aload_n 0, 1) := by decide +kernel
theorem jd_K_sample_59 : decode jb_K_sample 59 = .ok (.getfield 35, 3) := by decide +kernel
theorem jd_K_sample_62 : decode jb_K_sample 62 = .ok (.invokevirtual 102, 3) := by decide +kernel
theorem jd_K_sample_65 : decode jb_K_sample 65 = .ok (.aload_n 0, 1) := by decide +kernel
theorem jd_K_sample_66 : decode jb_K_sample 66 = .ok (.getfield 39, 3) := by decide +kernel
theorem jd_K_sample_69 : decode jb_K_sample 69 = .ok (.iconst 0, 1) := by decide +kernel
theorem jd_K_sample_70 : decode jb_K_sample 70 = .ok (.invokestatic 106, 3) := by decide +kernel
theorem jd_K_sample_73 : decode jb_K_sample 73 = .ok (.iconst 0, 1) := by decide +kernel
theorem jd_K_sample_74 : decode jb_K_sample 74 = .ok (.istore 4, 2) := by decide +kernel
theorem jd_K_sample_76 : decode jb_K_sample 76 = .ok (.iconst 0, 1) := by decide +kernel
theorem jd_K_sample_77 : decode jb_K_sample 77 = .ok (.istore 5, 2) := by decide +kernel
theorem jd_K_sample_79 : decode jb_K_sample 79 = .ok (.iload 5, 2) := by decide +kernel
theorem jd_K_sample_81 : decode jb_K_sample 81 = .ok (.iload_n 3, 1) := by decide +kernel
theorem jd_K_sample_82 : decode jb_K_sample 82 = .ok (.if_icmp .ge 52, 3) := by decide +kernel
theorem jd_K_sample_85 : decode jb_K_sample 85 = .ok (.aload_n 0, 1) := by decide +kernel
theorem jd_K_sample_86 : decode jb_K_sample 86 = .ok (.getfield 35, 3) := by decide +kernel
theorem jd_K_sample_89 : decode jb_K_sample 89 = .ok (.iload 5, 2) := by decide +kernel
theorem jd_K_sample_91 : decode jb_K_sample 91 = .ok (.iaload, 1) := by decide +kernel
theorem jd_K_sample_92 : decode jb_K_sample 92 = .ok (.istore 6, 2) := by decide +kernel
theorem jd_K_sample_94 : decode jb_K_sample 94 = .ok (.aload_n 0, 1) := by decide +kernel
theorem jd_K_sample_95 : decode jb_K_sample 95 = .ok (.getfield 39, 3) := by decide +kernel
theorem jd_K_sample_98 : decode jb_K_sample 98 = .ok (.iload 6, 2) := by decide +kernel
theorem jd_K_sample_100 : decode jb_K_sample 100 = .ok (.iconst 1, 1) := by decide +kernel
theorem jd_K_sample_101 : decode jb_K_sample 101 = .ok (.iastore, 1) := by decide +kernel
theorem jd_K_sample_102 : decode jb_K_sample 102 = .ok (.iload 4, 2) := by decide +kernel
theorem jd_K_sample_104 : decode jb_K_sample 104 = .ok (.aload_n 0, 1) := by decide +kernel
theorem jd_K_sample_105 : decode jb_K_sample 105 = .ok (.getfield 10, 3) := by decide +kernel
theorem jd_K_sample_108 : decode jb_K_sample 108 = .ok (.getfield 89, 3) := by decide +kernel
theorem jd_K_sample_111 : decode jb_K_sample 111 = .ok (.iload 6, 2) := by decide +kernel
theorem jd_K_sample_113 : decode jb_K_sample 113 = .ok (.iaload, 1) := by decide +kernel
theorem jd_K_sample_114 : decode jb_K_sample 114 = .ok (.aload_n 0, 1) := by decide +kernel
theorem jd_K_sample_115 : decode jb_K_sample 115 = .ok (.getfield 16, 3) := by decide +kernel
theorem jd_K_sample_118 : decode jb_K_sample 118 = .ok (.getfield 89, 3) := by decide +kernel
theorem jd_K_sample_121 : decode jb_K_sample 121 = .ok (.iload 6, 2) := by decide +kernel
theorem jd_K_sample_123 : decode jb_K_sample 123 = .ok (.iaload, 1) := by decide +kernel
theorem jd_K_sample_124 : decode jb_K_sample 124 = .ok (.ixor, 1) := by decide +kernel
theorem jd_K_sample_125 : decode jb_K_sample 125 = .ok (.iadd, 1) := by decide +kernel
theorem jd_K_sample_126 : decode jb_K_sample 126 = .ok (.istore 4, 2) := by decide +kernel
theorem jd_K_sample_128 : decode jb_K_sample 128 = .ok (.iinc 5 1, 3) := by decide +kernel
theorem jd_K_sample_131 : decode jb_K_sample 131 = .ok (.goto (-52), 3) := by decide +kernel
theorem jd_K_sample_134 : decode jb_K_sample 134 = .ok (.aload_n 0, 1) := by decide +kernel
theorem jd_K_sample_135 : decode jb_K_sample 135 = .ok (.getfield 10, 3) := by decide +kernel
theorem jd_K_sample_138 : decode jb_K_sample 138 = .ok (.aload_n 0, 1) := by decide +kernel
theorem jd_K_sample_139 : decode jb_K_sample 139 = .ok (.getfield 39, 3) := by decide +kernel
theorem jd_K_sample_142 : decode jb_K_sample 142 = .ok (.aload_n 0, 1) := by decide +kernel
theorem jd_K_sample_143 : decode jb_K_sample 143 = .ok (.getfield 45, 3) := by decide +kernel
theorem jd_K_sample_146 : decode jb_K_sample 146 = .ok (.invokevirtual 112, 3) := by decide +kernel
theorem jd_K_sample_149 : decode jb_K_sample 149 = .ok (.aload_n 0, 1) := by decide +kernel
theorem jd_K_sample_150 : decode jb_K_sample 150 = .ok (.getfield 16, 3) := by decide +kernel
theorem jd_K_sample_153 : decode jb_K_sample 153 = .ok (.aload_n 0, 1) := by decide +kernel
theorem jd_K_sample_154 : decode jb_K_sample 154 = .ok (.getfield 39, 3) := by decide +kernel
theorem jd_K_sample_157 : decode jb_K_sample 157 = .ok (.aload_n 0, 1) := by decide +kernel
theorem jd_K_sample_158 : decode jb_K_sample 158 = .ok (.getfield 45, 3) := by decide +kernel
theorem jd_K_sample_161 : decode jb_K_sample 161 = .ok (.invokevirtual 112, 3) := by decide +kernel
theorem jd_K_sample_164 : decode jb_K_sample 164 = .ok (.aload_n 0, 1) := by decide +kernel
theorem jd_K_sample_165 : decode jb_K_sample 165 = .ok (.dup, 1) := by decide +kernel
theorem jd_K_sample_166 : decode jb_K_sample 166 = .ok (.getfield 45, 3) := by decide +kernel
theorem jd_K_sample_169 : decode jb_K_sample 169 = .ok (.iload_n 3, 1) := by decide +kernel
theorem jd_K_sample_170 : decode jb_K_sample 170 = .ok (.isub, 1) := by decide +kernel
theorem jd_K_sample_171 : decode jb_K_sample 171 = .ok (.putfield 45, 3) := by decide +kernel
theorem jd_K_sample_174 : decode jb_K_sample 174 = .ok (.aload_n 0, 1) := by decide +kernel
theorem jd_K_sample_175 : decode jb_K_sample 175 = .ok (.dup, 1) := by decide +kernel
theorem jd_K_sample_176 : decode jb_K_sample 176 = .ok (.getfield 115, 3) := by decide +kernel
theorem jd_K_sample_179 : decode jb_K_sample 179 = .ok (.iload_n 3, 1) := by decide +kernel
theorem jd_K_sample_180 : decode jb_K_sample 180 = .ok (.iadd, 1) := by decide +kernel
theorem jd_K_sample_181 : decode jb_K_sample 181 = .ok (.putfield 115, 3) := by decide +kernel
theorem jd_K_sample_184 : decode jb_K_sample 184 = .ok (.aload_n 0, 1) := by decide +kernel
theorem jd_K_sample_185 : decode jb_K_sample 185 = .ok (.dup, 1) := by decide +kernel
theorem jd_K_sample_186 : decode jb_K_sample 186 = .ok (.getfield 118, 3) := by decide +kernel
theorem jd_K_sample_189 : decode jb_K_sample 189 = .ok (.iload 4, 2) := by decide +kernel
theorem jd_K_sample_191 : decode jb_K_sample 191 = .ok (.iadd, 1) := by decide +kernel
theorem jd_K_sample_192 : decode jb_K_sample 192 = .ok (.putfield 118, 3) := by decide +kernel
theorem jd_K_sample_195 : decode jb_K_sample 195 = .ok (.iload 4, 2) := by decide +kernel
theorem jd_K_sample_197 : decode jb_K_sample 197 = .ok (.ireturn, 1) := by decide +kernel
theorem jd_K_start_0 : decode jb_K_start 0 = .ok (.aload_n 0, 1) := by decide +kernel
theorem jd_K_start_1 : decode jb_K_start 1 = .ok (.invokevirtual 64, 3) := by decide +kernel
theorem jd_K_start_4 : decode jb_K_start 4 = .ok (.ifCond .eq 13, 3) := by decide +kernel
theorem jd_K_start_7 : decode jb_K_start 7 = .ok (.aload_n 0, 1) := by decide +kernel
theorem jd_K_start_8 : decode jb_K_start 8 = .ok (.getfield 31, 3) := by decide +kernel
theorem jd_K_start_11 : decode jb_K_start 11 = .ok (.invokevirtual 95, 3) := by decide +kernel
theorem jd_K_start_14 : decode jb_K_start 14 = .ok (.ifCond .eq 13, 3) := by decide +kernel
theorem jd_K_start_17 : decode jb_K_start 17 = .ok (.new 72, 3) := by decide +kernel
theorem jd_K_start_20 : decode jb_K_start 20 = .ok (.dup, 1) := by decide +kernel
theorem jd_K_start_21 : decode jb_K_start 21 = .ok (.ldc 121, 2) := by decide +kernel
theorem jd_K_start_23 : decode jb_K_start 23 = .ok (.invokespecial 76, 3) := by decide +kernel
theorem jd_K_start_26 : decode jb_K_start 26 = .ok (.athrow, 1) := by decide +kernel
theorem jd_K_start_27 : decode jb_K_start 27 = .ok (.iload_n 1, 1) := by decide +kernel
theorem jd_K_start_28 : decode jb_K_start 28 = .ok (.iconst 4, 1) := by decide +kernel
theorem jd_K_start_29 : decode jb_K_start 29 = .ok (.if_icmp .lt 11, 3) := by decide +kernel
theorem jd_K_start_32 : decode jb_K_start 32 = .ok (.iload_n 1, 1) := by decide +kernel
theorem jd_K_start_33 : decode jb_K_start 33 = .ok (.aload_n 0, 1) := by decide +kernel
theorem jd_K_start_34 : decode jb_K_start 34 = .ok (.getfield 45, 3) := by decide +kernel
theorem jd_K_start_37 : decode jb_K_start 37 = .ok (.if_icmp .le 13, 3) := by decide +kernel
theorem jd_K_start_40 : decode jb_K_start 40 = .ok (.new 53, 3) := by decide +kernel
theorem jd_K_start_43 : decode jb_K_start 43 = .ok (.dup, 1) := by decide +kernel
theorem jd_K_start_44 : decode jb_K_start 44 = .ok (.ldc 123, 2) := by decide +kernel
theorem jd_K_start_46 : decode jb_K_start 46 = .ok (.invokespecial 57, 3) := by decide +kernel
theorem jd_K_start_49 : decode jb_K_start 49 = .ok (.athrow, 1) := by decide +kernel
theorem jd_K_start_50 : decode jb_K_start 50 = .ok (.iconst 0, 1) := by decide +kernel
theorem jd_K_start_51 : decode jb_K_start 51 = .ok (.istore 4, 2) := by decide +kernel
theorem jd_K_start_53 : decode jb_K_start 53 = .ok (.iload 4, 2) := by decide +kernel
theorem jd_K_start_55 : decode jb_K_start 55 = .ok (.iconst 4, 1) := by decide +kernel
theorem jd_K_start_56 : decode jb_K_start 56 = .ok (.if_icmp .ge 35, 3) := by decide +kernel
theorem jd_K_start_59 : decode jb_K_start 59 = .ok (.aload_n 0, 1) := by decide +kernel
theorem jd_K_start_60 : decode jb_K_start 60 = .ok (.getfield 22, 3) := by decide +kernel
theorem jd_K_start_63 : decode jb_K_start 63 = .ok (.lload_n 2, 1) := by decide +kernel
theorem jd_K_start_64 : decode jb_K_start 64 = .ok (.iload 4, 2) := by decide +kernel
theorem jd_K_start_66 : decode jb_K_start 66 = .ok (.i2l, 1) := by decide +kernel
theorem jd_K_start_67 : decode jb_K_start 67 = .ok (.ladd, 1) := by decide +kernel
theorem jd_K_start_68 : decode jb_K_start 68 = .ok (.aload_n 0, 1) := by decide +kernel
theorem jd_K_start_69 : decode jb_K_start 69 = .ok (.getfield 45, 3) := by decide +kernel
theorem jd_K_start_72 : decode jb_K_start 72 = .ok (.aload_n 0, 1) := by decide +kernel
theorem jd_K_start_73 : decode jb_K_start 73 = .ok (.getfield 31, 3) := by decide +kernel
theorem jd_K_start_76 : decode jb_K_start 76 = .ok (.getfield 125, 3) := by decide +kernel
theorem jd_K_start_79 : decode jb_K_start 79 = .ok (.iload 4, 2) := by decide +kernel
theorem jd_K_start_81 : decode jb_K_start 81 = .ok (.aaload, 1) := by decide +kernel
theorem jd_K_start_82 : decode jb_K_start 82 = .ok (.invokevirtual 102, 3) := by decide +kernel
theorem jd_K_start_85 : decode jb_K_start 85 = .ok (.iinc 4 1, 3) := by decide +kernel
theorem jd_K_start_88 : decode jb_K_start 88 = .ok (.goto (-35), 3) := by decide +kernel
theorem jd_K_start_91 : decode jb_K_start 91 = .ok (.aload_n 0, 1) := by decide +kernel
theorem jd_K_start_92 : decode jb_K_start 92 = .ok (.getfield 31, 3) := by decide +kernel
theorem jd_K_start_95 : decode jb_K_start 95 = .ok (.iload_n 1, 1) := by decide +kernel
theorem jd_K_start_96 : decode jb_K_start 96 = .ok (.aload_n 0, 1) := by decide +kernel
theorem jd_K_start_97 : decode jb_K_start 97 = .ok (.getfield 45, 3) := by decide +kernel
theorem jd_K_start_100 : decode jb_K_start 100 = .ok (.invokevirtual 129, 3) := by decide +kernel
theorem jd_K_start_103 : decode jb_K_start 103 = .ok (.aload_n 0, 1) := by decide +kernel
theorem jd_K_start_104 : decode jb_K_start 104 = .ok (.getfield 31, 3) := by decide +kernel
theorem jd_K_start_107 : decode jb_K_start 107 = .ok (.getfield 133, 3) := by decide +kernel
theorem jd_K_start_110 : decode jb_K_start 110 = .ok (.getfield 137, 3) := by decide +kernel
theorem jd_K_start_113 : decode jb_K_start 113 = .ok (.ireturn, 1) := by decide +kernel
theorem jd_K_letter_0 : decode jb_K_letter 0 = .ok (.iload_n 2, 1) := by decide +kernel
theorem jd_K_letter_1 : decode jb_K_letter 1 = .ok (.ifCond .lt 8, 3) := by decide +kernel
theorem jd_K_letter_4 : decode jb_K_letter 4 = .ok (.iload_n 2, 1) := by decide +kernel
theorem jd_K_letter_5 : decode jb_K_letter 5 = .ok (.iconst 2, 1) := by decide +kernel
theorem jd_K_letter_6 : decode jb_K_letter 6 = .ok (.if_icmp .le 13, 3) := by decide +kernel
theorem jd_K_letter_9 : decode jb_K_letter 9 = .ok (.new 53, 3) := by decide +kernel
theorem jd_K_letter_12 : decode jb_K_letter 12 = .ok (.dup, 1) := by decide +kernel
theorem jd_K_letter_13 : decode jb_K_letter 13 = .ok (.ldc 142, 2) := by decide +kernel
theorem jd_K_letter_15 : decode jb_K_letter 15 = .ok (.invokespecial 57, 3) := by decide +kernel
theorem jd_K_letter_18 : decode jb_K_letter 18 = .ok (.athrow, 1) := by decide +kernel
theorem jd_K_letter_19 : decode jb_K_letter 19 = .ok (.aload_n 0, 1) := by decide +kernel
theorem jd_K_letter_20 : decode jb_K_letter 20 = .ok (.getfield 31, 3) := by decide +kernel
theorem jd_K_letter_23 : decode jb_K_letter 23 = .ok (.getfield 133, 3) := by decide +kernel
theorem jd_K_letter_26 : decode jb_K_letter 26 = .ok (.astore_n 3, 1) := by decide +kernel
theorem jd_K_letter_27 : decode jb_K_letter 27 = .ok (.aload_n 3, 1) := by decide +kernel
theorem jd_K_letter_28 : decode jb_K_letter 28 = .ok (.iload_n 1, 1) := by decide +kernel
theorem jd_K_letter_29 : decode jb_K_letter 29 = .ok (.invokevirtual 144, 3) := by decide +kernel
theorem jd_K_letter_32 : decode jb_K_letter 32 = .ok (.ifCond .ne 13, 3) := by decide +kernel
theorem jd_K_letter_35 : decode jb_K_letter 35 = .ok (.new 147, 3) := by decide +kernel
theorem jd_K_letter_38 : decode jb_K_letter 38 = .ok (.dup, 1) := by decide +kernel
theorem jd_K_letter_39 : decode jb_K_letter 39 = .ok (.ldc 149, 2) := by decide +kernel
theorem jd_K_letter_41 : decode jb_K_letter 41 = .ok (.invokespecial 151, 3) := by decide +kernel
theorem jd_K_letter_44 : decode jb_K_letter 44 = .ok (.athrow, 1) := by decide +kernel
theorem jd_K_letter_45 : decode jb_K_letter 45 = .ok (.iload_n 2, 1) := by decide +kernel
theorem jd_K_letter_46 : decode jb_K_letter 46 = .ok (.iconst 2, 1) := by decide +kernel
theorem jd_K_letter_47 : decode jb_K_letter 47 = .ok (.if_icmp .ne 22, 3) := by decide +kernel
theorem jd_K_letter_50 : decode jb_K_letter 50 = .ok (.aload_n 3, 1) := by decide +kernel
theorem jd_K_letter_51 : decode jb_K_letter 51 = .ok (.getfield 137, 3) := by decide +kernel
theorem jd_K_letter_54 : decode jb_K_letter 54 = .ok (.bipush 16, 2) := by decide +kernel
theorem jd_K_letter_56 : decode jb_K_letter 56 = .ok (.if_icmp .ne 13, 3) := by decide +kernel
theorem jd_K_letter_59 : decode jb_K_letter 59 = .ok (.new 72, 3) := by decide +kernel
theorem jd_K_letter_62 : decode jb_K_letter 62 = .ok (.dup, 1) := by decide +kernel
theorem jd_K_letter_63 : decode jb_K_letter 63 = .ok (.ldc 152, 2) := by decide +kernel
theorem jd_K_letter_65 : decode jb_K_letter 65 = .ok (.invokespecial 76, 3) := by decide +kernel
theorem jd_K_letter_68 : decode jb_K_letter 68 = .ok (.athrow, 1) := by decide +kernel
theorem jd_K_letter_69 : decode jb_K_letter 69 = .ok (.iload_n 2, 1) := by decide +kernel
theorem jd_K_letter_70 : decode jb_K_letter 70 = .ok (.ifCond .ne 14, 3) := by decide +kernel
theorem jd_K_letter_73 : decode jb_K_letter 73 = .ok (.aload_n 0, 1) := by decide +kernel
theorem jd_K_letter_74 : decode jb_K_letter 74 = .ok (.getfield 31, 3) := by decide +kernel
theorem jd_K_letter_77 : decode jb_K_letter 77 = .ok (.iload_n 1, 1) := by decide +kernel
theorem jd_K_letter_78 : decode jb_K_letter 78 = .ok (.invokevirtual 154, 3) := by decide +kernel
theorem jd_K_letter_81 : decode jb_K_letter 81 = .ok (.goto 38, 3) := by decide +kernel
theorem jd_K_letter_84 : decode jb_K_letter 84 = .ok (.iload_n 2, 1) := by decide +kernel
theorem jd_K_letter_85 : decode jb_K_letter 85 = .ok (.iconst 1, 1) := by decide +kernel
theorem jd_K_letter_86 : decode jb_K_letter 86 = .ok (.if_icmp .ne 11, 3) := by decide +kernel
theorem jd_K_letter_89 : decode jb_K_letter 89 = .ok (.aload_n 3, 1) := by decide +kernel
theorem jd_K_letter_90 : decode jb_K_letter 90 = .ok (.iload_n 1, 1) := by decide +kernel
theorem jd_K_letter_91 : decode jb_K_letter 91 = .ok (.invokevirtual 158, 3) := by decide +kernel
theorem jd_K_letter_94 : decode jb_K_letter 94 = .ok (.goto 25, 3) := by decide +kernel
theorem jd_K_letter_97 : decode jb_K_letter 97 = .ok (.aload_n 3, 1) := by decide +kernel
theorem jd_K_letter_98 : decode jb_K_letter 98 = .ok (.aload_n 3, 1) := by decide +kernel
theorem jd_K_letter_99 : decode jb_K_letter 99 = .ok (.getfield 161, 3) := by decide +kernel
theorem jd_K_letter_102 : decode jb_K_letter 102 = .ok (.iload_n 1, 1) := by decide +kernel
theorem jd_K_letter_103 : decode jb_K_letter 103 = .ok (.iaload, 1) := by decide +kernel
theorem jd_K_letter_104 : decode jb_K_letter 104 = .ok (.aload_n 3, 1) := by decide +kernel
theorem jd_K_letter_105 : decode jb_K_letter 105 = .ok (.getfield 164, 3) := by decide +kernel
theorem jd_K_letter_108 : decode jb_K_letter 108 = .ok (.iload_n 1, 1) := by decide +kernel
theorem jd_K_letter_109 : decode jb_K_letter 109 = .ok (.iaload, 1) := by decide +kernel
theorem jd_K_letter_110 : decode jb_K_letter 110 = .ok (.aload_n 3, 1) := by decide +kernel
theorem jd_K_letter_111 : decode jb_K_letter 111 = .ok (.getfield 167, 3) := by decide +kernel
theorem jd_K_letter_114 : decode jb_K_letter 114 = .ok (.iload_n 1, 1) := by decide +kernel
theorem jd_K_letter_115 : decode jb_K_letter 115 = .ok (.iaload, 1) := by decide +kernel
theorem jd_K_letter_116 : decode jb_K_letter 116 = .ok (.invokevirtual 170, 3) := by decide +kernel
theorem jd_K_letter_119 : decode jb_K_letter 119 = .ok (.aload_n 3, 1) := by decide +kernel
theorem jd_K_letter_120 : decode jb_K_letter 120 = .ok (.getfield 137, 3) := by decide +kernel
theorem jd_K_letter_123 : decode jb_K_letter 123 = .ok (.ireturn, 1) := by decide +kernel
theorem jd_K_tick_0 : decode jb_K_tick 0 = .ok (.aload_n 0, 1) := by decide +kernel
theorem jd_K_tick_1 : decode jb_K_tick 1 = .ok (.getfield 31, 3) := by decide +kernel
theorem jd_K_tick_4 : decode jb_K_tick 4 = .ok (.invokevirtual 95, 3) := by decide +kernel
theorem jd_K_tick_7 : decode jb_K_tick 7 = .ok (.ifCond .ne 13, 3) := by decide +kernel
theorem jd_K_tick_10 : decode jb_K_tick 10 = .ok (.new 72, 3) := by decide +kernel
theorem jd_K_tick_13 : decode jb_K_tick 13 = .ok (.dup, 1) := by decide +kernel
theorem jd_K_tick_14 : decode jb_K_tick 14 = .ok (.ldc 178, 2) := by decide +kernel
theorem jd_K_tick_16 : decode jb_K_tick 16 = .ok (.invokespecial 76, 3) := by decide +kernel
theorem jd_K_tick_19 : decode jb_K_tick 19 = .ok (.athrow, 1) := by decide +kernel
theorem jd_K_tick_20 : decode jb_K_tick 20 = .ok (.aload_n 0, 1) := by decide +kernel
theorem jd_K_tick_21 : decode jb_K_tick 21 = .ok (.getfield 31, 3) := by decide +kernel
theorem jd_K_tick_24 : decode jb_K_tick 24 = .ok (.invokevirtual 180, 3) := by decide +kernel
theorem jd_K_tick_27 : decode jb_K_tick 27 = .ok (.aload_n 0, 1) := by decide +kernel
theorem jd_K_tick_28 : decode jb_K_tick 28 = .ok (.getfield 31, 3) := by decide +kernel
theorem jd_K_tick_31 : decode jb_K_tick 31 = .ok (.getfield 133, 3) := by decide +kernel
theorem jd_K_tick_34 : decode jb_K_tick 34 = .ok (.getfield 137, 3) := by decide +kernel
theorem jd_K_tick_37 : decode jb_K_tick 37 = .ok (.ireturn, 1) := by decide +kernel
theorem jd_K_bit_0 : decode jb_K_bit 0 = .ok (.aload_n 0, 1) := by decide +kernel
theorem jd_K_bit_1 : decode jb_K_bit 1 = .ok (.invokevirtual 64, 3) := by decide +kernel
theorem jd_K_bit_4 : decode jb_K_bit 4 = .ok (.ifCond .ne 13, 3) := by decide +kernel
theorem jd_K_bit_7 : decode jb_K_bit 7 = .ok (.new 72, 3) := by decide +kernel
theorem jd_K_bit_10 : decode jb_K_bit 10 = .ok (.dup, 1) := by decide +kernel
theorem jd_K_bit_11 : decode jb_K_bit 11 = .ok (.ldc 195, 2) := by decide +kernel
theorem jd_K_bit_13 : decode jb_K_bit 13 = .ok (.invokespecial 76, 3) := by decide +kernel
theorem jd_K_bit_16 : decode jb_K_bit 16 = .ok (.athrow, 1) := by decide +kernel
theorem jd_K_bit_17 : decode jb_K_bit 17 = .ok (.iload_n 1, 1) := by decide +kernel
theorem jd_K_bit_18 : decode jb_K_bit 18 = .ok (.invokestatic 49, 3) := by decide +kernel
theorem jd_K_bit_21 : decode jb_K_bit 21 = .ok (.ifCond .eq 15, 3) := by decide +kernel
theorem jd_K_bit_24 : decode jb_K_bit 24 = .ok (.iload_n 2, 1) := by decide +kernel
theorem jd_K_bit_25 : decode jb_K_bit 25 = .ok (.ifCond .lt 11, 3) := by decide +kernel
theorem jd_K_bit_28 : decode jb_K_bit 28 = .ok (.iload_n 2, 1) := by decide +kernel
theorem jd_K_bit_29 : decode jb_K_bit 29 = .ok (.aload_n 0, 1) := by decide +kernel
theorem jd_K_bit_30 : decode jb_K_bit 30 = .ok (.getfield 45, 3) := by decide +kernel
theorem jd_K_bit_33 : decode jb_K_bit 33 = .ok (.if_icmp .lt 13, 3) := by decide +kernel
theorem jd_K_bit_36 : decode jb_K_bit 36 = .ok (.new 147, 3) := by decide +kernel
theorem jd_K_bit_39 : decode jb_K_bit 39 = .ok (.dup, 1) := by decide +kernel
theorem jd_K_bit_40 : decode jb_K_bit 40 = .ok (.ldc 197, 2) := by decide +kernel
theorem jd_K_bit_42 : decode jb_K_bit 42 = .ok (.invokespecial 151, 3) := by decide +kernel
theorem jd_K_bit_45 : decode jb_K_bit 45 = .ok (.athrow, 1) := by decide +kernel
theorem jd_K_bit_46 : decode jb_K_bit 46 = .ok (.aload_n 0, 1) := by decide +kernel
theorem jd_K_bit_47 : decode jb_K_bit 47 = .ok (.iload_n 1, 1) := by decide +kernel
theorem jd_K_bit_48 : decode jb_K_bit 48 = .ok (.invokevirtual 60, 3) := by decide +kernel
theorem jd_K_bit_51 : decode jb_K_bit 51 = .ok (.getfield 89, 3) := by decide +kernel
theorem jd_K_bit_54 : decode jb_K_bit 54 = .ok (.iload_n 2, 1) := by decide +kernel
theorem jd_K_bit_55 : decode jb_K_bit 55 = .ok (.iaload, 1) := by decide +kernel
theorem jd_K_bit_56 : decode jb_K_bit 56 = .ok (.ireturn, 1) := by decide +kernel
theorem jd_K_item_0 : decode jb_K_item 0 = .ok (.aload_n 0, 1) := by decide +kernel
theorem jd_K_item_1 : decode jb_K_item 1 = .ok (.getfield 31, 3) := by decide +kernel
theorem jd_K_item_4 : decode jb_K_item 4 = .ok (.invokevirtual 95, 3) := by decide +kernel
theorem jd_K_item_7 : decode jb_K_item 7 = .ok (.ifCond .ne 13, 3) := by decide +kernel
theorem jd_K_item_10 : decode jb_K_item 10 = .ok (.new 72, 3) := by decide +kernel
theorem jd_K_item_13 : decode jb_K_item 13 = .ok (.dup, 1) := by decide +kernel
theorem jd_K_item_14 : decode jb_K_item 14 = .ok (.ldc 178, 2) := by decide +kernel
theorem jd_K_item_16 : decode jb_K_item 16 = .ok (.invokespecial 76, 3) := by decide +kernel
theorem jd_K_item_19 : decode jb_K_item 19 = .ok (.athrow, 1) := by decide +kernel
theorem jd_K_item_20 : decode jb_K_item 20 = .ok (.iload_n 1, 1) := by decide +kernel
theorem jd_K_item_21 : decode jb_K_item 21 = .ok (.ifCond .lt 20, 3) := by decide +kernel
theorem jd_K_item_24 : decode jb_K_item 24 = .ok (.iload_n 1, 1) := by decide +kernel
theorem jd_K_item_25 : decode jb_K_item 25 = .ok (.iconst 4, 1) := by decide +kernel
theorem jd_K_item_26 : decode jb_K_item 26 = .ok (.if_icmp .ge 15, 3) := by decide +kernel
theorem jd_K_item_29 : decode jb_K_item 29 = .ok (.iload_n 2, 1) := by decide +kernel
theorem jd_K_item_30 : decode jb_K_item 30 = .ok (.ifCond .lt 11, 3) := by decide +kernel
theorem jd_K_item_33 : decode jb_K_item 33 = .ok (.iload_n 2, 1) := by decide +kernel
theorem jd_K_item_34 : decode jb_K_item 34 = .ok (.aload_n 0, 1) := by decide +kernel
theorem jd_K_item_35 : decode jb_K_item 35 = .ok (.getfield 45, 3) := by decide +kernel
theorem jd_K_item_38 : decode jb_K_item 38 = .ok (.if_icmp .lt 13, 3) := by decide +kernel
theorem jd_K_item_41 : decode jb_K_item 41 = .ok (.new 147, 3) := by decide +kernel
theorem jd_K_item_44 : decode jb_K_item 44 = .ok (.dup, 1) := by decide +kernel
theorem jd_K_item_45 : decode jb_K_item 45 = .ok (.ldc 199, 2) := by decide +kernel
theorem jd_K_item_47 : decode jb_K_item 47 = .ok (.invokespecial 151, 3) := by decide +kernel
theorem jd_K_item_50 : decode jb_K_item 50 = .ok (.athrow, 1) := by decide +kernel
theorem jd_K_item_51 : decode jb_K_item 51 = .ok (.aload_n 0, 1) := by decide +kernel
theorem jd_K_item_52 : decode jb_K_item 52 = .ok (.getfield 31, 3) := by decide +kernel
theorem jd_K_item_55 : decode jb_K_item 55 = .ok (.getfield 125, 3) := by decide +kernel
theorem jd_K_item_58 : decode jb_K_item 58 = .ok (.iload_n 1, 1) := by decide +kernel
theorem jd_K_item_59 : decode jb_K_item 59 = .ok (.aaload, 1) := by decide +kernel
theorem jd_K_item_60 : decode jb_K_item 60 = .ok (.iload_n 2, 1) := by decide +kernel
theorem jd_K_item_61 : decode jb_K_item 61 = .ok (.iaload, 1) := by decide +kernel
theorem jd_K_item_62 : decode jb_K_item 62 = .ok (.ireturn, 1) := by decide +kernel
theorem jd_K_tag_0 : decode jb_K_tag 0 = .ok (.aload_n 0, 1) := by decide +kernel
theorem jd_K_tag_1 : decode jb_K_tag 1 = .ok (.invokevirtual 64, 3) := by decide +kernel
theorem jd_K_tag_4 : decode jb_K_tag 4 = .ok (.ifCond .ne 13, 3) := by decide +kernel
theorem jd_K_tag_7 : decode jb_K_tag 7 = .ok (.new 72, 3) := by decide +kernel
theorem jd_K_tag_10 : decode jb_K_tag 10 = .ok (.dup, 1) := by decide +kernel
theorem jd_K_tag_11 : decode jb_K_tag 11 = .ok (.ldc 195, 2) := by decide +kernel
theorem jd_K_tag_13 : decode jb_K_tag 13 = .ok (.invokespecial 76, 3) := by decide +kernel
theorem jd_K_tag_16 : decode jb_K_tag 16 = .ok (.athrow, 1) := by decide +kernel
theorem jd_K_tag_17 : decode jb_K_tag 17 = .ok (.iload_n 1, 1) := by decide +kernel
theorem jd_K_tag_18 : decode jb_K_tag 18 = .ok (.invokestatic 49, 3) := by decide +kernel
theorem jd_K_tag_21 : decode jb_K_tag 21 = .ok (.ifCond .eq 10, 3) := by decide +kernel
theorem jd_K_tag_24 : decode jb_K_tag 24 = .ok (.iload_n 2, 1) := by decide +kernel
theorem jd_K_tag_25 : decode jb_K_tag 25 = .ok (.invokestatic 201, 3) := by decide +kernel
theorem jd_K_tag_28 : decode jb_K_tag 28 = .ok (.ifCond .ne 13, 3) := by decide +kernel
theorem jd_K_tag_31 : decode jb_K_tag 31 = .ok (.new 53, 3) := by decide +kernel
theorem jd_K_tag_34 : decode jb_K_tag 34 = .ok (.dup, 1) := by decide +kernel
theorem jd_K_tag_35 : decode jb_K_tag 35 = .ok (.ldc 204, 2) := by decide +kernel
theorem jd_K_tag_37 : decode jb_K_tag 37 = .ok (.invokespecial 57, 3) := by decide +kernel
theorem jd_K_tag_40 : decode jb_K_tag 40 = .ok (.athrow, 1) := by decide +kernel
theorem jd_K_tag_41 : decode jb_K_tag 41 = .ok (.aload_n 0, 1) := by decide +kernel
theorem jd_K_tag_42 : decode jb_K_tag 42 = .ok (.iload_n 1, 1) := by decide +kernel
theorem jd_K_tag_43 : decode jb_K_tag 43 = .ok (.invokevirtual 60, 3) := by decide +kernel
theorem jd_K_tag_46 : decode jb_K_tag 46 = .ok (.iload_n 2, 1) := by decide +kernel
theorem jd_K_tag_47 : decode jb_K_tag 47 = .ok (.aload_n 0, 1) := by decide +kernel
theorem jd_K_tag_48 : decode jb_K_tag 48 = .ok (.getfield 45, 3) := by decide +kernel
theorem jd_K_tag_51 : decode jb_K_tag 51 = .ok (.invokevirtual 206, 3) := by decide +kernel
theorem jd_K_tag_54 : decode jb_K_tag 54 = .ok (.ireturn, 1) := by decide +kernel
theorem jd_K_isTagNumber_0 : decode jb_K_isTagNumber 0 = .ok (.iload_n 0, 1) := by decide +kernel
theorem jd_K_isTagNumber_1 : decode jb_K_isTagNumber 1 = .ok (.iconst 1, 1) := by decide +kernel
theorem jd_K_isTagNumber_2 : decode jb_K_isTagNumber 2 = .ok (.if_icmp .lt 13, 3) := by decide +kernel
theorem jd_K_isTagNumber_5 : decode jb_K_isTagNumber 5 = .ok (.iload_n 0, 1) := by decide +kernel
theorem jd_K_isTagNumber_6 : decode jb_K_isTagNumber 6 = .ok (.ldc 229, 2) := by decide +kernel
theorem jd_K_isTagNumber_8 : decode jb_K_isTagNumber 8 = .ok (.if_icmp .gt 7, 3) := by decide +kernel
theorem jd_K_isTagNumber_11 : decode jb_K_isTagNumber 11 = .ok (.iconst 1, 1) := by decide +kernel
theorem jd_K_isTagNumber_12 : decode jb_K_isTagNumber 12 = .ok (.goto 4, 3) := by decide +kernel
theorem jd_K_isTagNumber_15 : decode jb_K_isTagNumber 15 = .ok (.iconst 0, 1) := by decide +kernel
theorem jd_K_isTagNumber_16 : decode jb_K_isTagNumber 16 = .ok (.ireturn, 1) := by decide +kernel
theorem jd_K_shorten_0 : decode jb_K_shorten 0 = .ok (.aload_n 0, 1) := by decide +kernel
theorem jd_K_shorten_1 : decode jb_K_shorten 1 = .ok (.getfield 31, 3) := by decide +kernel
theorem jd_K_shorten_4 : decode jb_K_shorten 4 = .ok (.invokevirtual 183, 3) := by decide +kernel
theorem jd_K_shorten_7 : decode jb_K_shorten 7 = .ok (.ifCond .ne 13, 3) := by decide +kernel
theorem jd_K_shorten_10 : decode jb_K_shorten 10 = .ok (.new 72, 3) := by decide +kernel
theorem jd_K_shorten_13 : decode jb_K_shorten 13 = .ok (.dup, 1) := by decide +kernel
theorem jd_K_shorten_14 : decode jb_K_shorten 14 = .ok (.ldc 209, 2) := by decide +kernel
theorem jd_K_shorten_16 : decode jb_K_shorten 16 = .ok (.invokespecial 76, 3) := by decide +kernel
theorem jd_K_shorten_19 : decode jb_K_shorten 19 = .ok (.athrow, 1) := by decide +kernel
theorem jd_K_shorten_20 : decode jb_K_shorten 20 = .ok (.iload_n 3, 1) := by decide +kernel
theorem jd_K_shorten_21 : decode jb_K_shorten 21 = .ok (.invokestatic 201, 3) := by decide +kernel
theorem jd_K_shorten_24 : decode jb_K_shorten 24 = .ok (.ifCond .eq 16, 3) := by decide +kernel
theorem jd_K_shorten_27 : decode jb_K_shorten 27 = .ok (.iload 4, 2) := by decide +kernel
theorem jd_K_shorten_29 : decode jb_K_shorten 29 = .ok (.ifCond .lt 11, 3) := by decide +kernel
theorem jd_K_shorten_32 : decode jb_K_shorten 32 = .ok (.iload 4, 2) := by decide +kernel
theorem jd_K_shorten_34 : decode jb_K_shorten 34 = .ok (.sipush 128, 3) := by decide +kernel
theorem jd_K_shorten_37 : decode jb_K_shorten 37 = .ok (.if_icmp .le 13, 3) := by decide +kernel
theorem jd_K_shorten_40 : decode jb_K_shorten 40 = .ok (.new 53, 3) := by decide +kernel
theorem jd_K_shorten_43 : decode jb_K_shorten 43 = .ok (.dup, 1) := by decide +kernel
theorem jd_K_shorten_44 : decode jb_K_shorten 44 = .ok (.ldc 211, 2) := by decide +kernel
theorem jd_K_shorten_46 : decode jb_K_shorten 46 = .ok (.invokespecial 57, 3) := by decide +kernel
theorem jd_K_shorten_49 : decode jb_K_shorten 49 = .ok (.athrow, 1) := by decide +kernel
theorem jd_K_shorten_50 : decode jb_K_shorten 50 = .ok (.aload_n 0, 1) := by decide +kernel
theorem jd_K_shorten_51 : decode jb_K_shorten 51 = .ok (.getfield 45, 3) := by decide +kernel
theorem jd_K_shorten_54 : decode jb_K_shorten 54 = .ok (.aload_n 0, 1) := by decide +kernel
theorem jd_K_shorten_55 : decode jb_K_shorten 55 = .ok (.getfield 31, 3) := by decide +kernel
theorem jd_K_shorten_58 : decode jb_K_shorten 58 = .ok (.getfield 189, 3) := by decide +kernel
theorem jd_K_shorten_61 : decode jb_K_shorten 61 = .ok (.isub, 1) := by decide +kernel
theorem jd_K_shorten_62 : decode jb_K_shorten 62 = .ok (.iload 4, 2) := by decide +kernel
theorem jd_K_shorten_64 : decode jb_K_shorten 64 = .ok (.isub, 1) := by decide +kernel
theorem jd_K_shorten_65 : decode jb_K_shorten 65 = .ok (.bipush 16, 2) := by decide +kernel
theorem jd_K_shorten_67 : decode jb_K_shorten 67 = .ok (.isub, 1) := by decide +kernel
theorem jd_K_shorten_68 : decode jb_K_shorten 68 = .ok (.istore 5, 2) := by decide +kernel
theorem jd_K_shorten_70 : decode jb_K_shorten 70 = .ok (.iload 5, 2) := by decide +kernel
theorem jd_K_shorten_72 : decode jb_K_shorten 72 = .ok (.iconst 1, 1) := by decide +kernel
theorem jd_K_shorten_73 : decode jb_K_shorten 73 = .ok (.if_icmp .lt 30, 3) := by decide +kernel
theorem jd_K_shorten_76 : decode jb_K_shorten 76 = .ok (.aload_n 0, 1) := by decide +kernel
theorem jd_K_shorten_77 : decode jb_K_shorten 77 = .ok (.getfield 10, 3) := by decide +kernel
theorem jd_K_shorten_80 : decode jb_K_shorten 80 = .ok (.iload_n 3, 1) := by decide +kernel
theorem jd_K_shorten_81 : decode jb_K_shorten 81 = .ok (.aload_n 0, 1) := by decide +kernel
theorem jd_K_shorten_82 : decode jb_K_shorten 82 = .ok (.getfield 45, 3) := by decide +kernel
theorem jd_K_shorten_85 : decode jb_K_shorten 85 = .ok (.invokevirtual 206, 3) := by decide +kernel
theorem jd_K_shorten_88 : decode jb_K_shorten 88 = .ok (.aload_n 0, 1) := by decide +kernel
theorem jd_K_shorten_89 : decode jb_K_shorten 89 = .ok (.getfield 16, 3) := by decide +kernel
theorem jd_K_shorten_92 : decode jb_K_shorten 92 = .ok (.iload_n 3, 1) := by decide +kernel
theorem jd_K_shorten_93 : decode jb_K_shorten 93 = .ok (.aload_n 0, 1) := by decide +kernel
theorem jd_K_shorten_94 : decode jb_K_shorten 94 = .ok (.getfield 45, 3) := by decide +kernel
theorem jd_K_shorten_97 : decode jb_K_shorten 97 = .ok (.invokevirtual 206, 3) := by decide +kernel
theorem jd_K_shorten_100 : decode jb_K_shorten 100 = .ok (.if_icmp .eq 13, 3) := by decide +kernel
theorem jd_K_shorten_103 : decode jb_K_shorten 103 = .ok (.new 213, 3) := by decide +kernel
theorem jd_K_shorten_106 : decode jb_K_shorten 106 = .ok (.dup, 1) := by decide +kernel
theorem jd_K_shorten_107 : decode jb_K_shorten 107 = .ok (.ldc 215, 2) := by decide +kernel
theorem jd_K_shorten_109 : decode jb_K_shorten 109 = .ok (.invokespecial 217, 3) := by decide +kernel
theorem jd_K_shorten_112 : decode jb_K_shorten 112 = .ok (.athrow, 1) := by decide +kernel
theorem jd_K_shorten_113 : decode jb_K_shorten 113 = .ok (.aload_n 0, 1) := by decide +kernel
theorem jd_K_shorten_114 : decode jb_K_shorten 114 = .ok (.getfield 22, 3) := by decide +kernel
theorem jd_K_shorten_117 : decode jb_K_shorten 117 = .ok (.lload_n 1, 1) := by decide +kernel
theorem jd_K_shorten_118 : decode jb_K_shorten 118 = .ok (.invokevirtual 218, 3) := by decide +kernel
theorem jd_K_shorten_121 : decode jb_K_shorten 121 = .ok (.iconst 0, 1) := by decide +kernel
theorem jd_K_shorten_122 : decode jb_K_shorten 122 = .ok (.istore 6, 2) := by decide +kernel
theorem jd_K_shorten_124 : decode jb_K_shorten 124 = .ok (.iload 6, 2) := by decide +kernel
theorem jd_K_shorten_126 : decode jb_K_shorten 126 = .ok (.aload_n 0, 1) := by decide +kernel
theorem jd_K_shorten_127 : decode jb_K_shorten 127 = .ok (.getfield 45, 3) := by decide +kernel
theorem jd_K_shorten_130 : decode jb_K_shorten 130 = .ok (.iload 5, 2) := by decide +kernel
theorem jd_K_shorten_132 : decode jb_K_shorten 132 = .ok (.iadd, 1) := by decide +kernel
theorem jd_K_shorten_133 : decode jb_K_shorten 133 = .ok (.iconst 1, 1) := by decide +kernel
theorem jd_K_shorten_134 : decode jb_K_shorten 134 = .ok (.isub, 1) := by decide +kernel
theorem jd_K_shorten_135 : decode jb_K_shorten 135 = .ok (.if_icmp .ge 23, 3) := by decide +kernel
theorem jd_K_shorten_138 : decode jb_K_shorten 138 = .ok (.aload_n 0, 1) := by decide +kernel
theorem jd_K_shorten_139 : decode jb_K_shorten 139 = .ok (.getfield 42, 3) := by decide +kernel
theorem jd_K_shorten_142 : decode jb_K_shorten 142 = .ok (.iload 6, 2) := by decide +kernel
theorem jd_K_shorten_144 : decode jb_K_shorten 144 = .ok (.aload_n 0, 1) := by decide +kernel
theorem jd_K_shorten_145 : decode jb_K_shorten 145 = .ok (.getfield 22, 3) := by decide +kernel
theorem jd_K_shorten_148 : decode jb_K_shorten 148 = .ok (.invokevirtual 222, 3) := by decide +kernel
theorem jd_K_shorten_151 : decode jb_K_shorten 151 = .ok (.iastore, 1) := by decide +kernel
theorem jd_K_shorten_152 : decode jb_K_shorten 152 = .ok (.iinc 6 1, 3) := by decide +kernel
theorem jd_K_shorten_155 : decode jb_K_shorten 155 = .ok (.goto (-31), 3) := by decide +kernel
theorem jd_K_shorten_158 : decode jb_K_shorten 158 = .ok (.aload_n 0, 1) := by decide +kernel
theorem jd_K_shorten_159 : decode jb_K_shorten 159 = .ok (.iload 5, 2) := by decide +kernel
theorem jd_K_shorten_161 : decode jb_K_shorten 161 = .ok (.putfield 226, 3) := by decide +kernel
theorem jd_K_shorten_164 : decode jb_K_shorten 164 = .ok (.aload_n 0, 1) := by decide +kernel
theorem jd_K_shorten_165 : decode jb_K_shorten 165 = .ok (.getfield 226, 3) := by decide +kernel
theorem jd_K_shorten_168 : decode jb_K_shorten 168 = .ok (.ireturn, 1) := by decide +kernel
theorem jd_K_key_0 : decode jb_K_key 0 = .ok (.iload_n 1, 1) := by decide +kernel
theorem jd_K_key_1 : decode jb_K_key 1 = .ok (.invokestatic 49, 3) := by decide +kernel
theorem jd_K_key_4 : decode jb_K_key 4 = .ok (.ifCond .eq 15, 3) := by decide +kernel
theorem jd_K_key_7 : decode jb_K_key 7 = .ok (.iload_n 2, 1) := by decide +kernel
theorem jd_K_key_8 : decode jb_K_key 8 = .ok (.ifCond .lt 11, 3) := by decide +kernel
theorem jd_K_key_11 : decode jb_K_key 11 = .ok (.iload_n 2, 1) := by decide +kernel
theorem jd_K_key_12 : decode jb_K_key 12 = .ok (.aload_n 0, 1) := by decide +kernel
theorem jd_K_key_13 : decode jb_K_key 13 = .ok (.getfield 226, 3) := by decide +kernel
theorem jd_K_key_16 : decode jb_K_key 16 = .ok (.if_icmp .lt 13, 3) := by decide +kernel
theorem jd_K_key_19 : decode jb_K_key 19 = .ok (.new 147, 3) := by decide +kernel
theorem jd_K_key_22 : decode jb_K_key 22 = .ok (.dup, 1) := by decide +kernel
theorem jd_K_key_23 : decode jb_K_key 23 = .ok (.ldc 197, 2) := by decide +kernel
theorem jd_K_key_25 : decode jb_K_key 25 = .ok (.invokespecial 151, 3) := by decide +kernel
theorem jd_K_key_28 : decode jb_K_key 28 = .ok (.athrow, 1) := by decide +kernel
theorem jd_K_key_29 : decode jb_K_key 29 = .ok (.aload_n 0, 1) := by decide +kernel
theorem jd_K_key_30 : decode jb_K_key 30 = .ok (.iload_n 1, 1) := by decide +kernel
theorem jd_K_key_31 : decode jb_K_key 31 = .ok (.invokevirtual 60, 3) := by decide +kernel
theorem jd_K_key_34 : decode jb_K_key 34 = .ok (.getfield 89, 3) := by decide +kernel
theorem jd_K_key_37 : decode jb_K_key 37 = .ok (.astore_n 3, 1) := by decide +kernel
theorem jd_K_key_38 : decode jb_K_key 38 = .ok (.iconst 0, 1) := by decide +kernel
theorem jd_K_key_39 : decode jb_K_key 39 = .ok (.istore 4, 2) := by decide +kernel
theorem jd_K_key_41 : decode jb_K_key 41 = .ok (.iconst 0, 1) := by decide +kernel
theorem jd_K_key_42 : decode jb_K_key 42 = .ok (.istore 5, 2) := by decide +kernel
theorem jd_K_key_44 : decode jb_K_key 44 = .ok (.iload 5, 2) := by decide +kernel
theorem jd_K_key_46 : decode jb_K_key 46 = .ok (.aload_n 0, 1) := by decide +kernel
theorem jd_K_key_47 : decode jb_K_key 47 = .ok (.getfield 45, 3) := by decide +kernel
theorem jd_K_key_50 : decode jb_K_key 50 = .ok (.if_icmp .ge 35, 3) := by decide +kernel
theorem jd_K_key_53 : decode jb_K_key 53 = .ok (.iload 4, 2) := by decide +kernel
theorem jd_K_key_55 : decode jb_K_key 55 = .ok (.aload_n 3, 1) := by decide +kernel
theorem jd_K_key_56 : decode jb_K_key 56 = .ok (.iload 5, 2) := by decide +kernel
theorem jd_K_key_58 : decode jb_K_key 58 = .ok (.iaload, 1) := by decide +kernel
theorem jd_K_key_59 : decode jb_K_key 59 = .ok (.aload_n 0, 1) := by decide +kernel
theorem jd_K_key_60 : decode jb_K_key 60 = .ok (.getfield 42, 3) := by decide +kernel
theorem jd_K_key_63 : decode jb_K_key 63 = .ok (.iload 5, 2) := by decide +kernel
theorem jd_K_key_65 : decode jb_K_key 65 = .ok (.aload_n 0, 1) := by decide +kernel
theorem jd_K_key_66 : decode jb_K_key 66 = .ok (.getfield 226, 3) := by decide +kernel
theorem jd_K_key_69 : decode jb_K_key 69 = .ok (.iadd, 1) := by decide +kernel
theorem jd_K_key_70 : decode jb_K_key 70 = .ok (.iconst 1, 1) := by decide +kernel
theorem jd_K_key_71 : decode jb_K_key 71 = .ok (.isub, 1) := by decide +kernel
theorem jd_K_key_72 : decode jb_K_key 72 = .ok (.iload_n 2, 1) := by decide +kernel
theorem jd_K_key_73 : decode jb_K_key 73 = .ok (.isub, 1) := by decide +kernel
theorem jd_K_key_74 : decode jb_K_key 74 = .ok (.iaload, 1) := by decide +kernel
theorem jd_K_key_75 : decode jb_K_key 75 = .ok (.iand, 1) := by decide +kernel
theorem jd_K_key_76 : decode jb_K_key 76 = .ok (.ixor, 1) := by decide +kernel
theorem jd_K_key_77 : decode jb_K_key 77 = .ok (.istore 4, 2) := by decide +kernel
theorem jd_K_key_79 : decode jb_K_key 79 = .ok (.iinc 5 1, 3) := by decide +kernel
theorem jd_K_key_82 : decode jb_K_key 82 = .ok (.goto (-38), 3) := by decide +kernel
theorem jd_K_key_85 : decode jb_K_key 85 = .ok (.iload 4, 2) := by decide +kernel
theorem jd_K_key_87 : decode jb_K_key 87 = .ok (.ireturn, 1) := by decide +kernel
