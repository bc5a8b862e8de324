/-! the instructions of the law and its wrappers, decoded. Printed by wip/gen (see p43) -/
theorem jd_L_record_0 : decode jb_L_record 0 = .ok (.aload 7, 2) := by decide +kernel
theorem jd_L_record_2 : decode jb_L_record 2 = .ok (.iconst 0, 1) := by decide +kernel
theorem jd_L_record_3 : decode jb_L_record 3 = .ok (.aload_n 0, 1) := by decide +kernel
theorem jd_L_record_4 : decode jb_L_record 4 = .ok (.iload_n 1, 1) := by decide +kernel
theorem jd_L_record_5 : decode jb_L_record 5 = .ok (.iload_n 2, 1) := by decide +kernel
theorem jd_L_record_6 : decode jb_L_record 6 = .ok (.iload_n 3, 1) := by decide +kernel
theorem jd_L_record_7 : decode jb_L_record 7 = .ok (.iload 4, 2) := by decide +kernel
theorem jd_L_record_9 : decode jb_L_record 9 = .ok (.iload 5, 2) := by decide +kernel
theorem jd_L_record_11 : decode jb_L_record 11 = .ok (.iload 6, 2) := by decide +kernel
theorem jd_L_record_13 : decode jb_L_record 13 = .ok (.invokevirtual 7, 3) := by decide +kernel
theorem jd_L_record_16 : decode jb_L_record 16 = .ok (.i2l, 1) := by decide +kernel
theorem jd_L_record_17 : decode jb_L_record 17 = .ok (.lastore, 1) := by decide +kernel
theorem jd_L_record_18 : decode jb_L_record 18 = .ok (.goto 11, 3) := by decide +kernel
theorem jd_L_record_21 : decode jb_L_record 21 = .ok (.astore 8, 2) := by decide +kernel
theorem jd_L_record_23 : decode jb_L_record 23 = .ok (.iconst 1, 1) := by decide +kernel
theorem jd_L_record_24 : decode jb_L_record 24 = .ok (.ireturn, 1) := by decide +kernel
theorem jd_L_record_25 : decode jb_L_record 25 = .ok (.astore 8, 2) := by decide +kernel
theorem jd_L_record_27 : decode jb_L_record 27 = .ok (.iconst 2, 1) := by decide +kernel
theorem jd_L_record_28 : decode jb_L_record 28 = .ok (.ireturn, 1) := by decide +kernel
theorem jd_L_record_29 : decode jb_L_record 29 = .ok (.iconst 0, 1) := by decide +kernel
theorem jd_L_record_30 : decode jb_L_record 30 = .ok (.ireturn, 1) := by decide +kernel
theorem jd_L_sift_0 : decode jb_L_sift 0 = .ok (.aload_n 1, 1) := by decide +kernel
theorem jd_L_sift_1 : decode jb_L_sift 1 = .ok (.iconst 0, 1) := by decide +kernel
theorem jd_L_sift_2 : decode jb_L_sift 2 = .ok (.aload_n 0, 1) := by decide +kernel
theorem jd_L_sift_3 : decode jb_L_sift 3 = .ok (.invokevirtual 17, 3) := by decide +kernel
theorem jd_L_sift_6 : decode jb_L_sift 6 = .ok (.i2l, 1) := by decide +kernel
theorem jd_L_sift_7 : decode jb_L_sift 7 = .ok (.lastore, 1) := by decide +kernel
theorem jd_L_sift_8 : decode jb_L_sift 8 = .ok (.goto 6, 3) := by decide +kernel
theorem jd_L_sift_11 : decode jb_L_sift 11 = .ok (.astore_n 2, 1) := by decide +kernel
theorem jd_L_sift_12 : decode jb_L_sift 12 = .ok (.iconst 1, 1) := by decide +kernel
theorem jd_L_sift_13 : decode jb_L_sift 13 = .ok (.ireturn, 1) := by decide +kernel
theorem jd_L_sift_14 : decode jb_L_sift 14 = .ok (.iconst 0, 1) := by decide +kernel
theorem jd_L_sift_15 : decode jb_L_sift 15 = .ok (.ireturn, 1) := by decide +kernel
theorem jd_L_sample_0 : decode jb_L_sample 0 = .ok (.aload 4, 2) := by decide +kernel
theorem jd_L_sample_2 : decode jb_L_sample 2 = .ok (.iconst 0, 1) := by decide +kernel
theorem jd_L_sample_3 : decode jb_L_sample 3 = .ok (.aload_n 0, 1) := by decide +kernel
theorem jd_L_sample_4 : decode jb_L_sample 4 = .ok (.lload_n 1, 1) := by decide +kernel
theorem jd_L_sample_5 : decode jb_L_sample 5 = .ok (.iload_n 3, 1) := by decide +kernel
theorem jd_L_sample_6 : decode jb_L_sample 6 = .ok (.invokevirtual 21, 3) := by decide +kernel
theorem jd_L_sample_9 : decode jb_L_sample 9 = .ok (.i2l, 1) := by decide +kernel
theorem jd_L_sample_10 : decode jb_L_sample 10 = .ok (.lastore, 1) := by decide +kernel
theorem jd_L_sample_11 : decode jb_L_sample 11 = .ok (.goto 11, 3) := by decide +kernel
theorem jd_L_sample_14 : decode jb_L_sample 14 = .ok (.astore 5, 2) := by decide +kernel
theorem jd_L_sample_16 : decode jb_L_sample 16 = .ok (.iconst 1, 1) := by decide +kernel
theorem jd_L_sample_17 : decode jb_L_sample 17 = .ok (.ireturn, 1) := by decide +kernel
theorem jd_L_sample_18 : decode jb_L_sample 18 = .ok (.astore 5, 2) := by decide +kernel
theorem jd_L_sample_20 : decode jb_L_sample 20 = .ok (.iconst 2, 1) := by decide +kernel
theorem jd_L_sample_21 : decode jb_L_sample 21 = .ok (.ireturn, 1) := by decide +kernel
theorem jd_L_sample_22 : decode jb_L_sample 22 = .ok (.iconst 0, 1) := by decide +kernel
theorem jd_L_sample_23 : decode jb_L_sample 23 = .ok (.ireturn, 1) := by decide +kernel
theorem jd_L_start_0 : decode jb_L_start 0 = .ok (.aload 4, 2) := by decide +kernel
theorem jd_L_start_2 : decode jb_L_start 2 = .ok (.iconst 0, 1) := by decide +kernel
theorem jd_L_start_3 : decode jb_L_start 3 = .ok (.aload_n 0, 1) := by decide +kernel
theorem jd_L_start_4 : decode jb_L_start 4 = .ok (.iload_n 1, 1) := by decide +kernel
theorem jd_L_start_5 : decode jb_L_start 5 = .ok (.lload_n 2, 1) := by decide +kernel
theorem jd_L_start_6 : decode jb_L_start 6 = .ok (.invokevirtual 25, 3) := by decide +kernel
theorem jd_L_start_9 : decode jb_L_start 9 = .ok (.i2l, 1) := by decide +kernel
theorem jd_L_start_10 : decode jb_L_start 10 = .ok (.lastore, 1) := by decide +kernel
theorem jd_L_start_11 : decode jb_L_start 11 = .ok (.goto 11, 3) := by decide +kernel
theorem jd_L_start_14 : decode jb_L_start 14 = .ok (.astore 5, 2) := by decide +kernel
theorem jd_L_start_16 : decode jb_L_start 16 = .ok (.iconst 1, 1) := by decide +kernel
theorem jd_L_start_17 : decode jb_L_start 17 = .ok (.ireturn, 1) := by decide +kernel
theorem jd_L_start_18 : decode jb_L_start 18 = .ok (.astore 5, 2) := by decide +kernel
theorem jd_L_start_20 : decode jb_L_start 20 = .ok (.iconst 2, 1) := by decide +kernel
theorem jd_L_start_21 : decode jb_L_start 21 = .ok (.ireturn, 1) := by decide +kernel
theorem jd_L_start_22 : decode jb_L_start 22 = .ok (.iconst 0, 1) := by decide +kernel
theorem jd_L_start_23 : decode jb_L_start 23 = .ok (.ireturn, 1) := by decide +kernel
theorem jd_L_letter_0 : decode jb_L_letter 0 = .ok (.aload_n 3, 1) := by decide +kernel
theorem jd_L_letter_1 : decode jb_L_letter 1 = .ok (.iconst 0, 1) := by decide +kernel
theorem jd_L_letter_2 : decode jb_L_letter 2 = .ok (.aload_n 0, 1) := by decide +kernel
theorem jd_L_letter_3 : decode jb_L_letter 3 = .ok (.iload_n 1, 1) := by decide +kernel
theorem jd_L_letter_4 : decode jb_L_letter 4 = .ok (.iload_n 2, 1) := by decide +kernel
theorem jd_L_letter_5 : decode jb_L_letter 5 = .ok (.invokevirtual 29, 3) := by decide +kernel
theorem jd_L_letter_8 : decode jb_L_letter 8 = .ok (.i2l, 1) := by decide +kernel
theorem jd_L_letter_9 : decode jb_L_letter 9 = .ok (.lastore, 1) := by decide +kernel
theorem jd_L_letter_10 : decode jb_L_letter 10 = .ok (.goto 15, 3) := by decide +kernel
theorem jd_L_letter_13 : decode jb_L_letter 13 = .ok (.astore 4, 2) := by decide +kernel
theorem jd_L_letter_15 : decode jb_L_letter 15 = .ok (.iconst 1, 1) := by decide +kernel
theorem jd_L_letter_16 : decode jb_L_letter 16 = .ok (.ireturn, 1) := by decide +kernel
theorem jd_L_letter_17 : decode jb_L_letter 17 = .ok (.astore 4, 2) := by decide +kernel
theorem jd_L_letter_19 : decode jb_L_letter 19 = .ok (.iconst 2, 1) := by decide +kernel
theorem jd_L_letter_20 : decode jb_L_letter 20 = .ok (.ireturn, 1) := by decide +kernel
theorem jd_L_letter_21 : decode jb_L_letter 21 = .ok (.astore 4, 2) := by decide +kernel
theorem jd_L_letter_23 : decode jb_L_letter 23 = .ok (.iconst 3, 1) := by decide +kernel
theorem jd_L_letter_24 : decode jb_L_letter 24 = .ok (.ireturn, 1) := by decide +kernel
theorem jd_L_letter_25 : decode jb_L_letter 25 = .ok (.iconst 0, 1) := by decide +kernel
theorem jd_L_letter_26 : decode jb_L_letter 26 = .ok (.ireturn, 1) := by decide +kernel
theorem jd_L_tick_0 : decode jb_L_tick 0 = .ok (.aload_n 1, 1) := by decide +kernel
theorem jd_L_tick_1 : decode jb_L_tick 1 = .ok (.iconst 0, 1) := by decide +kernel
theorem jd_L_tick_2 : decode jb_L_tick 2 = .ok (.aload_n 0, 1) := by decide +kernel
theorem jd_L_tick_3 : decode jb_L_tick 3 = .ok (.invokevirtual 35, 3) := by decide +kernel
theorem jd_L_tick_6 : decode jb_L_tick 6 = .ok (.i2l, 1) := by decide +kernel
theorem jd_L_tick_7 : decode jb_L_tick 7 = .ok (.lastore, 1) := by decide +kernel
theorem jd_L_tick_8 : decode jb_L_tick 8 = .ok (.goto 6, 3) := by decide +kernel
theorem jd_L_tick_11 : decode jb_L_tick 11 = .ok (.astore_n 2, 1) := by decide +kernel
theorem jd_L_tick_12 : decode jb_L_tick 12 = .ok (.iconst 1, 1) := by decide +kernel
theorem jd_L_tick_13 : decode jb_L_tick 13 = .ok (.ireturn, 1) := by decide +kernel
theorem jd_L_tick_14 : decode jb_L_tick 14 = .ok (.iconst 0, 1) := by decide +kernel
theorem jd_L_tick_15 : decode jb_L_tick 15 = .ok (.ireturn, 1) := by decide +kernel
theorem jd_L_bit_0 : decode jb_L_bit 0 = .ok (.aload_n 3, 1) := by decide +kernel
theorem jd_L_bit_1 : decode jb_L_bit 1 = .ok (.iconst 0, 1) := by decide +kernel
theorem jd_L_bit_2 : decode jb_L_bit 2 = .ok (.aload_n 0, 1) := by decide +kernel
theorem jd_L_bit_3 : decode jb_L_bit 3 = .ok (.iload_n 1, 1) := by decide +kernel
theorem jd_L_bit_4 : decode jb_L_bit 4 = .ok (.iload_n 2, 1) := by decide +kernel
theorem jd_L_bit_5 : decode jb_L_bit 5 = .ok (.invokevirtual 38, 3) := by decide +kernel
theorem jd_L_bit_8 : decode jb_L_bit 8 = .ok (.i2l, 1) := by decide +kernel
theorem jd_L_bit_9 : decode jb_L_bit 9 = .ok (.lastore, 1) := by decide +kernel
theorem jd_L_bit_10 : decode jb_L_bit 10 = .ok (.goto 11, 3) := by decide +kernel
theorem jd_L_bit_13 : decode jb_L_bit 13 = .ok (.astore 4, 2) := by decide +kernel
theorem jd_L_bit_15 : decode jb_L_bit 15 = .ok (.iconst 1, 1) := by decide +kernel
theorem jd_L_bit_16 : decode jb_L_bit 16 = .ok (.ireturn, 1) := by decide +kernel
theorem jd_L_bit_17 : decode jb_L_bit 17 = .ok (.astore 4, 2) := by decide +kernel
theorem jd_L_bit_19 : decode jb_L_bit 19 = .ok (.iconst 2, 1) := by decide +kernel
theorem jd_L_bit_20 : decode jb_L_bit 20 = .ok (.ireturn, 1) := by decide +kernel
theorem jd_L_bit_21 : decode jb_L_bit 21 = .ok (.iconst 0, 1) := by decide +kernel
theorem jd_L_bit_22 : decode jb_L_bit 22 = .ok (.ireturn, 1) := by decide +kernel
theorem jd_L_item_0 : decode jb_L_item 0 = .ok (.aload_n 3, 1) := by decide +kernel
theorem jd_L_item_1 : decode jb_L_item 1 = .ok (.iconst 0, 1) := by decide +kernel
theorem jd_L_item_2 : decode jb_L_item 2 = .ok (.aload_n 0, 1) := by decide +kernel
theorem jd_L_item_3 : decode jb_L_item 3 = .ok (.iload_n 1, 1) := by decide +kernel
theorem jd_L_item_4 : decode jb_L_item 4 = .ok (.iload_n 2, 1) := by decide +kernel
theorem jd_L_item_5 : decode jb_L_item 5 = .ok (.invokevirtual 41, 3) := by decide +kernel
theorem jd_L_item_8 : decode jb_L_item 8 = .ok (.i2l, 1) := by decide +kernel
theorem jd_L_item_9 : decode jb_L_item 9 = .ok (.lastore, 1) := by decide +kernel
theorem jd_L_item_10 : decode jb_L_item 10 = .ok (.goto 11, 3) := by decide +kernel
theorem jd_L_item_13 : decode jb_L_item 13 = .ok (.astore 4, 2) := by decide +kernel
theorem jd_L_item_15 : decode jb_L_item 15 = .ok (.iconst 1, 1) := by decide +kernel
theorem jd_L_item_16 : decode jb_L_item 16 = .ok (.ireturn, 1) := by decide +kernel
theorem jd_L_item_17 : decode jb_L_item 17 = .ok (.astore 4, 2) := by decide +kernel
theorem jd_L_item_19 : decode jb_L_item 19 = .ok (.iconst 2, 1) := by decide +kernel
theorem jd_L_item_20 : decode jb_L_item 20 = .ok (.ireturn, 1) := by decide +kernel
theorem jd_L_item_21 : decode jb_L_item 21 = .ok (.iconst 0, 1) := by decide +kernel
theorem jd_L_item_22 : decode jb_L_item 22 = .ok (.ireturn, 1) := by decide +kernel
theorem jd_L_tag_0 : decode jb_L_tag 0 = .ok (.aload_n 3, 1) := by decide +kernel
theorem jd_L_tag_1 : decode jb_L_tag 1 = .ok (.iconst 0, 1) := by decide +kernel
theorem jd_L_tag_2 : decode jb_L_tag 2 = .ok (.aload_n 0, 1) := by decide +kernel
theorem jd_L_tag_3 : decode jb_L_tag 3 = .ok (.iload_n 1, 1) := by decide +kernel
theorem jd_L_tag_4 : decode jb_L_tag 4 = .ok (.iload_n 2, 1) := by decide +kernel
theorem jd_L_tag_5 : decode jb_L_tag 5 = .ok (.invokevirtual 44, 3) := by decide +kernel
theorem jd_L_tag_8 : decode jb_L_tag 8 = .ok (.i2l, 1) := by decide +kernel
theorem jd_L_tag_9 : decode jb_L_tag 9 = .ok (.lastore, 1) := by decide +kernel
theorem jd_L_tag_10 : decode jb_L_tag 10 = .ok (.goto 11, 3) := by decide +kernel
theorem jd_L_tag_13 : decode jb_L_tag 13 = .ok (.astore 4, 2) := by decide +kernel
theorem jd_L_tag_15 : decode jb_L_tag 15 = .ok (.iconst 1, 1) := by decide +kernel
theorem jd_L_tag_16 : decode jb_L_tag 16 = .ok (.ireturn, 1) := by decide +kernel
theorem jd_L_tag_17 : decode jb_L_tag 17 = .ok (.astore 4, 2) := by decide +kernel
theorem jd_L_tag_19 : decode jb_L_tag 19 = .ok (.iconst 2, 1) := by decide +kernel
theorem jd_L_tag_20 : decode jb_L_tag 20 = .ok (.ireturn, 1) := by decide +kernel
theorem jd_L_tag_21 : decode jb_L_tag 21 = .ok (.iconst 0, 1) := by decide +kernel
theorem jd_L_tag_22 : decode jb_L_tag 22 = .ok (.ireturn, 1) := by decide +kernel
theorem jd_L_shorten_0 : decode jb_L_shorten 0 = .ok (.aload 5, 2) := by decide +kernel
theorem jd_L_shorten_2 : decode jb_L_shorten 2 = .ok (.iconst 0, 1) := by decide +kernel
theorem jd_L_shorten_3 : decode jb_L_shorten 3 = .ok (.aload_n 0, 1) := by decide +kernel
theorem jd_L_shorten_4 : decode jb_L_shorten 4 = .ok (.lload_n 1, 1) := by decide +kernel
theorem jd_L_shorten_5 : decode jb_L_shorten 5 = .ok (.iload_n 3, 1) := by decide +kernel
theorem jd_L_shorten_6 : decode jb_L_shorten 6 = .ok (.iload 4, 2) := by decide +kernel
theorem jd_L_shorten_8 : decode jb_L_shorten 8 = .ok (.invokevirtual 47, 3) := by decide +kernel
theorem jd_L_shorten_11 : decode jb_L_shorten 11 = .ok (.i2l, 1) := by decide +kernel
theorem jd_L_shorten_12 : decode jb_L_shorten 12 = .ok (.lastore, 1) := by decide +kernel
theorem jd_L_shorten_13 : decode jb_L_shorten 13 = .ok (.goto 15, 3) := by decide +kernel
theorem jd_L_shorten_16 : decode jb_L_shorten 16 = .ok (.astore 6, 2) := by decide +kernel
theorem jd_L_shorten_18 : decode jb_L_shorten 18 = .ok (.iconst 1, 1) := by decide +kernel
theorem jd_L_shorten_19 : decode jb_L_shorten 19 = .ok (.ireturn, 1) := by decide +kernel
theorem jd_L_shorten_20 : decode jb_L_shorten 20 = .ok (.astore 6, 2) := by decide +kernel
theorem jd_L_shorten_22 : decode jb_L_shorten 22 = .ok (.iconst 2, 1) := by decide +kernel
theorem jd_L_shorten_23 : decode jb_L_shorten 23 = .ok (.ireturn, 1) := by decide +kernel
theorem jd_L_shorten_24 : decode jb_L_shorten 24 = .ok (.astore 6, 2) := by decide +kernel
theorem jd_L_shorten_26 : decode jb_L_shorten 26 = .ok (.iconst 3, 1) := by decide +kernel
theorem jd_L_shorten_27 : decode jb_L_shorten 27 = .ok (.ireturn, 1) := by decide +kernel
theorem jd_L_shorten_28 : decode jb_L_shorten 28 = .ok (.iconst 0, 1) := by decide +kernel
theorem jd_L_shorten_29 : decode jb_L_shorten 29 = .ok (.ireturn, 1) := by decide +kernel
theorem jd_L_key_0 : decode jb_L_key 0 = .ok (.aload_n 3, 1) := by decide +kernel
theorem jd_L_key_1 : decode jb_L_key 1 = .ok (.iconst 0, 1) := by decide +kernel
theorem jd_L_key_2 : decode jb_L_key 2 = .ok (.aload_n 0, 1) := by decide +kernel
theorem jd_L_key_3 : decode jb_L_key 3 = .ok (.iload_n 1, 1) := by decide +kernel
theorem jd_L_key_4 : decode jb_L_key 4 = .ok (.iload_n 2, 1) := by decide +kernel
theorem jd_L_key_5 : decode jb_L_key 5 = .ok (.invokevirtual 53, 3) := by decide +kernel
theorem jd_L_key_8 : decode jb_L_key 8 = .ok (.i2l, 1) := by decide +kernel
theorem jd_L_key_9 : decode jb_L_key 9 = .ok (.lastore, 1) := by decide +kernel
theorem jd_L_key_10 : decode jb_L_key 10 = .ok (.goto 7, 3) := by decide +kernel
theorem jd_L_key_13 : decode jb_L_key 13 = .ok (.astore 4, 2) := by decide +kernel
theorem jd_L_key_15 : decode jb_L_key 15 = .ok (.iconst 1, 1) := by decide +kernel
theorem jd_L_key_16 : decode jb_L_key 16 = .ok (.ireturn, 1) := by decide +kernel
theorem jd_L_key_17 : decode jb_L_key 17 = .ok (.iconst 0, 1) := by decide +kernel
theorem jd_L_key_18 : decode jb_L_key 18 = .ok (.ireturn, 1) := by decide +kernel
