/-! decode rows, as printed -/
theorem dJ0_coder_7d493_0 : decode cJ0_coder_7d493 0 = .ok (.getstatic 38, 3) := by decide +kernel
theorem dJ0_coder_7d493_3 : decode cJ0_coder_7d493 3 = .ok (.ifCond .eq 10, 3) := by decide +kernel
theorem dJ0_coder_7d493_6 : decode cJ0_coder_7d493 6 = .ok (.aload_n 0, 1) := by decide +kernel
theorem dJ0_coder_7d493_7 : decode cJ0_coder_7d493 7 = .ok (.getfield 15, 3) := by decide +kernel
theorem dJ0_coder_7d493_10 : decode cJ0_coder_7d493 10 = .ok (.goto 4, 3) := by decide +kernel
theorem dJ0_coder_7d493_14 : decode cJ0_coder_7d493 14 = .ok (.ireturn, 1) := by decide +kernel
theorem dJ0_indexOf_0f7a4_0 : decode cJ0_indexOf_0f7a4 0 = .ok (.aload_n 0, 1) := by decide +kernel
theorem dJ0_indexOf_0f7a4_1 : decode cJ0_indexOf_0f7a4 1 = .ok (.iload_n 1, 1) := by decide +kernel
theorem dJ0_indexOf_0f7a4_2 : decode cJ0_indexOf_0f7a4 2 = .ok (.iconst 0, 1) := by decide +kernel
theorem dJ0_indexOf_0f7a4_3 : decode cJ0_indexOf_0f7a4 3 = .ok (.invokevirtual 633, 3) := by decide +kernel
theorem dJ0_indexOf_0f7a4_6 : decode cJ0_indexOf_0f7a4 6 = .ok (.ireturn, 1) := by decide +kernel
theorem dJ0_indexOf_7cf53_0 : decode cJ0_indexOf_7cf53 0 = .ok (.aload_n 0, 1) := by decide +kernel
theorem dJ0_indexOf_7cf53_1 : decode cJ0_indexOf_7cf53 1 = .ok (.invokevirtual 492, 3) := by decide +kernel
theorem dJ0_indexOf_7cf53_4 : decode cJ0_indexOf_7cf53 4 = .ok (.ifCond .eq 19, 3) := by decide +kernel
theorem dJ0_indexOf_7cf53_7 : decode cJ0_indexOf_7cf53 7 = .ok (.aload_n 0, 1) := by decide +kernel
theorem dJ0_indexOf_7cf53_8 : decode cJ0_indexOf_7cf53 8 = .ok (.getfield 9, 3) := by decide +kernel
theorem dJ0_indexOf_7cf53_11 : decode cJ0_indexOf_7cf53 11 = .ok (.iload_n 1, 1) := by decide +kernel
theorem dJ0_indexOf_7cf53_12 : decode cJ0_indexOf_7cf53 12 = .ok (.iload_n 2, 1) := by decide +kernel
theorem dJ0_indexOf_7cf53_13 : decode cJ0_indexOf_7cf53 13 = .ok (.aload_n 0, 1) := by decide +kernel
theorem dJ0_indexOf_7cf53_14 : decode cJ0_indexOf_7cf53 14 = .ok (.invokevirtual 505, 3) := by decide +kernel
theorem dJ0_indexOf_7cf53_17 : decode cJ0_indexOf_7cf53 17 = .ok (.invokestatic 637, 3) := by decide +kernel
theorem dJ0_indexOf_7cf53_20 : decode cJ0_indexOf_7cf53 20 = .ok (.goto 16, 3) := by decide +kernel
theorem dJ0_indexOf_7cf53_36 : decode cJ0_indexOf_7cf53 36 = .ok (.ireturn, 1) := by decide +kernel
theorem dJ0_isLatin1_aae02_0 : decode cJ0_isLatin1_aae02 0 = .ok (.getstatic 38, 3) := by decide +kernel
theorem dJ0_isLatin1_aae02_3 : decode cJ0_isLatin1_aae02 3 = .ok (.ifCond .eq 14, 3) := by decide +kernel
theorem dJ0_isLatin1_aae02_6 : decode cJ0_isLatin1_aae02 6 = .ok (.aload_n 0, 1) := by decide +kernel
theorem dJ0_isLatin1_aae02_7 : decode cJ0_isLatin1_aae02 7 = .ok (.getfield 15, 3) := by decide +kernel
theorem dJ0_isLatin1_aae02_10 : decode cJ0_isLatin1_aae02 10 = .ok (.ifCond .ne 7, 3) := by decide +kernel
theorem dJ0_isLatin1_aae02_13 : decode cJ0_isLatin1_aae02 13 = .ok (.iconst 1, 1) := by decide +kernel
theorem dJ0_isLatin1_aae02_14 : decode cJ0_isLatin1_aae02 14 = .ok (.goto 4, 3) := by decide +kernel
theorem dJ0_isLatin1_aae02_18 : decode cJ0_isLatin1_aae02 18 = .ok (.ireturn, 1) := by decide +kernel
theorem dJ0_length_8abf5_0 : decode cJ0_length_8abf5 0 = .ok (.aload_n 0, 1) := by decide +kernel
theorem dJ0_length_8abf5_1 : decode cJ0_length_8abf5 1 = .ok (.getfield 9, 3) := by decide +kernel
theorem dJ0_length_8abf5_4 : decode cJ0_length_8abf5 4 = .ok (.arraylength, 1) := by decide +kernel
theorem dJ0_length_8abf5_5 : decode cJ0_length_8abf5 5 = .ok (.aload_n 0, 1) := by decide +kernel
theorem dJ0_length_8abf5_6 : decode cJ0_length_8abf5 6 = .ok (.invokevirtual 335, 3) := by decide +kernel
theorem dJ0_length_8abf5_9 : decode cJ0_length_8abf5 9 = .ok (.ishr, 1) := by decide +kernel
theorem dJ0_length_8abf5_10 : decode cJ0_length_8abf5 10 = .ok (.ireturn, 1) := by decide +kernel
theorem dJ1_canEncode_9a6ad_0 : decode cJ1_canEncode_9a6ad 0 = .ok (.iload_n 0, 1) := by decide +kernel
theorem dJ1_canEncode_9a6ad_1 : decode cJ1_canEncode_9a6ad 1 = .ok (.ifCond .lt 14, 3) := by decide +kernel
theorem dJ1_canEncode_9a6ad_4 : decode cJ1_canEncode_9a6ad 4 = .ok (.iload_n 0, 1) := by decide +kernel
theorem dJ1_canEncode_9a6ad_5 : decode cJ1_canEncode_9a6ad 5 = .ok (.sipush 255, 3) := by decide +kernel
theorem dJ1_canEncode_9a6ad_8 : decode cJ1_canEncode_9a6ad 8 = .ok (.if_icmp .gt 7, 3) := by decide +kernel
theorem dJ1_canEncode_9a6ad_11 : decode cJ1_canEncode_9a6ad 11 = .ok (.iconst 1, 1) := by decide +kernel
theorem dJ1_canEncode_9a6ad_12 : decode cJ1_canEncode_9a6ad 12 = .ok (.goto 4, 3) := by decide +kernel
theorem dJ1_canEncode_9a6ad_15 : decode cJ1_canEncode_9a6ad 15 = .ok (.iconst 0, 1) := by decide +kernel
theorem dJ1_canEncode_9a6ad_16 : decode cJ1_canEncode_9a6ad 16 = .ok (.ireturn, 1) := by decide +kernel
theorem dJ1_indexOfChar_4cfef_0 : decode cJ1_indexOfChar_4cfef 0 = .ok (.iload_n 1, 1) := by decide +kernel
theorem dJ1_indexOfChar_4cfef_1 : decode cJ1_indexOfChar_4cfef 1 = .ok (.i2b, 1) := by decide +kernel
theorem dJ1_indexOfChar_4cfef_2 : decode cJ1_indexOfChar_4cfef 2 = .ok (.istore 4, 2) := by decide +kernel
theorem dJ1_indexOfChar_4cfef_4 : decode cJ1_indexOfChar_4cfef 4 = .ok (.iload_n 2, 1) := by decide +kernel
theorem dJ1_indexOfChar_4cfef_5 : decode cJ1_indexOfChar_4cfef 5 = .ok (.istore 5, 2) := by decide +kernel
theorem dJ1_indexOfChar_4cfef_7 : decode cJ1_indexOfChar_4cfef 7 = .ok (.iload 5, 2) := by decide +kernel
theorem dJ1_indexOfChar_4cfef_9 : decode cJ1_indexOfChar_4cfef 9 = .ok (.iload_n 3, 1) := by decide +kernel
theorem dJ1_indexOfChar_4cfef_10 : decode cJ1_indexOfChar_4cfef 10 = .ok (.if_icmp .ge 21, 3) := by decide +kernel
theorem dJ1_indexOfChar_4cfef_13 : decode cJ1_indexOfChar_4cfef 13 = .ok (.aload_n 0, 1) := by decide +kernel
theorem dJ1_indexOfChar_4cfef_14 : decode cJ1_indexOfChar_4cfef 14 = .ok (.iload 5, 2) := by decide +kernel
theorem dJ1_indexOfChar_4cfef_16 : decode cJ1_indexOfChar_4cfef 16 = .ok (.baload, 1) := by decide +kernel
theorem dJ1_indexOfChar_4cfef_17 : decode cJ1_indexOfChar_4cfef 17 = .ok (.iload 4, 2) := by decide +kernel
theorem dJ1_indexOfChar_4cfef_19 : decode cJ1_indexOfChar_4cfef 19 = .ok (.if_icmp .ne 6, 3) := by decide +kernel
theorem dJ1_indexOfChar_4cfef_22 : decode cJ1_indexOfChar_4cfef 22 = .ok (.iload 5, 2) := by decide +kernel
theorem dJ1_indexOfChar_4cfef_24 : decode cJ1_indexOfChar_4cfef 24 = .ok (.ireturn, 1) := by decide +kernel
theorem dJ1_indexOfChar_4cfef_25 : decode cJ1_indexOfChar_4cfef 25 = .ok (.iinc 5 1, 3) := by decide +kernel
theorem dJ1_indexOfChar_4cfef_28 : decode cJ1_indexOfChar_4cfef 28 = .ok (.goto (-21), 3) := by decide +kernel
theorem dJ1_indexOfChar_4cfef_31 : decode cJ1_indexOfChar_4cfef 31 = .ok (.iconst (-1), 1) := by decide +kernel
theorem dJ1_indexOfChar_4cfef_32 : decode cJ1_indexOfChar_4cfef 32 = .ok (.ireturn, 1) := by decide +kernel
theorem dJ1_indexOf_4cfef_0 : decode cJ1_indexOf_4cfef 0 = .ok (.iload_n 1, 1) := by decide +kernel
theorem dJ1_indexOf_4cfef_1 : decode cJ1_indexOf_4cfef 1 = .ok (.invokestatic 88, 3) := by decide +kernel
theorem dJ1_indexOf_4cfef_4 : decode cJ1_indexOf_4cfef 4 = .ok (.ifCond .ne 5, 3) := by decide +kernel
theorem dJ1_indexOf_4cfef_7 : decode cJ1_indexOf_4cfef 7 = .ok (.iconst (-1), 1) := by decide +kernel
theorem dJ1_indexOf_4cfef_8 : decode cJ1_indexOf_4cfef 8 = .ok (.ireturn, 1) := by decide +kernel
theorem dJ1_indexOf_4cfef_9 : decode cJ1_indexOf_4cfef 9 = .ok (.iload_n 2, 1) := by decide +kernel
theorem dJ1_indexOf_4cfef_10 : decode cJ1_indexOf_4cfef 10 = .ok (.iconst 0, 1) := by decide +kernel
theorem dJ1_indexOf_4cfef_11 : decode cJ1_indexOf_4cfef 11 = .ok (.invokestatic 92, 3) := by decide +kernel
theorem dJ1_indexOf_4cfef_14 : decode cJ1_indexOf_4cfef 14 = .ok (.istore_n 2, 1) := by decide +kernel
theorem dJ1_indexOf_4cfef_15 : decode cJ1_indexOf_4cfef 15 = .ok (.iload_n 3, 1) := by decide +kernel
theorem dJ1_indexOf_4cfef_16 : decode cJ1_indexOf_4cfef 16 = .ok (.aload_n 0, 1) := by decide +kernel
theorem dJ1_indexOf_4cfef_17 : decode cJ1_indexOf_4cfef 17 = .ok (.arraylength, 1) := by decide +kernel
theorem dJ1_indexOf_4cfef_18 : decode cJ1_indexOf_4cfef 18 = .ok (.invokestatic 38, 3) := by decide +kernel
theorem dJ1_indexOf_4cfef_21 : decode cJ1_indexOf_4cfef 21 = .ok (.istore_n 3, 1) := by decide +kernel
theorem dJ1_indexOf_4cfef_22 : decode cJ1_indexOf_4cfef 22 = .ok (.iload_n 2, 1) := by decide +kernel
theorem dJ1_indexOf_4cfef_23 : decode cJ1_indexOf_4cfef 23 = .ok (.iload_n 3, 1) := by decide +kernel
theorem dJ1_indexOf_4cfef_24 : decode cJ1_indexOf_4cfef 24 = .ok (.if_icmp .lt 5, 3) := by decide +kernel
theorem dJ1_indexOf_4cfef_29 : decode cJ1_indexOf_4cfef 29 = .ok (.aload_n 0, 1) := by decide +kernel
theorem dJ1_indexOf_4cfef_30 : decode cJ1_indexOf_4cfef 30 = .ok (.iload_n 1, 1) := by decide +kernel
theorem dJ1_indexOf_4cfef_31 : decode cJ1_indexOf_4cfef 31 = .ok (.iload_n 2, 1) := by decide +kernel
theorem dJ1_indexOf_4cfef_32 : decode cJ1_indexOf_4cfef 32 = .ok (.iload_n 3, 1) := by decide +kernel
theorem dJ1_indexOf_4cfef_33 : decode cJ1_indexOf_4cfef 33 = .ok (.invokestatic 95, 3) := by decide +kernel
theorem dJ1_indexOf_4cfef_36 : decode cJ1_indexOf_4cfef 36 = .ok (.ireturn, 1) := by decide +kernel
theorem dJ7_fill_53178_0 : decode cJ7_fill_53178 0 = .ok (.iconst 0, 1) := by decide +kernel
theorem dJ7_fill_53178_1 : decode cJ7_fill_53178 1 = .ok (.istore_n 2, 1) := by decide +kernel
theorem dJ7_fill_53178_2 : decode cJ7_fill_53178 2 = .ok (.aload_n 0, 1) := by decide +kernel
theorem dJ7_fill_53178_3 : decode cJ7_fill_53178 3 = .ok (.arraylength, 1) := by decide +kernel
theorem dJ7_fill_53178_4 : decode cJ7_fill_53178 4 = .ok (.istore_n 3, 1) := by decide +kernel
theorem dJ7_fill_53178_5 : decode cJ7_fill_53178 5 = .ok (.iload_n 2, 1) := by decide +kernel
theorem dJ7_fill_53178_6 : decode cJ7_fill_53178 6 = .ok (.iload_n 3, 1) := by decide +kernel
theorem dJ7_fill_53178_7 : decode cJ7_fill_53178 7 = .ok (.if_icmp .ge 13, 3) := by decide +kernel
theorem dJ7_fill_53178_10 : decode cJ7_fill_53178 10 = .ok (.aload_n 0, 1) := by decide +kernel
theorem dJ7_fill_53178_11 : decode cJ7_fill_53178 11 = .ok (.iload_n 2, 1) := by decide +kernel
theorem dJ7_fill_53178_12 : decode cJ7_fill_53178 12 = .ok (.iload_n 1, 1) := by decide +kernel
theorem dJ7_fill_53178_13 : decode cJ7_fill_53178 13 = .ok (.iastore, 1) := by decide +kernel
theorem dJ7_fill_53178_14 : decode cJ7_fill_53178 14 = .ok (.iinc 2 1, 3) := by decide +kernel
theorem dJ7_fill_53178_17 : decode cJ7_fill_53178 17 = .ok (.goto (-12), 3) := by decide +kernel
theorem dJ7_fill_53178_20 : decode cJ7_fill_53178 20 = .ok (.return_, 1) := by decide +kernel
theorem dL_add_0 : decode cL_add 0 = .ok (.aload_n 2, 1) := by decide +kernel
theorem dL_add_1 : decode cL_add 1 = .ok (.iconst 0, 1) := by decide +kernel
theorem dL_add_2 : decode cL_add 2 = .ok (.aload_n 0, 1) := by decide +kernel
theorem dL_add_3 : decode cL_add 3 = .ok (.iload_n 1, 1) := by decide +kernel
theorem dL_add_4 : decode cL_add 4 = .ok (.invokevirtual 7, 3) := by decide +kernel
theorem dL_add_7 : decode cL_add 7 = .ok (.i2l, 1) := by decide +kernel
theorem dL_add_8 : decode cL_add 8 = .ok (.lastore, 1) := by decide +kernel
theorem dL_add_9 : decode cL_add 9 = .ok (.goto 9, 3) := by decide +kernel
theorem dL_add_12 : decode cL_add 12 = .ok (.astore_n 3, 1) := by decide +kernel
theorem dL_add_13 : decode cL_add 13 = .ok (.iconst 1, 1) := by decide +kernel
theorem dL_add_14 : decode cL_add 14 = .ok (.ireturn, 1) := by decide +kernel
theorem dL_add_18 : decode cL_add 18 = .ok (.iconst 0, 1) := by decide +kernel
theorem dL_add_19 : decode cL_add 19 = .ok (.ireturn, 1) := by decide +kernel
theorem dL_begin_0 : decode cL_begin 0 = .ok (.aload_n 2, 1) := by decide +kernel
theorem dL_begin_1 : decode cL_begin 1 = .ok (.iconst 0, 1) := by decide +kernel
theorem dL_begin_2 : decode cL_begin 2 = .ok (.aload_n 0, 1) := by decide +kernel
theorem dL_begin_3 : decode cL_begin 3 = .ok (.iload_n 1, 1) := by decide +kernel
theorem dL_begin_4 : decode cL_begin 4 = .ok (.invokevirtual 55, 3) := by decide +kernel
theorem dL_begin_7 : decode cL_begin 7 = .ok (.i2l, 1) := by decide +kernel
theorem dL_begin_8 : decode cL_begin 8 = .ok (.lastore, 1) := by decide +kernel
theorem dL_begin_9 : decode cL_begin 9 = .ok (.goto 6, 3) := by decide +kernel
theorem dL_begin_12 : decode cL_begin 12 = .ok (.astore_n 3, 1) := by decide +kernel
theorem dL_begin_13 : decode cL_begin 13 = .ok (.iconst 1, 1) := by decide +kernel
theorem dL_begin_14 : decode cL_begin 14 = .ok (.ireturn, 1) := by decide +kernel
theorem dL_begin_15 : decode cL_begin 15 = .ok (.iconst 0, 1) := by decide +kernel
theorem dL_begin_16 : decode cL_begin 16 = .ok (.ireturn, 1) := by decide +kernel
theorem dL_blockAt_0 : decode cL_blockAt 0 = .ok (.aload_n 2, 1) := by decide +kernel
theorem dL_blockAt_1 : decode cL_blockAt 1 = .ok (.iconst 0, 1) := by decide +kernel
theorem dL_blockAt_2 : decode cL_blockAt 2 = .ok (.aload_n 0, 1) := by decide +kernel
theorem dL_blockAt_3 : decode cL_blockAt 3 = .ok (.iload_n 1, 1) := by decide +kernel
theorem dL_blockAt_4 : decode cL_blockAt 4 = .ok (.invokevirtual 92, 3) := by decide +kernel
theorem dL_blockAt_12 : decode cL_blockAt 12 = .ok (.astore_n 3, 1) := by decide +kernel
theorem dL_blockAt_13 : decode cL_blockAt 13 = .ok (.iconst 1, 1) := by decide +kernel
theorem dL_blockAt_14 : decode cL_blockAt 14 = .ok (.ireturn, 1) := by decide +kernel
theorem dL_cut_0 : decode cL_cut 0 = .ok (.aload 4, 2) := by decide +kernel
theorem dL_cut_2 : decode cL_cut 2 = .ok (.iconst 0, 1) := by decide +kernel
theorem dL_cut_3 : decode cL_cut 3 = .ok (.aload_n 0, 1) := by decide +kernel
theorem dL_cut_4 : decode cL_cut 4 = .ok (.iload_n 1, 1) := by decide +kernel
theorem dL_cut_5 : decode cL_cut 5 = .ok (.iload_n 2, 1) := by decide +kernel
theorem dL_cut_6 : decode cL_cut 6 = .ok (.iload_n 3, 1) := by decide +kernel
theorem dL_cut_7 : decode cL_cut 7 = .ok (.invokevirtual 52, 3) := by decide +kernel
theorem dL_cut_15 : decode cL_cut 15 = .ok (.astore 5, 2) := by decide +kernel
theorem dL_cut_17 : decode cL_cut 17 = .ok (.iconst 1, 1) := by decide +kernel
theorem dL_cut_18 : decode cL_cut 18 = .ok (.ireturn, 1) := by decide +kernel
theorem dL_cut_19 : decode cL_cut 19 = .ok (.astore 5, 2) := by decide +kernel
theorem dL_cut_21 : decode cL_cut 21 = .ok (.iconst 2, 1) := by decide +kernel
theorem dL_cut_22 : decode cL_cut 22 = .ok (.ireturn, 1) := by decide +kernel
theorem dL_cutFor_0 : decode cL_cutFor 0 = .ok (.aload_n 2, 1) := by decide +kernel
theorem dL_cutFor_1 : decode cL_cutFor 1 = .ok (.iconst 0, 1) := by decide +kernel
theorem dL_cutFor_2 : decode cL_cutFor 2 = .ok (.aload_n 0, 1) := by decide +kernel
theorem dL_cutFor_3 : decode cL_cutFor 3 = .ok (.iload_n 1, 1) := by decide +kernel
theorem dL_cutFor_4 : decode cL_cutFor 4 = .ok (.invokevirtual 125, 3) := by decide +kernel
theorem dL_cutFor_12 : decode cL_cutFor 12 = .ok (.astore_n 3, 1) := by decide +kernel
theorem dL_cutFor_13 : decode cL_cutFor 13 = .ok (.iconst 1, 1) := by decide +kernel
theorem dL_cutFor_14 : decode cL_cutFor 14 = .ok (.ireturn, 1) := by decide +kernel
theorem dL_fairest_0 : decode cL_fairest 0 = .ok (.aload_n 2, 1) := by decide +kernel
theorem dL_fairest_1 : decode cL_fairest 1 = .ok (.iconst 0, 1) := by decide +kernel
theorem dL_fairest_2 : decode cL_fairest 2 = .ok (.aload_n 0, 1) := by decide +kernel
theorem dL_fairest_3 : decode cL_fairest 3 = .ok (.iload_n 1, 1) := by decide +kernel
theorem dL_fairest_4 : decode cL_fairest 4 = .ok (.invokevirtual 119, 3) := by decide +kernel
theorem dL_fairest_7 : decode cL_fairest 7 = .ok (.i2l, 1) := by decide +kernel
theorem dL_fairest_8 : decode cL_fairest 8 = .ok (.lastore, 1) := by decide +kernel
theorem dL_fairest_9 : decode cL_fairest 9 = .ok (.goto 9, 3) := by decide +kernel
theorem dL_fairest_12 : decode cL_fairest 12 = .ok (.astore_n 3, 1) := by decide +kernel
theorem dL_fairest_13 : decode cL_fairest 13 = .ok (.iconst 1, 1) := by decide +kernel
theorem dL_fairest_14 : decode cL_fairest 14 = .ok (.ireturn, 1) := by decide +kernel
theorem dL_fairest_18 : decode cL_fairest 18 = .ok (.iconst 0, 1) := by decide +kernel
theorem dL_fairest_19 : decode cL_fairest 19 = .ok (.ireturn, 1) := by decide +kernel
theorem dL_filled_0 : decode cL_filled 0 = .ok (.aload_n 2, 1) := by decide +kernel
theorem dL_filled_1 : decode cL_filled 1 = .ok (.iconst 0, 1) := by decide +kernel
theorem dL_filled_2 : decode cL_filled 2 = .ok (.aload_n 0, 1) := by decide +kernel
theorem dL_filled_3 : decode cL_filled 3 = .ok (.iload_n 1, 1) := by decide +kernel
theorem dL_filled_4 : decode cL_filled 4 = .ok (.invokevirtual 95, 3) := by decide +kernel
theorem dL_filled_12 : decode cL_filled 12 = .ok (.astore_n 3, 1) := by decide +kernel
theorem dL_filled_13 : decode cL_filled 13 = .ok (.iconst 1, 1) := by decide +kernel
theorem dL_filled_14 : decode cL_filled 14 = .ok (.ireturn, 1) := by decide +kernel
theorem dL_gain_0 : decode cL_gain 0 = .ok (.aload_n 2, 1) := by decide +kernel
theorem dL_gain_1 : decode cL_gain 1 = .ok (.iconst 0, 1) := by decide +kernel
theorem dL_gain_2 : decode cL_gain 2 = .ok (.aload_n 0, 1) := by decide +kernel
theorem dL_gain_3 : decode cL_gain 3 = .ok (.iload_n 1, 1) := by decide +kernel
theorem dL_gain_4 : decode cL_gain 4 = .ok (.invokevirtual 122, 3) := by decide +kernel
theorem dL_gain_12 : decode cL_gain 12 = .ok (.astore_n 3, 1) := by decide +kernel
theorem dL_gain_13 : decode cL_gain 13 = .ok (.iconst 1, 1) := by decide +kernel
theorem dL_gain_14 : decode cL_gain 14 = .ok (.ireturn, 1) := by decide +kernel
theorem dL_give_0 : decode cL_give 0 = .ok (.aload 4, 2) := by decide +kernel
theorem dL_give_2 : decode cL_give 2 = .ok (.iconst 0, 1) := by decide +kernel
theorem dL_give_3 : decode cL_give 3 = .ok (.aload_n 0, 1) := by decide +kernel
theorem dL_give_4 : decode cL_give 4 = .ok (.iload_n 1, 1) := by decide +kernel
theorem dL_give_5 : decode cL_give 5 = .ok (.iload_n 2, 1) := by decide +kernel
theorem dL_give_6 : decode cL_give 6 = .ok (.iload_n 3, 1) := by decide +kernel
theorem dL_give_7 : decode cL_give 7 = .ok (.invokevirtual 152, 3) := by decide +kernel
theorem dL_give_10 : decode cL_give 10 = .ok (.ifCond .eq 7, 3) := by decide +kernel
theorem dL_give_17 : decode cL_give 17 = .ok (.lconst 0, 1) := by decide +kernel
theorem dL_give_18 : decode cL_give 18 = .ok (.lastore, 1) := by decide +kernel
theorem dL_give_19 : decode cL_give 19 = .ok (.goto 7, 3) := by decide +kernel
theorem dL_give_22 : decode cL_give 22 = .ok (.astore 5, 2) := by decide +kernel
theorem dL_give_24 : decode cL_give 24 = .ok (.iconst 1, 1) := by decide +kernel
theorem dL_give_25 : decode cL_give 25 = .ok (.ireturn, 1) := by decide +kernel
theorem dL_give_26 : decode cL_give 26 = .ok (.iconst 0, 1) := by decide +kernel
theorem dL_give_27 : decode cL_give 27 = .ok (.ireturn, 1) := by decide +kernel
theorem dL_held_0 : decode cL_held 0 = .ok (.aload_n 2, 1) := by decide +kernel
theorem dL_held_1 : decode cL_held 1 = .ok (.iconst 0, 1) := by decide +kernel
theorem dL_held_2 : decode cL_held 2 = .ok (.aload_n 0, 1) := by decide +kernel
theorem dL_held_3 : decode cL_held 3 = .ok (.iload_n 1, 1) := by decide +kernel
theorem dL_held_4 : decode cL_held 4 = .ok (.invokevirtual 86, 3) := by decide +kernel
theorem dL_held_12 : decode cL_held 12 = .ok (.astore_n 3, 1) := by decide +kernel
theorem dL_held_13 : decode cL_held 13 = .ok (.iconst 1, 1) := by decide +kernel
theorem dL_held_14 : decode cL_held 14 = .ok (.ireturn, 1) := by decide +kernel
theorem dL_heldAt_0 : decode cL_heldAt 0 = .ok (.aload_n 3, 1) := by decide +kernel
theorem dL_heldAt_1 : decode cL_heldAt 1 = .ok (.iconst 0, 1) := by decide +kernel
theorem dL_heldAt_2 : decode cL_heldAt 2 = .ok (.aload_n 0, 1) := by decide +kernel
theorem dL_heldAt_3 : decode cL_heldAt 3 = .ok (.iload_n 1, 1) := by decide +kernel
theorem dL_heldAt_4 : decode cL_heldAt 4 = .ok (.iload_n 2, 1) := by decide +kernel
theorem dL_heldAt_5 : decode cL_heldAt 5 = .ok (.invokevirtual 89, 3) := by decide +kernel
theorem dL_heldAt_13 : decode cL_heldAt 13 = .ok (.astore 4, 2) := by decide +kernel
theorem dL_heldAt_15 : decode cL_heldAt 15 = .ok (.iconst 1, 1) := by decide +kernel
theorem dL_heldAt_16 : decode cL_heldAt 16 = .ok (.ireturn, 1) := by decide +kernel
theorem dL_helped_0 : decode cL_helped 0 = .ok (.aload_n 2, 1) := by decide +kernel
theorem dL_helped_1 : decode cL_helped 1 = .ok (.iconst 0, 1) := by decide +kernel
theorem dL_helped_2 : decode cL_helped 2 = .ok (.aload_n 0, 1) := by decide +kernel
theorem dL_helped_3 : decode cL_helped 3 = .ok (.iload_n 1, 1) := by decide +kernel
theorem dL_helped_4 : decode cL_helped 4 = .ok (.invokevirtual 156, 3) := by decide +kernel
theorem dL_helped_7 : decode cL_helped 7 = .ok (.i2l, 1) := by decide +kernel
theorem dL_helped_8 : decode cL_helped 8 = .ok (.lastore, 1) := by decide +kernel
theorem dL_helped_9 : decode cL_helped 9 = .ok (.goto 6, 3) := by decide +kernel
theorem dL_helped_12 : decode cL_helped 12 = .ok (.astore_n 3, 1) := by decide +kernel
theorem dL_helped_13 : decode cL_helped 13 = .ok (.iconst 1, 1) := by decide +kernel
theorem dL_helped_14 : decode cL_helped 14 = .ok (.ireturn, 1) := by decide +kernel
theorem dL_helped_15 : decode cL_helped 15 = .ok (.iconst 0, 1) := by decide +kernel
theorem dL_helped_16 : decode cL_helped 16 = .ok (.ireturn, 1) := by decide +kernel
theorem dL_houseOf_0 : decode cL_houseOf 0 = .ok (.aload_n 2, 1) := by decide +kernel
theorem dL_houseOf_1 : decode cL_houseOf 1 = .ok (.iconst 0, 1) := by decide +kernel
theorem dL_houseOf_2 : decode cL_houseOf 2 = .ok (.aload_n 0, 1) := by decide +kernel
theorem dL_houseOf_3 : decode cL_houseOf 3 = .ok (.iload_n 1, 1) := by decide +kernel
theorem dL_houseOf_4 : decode cL_houseOf 4 = .ok (.invokevirtual 83, 3) := by decide +kernel
theorem dL_houseOf_12 : decode cL_houseOf 12 = .ok (.astore_n 3, 1) := by decide +kernel
theorem dL_houseOf_13 : decode cL_houseOf 13 = .ok (.iconst 1, 1) := by decide +kernel
theorem dL_houseOf_14 : decode cL_houseOf 14 = .ok (.ireturn, 1) := by decide +kernel
theorem dL_lacks_0 : decode cL_lacks 0 = .ok (.aload_n 2, 1) := by decide +kernel
theorem dL_lacks_1 : decode cL_lacks 1 = .ok (.iconst 0, 1) := by decide +kernel
theorem dL_lacks_2 : decode cL_lacks 2 = .ok (.aload_n 0, 1) := by decide +kernel
theorem dL_lacks_3 : decode cL_lacks 3 = .ok (.iload_n 1, 1) := by decide +kernel
theorem dL_lacks_4 : decode cL_lacks 4 = .ok (.invokevirtual 98, 3) := by decide +kernel
theorem dL_lacks_12 : decode cL_lacks 12 = .ok (.astore_n 3, 1) := by decide +kernel
theorem dL_lacks_13 : decode cL_lacks 13 = .ok (.iconst 1, 1) := by decide +kernel
theorem dL_lacks_14 : decode cL_lacks 14 = .ok (.ireturn, 1) := by decide +kernel
theorem dL_law_0 : decode cL_law 0 = .ok (.new 8, 3) := by decide +kernel
theorem dL_law_3 : decode cL_law 3 = .ok (.dup, 1) := by decide +kernel
theorem dL_law_4 : decode cL_law 4 = .ok (.invokespecial 169, 3) := by decide +kernel
theorem dL_law_7 : decode cL_law 7 = .ok (.astore_n 1, 1) := by decide +kernel
theorem dL_law_8 : decode cL_law 8 = .ok (.new 170, 3) := by decide +kernel
theorem dL_law_11 : decode cL_law 11 = .ok (.dup, 1) := by decide +kernel
theorem dL_law_12 : decode cL_law 12 = .ok (.invokespecial 172, 3) := by decide +kernel
theorem dL_law_15 : decode cL_law 15 = .ok (.astore_n 2, 1) := by decide +kernel
theorem dL_law_16 : decode cL_law 16 = .ok (.iconst 1, 1) := by decide +kernel
theorem dL_law_17 : decode cL_law 17 = .ok (.newarray .long, 2) := by decide +kernel
theorem dL_law_19 : decode cL_law 19 = .ok (.astore_n 3, 1) := by decide +kernel
theorem dL_law_20 : decode cL_law 20 = .ok (.iconst 1, 1) := by decide +kernel
theorem dL_law_21 : decode cL_law 21 = .ok (.newarray .double, 2) := by decide +kernel
theorem dL_law_23 : decode cL_law 23 = .ok (.astore 4, 2) := by decide +kernel
theorem dL_law_25 : decode cL_law 25 = .ok (.iconst 0, 1) := by decide +kernel
theorem dL_law_26 : decode cL_law 26 = .ok (.istore 5, 2) := by decide +kernel
theorem dL_law_268 : decode cL_law 268 = .ok (.aload_n 1, 1) := by decide +kernel
theorem dL_law_269 : decode cL_law 269 = .ok (.aload_n 0, 1) := by decide +kernel
theorem dL_law_270 : decode cL_law 270 = .ok (.iload 5, 2) := by decide +kernel
theorem dL_law_272 : decode cL_law 272 = .ok (.iconst 1, 1) := by decide +kernel
theorem dL_law_273 : decode cL_law 273 = .ok (.iadd, 1) := by decide +kernel
theorem dL_law_274 : decode cL_law 274 = .ok (.iaload, 1) := by decide +kernel
theorem dL_law_275 : decode cL_law 275 = .ok (.i2c, 1) := by decide +kernel
theorem dL_law_276 : decode cL_law 276 = .ok (.aload_n 3, 1) := by decide +kernel
theorem dL_law_277 : decode cL_law 277 = .ok (.invokestatic 173, 3) := by decide +kernel
theorem dL_law_280 : decode cL_law 280 = .ok (.istore 6, 2) := by decide +kernel
theorem dL_law_282 : decode cL_law 282 = .ok (.aload_n 2, 1) := by decide +kernel
theorem dL_law_283 : decode cL_law 283 = .ok (.aload_n 0, 1) := by decide +kernel
theorem dL_law_284 : decode cL_law 284 = .ok (.iload 5, 2) := by decide +kernel
theorem dL_law_286 : decode cL_law 286 = .ok (.iconst 1, 1) := by decide +kernel
theorem dL_law_287 : decode cL_law 287 = .ok (.iadd, 1) := by decide +kernel
theorem dL_law_288 : decode cL_law 288 = .ok (.iaload, 1) := by decide +kernel
theorem dL_law_289 : decode cL_law 289 = .ok (.i2c, 1) := by decide +kernel
theorem dL_law_290 : decode cL_law 290 = .ok (.invokevirtual 178, 3) := by decide +kernel
theorem dL_law_293 : decode cL_law 293 = .ok (.istore 7, 2) := by decide +kernel
theorem dL_law_295 : decode cL_law 295 = .ok (.aload_n 2, 1) := by decide +kernel
theorem dL_law_296 : decode cL_law 296 = .ok (.invokevirtual 179, 3) := by decide +kernel
theorem dL_law_299 : decode cL_law 299 = .ok (.iload 6, 2) := by decide +kernel
theorem dL_law_301 : decode cL_law 301 = .ok (.if_icmp .eq 5, 3) := by decide +kernel
theorem dL_law_306 : decode cL_law 306 = .ok (.iload 6, 2) := by decide +kernel
theorem dL_law_308 : decode cL_law 308 = .ok (.ifCond .ne 15, 3) := by decide +kernel
theorem dL_law_311 : decode cL_law 311 = .ok (.aload_n 3, 1) := by decide +kernel
theorem dL_law_312 : decode cL_law 312 = .ok (.iconst 0, 1) := by decide +kernel
theorem dL_law_313 : decode cL_law 313 = .ok (.laload, 1) := by decide +kernel
theorem dL_law_314 : decode cL_law 314 = .ok (.iload 7, 2) := by decide +kernel
theorem dL_law_316 : decode cL_law 316 = .ok (.i2l, 1) := by decide +kernel
theorem dL_law_317 : decode cL_law 317 = .ok (.lcmp, 1) := by decide +kernel
theorem dL_law_318 : decode cL_law 318 = .ok (.ifCond .eq 5, 3) := by decide +kernel
theorem dL_law_323 : decode cL_law 323 = .ok (.goto 2798, 3) := by decide +kernel
theorem dL_law_326 : decode cL_law 326 = .ok (.aload_n 1, 1) := by decide +kernel
theorem dL_law_327 : decode cL_law 327 = .ok (.aload_n 0, 1) := by decide +kernel
theorem dL_law_328 : decode cL_law 328 = .ok (.iload 5, 2) := by decide +kernel
theorem dL_law_330 : decode cL_law 330 = .ok (.iconst 1, 1) := by decide +kernel
theorem dL_law_331 : decode cL_law 331 = .ok (.iadd, 1) := by decide +kernel
theorem dL_law_332 : decode cL_law 332 = .ok (.iaload, 1) := by decide +kernel
theorem dL_law_333 : decode cL_law 333 = .ok (.i2c, 1) := by decide +kernel
theorem dL_law_334 : decode cL_law 334 = .ok (.aload_n 3, 1) := by decide +kernel
theorem dL_law_335 : decode cL_law 335 = .ok (.invokestatic 182, 3) := by decide +kernel
theorem dL_law_338 : decode cL_law 338 = .ok (.istore 6, 2) := by decide +kernel
theorem dL_law_340 : decode cL_law 340 = .ok (.aload_n 2, 1) := by decide +kernel
theorem dL_law_341 : decode cL_law 341 = .ok (.aload_n 0, 1) := by decide +kernel
theorem dL_law_342 : decode cL_law 342 = .ok (.iload 5, 2) := by decide +kernel
theorem dL_law_344 : decode cL_law 344 = .ok (.iconst 1, 1) := by decide +kernel
theorem dL_law_345 : decode cL_law 345 = .ok (.iadd, 1) := by decide +kernel
theorem dL_law_346 : decode cL_law 346 = .ok (.iaload, 1) := by decide +kernel
theorem dL_law_347 : decode cL_law 347 = .ok (.i2c, 1) := by decide +kernel
theorem dL_law_348 : decode cL_law 348 = .ok (.invokevirtual 184, 3) := by decide +kernel
theorem dL_law_351 : decode cL_law 351 = .ok (.istore 7, 2) := by decide +kernel
theorem dL_law_353 : decode cL_law 353 = .ok (.aload_n 2, 1) := by decide +kernel
theorem dL_law_354 : decode cL_law 354 = .ok (.invokevirtual 179, 3) := by decide +kernel
theorem dL_law_357 : decode cL_law 357 = .ok (.iload 6, 2) := by decide +kernel
theorem dL_law_359 : decode cL_law 359 = .ok (.if_icmp .eq 5, 3) := by decide +kernel
theorem dL_law_364 : decode cL_law 364 = .ok (.iload 6, 2) := by decide +kernel
theorem dL_law_366 : decode cL_law 366 = .ok (.ifCond .ne 15, 3) := by decide +kernel
theorem dL_law_369 : decode cL_law 369 = .ok (.aload_n 3, 1) := by decide +kernel
theorem dL_law_370 : decode cL_law 370 = .ok (.iconst 0, 1) := by decide +kernel
theorem dL_law_371 : decode cL_law 371 = .ok (.laload, 1) := by decide +kernel
theorem dL_law_372 : decode cL_law 372 = .ok (.iload 7, 2) := by decide +kernel
theorem dL_law_374 : decode cL_law 374 = .ok (.i2l, 1) := by decide +kernel
theorem dL_law_375 : decode cL_law 375 = .ok (.lcmp, 1) := by decide +kernel
theorem dL_law_376 : decode cL_law 376 = .ok (.ifCond .eq 5, 3) := by decide +kernel
theorem dL_law_381 : decode cL_law 381 = .ok (.goto 2740, 3) := by decide +kernel
theorem dL_law_384 : decode cL_law 384 = .ok (.aload_n 1, 1) := by decide +kernel
theorem dL_law_385 : decode cL_law 385 = .ok (.aload_n 0, 1) := by decide +kernel
theorem dL_law_386 : decode cL_law 386 = .ok (.iload 5, 2) := by decide +kernel
theorem dL_law_388 : decode cL_law 388 = .ok (.iconst 1, 1) := by decide +kernel
theorem dL_law_389 : decode cL_law 389 = .ok (.iadd, 1) := by decide +kernel
theorem dL_law_390 : decode cL_law 390 = .ok (.iaload, 1) := by decide +kernel
theorem dL_law_391 : decode cL_law 391 = .ok (.aload_n 0, 1) := by decide +kernel
theorem dL_law_392 : decode cL_law 392 = .ok (.iload 5, 2) := by decide +kernel
theorem dL_law_394 : decode cL_law 394 = .ok (.iconst 2, 1) := by decide +kernel
theorem dL_law_395 : decode cL_law 395 = .ok (.iadd, 1) := by decide +kernel
theorem dL_law_396 : decode cL_law 396 = .ok (.iaload, 1) := by decide +kernel
theorem dL_law_397 : decode cL_law 397 = .ok (.aload_n 3, 1) := by decide +kernel
theorem dL_law_398 : decode cL_law 398 = .ok (.invokestatic 185, 3) := by decide +kernel
theorem dL_law_401 : decode cL_law 401 = .ok (.istore 6, 2) := by decide +kernel
theorem dL_law_403 : decode cL_law 403 = .ok (.aload_n 2, 1) := by decide +kernel
theorem dL_law_404 : decode cL_law 404 = .ok (.aload_n 0, 1) := by decide +kernel
theorem dL_law_405 : decode cL_law 405 = .ok (.iload 5, 2) := by decide +kernel
theorem dL_law_407 : decode cL_law 407 = .ok (.iconst 1, 1) := by decide +kernel
theorem dL_law_408 : decode cL_law 408 = .ok (.iadd, 1) := by decide +kernel
theorem dL_law_409 : decode cL_law 409 = .ok (.iaload, 1) := by decide +kernel
theorem dL_law_410 : decode cL_law 410 = .ok (.aload_n 0, 1) := by decide +kernel
theorem dL_law_411 : decode cL_law 411 = .ok (.iload 5, 2) := by decide +kernel
theorem dL_law_413 : decode cL_law 413 = .ok (.iconst 2, 1) := by decide +kernel
theorem dL_law_414 : decode cL_law 414 = .ok (.iadd, 1) := by decide +kernel
theorem dL_law_415 : decode cL_law 415 = .ok (.iaload, 1) := by decide +kernel
theorem dL_law_416 : decode cL_law 416 = .ok (.invokevirtual 188, 3) := by decide +kernel
theorem dL_law_419 : decode cL_law 419 = .ok (.istore 7, 2) := by decide +kernel
theorem dL_law_421 : decode cL_law 421 = .ok (.aload_n 2, 1) := by decide +kernel
theorem dL_law_422 : decode cL_law 422 = .ok (.invokevirtual 179, 3) := by decide +kernel
theorem dL_law_425 : decode cL_law 425 = .ok (.iload 6, 2) := by decide +kernel
theorem dL_law_427 : decode cL_law 427 = .ok (.if_icmp .eq 5, 3) := by decide +kernel
theorem dL_law_432 : decode cL_law 432 = .ok (.iload 6, 2) := by decide +kernel
theorem dL_law_434 : decode cL_law 434 = .ok (.ifCond .ne 15, 3) := by decide +kernel
theorem dL_law_449 : decode cL_law 449 = .ok (.goto 2672, 3) := by decide +kernel
theorem dL_law_452 : decode cL_law 452 = .ok (.aload_n 1, 1) := by decide +kernel
theorem dL_law_453 : decode cL_law 453 = .ok (.aload_n 0, 1) := by decide +kernel
theorem dL_law_454 : decode cL_law 454 = .ok (.iload 5, 2) := by decide +kernel
theorem dL_law_456 : decode cL_law 456 = .ok (.iconst 1, 1) := by decide +kernel
theorem dL_law_457 : decode cL_law 457 = .ok (.iadd, 1) := by decide +kernel
theorem dL_law_458 : decode cL_law 458 = .ok (.iaload, 1) := by decide +kernel
theorem dL_law_459 : decode cL_law 459 = .ok (.aload_n 0, 1) := by decide +kernel
theorem dL_law_460 : decode cL_law 460 = .ok (.iload 5, 2) := by decide +kernel
theorem dL_law_462 : decode cL_law 462 = .ok (.iconst 2, 1) := by decide +kernel
theorem dL_law_463 : decode cL_law 463 = .ok (.iadd, 1) := by decide +kernel
theorem dL_law_464 : decode cL_law 464 = .ok (.iaload, 1) := by decide +kernel
theorem dL_law_465 : decode cL_law 465 = .ok (.aload_n 3, 1) := by decide +kernel
theorem dL_law_466 : decode cL_law 466 = .ok (.invokestatic 189, 3) := by decide +kernel
theorem dL_law_469 : decode cL_law 469 = .ok (.istore 6, 2) := by decide +kernel
theorem dL_law_471 : decode cL_law 471 = .ok (.aload_n 2, 1) := by decide +kernel
theorem dL_law_472 : decode cL_law 472 = .ok (.aload_n 0, 1) := by decide +kernel
theorem dL_law_473 : decode cL_law 473 = .ok (.iload 5, 2) := by decide +kernel
theorem dL_law_475 : decode cL_law 475 = .ok (.iconst 1, 1) := by decide +kernel
theorem dL_law_476 : decode cL_law 476 = .ok (.iadd, 1) := by decide +kernel
theorem dL_law_477 : decode cL_law 477 = .ok (.iaload, 1) := by decide +kernel
theorem dL_law_478 : decode cL_law 478 = .ok (.aload_n 0, 1) := by decide +kernel
theorem dL_law_479 : decode cL_law 479 = .ok (.iload 5, 2) := by decide +kernel
theorem dL_law_481 : decode cL_law 481 = .ok (.iconst 2, 1) := by decide +kernel
theorem dL_law_482 : decode cL_law 482 = .ok (.iadd, 1) := by decide +kernel
theorem dL_law_483 : decode cL_law 483 = .ok (.iaload, 1) := by decide +kernel
theorem dL_law_484 : decode cL_law 484 = .ok (.invokevirtual 191, 3) := by decide +kernel
theorem dL_law_487 : decode cL_law 487 = .ok (.istore 7, 2) := by decide +kernel
theorem dL_law_489 : decode cL_law 489 = .ok (.aload_n 2, 1) := by decide +kernel
theorem dL_law_490 : decode cL_law 490 = .ok (.invokevirtual 179, 3) := by decide +kernel
theorem dL_law_493 : decode cL_law 493 = .ok (.iload 6, 2) := by decide +kernel
theorem dL_law_495 : decode cL_law 495 = .ok (.if_icmp .eq 5, 3) := by decide +kernel
theorem dL_law_500 : decode cL_law 500 = .ok (.iload 6, 2) := by decide +kernel
theorem dL_law_502 : decode cL_law 502 = .ok (.ifCond .ne 15, 3) := by decide +kernel
theorem dL_law_517 : decode cL_law 517 = .ok (.goto 2604, 3) := by decide +kernel
theorem dL_law_520 : decode cL_law 520 = .ok (.aload_n 1, 1) := by decide +kernel
theorem dL_law_521 : decode cL_law 521 = .ok (.aload_n 0, 1) := by decide +kernel
theorem dL_law_522 : decode cL_law 522 = .ok (.iload 5, 2) := by decide +kernel
theorem dL_law_524 : decode cL_law 524 = .ok (.iconst 1, 1) := by decide +kernel
theorem dL_law_525 : decode cL_law 525 = .ok (.iadd, 1) := by decide +kernel
theorem dL_law_526 : decode cL_law 526 = .ok (.iaload, 1) := by decide +kernel
theorem dL_law_527 : decode cL_law 527 = .ok (.i2c, 1) := by decide +kernel
theorem dL_law_528 : decode cL_law 528 = .ok (.aload_n 3, 1) := by decide +kernel
theorem dL_law_529 : decode cL_law 529 = .ok (.invokestatic 192, 3) := by decide +kernel
theorem dL_law_532 : decode cL_law 532 = .ok (.istore 6, 2) := by decide +kernel
theorem dL_law_534 : decode cL_law 534 = .ok (.aload_n 2, 1) := by decide +kernel
theorem dL_law_535 : decode cL_law 535 = .ok (.aload_n 0, 1) := by decide +kernel
theorem dL_law_536 : decode cL_law 536 = .ok (.iload 5, 2) := by decide +kernel
theorem dL_law_538 : decode cL_law 538 = .ok (.iconst 1, 1) := by decide +kernel
theorem dL_law_539 : decode cL_law 539 = .ok (.iadd, 1) := by decide +kernel
theorem dL_law_540 : decode cL_law 540 = .ok (.iaload, 1) := by decide +kernel
theorem dL_law_541 : decode cL_law 541 = .ok (.i2c, 1) := by decide +kernel
theorem dL_law_542 : decode cL_law 542 = .ok (.invokevirtual 194, 3) := by decide +kernel
theorem dL_law_545 : decode cL_law 545 = .ok (.istore 7, 2) := by decide +kernel
theorem dL_law_547 : decode cL_law 547 = .ok (.aload_n 2, 1) := by decide +kernel
theorem dL_law_548 : decode cL_law 548 = .ok (.invokevirtual 179, 3) := by decide +kernel
theorem dL_law_551 : decode cL_law 551 = .ok (.iload 6, 2) := by decide +kernel
theorem dL_law_553 : decode cL_law 553 = .ok (.if_icmp .eq 5, 3) := by decide +kernel
theorem dL_law_558 : decode cL_law 558 = .ok (.iload 6, 2) := by decide +kernel
theorem dL_law_560 : decode cL_law 560 = .ok (.ifCond .ne 15, 3) := by decide +kernel
theorem dL_law_563 : decode cL_law 563 = .ok (.aload_n 3, 1) := by decide +kernel
theorem dL_law_564 : decode cL_law 564 = .ok (.iconst 0, 1) := by decide +kernel
theorem dL_law_565 : decode cL_law 565 = .ok (.laload, 1) := by decide +kernel
theorem dL_law_566 : decode cL_law 566 = .ok (.iload 7, 2) := by decide +kernel
theorem dL_law_568 : decode cL_law 568 = .ok (.i2l, 1) := by decide +kernel
theorem dL_law_569 : decode cL_law 569 = .ok (.lcmp, 1) := by decide +kernel
theorem dL_law_570 : decode cL_law 570 = .ok (.ifCond .eq 5, 3) := by decide +kernel
theorem dL_law_575 : decode cL_law 575 = .ok (.goto 2546, 3) := by decide +kernel
theorem dL_law_578 : decode cL_law 578 = .ok (.aload_n 1, 1) := by decide +kernel
theorem dL_law_579 : decode cL_law 579 = .ok (.invokevirtual 195, 3) := by decide +kernel
theorem dL_law_582 : decode cL_law 582 = .ok (.aload_n 2, 1) := by decide +kernel
theorem dL_law_583 : decode cL_law 583 = .ok (.invokevirtual 198, 3) := by decide +kernel
theorem dL_law_586 : decode cL_law 586 = .ok (.if_icmp .eq 2535, 3) := by decide +kernel
theorem dL_law_591 : decode cL_law 591 = .ok (.aload_n 1, 1) := by decide +kernel
theorem dL_law_592 : decode cL_law 592 = .ok (.aload_n 0, 1) := by decide +kernel
theorem dL_law_593 : decode cL_law 593 = .ok (.iload 5, 2) := by decide +kernel
theorem dL_law_595 : decode cL_law 595 = .ok (.iconst 1, 1) := by decide +kernel
theorem dL_law_596 : decode cL_law 596 = .ok (.iadd, 1) := by decide +kernel
theorem dL_law_597 : decode cL_law 597 = .ok (.iaload, 1) := by decide +kernel
theorem dL_law_598 : decode cL_law 598 = .ok (.aload_n 3, 1) := by decide +kernel
theorem dL_law_599 : decode cL_law 599 = .ok (.invokestatic 199, 3) := by decide +kernel
theorem dL_law_602 : decode cL_law 602 = .ok (.istore 6, 2) := by decide +kernel
theorem dL_law_604 : decode cL_law 604 = .ok (.aload_n 2, 1) := by decide +kernel
theorem dL_law_605 : decode cL_law 605 = .ok (.aload_n 0, 1) := by decide +kernel
theorem dL_law_606 : decode cL_law 606 = .ok (.iload 5, 2) := by decide +kernel
theorem dL_law_608 : decode cL_law 608 = .ok (.iconst 1, 1) := by decide +kernel
theorem dL_law_609 : decode cL_law 609 = .ok (.iadd, 1) := by decide +kernel
theorem dL_law_610 : decode cL_law 610 = .ok (.iaload, 1) := by decide +kernel
theorem dL_law_611 : decode cL_law 611 = .ok (.invokevirtual 202, 3) := by decide +kernel
theorem dL_law_614 : decode cL_law 614 = .ok (.istore 7, 2) := by decide +kernel
theorem dL_law_616 : decode cL_law 616 = .ok (.aload_n 2, 1) := by decide +kernel
theorem dL_law_617 : decode cL_law 617 = .ok (.invokevirtual 179, 3) := by decide +kernel
theorem dL_law_620 : decode cL_law 620 = .ok (.iload 6, 2) := by decide +kernel
theorem dL_law_622 : decode cL_law 622 = .ok (.if_icmp .eq 5, 3) := by decide +kernel
theorem dL_law_627 : decode cL_law 627 = .ok (.iload 6, 2) := by decide +kernel
theorem dL_law_629 : decode cL_law 629 = .ok (.ifCond .ne 15, 3) := by decide +kernel
theorem dL_law_644 : decode cL_law 644 = .ok (.goto 2477, 3) := by decide +kernel
theorem dL_law_647 : decode cL_law 647 = .ok (.aload_n 1, 1) := by decide +kernel
theorem dL_law_648 : decode cL_law 648 = .ok (.aload_n 0, 1) := by decide +kernel
theorem dL_law_649 : decode cL_law 649 = .ok (.iload 5, 2) := by decide +kernel
theorem dL_law_651 : decode cL_law 651 = .ok (.iconst 1, 1) := by decide +kernel
theorem dL_law_652 : decode cL_law 652 = .ok (.iadd, 1) := by decide +kernel
theorem dL_law_653 : decode cL_law 653 = .ok (.iaload, 1) := by decide +kernel
theorem dL_law_654 : decode cL_law 654 = .ok (.i2c, 1) := by decide +kernel
theorem dL_law_655 : decode cL_law 655 = .ok (.aload_n 0, 1) := by decide +kernel
theorem dL_law_656 : decode cL_law 656 = .ok (.iload 5, 2) := by decide +kernel
theorem dL_law_658 : decode cL_law 658 = .ok (.iconst 2, 1) := by decide +kernel
theorem dL_law_659 : decode cL_law 659 = .ok (.iadd, 1) := by decide +kernel
theorem dL_law_660 : decode cL_law 660 = .ok (.iaload, 1) := by decide +kernel
theorem dL_law_661 : decode cL_law 661 = .ok (.aload_n 3, 1) := by decide +kernel
theorem dL_law_662 : decode cL_law 662 = .ok (.invokestatic 203, 3) := by decide +kernel
theorem dL_law_665 : decode cL_law 665 = .ok (.istore 6, 2) := by decide +kernel
theorem dL_law_667 : decode cL_law 667 = .ok (.aload_n 2, 1) := by decide +kernel
theorem dL_law_668 : decode cL_law 668 = .ok (.aload_n 0, 1) := by decide +kernel
theorem dL_law_669 : decode cL_law 669 = .ok (.iload 5, 2) := by decide +kernel
theorem dL_law_671 : decode cL_law 671 = .ok (.iconst 1, 1) := by decide +kernel
theorem dL_law_672 : decode cL_law 672 = .ok (.iadd, 1) := by decide +kernel
theorem dL_law_673 : decode cL_law 673 = .ok (.iaload, 1) := by decide +kernel
theorem dL_law_674 : decode cL_law 674 = .ok (.i2c, 1) := by decide +kernel
theorem dL_law_675 : decode cL_law 675 = .ok (.aload_n 0, 1) := by decide +kernel
theorem dL_law_676 : decode cL_law 676 = .ok (.iload 5, 2) := by decide +kernel
theorem dL_law_678 : decode cL_law 678 = .ok (.iconst 2, 1) := by decide +kernel
theorem dL_law_679 : decode cL_law 679 = .ok (.iadd, 1) := by decide +kernel
theorem dL_law_680 : decode cL_law 680 = .ok (.iaload, 1) := by decide +kernel
theorem dL_law_681 : decode cL_law 681 = .ok (.invokevirtual 206, 3) := by decide +kernel
theorem dL_law_684 : decode cL_law 684 = .ok (.istore 7, 2) := by decide +kernel
theorem dL_law_686 : decode cL_law 686 = .ok (.aload_n 2, 1) := by decide +kernel
theorem dL_law_687 : decode cL_law 687 = .ok (.invokevirtual 179, 3) := by decide +kernel
theorem dL_law_690 : decode cL_law 690 = .ok (.iload 6, 2) := by decide +kernel
theorem dL_law_692 : decode cL_law 692 = .ok (.if_icmp .eq 5, 3) := by decide +kernel
theorem dL_law_697 : decode cL_law 697 = .ok (.iload 6, 2) := by decide +kernel
theorem dL_law_699 : decode cL_law 699 = .ok (.ifCond .ne 15, 3) := by decide +kernel
theorem dL_law_714 : decode cL_law 714 = .ok (.goto 2407, 3) := by decide +kernel
theorem dL_law_717 : decode cL_law 717 = .ok (.aload_n 1, 1) := by decide +kernel
theorem dL_law_718 : decode cL_law 718 = .ok (.aload_n 0, 1) := by decide +kernel
theorem dL_law_719 : decode cL_law 719 = .ok (.iload 5, 2) := by decide +kernel
theorem dL_law_721 : decode cL_law 721 = .ok (.iconst 1, 1) := by decide +kernel
theorem dL_law_722 : decode cL_law 722 = .ok (.iadd, 1) := by decide +kernel
theorem dL_law_723 : decode cL_law 723 = .ok (.iaload, 1) := by decide +kernel
theorem dL_law_724 : decode cL_law 724 = .ok (.i2c, 1) := by decide +kernel
theorem dL_law_725 : decode cL_law 725 = .ok (.aload_n 0, 1) := by decide +kernel
theorem dL_law_726 : decode cL_law 726 = .ok (.iload 5, 2) := by decide +kernel
theorem dL_law_728 : decode cL_law 728 = .ok (.iconst 2, 1) := by decide +kernel
theorem dL_law_729 : decode cL_law 729 = .ok (.iadd, 1) := by decide +kernel
theorem dL_law_730 : decode cL_law 730 = .ok (.iaload, 1) := by decide +kernel
theorem dL_law_731 : decode cL_law 731 = .ok (.aload_n 3, 1) := by decide +kernel
theorem dL_law_732 : decode cL_law 732 = .ok (.invokestatic 207, 3) := by decide +kernel
theorem dL_law_735 : decode cL_law 735 = .ok (.istore 6, 2) := by decide +kernel
theorem dL_law_737 : decode cL_law 737 = .ok (.aload_n 2, 1) := by decide +kernel
theorem dL_law_738 : decode cL_law 738 = .ok (.aload_n 0, 1) := by decide +kernel
theorem dL_law_739 : decode cL_law 739 = .ok (.iload 5, 2) := by decide +kernel
theorem dL_law_741 : decode cL_law 741 = .ok (.iconst 1, 1) := by decide +kernel
theorem dL_law_742 : decode cL_law 742 = .ok (.iadd, 1) := by decide +kernel
theorem dL_law_743 : decode cL_law 743 = .ok (.iaload, 1) := by decide +kernel
theorem dL_law_744 : decode cL_law 744 = .ok (.i2c, 1) := by decide +kernel
theorem dL_law_745 : decode cL_law 745 = .ok (.aload_n 0, 1) := by decide +kernel
theorem dL_law_746 : decode cL_law 746 = .ok (.iload 5, 2) := by decide +kernel
theorem dL_law_748 : decode cL_law 748 = .ok (.iconst 2, 1) := by decide +kernel
theorem dL_law_749 : decode cL_law 749 = .ok (.iadd, 1) := by decide +kernel
theorem dL_law_750 : decode cL_law 750 = .ok (.iaload, 1) := by decide +kernel
theorem dL_law_751 : decode cL_law 751 = .ok (.invokevirtual 209, 3) := by decide +kernel
theorem dL_law_754 : decode cL_law 754 = .ok (.istore 7, 2) := by decide +kernel
theorem dL_law_756 : decode cL_law 756 = .ok (.aload_n 2, 1) := by decide +kernel
theorem dL_law_757 : decode cL_law 757 = .ok (.invokevirtual 179, 3) := by decide +kernel
theorem dL_law_760 : decode cL_law 760 = .ok (.iload 6, 2) := by decide +kernel
theorem dL_law_762 : decode cL_law 762 = .ok (.if_icmp .eq 5, 3) := by decide +kernel
theorem dL_law_767 : decode cL_law 767 = .ok (.iload 6, 2) := by decide +kernel
theorem dL_law_769 : decode cL_law 769 = .ok (.ifCond .ne 15, 3) := by decide +kernel
theorem dL_law_784 : decode cL_law 784 = .ok (.goto 2337, 3) := by decide +kernel
theorem dL_law_787 : decode cL_law 787 = .ok (.aload_n 1, 1) := by decide +kernel
theorem dL_law_788 : decode cL_law 788 = .ok (.aload_n 0, 1) := by decide +kernel
theorem dL_law_789 : decode cL_law 789 = .ok (.iload 5, 2) := by decide +kernel
theorem dL_law_791 : decode cL_law 791 = .ok (.iconst 1, 1) := by decide +kernel
theorem dL_law_792 : decode cL_law 792 = .ok (.iadd, 1) := by decide +kernel
theorem dL_law_793 : decode cL_law 793 = .ok (.iaload, 1) := by decide +kernel
theorem dL_law_794 : decode cL_law 794 = .ok (.i2c, 1) := by decide +kernel
theorem dL_law_795 : decode cL_law 795 = .ok (.aload_n 0, 1) := by decide +kernel
theorem dL_law_796 : decode cL_law 796 = .ok (.iload 5, 2) := by decide +kernel
theorem dL_law_798 : decode cL_law 798 = .ok (.iconst 2, 1) := by decide +kernel
theorem dL_law_799 : decode cL_law 799 = .ok (.iadd, 1) := by decide +kernel
theorem dL_law_800 : decode cL_law 800 = .ok (.iaload, 1) := by decide +kernel
theorem dL_law_801 : decode cL_law 801 = .ok (.aload_n 0, 1) := by decide +kernel
theorem dL_law_802 : decode cL_law 802 = .ok (.iload 5, 2) := by decide +kernel
theorem dL_law_804 : decode cL_law 804 = .ok (.iconst 3, 1) := by decide +kernel
theorem dL_law_805 : decode cL_law 805 = .ok (.iadd, 1) := by decide +kernel
theorem dL_law_806 : decode cL_law 806 = .ok (.iaload, 1) := by decide +kernel
theorem dL_law_807 : decode cL_law 807 = .ok (.aload_n 3, 1) := by decide +kernel
theorem dL_law_808 : decode cL_law 808 = .ok (.invokestatic 210, 3) := by decide +kernel
theorem dL_law_811 : decode cL_law 811 = .ok (.istore 6, 2) := by decide +kernel
theorem dL_law_813 : decode cL_law 813 = .ok (.aload_n 2, 1) := by decide +kernel
theorem dL_law_814 : decode cL_law 814 = .ok (.aload_n 0, 1) := by decide +kernel
theorem dL_law_815 : decode cL_law 815 = .ok (.iload 5, 2) := by decide +kernel
theorem dL_law_817 : decode cL_law 817 = .ok (.iconst 1, 1) := by decide +kernel
theorem dL_law_818 : decode cL_law 818 = .ok (.iadd, 1) := by decide +kernel
theorem dL_law_819 : decode cL_law 819 = .ok (.iaload, 1) := by decide +kernel
theorem dL_law_820 : decode cL_law 820 = .ok (.i2c, 1) := by decide +kernel
theorem dL_law_821 : decode cL_law 821 = .ok (.aload_n 0, 1) := by decide +kernel
theorem dL_law_822 : decode cL_law 822 = .ok (.iload 5, 2) := by decide +kernel
theorem dL_law_824 : decode cL_law 824 = .ok (.iconst 2, 1) := by decide +kernel
theorem dL_law_825 : decode cL_law 825 = .ok (.iadd, 1) := by decide +kernel
theorem dL_law_826 : decode cL_law 826 = .ok (.iaload, 1) := by decide +kernel
theorem dL_law_827 : decode cL_law 827 = .ok (.aload_n 0, 1) := by decide +kernel
theorem dL_law_828 : decode cL_law 828 = .ok (.iload 5, 2) := by decide +kernel
theorem dL_law_830 : decode cL_law 830 = .ok (.iconst 3, 1) := by decide +kernel
theorem dL_law_831 : decode cL_law 831 = .ok (.iadd, 1) := by decide +kernel
theorem dL_law_832 : decode cL_law 832 = .ok (.iaload, 1) := by decide +kernel
theorem dL_law_833 : decode cL_law 833 = .ok (.invokevirtual 213, 3) := by decide +kernel
theorem dL_law_836 : decode cL_law 836 = .ok (.istore 7, 2) := by decide +kernel
theorem dL_law_838 : decode cL_law 838 = .ok (.aload_n 2, 1) := by decide +kernel
theorem dL_law_839 : decode cL_law 839 = .ok (.invokevirtual 179, 3) := by decide +kernel
theorem dL_law_842 : decode cL_law 842 = .ok (.iload 6, 2) := by decide +kernel
theorem dL_law_844 : decode cL_law 844 = .ok (.if_icmp .eq 5, 3) := by decide +kernel
theorem dL_law_849 : decode cL_law 849 = .ok (.iload 6, 2) := by decide +kernel
theorem dL_law_851 : decode cL_law 851 = .ok (.ifCond .ne 15, 3) := by decide +kernel
theorem dL_law_866 : decode cL_law 866 = .ok (.goto 2255, 3) := by decide +kernel
theorem dL_law_869 : decode cL_law 869 = .ok (.aload_n 1, 1) := by decide +kernel
theorem dL_law_870 : decode cL_law 870 = .ok (.aload_n 0, 1) := by decide +kernel
theorem dL_law_871 : decode cL_law 871 = .ok (.iload 5, 2) := by decide +kernel
theorem dL_law_873 : decode cL_law 873 = .ok (.iconst 1, 1) := by decide +kernel
theorem dL_law_874 : decode cL_law 874 = .ok (.iadd, 1) := by decide +kernel
theorem dL_law_875 : decode cL_law 875 = .ok (.iaload, 1) := by decide +kernel
theorem dL_law_876 : decode cL_law 876 = .ok (.i2c, 1) := by decide +kernel
theorem dL_law_877 : decode cL_law 877 = .ok (.aload_n 0, 1) := by decide +kernel
theorem dL_law_878 : decode cL_law 878 = .ok (.iload 5, 2) := by decide +kernel
theorem dL_law_880 : decode cL_law 880 = .ok (.iconst 2, 1) := by decide +kernel
theorem dL_law_881 : decode cL_law 881 = .ok (.iadd, 1) := by decide +kernel
theorem dL_law_882 : decode cL_law 882 = .ok (.iaload, 1) := by decide +kernel
theorem dL_law_883 : decode cL_law 883 = .ok (.aload_n 0, 1) := by decide +kernel
theorem dL_law_884 : decode cL_law 884 = .ok (.iload 5, 2) := by decide +kernel
theorem dL_law_886 : decode cL_law 886 = .ok (.iconst 3, 1) := by decide +kernel
theorem dL_law_887 : decode cL_law 887 = .ok (.iadd, 1) := by decide +kernel
theorem dL_law_888 : decode cL_law 888 = .ok (.iaload, 1) := by decide +kernel
theorem dL_law_889 : decode cL_law 889 = .ok (.aload_n 3, 1) := by decide +kernel
theorem dL_law_890 : decode cL_law 890 = .ok (.invokestatic 214, 3) := by decide +kernel
theorem dL_law_893 : decode cL_law 893 = .ok (.istore 6, 2) := by decide +kernel
theorem dL_law_895 : decode cL_law 895 = .ok (.aload_n 2, 1) := by decide +kernel
theorem dL_law_896 : decode cL_law 896 = .ok (.aload_n 0, 1) := by decide +kernel
theorem dL_law_897 : decode cL_law 897 = .ok (.iload 5, 2) := by decide +kernel
theorem dL_law_899 : decode cL_law 899 = .ok (.iconst 1, 1) := by decide +kernel
theorem dL_law_900 : decode cL_law 900 = .ok (.iadd, 1) := by decide +kernel
theorem dL_law_901 : decode cL_law 901 = .ok (.iaload, 1) := by decide +kernel
theorem dL_law_902 : decode cL_law 902 = .ok (.i2c, 1) := by decide +kernel
theorem dL_law_903 : decode cL_law 903 = .ok (.aload_n 0, 1) := by decide +kernel
theorem dL_law_904 : decode cL_law 904 = .ok (.iload 5, 2) := by decide +kernel
theorem dL_law_906 : decode cL_law 906 = .ok (.iconst 2, 1) := by decide +kernel
theorem dL_law_907 : decode cL_law 907 = .ok (.iadd, 1) := by decide +kernel
theorem dL_law_908 : decode cL_law 908 = .ok (.iaload, 1) := by decide +kernel
theorem dL_law_909 : decode cL_law 909 = .ok (.aload_n 0, 1) := by decide +kernel
theorem dL_law_910 : decode cL_law 910 = .ok (.iload 5, 2) := by decide +kernel
theorem dL_law_912 : decode cL_law 912 = .ok (.iconst 3, 1) := by decide +kernel
theorem dL_law_913 : decode cL_law 913 = .ok (.iadd, 1) := by decide +kernel
theorem dL_law_914 : decode cL_law 914 = .ok (.iaload, 1) := by decide +kernel
theorem dL_law_915 : decode cL_law 915 = .ok (.invokevirtual 216, 3) := by decide +kernel
theorem dL_law_918 : decode cL_law 918 = .ok (.istore 7, 2) := by decide +kernel
theorem dL_law_920 : decode cL_law 920 = .ok (.aload_n 2, 1) := by decide +kernel
theorem dL_law_921 : decode cL_law 921 = .ok (.invokevirtual 179, 3) := by decide +kernel
theorem dL_law_924 : decode cL_law 924 = .ok (.iload 6, 2) := by decide +kernel
theorem dL_law_926 : decode cL_law 926 = .ok (.if_icmp .eq 5, 3) := by decide +kernel
theorem dL_law_931 : decode cL_law 931 = .ok (.iload 6, 2) := by decide +kernel
theorem dL_law_933 : decode cL_law 933 = .ok (.ifCond .ne 15, 3) := by decide +kernel
theorem dL_law_948 : decode cL_law 948 = .ok (.goto 2173, 3) := by decide +kernel
theorem dL_law_951 : decode cL_law 951 = .ok (.aload_n 1, 1) := by decide +kernel
theorem dL_law_952 : decode cL_law 952 = .ok (.aload_n 0, 1) := by decide +kernel
theorem dL_law_953 : decode cL_law 953 = .ok (.iload 5, 2) := by decide +kernel
theorem dL_law_955 : decode cL_law 955 = .ok (.iconst 1, 1) := by decide +kernel
theorem dL_law_956 : decode cL_law 956 = .ok (.iadd, 1) := by decide +kernel
theorem dL_law_957 : decode cL_law 957 = .ok (.iaload, 1) := by decide +kernel
theorem dL_law_958 : decode cL_law 958 = .ok (.i2c, 1) := by decide +kernel
theorem dL_law_959 : decode cL_law 959 = .ok (.aload_n 0, 1) := by decide +kernel
theorem dL_law_960 : decode cL_law 960 = .ok (.iload 5, 2) := by decide +kernel
theorem dL_law_962 : decode cL_law 962 = .ok (.iconst 2, 1) := by decide +kernel
theorem dL_law_963 : decode cL_law 963 = .ok (.iadd, 1) := by decide +kernel
theorem dL_law_964 : decode cL_law 964 = .ok (.iaload, 1) := by decide +kernel
theorem dL_law_965 : decode cL_law 965 = .ok (.aload_n 0, 1) := by decide +kernel
theorem dL_law_966 : decode cL_law 966 = .ok (.iload 5, 2) := by decide +kernel
theorem dL_law_968 : decode cL_law 968 = .ok (.iconst 3, 1) := by decide +kernel
theorem dL_law_969 : decode cL_law 969 = .ok (.iadd, 1) := by decide +kernel
theorem dL_law_970 : decode cL_law 970 = .ok (.iaload, 1) := by decide +kernel
theorem dL_law_971 : decode cL_law 971 = .ok (.aload_n 3, 1) := by decide +kernel
theorem dL_law_972 : decode cL_law 972 = .ok (.invokestatic 217, 3) := by decide +kernel
theorem dL_law_975 : decode cL_law 975 = .ok (.istore 6, 2) := by decide +kernel
theorem dL_law_977 : decode cL_law 977 = .ok (.aload_n 2, 1) := by decide +kernel
theorem dL_law_978 : decode cL_law 978 = .ok (.aload_n 0, 1) := by decide +kernel
theorem dL_law_979 : decode cL_law 979 = .ok (.iload 5, 2) := by decide +kernel
theorem dL_law_981 : decode cL_law 981 = .ok (.iconst 1, 1) := by decide +kernel
theorem dL_law_982 : decode cL_law 982 = .ok (.iadd, 1) := by decide +kernel
theorem dL_law_983 : decode cL_law 983 = .ok (.iaload, 1) := by decide +kernel
theorem dL_law_984 : decode cL_law 984 = .ok (.i2c, 1) := by decide +kernel
theorem dL_law_985 : decode cL_law 985 = .ok (.aload_n 0, 1) := by decide +kernel
theorem dL_law_986 : decode cL_law 986 = .ok (.iload 5, 2) := by decide +kernel
theorem dL_law_988 : decode cL_law 988 = .ok (.iconst 2, 1) := by decide +kernel
theorem dL_law_989 : decode cL_law 989 = .ok (.iadd, 1) := by decide +kernel
theorem dL_law_990 : decode cL_law 990 = .ok (.iaload, 1) := by decide +kernel
theorem dL_law_991 : decode cL_law 991 = .ok (.aload_n 0, 1) := by decide +kernel
theorem dL_law_992 : decode cL_law 992 = .ok (.iload 5, 2) := by decide +kernel
theorem dL_law_994 : decode cL_law 994 = .ok (.iconst 3, 1) := by decide +kernel
theorem dL_law_995 : decode cL_law 995 = .ok (.iadd, 1) := by decide +kernel
theorem dL_law_996 : decode cL_law 996 = .ok (.iaload, 1) := by decide +kernel
theorem dL_law_997 : decode cL_law 997 = .ok (.invokevirtual 219, 3) := by decide +kernel
theorem dL_law_1000 : decode cL_law 1000 = .ok (.istore 7, 2) := by decide +kernel
theorem dL_law_1002 : decode cL_law 1002 = .ok (.aload_n 2, 1) := by decide +kernel
theorem dL_law_1003 : decode cL_law 1003 = .ok (.invokevirtual 179, 3) := by decide +kernel
theorem dL_law_1006 : decode cL_law 1006 = .ok (.iload 6, 2) := by decide +kernel
theorem dL_law_1008 : decode cL_law 1008 = .ok (.if_icmp .eq 5, 3) := by decide +kernel
theorem dL_law_1013 : decode cL_law 1013 = .ok (.iload 6, 2) := by decide +kernel
theorem dL_law_1015 : decode cL_law 1015 = .ok (.ifCond .ne 15, 3) := by decide +kernel
theorem dL_law_1030 : decode cL_law 1030 = .ok (.goto 2091, 3) := by decide +kernel
theorem dL_law_1033 : decode cL_law 1033 = .ok (.aload_n 1, 1) := by decide +kernel
theorem dL_law_1034 : decode cL_law 1034 = .ok (.aload_n 0, 1) := by decide +kernel
theorem dL_law_1035 : decode cL_law 1035 = .ok (.iload 5, 2) := by decide +kernel
theorem dL_law_1037 : decode cL_law 1037 = .ok (.iconst 1, 1) := by decide +kernel
theorem dL_law_1038 : decode cL_law 1038 = .ok (.iadd, 1) := by decide +kernel
theorem dL_law_1039 : decode cL_law 1039 = .ok (.iaload, 1) := by decide +kernel
theorem dL_law_1040 : decode cL_law 1040 = .ok (.i2c, 1) := by decide +kernel
theorem dL_law_1041 : decode cL_law 1041 = .ok (.aload_n 3, 1) := by decide +kernel
theorem dL_law_1042 : decode cL_law 1042 = .ok (.invokestatic 220, 3) := by decide +kernel
theorem dL_law_1045 : decode cL_law 1045 = .ok (.istore 6, 2) := by decide +kernel
theorem dL_law_1047 : decode cL_law 1047 = .ok (.aload_n 2, 1) := by decide +kernel
theorem dL_law_1048 : decode cL_law 1048 = .ok (.aload_n 0, 1) := by decide +kernel
theorem dL_law_1049 : decode cL_law 1049 = .ok (.iload 5, 2) := by decide +kernel
theorem dL_law_1051 : decode cL_law 1051 = .ok (.iconst 1, 1) := by decide +kernel
theorem dL_law_1052 : decode cL_law 1052 = .ok (.iadd, 1) := by decide +kernel
theorem dL_law_1053 : decode cL_law 1053 = .ok (.iaload, 1) := by decide +kernel
theorem dL_law_1054 : decode cL_law 1054 = .ok (.i2c, 1) := by decide +kernel
theorem dL_law_1055 : decode cL_law 1055 = .ok (.invokevirtual 222, 3) := by decide +kernel
theorem dL_law_1058 : decode cL_law 1058 = .ok (.istore 7, 2) := by decide +kernel
theorem dL_law_1060 : decode cL_law 1060 = .ok (.aload_n 2, 1) := by decide +kernel
theorem dL_law_1061 : decode cL_law 1061 = .ok (.invokevirtual 179, 3) := by decide +kernel
theorem dL_law_1064 : decode cL_law 1064 = .ok (.iload 6, 2) := by decide +kernel
theorem dL_law_1066 : decode cL_law 1066 = .ok (.if_icmp .eq 5, 3) := by decide +kernel
theorem dL_law_1071 : decode cL_law 1071 = .ok (.iload 6, 2) := by decide +kernel
theorem dL_law_1073 : decode cL_law 1073 = .ok (.ifCond .ne 15, 3) := by decide +kernel
theorem dL_law_1076 : decode cL_law 1076 = .ok (.aload_n 3, 1) := by decide +kernel
theorem dL_law_1077 : decode cL_law 1077 = .ok (.iconst 0, 1) := by decide +kernel
theorem dL_law_1078 : decode cL_law 1078 = .ok (.laload, 1) := by decide +kernel
theorem dL_law_1079 : decode cL_law 1079 = .ok (.iload 7, 2) := by decide +kernel
theorem dL_law_1081 : decode cL_law 1081 = .ok (.i2l, 1) := by decide +kernel
theorem dL_law_1082 : decode cL_law 1082 = .ok (.lcmp, 1) := by decide +kernel
theorem dL_law_1083 : decode cL_law 1083 = .ok (.ifCond .eq 5, 3) := by decide +kernel
theorem dL_law_1088 : decode cL_law 1088 = .ok (.goto 2033, 3) := by decide +kernel
theorem dL_law_1091 : decode cL_law 1091 = .ok (.aload_n 1, 1) := by decide +kernel
theorem dL_law_1092 : decode cL_law 1092 = .ok (.aload_n 0, 1) := by decide +kernel
theorem dL_law_1093 : decode cL_law 1093 = .ok (.iload 5, 2) := by decide +kernel
theorem dL_law_1095 : decode cL_law 1095 = .ok (.iconst 1, 1) := by decide +kernel
theorem dL_law_1096 : decode cL_law 1096 = .ok (.iadd, 1) := by decide +kernel
theorem dL_law_1097 : decode cL_law 1097 = .ok (.iaload, 1) := by decide +kernel
theorem dL_law_1098 : decode cL_law 1098 = .ok (.aload_n 3, 1) := by decide +kernel
theorem dL_law_1099 : decode cL_law 1099 = .ok (.invokestatic 223, 3) := by decide +kernel
theorem dL_law_1102 : decode cL_law 1102 = .ok (.istore 6, 2) := by decide +kernel
theorem dL_law_1104 : decode cL_law 1104 = .ok (.aload_n 2, 1) := by decide +kernel
theorem dL_law_1105 : decode cL_law 1105 = .ok (.aload_n 0, 1) := by decide +kernel
theorem dL_law_1106 : decode cL_law 1106 = .ok (.iload 5, 2) := by decide +kernel
theorem dL_law_1108 : decode cL_law 1108 = .ok (.iconst 1, 1) := by decide +kernel
theorem dL_law_1109 : decode cL_law 1109 = .ok (.iadd, 1) := by decide +kernel
theorem dL_law_1110 : decode cL_law 1110 = .ok (.iaload, 1) := by decide +kernel
theorem dL_law_1111 : decode cL_law 1111 = .ok (.invokevirtual 225, 3) := by decide +kernel
theorem dL_law_1114 : decode cL_law 1114 = .ok (.istore 7, 2) := by decide +kernel
theorem dL_law_1116 : decode cL_law 1116 = .ok (.aload_n 2, 1) := by decide +kernel
theorem dL_law_1117 : decode cL_law 1117 = .ok (.invokevirtual 179, 3) := by decide +kernel
theorem dL_law_1120 : decode cL_law 1120 = .ok (.iload 6, 2) := by decide +kernel
theorem dL_law_1122 : decode cL_law 1122 = .ok (.if_icmp .eq 5, 3) := by decide +kernel
theorem dL_law_1127 : decode cL_law 1127 = .ok (.iload 6, 2) := by decide +kernel
theorem dL_law_1129 : decode cL_law 1129 = .ok (.ifCond .ne 15, 3) := by decide +kernel
theorem dL_law_1144 : decode cL_law 1144 = .ok (.goto 1977, 3) := by decide +kernel
theorem dL_law_1147 : decode cL_law 1147 = .ok (.aload_n 1, 1) := by decide +kernel
theorem dL_law_1148 : decode cL_law 1148 = .ok (.aload_n 3, 1) := by decide +kernel
theorem dL_law_1149 : decode cL_law 1149 = .ok (.invokestatic 226, 3) := by decide +kernel
theorem dL_law_1152 : decode cL_law 1152 = .ok (.istore 6, 2) := by decide +kernel
theorem dL_law_1154 : decode cL_law 1154 = .ok (.aload_n 2, 1) := by decide +kernel
theorem dL_law_1155 : decode cL_law 1155 = .ok (.invokevirtual 229, 3) := by decide +kernel
theorem dL_law_1158 : decode cL_law 1158 = .ok (.istore 7, 2) := by decide +kernel
theorem dL_law_1160 : decode cL_law 1160 = .ok (.aload_n 2, 1) := by decide +kernel
theorem dL_law_1161 : decode cL_law 1161 = .ok (.invokevirtual 179, 3) := by decide +kernel
theorem dL_law_1164 : decode cL_law 1164 = .ok (.iload 6, 2) := by decide +kernel
theorem dL_law_1166 : decode cL_law 1166 = .ok (.if_icmp .eq 5, 3) := by decide +kernel
theorem dL_law_1171 : decode cL_law 1171 = .ok (.iload 6, 2) := by decide +kernel
theorem dL_law_1173 : decode cL_law 1173 = .ok (.ifCond .ne 15, 3) := by decide +kernel
theorem dL_law_1188 : decode cL_law 1188 = .ok (.goto 1933, 3) := by decide +kernel
theorem dL_law_1191 : decode cL_law 1191 = .ok (.aload_n 1, 1) := by decide +kernel
theorem dL_law_1192 : decode cL_law 1192 = .ok (.aload_n 0, 1) := by decide +kernel
theorem dL_law_1193 : decode cL_law 1193 = .ok (.iload 5, 2) := by decide +kernel
theorem dL_law_1195 : decode cL_law 1195 = .ok (.iconst 1, 1) := by decide +kernel
theorem dL_law_1196 : decode cL_law 1196 = .ok (.iadd, 1) := by decide +kernel
theorem dL_law_1197 : decode cL_law 1197 = .ok (.iaload, 1) := by decide +kernel
theorem dL_law_1198 : decode cL_law 1198 = .ok (.i2c, 1) := by decide +kernel
theorem dL_law_1199 : decode cL_law 1199 = .ok (.aload_n 3, 1) := by decide +kernel
theorem dL_law_1200 : decode cL_law 1200 = .ok (.invokestatic 230, 3) := by decide +kernel
theorem dL_law_1203 : decode cL_law 1203 = .ok (.istore 6, 2) := by decide +kernel
theorem dL_law_1205 : decode cL_law 1205 = .ok (.aload_n 2, 1) := by decide +kernel
theorem dL_law_1206 : decode cL_law 1206 = .ok (.aload_n 0, 1) := by decide +kernel
theorem dL_law_1207 : decode cL_law 1207 = .ok (.iload 5, 2) := by decide +kernel
theorem dL_law_1209 : decode cL_law 1209 = .ok (.iconst 1, 1) := by decide +kernel
theorem dL_law_1210 : decode cL_law 1210 = .ok (.iadd, 1) := by decide +kernel
theorem dL_law_1211 : decode cL_law 1211 = .ok (.iaload, 1) := by decide +kernel
theorem dL_law_1212 : decode cL_law 1212 = .ok (.i2c, 1) := by decide +kernel
theorem dL_law_1213 : decode cL_law 1213 = .ok (.invokevirtual 232, 3) := by decide +kernel
theorem dL_law_1216 : decode cL_law 1216 = .ok (.istore 7, 2) := by decide +kernel
theorem dL_law_1218 : decode cL_law 1218 = .ok (.aload_n 2, 1) := by decide +kernel
theorem dL_law_1219 : decode cL_law 1219 = .ok (.invokevirtual 179, 3) := by decide +kernel
theorem dL_law_1222 : decode cL_law 1222 = .ok (.iload 6, 2) := by decide +kernel
theorem dL_law_1224 : decode cL_law 1224 = .ok (.if_icmp .eq 5, 3) := by decide +kernel
theorem dL_law_1229 : decode cL_law 1229 = .ok (.iload 6, 2) := by decide +kernel
theorem dL_law_1231 : decode cL_law 1231 = .ok (.ifCond .ne 15, 3) := by decide +kernel
theorem dL_law_1234 : decode cL_law 1234 = .ok (.aload_n 3, 1) := by decide +kernel
theorem dL_law_1235 : decode cL_law 1235 = .ok (.iconst 0, 1) := by decide +kernel
theorem dL_law_1236 : decode cL_law 1236 = .ok (.laload, 1) := by decide +kernel
theorem dL_law_1237 : decode cL_law 1237 = .ok (.iload 7, 2) := by decide +kernel
theorem dL_law_1239 : decode cL_law 1239 = .ok (.i2l, 1) := by decide +kernel
theorem dL_law_1240 : decode cL_law 1240 = .ok (.lcmp, 1) := by decide +kernel
theorem dL_law_1241 : decode cL_law 1241 = .ok (.ifCond .eq 5, 3) := by decide +kernel
theorem dL_law_1246 : decode cL_law 1246 = .ok (.goto 1875, 3) := by decide +kernel
theorem dL_law_1249 : decode cL_law 1249 = .ok (.aload_n 1, 1) := by decide +kernel
theorem dL_law_1250 : decode cL_law 1250 = .ok (.invokevirtual 233, 3) := by decide +kernel
theorem dL_law_1253 : decode cL_law 1253 = .ok (.aload_n 2, 1) := by decide +kernel
theorem dL_law_1254 : decode cL_law 1254 = .ok (.invokevirtual 236, 3) := by decide +kernel
theorem dL_law_1257 : decode cL_law 1257 = .ok (.if_icmp .eq 1864, 3) := by decide +kernel
theorem dL_law_1262 : decode cL_law 1262 = .ok (.aload_n 1, 1) := by decide +kernel
theorem dL_law_1263 : decode cL_law 1263 = .ok (.aload_n 0, 1) := by decide +kernel
theorem dL_law_1264 : decode cL_law 1264 = .ok (.iload 5, 2) := by decide +kernel
theorem dL_law_1266 : decode cL_law 1266 = .ok (.iconst 1, 1) := by decide +kernel
theorem dL_law_1267 : decode cL_law 1267 = .ok (.iadd, 1) := by decide +kernel
theorem dL_law_1268 : decode cL_law 1268 = .ok (.iaload, 1) := by decide +kernel
theorem dL_law_1269 : decode cL_law 1269 = .ok (.aload_n 3, 1) := by decide +kernel
theorem dL_law_1270 : decode cL_law 1270 = .ok (.invokestatic 237, 3) := by decide +kernel
theorem dL_law_1273 : decode cL_law 1273 = .ok (.istore 6, 2) := by decide +kernel
theorem dL_law_1275 : decode cL_law 1275 = .ok (.aload_n 2, 1) := by decide +kernel
theorem dL_law_1276 : decode cL_law 1276 = .ok (.aload_n 0, 1) := by decide +kernel
theorem dL_law_1277 : decode cL_law 1277 = .ok (.iload 5, 2) := by decide +kernel
theorem dL_law_1279 : decode cL_law 1279 = .ok (.iconst 1, 1) := by decide +kernel
theorem dL_law_1280 : decode cL_law 1280 = .ok (.iadd, 1) := by decide +kernel
theorem dL_law_1281 : decode cL_law 1281 = .ok (.iaload, 1) := by decide +kernel
theorem dL_law_1282 : decode cL_law 1282 = .ok (.invokevirtual 239, 3) := by decide +kernel
theorem dL_law_1285 : decode cL_law 1285 = .ok (.istore 7, 2) := by decide +kernel
theorem dL_law_1287 : decode cL_law 1287 = .ok (.aload_n 2, 1) := by decide +kernel
theorem dL_law_1288 : decode cL_law 1288 = .ok (.invokevirtual 179, 3) := by decide +kernel
theorem dL_law_1291 : decode cL_law 1291 = .ok (.iload 6, 2) := by decide +kernel
theorem dL_law_1293 : decode cL_law 1293 = .ok (.if_icmp .eq 5, 3) := by decide +kernel
theorem dL_law_1298 : decode cL_law 1298 = .ok (.iload 6, 2) := by decide +kernel
theorem dL_law_1300 : decode cL_law 1300 = .ok (.ifCond .ne 15, 3) := by decide +kernel
theorem dL_law_1315 : decode cL_law 1315 = .ok (.goto 1806, 3) := by decide +kernel
theorem dL_law_1318 : decode cL_law 1318 = .ok (.aload_n 1, 1) := by decide +kernel
theorem dL_law_1319 : decode cL_law 1319 = .ok (.aload_n 0, 1) := by decide +kernel
theorem dL_law_1320 : decode cL_law 1320 = .ok (.iload 5, 2) := by decide +kernel
theorem dL_law_1322 : decode cL_law 1322 = .ok (.iconst 1, 1) := by decide +kernel
theorem dL_law_1323 : decode cL_law 1323 = .ok (.iadd, 1) := by decide +kernel
theorem dL_law_1324 : decode cL_law 1324 = .ok (.iaload, 1) := by decide +kernel
theorem dL_law_1325 : decode cL_law 1325 = .ok (.aload_n 3, 1) := by decide +kernel
theorem dL_law_1326 : decode cL_law 1326 = .ok (.invokestatic 240, 3) := by decide +kernel
theorem dL_law_1329 : decode cL_law 1329 = .ok (.istore 6, 2) := by decide +kernel
theorem dL_law_1331 : decode cL_law 1331 = .ok (.aload_n 2, 1) := by decide +kernel
theorem dL_law_1332 : decode cL_law 1332 = .ok (.aload_n 0, 1) := by decide +kernel
theorem dL_law_1333 : decode cL_law 1333 = .ok (.iload 5, 2) := by decide +kernel
theorem dL_law_1335 : decode cL_law 1335 = .ok (.iconst 1, 1) := by decide +kernel
theorem dL_law_1336 : decode cL_law 1336 = .ok (.iadd, 1) := by decide +kernel
theorem dL_law_1337 : decode cL_law 1337 = .ok (.iaload, 1) := by decide +kernel
theorem dL_law_1338 : decode cL_law 1338 = .ok (.invokevirtual 242, 3) := by decide +kernel
theorem dL_law_1341 : decode cL_law 1341 = .ok (.istore 7, 2) := by decide +kernel
theorem dL_law_1343 : decode cL_law 1343 = .ok (.aload_n 2, 1) := by decide +kernel
theorem dL_law_1344 : decode cL_law 1344 = .ok (.invokevirtual 179, 3) := by decide +kernel
theorem dL_law_1347 : decode cL_law 1347 = .ok (.iload 6, 2) := by decide +kernel
theorem dL_law_1349 : decode cL_law 1349 = .ok (.if_icmp .eq 5, 3) := by decide +kernel
theorem dL_law_1354 : decode cL_law 1354 = .ok (.iload 6, 2) := by decide +kernel
theorem dL_law_1356 : decode cL_law 1356 = .ok (.ifCond .ne 15, 3) := by decide +kernel
theorem dL_law_1371 : decode cL_law 1371 = .ok (.goto 1750, 3) := by decide +kernel
theorem dL_law_1374 : decode cL_law 1374 = .ok (.aload_n 1, 1) := by decide +kernel
theorem dL_law_1375 : decode cL_law 1375 = .ok (.aload_n 0, 1) := by decide +kernel
theorem dL_law_1376 : decode cL_law 1376 = .ok (.iload 5, 2) := by decide +kernel
theorem dL_law_1378 : decode cL_law 1378 = .ok (.iconst 1, 1) := by decide +kernel
theorem dL_law_1379 : decode cL_law 1379 = .ok (.iadd, 1) := by decide +kernel
theorem dL_law_1380 : decode cL_law 1380 = .ok (.iaload, 1) := by decide +kernel
theorem dL_law_1381 : decode cL_law 1381 = .ok (.aload_n 0, 1) := by decide +kernel
theorem dL_law_1382 : decode cL_law 1382 = .ok (.iload 5, 2) := by decide +kernel
theorem dL_law_1384 : decode cL_law 1384 = .ok (.iconst 2, 1) := by decide +kernel
theorem dL_law_1385 : decode cL_law 1385 = .ok (.iadd, 1) := by decide +kernel
theorem dL_law_1386 : decode cL_law 1386 = .ok (.iaload, 1) := by decide +kernel
theorem dL_law_1387 : decode cL_law 1387 = .ok (.aload_n 3, 1) := by decide +kernel
theorem dL_law_1388 : decode cL_law 1388 = .ok (.invokestatic 243, 3) := by decide +kernel
theorem dL_law_1391 : decode cL_law 1391 = .ok (.istore 6, 2) := by decide +kernel
theorem dL_law_1393 : decode cL_law 1393 = .ok (.aload_n 2, 1) := by decide +kernel
theorem dL_law_1394 : decode cL_law 1394 = .ok (.aload_n 0, 1) := by decide +kernel
theorem dL_law_1395 : decode cL_law 1395 = .ok (.iload 5, 2) := by decide +kernel
theorem dL_law_1397 : decode cL_law 1397 = .ok (.iconst 1, 1) := by decide +kernel
theorem dL_law_1398 : decode cL_law 1398 = .ok (.iadd, 1) := by decide +kernel
theorem dL_law_1399 : decode cL_law 1399 = .ok (.iaload, 1) := by decide +kernel
theorem dL_law_1400 : decode cL_law 1400 = .ok (.aload_n 0, 1) := by decide +kernel
theorem dL_law_1401 : decode cL_law 1401 = .ok (.iload 5, 2) := by decide +kernel
theorem dL_law_1403 : decode cL_law 1403 = .ok (.iconst 2, 1) := by decide +kernel
theorem dL_law_1404 : decode cL_law 1404 = .ok (.iadd, 1) := by decide +kernel
theorem dL_law_1405 : decode cL_law 1405 = .ok (.iaload, 1) := by decide +kernel
theorem dL_law_1406 : decode cL_law 1406 = .ok (.invokevirtual 245, 3) := by decide +kernel
theorem dL_law_1409 : decode cL_law 1409 = .ok (.istore 7, 2) := by decide +kernel
theorem dL_law_1411 : decode cL_law 1411 = .ok (.aload_n 2, 1) := by decide +kernel
theorem dL_law_1412 : decode cL_law 1412 = .ok (.invokevirtual 179, 3) := by decide +kernel
theorem dL_law_1415 : decode cL_law 1415 = .ok (.iload 6, 2) := by decide +kernel
theorem dL_law_1417 : decode cL_law 1417 = .ok (.if_icmp .eq 5, 3) := by decide +kernel
theorem dL_law_1422 : decode cL_law 1422 = .ok (.iload 6, 2) := by decide +kernel
theorem dL_law_1424 : decode cL_law 1424 = .ok (.ifCond .ne 15, 3) := by decide +kernel
theorem dL_law_1439 : decode cL_law 1439 = .ok (.goto 1682, 3) := by decide +kernel
theorem dL_law_1442 : decode cL_law 1442 = .ok (.aload_n 1, 1) := by decide +kernel
theorem dL_law_1443 : decode cL_law 1443 = .ok (.aload_n 0, 1) := by decide +kernel
theorem dL_law_1444 : decode cL_law 1444 = .ok (.iload 5, 2) := by decide +kernel
theorem dL_law_1446 : decode cL_law 1446 = .ok (.iconst 1, 1) := by decide +kernel
theorem dL_law_1447 : decode cL_law 1447 = .ok (.iadd, 1) := by decide +kernel
theorem dL_law_1448 : decode cL_law 1448 = .ok (.iaload, 1) := by decide +kernel
theorem dL_law_1449 : decode cL_law 1449 = .ok (.aload_n 3, 1) := by decide +kernel
theorem dL_law_1450 : decode cL_law 1450 = .ok (.invokestatic 246, 3) := by decide +kernel
theorem dL_law_1453 : decode cL_law 1453 = .ok (.istore 6, 2) := by decide +kernel
theorem dL_law_1455 : decode cL_law 1455 = .ok (.aload_n 2, 1) := by decide +kernel
theorem dL_law_1456 : decode cL_law 1456 = .ok (.aload_n 0, 1) := by decide +kernel
theorem dL_law_1457 : decode cL_law 1457 = .ok (.iload 5, 2) := by decide +kernel
theorem dL_law_1459 : decode cL_law 1459 = .ok (.iconst 1, 1) := by decide +kernel
theorem dL_law_1460 : decode cL_law 1460 = .ok (.iadd, 1) := by decide +kernel
theorem dL_law_1461 : decode cL_law 1461 = .ok (.iaload, 1) := by decide +kernel
theorem dL_law_1462 : decode cL_law 1462 = .ok (.invokevirtual 248, 3) := by decide +kernel
theorem dL_law_1465 : decode cL_law 1465 = .ok (.istore 7, 2) := by decide +kernel
theorem dL_law_1467 : decode cL_law 1467 = .ok (.aload_n 2, 1) := by decide +kernel
theorem dL_law_1468 : decode cL_law 1468 = .ok (.invokevirtual 179, 3) := by decide +kernel
theorem dL_law_1471 : decode cL_law 1471 = .ok (.iload 6, 2) := by decide +kernel
theorem dL_law_1473 : decode cL_law 1473 = .ok (.if_icmp .eq 5, 3) := by decide +kernel
theorem dL_law_1478 : decode cL_law 1478 = .ok (.iload 6, 2) := by decide +kernel
theorem dL_law_1480 : decode cL_law 1480 = .ok (.ifCond .ne 15, 3) := by decide +kernel
theorem dL_law_1495 : decode cL_law 1495 = .ok (.goto 1626, 3) := by decide +kernel
theorem dL_law_1498 : decode cL_law 1498 = .ok (.aload_n 1, 1) := by decide +kernel
theorem dL_law_1499 : decode cL_law 1499 = .ok (.aload_n 0, 1) := by decide +kernel
theorem dL_law_1500 : decode cL_law 1500 = .ok (.iload 5, 2) := by decide +kernel
theorem dL_law_1502 : decode cL_law 1502 = .ok (.iconst 1, 1) := by decide +kernel
theorem dL_law_1503 : decode cL_law 1503 = .ok (.iadd, 1) := by decide +kernel
theorem dL_law_1504 : decode cL_law 1504 = .ok (.iaload, 1) := by decide +kernel
theorem dL_law_1505 : decode cL_law 1505 = .ok (.aload_n 3, 1) := by decide +kernel
theorem dL_law_1506 : decode cL_law 1506 = .ok (.invokestatic 249, 3) := by decide +kernel
theorem dL_law_1509 : decode cL_law 1509 = .ok (.istore 6, 2) := by decide +kernel
theorem dL_law_1511 : decode cL_law 1511 = .ok (.aload_n 2, 1) := by decide +kernel
theorem dL_law_1512 : decode cL_law 1512 = .ok (.aload_n 0, 1) := by decide +kernel
theorem dL_law_1513 : decode cL_law 1513 = .ok (.iload 5, 2) := by decide +kernel
theorem dL_law_1515 : decode cL_law 1515 = .ok (.iconst 1, 1) := by decide +kernel
theorem dL_law_1516 : decode cL_law 1516 = .ok (.iadd, 1) := by decide +kernel
theorem dL_law_1517 : decode cL_law 1517 = .ok (.iaload, 1) := by decide +kernel
theorem dL_law_1518 : decode cL_law 1518 = .ok (.invokevirtual 251, 3) := by decide +kernel
theorem dL_law_1521 : decode cL_law 1521 = .ok (.istore 7, 2) := by decide +kernel
theorem dL_law_1523 : decode cL_law 1523 = .ok (.aload_n 2, 1) := by decide +kernel
theorem dL_law_1524 : decode cL_law 1524 = .ok (.invokevirtual 179, 3) := by decide +kernel
theorem dL_law_1527 : decode cL_law 1527 = .ok (.iload 6, 2) := by decide +kernel
theorem dL_law_1529 : decode cL_law 1529 = .ok (.if_icmp .eq 5, 3) := by decide +kernel
theorem dL_law_1534 : decode cL_law 1534 = .ok (.iload 6, 2) := by decide +kernel
theorem dL_law_1536 : decode cL_law 1536 = .ok (.ifCond .ne 15, 3) := by decide +kernel
theorem dL_law_1551 : decode cL_law 1551 = .ok (.goto 1570, 3) := by decide +kernel
theorem dL_law_1554 : decode cL_law 1554 = .ok (.aload_n 1, 1) := by decide +kernel
theorem dL_law_1555 : decode cL_law 1555 = .ok (.aload_n 0, 1) := by decide +kernel
theorem dL_law_1556 : decode cL_law 1556 = .ok (.iload 5, 2) := by decide +kernel
theorem dL_law_1558 : decode cL_law 1558 = .ok (.iconst 1, 1) := by decide +kernel
theorem dL_law_1559 : decode cL_law 1559 = .ok (.iadd, 1) := by decide +kernel
theorem dL_law_1560 : decode cL_law 1560 = .ok (.iaload, 1) := by decide +kernel
theorem dL_law_1561 : decode cL_law 1561 = .ok (.aload_n 3, 1) := by decide +kernel
theorem dL_law_1562 : decode cL_law 1562 = .ok (.invokestatic 252, 3) := by decide +kernel
theorem dL_law_1565 : decode cL_law 1565 = .ok (.istore 6, 2) := by decide +kernel
theorem dL_law_1567 : decode cL_law 1567 = .ok (.aload_n 2, 1) := by decide +kernel
theorem dL_law_1568 : decode cL_law 1568 = .ok (.aload_n 0, 1) := by decide +kernel
theorem dL_law_1569 : decode cL_law 1569 = .ok (.iload 5, 2) := by decide +kernel
theorem dL_law_1571 : decode cL_law 1571 = .ok (.iconst 1, 1) := by decide +kernel
theorem dL_law_1572 : decode cL_law 1572 = .ok (.iadd, 1) := by decide +kernel
theorem dL_law_1573 : decode cL_law 1573 = .ok (.iaload, 1) := by decide +kernel
theorem dL_law_1574 : decode cL_law 1574 = .ok (.invokevirtual 254, 3) := by decide +kernel
theorem dL_law_1577 : decode cL_law 1577 = .ok (.istore 7, 2) := by decide +kernel
theorem dL_law_1579 : decode cL_law 1579 = .ok (.aload_n 2, 1) := by decide +kernel
theorem dL_law_1580 : decode cL_law 1580 = .ok (.invokevirtual 179, 3) := by decide +kernel
theorem dL_law_1583 : decode cL_law 1583 = .ok (.iload 6, 2) := by decide +kernel
theorem dL_law_1585 : decode cL_law 1585 = .ok (.if_icmp .eq 5, 3) := by decide +kernel
theorem dL_law_1590 : decode cL_law 1590 = .ok (.iload 6, 2) := by decide +kernel
theorem dL_law_1592 : decode cL_law 1592 = .ok (.ifCond .ne 15, 3) := by decide +kernel
theorem dL_law_1607 : decode cL_law 1607 = .ok (.goto 1514, 3) := by decide +kernel
theorem dL_law_1610 : decode cL_law 1610 = .ok (.aload_n 1, 1) := by decide +kernel
theorem dL_law_1611 : decode cL_law 1611 = .ok (.aload_n 0, 1) := by decide +kernel
theorem dL_law_1612 : decode cL_law 1612 = .ok (.iload 5, 2) := by decide +kernel
theorem dL_law_1614 : decode cL_law 1614 = .ok (.iconst 1, 1) := by decide +kernel
theorem dL_law_1615 : decode cL_law 1615 = .ok (.iadd, 1) := by decide +kernel
theorem dL_law_1616 : decode cL_law 1616 = .ok (.iaload, 1) := by decide +kernel
theorem dL_law_1617 : decode cL_law 1617 = .ok (.aload_n 0, 1) := by decide +kernel
theorem dL_law_1618 : decode cL_law 1618 = .ok (.iload 5, 2) := by decide +kernel
theorem dL_law_1620 : decode cL_law 1620 = .ok (.iconst 2, 1) := by decide +kernel
theorem dL_law_1621 : decode cL_law 1621 = .ok (.iadd, 1) := by decide +kernel
theorem dL_law_1622 : decode cL_law 1622 = .ok (.iaload, 1) := by decide +kernel
theorem dL_law_1623 : decode cL_law 1623 = .ok (.aload_n 3, 1) := by decide +kernel
theorem dL_law_1624 : decode cL_law 1624 = .ok (.invokestatic 255, 3) := by decide +kernel
theorem dL_law_1627 : decode cL_law 1627 = .ok (.istore 6, 2) := by decide +kernel
theorem dL_law_1629 : decode cL_law 1629 = .ok (.aload_n 2, 1) := by decide +kernel
theorem dL_law_1630 : decode cL_law 1630 = .ok (.aload_n 0, 1) := by decide +kernel
theorem dL_law_1631 : decode cL_law 1631 = .ok (.iload 5, 2) := by decide +kernel
theorem dL_law_1633 : decode cL_law 1633 = .ok (.iconst 1, 1) := by decide +kernel
theorem dL_law_1634 : decode cL_law 1634 = .ok (.iadd, 1) := by decide +kernel
theorem dL_law_1635 : decode cL_law 1635 = .ok (.iaload, 1) := by decide +kernel
theorem dL_law_1636 : decode cL_law 1636 = .ok (.aload_n 0, 1) := by decide +kernel
theorem dL_law_1637 : decode cL_law 1637 = .ok (.iload 5, 2) := by decide +kernel
theorem dL_law_1639 : decode cL_law 1639 = .ok (.iconst 2, 1) := by decide +kernel
theorem dL_law_1640 : decode cL_law 1640 = .ok (.iadd, 1) := by decide +kernel
theorem dL_law_1641 : decode cL_law 1641 = .ok (.iaload, 1) := by decide +kernel
theorem dL_law_1642 : decode cL_law 1642 = .ok (.invokevirtual 257, 3) := by decide +kernel
theorem dL_law_1645 : decode cL_law 1645 = .ok (.istore 7, 2) := by decide +kernel
theorem dL_law_1647 : decode cL_law 1647 = .ok (.aload_n 2, 1) := by decide +kernel
theorem dL_law_1648 : decode cL_law 1648 = .ok (.invokevirtual 179, 3) := by decide +kernel
theorem dL_law_1651 : decode cL_law 1651 = .ok (.iload 6, 2) := by decide +kernel
theorem dL_law_1653 : decode cL_law 1653 = .ok (.if_icmp .eq 5, 3) := by decide +kernel
theorem dL_law_1658 : decode cL_law 1658 = .ok (.iload 6, 2) := by decide +kernel
theorem dL_law_1660 : decode cL_law 1660 = .ok (.ifCond .ne 15, 3) := by decide +kernel
theorem dL_law_1675 : decode cL_law 1675 = .ok (.goto 1446, 3) := by decide +kernel
theorem dL_law_1678 : decode cL_law 1678 = .ok (.aload_n 1, 1) := by decide +kernel
theorem dL_law_1679 : decode cL_law 1679 = .ok (.invokevirtual 258, 3) := by decide +kernel
theorem dL_law_1682 : decode cL_law 1682 = .ok (.aload_n 2, 1) := by decide +kernel
theorem dL_law_1683 : decode cL_law 1683 = .ok (.invokevirtual 261, 3) := by decide +kernel
theorem dL_law_1686 : decode cL_law 1686 = .ok (.if_icmp .eq 1435, 3) := by decide +kernel
theorem dL_law_1691 : decode cL_law 1691 = .ok (.aload_n 1, 1) := by decide +kernel
theorem dL_law_1692 : decode cL_law 1692 = .ok (.aload_n 0, 1) := by decide +kernel
theorem dL_law_1693 : decode cL_law 1693 = .ok (.iload 5, 2) := by decide +kernel
theorem dL_law_1695 : decode cL_law 1695 = .ok (.iconst 1, 1) := by decide +kernel
theorem dL_law_1696 : decode cL_law 1696 = .ok (.iadd, 1) := by decide +kernel
theorem dL_law_1697 : decode cL_law 1697 = .ok (.iaload, 1) := by decide +kernel
theorem dL_law_1698 : decode cL_law 1698 = .ok (.aload_n 3, 1) := by decide +kernel
theorem dL_law_1699 : decode cL_law 1699 = .ok (.invokestatic 262, 3) := by decide +kernel
theorem dL_law_1702 : decode cL_law 1702 = .ok (.istore 6, 2) := by decide +kernel
theorem dL_law_1704 : decode cL_law 1704 = .ok (.aload_n 2, 1) := by decide +kernel
theorem dL_law_1705 : decode cL_law 1705 = .ok (.aload_n 0, 1) := by decide +kernel
theorem dL_law_1706 : decode cL_law 1706 = .ok (.iload 5, 2) := by decide +kernel
theorem dL_law_1708 : decode cL_law 1708 = .ok (.iconst 1, 1) := by decide +kernel
theorem dL_law_1709 : decode cL_law 1709 = .ok (.iadd, 1) := by decide +kernel
theorem dL_law_1710 : decode cL_law 1710 = .ok (.iaload, 1) := by decide +kernel
theorem dL_law_1711 : decode cL_law 1711 = .ok (.invokevirtual 264, 3) := by decide +kernel
theorem dL_law_1714 : decode cL_law 1714 = .ok (.istore 7, 2) := by decide +kernel
theorem dL_law_1716 : decode cL_law 1716 = .ok (.aload_n 2, 1) := by decide +kernel
theorem dL_law_1717 : decode cL_law 1717 = .ok (.invokevirtual 179, 3) := by decide +kernel
theorem dL_law_1720 : decode cL_law 1720 = .ok (.iload 6, 2) := by decide +kernel
theorem dL_law_1722 : decode cL_law 1722 = .ok (.if_icmp .eq 5, 3) := by decide +kernel
theorem dL_law_1727 : decode cL_law 1727 = .ok (.iload 6, 2) := by decide +kernel
theorem dL_law_1729 : decode cL_law 1729 = .ok (.ifCond .ne 15, 3) := by decide +kernel
theorem dL_law_1744 : decode cL_law 1744 = .ok (.goto 1377, 3) := by decide +kernel
theorem dL_law_1747 : decode cL_law 1747 = .ok (.aload_n 1, 1) := by decide +kernel
theorem dL_law_1748 : decode cL_law 1748 = .ok (.invokevirtual 265, 3) := by decide +kernel
theorem dL_law_1751 : decode cL_law 1751 = .ok (.aload_n 2, 1) := by decide +kernel
theorem dL_law_1752 : decode cL_law 1752 = .ok (.invokevirtual 269, 3) := by decide +kernel
theorem dL_law_1755 : decode cL_law 1755 = .ok (.if_icmp .eq 1366, 3) := by decide +kernel
theorem dL_law_1760 : decode cL_law 1760 = .ok (.aload_n 1, 1) := by decide +kernel
theorem dL_law_1761 : decode cL_law 1761 = .ok (.aload_n 0, 1) := by decide +kernel
theorem dL_law_1762 : decode cL_law 1762 = .ok (.iload 5, 2) := by decide +kernel
theorem dL_law_1764 : decode cL_law 1764 = .ok (.iconst 1, 1) := by decide +kernel
theorem dL_law_1765 : decode cL_law 1765 = .ok (.iadd, 1) := by decide +kernel
theorem dL_law_1766 : decode cL_law 1766 = .ok (.iaload, 1) := by decide +kernel
theorem dL_law_1767 : decode cL_law 1767 = .ok (.aload_n 3, 1) := by decide +kernel
theorem dL_law_1768 : decode cL_law 1768 = .ok (.invokestatic 270, 3) := by decide +kernel
theorem dL_law_1771 : decode cL_law 1771 = .ok (.istore 6, 2) := by decide +kernel
theorem dL_law_1773 : decode cL_law 1773 = .ok (.aload_n 2, 1) := by decide +kernel
theorem dL_law_1774 : decode cL_law 1774 = .ok (.aload_n 0, 1) := by decide +kernel
theorem dL_law_1775 : decode cL_law 1775 = .ok (.iload 5, 2) := by decide +kernel
theorem dL_law_1777 : decode cL_law 1777 = .ok (.iconst 1, 1) := by decide +kernel
theorem dL_law_1778 : decode cL_law 1778 = .ok (.iadd, 1) := by decide +kernel
theorem dL_law_1779 : decode cL_law 1779 = .ok (.iaload, 1) := by decide +kernel
theorem dL_law_1780 : decode cL_law 1780 = .ok (.invokevirtual 272, 3) := by decide +kernel
theorem dL_law_1783 : decode cL_law 1783 = .ok (.istore 7, 2) := by decide +kernel
theorem dL_law_1785 : decode cL_law 1785 = .ok (.aload_n 2, 1) := by decide +kernel
theorem dL_law_1786 : decode cL_law 1786 = .ok (.invokevirtual 179, 3) := by decide +kernel
theorem dL_law_1789 : decode cL_law 1789 = .ok (.iload 6, 2) := by decide +kernel
theorem dL_law_1791 : decode cL_law 1791 = .ok (.if_icmp .eq 5, 3) := by decide +kernel
theorem dL_law_1796 : decode cL_law 1796 = .ok (.iload 6, 2) := by decide +kernel
theorem dL_law_1798 : decode cL_law 1798 = .ok (.ifCond .ne 15, 3) := by decide +kernel
theorem dL_law_1813 : decode cL_law 1813 = .ok (.goto 1308, 3) := by decide +kernel
theorem dL_law_1816 : decode cL_law 1816 = .ok (.aload_n 1, 1) := by decide +kernel
theorem dL_law_1817 : decode cL_law 1817 = .ok (.aload_n 0, 1) := by decide +kernel
theorem dL_law_1818 : decode cL_law 1818 = .ok (.iload 5, 2) := by decide +kernel
theorem dL_law_1820 : decode cL_law 1820 = .ok (.iconst 1, 1) := by decide +kernel
theorem dL_law_1821 : decode cL_law 1821 = .ok (.iadd, 1) := by decide +kernel
theorem dL_law_1822 : decode cL_law 1822 = .ok (.iaload, 1) := by decide +kernel
theorem dL_law_1823 : decode cL_law 1823 = .ok (.aload_n 3, 1) := by decide +kernel
theorem dL_law_1824 : decode cL_law 1824 = .ok (.invokestatic 273, 3) := by decide +kernel
theorem dL_law_1827 : decode cL_law 1827 = .ok (.istore 6, 2) := by decide +kernel
theorem dL_law_1829 : decode cL_law 1829 = .ok (.aload_n 2, 1) := by decide +kernel
theorem dL_law_1830 : decode cL_law 1830 = .ok (.aload_n 0, 1) := by decide +kernel
theorem dL_law_1831 : decode cL_law 1831 = .ok (.iload 5, 2) := by decide +kernel
theorem dL_law_1833 : decode cL_law 1833 = .ok (.iconst 1, 1) := by decide +kernel
theorem dL_law_1834 : decode cL_law 1834 = .ok (.iadd, 1) := by decide +kernel
theorem dL_law_1835 : decode cL_law 1835 = .ok (.iaload, 1) := by decide +kernel
theorem dL_law_1836 : decode cL_law 1836 = .ok (.invokevirtual 275, 3) := by decide +kernel
theorem dL_law_1839 : decode cL_law 1839 = .ok (.istore 7, 2) := by decide +kernel
theorem dL_law_1841 : decode cL_law 1841 = .ok (.aload_n 2, 1) := by decide +kernel
theorem dL_law_1842 : decode cL_law 1842 = .ok (.invokevirtual 179, 3) := by decide +kernel
theorem dL_law_1845 : decode cL_law 1845 = .ok (.iload 6, 2) := by decide +kernel
theorem dL_law_1847 : decode cL_law 1847 = .ok (.if_icmp .eq 5, 3) := by decide +kernel
theorem dL_law_1852 : decode cL_law 1852 = .ok (.iload 6, 2) := by decide +kernel
theorem dL_law_1854 : decode cL_law 1854 = .ok (.ifCond .ne 15, 3) := by decide +kernel
theorem dL_law_1869 : decode cL_law 1869 = .ok (.goto 1252, 3) := by decide +kernel
theorem dL_law_1872 : decode cL_law 1872 = .ok (.aload_n 1, 1) := by decide +kernel
theorem dL_law_1873 : decode cL_law 1873 = .ok (.aload_n 3, 1) := by decide +kernel
theorem dL_law_1874 : decode cL_law 1874 = .ok (.invokestatic 276, 3) := by decide +kernel
theorem dL_law_1877 : decode cL_law 1877 = .ok (.istore 6, 2) := by decide +kernel
theorem dL_law_1879 : decode cL_law 1879 = .ok (.aload_n 2, 1) := by decide +kernel
theorem dL_law_1880 : decode cL_law 1880 = .ok (.invokevirtual 278, 3) := by decide +kernel
theorem dL_law_1883 : decode cL_law 1883 = .ok (.istore 7, 2) := by decide +kernel
theorem dL_law_1885 : decode cL_law 1885 = .ok (.aload_n 2, 1) := by decide +kernel
theorem dL_law_1886 : decode cL_law 1886 = .ok (.invokevirtual 179, 3) := by decide +kernel
theorem dL_law_1889 : decode cL_law 1889 = .ok (.iload 6, 2) := by decide +kernel
theorem dL_law_1891 : decode cL_law 1891 = .ok (.if_icmp .eq 5, 3) := by decide +kernel
theorem dL_law_1896 : decode cL_law 1896 = .ok (.iload 6, 2) := by decide +kernel
theorem dL_law_1898 : decode cL_law 1898 = .ok (.ifCond .ne 15, 3) := by decide +kernel
theorem dL_law_1901 : decode cL_law 1901 = .ok (.aload_n 3, 1) := by decide +kernel
theorem dL_law_1902 : decode cL_law 1902 = .ok (.iconst 0, 1) := by decide +kernel
theorem dL_law_1903 : decode cL_law 1903 = .ok (.laload, 1) := by decide +kernel
theorem dL_law_1904 : decode cL_law 1904 = .ok (.iload 7, 2) := by decide +kernel
theorem dL_law_1906 : decode cL_law 1906 = .ok (.i2l, 1) := by decide +kernel
theorem dL_law_1907 : decode cL_law 1907 = .ok (.lcmp, 1) := by decide +kernel
theorem dL_law_1908 : decode cL_law 1908 = .ok (.ifCond .eq 5, 3) := by decide +kernel
theorem dL_law_1913 : decode cL_law 1913 = .ok (.goto 1208, 3) := by decide +kernel
theorem dL_law_1916 : decode cL_law 1916 = .ok (.aload_n 1, 1) := by decide +kernel
theorem dL_law_1917 : decode cL_law 1917 = .ok (.aload_n 0, 1) := by decide +kernel
theorem dL_law_1918 : decode cL_law 1918 = .ok (.iload 5, 2) := by decide +kernel
theorem dL_law_1920 : decode cL_law 1920 = .ok (.iconst 1, 1) := by decide +kernel
theorem dL_law_1921 : decode cL_law 1921 = .ok (.iadd, 1) := by decide +kernel
theorem dL_law_1922 : decode cL_law 1922 = .ok (.iaload, 1) := by decide +kernel
theorem dL_law_1923 : decode cL_law 1923 = .ok (.aload_n 3, 1) := by decide +kernel
theorem dL_law_1924 : decode cL_law 1924 = .ok (.invokestatic 279, 3) := by decide +kernel
theorem dL_law_1927 : decode cL_law 1927 = .ok (.istore 6, 2) := by decide +kernel
theorem dL_law_1929 : decode cL_law 1929 = .ok (.aload_n 2, 1) := by decide +kernel
theorem dL_law_1930 : decode cL_law 1930 = .ok (.aload_n 0, 1) := by decide +kernel
theorem dL_law_1931 : decode cL_law 1931 = .ok (.iload 5, 2) := by decide +kernel
theorem dL_law_1933 : decode cL_law 1933 = .ok (.iconst 1, 1) := by decide +kernel
theorem dL_law_1934 : decode cL_law 1934 = .ok (.iadd, 1) := by decide +kernel
theorem dL_law_1935 : decode cL_law 1935 = .ok (.iaload, 1) := by decide +kernel
theorem dL_law_1936 : decode cL_law 1936 = .ok (.invokevirtual 281, 3) := by decide +kernel
theorem dL_law_1939 : decode cL_law 1939 = .ok (.istore 7, 2) := by decide +kernel
theorem dL_law_1941 : decode cL_law 1941 = .ok (.aload_n 2, 1) := by decide +kernel
theorem dL_law_1942 : decode cL_law 1942 = .ok (.invokevirtual 179, 3) := by decide +kernel
theorem dL_law_1945 : decode cL_law 1945 = .ok (.iload 6, 2) := by decide +kernel
theorem dL_law_1947 : decode cL_law 1947 = .ok (.if_icmp .eq 5, 3) := by decide +kernel
theorem dL_law_1952 : decode cL_law 1952 = .ok (.iload 6, 2) := by decide +kernel
theorem dL_law_1954 : decode cL_law 1954 = .ok (.ifCond .ne 15, 3) := by decide +kernel
theorem dL_law_1969 : decode cL_law 1969 = .ok (.goto 1152, 3) := by decide +kernel
theorem dL_law_1972 : decode cL_law 1972 = .ok (.aload_n 1, 1) := by decide +kernel
theorem dL_law_1973 : decode cL_law 1973 = .ok (.aload_n 0, 1) := by decide +kernel
theorem dL_law_1974 : decode cL_law 1974 = .ok (.iload 5, 2) := by decide +kernel
theorem dL_law_1976 : decode cL_law 1976 = .ok (.iconst 1, 1) := by decide +kernel
theorem dL_law_1977 : decode cL_law 1977 = .ok (.iadd, 1) := by decide +kernel
theorem dL_law_1978 : decode cL_law 1978 = .ok (.iaload, 1) := by decide +kernel
theorem dL_law_1979 : decode cL_law 1979 = .ok (.aload_n 0, 1) := by decide +kernel
theorem dL_law_1980 : decode cL_law 1980 = .ok (.iload 5, 2) := by decide +kernel
theorem dL_law_1982 : decode cL_law 1982 = .ok (.iconst 2, 1) := by decide +kernel
theorem dL_law_1983 : decode cL_law 1983 = .ok (.iadd, 1) := by decide +kernel
theorem dL_law_1984 : decode cL_law 1984 = .ok (.iaload, 1) := by decide +kernel
theorem dL_law_1985 : decode cL_law 1985 = .ok (.aload_n 3, 1) := by decide +kernel
theorem dL_law_1986 : decode cL_law 1986 = .ok (.invokestatic 282, 3) := by decide +kernel
theorem dL_law_1989 : decode cL_law 1989 = .ok (.istore 6, 2) := by decide +kernel
theorem dL_law_1991 : decode cL_law 1991 = .ok (.aload_n 2, 1) := by decide +kernel
theorem dL_law_1992 : decode cL_law 1992 = .ok (.aload_n 0, 1) := by decide +kernel
theorem dL_law_1993 : decode cL_law 1993 = .ok (.iload 5, 2) := by decide +kernel
theorem dL_law_1995 : decode cL_law 1995 = .ok (.iconst 1, 1) := by decide +kernel
theorem dL_law_1996 : decode cL_law 1996 = .ok (.iadd, 1) := by decide +kernel
theorem dL_law_1997 : decode cL_law 1997 = .ok (.iaload, 1) := by decide +kernel
theorem dL_law_1998 : decode cL_law 1998 = .ok (.aload_n 0, 1) := by decide +kernel
theorem dL_law_1999 : decode cL_law 1999 = .ok (.iload 5, 2) := by decide +kernel
theorem dL_law_2001 : decode cL_law 2001 = .ok (.iconst 2, 1) := by decide +kernel
theorem dL_law_2002 : decode cL_law 2002 = .ok (.iadd, 1) := by decide +kernel
theorem dL_law_2003 : decode cL_law 2003 = .ok (.iaload, 1) := by decide +kernel
theorem dL_law_2004 : decode cL_law 2004 = .ok (.invokevirtual 284, 3) := by decide +kernel
theorem dL_law_2007 : decode cL_law 2007 = .ok (.istore 7, 2) := by decide +kernel
theorem dL_law_2009 : decode cL_law 2009 = .ok (.aload_n 2, 1) := by decide +kernel
theorem dL_law_2010 : decode cL_law 2010 = .ok (.invokevirtual 179, 3) := by decide +kernel
theorem dL_law_2013 : decode cL_law 2013 = .ok (.iload 6, 2) := by decide +kernel
theorem dL_law_2015 : decode cL_law 2015 = .ok (.if_icmp .eq 5, 3) := by decide +kernel
theorem dL_law_2020 : decode cL_law 2020 = .ok (.iload 6, 2) := by decide +kernel
theorem dL_law_2022 : decode cL_law 2022 = .ok (.ifCond .ne 15, 3) := by decide +kernel
theorem dL_law_2037 : decode cL_law 2037 = .ok (.goto 1084, 3) := by decide +kernel
theorem dL_law_2040 : decode cL_law 2040 = .ok (.aload_n 1, 1) := by decide +kernel
theorem dL_law_2041 : decode cL_law 2041 = .ok (.aload_n 0, 1) := by decide +kernel
theorem dL_law_2042 : decode cL_law 2042 = .ok (.iload 5, 2) := by decide +kernel
theorem dL_law_2044 : decode cL_law 2044 = .ok (.iconst 1, 1) := by decide +kernel
theorem dL_law_2045 : decode cL_law 2045 = .ok (.iadd, 1) := by decide +kernel
theorem dL_law_2046 : decode cL_law 2046 = .ok (.iaload, 1) := by decide +kernel
theorem dL_law_2047 : decode cL_law 2047 = .ok (.aload_n 3, 1) := by decide +kernel
theorem dL_law_2048 : decode cL_law 2048 = .ok (.invokestatic 285, 3) := by decide +kernel
theorem dL_law_2051 : decode cL_law 2051 = .ok (.istore 6, 2) := by decide +kernel
theorem dL_law_2053 : decode cL_law 2053 = .ok (.aload_n 2, 1) := by decide +kernel
theorem dL_law_2054 : decode cL_law 2054 = .ok (.aload_n 0, 1) := by decide +kernel
theorem dL_law_2055 : decode cL_law 2055 = .ok (.iload 5, 2) := by decide +kernel
theorem dL_law_2057 : decode cL_law 2057 = .ok (.iconst 1, 1) := by decide +kernel
theorem dL_law_2058 : decode cL_law 2058 = .ok (.iadd, 1) := by decide +kernel
theorem dL_law_2059 : decode cL_law 2059 = .ok (.iaload, 1) := by decide +kernel
theorem dL_law_2060 : decode cL_law 2060 = .ok (.invokevirtual 287, 3) := by decide +kernel
theorem dL_law_2063 : decode cL_law 2063 = .ok (.istore 7, 2) := by decide +kernel
theorem dL_law_2065 : decode cL_law 2065 = .ok (.aload_n 2, 1) := by decide +kernel
theorem dL_law_2066 : decode cL_law 2066 = .ok (.invokevirtual 179, 3) := by decide +kernel
theorem dL_law_2069 : decode cL_law 2069 = .ok (.iload 6, 2) := by decide +kernel
theorem dL_law_2071 : decode cL_law 2071 = .ok (.if_icmp .eq 5, 3) := by decide +kernel
theorem dL_law_2076 : decode cL_law 2076 = .ok (.iload 6, 2) := by decide +kernel
theorem dL_law_2078 : decode cL_law 2078 = .ok (.ifCond .ne 15, 3) := by decide +kernel
theorem dL_law_2093 : decode cL_law 2093 = .ok (.goto 1028, 3) := by decide +kernel
theorem dL_law_2096 : decode cL_law 2096 = .ok (.aload_n 1, 1) := by decide +kernel
theorem dL_law_2097 : decode cL_law 2097 = .ok (.aload_n 3, 1) := by decide +kernel
theorem dL_law_2098 : decode cL_law 2098 = .ok (.invokestatic 288, 3) := by decide +kernel
theorem dL_law_2101 : decode cL_law 2101 = .ok (.istore 6, 2) := by decide +kernel
theorem dL_law_2103 : decode cL_law 2103 = .ok (.aload_n 2, 1) := by decide +kernel
theorem dL_law_2104 : decode cL_law 2104 = .ok (.invokevirtual 290, 3) := by decide +kernel
theorem dL_law_2107 : decode cL_law 2107 = .ok (.istore 7, 2) := by decide +kernel
theorem dL_law_2109 : decode cL_law 2109 = .ok (.aload_n 2, 1) := by decide +kernel
theorem dL_law_2110 : decode cL_law 2110 = .ok (.invokevirtual 179, 3) := by decide +kernel
theorem dL_law_2113 : decode cL_law 2113 = .ok (.iload 6, 2) := by decide +kernel
theorem dL_law_2115 : decode cL_law 2115 = .ok (.if_icmp .eq 5, 3) := by decide +kernel
theorem dL_law_2120 : decode cL_law 2120 = .ok (.iload 6, 2) := by decide +kernel
theorem dL_law_2122 : decode cL_law 2122 = .ok (.ifCond .ne 15, 3) := by decide +kernel
theorem dL_law_2125 : decode cL_law 2125 = .ok (.aload_n 3, 1) := by decide +kernel
theorem dL_law_2126 : decode cL_law 2126 = .ok (.iconst 0, 1) := by decide +kernel
theorem dL_law_2127 : decode cL_law 2127 = .ok (.laload, 1) := by decide +kernel
theorem dL_law_2128 : decode cL_law 2128 = .ok (.iload 7, 2) := by decide +kernel
theorem dL_law_2130 : decode cL_law 2130 = .ok (.i2l, 1) := by decide +kernel
theorem dL_law_2131 : decode cL_law 2131 = .ok (.lcmp, 1) := by decide +kernel
theorem dL_law_2132 : decode cL_law 2132 = .ok (.ifCond .eq 5, 3) := by decide +kernel
theorem dL_law_2137 : decode cL_law 2137 = .ok (.goto 984, 3) := by decide +kernel
theorem dL_law_2140 : decode cL_law 2140 = .ok (.aload_n 1, 1) := by decide +kernel
theorem dL_law_2141 : decode cL_law 2141 = .ok (.aload_n 0, 1) := by decide +kernel
theorem dL_law_2142 : decode cL_law 2142 = .ok (.iload 5, 2) := by decide +kernel
theorem dL_law_2144 : decode cL_law 2144 = .ok (.iconst 1, 1) := by decide +kernel
theorem dL_law_2145 : decode cL_law 2145 = .ok (.iadd, 1) := by decide +kernel
theorem dL_law_2146 : decode cL_law 2146 = .ok (.iaload, 1) := by decide +kernel
theorem dL_law_2147 : decode cL_law 2147 = .ok (.aload_n 3, 1) := by decide +kernel
theorem dL_law_2148 : decode cL_law 2148 = .ok (.invokestatic 291, 3) := by decide +kernel
theorem dL_law_2151 : decode cL_law 2151 = .ok (.istore 6, 2) := by decide +kernel
theorem dL_law_2153 : decode cL_law 2153 = .ok (.aload_n 2, 1) := by decide +kernel
theorem dL_law_2154 : decode cL_law 2154 = .ok (.aload_n 0, 1) := by decide +kernel
theorem dL_law_2155 : decode cL_law 2155 = .ok (.iload 5, 2) := by decide +kernel
theorem dL_law_2157 : decode cL_law 2157 = .ok (.iconst 1, 1) := by decide +kernel
theorem dL_law_2158 : decode cL_law 2158 = .ok (.iadd, 1) := by decide +kernel
theorem dL_law_2159 : decode cL_law 2159 = .ok (.iaload, 1) := by decide +kernel
theorem dL_law_2160 : decode cL_law 2160 = .ok (.invokevirtual 293, 3) := by decide +kernel
theorem dL_law_2163 : decode cL_law 2163 = .ok (.istore 7, 2) := by decide +kernel
theorem dL_law_2165 : decode cL_law 2165 = .ok (.aload_n 2, 1) := by decide +kernel
theorem dL_law_2166 : decode cL_law 2166 = .ok (.invokevirtual 179, 3) := by decide +kernel
theorem dL_law_2169 : decode cL_law 2169 = .ok (.iload 6, 2) := by decide +kernel
theorem dL_law_2171 : decode cL_law 2171 = .ok (.if_icmp .eq 5, 3) := by decide +kernel
theorem dL_law_2176 : decode cL_law 2176 = .ok (.iload 6, 2) := by decide +kernel
theorem dL_law_2178 : decode cL_law 2178 = .ok (.ifCond .ne 15, 3) := by decide +kernel
theorem dL_law_2181 : decode cL_law 2181 = .ok (.aload_n 3, 1) := by decide +kernel
theorem dL_law_2182 : decode cL_law 2182 = .ok (.iconst 0, 1) := by decide +kernel
theorem dL_law_2183 : decode cL_law 2183 = .ok (.laload, 1) := by decide +kernel
theorem dL_law_2184 : decode cL_law 2184 = .ok (.iload 7, 2) := by decide +kernel
theorem dL_law_2186 : decode cL_law 2186 = .ok (.i2l, 1) := by decide +kernel
theorem dL_law_2187 : decode cL_law 2187 = .ok (.lcmp, 1) := by decide +kernel
theorem dL_law_2188 : decode cL_law 2188 = .ok (.ifCond .eq 5, 3) := by decide +kernel
theorem dL_law_2193 : decode cL_law 2193 = .ok (.goto 928, 3) := by decide +kernel
theorem dL_law_2196 : decode cL_law 2196 = .ok (.aload_n 1, 1) := by decide +kernel
theorem dL_law_2197 : decode cL_law 2197 = .ok (.aload_n 0, 1) := by decide +kernel
theorem dL_law_2198 : decode cL_law 2198 = .ok (.iload 5, 2) := by decide +kernel
theorem dL_law_2200 : decode cL_law 2200 = .ok (.iconst 1, 1) := by decide +kernel
theorem dL_law_2201 : decode cL_law 2201 = .ok (.iadd, 1) := by decide +kernel
theorem dL_law_2202 : decode cL_law 2202 = .ok (.iaload, 1) := by decide +kernel
theorem dL_law_2203 : decode cL_law 2203 = .ok (.i2c, 1) := by decide +kernel
theorem dL_law_2204 : decode cL_law 2204 = .ok (.aload_n 3, 1) := by decide +kernel
theorem dL_law_2205 : decode cL_law 2205 = .ok (.invokestatic 294, 3) := by decide +kernel
theorem dL_law_2208 : decode cL_law 2208 = .ok (.istore 6, 2) := by decide +kernel
theorem dL_law_2210 : decode cL_law 2210 = .ok (.aload_n 2, 1) := by decide +kernel
theorem dL_law_2211 : decode cL_law 2211 = .ok (.aload_n 0, 1) := by decide +kernel
theorem dL_law_2212 : decode cL_law 2212 = .ok (.iload 5, 2) := by decide +kernel
theorem dL_law_2214 : decode cL_law 2214 = .ok (.iconst 1, 1) := by decide +kernel
theorem dL_law_2215 : decode cL_law 2215 = .ok (.iadd, 1) := by decide +kernel
theorem dL_law_2216 : decode cL_law 2216 = .ok (.iaload, 1) := by decide +kernel
theorem dL_law_2217 : decode cL_law 2217 = .ok (.i2c, 1) := by decide +kernel
theorem dL_law_2218 : decode cL_law 2218 = .ok (.invokevirtual 296, 3) := by decide +kernel
theorem dL_law_2221 : decode cL_law 2221 = .ok (.istore 7, 2) := by decide +kernel
theorem dL_law_2223 : decode cL_law 2223 = .ok (.aload_n 2, 1) := by decide +kernel
theorem dL_law_2224 : decode cL_law 2224 = .ok (.invokevirtual 179, 3) := by decide +kernel
theorem dL_law_2227 : decode cL_law 2227 = .ok (.iload 6, 2) := by decide +kernel
theorem dL_law_2229 : decode cL_law 2229 = .ok (.if_icmp .eq 5, 3) := by decide +kernel
theorem dL_law_2234 : decode cL_law 2234 = .ok (.iload 6, 2) := by decide +kernel
theorem dL_law_2236 : decode cL_law 2236 = .ok (.ifCond .ne 15, 3) := by decide +kernel
theorem dL_law_2239 : decode cL_law 2239 = .ok (.aload_n 3, 1) := by decide +kernel
theorem dL_law_2240 : decode cL_law 2240 = .ok (.iconst 0, 1) := by decide +kernel
theorem dL_law_2241 : decode cL_law 2241 = .ok (.laload, 1) := by decide +kernel
theorem dL_law_2242 : decode cL_law 2242 = .ok (.iload 7, 2) := by decide +kernel
theorem dL_law_2244 : decode cL_law 2244 = .ok (.i2l, 1) := by decide +kernel
theorem dL_law_2245 : decode cL_law 2245 = .ok (.lcmp, 1) := by decide +kernel
theorem dL_law_2246 : decode cL_law 2246 = .ok (.ifCond .eq 5, 3) := by decide +kernel
theorem dL_law_2251 : decode cL_law 2251 = .ok (.goto 870, 3) := by decide +kernel
theorem dL_law_2254 : decode cL_law 2254 = .ok (.aload_n 1, 1) := by decide +kernel
theorem dL_law_2255 : decode cL_law 2255 = .ok (.aload_n 0, 1) := by decide +kernel
theorem dL_law_2256 : decode cL_law 2256 = .ok (.iload 5, 2) := by decide +kernel
theorem dL_law_2258 : decode cL_law 2258 = .ok (.iconst 1, 1) := by decide +kernel
theorem dL_law_2259 : decode cL_law 2259 = .ok (.iadd, 1) := by decide +kernel
theorem dL_law_2260 : decode cL_law 2260 = .ok (.iaload, 1) := by decide +kernel
theorem dL_law_2261 : decode cL_law 2261 = .ok (.aload_n 3, 1) := by decide +kernel
theorem dL_law_2262 : decode cL_law 2262 = .ok (.invokestatic 297, 3) := by decide +kernel
theorem dL_law_2265 : decode cL_law 2265 = .ok (.istore 6, 2) := by decide +kernel
theorem dL_law_2267 : decode cL_law 2267 = .ok (.aload_n 2, 1) := by decide +kernel
theorem dL_law_2268 : decode cL_law 2268 = .ok (.aload_n 0, 1) := by decide +kernel
theorem dL_law_2269 : decode cL_law 2269 = .ok (.iload 5, 2) := by decide +kernel
theorem dL_law_2271 : decode cL_law 2271 = .ok (.iconst 1, 1) := by decide +kernel
theorem dL_law_2272 : decode cL_law 2272 = .ok (.iadd, 1) := by decide +kernel
theorem dL_law_2273 : decode cL_law 2273 = .ok (.iaload, 1) := by decide +kernel
theorem dL_law_2274 : decode cL_law 2274 = .ok (.invokevirtual 299, 3) := by decide +kernel
theorem dL_law_2277 : decode cL_law 2277 = .ok (.istore 7, 2) := by decide +kernel
theorem dL_law_2279 : decode cL_law 2279 = .ok (.aload_n 2, 1) := by decide +kernel
theorem dL_law_2280 : decode cL_law 2280 = .ok (.invokevirtual 179, 3) := by decide +kernel
theorem dL_law_2283 : decode cL_law 2283 = .ok (.iload 6, 2) := by decide +kernel
theorem dL_law_2285 : decode cL_law 2285 = .ok (.if_icmp .eq 5, 3) := by decide +kernel
theorem dL_law_2290 : decode cL_law 2290 = .ok (.iload 6, 2) := by decide +kernel
theorem dL_law_2292 : decode cL_law 2292 = .ok (.ifCond .ne 15, 3) := by decide +kernel
theorem dL_law_2307 : decode cL_law 2307 = .ok (.goto 814, 3) := by decide +kernel
theorem dL_law_2310 : decode cL_law 2310 = .ok (.aload_n 1, 1) := by decide +kernel
theorem dL_law_2311 : decode cL_law 2311 = .ok (.aload_n 0, 1) := by decide +kernel
theorem dL_law_2312 : decode cL_law 2312 = .ok (.iload 5, 2) := by decide +kernel
theorem dL_law_2314 : decode cL_law 2314 = .ok (.iconst 1, 1) := by decide +kernel
theorem dL_law_2315 : decode cL_law 2315 = .ok (.iadd, 1) := by decide +kernel
theorem dL_law_2316 : decode cL_law 2316 = .ok (.iaload, 1) := by decide +kernel
theorem dL_law_2317 : decode cL_law 2317 = .ok (.aload_n 3, 1) := by decide +kernel
theorem dL_law_2318 : decode cL_law 2318 = .ok (.invokestatic 300, 3) := by decide +kernel
theorem dL_law_2321 : decode cL_law 2321 = .ok (.istore 6, 2) := by decide +kernel
theorem dL_law_2323 : decode cL_law 2323 = .ok (.aload_n 2, 1) := by decide +kernel
theorem dL_law_2324 : decode cL_law 2324 = .ok (.aload_n 0, 1) := by decide +kernel
theorem dL_law_2325 : decode cL_law 2325 = .ok (.iload 5, 2) := by decide +kernel
theorem dL_law_2327 : decode cL_law 2327 = .ok (.iconst 1, 1) := by decide +kernel
theorem dL_law_2328 : decode cL_law 2328 = .ok (.iadd, 1) := by decide +kernel
theorem dL_law_2329 : decode cL_law 2329 = .ok (.iaload, 1) := by decide +kernel
theorem dL_law_2330 : decode cL_law 2330 = .ok (.invokevirtual 302, 3) := by decide +kernel
theorem dL_law_2333 : decode cL_law 2333 = .ok (.istore 7, 2) := by decide +kernel
theorem dL_law_2335 : decode cL_law 2335 = .ok (.aload_n 2, 1) := by decide +kernel
theorem dL_law_2336 : decode cL_law 2336 = .ok (.invokevirtual 179, 3) := by decide +kernel
theorem dL_law_2339 : decode cL_law 2339 = .ok (.iload 6, 2) := by decide +kernel
theorem dL_law_2341 : decode cL_law 2341 = .ok (.if_icmp .eq 5, 3) := by decide +kernel
theorem dL_law_2346 : decode cL_law 2346 = .ok (.iload 6, 2) := by decide +kernel
theorem dL_law_2348 : decode cL_law 2348 = .ok (.ifCond .ne 15, 3) := by decide +kernel
theorem dL_law_2363 : decode cL_law 2363 = .ok (.goto 758, 3) := by decide +kernel
theorem dL_law_2366 : decode cL_law 2366 = .ok (.aload_n 1, 1) := by decide +kernel
theorem dL_law_2367 : decode cL_law 2367 = .ok (.aload_n 0, 1) := by decide +kernel
theorem dL_law_2368 : decode cL_law 2368 = .ok (.iload 5, 2) := by decide +kernel
theorem dL_law_2370 : decode cL_law 2370 = .ok (.iconst 1, 1) := by decide +kernel
theorem dL_law_2371 : decode cL_law 2371 = .ok (.iadd, 1) := by decide +kernel
theorem dL_law_2372 : decode cL_law 2372 = .ok (.iaload, 1) := by decide +kernel
theorem dL_law_2373 : decode cL_law 2373 = .ok (.aload_n 3, 1) := by decide +kernel
theorem dL_law_2374 : decode cL_law 2374 = .ok (.invokestatic 303, 3) := by decide +kernel
theorem dL_law_2377 : decode cL_law 2377 = .ok (.istore 6, 2) := by decide +kernel
theorem dL_law_2379 : decode cL_law 2379 = .ok (.aload_n 2, 1) := by decide +kernel
theorem dL_law_2380 : decode cL_law 2380 = .ok (.aload_n 0, 1) := by decide +kernel
theorem dL_law_2381 : decode cL_law 2381 = .ok (.iload 5, 2) := by decide +kernel
theorem dL_law_2383 : decode cL_law 2383 = .ok (.iconst 1, 1) := by decide +kernel
theorem dL_law_2384 : decode cL_law 2384 = .ok (.iadd, 1) := by decide +kernel
theorem dL_law_2385 : decode cL_law 2385 = .ok (.iaload, 1) := by decide +kernel
theorem dL_law_2386 : decode cL_law 2386 = .ok (.invokevirtual 305, 3) := by decide +kernel
theorem dL_law_2389 : decode cL_law 2389 = .ok (.istore 7, 2) := by decide +kernel
theorem dL_law_2391 : decode cL_law 2391 = .ok (.aload_n 2, 1) := by decide +kernel
theorem dL_law_2392 : decode cL_law 2392 = .ok (.invokevirtual 179, 3) := by decide +kernel
theorem dL_law_2395 : decode cL_law 2395 = .ok (.iload 6, 2) := by decide +kernel
theorem dL_law_2397 : decode cL_law 2397 = .ok (.if_icmp .eq 5, 3) := by decide +kernel
theorem dL_law_2402 : decode cL_law 2402 = .ok (.iload 6, 2) := by decide +kernel
theorem dL_law_2404 : decode cL_law 2404 = .ok (.ifCond .ne 15, 3) := by decide +kernel
theorem dL_law_2419 : decode cL_law 2419 = .ok (.goto 702, 3) := by decide +kernel
theorem dL_law_2422 : decode cL_law 2422 = .ok (.aload_n 1, 1) := by decide +kernel
theorem dL_law_2423 : decode cL_law 2423 = .ok (.aload_n 0, 1) := by decide +kernel
theorem dL_law_2424 : decode cL_law 2424 = .ok (.iload 5, 2) := by decide +kernel
theorem dL_law_2426 : decode cL_law 2426 = .ok (.iconst 1, 1) := by decide +kernel
theorem dL_law_2427 : decode cL_law 2427 = .ok (.iadd, 1) := by decide +kernel
theorem dL_law_2428 : decode cL_law 2428 = .ok (.iaload, 1) := by decide +kernel
theorem dL_law_2429 : decode cL_law 2429 = .ok (.aload_n 3, 1) := by decide +kernel
theorem dL_law_2430 : decode cL_law 2430 = .ok (.invokestatic 306, 3) := by decide +kernel
theorem dL_law_2433 : decode cL_law 2433 = .ok (.istore 6, 2) := by decide +kernel
theorem dL_law_2435 : decode cL_law 2435 = .ok (.aload_n 2, 1) := by decide +kernel
theorem dL_law_2436 : decode cL_law 2436 = .ok (.aload_n 0, 1) := by decide +kernel
theorem dL_law_2437 : decode cL_law 2437 = .ok (.iload 5, 2) := by decide +kernel
theorem dL_law_2439 : decode cL_law 2439 = .ok (.iconst 1, 1) := by decide +kernel
theorem dL_law_2440 : decode cL_law 2440 = .ok (.iadd, 1) := by decide +kernel
theorem dL_law_2441 : decode cL_law 2441 = .ok (.iaload, 1) := by decide +kernel
theorem dL_law_2442 : decode cL_law 2442 = .ok (.invokevirtual 308, 3) := by decide +kernel
theorem dL_law_2445 : decode cL_law 2445 = .ok (.istore 7, 2) := by decide +kernel
theorem dL_law_2447 : decode cL_law 2447 = .ok (.aload_n 2, 1) := by decide +kernel
theorem dL_law_2448 : decode cL_law 2448 = .ok (.invokevirtual 179, 3) := by decide +kernel
theorem dL_law_2451 : decode cL_law 2451 = .ok (.iload 6, 2) := by decide +kernel
theorem dL_law_2453 : decode cL_law 2453 = .ok (.if_icmp .eq 5, 3) := by decide +kernel
theorem dL_law_2458 : decode cL_law 2458 = .ok (.iload 6, 2) := by decide +kernel
theorem dL_law_2460 : decode cL_law 2460 = .ok (.ifCond .ne 15, 3) := by decide +kernel
theorem dL_law_2475 : decode cL_law 2475 = .ok (.goto 646, 3) := by decide +kernel
theorem dL_law_2478 : decode cL_law 2478 = .ok (.aload_n 1, 1) := by decide +kernel
theorem dL_law_2479 : decode cL_law 2479 = .ok (.aload_n 0, 1) := by decide +kernel
theorem dL_law_2480 : decode cL_law 2480 = .ok (.iload 5, 2) := by decide +kernel
theorem dL_law_2482 : decode cL_law 2482 = .ok (.iconst 1, 1) := by decide +kernel
theorem dL_law_2483 : decode cL_law 2483 = .ok (.iadd, 1) := by decide +kernel
theorem dL_law_2484 : decode cL_law 2484 = .ok (.iaload, 1) := by decide +kernel
theorem dL_law_2485 : decode cL_law 2485 = .ok (.aload_n 3, 1) := by decide +kernel
theorem dL_law_2486 : decode cL_law 2486 = .ok (.invokestatic 309, 3) := by decide +kernel
theorem dL_law_2489 : decode cL_law 2489 = .ok (.istore 6, 2) := by decide +kernel
theorem dL_law_2491 : decode cL_law 2491 = .ok (.aload_n 2, 1) := by decide +kernel
theorem dL_law_2492 : decode cL_law 2492 = .ok (.aload_n 0, 1) := by decide +kernel
theorem dL_law_2493 : decode cL_law 2493 = .ok (.iload 5, 2) := by decide +kernel
theorem dL_law_2495 : decode cL_law 2495 = .ok (.iconst 1, 1) := by decide +kernel
theorem dL_law_2496 : decode cL_law 2496 = .ok (.iadd, 1) := by decide +kernel
theorem dL_law_2497 : decode cL_law 2497 = .ok (.iaload, 1) := by decide +kernel
theorem dL_law_2498 : decode cL_law 2498 = .ok (.invokevirtual 311, 3) := by decide +kernel
theorem dL_law_2501 : decode cL_law 2501 = .ok (.istore 7, 2) := by decide +kernel
theorem dL_law_2503 : decode cL_law 2503 = .ok (.aload_n 2, 1) := by decide +kernel
theorem dL_law_2504 : decode cL_law 2504 = .ok (.invokevirtual 179, 3) := by decide +kernel
theorem dL_law_2507 : decode cL_law 2507 = .ok (.iload 6, 2) := by decide +kernel
theorem dL_law_2509 : decode cL_law 2509 = .ok (.if_icmp .eq 5, 3) := by decide +kernel
theorem dL_law_2514 : decode cL_law 2514 = .ok (.iload 6, 2) := by decide +kernel
theorem dL_law_2516 : decode cL_law 2516 = .ok (.ifCond .ne 15, 3) := by decide +kernel
theorem dL_law_2531 : decode cL_law 2531 = .ok (.goto 590, 3) := by decide +kernel
theorem dL_law_2534 : decode cL_law 2534 = .ok (.aload_n 1, 1) := by decide +kernel
theorem dL_law_2535 : decode cL_law 2535 = .ok (.aload_n 3, 1) := by decide +kernel
theorem dL_law_2536 : decode cL_law 2536 = .ok (.invokestatic 312, 3) := by decide +kernel
theorem dL_law_2539 : decode cL_law 2539 = .ok (.istore 6, 2) := by decide +kernel
theorem dL_law_2541 : decode cL_law 2541 = .ok (.aload_n 2, 1) := by decide +kernel
theorem dL_law_2542 : decode cL_law 2542 = .ok (.invokevirtual 314, 3) := by decide +kernel
theorem dL_law_2545 : decode cL_law 2545 = .ok (.istore 7, 2) := by decide +kernel
theorem dL_law_2547 : decode cL_law 2547 = .ok (.aload_n 2, 1) := by decide +kernel
theorem dL_law_2548 : decode cL_law 2548 = .ok (.invokevirtual 179, 3) := by decide +kernel
theorem dL_law_2551 : decode cL_law 2551 = .ok (.iload 6, 2) := by decide +kernel
theorem dL_law_2553 : decode cL_law 2553 = .ok (.if_icmp .eq 5, 3) := by decide +kernel
theorem dL_law_2558 : decode cL_law 2558 = .ok (.iload 6, 2) := by decide +kernel
theorem dL_law_2560 : decode cL_law 2560 = .ok (.ifCond .ne 15, 3) := by decide +kernel
theorem dL_law_2563 : decode cL_law 2563 = .ok (.aload_n 3, 1) := by decide +kernel
theorem dL_law_2564 : decode cL_law 2564 = .ok (.iconst 0, 1) := by decide +kernel
theorem dL_law_2565 : decode cL_law 2565 = .ok (.laload, 1) := by decide +kernel
theorem dL_law_2566 : decode cL_law 2566 = .ok (.iload 7, 2) := by decide +kernel
theorem dL_law_2568 : decode cL_law 2568 = .ok (.i2l, 1) := by decide +kernel
theorem dL_law_2569 : decode cL_law 2569 = .ok (.lcmp, 1) := by decide +kernel
theorem dL_law_2570 : decode cL_law 2570 = .ok (.ifCond .eq 5, 3) := by decide +kernel
theorem dL_law_2575 : decode cL_law 2575 = .ok (.goto 546, 3) := by decide +kernel
theorem dL_law_2578 : decode cL_law 2578 = .ok (.aload_n 1, 1) := by decide +kernel
theorem dL_law_2579 : decode cL_law 2579 = .ok (.aload_n 0, 1) := by decide +kernel
theorem dL_law_2580 : decode cL_law 2580 = .ok (.iload 5, 2) := by decide +kernel
theorem dL_law_2582 : decode cL_law 2582 = .ok (.iconst 1, 1) := by decide +kernel
theorem dL_law_2583 : decode cL_law 2583 = .ok (.iadd, 1) := by decide +kernel
theorem dL_law_2584 : decode cL_law 2584 = .ok (.iaload, 1) := by decide +kernel
theorem dL_law_2585 : decode cL_law 2585 = .ok (.aload_n 3, 1) := by decide +kernel
theorem dL_law_2586 : decode cL_law 2586 = .ok (.invokestatic 315, 3) := by decide +kernel
theorem dL_law_2589 : decode cL_law 2589 = .ok (.istore 6, 2) := by decide +kernel
theorem dL_law_2591 : decode cL_law 2591 = .ok (.aload_n 2, 1) := by decide +kernel
theorem dL_law_2592 : decode cL_law 2592 = .ok (.aload_n 0, 1) := by decide +kernel
theorem dL_law_2593 : decode cL_law 2593 = .ok (.iload 5, 2) := by decide +kernel
theorem dL_law_2595 : decode cL_law 2595 = .ok (.iconst 1, 1) := by decide +kernel
theorem dL_law_2596 : decode cL_law 2596 = .ok (.iadd, 1) := by decide +kernel
theorem dL_law_2597 : decode cL_law 2597 = .ok (.iaload, 1) := by decide +kernel
theorem dL_law_2598 : decode cL_law 2598 = .ok (.invokevirtual 317, 3) := by decide +kernel
theorem dL_law_2601 : decode cL_law 2601 = .ok (.istore 7, 2) := by decide +kernel
theorem dL_law_2603 : decode cL_law 2603 = .ok (.aload_n 2, 1) := by decide +kernel
theorem dL_law_2604 : decode cL_law 2604 = .ok (.invokevirtual 179, 3) := by decide +kernel
theorem dL_law_2607 : decode cL_law 2607 = .ok (.iload 6, 2) := by decide +kernel
theorem dL_law_2609 : decode cL_law 2609 = .ok (.if_icmp .eq 5, 3) := by decide +kernel
theorem dL_law_2614 : decode cL_law 2614 = .ok (.iload 6, 2) := by decide +kernel
theorem dL_law_2616 : decode cL_law 2616 = .ok (.ifCond .ne 15, 3) := by decide +kernel
theorem dL_law_2631 : decode cL_law 2631 = .ok (.goto 490, 3) := by decide +kernel
theorem dL_law_2634 : decode cL_law 2634 = .ok (.aload_n 1, 1) := by decide +kernel
theorem dL_law_2635 : decode cL_law 2635 = .ok (.aload_n 3, 1) := by decide +kernel
theorem dL_law_2636 : decode cL_law 2636 = .ok (.invokestatic 318, 3) := by decide +kernel
theorem dL_law_2639 : decode cL_law 2639 = .ok (.istore 6, 2) := by decide +kernel
theorem dL_law_2641 : decode cL_law 2641 = .ok (.aload_n 2, 1) := by decide +kernel
theorem dL_law_2642 : decode cL_law 2642 = .ok (.invokevirtual 320, 3) := by decide +kernel
theorem dL_law_2645 : decode cL_law 2645 = .ok (.istore 7, 2) := by decide +kernel
theorem dL_law_2647 : decode cL_law 2647 = .ok (.aload_n 2, 1) := by decide +kernel
theorem dL_law_2648 : decode cL_law 2648 = .ok (.invokevirtual 179, 3) := by decide +kernel
theorem dL_law_2651 : decode cL_law 2651 = .ok (.iload 6, 2) := by decide +kernel
theorem dL_law_2653 : decode cL_law 2653 = .ok (.if_icmp .eq 5, 3) := by decide +kernel
theorem dL_law_2658 : decode cL_law 2658 = .ok (.iload 6, 2) := by decide +kernel
theorem dL_law_2660 : decode cL_law 2660 = .ok (.ifCond .ne 15, 3) := by decide +kernel
theorem dL_law_2663 : decode cL_law 2663 = .ok (.aload_n 3, 1) := by decide +kernel
theorem dL_law_2664 : decode cL_law 2664 = .ok (.iconst 0, 1) := by decide +kernel
theorem dL_law_2665 : decode cL_law 2665 = .ok (.laload, 1) := by decide +kernel
theorem dL_law_2666 : decode cL_law 2666 = .ok (.iload 7, 2) := by decide +kernel
theorem dL_law_2668 : decode cL_law 2668 = .ok (.i2l, 1) := by decide +kernel
theorem dL_law_2669 : decode cL_law 2669 = .ok (.lcmp, 1) := by decide +kernel
theorem dL_law_2670 : decode cL_law 2670 = .ok (.ifCond .eq 5, 3) := by decide +kernel
theorem dL_law_2675 : decode cL_law 2675 = .ok (.goto 446, 3) := by decide +kernel
theorem dL_law_2678 : decode cL_law 2678 = .ok (.aload_n 1, 1) := by decide +kernel
theorem dL_law_2679 : decode cL_law 2679 = .ok (.aload_n 0, 1) := by decide +kernel
theorem dL_law_2680 : decode cL_law 2680 = .ok (.iload 5, 2) := by decide +kernel
theorem dL_law_2682 : decode cL_law 2682 = .ok (.iconst 1, 1) := by decide +kernel
theorem dL_law_2683 : decode cL_law 2683 = .ok (.iadd, 1) := by decide +kernel
theorem dL_law_2684 : decode cL_law 2684 = .ok (.iaload, 1) := by decide +kernel
theorem dL_law_2685 : decode cL_law 2685 = .ok (.aload_n 3, 1) := by decide +kernel
theorem dL_law_2686 : decode cL_law 2686 = .ok (.invokestatic 321, 3) := by decide +kernel
theorem dL_law_2689 : decode cL_law 2689 = .ok (.istore 6, 2) := by decide +kernel
theorem dL_law_2691 : decode cL_law 2691 = .ok (.aload_n 2, 1) := by decide +kernel
theorem dL_law_2692 : decode cL_law 2692 = .ok (.aload_n 0, 1) := by decide +kernel
theorem dL_law_2693 : decode cL_law 2693 = .ok (.iload 5, 2) := by decide +kernel
theorem dL_law_2695 : decode cL_law 2695 = .ok (.iconst 1, 1) := by decide +kernel
theorem dL_law_2696 : decode cL_law 2696 = .ok (.iadd, 1) := by decide +kernel
theorem dL_law_2697 : decode cL_law 2697 = .ok (.iaload, 1) := by decide +kernel
theorem dL_law_2698 : decode cL_law 2698 = .ok (.invokevirtual 323, 3) := by decide +kernel
theorem dL_law_2701 : decode cL_law 2701 = .ok (.istore 7, 2) := by decide +kernel
theorem dL_law_2703 : decode cL_law 2703 = .ok (.aload_n 2, 1) := by decide +kernel
theorem dL_law_2704 : decode cL_law 2704 = .ok (.invokevirtual 179, 3) := by decide +kernel
theorem dL_law_2707 : decode cL_law 2707 = .ok (.iload 6, 2) := by decide +kernel
theorem dL_law_2709 : decode cL_law 2709 = .ok (.if_icmp .eq 5, 3) := by decide +kernel
theorem dL_law_2714 : decode cL_law 2714 = .ok (.iload 6, 2) := by decide +kernel
theorem dL_law_2716 : decode cL_law 2716 = .ok (.ifCond .ne 15, 3) := by decide +kernel
theorem dL_law_2731 : decode cL_law 2731 = .ok (.goto 390, 3) := by decide +kernel
theorem dL_law_2734 : decode cL_law 2734 = .ok (.aload_n 1, 1) := by decide +kernel
theorem dL_law_2735 : decode cL_law 2735 = .ok (.aload_n 0, 1) := by decide +kernel
theorem dL_law_2736 : decode cL_law 2736 = .ok (.iload 5, 2) := by decide +kernel
theorem dL_law_2738 : decode cL_law 2738 = .ok (.iconst 1, 1) := by decide +kernel
theorem dL_law_2739 : decode cL_law 2739 = .ok (.iadd, 1) := by decide +kernel
theorem dL_law_2740 : decode cL_law 2740 = .ok (.iaload, 1) := by decide +kernel
theorem dL_law_2741 : decode cL_law 2741 = .ok (.aload_n 3, 1) := by decide +kernel
theorem dL_law_2742 : decode cL_law 2742 = .ok (.invokestatic 324, 3) := by decide +kernel
theorem dL_law_2745 : decode cL_law 2745 = .ok (.istore 6, 2) := by decide +kernel
theorem dL_law_2747 : decode cL_law 2747 = .ok (.aload_n 2, 1) := by decide +kernel
theorem dL_law_2748 : decode cL_law 2748 = .ok (.aload_n 0, 1) := by decide +kernel
theorem dL_law_2749 : decode cL_law 2749 = .ok (.iload 5, 2) := by decide +kernel
theorem dL_law_2751 : decode cL_law 2751 = .ok (.iconst 1, 1) := by decide +kernel
theorem dL_law_2752 : decode cL_law 2752 = .ok (.iadd, 1) := by decide +kernel
theorem dL_law_2753 : decode cL_law 2753 = .ok (.iaload, 1) := by decide +kernel
theorem dL_law_2754 : decode cL_law 2754 = .ok (.invokevirtual 326, 3) := by decide +kernel
theorem dL_law_2757 : decode cL_law 2757 = .ok (.istore 7, 2) := by decide +kernel
theorem dL_law_2759 : decode cL_law 2759 = .ok (.aload_n 2, 1) := by decide +kernel
theorem dL_law_2760 : decode cL_law 2760 = .ok (.invokevirtual 179, 3) := by decide +kernel
theorem dL_law_2763 : decode cL_law 2763 = .ok (.iload 6, 2) := by decide +kernel
theorem dL_law_2765 : decode cL_law 2765 = .ok (.if_icmp .eq 5, 3) := by decide +kernel
theorem dL_law_2770 : decode cL_law 2770 = .ok (.iload 6, 2) := by decide +kernel
theorem dL_law_2772 : decode cL_law 2772 = .ok (.ifCond .ne 15, 3) := by decide +kernel
theorem dL_law_2787 : decode cL_law 2787 = .ok (.goto 334, 3) := by decide +kernel
theorem dL_law_2790 : decode cL_law 2790 = .ok (.aload_n 1, 1) := by decide +kernel
theorem dL_law_2791 : decode cL_law 2791 = .ok (.aload_n 0, 1) := by decide +kernel
theorem dL_law_2792 : decode cL_law 2792 = .ok (.iload 5, 2) := by decide +kernel
theorem dL_law_2794 : decode cL_law 2794 = .ok (.iconst 1, 1) := by decide +kernel
theorem dL_law_2795 : decode cL_law 2795 = .ok (.iadd, 1) := by decide +kernel
theorem dL_law_2796 : decode cL_law 2796 = .ok (.iaload, 1) := by decide +kernel
theorem dL_law_2797 : decode cL_law 2797 = .ok (.aload_n 0, 1) := by decide +kernel
theorem dL_law_2798 : decode cL_law 2798 = .ok (.iload 5, 2) := by decide +kernel
theorem dL_law_2800 : decode cL_law 2800 = .ok (.iconst 2, 1) := by decide +kernel
theorem dL_law_2801 : decode cL_law 2801 = .ok (.iadd, 1) := by decide +kernel
theorem dL_law_2802 : decode cL_law 2802 = .ok (.iaload, 1) := by decide +kernel
theorem dL_law_2803 : decode cL_law 2803 = .ok (.aload_n 0, 1) := by decide +kernel
theorem dL_law_2804 : decode cL_law 2804 = .ok (.iload 5, 2) := by decide +kernel
theorem dL_law_2806 : decode cL_law 2806 = .ok (.iconst 3, 1) := by decide +kernel
theorem dL_law_2807 : decode cL_law 2807 = .ok (.iadd, 1) := by decide +kernel
theorem dL_law_2808 : decode cL_law 2808 = .ok (.iaload, 1) := by decide +kernel
theorem dL_law_2809 : decode cL_law 2809 = .ok (.ifCond .eq 7, 3) := by decide +kernel
theorem dL_law_2812 : decode cL_law 2812 = .ok (.iconst 1, 1) := by decide +kernel
theorem dL_law_2813 : decode cL_law 2813 = .ok (.goto 4, 3) := by decide +kernel
theorem dL_law_2816 : decode cL_law 2816 = .ok (.iconst 0, 1) := by decide +kernel
theorem dL_law_2817 : decode cL_law 2817 = .ok (.aload_n 3, 1) := by decide +kernel
theorem dL_law_2818 : decode cL_law 2818 = .ok (.invokestatic 327, 3) := by decide +kernel
theorem dL_law_2821 : decode cL_law 2821 = .ok (.istore 6, 2) := by decide +kernel
theorem dL_law_2823 : decode cL_law 2823 = .ok (.aload_n 2, 1) := by decide +kernel
theorem dL_law_2824 : decode cL_law 2824 = .ok (.aload_n 0, 1) := by decide +kernel
theorem dL_law_2825 : decode cL_law 2825 = .ok (.iload 5, 2) := by decide +kernel
theorem dL_law_2827 : decode cL_law 2827 = .ok (.iconst 1, 1) := by decide +kernel
theorem dL_law_2828 : decode cL_law 2828 = .ok (.iadd, 1) := by decide +kernel
theorem dL_law_2829 : decode cL_law 2829 = .ok (.iaload, 1) := by decide +kernel
theorem dL_law_2830 : decode cL_law 2830 = .ok (.aload_n 0, 1) := by decide +kernel
theorem dL_law_2831 : decode cL_law 2831 = .ok (.iload 5, 2) := by decide +kernel
theorem dL_law_2833 : decode cL_law 2833 = .ok (.iconst 2, 1) := by decide +kernel
theorem dL_law_2834 : decode cL_law 2834 = .ok (.iadd, 1) := by decide +kernel
theorem dL_law_2835 : decode cL_law 2835 = .ok (.iaload, 1) := by decide +kernel
theorem dL_law_2836 : decode cL_law 2836 = .ok (.aload_n 0, 1) := by decide +kernel
theorem dL_law_2837 : decode cL_law 2837 = .ok (.iload 5, 2) := by decide +kernel
theorem dL_law_2839 : decode cL_law 2839 = .ok (.iconst 3, 1) := by decide +kernel
theorem dL_law_2840 : decode cL_law 2840 = .ok (.iadd, 1) := by decide +kernel
theorem dL_law_2841 : decode cL_law 2841 = .ok (.iaload, 1) := by decide +kernel
theorem dL_law_2842 : decode cL_law 2842 = .ok (.ifCond .eq 7, 3) := by decide +kernel
theorem dL_law_2845 : decode cL_law 2845 = .ok (.iconst 1, 1) := by decide +kernel
theorem dL_law_2846 : decode cL_law 2846 = .ok (.goto 4, 3) := by decide +kernel
theorem dL_law_2849 : decode cL_law 2849 = .ok (.iconst 0, 1) := by decide +kernel
theorem dL_law_2850 : decode cL_law 2850 = .ok (.invokevirtual 330, 3) := by decide +kernel
theorem dL_law_2853 : decode cL_law 2853 = .ok (.istore 7, 2) := by decide +kernel
theorem dL_law_2855 : decode cL_law 2855 = .ok (.aload_n 2, 1) := by decide +kernel
theorem dL_law_2856 : decode cL_law 2856 = .ok (.invokevirtual 179, 3) := by decide +kernel
theorem dL_law_2859 : decode cL_law 2859 = .ok (.iload 6, 2) := by decide +kernel
theorem dL_law_2861 : decode cL_law 2861 = .ok (.if_icmp .eq 5, 3) := by decide +kernel
theorem dL_law_2866 : decode cL_law 2866 = .ok (.iload 6, 2) := by decide +kernel
theorem dL_law_2868 : decode cL_law 2868 = .ok (.ifCond .ne 22, 3) := by decide +kernel
theorem dL_law_2871 : decode cL_law 2871 = .ok (.aload_n 3, 1) := by decide +kernel
theorem dL_law_2872 : decode cL_law 2872 = .ok (.iconst 0, 1) := by decide +kernel
theorem dL_law_2873 : decode cL_law 2873 = .ok (.laload, 1) := by decide +kernel
theorem dL_law_2874 : decode cL_law 2874 = .ok (.iload 7, 2) := by decide +kernel
theorem dL_law_2876 : decode cL_law 2876 = .ok (.ifCond .eq 7, 3) := by decide +kernel
theorem dL_law_2883 : decode cL_law 2883 = .ok (.lconst 0, 1) := by decide +kernel
theorem dL_law_2884 : decode cL_law 2884 = .ok (.lcmp, 1) := by decide +kernel
theorem dL_law_2885 : decode cL_law 2885 = .ok (.ifCond .eq 5, 3) := by decide +kernel
theorem dL_law_2890 : decode cL_law 2890 = .ok (.goto 231, 3) := by decide +kernel
theorem dL_law_2893 : decode cL_law 2893 = .ok (.aload_n 1, 1) := by decide +kernel
theorem dL_law_2894 : decode cL_law 2894 = .ok (.aload_n 0, 1) := by decide +kernel
theorem dL_law_2895 : decode cL_law 2895 = .ok (.iload 5, 2) := by decide +kernel
theorem dL_law_2897 : decode cL_law 2897 = .ok (.iconst 1, 1) := by decide +kernel
theorem dL_law_2898 : decode cL_law 2898 = .ok (.iadd, 1) := by decide +kernel
theorem dL_law_2899 : decode cL_law 2899 = .ok (.iaload, 1) := by decide +kernel
theorem dL_law_2900 : decode cL_law 2900 = .ok (.aload_n 3, 1) := by decide +kernel
theorem dL_law_2901 : decode cL_law 2901 = .ok (.invokestatic 331, 3) := by decide +kernel
theorem dL_law_2904 : decode cL_law 2904 = .ok (.istore 6, 2) := by decide +kernel
theorem dL_law_2906 : decode cL_law 2906 = .ok (.aload_n 2, 1) := by decide +kernel
theorem dL_law_2907 : decode cL_law 2907 = .ok (.aload_n 0, 1) := by decide +kernel
theorem dL_law_2908 : decode cL_law 2908 = .ok (.iload 5, 2) := by decide +kernel
theorem dL_law_2910 : decode cL_law 2910 = .ok (.iconst 1, 1) := by decide +kernel
theorem dL_law_2911 : decode cL_law 2911 = .ok (.iadd, 1) := by decide +kernel
theorem dL_law_2912 : decode cL_law 2912 = .ok (.iaload, 1) := by decide +kernel
theorem dL_law_2913 : decode cL_law 2913 = .ok (.invokevirtual 333, 3) := by decide +kernel
theorem dL_law_2916 : decode cL_law 2916 = .ok (.istore 7, 2) := by decide +kernel
theorem dL_law_2918 : decode cL_law 2918 = .ok (.aload_n 2, 1) := by decide +kernel
theorem dL_law_2919 : decode cL_law 2919 = .ok (.invokevirtual 179, 3) := by decide +kernel
theorem dL_law_2922 : decode cL_law 2922 = .ok (.iload 6, 2) := by decide +kernel
theorem dL_law_2924 : decode cL_law 2924 = .ok (.if_icmp .eq 5, 3) := by decide +kernel
theorem dL_law_2929 : decode cL_law 2929 = .ok (.iload 6, 2) := by decide +kernel
theorem dL_law_2931 : decode cL_law 2931 = .ok (.ifCond .ne 15, 3) := by decide +kernel
theorem dL_law_2934 : decode cL_law 2934 = .ok (.aload_n 3, 1) := by decide +kernel
theorem dL_law_2935 : decode cL_law 2935 = .ok (.iconst 0, 1) := by decide +kernel
theorem dL_law_2936 : decode cL_law 2936 = .ok (.laload, 1) := by decide +kernel
theorem dL_law_2937 : decode cL_law 2937 = .ok (.iload 7, 2) := by decide +kernel
theorem dL_law_2939 : decode cL_law 2939 = .ok (.i2l, 1) := by decide +kernel
theorem dL_law_2940 : decode cL_law 2940 = .ok (.lcmp, 1) := by decide +kernel
theorem dL_law_2941 : decode cL_law 2941 = .ok (.ifCond .eq 5, 3) := by decide +kernel
theorem dL_law_2946 : decode cL_law 2946 = .ok (.goto 175, 3) := by decide +kernel
theorem dL_law_2949 : decode cL_law 2949 = .ok (.aload_n 1, 1) := by decide +kernel
theorem dL_law_2950 : decode cL_law 2950 = .ok (.aload_n 0, 1) := by decide +kernel
theorem dL_law_2951 : decode cL_law 2951 = .ok (.iload 5, 2) := by decide +kernel
theorem dL_law_2953 : decode cL_law 2953 = .ok (.iconst 1, 1) := by decide +kernel
theorem dL_law_2954 : decode cL_law 2954 = .ok (.iadd, 1) := by decide +kernel
theorem dL_law_2955 : decode cL_law 2955 = .ok (.iaload, 1) := by decide +kernel
theorem dL_law_2956 : decode cL_law 2956 = .ok (.i2c, 1) := by decide +kernel
theorem dL_law_2957 : decode cL_law 2957 = .ok (.aload 4, 2) := by decide +kernel
theorem dL_law_2959 : decode cL_law 2959 = .ok (.invokestatic 334, 3) := by decide +kernel
theorem dL_law_2962 : decode cL_law 2962 = .ok (.istore 6, 2) := by decide +kernel
theorem dL_law_2964 : decode cL_law 2964 = .ok (.aload_n 2, 1) := by decide +kernel
theorem dL_law_2965 : decode cL_law 2965 = .ok (.aload_n 0, 1) := by decide +kernel
theorem dL_law_2966 : decode cL_law 2966 = .ok (.iload 5, 2) := by decide +kernel
theorem dL_law_2968 : decode cL_law 2968 = .ok (.iconst 1, 1) := by decide +kernel
theorem dL_law_2969 : decode cL_law 2969 = .ok (.iadd, 1) := by decide +kernel
theorem dL_law_2970 : decode cL_law 2970 = .ok (.iaload, 1) := by decide +kernel
theorem dL_law_2971 : decode cL_law 2971 = .ok (.i2c, 1) := by decide +kernel
theorem dL_law_2972 : decode cL_law 2972 = .ok (.invokevirtual 337, 3) := by decide +kernel
theorem dL_law_2975 : decode cL_law 2975 = .ok (.dstore 7, 2) := by decide +kernel
theorem dL_law_2977 : decode cL_law 2977 = .ok (.aload_n 2, 1) := by decide +kernel
theorem dL_law_2978 : decode cL_law 2978 = .ok (.invokevirtual 179, 3) := by decide +kernel
theorem dL_law_2981 : decode cL_law 2981 = .ok (.iload 6, 2) := by decide +kernel
theorem dL_law_2983 : decode cL_law 2983 = .ok (.if_icmp .eq 5, 3) := by decide +kernel
theorem dL_law_2988 : decode cL_law 2988 = .ok (.iload 6, 2) := by decide +kernel
theorem dL_law_2990 : decode cL_law 2990 = .ok (.ifCond .ne 35, 3) := by decide +kernel
theorem dL_law_3025 : decode cL_law 3025 = .ok (.goto 96, 3) := by decide +kernel
theorem dL_law_3028 : decode cL_law 3028 = .ok (.aload_n 1, 1) := by decide +kernel
theorem dL_law_3029 : decode cL_law 3029 = .ok (.aload 4, 2) := by decide +kernel
theorem dL_law_3031 : decode cL_law 3031 = .ok (.invokestatic 338, 3) := by decide +kernel
theorem dL_law_3034 : decode cL_law 3034 = .ok (.istore 6, 2) := by decide +kernel
theorem dL_law_3036 : decode cL_law 3036 = .ok (.aload_n 2, 1) := by decide +kernel
theorem dL_law_3037 : decode cL_law 3037 = .ok (.invokevirtual 341, 3) := by decide +kernel
theorem dL_law_3040 : decode cL_law 3040 = .ok (.fstore 7, 2) := by decide +kernel
theorem dL_law_3042 : decode cL_law 3042 = .ok (.aload_n 2, 1) := by decide +kernel
theorem dL_law_3043 : decode cL_law 3043 = .ok (.invokevirtual 179, 3) := by decide +kernel
theorem dL_law_3046 : decode cL_law 3046 = .ok (.iload 6, 2) := by decide +kernel
theorem dL_law_3048 : decode cL_law 3048 = .ok (.if_icmp .eq 5, 3) := by decide +kernel
theorem dL_law_3053 : decode cL_law 3053 = .ok (.iload 6, 2) := by decide +kernel
theorem dL_law_3055 : decode cL_law 3055 = .ok (.ifCond .ne 36, 3) := by decide +kernel
theorem dL_law_3091 : decode cL_law 3091 = .ok (.goto 30, 3) := by decide +kernel
theorem dL_law_3094 : decode cL_law 3094 = .ok (.aload_n 1, 1) := by decide +kernel
theorem dL_law_3095 : decode cL_law 3095 = .ok (.invokevirtual 342, 3) := by decide +kernel
theorem dL_law_3098 : decode cL_law 3098 = .ok (.aload_n 2, 1) := by decide +kernel
theorem dL_law_3099 : decode cL_law 3099 = .ok (.invokevirtual 346, 3) := by decide +kernel
theorem dL_law_3102 : decode cL_law 3102 = .ok (.lcmp, 1) := by decide +kernel
theorem dL_law_3103 : decode cL_law 3103 = .ok (.ifCond .eq 18, 3) := by decide +kernel
theorem dL_law_3108 : decode cL_law 3108 = .ok (.aload_n 1, 1) := by decide +kernel
theorem dL_law_3109 : decode cL_law 3109 = .ok (.invokevirtual 347, 3) := by decide +kernel
theorem dL_law_3112 : decode cL_law 3112 = .ok (.aload_n 2, 1) := by decide +kernel
theorem dL_law_3113 : decode cL_law 3113 = .ok (.invokevirtual 350, 3) := by decide +kernel
theorem dL_law_3116 : decode cL_law 3116 = .ok (.if_icmp .eq 5, 3) := by decide +kernel
theorem dL_law_3121 : decode cL_law 3121 = .ok (.iinc 5 4, 3) := by decide +kernel
theorem dL_law_3124 : decode cL_law 3124 = .ok (.goto (-3096), 3) := by decide +kernel
theorem dL_law_3127 : decode cL_law 3127 = .ok (.iconst 1, 1) := by decide +kernel
theorem dL_law_3128 : decode cL_law 3128 = .ok (.ireturn, 1) := by decide +kernel
theorem dL_least_0 : decode cL_least 0 = .ok (.aload_n 3, 1) := by decide +kernel
theorem dL_least_1 : decode cL_least 1 = .ok (.iconst 0, 1) := by decide +kernel
theorem dL_least_2 : decode cL_least 2 = .ok (.aload_n 0, 1) := by decide +kernel
theorem dL_least_3 : decode cL_least 3 = .ok (.iload_n 1, 1) := by decide +kernel
theorem dL_least_4 : decode cL_least 4 = .ok (.iload_n 2, 1) := by decide +kernel
theorem dL_least_5 : decode cL_least 5 = .ok (.invokevirtual 26, 3) := by decide +kernel
theorem dL_least_13 : decode cL_least 13 = .ok (.astore 4, 2) := by decide +kernel
theorem dL_least_15 : decode cL_least 15 = .ok (.iconst 1, 1) := by decide +kernel
theorem dL_least_16 : decode cL_least 16 = .ok (.ireturn, 1) := by decide +kernel
theorem dL_length_0 : decode cL_length 0 = .ok (.aload_n 3, 1) := by decide +kernel
theorem dL_length_1 : decode cL_length 1 = .ok (.iconst 0, 1) := by decide +kernel
theorem dL_length_2 : decode cL_length 2 = .ok (.aload_n 0, 1) := by decide +kernel
theorem dL_length_3 : decode cL_length 3 = .ok (.iload_n 1, 1) := by decide +kernel
theorem dL_length_4 : decode cL_length 4 = .ok (.iload_n 2, 1) := by decide +kernel
theorem dL_length_5 : decode cL_length 5 = .ok (.invokevirtual 42, 3) := by decide +kernel
theorem dL_length_13 : decode cL_length 13 = .ok (.astore 4, 2) := by decide +kernel
theorem dL_length_15 : decode cL_length 15 = .ok (.iconst 1, 1) := by decide +kernel
theorem dL_length_16 : decode cL_length 16 = .ok (.ireturn, 1) := by decide +kernel
theorem dL_length_17 : decode cL_length 17 = .ok (.astore 4, 2) := by decide +kernel
theorem dL_length_19 : decode cL_length 19 = .ok (.iconst 2, 1) := by decide +kernel
theorem dL_length_20 : decode cL_length 20 = .ok (.ireturn, 1) := by decide +kernel
theorem dL_lie_0 : decode cL_lie 0 = .ok (.aload_n 2, 1) := by decide +kernel
theorem dL_lie_1 : decode cL_lie 1 = .ok (.iconst 0, 1) := by decide +kernel
theorem dL_lie_2 : decode cL_lie 2 = .ok (.aload_n 0, 1) := by decide +kernel
theorem dL_lie_3 : decode cL_lie 3 = .ok (.iload_n 1, 1) := by decide +kernel
theorem dL_lie_4 : decode cL_lie 4 = .ok (.invokevirtual 128, 3) := by decide +kernel
theorem dL_lie_12 : decode cL_lie 12 = .ok (.astore_n 3, 1) := by decide +kernel
theorem dL_lie_13 : decode cL_lie 13 = .ok (.iconst 1, 1) := by decide +kernel
theorem dL_lie_14 : decode cL_lie 14 = .ok (.ireturn, 1) := by decide +kernel
theorem dL_many_0 : decode cL_many 0 = .ok (.aload_n 2, 1) := by decide +kernel
theorem dL_many_1 : decode cL_many 1 = .ok (.iconst 0, 1) := by decide +kernel
theorem dL_many_2 : decode cL_many 2 = .ok (.aload_n 0, 1) := by decide +kernel
theorem dL_many_3 : decode cL_many 3 = .ok (.iload_n 1, 1) := by decide +kernel
theorem dL_many_4 : decode cL_many 4 = .ok (.invokevirtual 17, 3) := by decide +kernel
theorem dL_many_7 : decode cL_many 7 = .ok (.i2l, 1) := by decide +kernel
theorem dL_many_8 : decode cL_many 8 = .ok (.lastore, 1) := by decide +kernel
theorem dL_many_9 : decode cL_many 9 = .ok (.goto 6, 3) := by decide +kernel
theorem dL_many_12 : decode cL_many 12 = .ok (.astore_n 3, 1) := by decide +kernel
theorem dL_many_13 : decode cL_many 13 = .ok (.iconst 1, 1) := by decide +kernel
theorem dL_many_14 : decode cL_many 14 = .ok (.ireturn, 1) := by decide +kernel
theorem dL_many_15 : decode cL_many 15 = .ok (.iconst 0, 1) := by decide +kernel
theorem dL_many_16 : decode cL_many 16 = .ok (.ireturn, 1) := by decide +kernel
theorem dL_meanRank_0 : decode cL_meanRank 0 = .ok (.aload_n 2, 1) := by decide +kernel
theorem dL_meanRank_1 : decode cL_meanRank 1 = .ok (.iconst 0, 1) := by decide +kernel
theorem dL_meanRank_2 : decode cL_meanRank 2 = .ok (.aload_n 0, 1) := by decide +kernel
theorem dL_meanRank_3 : decode cL_meanRank 3 = .ok (.iload_n 1, 1) := by decide +kernel
theorem dL_meanRank_4 : decode cL_meanRank 4 = .ok (.invokevirtual 159, 3) := by decide +kernel
theorem dL_meanRank_11 : decode cL_meanRank 11 = .ok (.astore_n 3, 1) := by decide +kernel
theorem dL_meanRank_12 : decode cL_meanRank 12 = .ok (.iconst 1, 1) := by decide +kernel
theorem dL_meanRank_13 : decode cL_meanRank 13 = .ok (.ireturn, 1) := by decide +kernel
theorem dL_meanRank_14 : decode cL_meanRank 14 = .ok (.astore_n 3, 1) := by decide +kernel
theorem dL_meanRank_15 : decode cL_meanRank 15 = .ok (.iconst 2, 1) := by decide +kernel
theorem dL_meanRank_16 : decode cL_meanRank 16 = .ok (.ireturn, 1) := by decide +kernel
theorem dL_offer_0 : decode cL_offer 0 = .ok (.aload_n 2, 1) := by decide +kernel
theorem dL_offer_1 : decode cL_offer 1 = .ok (.iconst 0, 1) := by decide +kernel
theorem dL_offer_2 : decode cL_offer 2 = .ok (.aload_n 0, 1) := by decide +kernel
theorem dL_offer_3 : decode cL_offer 3 = .ok (.iload_n 1, 1) := by decide +kernel
theorem dL_offer_4 : decode cL_offer 4 = .ok (.invokevirtual 58, 3) := by decide +kernel
theorem dL_offer_12 : decode cL_offer 12 = .ok (.astore_n 3, 1) := by decide +kernel
theorem dL_offer_13 : decode cL_offer 13 = .ok (.iconst 1, 1) := by decide +kernel
theorem dL_offer_14 : decode cL_offer 14 = .ok (.ireturn, 1) := by decide +kernel
theorem dL_offerAt_0 : decode cL_offerAt 0 = .ok (.aload_n 2, 1) := by decide +kernel
theorem dL_offerAt_1 : decode cL_offerAt 1 = .ok (.iconst 0, 1) := by decide +kernel
theorem dL_offerAt_2 : decode cL_offerAt 2 = .ok (.aload_n 0, 1) := by decide +kernel
theorem dL_offerAt_3 : decode cL_offerAt 3 = .ok (.iload_n 1, 1) := by decide +kernel
theorem dL_offerAt_4 : decode cL_offerAt 4 = .ok (.invokevirtual 70, 3) := by decide +kernel
theorem dL_offerAt_12 : decode cL_offerAt 12 = .ok (.astore_n 3, 1) := by decide +kernel
theorem dL_offerAt_13 : decode cL_offerAt 13 = .ok (.iconst 1, 1) := by decide +kernel
theorem dL_offerAt_14 : decode cL_offerAt 14 = .ok (.ireturn, 1) := by decide +kernel
theorem dL_open_0 : decode cL_open 0 = .ok (.aload_n 1, 1) := by decide +kernel
theorem dL_open_1 : decode cL_open 1 = .ok (.iconst 0, 1) := by decide +kernel
theorem dL_open_2 : decode cL_open 2 = .ok (.aload_n 0, 1) := by decide +kernel
theorem dL_open_3 : decode cL_open 3 = .ok (.invokevirtual 63, 3) := by decide +kernel
theorem dL_open_11 : decode cL_open 11 = .ok (.astore_n 2, 1) := by decide +kernel
theorem dL_open_12 : decode cL_open 12 = .ok (.iconst 1, 1) := by decide +kernel
theorem dL_open_13 : decode cL_open 13 = .ok (.ireturn, 1) := by decide +kernel
theorem dL_pair_0 : decode cL_pair 0 = .ok (.aload_n 3, 1) := by decide +kernel
theorem dL_pair_1 : decode cL_pair 1 = .ok (.iconst 0, 1) := by decide +kernel
theorem dL_pair_2 : decode cL_pair 2 = .ok (.aload_n 0, 1) := by decide +kernel
theorem dL_pair_3 : decode cL_pair 3 = .ok (.iload_n 1, 1) := by decide +kernel
theorem dL_pair_4 : decode cL_pair 4 = .ok (.iload_n 2, 1) := by decide +kernel
theorem dL_pair_5 : decode cL_pair 5 = .ok (.invokevirtual 77, 3) := by decide +kernel
theorem dL_pair_13 : decode cL_pair 13 = .ok (.astore 4, 2) := by decide +kernel
theorem dL_pair_15 : decode cL_pair 15 = .ok (.iconst 1, 1) := by decide +kernel
theorem dL_pair_16 : decode cL_pair 16 = .ok (.ireturn, 1) := by decide +kernel
theorem dL_pairedShare_0 : decode cL_pairedShare 0 = .ok (.aload_n 1, 1) := by decide +kernel
theorem dL_pairedShare_1 : decode cL_pairedShare 1 = .ok (.iconst 0, 1) := by decide +kernel
theorem dL_pairedShare_2 : decode cL_pairedShare 2 = .ok (.aload_n 0, 1) := by decide +kernel
theorem dL_pairedShare_3 : decode cL_pairedShare 3 = .ok (.invokevirtual 165, 3) := by decide +kernel
theorem dL_pairedShare_11 : decode cL_pairedShare 11 = .ok (.astore_n 2, 1) := by decide +kernel
theorem dL_pairedShare_12 : decode cL_pairedShare 12 = .ok (.iconst 1, 1) := by decide +kernel
theorem dL_pairedShare_13 : decode cL_pairedShare 13 = .ok (.ireturn, 1) := by decide +kernel
theorem dL_part_0 : decode cL_part 0 = .ok (.aload_n 2, 1) := by decide +kernel
theorem dL_part_1 : decode cL_part 1 = .ok (.iconst 0, 1) := by decide +kernel
theorem dL_part_2 : decode cL_part 2 = .ok (.aload_n 0, 1) := by decide +kernel
theorem dL_part_3 : decode cL_part 3 = .ok (.iload_n 1, 1) := by decide +kernel
theorem dL_part_4 : decode cL_part 4 = .ok (.invokevirtual 80, 3) := by decide +kernel
theorem dL_part_12 : decode cL_part 12 = .ok (.astore_n 3, 1) := by decide +kernel
theorem dL_part_13 : decode cL_part 13 = .ok (.iconst 1, 1) := by decide +kernel
theorem dL_part_14 : decode cL_part 14 = .ok (.ireturn, 1) := by decide +kernel
theorem dL_places_0 : decode cL_places 0 = .ok (.aload_n 3, 1) := by decide +kernel
theorem dL_places_1 : decode cL_places 1 = .ok (.iconst 0, 1) := by decide +kernel
theorem dL_places_2 : decode cL_places 2 = .ok (.aload_n 0, 1) := by decide +kernel
theorem dL_places_3 : decode cL_places 3 = .ok (.iload_n 1, 1) := by decide +kernel
theorem dL_places_4 : decode cL_places 4 = .ok (.iload_n 2, 1) := by decide +kernel
theorem dL_places_5 : decode cL_places 5 = .ok (.invokevirtual 20, 3) := by decide +kernel
theorem dL_places_13 : decode cL_places 13 = .ok (.astore 4, 2) := by decide +kernel
theorem dL_places_15 : decode cL_places 15 = .ok (.iconst 1, 1) := by decide +kernel
theorem dL_places_16 : decode cL_places 16 = .ok (.ireturn, 1) := by decide +kernel
theorem dL_rank_0 : decode cL_rank 0 = .ok (.aload 4, 2) := by decide +kernel
theorem dL_rank_2 : decode cL_rank 2 = .ok (.iconst 0, 1) := by decide +kernel
theorem dL_rank_3 : decode cL_rank 3 = .ok (.aload_n 0, 1) := by decide +kernel
theorem dL_rank_4 : decode cL_rank 4 = .ok (.iload_n 1, 1) := by decide +kernel
theorem dL_rank_5 : decode cL_rank 5 = .ok (.iload_n 2, 1) := by decide +kernel
theorem dL_rank_6 : decode cL_rank 6 = .ok (.iload_n 3, 1) := by decide +kernel
theorem dL_rank_7 : decode cL_rank 7 = .ok (.invokevirtual 49, 3) := by decide +kernel
theorem dL_rank_15 : decode cL_rank 15 = .ok (.astore 5, 2) := by decide +kernel
theorem dL_rank_17 : decode cL_rank 17 = .ok (.iconst 1, 1) := by decide +kernel
theorem dL_rank_18 : decode cL_rank 18 = .ok (.ireturn, 1) := by decide +kernel
theorem dL_rank_19 : decode cL_rank 19 = .ok (.astore 5, 2) := by decide +kernel
theorem dL_rank_21 : decode cL_rank 21 = .ok (.iconst 2, 1) := by decide +kernel
theorem dL_rank_22 : decode cL_rank 22 = .ok (.ireturn, 1) := by decide +kernel
theorem dL_read_0 : decode cL_read 0 = .ok (.aload_n 3, 1) := by decide +kernel
theorem dL_read_1 : decode cL_read 1 = .ok (.iconst 0, 1) := by decide +kernel
theorem dL_read_2 : decode cL_read 2 = .ok (.aload_n 0, 1) := by decide +kernel
theorem dL_read_3 : decode cL_read 3 = .ok (.iload_n 1, 1) := by decide +kernel
theorem dL_read_4 : decode cL_read 4 = .ok (.iload_n 2, 1) := by decide +kernel
theorem dL_read_5 : decode cL_read 5 = .ok (.invokevirtual 38, 3) := by decide +kernel
theorem dL_read_13 : decode cL_read 13 = .ok (.astore 4, 2) := by decide +kernel
theorem dL_read_15 : decode cL_read 15 = .ok (.iconst 1, 1) := by decide +kernel
theorem dL_read_16 : decode cL_read 16 = .ok (.ireturn, 1) := by decide +kernel
theorem dL_read_17 : decode cL_read 17 = .ok (.astore 4, 2) := by decide +kernel
theorem dL_read_19 : decode cL_read 19 = .ok (.iconst 2, 1) := by decide +kernel
theorem dL_read_20 : decode cL_read 20 = .ok (.ireturn, 1) := by decide +kernel
theorem dL_resultAt_0 : decode cL_resultAt 0 = .ok (.aload_n 2, 1) := by decide +kernel
theorem dL_resultAt_1 : decode cL_resultAt 1 = .ok (.iconst 0, 1) := by decide +kernel
theorem dL_resultAt_2 : decode cL_resultAt 2 = .ok (.aload_n 0, 1) := by decide +kernel
theorem dL_resultAt_3 : decode cL_resultAt 3 = .ok (.iload_n 1, 1) := by decide +kernel
theorem dL_resultAt_4 : decode cL_resultAt 4 = .ok (.invokevirtual 74, 3) := by decide +kernel
theorem dL_resultAt_12 : decode cL_resultAt 12 = .ok (.astore_n 3, 1) := by decide +kernel
theorem dL_resultAt_13 : decode cL_resultAt 13 = .ok (.iconst 1, 1) := by decide +kernel
theorem dL_resultAt_14 : decode cL_resultAt 14 = .ok (.ireturn, 1) := by decide +kernel
theorem dL_roomOf_0 : decode cL_roomOf 0 = .ok (.aload_n 2, 1) := by decide +kernel
theorem dL_roomOf_1 : decode cL_roomOf 1 = .ok (.iconst 0, 1) := by decide +kernel
theorem dL_roomOf_2 : decode cL_roomOf 2 = .ok (.aload_n 0, 1) := by decide +kernel
theorem dL_roomOf_3 : decode cL_roomOf 3 = .ok (.iload_n 1, 1) := by decide +kernel
theorem dL_roomOf_4 : decode cL_roomOf 4 = .ok (.invokevirtual 140, 3) := by decide +kernel
theorem dL_roomOf_12 : decode cL_roomOf 12 = .ok (.astore_n 3, 1) := by decide +kernel
theorem dL_roomOf_13 : decode cL_roomOf 13 = .ok (.iconst 1, 1) := by decide +kernel
theorem dL_roomOf_14 : decode cL_roomOf 14 = .ok (.ireturn, 1) := by decide +kernel
theorem dL_rooms_0 : decode cL_rooms 0 = .ok (.aload_n 1, 1) := by decide +kernel
theorem dL_rooms_1 : decode cL_rooms 1 = .ok (.iconst 0, 1) := by decide +kernel
theorem dL_rooms_2 : decode cL_rooms 2 = .ok (.aload_n 0, 1) := by decide +kernel
theorem dL_rooms_3 : decode cL_rooms 3 = .ok (.invokevirtual 137, 3) := by decide +kernel
theorem dL_rooms_6 : decode cL_rooms 6 = .ok (.i2l, 1) := by decide +kernel
theorem dL_rooms_7 : decode cL_rooms 7 = .ok (.lastore, 1) := by decide +kernel
theorem dL_rooms_8 : decode cL_rooms 8 = .ok (.goto 6, 3) := by decide +kernel
theorem dL_rooms_14 : decode cL_rooms 14 = .ok (.iconst 0, 1) := by decide +kernel
theorem dL_rooms_15 : decode cL_rooms 15 = .ok (.ireturn, 1) := by decide +kernel
theorem dL_rotationAt_0 : decode cL_rotationAt 0 = .ok (.aload_n 3, 1) := by decide +kernel
theorem dL_rotationAt_1 : decode cL_rotationAt 1 = .ok (.iconst 0, 1) := by decide +kernel
theorem dL_rotationAt_2 : decode cL_rotationAt 2 = .ok (.aload_n 0, 1) := by decide +kernel
theorem dL_rotationAt_3 : decode cL_rotationAt 3 = .ok (.iload_n 1, 1) := by decide +kernel
theorem dL_rotationAt_4 : decode cL_rotationAt 4 = .ok (.iload_n 2, 1) := by decide +kernel
theorem dL_rotationAt_5 : decode cL_rotationAt 5 = .ok (.invokevirtual 107, 3) := by decide +kernel
theorem dL_rotationAt_17 : decode cL_rotationAt 17 = .ok (.astore 4, 2) := by decide +kernel
theorem dL_rotationAt_19 : decode cL_rotationAt 19 = .ok (.iconst 2, 1) := by decide +kernel
theorem dL_rotationAt_20 : decode cL_rotationAt 20 = .ok (.ireturn, 1) := by decide +kernel
theorem dL_rotationLength_0 : decode cL_rotationLength 0 = .ok (.aload_n 2, 1) := by decide +kernel
theorem dL_rotationLength_1 : decode cL_rotationLength 1 = .ok (.iconst 0, 1) := by decide +kernel
theorem dL_rotationLength_2 : decode cL_rotationLength 2 = .ok (.aload_n 0, 1) := by decide +kernel
theorem dL_rotationLength_3 : decode cL_rotationLength 3 = .ok (.iload_n 1, 1) := by decide +kernel
theorem dL_rotationLength_4 : decode cL_rotationLength 4 = .ok (.invokevirtual 104, 3) := by decide +kernel
theorem dL_rotationLength_15 : decode cL_rotationLength 15 = .ok (.astore_n 3, 1) := by decide +kernel
theorem dL_rotationLength_16 : decode cL_rotationLength 16 = .ok (.iconst 2, 1) := by decide +kernel
theorem dL_rotationLength_17 : decode cL_rotationLength 17 = .ok (.ireturn, 1) := by decide +kernel
theorem dL_rotations_0 : decode cL_rotations 0 = .ok (.aload_n 1, 1) := by decide +kernel
theorem dL_rotations_1 : decode cL_rotations 1 = .ok (.iconst 0, 1) := by decide +kernel
theorem dL_rotations_2 : decode cL_rotations 2 = .ok (.aload_n 0, 1) := by decide +kernel
theorem dL_rotations_3 : decode cL_rotations 3 = .ok (.invokevirtual 101, 3) := by decide +kernel
theorem dL_rotations_6 : decode cL_rotations 6 = .ok (.i2l, 1) := by decide +kernel
theorem dL_rotations_7 : decode cL_rotations 7 = .ok (.lastore, 1) := by decide +kernel
theorem dL_rotations_8 : decode cL_rotations 8 = .ok (.goto 6, 3) := by decide +kernel
theorem dL_rotations_14 : decode cL_rotations 14 = .ok (.iconst 0, 1) := by decide +kernel
theorem dL_rotations_15 : decode cL_rotations 15 = .ok (.ireturn, 1) := by decide +kernel
theorem dL_run_0 : decode cL_run 0 = .ok (.aload_n 2, 1) := by decide +kernel
theorem dL_run_1 : decode cL_run 1 = .ok (.iconst 0, 1) := by decide +kernel
theorem dL_run_2 : decode cL_run 2 = .ok (.aload_n 0, 1) := by decide +kernel
theorem dL_run_3 : decode cL_run 3 = .ok (.iload_n 1, 1) := by decide +kernel
theorem dL_run_4 : decode cL_run 4 = .ok (.invokevirtual 67, 3) := by decide +kernel
theorem dL_run_7 : decode cL_run 7 = .ok (.i2l, 1) := by decide +kernel
theorem dL_run_8 : decode cL_run 8 = .ok (.lastore, 1) := by decide +kernel
theorem dL_run_9 : decode cL_run 9 = .ok (.goto 6, 3) := by decide +kernel
theorem dL_run_12 : decode cL_run 12 = .ok (.astore_n 3, 1) := by decide +kernel
theorem dL_run_13 : decode cL_run 13 = .ok (.iconst 1, 1) := by decide +kernel
theorem dL_run_14 : decode cL_run 14 = .ok (.ireturn, 1) := by decide +kernel
theorem dL_run_15 : decode cL_run 15 = .ok (.iconst 0, 1) := by decide +kernel
theorem dL_run_16 : decode cL_run 16 = .ok (.ireturn, 1) := by decide +kernel
theorem dL_signAt_0 : decode cL_signAt 0 = .ok (.aload_n 2, 1) := by decide +kernel
theorem dL_signAt_1 : decode cL_signAt 1 = .ok (.iconst 0, 1) := by decide +kernel
theorem dL_signAt_2 : decode cL_signAt 2 = .ok (.aload_n 0, 1) := by decide +kernel
theorem dL_signAt_3 : decode cL_signAt 3 = .ok (.iload_n 1, 1) := by decide +kernel
theorem dL_signAt_4 : decode cL_signAt 4 = .ok (.invokevirtual 32, 3) := by decide +kernel
theorem dL_signAt_12 : decode cL_signAt 12 = .ok (.astore_n 3, 1) := by decide +kernel
theorem dL_signAt_13 : decode cL_signAt 13 = .ok (.iconst 1, 1) := by decide +kernel
theorem dL_signAt_14 : decode cL_signAt 14 = .ok (.ireturn, 1) := by decide +kernel
theorem dL_stableAt_0 : decode cL_stableAt 0 = .ok (.aload_n 2, 1) := by decide +kernel
theorem dL_stableAt_1 : decode cL_stableAt 1 = .ok (.iconst 0, 1) := by decide +kernel
theorem dL_stableAt_2 : decode cL_stableAt 2 = .ok (.aload_n 0, 1) := by decide +kernel
theorem dL_stableAt_3 : decode cL_stableAt 3 = .ok (.iload_n 1, 1) := by decide +kernel
theorem dL_stableAt_4 : decode cL_stableAt 4 = .ok (.invokevirtual 116, 3) := by decide +kernel
theorem dL_stableAt_7 : decode cL_stableAt 7 = .ok (.i2l, 1) := by decide +kernel
theorem dL_stableAt_8 : decode cL_stableAt 8 = .ok (.lastore, 1) := by decide +kernel
theorem dL_stableAt_9 : decode cL_stableAt 9 = .ok (.goto 9, 3) := by decide +kernel
theorem dL_stableAt_15 : decode cL_stableAt 15 = .ok (.astore_n 3, 1) := by decide +kernel
theorem dL_stableAt_16 : decode cL_stableAt 16 = .ok (.iconst 2, 1) := by decide +kernel
theorem dL_stableAt_17 : decode cL_stableAt 17 = .ok (.ireturn, 1) := by decide +kernel
theorem dL_stableAt_18 : decode cL_stableAt 18 = .ok (.iconst 0, 1) := by decide +kernel
theorem dL_stableAt_19 : decode cL_stableAt 19 = .ok (.ireturn, 1) := by decide +kernel
theorem dL_stables_0 : decode cL_stables 0 = .ok (.aload_n 1, 1) := by decide +kernel
theorem dL_stables_1 : decode cL_stables 1 = .ok (.iconst 0, 1) := by decide +kernel
theorem dL_stables_2 : decode cL_stables 2 = .ok (.aload_n 0, 1) := by decide +kernel
theorem dL_stables_3 : decode cL_stables 3 = .ok (.invokevirtual 113, 3) := by decide +kernel
theorem dL_stables_6 : decode cL_stables 6 = .ok (.i2l, 1) := by decide +kernel
theorem dL_stables_7 : decode cL_stables 7 = .ok (.lastore, 1) := by decide +kernel
theorem dL_stables_8 : decode cL_stables 8 = .ok (.goto 6, 3) := by decide +kernel
theorem dL_stables_14 : decode cL_stables 14 = .ok (.iconst 0, 1) := by decide +kernel
theorem dL_stables_15 : decode cL_stables 15 = .ok (.ireturn, 1) := by decide +kernel
theorem dL_trade_0 : decode cL_trade 0 = .ok (.aload_n 1, 1) := by decide +kernel
theorem dL_trade_1 : decode cL_trade 1 = .ok (.iconst 0, 1) := by decide +kernel
theorem dL_trade_2 : decode cL_trade 2 = .ok (.aload_n 0, 1) := by decide +kernel
theorem dL_trade_3 : decode cL_trade 3 = .ok (.invokevirtual 143, 3) := by decide +kernel
theorem dL_trade_6 : decode cL_trade 6 = .ok (.i2l, 1) := by decide +kernel
theorem dL_trade_7 : decode cL_trade 7 = .ok (.lastore, 1) := by decide +kernel
theorem dL_trade_8 : decode cL_trade 8 = .ok (.goto 6, 3) := by decide +kernel
theorem dL_trade_14 : decode cL_trade 14 = .ok (.iconst 0, 1) := by decide +kernel
theorem dL_trade_15 : decode cL_trade 15 = .ok (.ireturn, 1) := by decide +kernel
theorem dL_tradeOf_0 : decode cL_tradeOf 0 = .ok (.aload_n 2, 1) := by decide +kernel
theorem dL_tradeOf_1 : decode cL_tradeOf 1 = .ok (.iconst 0, 1) := by decide +kernel
theorem dL_tradeOf_2 : decode cL_tradeOf 2 = .ok (.aload_n 0, 1) := by decide +kernel
theorem dL_tradeOf_3 : decode cL_tradeOf 3 = .ok (.iload_n 1, 1) := by decide +kernel
theorem dL_tradeOf_4 : decode cL_tradeOf 4 = .ok (.invokevirtual 146, 3) := by decide +kernel
theorem dL_tradeOf_12 : decode cL_tradeOf 12 = .ok (.astore_n 3, 1) := by decide +kernel
theorem dL_tradeOf_13 : decode cL_tradeOf 13 = .ok (.iconst 1, 1) := by decide +kernel
theorem dL_tradeOf_14 : decode cL_tradeOf 14 = .ok (.ireturn, 1) := by decide +kernel
theorem dL_tradeRound_0 : decode cL_tradeRound 0 = .ok (.aload_n 2, 1) := by decide +kernel
theorem dL_tradeRound_1 : decode cL_tradeRound 1 = .ok (.iconst 0, 1) := by decide +kernel
theorem dL_tradeRound_2 : decode cL_tradeRound 2 = .ok (.aload_n 0, 1) := by decide +kernel
theorem dL_tradeRound_3 : decode cL_tradeRound 3 = .ok (.iload_n 1, 1) := by decide +kernel
theorem dL_tradeRound_4 : decode cL_tradeRound 4 = .ok (.invokevirtual 149, 3) := by decide +kernel
theorem dL_tradeRound_12 : decode cL_tradeRound 12 = .ok (.astore_n 3, 1) := by decide +kernel
theorem dL_tradeRound_13 : decode cL_tradeRound 13 = .ok (.iconst 1, 1) := by decide +kernel
theorem dL_tradeRound_14 : decode cL_tradeRound 14 = .ok (.ireturn, 1) := by decide +kernel
theorem dL_turn_0 : decode cL_turn 0 = .ok (.aload_n 2, 1) := by decide +kernel
theorem dL_turn_1 : decode cL_turn 1 = .ok (.iconst 0, 1) := by decide +kernel
theorem dL_turn_2 : decode cL_turn 2 = .ok (.aload_n 0, 1) := by decide +kernel
theorem dL_turn_3 : decode cL_turn 3 = .ok (.iload_n 1, 1) := by decide +kernel
theorem dL_turn_4 : decode cL_turn 4 = .ok (.invokevirtual 110, 3) := by decide +kernel
theorem dL_turn_15 : decode cL_turn 15 = .ok (.astore_n 3, 1) := by decide +kernel
theorem dL_turn_16 : decode cL_turn 16 = .ok (.iconst 2, 1) := by decide +kernel
theorem dL_turn_17 : decode cL_turn 17 = .ok (.ireturn, 1) := by decide +kernel
theorem dL_type_0 : decode cL_type 0 = .ok (.aload_n 2, 1) := by decide +kernel
theorem dL_type_1 : decode cL_type 1 = .ok (.iconst 0, 1) := by decide +kernel
theorem dL_type_2 : decode cL_type 2 = .ok (.aload_n 0, 1) := by decide +kernel
theorem dL_type_3 : decode cL_type 3 = .ok (.iload_n 1, 1) := by decide +kernel
theorem dL_type_4 : decode cL_type 4 = .ok (.invokevirtual 29, 3) := by decide +kernel
theorem dL_type_7 : decode cL_type 7 = .ok (.i2l, 1) := by decide +kernel
theorem dL_type_8 : decode cL_type 8 = .ok (.lastore, 1) := by decide +kernel
theorem dL_type_9 : decode cL_type 9 = .ok (.goto 9, 3) := by decide +kernel
theorem dL_type_12 : decode cL_type 12 = .ok (.astore_n 3, 1) := by decide +kernel
theorem dL_type_13 : decode cL_type 13 = .ok (.iconst 1, 1) := by decide +kernel
theorem dL_type_14 : decode cL_type 14 = .ok (.ireturn, 1) := by decide +kernel
theorem dL_type_18 : decode cL_type 18 = .ok (.iconst 0, 1) := by decide +kernel
theorem dL_type_19 : decode cL_type 19 = .ok (.ireturn, 1) := by decide +kernel
theorem dL_wish_0 : decode cL_wish 0 = .ok (.aload 4, 2) := by decide +kernel
theorem dL_wish_2 : decode cL_wish 2 = .ok (.iconst 0, 1) := by decide +kernel
theorem dL_wish_3 : decode cL_wish 3 = .ok (.aload_n 0, 1) := by decide +kernel
theorem dL_wish_4 : decode cL_wish 4 = .ok (.iload_n 1, 1) := by decide +kernel
theorem dL_wish_5 : decode cL_wish 5 = .ok (.iload_n 2, 1) := by decide +kernel
theorem dL_wish_6 : decode cL_wish 6 = .ok (.iload_n 3, 1) := by decide +kernel
theorem dL_wish_7 : decode cL_wish 7 = .ok (.invokevirtual 45, 3) := by decide +kernel
theorem dL_wish_15 : decode cL_wish 15 = .ok (.astore 5, 2) := by decide +kernel
theorem dL_wish_17 : decode cL_wish 17 = .ok (.iconst 1, 1) := by decide +kernel
theorem dL_wish_18 : decode cL_wish 18 = .ok (.ireturn, 1) := by decide +kernel
theorem dL_wish_19 : decode cL_wish 19 = .ok (.astore 5, 2) := by decide +kernel
theorem dL_wish_21 : decode cL_wish 21 = .ok (.iconst 2, 1) := by decide +kernel
theorem dL_wish_22 : decode cL_wish 22 = .ok (.ireturn, 1) := by decide +kernel
theorem dL_without_0 : decode cL_without 0 = .ok (.aload_n 2, 1) := by decide +kernel
theorem dL_without_1 : decode cL_without 1 = .ok (.iconst 0, 1) := by decide +kernel
theorem dL_without_2 : decode cL_without 2 = .ok (.aload_n 0, 1) := by decide +kernel
theorem dL_without_3 : decode cL_without 3 = .ok (.iload_n 1, 1) := by decide +kernel
theorem dL_without_4 : decode cL_without 4 = .ok (.invokevirtual 131, 3) := by decide +kernel
theorem dL_without_12 : decode cL_without 12 = .ok (.astore_n 3, 1) := by decide +kernel
theorem dL_without_13 : decode cL_without 13 = .ok (.iconst 1, 1) := by decide +kernel
theorem dL_without_14 : decode cL_without 14 = .ok (.ireturn, 1) := by decide +kernel
theorem dL_withoutHouse_0 : decode cL_withoutHouse 0 = .ok (.aload_n 2, 1) := by decide +kernel
theorem dL_withoutHouse_1 : decode cL_withoutHouse 1 = .ok (.iconst 0, 1) := by decide +kernel
theorem dL_withoutHouse_2 : decode cL_withoutHouse 2 = .ok (.aload_n 0, 1) := by decide +kernel
theorem dL_withoutHouse_3 : decode cL_withoutHouse 3 = .ok (.iload_n 1, 1) := by decide +kernel
theorem dL_withoutHouse_4 : decode cL_withoutHouse 4 = .ok (.invokevirtual 134, 3) := by decide +kernel
theorem dL_withoutHouse_12 : decode cL_withoutHouse 12 = .ok (.astore_n 3, 1) := by decide +kernel
theorem dL_withoutHouse_13 : decode cL_withoutHouse 13 = .ok (.iconst 1, 1) := by decide +kernel
theorem dL_withoutHouse_14 : decode cL_withoutHouse 14 = .ok (.ireturn, 1) := by decide +kernel
theorem dX0_addTo_0 : decode cX0_addTo 0 = .ok (.lload_n 1, 1) := by decide +kernel
theorem dX0_addTo_1 : decode cX0_addTo 1 = .ok (.lstore_n 3, 1) := by decide +kernel
theorem dX0_addTo_2 : decode cX0_addTo 2 = .ok (.iconst 0, 1) := by decide +kernel
theorem dX0_addTo_3 : decode cX0_addTo 3 = .ok (.istore 5, 2) := by decide +kernel
theorem dX0_addTo_5 : decode cX0_addTo 5 = .ok (.iload 5, 2) := by decide +kernel
theorem dX0_addTo_7 : decode cX0_addTo 7 = .ok (.bipush 9, 2) := by decide +kernel
theorem dX0_addTo_9 : decode cX0_addTo 9 = .ok (.if_icmp .ge 55, 3) := by decide +kernel
theorem dX0_addTo_12 : decode cX0_addTo 12 = .ok (.iconst 0, 1) := by decide +kernel
theorem dX0_addTo_13 : decode cX0_addTo 13 = .ok (.istore 6, 2) := by decide +kernel
theorem dX0_addTo_15 : decode cX0_addTo 15 = .ok (.iload 6, 2) := by decide +kernel
theorem dX0_addTo_17 : decode cX0_addTo 17 = .ok (.bipush 9, 2) := by decide +kernel
theorem dX0_addTo_19 : decode cX0_addTo 19 = .ok (.if_icmp .ge 39, 3) := by decide +kernel
theorem dX0_addTo_22 : decode cX0_addTo 22 = .ok (.iload 6, 2) := by decide +kernel
theorem dX0_addTo_24 : decode cX0_addTo 24 = .ok (.iload 5, 2) := by decide +kernel
theorem dX0_addTo_26 : decode cX0_addTo 26 = .ok (.if_icmp .eq 26, 3) := by decide +kernel
theorem dX0_addTo_29 : decode cX0_addTo 29 = .ok (.ldc2_w 44, 3) := by decide +kernel
theorem dX0_addTo_32 : decode cX0_addTo 32 = .ok (.lload_n 3, 1) := by decide +kernel
theorem dX0_addTo_33 : decode cX0_addTo 33 = .ok (.lmul, 1) := by decide +kernel
theorem dX0_addTo_34 : decode cX0_addTo 34 = .ok (.aload_n 0, 1) := by decide +kernel
theorem dX0_addTo_35 : decode cX0_addTo 35 = .ok (.iload 5, 2) := by decide +kernel
theorem dX0_addTo_37 : decode cX0_addTo 37 = .ok (.iload 6, 2) := by decide +kernel
theorem dX0_addTo_39 : decode cX0_addTo 39 = .ok (.invokevirtual 31, 3) := by decide +kernel
theorem dX0_addTo_42 : decode cX0_addTo 42 = .ok (.ifCond .eq 7, 3) := by decide +kernel
theorem dX0_addTo_49 : decode cX0_addTo 49 = .ok (.lconst 0, 1) := by decide +kernel
theorem dX0_addTo_50 : decode cX0_addTo 50 = .ok (.ladd, 1) := by decide +kernel
theorem dX0_addTo_51 : decode cX0_addTo 51 = .ok (.lstore_n 3, 1) := by decide +kernel
theorem dX0_addTo_52 : decode cX0_addTo 52 = .ok (.iinc 6 1, 3) := by decide +kernel
theorem dX0_addTo_55 : decode cX0_addTo 55 = .ok (.goto (-40), 3) := by decide +kernel
theorem dX0_addTo_58 : decode cX0_addTo 58 = .ok (.iinc 5 1, 3) := by decide +kernel
theorem dX0_addTo_61 : decode cX0_addTo 61 = .ok (.goto (-56), 3) := by decide +kernel
theorem dX0_addTo_64 : decode cX0_addTo 64 = .ok (.lload_n 3, 1) := by decide +kernel
theorem dX0_addTo_65 : decode cX0_addTo 65 = .ok (.lreturn, 1) := by decide +kernel
theorem dX0_allow_0 : decode cX0_allow 0 = .ok (.aload_n 0, 1) := by decide +kernel
theorem dX0_allow_1 : decode cX0_allow 1 = .ok (.iload_n 1, 1) := by decide +kernel
theorem dX0_allow_2 : decode cX0_allow 2 = .ok (.invokevirtual 19, 3) := by decide +kernel
theorem dX0_allow_5 : decode cX0_allow 5 = .ok (.ifCond .eq 23, 3) := by decide +kernel
theorem dX0_allow_8 : decode cX0_allow 8 = .ok (.aload_n 0, 1) := by decide +kernel
theorem dX0_allow_9 : decode cX0_allow 9 = .ok (.iload_n 2, 1) := by decide +kernel
theorem dX0_allow_10 : decode cX0_allow 10 = .ok (.invokevirtual 19, 3) := by decide +kernel
theorem dX0_allow_13 : decode cX0_allow 13 = .ok (.ifCond .eq 15, 3) := by decide +kernel
theorem dX0_allow_16 : decode cX0_allow 16 = .ok (.aload_n 0, 1) := by decide +kernel
theorem dX0_allow_17 : decode cX0_allow 17 = .ok (.getfield 9, 3) := by decide +kernel
theorem dX0_allow_20 : decode cX0_allow 20 = .ok (.bipush 9, 2) := by decide +kernel
theorem dX0_allow_22 : decode cX0_allow 22 = .ok (.iload_n 1, 1) := by decide +kernel
theorem dX0_allow_23 : decode cX0_allow 23 = .ok (.imul, 1) := by decide +kernel
theorem dX0_allow_24 : decode cX0_allow 24 = .ok (.iload_n 2, 1) := by decide +kernel
theorem dX0_allow_25 : decode cX0_allow 25 = .ok (.iadd, 1) := by decide +kernel
theorem dX0_allow_26 : decode cX0_allow 26 = .ok (.iload_n 3, 1) := by decide +kernel
theorem dX0_allow_27 : decode cX0_allow 27 = .ok (.bastore, 1) := by decide +kernel
theorem dX0_allow_28 : decode cX0_allow 28 = .ok (.return_, 1) := by decide +kernel
theorem dX0_bestOf_0 : decode cX0_bestOf 0 = .ok (.iload_n 1, 1) := by decide +kernel
theorem dX0_bestOf_1 : decode cX0_bestOf 1 = .ok (.ifCond .lt 21, 3) := by decide +kernel
theorem dX0_bestOf_4 : decode cX0_bestOf 4 = .ok (.iload_n 1, 1) := by decide +kernel
theorem dX0_bestOf_5 : decode cX0_bestOf 5 = .ok (.aload_n 0, 1) := by decide +kernel
theorem dX0_bestOf_6 : decode cX0_bestOf 6 = .ok (.getfield 15, 3) := by decide +kernel
theorem dX0_bestOf_9 : decode cX0_bestOf 9 = .ok (.arraylength, 1) := by decide +kernel
theorem dX0_bestOf_10 : decode cX0_bestOf 10 = .ok (.if_icmp .ge 12, 3) := by decide +kernel
theorem dX0_bestOf_13 : decode cX0_bestOf 13 = .ok (.aload_n 0, 1) := by decide +kernel
theorem dX0_bestOf_14 : decode cX0_bestOf 14 = .ok (.getfield 15, 3) := by decide +kernel
theorem dX0_bestOf_17 : decode cX0_bestOf 17 = .ok (.iload_n 1, 1) := by decide +kernel
theorem dX0_bestOf_18 : decode cX0_bestOf 18 = .ok (.iaload, 1) := by decide +kernel
theorem dX0_bestOf_19 : decode cX0_bestOf 19 = .ok (.goto 4, 3) := by decide +kernel
theorem dX0_bestOf_22 : decode cX0_bestOf 22 = .ok (.iconst 0, 1) := by decide +kernel
theorem dX0_bestOf_23 : decode cX0_bestOf 23 = .ok (.ireturn, 1) := by decide +kernel
theorem dX0_bestWith_0 : decode cX0_bestWith 0 = .ok (.aload_n 0, 1) := by decide +kernel
theorem dX0_bestWith_1 : decode cX0_bestWith 1 = .ok (.iload_n 2, 1) := by decide +kernel
theorem dX0_bestWith_2 : decode cX0_bestWith 2 = .ok (.invokevirtual 27, 3) := by decide +kernel
theorem dX0_bestWith_5 : decode cX0_bestWith 5 = .ok (.istore 4, 2) := by decide +kernel
theorem dX0_bestWith_7 : decode cX0_bestWith 7 = .ok (.iconst 0, 1) := by decide +kernel
theorem dX0_bestWith_8 : decode cX0_bestWith 8 = .ok (.istore 5, 2) := by decide +kernel
theorem dX0_bestWith_10 : decode cX0_bestWith 10 = .ok (.iload 5, 2) := by decide +kernel
theorem dX0_bestWith_12 : decode cX0_bestWith 12 = .ok (.iload_n 1, 1) := by decide +kernel
theorem dX0_bestWith_13 : decode cX0_bestWith 13 = .ok (.if_icmp .ge 83, 3) := by decide +kernel
theorem dX0_bestWith_16 : decode cX0_bestWith 16 = .ok (.iload_n 2, 1) := by decide +kernel
theorem dX0_bestWith_17 : decode cX0_bestWith 17 = .ok (.iload 5, 2) := by decide +kernel
theorem dX0_bestWith_19 : decode cX0_bestWith 19 = .ok (.ishr, 1) := by decide +kernel
theorem dX0_bestWith_20 : decode cX0_bestWith 20 = .ok (.iconst 1, 1) := by decide +kernel
theorem dX0_bestWith_21 : decode cX0_bestWith 21 = .ok (.iand, 1) := by decide +kernel
theorem dX0_bestWith_22 : decode cX0_bestWith 22 = .ok (.iconst 1, 1) := by decide +kernel
theorem dX0_bestWith_23 : decode cX0_bestWith 23 = .ok (.if_icmp .ne 67, 3) := by decide +kernel
theorem dX0_bestWith_26 : decode cX0_bestWith 26 = .ok (.aload_n 0, 1) := by decide +kernel
theorem dX0_bestWith_27 : decode cX0_bestWith 27 = .ok (.iload_n 1, 1) := by decide +kernel
theorem dX0_bestWith_28 : decode cX0_bestWith 28 = .ok (.iload 5, 2) := by decide +kernel
theorem dX0_bestWith_30 : decode cX0_bestWith 30 = .ok (.invokevirtual 31, 3) := by decide +kernel
theorem dX0_bestWith_33 : decode cX0_bestWith 33 = .ok (.ifCond .eq 57, 3) := by decide +kernel
theorem dX0_bestWith_90 : decode cX0_bestWith 90 = .ok (.iinc 5 1, 3) := by decide +kernel
theorem dX0_bestWith_93 : decode cX0_bestWith 93 = .ok (.goto (-83), 3) := by decide +kernel
theorem dX0_bestWith_96 : decode cX0_bestWith 96 = .ok (.iload 4, 2) := by decide +kernel
theorem dX0_bestWith_98 : decode cX0_bestWith 98 = .ok (.ireturn, 1) := by decide +kernel
theorem dX0_canGive_0 : decode cX0_canGive 0 = .ok (.aload_n 0, 1) := by decide +kernel
theorem dX0_canGive_1 : decode cX0_canGive 1 = .ok (.iload_n 1, 1) := by decide +kernel
theorem dX0_canGive_2 : decode cX0_canGive 2 = .ok (.invokevirtual 19, 3) := by decide +kernel
theorem dX0_canGive_5 : decode cX0_canGive 5 = .ok (.ifCond .eq 29, 3) := by decide +kernel
theorem dX0_canGive_8 : decode cX0_canGive 8 = .ok (.aload_n 0, 1) := by decide +kernel
theorem dX0_canGive_9 : decode cX0_canGive 9 = .ok (.iload_n 2, 1) := by decide +kernel
theorem dX0_canGive_10 : decode cX0_canGive 10 = .ok (.invokevirtual 19, 3) := by decide +kernel
theorem dX0_canGive_13 : decode cX0_canGive 13 = .ok (.ifCond .eq 21, 3) := by decide +kernel
theorem dX0_canGive_16 : decode cX0_canGive 16 = .ok (.aload_n 0, 1) := by decide +kernel
theorem dX0_canGive_17 : decode cX0_canGive 17 = .ok (.getfield 9, 3) := by decide +kernel
theorem dX0_canGive_20 : decode cX0_canGive 20 = .ok (.bipush 9, 2) := by decide +kernel
theorem dX0_canGive_22 : decode cX0_canGive 22 = .ok (.iload_n 1, 1) := by decide +kernel
theorem dX0_canGive_23 : decode cX0_canGive 23 = .ok (.imul, 1) := by decide +kernel
theorem dX0_canGive_24 : decode cX0_canGive 24 = .ok (.iload_n 2, 1) := by decide +kernel
theorem dX0_canGive_25 : decode cX0_canGive 25 = .ok (.iadd, 1) := by decide +kernel
theorem dX0_canGive_26 : decode cX0_canGive 26 = .ok (.baload, 1) := by decide +kernel
theorem dX0_canGive_27 : decode cX0_canGive 27 = .ok (.ifCond .eq 7, 3) := by decide +kernel
theorem dX0_canGive_34 : decode cX0_canGive 34 = .ok (.iconst 0, 1) := by decide +kernel
theorem dX0_canGive_35 : decode cX0_canGive 35 = .ok (.ireturn, 1) := by decide +kernel
theorem dX0_has_0 : decode cX0_has 0 = .ok (.iload_n 1, 1) := by decide +kernel
theorem dX0_has_1 : decode cX0_has 1 = .ok (.ifCond .lt 13, 3) := by decide +kernel
theorem dX0_has_4 : decode cX0_has 4 = .ok (.iload_n 1, 1) := by decide +kernel
theorem dX0_has_5 : decode cX0_has 5 = .ok (.bipush 9, 2) := by decide +kernel
theorem dX0_has_7 : decode cX0_has 7 = .ok (.if_icmp .ge 7, 3) := by decide +kernel
theorem dX0_has_10 : decode cX0_has 10 = .ok (.iconst 1, 1) := by decide +kernel
theorem dX0_has_11 : decode cX0_has 11 = .ok (.goto 4, 3) := by decide +kernel
theorem dX0_has_14 : decode cX0_has 14 = .ok (.iconst 0, 1) := by decide +kernel
theorem dX0_has_15 : decode cX0_has 15 = .ok (.ireturn, 1) := by decide +kernel
theorem dX0_init_0 : decode cX0_init 0 = .ok (.aload_n 0, 1) := by decide +kernel
theorem dX0_init_1 : decode cX0_init 1 = .ok (.invokespecial 3, 3) := by decide +kernel
theorem dX0_init_4 : decode cX0_init 4 = .ok (.aload_n 0, 1) := by decide +kernel
theorem dX0_init_5 : decode cX0_init 5 = .ok (.bipush 81, 2) := by decide +kernel
theorem dX0_init_7 : decode cX0_init 7 = .ok (.newarray .boolean, 2) := by decide +kernel
theorem dX0_init_9 : decode cX0_init 9 = .ok (.putfield 9, 3) := by decide +kernel
theorem dX0_init_12 : decode cX0_init 12 = .ok (.aload_n 0, 1) := by decide +kernel
theorem dX0_init_13 : decode cX0_init 13 = .ok (.sipush 512, 3) := by decide +kernel
theorem dX0_init_16 : decode cX0_init 16 = .ok (.newarray .int, 2) := by decide +kernel
theorem dX0_init_18 : decode cX0_init 18 = .ok (.putfield 15, 3) := by decide +kernel
theorem dX0_init_21 : decode cX0_init 21 = .ok (.return_, 1) := by decide +kernel
theorem dX0_mostHelped_0 : decode cX0_mostHelped 0 = .ok (.iconst 0, 1) := by decide +kernel
theorem dX0_mostHelped_1 : decode cX0_mostHelped 1 = .ok (.istore_n 2, 1) := by decide +kernel
theorem dX0_mostHelped_2 : decode cX0_mostHelped 2 = .ok (.iload_n 2, 1) := by decide +kernel
theorem dX0_mostHelped_3 : decode cX0_mostHelped 3 = .ok (.bipush 9, 2) := by decide +kernel
theorem dX0_mostHelped_5 : decode cX0_mostHelped 5 = .ok (.if_icmp .ge 41, 3) := by decide +kernel
theorem dX0_mostHelped_8 : decode cX0_mostHelped 8 = .ok (.iconst 0, 1) := by decide +kernel
theorem dX0_mostHelped_9 : decode cX0_mostHelped 9 = .ok (.istore_n 3, 1) := by decide +kernel
theorem dX0_mostHelped_10 : decode cX0_mostHelped 10 = .ok (.iload_n 3, 1) := by decide +kernel
theorem dX0_mostHelped_11 : decode cX0_mostHelped 11 = .ok (.iconst 1, 1) := by decide +kernel
theorem dX0_mostHelped_12 : decode cX0_mostHelped 12 = .ok (.iload_n 2, 1) := by decide +kernel
theorem dX0_mostHelped_13 : decode cX0_mostHelped 13 = .ok (.ishl, 1) := by decide +kernel
theorem dX0_mostHelped_14 : decode cX0_mostHelped 14 = .ok (.if_icmp .ge 26, 3) := by decide +kernel
theorem dX0_mostHelped_17 : decode cX0_mostHelped 17 = .ok (.aload_n 0, 1) := by decide +kernel
theorem dX0_mostHelped_18 : decode cX0_mostHelped 18 = .ok (.getfield 15, 3) := by decide +kernel
theorem dX0_mostHelped_21 : decode cX0_mostHelped 21 = .ok (.iload_n 3, 1) := by decide +kernel
theorem dX0_mostHelped_22 : decode cX0_mostHelped 22 = .ok (.iconst 1, 1) := by decide +kernel
theorem dX0_mostHelped_23 : decode cX0_mostHelped 23 = .ok (.iload_n 2, 1) := by decide +kernel
theorem dX0_mostHelped_24 : decode cX0_mostHelped 24 = .ok (.ishl, 1) := by decide +kernel
theorem dX0_mostHelped_25 : decode cX0_mostHelped 25 = .ok (.ior, 1) := by decide +kernel
theorem dX0_mostHelped_26 : decode cX0_mostHelped 26 = .ok (.aload_n 0, 1) := by decide +kernel
theorem dX0_mostHelped_27 : decode cX0_mostHelped 27 = .ok (.iload_n 2, 1) := by decide +kernel
theorem dX0_mostHelped_28 : decode cX0_mostHelped 28 = .ok (.iload_n 3, 1) := by decide +kernel
theorem dX0_mostHelped_29 : decode cX0_mostHelped 29 = .ok (.iload_n 1, 1) := by decide +kernel
theorem dX0_mostHelped_30 : decode cX0_mostHelped 30 = .ok (.invokevirtual 23, 3) := by decide +kernel
theorem dX0_mostHelped_33 : decode cX0_mostHelped 33 = .ok (.iastore, 1) := by decide +kernel
theorem dX0_mostHelped_34 : decode cX0_mostHelped 34 = .ok (.iinc 3 1, 3) := by decide +kernel
theorem dX0_mostHelped_37 : decode cX0_mostHelped 37 = .ok (.goto (-27), 3) := by decide +kernel
theorem dX0_mostHelped_40 : decode cX0_mostHelped 40 = .ok (.iinc 2 1, 3) := by decide +kernel
theorem dX0_mostHelped_43 : decode cX0_mostHelped 43 = .ok (.goto (-41), 3) := by decide +kernel
theorem dX0_mostHelped_46 : decode cX0_mostHelped 46 = .ok (.aload_n 0, 1) := by decide +kernel
theorem dX0_mostHelped_47 : decode cX0_mostHelped 47 = .ok (.getfield 15, 3) := by decide +kernel
theorem dX0_mostHelped_50 : decode cX0_mostHelped 50 = .ok (.sipush 511, 3) := by decide +kernel
theorem dX0_mostHelped_53 : decode cX0_mostHelped 53 = .ok (.iaload, 1) := by decide +kernel
theorem dX0_mostHelped_54 : decode cX0_mostHelped 54 = .ok (.ireturn, 1) := by decide +kernel
theorem dX10_add_0 : decode cX10_add 0 = .ok (.aload_n 0, 1) := by decide +kernel
theorem dX10_add_1 : decode cX10_add 1 = .ok (.iload_n 1, 1) := by decide +kernel
theorem dX10_add_2 : decode cX10_add 2 = .ok (.invokevirtual 95, 3) := by decide +kernel
theorem dX10_add_5 : decode cX10_add 5 = .ok (.astore_n 2, 1) := by decide +kernel
theorem dX10_add_6 : decode cX10_add 6 = .ok (.aload_n 2, 1) := by decide +kernel
theorem dX10_add_7 : decode cX10_add 7 = .ok (.getfield 99, 3) := by decide +kernel
theorem dX10_add_10 : decode cX10_add 10 = .ok (.bipush 10, 2) := by decide +kernel
theorem dX10_add_12 : decode cX10_add 12 = .ok (.if_icmp .lt 13, 3) := by decide +kernel
theorem dX10_add_25 : decode cX10_add 25 = .ok (.aload_n 2, 1) := by decide +kernel
theorem dX10_add_26 : decode cX10_add 26 = .ok (.getfield 99, 3) := by decide +kernel
theorem dX10_add_29 : decode cX10_add 29 = .ok (.istore_n 3, 1) := by decide +kernel
theorem dX10_add_30 : decode cX10_add 30 = .ok (.aload_n 2, 1) := by decide +kernel
theorem dX10_add_31 : decode cX10_add 31 = .ok (.invokevirtual 110, 3) := by decide +kernel
theorem dX10_add_34 : decode cX10_add 34 = .ok (.aload_n 0, 1) := by decide +kernel
theorem dX10_add_35 : decode cX10_add 35 = .ok (.invokevirtual 113, 3) := by decide +kernel
theorem dX10_add_38 : decode cX10_add 38 = .ok (.iload_n 3, 1) := by decide +kernel
theorem dX10_add_39 : decode cX10_add 39 = .ok (.ireturn, 1) := by decide +kernel
theorem dX10_adopt_0 : decode cX10_adopt 0 = .ok (.aload_n 0, 1) := by decide +kernel
theorem dX10_adopt_1 : decode cX10_adopt 1 = .ok (.getfield 37, 3) := by decide +kernel
theorem dX10_adopt_4 : decode cX10_adopt 4 = .ok (.aload_n 0, 1) := by decide +kernel
theorem dX10_adopt_5 : decode cX10_adopt 5 = .ok (.getfield 77, 3) := by decide +kernel
theorem dX10_adopt_8 : decode cX10_adopt 8 = .ok (.iload_n 1, 1) := by decide +kernel
theorem dX10_adopt_9 : decode cX10_adopt 9 = .ok (.invokevirtual 348, 3) := by decide +kernel
theorem dX10_adopt_12 : decode cX10_adopt 12 = .ok (.aload_n 0, 1) := by decide +kernel
theorem dX10_adopt_13 : decode cX10_adopt 13 = .ok (.getfield 10, 3) := by decide +kernel
theorem dX10_adopt_16 : decode cX10_adopt 16 = .ok (.getfield 352, 3) := by decide +kernel
theorem dX10_adopt_19 : decode cX10_adopt 19 = .ok (.getfield 99, 3) := by decide +kernel
theorem dX10_adopt_22 : decode cX10_adopt 22 = .ok (.invokevirtual 355, 3) := by decide +kernel
theorem dX10_adopt_25 : decode cX10_adopt 25 = .ok (.aload_n 0, 1) := by decide +kernel
theorem dX10_adopt_26 : decode cX10_adopt 26 = .ok (.getfield 44, 3) := by decide +kernel
theorem dX10_adopt_29 : decode cX10_adopt 29 = .ok (.invokevirtual 275, 3) := by decide +kernel
theorem dX10_adopt_32 : decode cX10_adopt 32 = .ok (.return_, 1) := by decide +kernel
theorem dX10_begin_0 : decode cX10_begin 0 = .ok (.aload_n 0, 1) := by decide +kernel
theorem dX10_begin_1 : decode cX10_begin 1 = .ok (.iload_n 1, 1) := by decide +kernel
theorem dX10_begin_2 : decode cX10_begin 2 = .ok (.invokevirtual 198, 3) := by decide +kernel
theorem dX10_begin_5 : decode cX10_begin 5 = .ok (.aload_n 0, 1) := by decide +kernel
theorem dX10_begin_6 : decode cX10_begin 6 = .ok (.getfield 37, 3) := by decide +kernel
theorem dX10_begin_9 : decode cX10_begin 9 = .ok (.invokevirtual 201, 3) := by decide +kernel
theorem dX10_begin_12 : decode cX10_begin 12 = .ok (.aload_n 0, 1) := by decide +kernel
theorem dX10_begin_13 : decode cX10_begin 13 = .ok (.getfield 44, 3) := by decide +kernel
theorem dX10_begin_16 : decode cX10_begin 16 = .ok (.iload_n 1, 1) := by decide +kernel
theorem dX10_begin_17 : decode cX10_begin 17 = .ok (.invokevirtual 202, 3) := by decide +kernel
theorem dX10_begin_20 : decode cX10_begin 20 = .ok (.aload_n 0, 1) := by decide +kernel
theorem dX10_begin_21 : decode cX10_begin 21 = .ok (.getfield 44, 3) := by decide +kernel
theorem dX10_begin_24 : decode cX10_begin 24 = .ok (.aload_n 0, 1) := by decide +kernel
theorem dX10_begin_25 : decode cX10_begin 25 = .ok (.getfield 10, 3) := by decide +kernel
theorem dX10_begin_28 : decode cX10_begin 28 = .ok (.aload_n 0, 1) := by decide +kernel
theorem dX10_begin_29 : decode cX10_begin 29 = .ok (.getfield 37, 3) := by decide +kernel
theorem dX10_begin_32 : decode cX10_begin 32 = .ok (.invokevirtual 205, 3) := by decide +kernel
theorem dX10_begin_35 : decode cX10_begin 35 = .ok (.ireturn, 1) := by decide +kernel
theorem dX10_blockAt_0 : decode cX10_blockAt 0 = .ok (.aload_n 0, 1) := by decide +kernel
theorem dX10_blockAt_1 : decode cX10_blockAt 1 = .ok (.getfield 37, 3) := by decide +kernel
theorem dX10_blockAt_4 : decode cX10_blockAt 4 = .ok (.aload_n 0, 1) := by decide +kernel
theorem dX10_blockAt_5 : decode cX10_blockAt 5 = .ok (.getfield 10, 3) := by decide +kernel
theorem dX10_blockAt_8 : decode cX10_blockAt 8 = .ok (.iload_n 1, 1) := by decide +kernel
theorem dX10_blockAt_9 : decode cX10_blockAt 9 = .ok (.invokevirtual 294, 3) := by decide +kernel
theorem dX10_blockAt_12 : decode cX10_blockAt 12 = .ok (.istore_n 2, 1) := by decide +kernel
theorem dX10_blockAt_13 : decode cX10_blockAt 13 = .ok (.iload_n 2, 1) := by decide +kernel
theorem dX10_blockAt_14 : decode cX10_blockAt 14 = .ok (.iconst (-1), 1) := by decide +kernel
theorem dX10_blockAt_15 : decode cX10_blockAt 15 = .ok (.if_icmp .ne 14, 3) := by decide +kernel
theorem dX10_blockAt_18 : decode cX10_blockAt 18 = .ok (.new 152, 3) := by decide +kernel
theorem dX10_blockAt_21 : decode cX10_blockAt 21 = .ok (.dup, 1) := by decide +kernel
theorem dX10_blockAt_22 : decode cX10_blockAt 22 = .ok (.ldc_w 298, 3) := by decide +kernel
theorem dX10_blockAt_25 : decode cX10_blockAt 25 = .ok (.invokespecial 156, 3) := by decide +kernel
theorem dX10_blockAt_28 : decode cX10_blockAt 28 = .ok (.athrow, 1) := by decide +kernel
theorem dX10_blocks_0 : decode cX10_blocks 0 = .ok (.aload_n 0, 1) := by decide +kernel
theorem dX10_blocks_1 : decode cX10_blocks 1 = .ok (.getfield 37, 3) := by decide +kernel
theorem dX10_blocks_4 : decode cX10_blocks 4 = .ok (.aload_n 0, 1) := by decide +kernel
theorem dX10_blocks_5 : decode cX10_blocks 5 = .ok (.getfield 10, 3) := by decide +kernel
theorem dX10_blocks_8 : decode cX10_blocks 8 = .ok (.invokevirtual 290, 3) := by decide +kernel
theorem dX10_blocks_11 : decode cX10_blocks 11 = .ok (.ireturn, 1) := by decide +kernel
theorem dX10_checksum_0 : decode cX10_checksum 0 = .ok (.aload_n 0, 1) := by decide +kernel
theorem dX10_checksum_1 : decode cX10_checksum 1 = .ok (.getfield 10, 3) := by decide +kernel
theorem dX10_checksum_4 : decode cX10_checksum 4 = .ok (.getfield 352, 3) := by decide +kernel
theorem dX10_checksum_7 : decode cX10_checksum 7 = .ok (.ldc2_w 442, 3) := by decide +kernel
theorem dX10_checksum_10 : decode cX10_checksum 10 = .ok (.invokevirtual 444, 3) := by decide +kernel
theorem dX10_checksum_13 : decode cX10_checksum 13 = .ok (.lstore_n 1, 1) := by decide +kernel
theorem dX10_checksum_14 : decode cX10_checksum 14 = .ok (.aload_n 0, 1) := by decide +kernel
theorem dX10_checksum_15 : decode cX10_checksum 15 = .ok (.getfield 10, 3) := by decide +kernel
theorem dX10_checksum_18 : decode cX10_checksum 18 = .ok (.getfield 368, 3) := by decide +kernel
theorem dX10_checksum_21 : decode cX10_checksum 21 = .ok (.lload_n 1, 1) := by decide +kernel
theorem dX10_checksum_22 : decode cX10_checksum 22 = .ok (.invokevirtual 444, 3) := by decide +kernel
theorem dX10_checksum_25 : decode cX10_checksum 25 = .ok (.lstore_n 1, 1) := by decide +kernel
theorem dX10_checksum_26 : decode cX10_checksum 26 = .ok (.aload_n 0, 1) := by decide +kernel
theorem dX10_checksum_27 : decode cX10_checksum 27 = .ok (.getfield 19, 3) := by decide +kernel
theorem dX10_checksum_30 : decode cX10_checksum 30 = .ok (.lload_n 1, 1) := by decide +kernel
theorem dX10_checksum_31 : decode cX10_checksum 31 = .ok (.invokevirtual 444, 3) := by decide +kernel
theorem dX10_checksum_34 : decode cX10_checksum 34 = .ok (.lstore_n 1, 1) := by decide +kernel
theorem dX10_checksum_35 : decode cX10_checksum 35 = .ok (.iconst 0, 1) := by decide +kernel
theorem dX10_checksum_36 : decode cX10_checksum 36 = .ok (.istore_n 3, 1) := by decide +kernel
theorem dX10_checksum_37 : decode cX10_checksum 37 = .ok (.iload_n 3, 1) := by decide +kernel
theorem dX10_checksum_38 : decode cX10_checksum 38 = .ok (.aload_n 0, 1) := by decide +kernel
theorem dX10_checksum_39 : decode cX10_checksum 39 = .ok (.getfield 10, 3) := by decide +kernel
theorem dX10_checksum_42 : decode cX10_checksum 42 = .ok (.getfield 368, 3) := by decide +kernel
theorem dX10_checksum_45 : decode cX10_checksum 45 = .ok (.getfield 99, 3) := by decide +kernel
theorem dX10_checksum_48 : decode cX10_checksum 48 = .ok (.if_icmp .ge 38, 3) := by decide +kernel
theorem dX10_checksum_86 : decode cX10_checksum 86 = .ok (.iconst 0, 1) := by decide +kernel
theorem dX10_checksum_87 : decode cX10_checksum 87 = .ok (.istore_n 3, 1) := by decide +kernel
theorem dX10_checksum_88 : decode cX10_checksum 88 = .ok (.iload_n 3, 1) := by decide +kernel
theorem dX10_checksum_89 : decode cX10_checksum 89 = .ok (.aload_n 0, 1) := by decide +kernel
theorem dX10_checksum_90 : decode cX10_checksum 90 = .ok (.getfield 10, 3) := by decide +kernel
theorem dX10_checksum_93 : decode cX10_checksum 93 = .ok (.getfield 352, 3) := by decide +kernel
theorem dX10_checksum_96 : decode cX10_checksum 96 = .ok (.getfield 99, 3) := by decide +kernel
theorem dX10_checksum_99 : decode cX10_checksum 99 = .ok (.if_icmp .ge 25, 3) := by decide +kernel
theorem dX10_checksum_124 : decode cX10_checksum 124 = .ok (.aload_n 0, 1) := by decide +kernel
theorem dX10_checksum_125 : decode cX10_checksum 125 = .ok (.getfield 51, 3) := by decide +kernel
theorem dX10_checksum_128 : decode cX10_checksum 128 = .ok (.lload_n 1, 1) := by decide +kernel
theorem dX10_checksum_129 : decode cX10_checksum 129 = .ok (.invokevirtual 450, 3) := by decide +kernel
theorem dX10_checksum_132 : decode cX10_checksum 132 = .ok (.lstore_n 1, 1) := by decide +kernel
theorem dX10_checksum_133 : decode cX10_checksum 133 = .ok (.aload_n 0, 1) := by decide +kernel
theorem dX10_checksum_134 : decode cX10_checksum 134 = .ok (.getfield 30, 3) := by decide +kernel
theorem dX10_checksum_137 : decode cX10_checksum 137 = .ok (.lload_n 1, 1) := by decide +kernel
theorem dX10_checksum_138 : decode cX10_checksum 138 = .ok (.invokevirtual 451, 3) := by decide +kernel
theorem dX10_checksum_141 : decode cX10_checksum 141 = .ok (.lreturn, 1) := by decide +kernel
theorem dX10_cut_0 : decode cX10_cut 0 = .ok (.aload_n 0, 1) := by decide +kernel
theorem dX10_cut_1 : decode cX10_cut 1 = .ok (.iload_n 1, 1) := by decide +kernel
theorem dX10_cut_2 : decode cX10_cut 2 = .ok (.iload_n 2, 1) := by decide +kernel
theorem dX10_cut_3 : decode cX10_cut 3 = .ok (.invokevirtual 161, 3) := by decide +kernel
theorem dX10_cutFor_0 : decode cX10_cutFor 0 = .ok (.aload_n 0, 1) := by decide +kernel
theorem dX10_cutFor_1 : decode cX10_cutFor 1 = .ok (.iload_n 1, 1) := by decide +kernel
theorem dX10_cutFor_2 : decode cX10_cutFor 2 = .ok (.invokevirtual 365, 3) := by decide +kernel
theorem dX10_erase_0 : decode cX10_erase 0 = .ok (.aload_n 0, 1) := by decide +kernel
theorem dX10_erase_1 : decode cX10_erase 1 = .ok (.getfield 30, 3) := by decide +kernel
theorem dX10_erase_4 : decode cX10_erase 4 = .ok (.getfield 140, 3) := by decide +kernel
theorem dX10_erase_7 : decode cX10_erase 7 = .ok (.istore_n 1, 1) := by decide +kernel
theorem dX10_erase_8 : decode cX10_erase 8 = .ok (.aload_n 0, 1) := by decide +kernel
theorem dX10_erase_9 : decode cX10_erase 9 = .ok (.getfield 30, 3) := by decide +kernel
theorem dX10_erase_12 : decode cX10_erase 12 = .ok (.invokevirtual 149, 3) := by decide +kernel
theorem dX10_erase_15 : decode cX10_erase 15 = .ok (.iload_n 1, 1) := by decide +kernel
theorem dX10_erase_16 : decode cX10_erase 16 = .ok (.ireturn, 1) := by decide +kernel
theorem dX10_everyTurnIsCalm_0 : decode cX10_everyTurnIsCalm 0 = .ok (.aload_n 0, 1) := by decide +kernel
theorem dX10_everyTurnIsCalm_1 : decode cX10_everyTurnIsCalm 1 = .ok (.getfield 70, 3) := by decide +kernel
theorem dX10_everyTurnIsCalm_4 : decode cX10_everyTurnIsCalm 4 = .ok (.aload_n 0, 1) := by decide +kernel
theorem dX10_everyTurnIsCalm_5 : decode cX10_everyTurnIsCalm 5 = .ok (.getfield 10, 3) := by decide +kernel
theorem dX10_everyTurnIsCalm_8 : decode cX10_everyTurnIsCalm 8 = .ok (.aload_n 0, 1) := by decide +kernel
theorem dX10_everyTurnIsCalm_9 : decode cX10_everyTurnIsCalm 9 = .ok (.getfield 58, 3) := by decide +kernel
theorem dX10_everyTurnIsCalm_12 : decode cX10_everyTurnIsCalm 12 = .ok (.invokevirtual 329, 3) := by decide +kernel
theorem dX10_everyTurnIsCalm_15 : decode cX10_everyTurnIsCalm 15 = .ok (.iconst 0, 1) := by decide +kernel
theorem dX10_everyTurnIsCalm_16 : decode cX10_everyTurnIsCalm 16 = .ok (.istore_n 1, 1) := by decide +kernel
theorem dX10_everyTurnIsCalm_17 : decode cX10_everyTurnIsCalm 17 = .ok (.iload_n 1, 1) := by decide +kernel
theorem dX10_everyTurnIsCalm_18 : decode cX10_everyTurnIsCalm 18 = .ok (.aload_n 0, 1) := by decide +kernel
theorem dX10_everyTurnIsCalm_19 : decode cX10_everyTurnIsCalm 19 = .ok (.getfield 70, 3) := by decide +kernel
theorem dX10_everyTurnIsCalm_22 : decode cX10_everyTurnIsCalm 22 = .ok (.getfield 315, 3) := by decide +kernel
theorem dX10_everyTurnIsCalm_25 : decode cX10_everyTurnIsCalm 25 = .ok (.if_icmp .ge 48, 3) := by decide +kernel
theorem dX10_everyTurnIsCalm_73 : decode cX10_everyTurnIsCalm 73 = .ok (.iconst 1, 1) := by decide +kernel
theorem dX10_everyTurnIsCalm_74 : decode cX10_everyTurnIsCalm 74 = .ok (.ireturn, 1) := by decide +kernel
theorem dX10_fairest_0 : decode cX10_fairest 0 = .ok (.iload_n 1, 1) := by decide +kernel
theorem dX10_fairest_1 : decode cX10_fairest 1 = .ok (.bipush 115, 2) := by decide +kernel
theorem dX10_fairest_3 : decode cX10_fairest 3 = .ok (.if_icmp .eq 20, 3) := by decide +kernel
theorem dX10_fairest_6 : decode cX10_fairest 6 = .ok (.iload_n 1, 1) := by decide +kernel
theorem dX10_fairest_7 : decode cX10_fairest 7 = .ok (.bipush 119, 2) := by decide +kernel
theorem dX10_fairest_9 : decode cX10_fairest 9 = .ok (.if_icmp .eq 14, 3) := by decide +kernel
theorem dX10_fairest_12 : decode cX10_fairest 12 = .ok (.new 120, 3) := by decide +kernel
theorem dX10_fairest_15 : decode cX10_fairest 15 = .ok (.dup, 1) := by decide +kernel
theorem dX10_fairest_16 : decode cX10_fairest 16 = .ok (.ldc_w 346, 3) := by decide +kernel
theorem dX10_fairest_19 : decode cX10_fairest 19 = .ok (.invokespecial 124, 3) := by decide +kernel
theorem dX10_fairest_22 : decode cX10_fairest 22 = .ok (.athrow, 1) := by decide +kernel
theorem dX10_fairest_23 : decode cX10_fairest 23 = .ok (.aload_n 0, 1) := by decide +kernel
theorem dX10_fairest_24 : decode cX10_fairest 24 = .ok (.invokevirtual 333, 3) := by decide +kernel
theorem dX10_fairest_27 : decode cX10_fairest 27 = .ok (.iconst 0, 1) := by decide +kernel
theorem dX10_fairest_28 : decode cX10_fairest 28 = .ok (.istore_n 2, 1) := by decide +kernel
theorem dX10_fairest_29 : decode cX10_fairest 29 = .ok (.iconst 0, 1) := by decide +kernel
theorem dX10_fairest_30 : decode cX10_fairest 30 = .ok (.istore_n 3, 1) := by decide +kernel
theorem dX10_fairest_31 : decode cX10_fairest 31 = .ok (.iconst 0, 1) := by decide +kernel
theorem dX10_fairest_32 : decode cX10_fairest 32 = .ok (.istore 4, 2) := by decide +kernel
theorem dX10_fairest_34 : decode cX10_fairest 34 = .ok (.iload 4, 2) := by decide +kernel
theorem dX10_fairest_36 : decode cX10_fairest 36 = .ok (.aload_n 0, 1) := by decide +kernel
theorem dX10_fairest_37 : decode cX10_fairest 37 = .ok (.getfield 77, 3) := by decide +kernel
theorem dX10_fairest_40 : decode cX10_fairest 40 = .ok (.getfield 336, 3) := by decide +kernel
theorem dX10_fairest_43 : decode cX10_fairest 43 = .ok (.if_icmp .ge 85, 3) := by decide +kernel
theorem dX10_fairest_46 : decode cX10_fairest 46 = .ok (.aload_n 0, 1) := by decide +kernel
theorem dX10_fairest_47 : decode cX10_fairest 47 = .ok (.getfield 58, 3) := by decide +kernel
theorem dX10_fairest_50 : decode cX10_fairest 50 = .ok (.aload_n 0, 1) := by decide +kernel
theorem dX10_fairest_51 : decode cX10_fairest 51 = .ok (.getfield 77, 3) := by decide +kernel
theorem dX10_fairest_54 : decode cX10_fairest 54 = .ok (.iload 4, 2) := by decide +kernel
theorem dX10_fairest_56 : decode cX10_fairest 56 = .ok (.invokevirtual 348, 3) := by decide +kernel
theorem dX10_fairest_59 : decode cX10_fairest 59 = .ok (.aload_n 0, 1) := by decide +kernel
theorem dX10_fairest_60 : decode cX10_fairest 60 = .ok (.getfield 10, 3) := by decide +kernel
theorem dX10_fairest_63 : decode cX10_fairest 63 = .ok (.getfield 352, 3) := by decide +kernel
theorem dX10_fairest_66 : decode cX10_fairest 66 = .ok (.getfield 99, 3) := by decide +kernel
theorem dX10_fairest_69 : decode cX10_fairest 69 = .ok (.invokevirtual 355, 3) := by decide +kernel
theorem dX10_fairest_72 : decode cX10_fairest 72 = .ok (.iload_n 1, 1) := by decide +kernel
theorem dX10_fairest_73 : decode cX10_fairest 73 = .ok (.bipush 115, 2) := by decide +kernel
theorem dX10_fairest_75 : decode cX10_fairest 75 = .ok (.if_icmp .ne 17, 3) := by decide +kernel
theorem dX10_fairest_78 : decode cX10_fairest 78 = .ok (.aload_n 0, 1) := by decide +kernel
theorem dX10_fairest_79 : decode cX10_fairest 79 = .ok (.getfield 58, 3) := by decide +kernel
theorem dX10_fairest_82 : decode cX10_fairest 82 = .ok (.aload_n 0, 1) := by decide +kernel
theorem dX10_fairest_83 : decode cX10_fairest 83 = .ok (.getfield 10, 3) := by decide +kernel
theorem dX10_fairest_86 : decode cX10_fairest 86 = .ok (.invokevirtual 359, 3) := by decide +kernel
theorem dX10_fairest_89 : decode cX10_fairest 89 = .ok (.goto 14, 3) := by decide +kernel
theorem dX10_fairest_92 : decode cX10_fairest 92 = .ok (.aload_n 0, 1) := by decide +kernel
theorem dX10_fairest_93 : decode cX10_fairest 93 = .ok (.getfield 58, 3) := by decide +kernel
theorem dX10_fairest_96 : decode cX10_fairest 96 = .ok (.aload_n 0, 1) := by decide +kernel
theorem dX10_fairest_97 : decode cX10_fairest 97 = .ok (.getfield 10, 3) := by decide +kernel
theorem dX10_fairest_100 : decode cX10_fairest 100 = .ok (.invokevirtual 362, 3) := by decide +kernel
theorem dX10_fairest_103 : decode cX10_fairest 103 = .ok (.istore 5, 2) := by decide +kernel
theorem dX10_fairest_105 : decode cX10_fairest 105 = .ok (.iload 4, 2) := by decide +kernel
theorem dX10_fairest_107 : decode cX10_fairest 107 = .ok (.ifCond .eq 9, 3) := by decide +kernel
theorem dX10_fairest_116 : decode cX10_fairest 116 = .ok (.iload 5, 2) := by decide +kernel
theorem dX10_fairest_118 : decode cX10_fairest 118 = .ok (.istore_n 3, 1) := by decide +kernel
theorem dX10_fairest_119 : decode cX10_fairest 119 = .ok (.iload 4, 2) := by decide +kernel
theorem dX10_fairest_121 : decode cX10_fairest 121 = .ok (.istore_n 2, 1) := by decide +kernel
theorem dX10_fairest_122 : decode cX10_fairest 122 = .ok (.iinc 4 1, 3) := by decide +kernel
theorem dX10_fairest_125 : decode cX10_fairest 125 = .ok (.goto (-91), 3) := by decide +kernel
theorem dX10_fairest_128 : decode cX10_fairest 128 = .ok (.aload_n 0, 1) := by decide +kernel
theorem dX10_fairest_129 : decode cX10_fairest 129 = .ok (.iload_n 2, 1) := by decide +kernel
theorem dX10_fairest_130 : decode cX10_fairest 130 = .ok (.invokevirtual 339, 3) := by decide +kernel
theorem dX10_fairest_133 : decode cX10_fairest 133 = .ok (.iload_n 3, 1) := by decide +kernel
theorem dX10_fairest_134 : decode cX10_fairest 134 = .ok (.ireturn, 1) := by decide +kernel
theorem dX10_filled_0 : decode cX10_filled 0 = .ok (.aload_n 0, 1) := by decide +kernel
theorem dX10_filled_1 : decode cX10_filled 1 = .ok (.iload_n 1, 1) := by decide +kernel
theorem dX10_filled_2 : decode cX10_filled 2 = .ok (.invokevirtual 116, 3) := by decide +kernel
theorem dX10_findRotations_0 : decode cX10_findRotations 0 = .ok (.aload_n 0, 1) := by decide +kernel
theorem dX10_findRotations_1 : decode cX10_findRotations 1 = .ok (.getfield 37, 3) := by decide +kernel
theorem dX10_findRotations_4 : decode cX10_findRotations 4 = .ok (.aload_n 0, 1) := by decide +kernel
theorem dX10_findRotations_5 : decode cX10_findRotations 5 = .ok (.getfield 10, 3) := by decide +kernel
theorem dX10_findRotations_8 : decode cX10_findRotations 8 = .ok (.invokevirtual 300, 3) := by decide +kernel
theorem dX10_findRotations_11 : decode cX10_findRotations 11 = .ok (.ifCond .ne 14, 3) := by decide +kernel
theorem dX10_findRotations_25 : decode cX10_findRotations 25 = .ok (.aload_n 0, 1) := by decide +kernel
theorem dX10_findRotations_26 : decode cX10_findRotations 26 = .ok (.getfield 70, 3) := by decide +kernel
theorem dX10_findRotations_29 : decode cX10_findRotations 29 = .ok (.aload_n 0, 1) := by decide +kernel
theorem dX10_findRotations_30 : decode cX10_findRotations 30 = .ok (.getfield 10, 3) := by decide +kernel
theorem dX10_findRotations_33 : decode cX10_findRotations 33 = .ok (.aload_n 0, 1) := by decide +kernel
theorem dX10_findRotations_34 : decode cX10_findRotations 34 = .ok (.getfield 37, 3) := by decide +kernel
theorem dX10_findRotations_37 : decode cX10_findRotations 37 = .ok (.invokevirtual 329, 3) := by decide +kernel
theorem dX10_findRotations_40 : decode cX10_findRotations 40 = .ok (.return_, 1) := by decide +kernel
theorem dX10_gain_0 : decode cX10_gain 0 = .ok (.aload_n 0, 1) := by decide +kernel
theorem dX10_gain_1 : decode cX10_gain 1 = .ok (.iload_n 1, 1) := by decide +kernel
theorem dX10_gain_2 : decode cX10_gain 2 = .ok (.invokevirtual 365, 3) := by decide +kernel
theorem dX10_gatherStables_0 : decode cX10_gatherStables 0 = .ok (.aload_n 0, 1) := by decide +kernel
theorem dX10_gatherStables_1 : decode cX10_gatherStables 1 = .ok (.getfield 64, 3) := by decide +kernel
theorem dX10_gatherStables_4 : decode cX10_gatherStables 4 = .ok (.aload_n 0, 1) := by decide +kernel
theorem dX10_gatherStables_5 : decode cX10_gatherStables 5 = .ok (.getfield 10, 3) := by decide +kernel
theorem dX10_gatherStables_8 : decode cX10_gatherStables 8 = .ok (.aload_n 0, 1) := by decide +kernel
theorem dX10_gatherStables_9 : decode cX10_gatherStables 9 = .ok (.getfield 58, 3) := by decide +kernel
theorem dX10_gatherStables_12 : decode cX10_gatherStables 12 = .ok (.bipush 112, 2) := by decide +kernel
theorem dX10_gatherStables_14 : decode cX10_gatherStables 14 = .ok (.iconst 0, 1) := by decide +kernel
theorem dX10_gatherStables_15 : decode cX10_gatherStables 15 = .ok (.invokevirtual 238, 3) := by decide +kernel
theorem dX10_gatherStables_18 : decode cX10_gatherStables 18 = .ok (.aload_n 0, 1) := by decide +kernel
theorem dX10_gatherStables_19 : decode cX10_gatherStables 19 = .ok (.getfield 77, 3) := by decide +kernel
theorem dX10_gatherStables_22 : decode cX10_gatherStables 22 = .ok (.aload_n 0, 1) := by decide +kernel
theorem dX10_gatherStables_23 : decode cX10_gatherStables 23 = .ok (.getfield 10, 3) := by decide +kernel
theorem dX10_gatherStables_26 : decode cX10_gatherStables 26 = .ok (.aload_n 0, 1) := by decide +kernel
theorem dX10_gatherStables_27 : decode cX10_gatherStables 27 = .ok (.getfield 58, 3) := by decide +kernel
theorem dX10_gatherStables_30 : decode cX10_gatherStables 30 = .ok (.aload_n 0, 1) := by decide +kernel
theorem dX10_gatherStables_31 : decode cX10_gatherStables 31 = .ok (.getfield 70, 3) := by decide +kernel
theorem dX10_gatherStables_34 : decode cX10_gatherStables 34 = .ok (.invokevirtual 490, 3) := by decide +kernel
theorem dX10_gatherStables_37 : decode cX10_gatherStables 37 = .ok (.aload_n 0, 1) := by decide +kernel
theorem dX10_gatherStables_38 : decode cX10_gatherStables 38 = .ok (.getfield 77, 3) := by decide +kernel
theorem dX10_gatherStables_41 : decode cX10_gatherStables 41 = .ok (.getfield 336, 3) := by decide +kernel
theorem dX10_gatherStables_44 : decode cX10_gatherStables 44 = .ok (.bipush 60, 2) := by decide +kernel
theorem dX10_gatherStables_46 : decode cX10_gatherStables 46 = .ok (.if_icmp .le 14, 3) := by decide +kernel
theorem dX10_gatherStables_60 : decode cX10_gatherStables 60 = .ok (.return_, 1) := by decide +kernel
theorem dX10_give_0 : decode cX10_give 0 = .ok (.aload_n 0, 1) := by decide +kernel
theorem dX10_give_1 : decode cX10_give 1 = .ok (.getfield 51, 3) := by decide +kernel
theorem dX10_give_4 : decode cX10_give 4 = .ok (.iload_n 1, 1) := by decide +kernel
theorem dX10_give_5 : decode cX10_give 5 = .ok (.invokevirtual 414, 3) := by decide +kernel
theorem dX10_give_8 : decode cX10_give 8 = .ok (.ifCond .eq 19, 3) := by decide +kernel
theorem dX10_give_11 : decode cX10_give 11 = .ok (.aload_n 0, 1) := by decide +kernel
theorem dX10_give_12 : decode cX10_give 12 = .ok (.getfield 51, 3) := by decide +kernel
theorem dX10_give_15 : decode cX10_give 15 = .ok (.iload_n 2, 1) := by decide +kernel
theorem dX10_give_16 : decode cX10_give 16 = .ok (.invokevirtual 414, 3) := by decide +kernel
theorem dX10_give_19 : decode cX10_give 19 = .ok (.ifCond .eq 8, 3) := by decide +kernel
theorem dX10_give_22 : decode cX10_give 22 = .ok (.iload_n 1, 1) := by decide +kernel
theorem dX10_give_23 : decode cX10_give 23 = .ok (.iload_n 2, 1) := by decide +kernel
theorem dX10_give_24 : decode cX10_give 24 = .ok (.if_icmp .ne 14, 3) := by decide +kernel
theorem dX10_give_27 : decode cX10_give 27 = .ok (.new 120, 3) := by decide +kernel
theorem dX10_give_30 : decode cX10_give 30 = .ok (.dup, 1) := by decide +kernel
theorem dX10_give_31 : decode cX10_give 31 = .ok (.ldc_w 415, 3) := by decide +kernel
theorem dX10_give_34 : decode cX10_give 34 = .ok (.invokespecial 124, 3) := by decide +kernel
theorem dX10_give_37 : decode cX10_give 37 = .ok (.athrow, 1) := by decide +kernel
theorem dX10_give_38 : decode cX10_give 38 = .ok (.aload_n 0, 1) := by decide +kernel
theorem dX10_give_39 : decode cX10_give 39 = .ok (.getfield 51, 3) := by decide +kernel
theorem dX10_give_42 : decode cX10_give 42 = .ok (.iload_n 1, 1) := by decide +kernel
theorem dX10_give_43 : decode cX10_give 43 = .ok (.iload_n 2, 1) := by decide +kernel
theorem dX10_give_44 : decode cX10_give 44 = .ok (.invokevirtual 417, 3) := by decide +kernel
theorem dX10_give_47 : decode cX10_give 47 = .ok (.istore 4, 2) := by decide +kernel
theorem dX10_give_49 : decode cX10_give 49 = .ok (.aload_n 0, 1) := by decide +kernel
theorem dX10_give_50 : decode cX10_give 50 = .ok (.getfield 51, 3) := by decide +kernel
theorem dX10_give_53 : decode cX10_give 53 = .ok (.iload_n 1, 1) := by decide +kernel
theorem dX10_give_54 : decode cX10_give 54 = .ok (.iload_n 2, 1) := by decide +kernel
theorem dX10_give_55 : decode cX10_give 55 = .ok (.iload_n 3, 1) := by decide +kernel
theorem dX10_give_56 : decode cX10_give 56 = .ok (.invokevirtual 420, 3) := by decide +kernel
theorem dX10_give_59 : decode cX10_give 59 = .ok (.iload 4, 2) := by decide +kernel
theorem dX10_give_61 : decode cX10_give 61 = .ok (.ireturn, 1) := by decide +kernel
theorem dX10_held_0 : decode cX10_held 0 = .ok (.aload_n 0, 1) := by decide +kernel
theorem dX10_held_1 : decode cX10_held 1 = .ok (.iload_n 1, 1) := by decide +kernel
theorem dX10_held_2 : decode cX10_held 2 = .ok (.invokevirtual 116, 3) := by decide +kernel
theorem dX10_heldAt_0 : decode cX10_heldAt 0 = .ok (.aload_n 0, 1) := by decide +kernel
theorem dX10_heldAt_1 : decode cX10_heldAt 1 = .ok (.iload_n 1, 1) := by decide +kernel
theorem dX10_heldAt_2 : decode cX10_heldAt 2 = .ok (.invokevirtual 116, 3) := by decide +kernel
theorem dX10_helped_0 : decode cX10_helped 0 = .ok (.iload_n 1, 1) := by decide +kernel
theorem dX10_helped_1 : decode cX10_helped 1 = .ok (.iconst 2, 1) := by decide +kernel
theorem dX10_helped_2 : decode cX10_helped 2 = .ok (.if_icmp .lt 8, 3) := by decide +kernel
theorem dX10_helped_5 : decode cX10_helped 5 = .ok (.iload_n 1, 1) := by decide +kernel
theorem dX10_helped_6 : decode cX10_helped 6 = .ok (.iconst 3, 1) := by decide +kernel
theorem dX10_helped_7 : decode cX10_helped 7 = .ok (.if_icmp .le 14, 3) := by decide +kernel
theorem dX10_helped_10 : decode cX10_helped 10 = .ok (.new 120, 3) := by decide +kernel
theorem dX10_helped_13 : decode cX10_helped 13 = .ok (.dup, 1) := by decide +kernel
theorem dX10_helped_14 : decode cX10_helped 14 = .ok (.ldc_w 424, 3) := by decide +kernel
theorem dX10_helped_17 : decode cX10_helped 17 = .ok (.invokespecial 124, 3) := by decide +kernel
theorem dX10_helped_20 : decode cX10_helped 20 = .ok (.athrow, 1) := by decide +kernel
theorem dX10_helped_21 : decode cX10_helped 21 = .ok (.aload_n 0, 1) := by decide +kernel
theorem dX10_helped_22 : decode cX10_helped 22 = .ok (.getfield 51, 3) := by decide +kernel
theorem dX10_helped_25 : decode cX10_helped 25 = .ok (.iload_n 1, 1) := by decide +kernel
theorem dX10_helped_26 : decode cX10_helped 26 = .ok (.invokevirtual 426, 3) := by decide +kernel
theorem dX10_helped_29 : decode cX10_helped 29 = .ok (.ireturn, 1) := by decide +kernel
theorem dX10_houseOf_0 : decode cX10_houseOf 0 = .ok (.aload_n 0, 1) := by decide +kernel
theorem dX10_houseOf_1 : decode cX10_houseOf 1 = .ok (.iload_n 1, 1) := by decide +kernel
theorem dX10_houseOf_2 : decode cX10_houseOf 2 = .ok (.invokevirtual 254, 3) := by decide +kernel
theorem dX10_housesHoldTheorem_0 : decode cX10_housesHoldTheorem 0 = .ok (.iconst 0, 1) := by decide +kernel
theorem dX10_housesHoldTheorem_1 : decode cX10_housesHoldTheorem 1 = .ok (.istore_n 1, 1) := by decide +kernel
theorem dX10_housesHoldTheorem_2 : decode cX10_housesHoldTheorem 2 = .ok (.iload_n 1, 1) := by decide +kernel
theorem dX10_housesHoldTheorem_3 : decode cX10_housesHoldTheorem 3 = .ok (.aload_n 0, 1) := by decide +kernel
theorem dX10_housesHoldTheorem_4 : decode cX10_housesHoldTheorem 4 = .ok (.getfield 10, 3) := by decide +kernel
theorem dX10_housesHoldTheorem_7 : decode cX10_housesHoldTheorem 7 = .ok (.getfield 368, 3) := by decide +kernel
theorem dX10_housesHoldTheorem_10 : decode cX10_housesHoldTheorem 10 = .ok (.getfield 99, 3) := by decide +kernel
theorem dX10_housesHoldTheorem_13 : decode cX10_housesHoldTheorem 13 = .ok (.if_icmp .ge 134, 3) := by decide +kernel
theorem dX10_housesHoldTheorem_147 : decode cX10_housesHoldTheorem 147 = .ok (.iconst 1, 1) := by decide +kernel
theorem dX10_housesHoldTheorem_148 : decode cX10_housesHoldTheorem 148 = .ok (.ireturn, 1) := by decide +kernel
theorem dX10_init_0 : decode cX10_init 0 = .ok (.aload_n 0, 1) := by decide +kernel
theorem dX10_init_1 : decode cX10_init 1 = .ok (.invokespecial 1, 3) := by decide +kernel
theorem dX10_init_4 : decode cX10_init 4 = .ok (.aload_n 0, 1) := by decide +kernel
theorem dX10_init_5 : decode cX10_init 5 = .ok (.new 7, 3) := by decide +kernel
theorem dX10_init_8 : decode cX10_init 8 = .ok (.dup, 1) := by decide +kernel
theorem dX10_init_9 : decode cX10_init 9 = .ok (.invokespecial 9, 3) := by decide +kernel
theorem dX10_init_12 : decode cX10_init 12 = .ok (.putfield 10, 3) := by decide +kernel
theorem dX10_init_15 : decode cX10_init 15 = .ok (.aload_n 0, 1) := by decide +kernel
theorem dX10_init_16 : decode cX10_init 16 = .ok (.new 16, 3) := by decide +kernel
theorem dX10_init_19 : decode cX10_init 19 = .ok (.dup, 1) := by decide +kernel
theorem dX10_init_20 : decode cX10_init 20 = .ok (.invokespecial 18, 3) := by decide +kernel
theorem dX10_init_23 : decode cX10_init 23 = .ok (.putfield 19, 3) := by decide +kernel
theorem dX10_init_26 : decode cX10_init 26 = .ok (.aload_n 0, 1) := by decide +kernel
theorem dX10_init_27 : decode cX10_init 27 = .ok (.bipush 10, 2) := by decide +kernel
theorem dX10_init_29 : decode cX10_init 29 = .ok (.newarray .int, 2) := by decide +kernel
theorem dX10_init_31 : decode cX10_init 31 = .ok (.putfield 23, 3) := by decide +kernel
theorem dX10_init_34 : decode cX10_init 34 = .ok (.aload_n 0, 1) := by decide +kernel
theorem dX10_init_35 : decode cX10_init 35 = .ok (.new 27, 3) := by decide +kernel
theorem dX10_init_38 : decode cX10_init 38 = .ok (.dup, 1) := by decide +kernel
theorem dX10_init_39 : decode cX10_init 39 = .ok (.invokespecial 29, 3) := by decide +kernel
theorem dX10_init_42 : decode cX10_init 42 = .ok (.putfield 30, 3) := by decide +kernel
theorem dX10_init_45 : decode cX10_init 45 = .ok (.aload_n 0, 1) := by decide +kernel
theorem dX10_init_46 : decode cX10_init 46 = .ok (.new 34, 3) := by decide +kernel
theorem dX10_init_49 : decode cX10_init 49 = .ok (.dup, 1) := by decide +kernel
theorem dX10_init_50 : decode cX10_init 50 = .ok (.invokespecial 36, 3) := by decide +kernel
theorem dX10_init_53 : decode cX10_init 53 = .ok (.putfield 37, 3) := by decide +kernel
theorem dX10_init_56 : decode cX10_init 56 = .ok (.aload_n 0, 1) := by decide +kernel
theorem dX10_init_57 : decode cX10_init 57 = .ok (.new 41, 3) := by decide +kernel
theorem dX10_init_60 : decode cX10_init 60 = .ok (.dup, 1) := by decide +kernel
theorem dX10_init_61 : decode cX10_init 61 = .ok (.invokespecial 43, 3) := by decide +kernel
theorem dX10_init_64 : decode cX10_init 64 = .ok (.putfield 44, 3) := by decide +kernel
theorem dX10_init_67 : decode cX10_init 67 = .ok (.aload_n 0, 1) := by decide +kernel
theorem dX10_init_68 : decode cX10_init 68 = .ok (.new 48, 3) := by decide +kernel
theorem dX10_init_71 : decode cX10_init 71 = .ok (.dup, 1) := by decide +kernel
theorem dX10_init_72 : decode cX10_init 72 = .ok (.invokespecial 50, 3) := by decide +kernel
theorem dX10_init_75 : decode cX10_init 75 = .ok (.putfield 51, 3) := by decide +kernel
theorem dX10_init_78 : decode cX10_init 78 = .ok (.aload_n 0, 1) := by decide +kernel
theorem dX10_init_79 : decode cX10_init 79 = .ok (.new 7, 3) := by decide +kernel
theorem dX10_init_82 : decode cX10_init 82 = .ok (.dup, 1) := by decide +kernel
theorem dX10_init_83 : decode cX10_init 83 = .ok (.invokespecial 9, 3) := by decide +kernel
theorem dX10_init_86 : decode cX10_init 86 = .ok (.putfield 55, 3) := by decide +kernel
theorem dX10_init_89 : decode cX10_init 89 = .ok (.aload_n 0, 1) := by decide +kernel
theorem dX10_init_90 : decode cX10_init 90 = .ok (.new 34, 3) := by decide +kernel
theorem dX10_init_93 : decode cX10_init 93 = .ok (.dup, 1) := by decide +kernel
theorem dX10_init_94 : decode cX10_init 94 = .ok (.invokespecial 36, 3) := by decide +kernel
theorem dX10_init_97 : decode cX10_init 97 = .ok (.putfield 58, 3) := by decide +kernel
theorem dX10_init_100 : decode cX10_init 100 = .ok (.aload_n 0, 1) := by decide +kernel
theorem dX10_init_101 : decode cX10_init 101 = .ok (.new 34, 3) := by decide +kernel
theorem dX10_init_104 : decode cX10_init 104 = .ok (.dup, 1) := by decide +kernel
theorem dX10_init_105 : decode cX10_init 105 = .ok (.invokespecial 36, 3) := by decide +kernel
theorem dX10_init_108 : decode cX10_init 108 = .ok (.putfield 61, 3) := by decide +kernel
theorem dX10_init_111 : decode cX10_init 111 = .ok (.aload_n 0, 1) := by decide +kernel
theorem dX10_init_112 : decode cX10_init 112 = .ok (.new 41, 3) := by decide +kernel
theorem dX10_init_115 : decode cX10_init 115 = .ok (.dup, 1) := by decide +kernel
theorem dX10_init_116 : decode cX10_init 116 = .ok (.invokespecial 43, 3) := by decide +kernel
theorem dX10_init_119 : decode cX10_init 119 = .ok (.putfield 64, 3) := by decide +kernel
theorem dX10_init_122 : decode cX10_init 122 = .ok (.aload_n 0, 1) := by decide +kernel
theorem dX10_init_123 : decode cX10_init 123 = .ok (.new 67, 3) := by decide +kernel
theorem dX10_init_126 : decode cX10_init 126 = .ok (.dup, 1) := by decide +kernel
theorem dX10_init_127 : decode cX10_init 127 = .ok (.invokespecial 69, 3) := by decide +kernel
theorem dX10_init_130 : decode cX10_init 130 = .ok (.putfield 70, 3) := by decide +kernel
theorem dX10_init_133 : decode cX10_init 133 = .ok (.aload_n 0, 1) := by decide +kernel
theorem dX10_init_134 : decode cX10_init 134 = .ok (.new 74, 3) := by decide +kernel
theorem dX10_init_137 : decode cX10_init 137 = .ok (.dup, 1) := by decide +kernel
theorem dX10_init_138 : decode cX10_init 138 = .ok (.invokespecial 76, 3) := by decide +kernel
theorem dX10_init_141 : decode cX10_init 141 = .ok (.putfield 77, 3) := by decide +kernel
theorem dX10_init_144 : decode cX10_init 144 = .ok (.aload_n 0, 1) := by decide +kernel
theorem dX10_init_145 : decode cX10_init 145 = .ok (.new 81, 3) := by decide +kernel
theorem dX10_init_148 : decode cX10_init 148 = .ok (.dup, 1) := by decide +kernel
theorem dX10_init_149 : decode cX10_init 149 = .ok (.invokespecial 83, 3) := by decide +kernel
theorem dX10_init_152 : decode cX10_init 152 = .ok (.putfield 84, 3) := by decide +kernel
theorem dX10_init_155 : decode cX10_init 155 = .ok (.aload_n 0, 1) := by decide +kernel
theorem dX10_init_156 : decode cX10_init 156 = .ok (.new 88, 3) := by decide +kernel
theorem dX10_init_159 : decode cX10_init 159 = .ok (.dup, 1) := by decide +kernel
theorem dX10_init_160 : decode cX10_init 160 = .ok (.invokespecial 90, 3) := by decide +kernel
theorem dX10_init_163 : decode cX10_init 163 = .ok (.putfield 91, 3) := by decide +kernel
theorem dX10_init_166 : decode cX10_init 166 = .ok (.return_, 1) := by decide +kernel
theorem dX10_isStable_0 : decode cX10_isStable 0 = .ok (.aload_n 0, 1) := by decide +kernel
theorem dX10_isStable_1 : decode cX10_isStable 1 = .ok (.getfield 37, 3) := by decide +kernel
theorem dX10_isStable_4 : decode cX10_isStable 4 = .ok (.aload_n 0, 1) := by decide +kernel
theorem dX10_isStable_5 : decode cX10_isStable 5 = .ok (.getfield 10, 3) := by decide +kernel
theorem dX10_isStable_8 : decode cX10_isStable 8 = .ok (.invokevirtual 300, 3) := by decide +kernel
theorem dX10_isStable_11 : decode cX10_isStable 11 = .ok (.ireturn, 1) := by decide +kernel
theorem dX10_isTrue_0 : decode cX10_isTrue 0 = .ok (.aload_n 0, 1) := by decide +kernel
theorem dX10_isTrue_1 : decode cX10_isTrue 1 = .ok (.getfield 64, 3) := by decide +kernel
theorem dX10_isTrue_4 : decode cX10_isTrue 4 = .ok (.aload_n 0, 1) := by decide +kernel
theorem dX10_isTrue_5 : decode cX10_isTrue 5 = .ok (.getfield 10, 3) := by decide +kernel
theorem dX10_isTrue_8 : decode cX10_isTrue 8 = .ok (.aload_n 0, 1) := by decide +kernel
theorem dX10_isTrue_9 : decode cX10_isTrue 9 = .ok (.getfield 58, 3) := by decide +kernel
theorem dX10_isTrue_12 : decode cX10_isTrue 12 = .ok (.bipush 112, 2) := by decide +kernel
theorem dX10_isTrue_14 : decode cX10_isTrue 14 = .ok (.iconst 0, 1) := by decide +kernel
theorem dX10_isTrue_15 : decode cX10_isTrue 15 = .ok (.invokevirtual 238, 3) := by decide +kernel
theorem dX10_isTrue_18 : decode cX10_isTrue 18 = .ok (.aload_n 0, 1) := by decide +kernel
theorem dX10_isTrue_19 : decode cX10_isTrue 19 = .ok (.getfield 64, 3) := by decide +kernel
theorem dX10_isTrue_22 : decode cX10_isTrue 22 = .ok (.aload_n 0, 1) := by decide +kernel
theorem dX10_isTrue_23 : decode cX10_isTrue 23 = .ok (.getfield 10, 3) := by decide +kernel
theorem dX10_isTrue_26 : decode cX10_isTrue 26 = .ok (.aload_n 0, 1) := by decide +kernel
theorem dX10_isTrue_27 : decode cX10_isTrue 27 = .ok (.getfield 61, 3) := by decide +kernel
theorem dX10_isTrue_30 : decode cX10_isTrue 30 = .ok (.bipush 112, 2) := by decide +kernel
theorem dX10_isTrue_32 : decode cX10_isTrue 32 = .ok (.iconst 1, 1) := by decide +kernel
theorem dX10_isTrue_33 : decode cX10_isTrue 33 = .ok (.invokevirtual 238, 3) := by decide +kernel
theorem dX10_isTrue_36 : decode cX10_isTrue 36 = .ok (.aload_n 0, 1) := by decide +kernel
theorem dX10_isTrue_37 : decode cX10_isTrue 37 = .ok (.getfield 58, 3) := by decide +kernel
theorem dX10_isTrue_40 : decode cX10_isTrue 40 = .ok (.aload_n 0, 1) := by decide +kernel
theorem dX10_isTrue_41 : decode cX10_isTrue 41 = .ok (.getfield 61, 3) := by decide +kernel
theorem dX10_isTrue_44 : decode cX10_isTrue 44 = .ok (.invokevirtual 381, 3) := by decide +kernel
theorem dX10_isTrue_47 : decode cX10_isTrue 47 = .ok (.ifCond .eq 5, 3) := by decide +kernel
theorem dX10_isTrue_52 : decode cX10_isTrue 52 = .ok (.aload_n 0, 1) := by decide +kernel
theorem dX10_isTrue_53 : decode cX10_isTrue 53 = .ok (.getfield 64, 3) := by decide +kernel
theorem dX10_isTrue_56 : decode cX10_isTrue 56 = .ok (.aload_n 0, 1) := by decide +kernel
theorem dX10_isTrue_57 : decode cX10_isTrue 57 = .ok (.getfield 10, 3) := by decide +kernel
theorem dX10_isTrue_60 : decode cX10_isTrue 60 = .ok (.aload_n 0, 1) := by decide +kernel
theorem dX10_isTrue_61 : decode cX10_isTrue 61 = .ok (.getfield 61, 3) := by decide +kernel
theorem dX10_isTrue_64 : decode cX10_isTrue 64 = .ok (.bipush 104, 2) := by decide +kernel
theorem dX10_isTrue_66 : decode cX10_isTrue 66 = .ok (.iconst 0, 1) := by decide +kernel
theorem dX10_isTrue_67 : decode cX10_isTrue 67 = .ok (.invokevirtual 238, 3) := by decide +kernel
theorem dX10_isTrue_70 : decode cX10_isTrue 70 = .ok (.aload_n 0, 1) := by decide +kernel
theorem dX10_isTrue_71 : decode cX10_isTrue 71 = .ok (.getfield 58, 3) := by decide +kernel
theorem dX10_isTrue_74 : decode cX10_isTrue 74 = .ok (.aload_n 0, 1) := by decide +kernel
theorem dX10_isTrue_75 : decode cX10_isTrue 75 = .ok (.getfield 10, 3) := by decide +kernel
theorem dX10_isTrue_78 : decode cX10_isTrue 78 = .ok (.invokevirtual 300, 3) := by decide +kernel
theorem dX10_isTrue_81 : decode cX10_isTrue 81 = .ok (.ifCond .eq 42, 3) := by decide +kernel
theorem dX10_isTrue_84 : decode cX10_isTrue 84 = .ok (.aload_n 0, 1) := by decide +kernel
theorem dX10_isTrue_85 : decode cX10_isTrue 85 = .ok (.getfield 61, 3) := by decide +kernel
theorem dX10_isTrue_88 : decode cX10_isTrue 88 = .ok (.aload_n 0, 1) := by decide +kernel
theorem dX10_isTrue_89 : decode cX10_isTrue 89 = .ok (.getfield 10, 3) := by decide +kernel
theorem dX10_isTrue_92 : decode cX10_isTrue 92 = .ok (.invokevirtual 300, 3) := by decide +kernel
theorem dX10_isTrue_95 : decode cX10_isTrue 95 = .ok (.ifCond .eq 28, 3) := by decide +kernel
theorem dX10_isTrue_98 : decode cX10_isTrue 98 = .ok (.aload_n 0, 1) := by decide +kernel
theorem dX10_isTrue_99 : decode cX10_isTrue 99 = .ok (.invokevirtual 452, 3) := by decide +kernel
theorem dX10_isTrue_102 : decode cX10_isTrue 102 = .ok (.ifCond .eq 21, 3) := by decide +kernel
theorem dX10_isTrue_105 : decode cX10_isTrue 105 = .ok (.aload_n 0, 1) := by decide +kernel
theorem dX10_isTrue_106 : decode cX10_isTrue 106 = .ok (.invokevirtual 456, 3) := by decide +kernel
theorem dX10_isTrue_109 : decode cX10_isTrue 109 = .ok (.ifCond .eq 14, 3) := by decide +kernel
theorem dX10_isTrue_112 : decode cX10_isTrue 112 = .ok (.aload_n 0, 1) := by decide +kernel
theorem dX10_isTrue_113 : decode cX10_isTrue 113 = .ok (.invokevirtual 459, 3) := by decide +kernel
theorem dX10_isTrue_116 : decode cX10_isTrue 116 = .ok (.ifCond .eq 7, 3) := by decide +kernel
theorem dX10_isTrue_119 : decode cX10_isTrue 119 = .ok (.iconst 1, 1) := by decide +kernel
theorem dX10_isTrue_120 : decode cX10_isTrue 120 = .ok (.goto 4, 3) := by decide +kernel
theorem dX10_isTrue_124 : decode cX10_isTrue 124 = .ok (.ireturn, 1) := by decide +kernel
theorem dX10_lacks_0 : decode cX10_lacks 0 = .ok (.aload_n 0, 1) := by decide +kernel
theorem dX10_lacks_1 : decode cX10_lacks 1 = .ok (.iload_n 1, 1) := by decide +kernel
theorem dX10_lacks_2 : decode cX10_lacks 2 = .ok (.invokevirtual 116, 3) := by decide +kernel
theorem dX10_least_0 : decode cX10_least 0 = .ok (.aload_n 0, 1) := by decide +kernel
theorem dX10_least_1 : decode cX10_least 1 = .ok (.iload_n 1, 1) := by decide +kernel
theorem dX10_least_2 : decode cX10_least 2 = .ok (.invokevirtual 116, 3) := by decide +kernel
theorem dX10_length_0 : decode cX10_length 0 = .ok (.aload_n 0, 1) := by decide +kernel
theorem dX10_length_1 : decode cX10_length 1 = .ok (.iload_n 1, 1) := by decide +kernel
theorem dX10_length_2 : decode cX10_length 2 = .ok (.iload_n 2, 1) := by decide +kernel
theorem dX10_length_3 : decode cX10_length 3 = .ok (.invokevirtual 161, 3) := by decide +kernel
theorem dX10_letAllGo_0 : decode cX10_letAllGo 0 = .ok (.aload_n 0, 1) := by decide +kernel
theorem dX10_letAllGo_1 : decode cX10_letAllGo 1 = .ok (.getfield 37, 3) := by decide +kernel
theorem dX10_letAllGo_4 : decode cX10_letAllGo 4 = .ok (.invokevirtual 201, 3) := by decide +kernel
theorem dX10_letAllGo_7 : decode cX10_letAllGo 7 = .ok (.aload_n 0, 1) := by decide +kernel
theorem dX10_letAllGo_8 : decode cX10_letAllGo 8 = .ok (.getfield 44, 3) := by decide +kernel
theorem dX10_letAllGo_11 : decode cX10_letAllGo 11 = .ok (.invokevirtual 275, 3) := by decide +kernel
theorem dX10_letAllGo_14 : decode cX10_letAllGo 14 = .ok (.return_, 1) := by decide +kernel
theorem dX10_lie_0 : decode cX10_lie 0 = .ok (.aload_n 0, 1) := by decide +kernel
theorem dX10_lie_1 : decode cX10_lie 1 = .ok (.iload_n 1, 1) := by decide +kernel
theorem dX10_lie_2 : decode cX10_lie 2 = .ok (.invokevirtual 254, 3) := by decide +kernel
theorem dX10_many_0 : decode cX10_many 0 = .ok (.aload_n 0, 1) := by decide +kernel
theorem dX10_many_1 : decode cX10_many 1 = .ok (.iload_n 1, 1) := by decide +kernel
theorem dX10_many_2 : decode cX10_many 2 = .ok (.invokevirtual 95, 3) := by decide +kernel
theorem dX10_many_5 : decode cX10_many 5 = .ok (.getfield 99, 3) := by decide +kernel
theorem dX10_many_8 : decode cX10_many 8 = .ok (.ireturn, 1) := by decide +kernel
theorem dX10_meanRank_0 : decode cX10_meanRank 0 = .ok (.aload_n 0, 1) := by decide +kernel
theorem dX10_meanRank_1 : decode cX10_meanRank 1 = .ok (.iload_n 1, 1) := by decide +kernel
theorem dX10_meanRank_2 : decode cX10_meanRank 2 = .ok (.invokevirtual 198, 3) := by decide +kernel
theorem dX10_meanRank_5 : decode cX10_meanRank 5 = .ok (.aload_n 0, 1) := by decide +kernel
theorem dX10_meanRank_6 : decode cX10_meanRank 6 = .ok (.getfield 37, 3) := by decide +kernel
theorem dX10_meanRank_9 : decode cX10_meanRank 9 = .ok (.invokevirtual 342, 3) := by decide +kernel
theorem dX10_meanRank_12 : decode cX10_meanRank 12 = .ok (.istore_n 2, 1) := by decide +kernel
theorem dX10_meanRank_13 : decode cX10_meanRank 13 = .ok (.iload_n 2, 1) := by decide +kernel
theorem dX10_meanRank_14 : decode cX10_meanRank 14 = .ok (.ifCond .ne 14, 3) := by decide +kernel
theorem dX10_meanRank_17 : decode cX10_meanRank 17 = .ok (.new 429, 3) := by decide +kernel
theorem dX10_meanRank_20 : decode cX10_meanRank 20 = .ok (.dup, 1) := by decide +kernel
theorem dX10_meanRank_21 : decode cX10_meanRank 21 = .ok (.ldc_w 431, 3) := by decide +kernel
theorem dX10_meanRank_24 : decode cX10_meanRank 24 = .ok (.invokespecial 433, 3) := by decide +kernel
theorem dX10_meanRank_27 : decode cX10_meanRank 27 = .ok (.athrow, 1) := by decide +kernel
theorem dX10_needFewMates_0 : decode cX10_needFewMates 0 = .ok (.aload_n 0, 1) := by decide +kernel
theorem dX10_needFewMates_1 : decode cX10_needFewMates 1 = .ok (.getfield 19, 3) := by decide +kernel
theorem dX10_needFewMates_4 : decode cX10_needFewMates 4 = .ok (.getfield 99, 3) := by decide +kernel
theorem dX10_needFewMates_7 : decode cX10_needFewMates 7 = .ok (.bipush 8, 2) := by decide +kernel
theorem dX10_needFewMates_9 : decode cX10_needFewMates 9 = .ok (.if_icmp .le 14, 3) := by decide +kernel
theorem dX10_needFewMates_23 : decode cX10_needFewMates 23 = .ok (.return_, 1) := by decide +kernel
theorem dX10_needHouse_0 : decode cX10_needHouse 0 = .ok (.aload_n 0, 1) := by decide +kernel
theorem dX10_needHouse_1 : decode cX10_needHouse 1 = .ok (.getfield 10, 3) := by decide +kernel
theorem dX10_needHouse_4 : decode cX10_needHouse 4 = .ok (.getfield 368, 3) := by decide +kernel
theorem dX10_needHouse_7 : decode cX10_needHouse 7 = .ok (.iload_n 1, 1) := by decide +kernel
theorem dX10_needHouse_8 : decode cX10_needHouse 8 = .ok (.invokevirtual 216, 3) := by decide +kernel
theorem dX10_needHouse_11 : decode cX10_needHouse 11 = .ok (.ifCond .ne 14, 3) := by decide +kernel
theorem dX10_needHouse_14 : decode cX10_needHouse 14 = .ok (.new 220, 3) := by decide +kernel
theorem dX10_needHouse_17 : decode cX10_needHouse 17 = .ok (.dup, 1) := by decide +kernel
theorem dX10_needHouse_18 : decode cX10_needHouse 18 = .ok (.ldc_w 470, 3) := by decide +kernel
theorem dX10_needHouse_21 : decode cX10_needHouse 21 = .ok (.invokespecial 224, 3) := by decide +kernel
theorem dX10_needHouse_24 : decode cX10_needHouse 24 = .ok (.athrow, 1) := by decide +kernel
theorem dX10_needHouseOfOnePlace_0 : decode cX10_needHouseOfOnePlace 0 = .ok (.aload_n 0, 1) := by decide +kernel
theorem dX10_needHouseOfOnePlace_1 : decode cX10_needHouseOfOnePlace 1 = .ok (.iload_n 1, 1) := by decide +kernel
theorem dX10_needHouseOfOnePlace_2 : decode cX10_needHouseOfOnePlace 2 = .ok (.invokevirtual 116, 3) := by decide +kernel
theorem dX10_needOfferIndex_0 : decode cX10_needOfferIndex 0 = .ok (.iload_n 1, 1) := by decide +kernel
theorem dX10_needOfferIndex_1 : decode cX10_needOfferIndex 1 = .ok (.ifCond .lt 14, 3) := by decide +kernel
theorem dX10_needOfferIndex_4 : decode cX10_needOfferIndex 4 = .ok (.iload_n 1, 1) := by decide +kernel
theorem dX10_needOfferIndex_5 : decode cX10_needOfferIndex 5 = .ok (.aload_n 0, 1) := by decide +kernel
theorem dX10_needOfferIndex_6 : decode cX10_needOfferIndex 6 = .ok (.getfield 44, 3) := by decide +kernel
theorem dX10_needOfferIndex_9 : decode cX10_needOfferIndex 9 = .ok (.getfield 242, 3) := by decide +kernel
theorem dX10_needOfferIndex_12 : decode cX10_needOfferIndex 12 = .ok (.if_icmp .lt 14, 3) := by decide +kernel
theorem dX10_needOfferIndex_15 : decode cX10_needOfferIndex 15 = .ok (.new 152, 3) := by decide +kernel
theorem dX10_needOfferIndex_18 : decode cX10_needOfferIndex 18 = .ok (.dup, 1) := by decide +kernel
theorem dX10_needOfferIndex_19 : decode cX10_needOfferIndex 19 = .ok (.ldc_w 480, 3) := by decide +kernel
theorem dX10_needOfferIndex_22 : decode cX10_needOfferIndex 22 = .ok (.invokespecial 156, 3) := by decide +kernel
theorem dX10_needOfferIndex_25 : decode cX10_needOfferIndex 25 = .ok (.athrow, 1) := by decide +kernel
theorem dX10_needOfferSide_0 : decode cX10_needOfferSide 0 = .ok (.iload_n 1, 1) := by decide +kernel
theorem dX10_needOfferSide_1 : decode cX10_needOfferSide 1 = .ok (.bipush 112, 2) := by decide +kernel
theorem dX10_needOfferSide_3 : decode cX10_needOfferSide 3 = .ok (.if_icmp .eq 20, 3) := by decide +kernel
theorem dX10_needOfferSide_6 : decode cX10_needOfferSide 6 = .ok (.iload_n 1, 1) := by decide +kernel
theorem dX10_needOfferSide_7 : decode cX10_needOfferSide 7 = .ok (.bipush 104, 2) := by decide +kernel
theorem dX10_needOfferSide_9 : decode cX10_needOfferSide 9 = .ok (.if_icmp .eq 14, 3) := by decide +kernel
theorem dX10_needOfferSide_12 : decode cX10_needOfferSide 12 = .ok (.new 120, 3) := by decide +kernel
theorem dX10_needOfferSide_15 : decode cX10_needOfferSide 15 = .ok (.dup, 1) := by decide +kernel
theorem dX10_needOfferSide_16 : decode cX10_needOfferSide 16 = .ok (.ldc_w 466, 3) := by decide +kernel
theorem dX10_needOfferSide_19 : decode cX10_needOfferSide 19 = .ok (.invokespecial 124, 3) := by decide +kernel
theorem dX10_needOfferSide_22 : decode cX10_needOfferSide 22 = .ok (.athrow, 1) := by decide +kernel
theorem dX10_needOfferSide_23 : decode cX10_needOfferSide 23 = .ok (.return_, 1) := by decide +kernel
theorem dX10_needOffers_0 : decode cX10_needOffers 0 = .ok (.aload_n 0, 1) := by decide +kernel
theorem dX10_needOffers_1 : decode cX10_needOffers 1 = .ok (.getfield 44, 3) := by decide +kernel
theorem dX10_needOffers_4 : decode cX10_needOffers 4 = .ok (.getfield 474, 3) := by decide +kernel
theorem dX10_needOffers_7 : decode cX10_needOffers 7 = .ok (.ifCond .ne 14, 3) := by decide +kernel
theorem dX10_needOffers_10 : decode cX10_needOffers 10 = .ok (.new 103, 3) := by decide +kernel
theorem dX10_needOffers_13 : decode cX10_needOffers 13 = .ok (.dup, 1) := by decide +kernel
theorem dX10_needOffers_14 : decode cX10_needOffers 14 = .ok (.ldc_w 478, 3) := by decide +kernel
theorem dX10_needOffers_17 : decode cX10_needOffers 17 = .ok (.invokespecial 107, 3) := by decide +kernel
theorem dX10_needOffers_20 : decode cX10_needOffers 20 = .ok (.athrow, 1) := by decide +kernel
theorem dX10_needOne_0 : decode cX10_needOne 0 = .ok (.aload_n 0, 1) := by decide +kernel
theorem dX10_needOne_1 : decode cX10_needOne 1 = .ok (.iload_n 1, 1) := by decide +kernel
theorem dX10_needOne_2 : decode cX10_needOne 2 = .ok (.invokevirtual 95, 3) := by decide +kernel
theorem dX10_needOne_5 : decode cX10_needOne 5 = .ok (.astore_n 3, 1) := by decide +kernel
theorem dX10_needOne_6 : decode cX10_needOne 6 = .ok (.aload_n 3, 1) := by decide +kernel
theorem dX10_needOne_7 : decode cX10_needOne 7 = .ok (.iload_n 2, 1) := by decide +kernel
theorem dX10_needOne_8 : decode cX10_needOne 8 = .ok (.invokevirtual 216, 3) := by decide +kernel
theorem dX10_needOne_11 : decode cX10_needOne 11 = .ok (.ifCond .ne 14, 3) := by decide +kernel
theorem dX10_needOne_14 : decode cX10_needOne 14 = .ok (.new 220, 3) := by decide +kernel
theorem dX10_needOne_17 : decode cX10_needOne 17 = .ok (.dup, 1) := by decide +kernel
theorem dX10_needOne_18 : decode cX10_needOne 18 = .ok (.ldc_w 464, 3) := by decide +kernel
theorem dX10_needOne_21 : decode cX10_needOne 21 = .ok (.invokespecial 224, 3) := by decide +kernel
theorem dX10_needOne_24 : decode cX10_needOne 24 = .ok (.athrow, 1) := by decide +kernel
theorem dX10_needOwners_0 : decode cX10_needOwners 0 = .ok (.aload_n 0, 1) := by decide +kernel
theorem dX10_needOwners_1 : decode cX10_needOwners 1 = .ok (.getfield 10, 3) := by decide +kernel
theorem dX10_needOwners_4 : decode cX10_needOwners 4 = .ok (.getfield 352, 3) := by decide +kernel
theorem dX10_needOwners_7 : decode cX10_needOwners 7 = .ok (.getfield 99, 3) := by decide +kernel
theorem dX10_needOwners_10 : decode cX10_needOwners 10 = .ok (.aload_n 0, 1) := by decide +kernel
theorem dX10_needOwners_11 : decode cX10_needOwners 11 = .ok (.getfield 10, 3) := by decide +kernel
theorem dX10_needOwners_14 : decode cX10_needOwners 14 = .ok (.getfield 368, 3) := by decide +kernel
theorem dX10_needOwners_17 : decode cX10_needOwners 17 = .ok (.getfield 99, 3) := by decide +kernel
theorem dX10_needOwners_20 : decode cX10_needOwners 20 = .ok (.if_icmp .eq 14, 3) := by decide +kernel
theorem dX10_needOwners_34 : decode cX10_needOwners 34 = .ok (.return_, 1) := by decide +kernel
theorem dX10_needPerson_0 : decode cX10_needPerson 0 = .ok (.aload_n 0, 1) := by decide +kernel
theorem dX10_needPerson_1 : decode cX10_needPerson 1 = .ok (.getfield 10, 3) := by decide +kernel
theorem dX10_needPerson_4 : decode cX10_needPerson 4 = .ok (.getfield 352, 3) := by decide +kernel
theorem dX10_needPerson_7 : decode cX10_needPerson 7 = .ok (.iload_n 1, 1) := by decide +kernel
theorem dX10_needPerson_8 : decode cX10_needPerson 8 = .ok (.invokevirtual 216, 3) := by decide +kernel
theorem dX10_needPerson_11 : decode cX10_needPerson 11 = .ok (.ifCond .ne 14, 3) := by decide +kernel
theorem dX10_needPerson_14 : decode cX10_needPerson 14 = .ok (.new 220, 3) := by decide +kernel
theorem dX10_needPerson_17 : decode cX10_needPerson 17 = .ok (.dup, 1) := by decide +kernel
theorem dX10_needPerson_18 : decode cX10_needPerson 18 = .ok (.ldc_w 468, 3) := by decide +kernel
theorem dX10_needPerson_21 : decode cX10_needPerson 21 = .ok (.invokespecial 224, 3) := by decide +kernel
theorem dX10_needPerson_24 : decode cX10_needPerson 24 = .ok (.athrow, 1) := by decide +kernel
theorem dX10_needRotation_0 : decode cX10_needRotation 0 = .ok (.aload_n 0, 1) := by decide +kernel
theorem dX10_needRotation_1 : decode cX10_needRotation 1 = .ok (.invokevirtual 312, 3) := by decide +kernel
theorem dX10_needRotation_4 : decode cX10_needRotation 4 = .ok (.iload_n 1, 1) := by decide +kernel
theorem dX10_needRotation_5 : decode cX10_needRotation 5 = .ok (.ifCond .lt 14, 3) := by decide +kernel
theorem dX10_needRotation_8 : decode cX10_needRotation 8 = .ok (.iload_n 1, 1) := by decide +kernel
theorem dX10_needRotation_9 : decode cX10_needRotation 9 = .ok (.aload_n 0, 1) := by decide +kernel
theorem dX10_needRotation_10 : decode cX10_needRotation 10 = .ok (.getfield 70, 3) := by decide +kernel
theorem dX10_needRotation_13 : decode cX10_needRotation 13 = .ok (.getfield 315, 3) := by decide +kernel
theorem dX10_needRotation_16 : decode cX10_needRotation 16 = .ok (.if_icmp .lt 14, 3) := by decide +kernel
theorem dX10_needRotation_19 : decode cX10_needRotation 19 = .ok (.new 152, 3) := by decide +kernel
theorem dX10_needRotation_22 : decode cX10_needRotation 22 = .ok (.dup, 1) := by decide +kernel
theorem dX10_needRotation_23 : decode cX10_needRotation 23 = .ok (.ldc_w 486, 3) := by decide +kernel
theorem dX10_needRotation_26 : decode cX10_needRotation 26 = .ok (.invokespecial 156, 3) := by decide +kernel
theorem dX10_needRotation_29 : decode cX10_needRotation 29 = .ok (.athrow, 1) := by decide +kernel
theorem dX10_needSide_0 : decode cX10_needSide 0 = .ok (.iload_n 1, 1) := by decide +kernel
theorem dX10_needSide_1 : decode cX10_needSide 1 = .ok (.bipush 112, 2) := by decide +kernel
theorem dX10_needSide_3 : decode cX10_needSide 3 = .ok (.if_icmp .ne 11, 3) := by decide +kernel
theorem dX10_needSide_6 : decode cX10_needSide 6 = .ok (.aload_n 0, 1) := by decide +kernel
theorem dX10_needSide_7 : decode cX10_needSide 7 = .ok (.getfield 10, 3) := by decide +kernel
theorem dX10_needSide_10 : decode cX10_needSide 10 = .ok (.getfield 352, 3) := by decide +kernel
theorem dX10_needSide_13 : decode cX10_needSide 13 = .ok (.areturn, 1) := by decide +kernel
theorem dX10_needSide_14 : decode cX10_needSide 14 = .ok (.iload_n 1, 1) := by decide +kernel
theorem dX10_needSide_15 : decode cX10_needSide 15 = .ok (.bipush 104, 2) := by decide +kernel
theorem dX10_needSide_17 : decode cX10_needSide 17 = .ok (.if_icmp .ne 11, 3) := by decide +kernel
theorem dX10_needSide_20 : decode cX10_needSide 20 = .ok (.aload_n 0, 1) := by decide +kernel
theorem dX10_needSide_21 : decode cX10_needSide 21 = .ok (.getfield 10, 3) := by decide +kernel
theorem dX10_needSide_24 : decode cX10_needSide 24 = .ok (.getfield 368, 3) := by decide +kernel
theorem dX10_needSide_27 : decode cX10_needSide 27 = .ok (.areturn, 1) := by decide +kernel
theorem dX10_needSide_28 : decode cX10_needSide 28 = .ok (.iload_n 1, 1) := by decide +kernel
theorem dX10_needSide_29 : decode cX10_needSide 29 = .ok (.bipush 109, 2) := by decide +kernel
theorem dX10_needSide_31 : decode cX10_needSide 31 = .ok (.if_icmp .ne 8, 3) := by decide +kernel
theorem dX10_needSide_34 : decode cX10_needSide 34 = .ok (.aload_n 0, 1) := by decide +kernel
theorem dX10_needSide_35 : decode cX10_needSide 35 = .ok (.getfield 19, 3) := by decide +kernel
theorem dX10_needSide_38 : decode cX10_needSide 38 = .ok (.areturn, 1) := by decide +kernel
theorem dX10_needSide_39 : decode cX10_needSide 39 = .ok (.new 120, 3) := by decide +kernel
theorem dX10_needSide_42 : decode cX10_needSide 42 = .ok (.dup, 1) := by decide +kernel
theorem dX10_needSide_43 : decode cX10_needSide 43 = .ok (.ldc_w 462, 3) := by decide +kernel
theorem dX10_needSide_46 : decode cX10_needSide 46 = .ok (.invokespecial 124, 3) := by decide +kernel
theorem dX10_needSide_49 : decode cX10_needSide 49 = .ok (.athrow, 1) := by decide +kernel
theorem dX10_offer_0 : decode cX10_offer 0 = .ok (.aload_n 0, 1) := by decide +kernel
theorem dX10_offer_1 : decode cX10_offer 1 = .ok (.invokevirtual 209, 3) := by decide +kernel
theorem dX10_offerAt_0 : decode cX10_offerAt 0 = .ok (.aload_n 0, 1) := by decide +kernel
theorem dX10_offerAt_1 : decode cX10_offerAt 1 = .ok (.iload_n 1, 1) := by decide +kernel
theorem dX10_offerAt_2 : decode cX10_offerAt 2 = .ok (.invokevirtual 245, 3) := by decide +kernel
theorem dX10_offers_0 : decode cX10_offers 0 = .ok (.aload_n 0, 1) := by decide +kernel
theorem dX10_offers_1 : decode cX10_offers 1 = .ok (.getfield 44, 3) := by decide +kernel
theorem dX10_offers_4 : decode cX10_offers 4 = .ok (.getfield 242, 3) := by decide +kernel
theorem dX10_offers_7 : decode cX10_offers 7 = .ok (.ireturn, 1) := by decide +kernel
theorem dX10_open_0 : decode cX10_open 0 = .ok (.aload_n 0, 1) := by decide +kernel
theorem dX10_open_1 : decode cX10_open 1 = .ok (.invokevirtual 209, 3) := by decide +kernel
theorem dX10_pair_0 : decode cX10_pair 0 = .ok (.aload_n 0, 1) := by decide +kernel
theorem dX10_pair_1 : decode cX10_pair 1 = .ok (.iload_n 1, 1) := by decide +kernel
theorem dX10_pair_2 : decode cX10_pair 2 = .ok (.invokevirtual 254, 3) := by decide +kernel
theorem dX10_pairedShare_0 : decode cX10_pairedShare 0 = .ok (.aload_n 0, 1) := by decide +kernel
theorem dX10_pairedShare_1 : decode cX10_pairedShare 1 = .ok (.getfield 10, 3) := by decide +kernel
theorem dX10_pairedShare_4 : decode cX10_pairedShare 4 = .ok (.getfield 352, 3) := by decide +kernel
theorem dX10_pairedShare_7 : decode cX10_pairedShare 7 = .ok (.getfield 99, 3) := by decide +kernel
theorem dX10_pairedShare_10 : decode cX10_pairedShare 10 = .ok (.istore_n 1, 1) := by decide +kernel
theorem dX10_pairedShare_11 : decode cX10_pairedShare 11 = .ok (.iload_n 1, 1) := by decide +kernel
theorem dX10_pairedShare_12 : decode cX10_pairedShare 12 = .ok (.ifCond .ne 14, 3) := by decide +kernel
theorem dX10_pairedShare_15 : decode cX10_pairedShare 15 = .ok (.new 429, 3) := by decide +kernel
theorem dX10_pairedShare_18 : decode cX10_pairedShare 18 = .ok (.dup, 1) := by decide +kernel
theorem dX10_pairedShare_19 : decode cX10_pairedShare 19 = .ok (.ldc_w 440, 3) := by decide +kernel
theorem dX10_pairedShare_22 : decode cX10_pairedShare 22 = .ok (.invokespecial 433, 3) := by decide +kernel
theorem dX10_pairedShare_25 : decode cX10_pairedShare 25 = .ok (.athrow, 1) := by decide +kernel
theorem dX10_part_0 : decode cX10_part 0 = .ok (.aload_n 0, 1) := by decide +kernel
theorem dX10_part_1 : decode cX10_part 1 = .ok (.iload_n 1, 1) := by decide +kernel
theorem dX10_part_2 : decode cX10_part 2 = .ok (.invokevirtual 254, 3) := by decide +kernel
theorem dX10_personsHoldTheorem_0 : decode cX10_personsHoldTheorem 0 = .ok (.iconst 0, 1) := by decide +kernel
theorem dX10_personsHoldTheorem_1 : decode cX10_personsHoldTheorem 1 = .ok (.istore_n 1, 1) := by decide +kernel
theorem dX10_personsHoldTheorem_2 : decode cX10_personsHoldTheorem 2 = .ok (.iload_n 1, 1) := by decide +kernel
theorem dX10_personsHoldTheorem_3 : decode cX10_personsHoldTheorem 3 = .ok (.aload_n 0, 1) := by decide +kernel
theorem dX10_personsHoldTheorem_4 : decode cX10_personsHoldTheorem 4 = .ok (.getfield 10, 3) := by decide +kernel
theorem dX10_personsHoldTheorem_7 : decode cX10_personsHoldTheorem 7 = .ok (.getfield 352, 3) := by decide +kernel
theorem dX10_personsHoldTheorem_10 : decode cX10_personsHoldTheorem 10 = .ok (.getfield 99, 3) := by decide +kernel
theorem dX10_personsHoldTheorem_13 : decode cX10_personsHoldTheorem 13 = .ok (.if_icmp .ge 79, 3) := by decide +kernel
theorem dX10_personsHoldTheorem_92 : decode cX10_personsHoldTheorem 92 = .ok (.iconst 1, 1) := by decide +kernel
theorem dX10_personsHoldTheorem_93 : decode cX10_personsHoldTheorem 93 = .ok (.ireturn, 1) := by decide +kernel
theorem dX10_places_0 : decode cX10_places 0 = .ok (.aload_n 0, 1) := by decide +kernel
theorem dX10_places_1 : decode cX10_places 1 = .ok (.iload_n 1, 1) := by decide +kernel
theorem dX10_places_2 : decode cX10_places 2 = .ok (.invokevirtual 116, 3) := by decide +kernel
theorem dX10_rank_0 : decode cX10_rank 0 = .ok (.aload_n 0, 1) := by decide +kernel
theorem dX10_rank_1 : decode cX10_rank 1 = .ok (.iload_n 1, 1) := by decide +kernel
theorem dX10_rank_2 : decode cX10_rank 2 = .ok (.iload_n 2, 1) := by decide +kernel
theorem dX10_rank_3 : decode cX10_rank 3 = .ok (.invokevirtual 161, 3) := by decide +kernel
theorem dX10_read_0 : decode cX10_read 0 = .ok (.aload_n 0, 1) := by decide +kernel
theorem dX10_read_1 : decode cX10_read 1 = .ok (.iload_n 1, 1) := by decide +kernel
theorem dX10_read_2 : decode cX10_read 2 = .ok (.iload_n 2, 1) := by decide +kernel
theorem dX10_read_3 : decode cX10_read 3 = .ok (.invokevirtual 161, 3) := by decide +kernel
theorem dX10_resultAt_0 : decode cX10_resultAt 0 = .ok (.aload_n 0, 1) := by decide +kernel
theorem dX10_resultAt_1 : decode cX10_resultAt 1 = .ok (.iload_n 1, 1) := by decide +kernel
theorem dX10_resultAt_2 : decode cX10_resultAt 2 = .ok (.invokevirtual 245, 3) := by decide +kernel
theorem dX10_roomOf_0 : decode cX10_roomOf 0 = .ok (.aload_n 0, 1) := by decide +kernel
theorem dX10_roomOf_1 : decode cX10_roomOf 1 = .ok (.getfield 19, 3) := by decide +kernel
theorem dX10_roomOf_4 : decode cX10_roomOf 4 = .ok (.iload_n 1, 1) := by decide +kernel
theorem dX10_roomOf_5 : decode cX10_roomOf 5 = .ok (.invokevirtual 216, 3) := by decide +kernel
theorem dX10_roomOf_8 : decode cX10_roomOf 8 = .ok (.ifCond .ne 14, 3) := by decide +kernel
theorem dX10_roomOf_11 : decode cX10_roomOf 11 = .ok (.new 220, 3) := by decide +kernel
theorem dX10_roomOf_14 : decode cX10_roomOf 14 = .ok (.dup, 1) := by decide +kernel
theorem dX10_roomOf_15 : decode cX10_roomOf 15 = .ok (.ldc_w 393, 3) := by decide +kernel
theorem dX10_roomOf_18 : decode cX10_roomOf 18 = .ok (.invokespecial 224, 3) := by decide +kernel
theorem dX10_roomOf_21 : decode cX10_roomOf 21 = .ok (.athrow, 1) := by decide +kernel
theorem dX10_rooms_0 : decode cX10_rooms 0 = .ok (.aload_n 0, 1) := by decide +kernel
theorem dX10_rooms_1 : decode cX10_rooms 1 = .ok (.invokevirtual 385, 3) := by decide +kernel
theorem dX10_rooms_4 : decode cX10_rooms 4 = .ok (.aload_n 0, 1) := by decide +kernel
theorem dX10_rooms_5 : decode cX10_rooms 5 = .ok (.getfield 84, 3) := by decide +kernel
theorem dX10_rooms_8 : decode cX10_rooms 8 = .ok (.aload_n 0, 1) := by decide +kernel
theorem dX10_rooms_9 : decode cX10_rooms 9 = .ok (.getfield 19, 3) := by decide +kernel
theorem dX10_rooms_12 : decode cX10_rooms 12 = .ok (.invokevirtual 388, 3) := by decide +kernel
theorem dX10_rooms_15 : decode cX10_rooms 15 = .ok (.aload_n 0, 1) := by decide +kernel
theorem dX10_rooms_16 : decode cX10_rooms 16 = .ok (.getfield 84, 3) := by decide +kernel
theorem dX10_rooms_19 : decode cX10_rooms 19 = .ok (.getfield 392, 3) := by decide +kernel
theorem dX10_rooms_22 : decode cX10_rooms 22 = .ok (.ireturn, 1) := by decide +kernel
theorem dX10_rotationAt_0 : decode cX10_rotationAt 0 = .ok (.aload_n 0, 1) := by decide +kernel
theorem dX10_rotationAt_1 : decode cX10_rotationAt 1 = .ok (.iload_n 1, 1) := by decide +kernel
theorem dX10_rotationAt_2 : decode cX10_rotationAt 2 = .ok (.invokevirtual 316, 3) := by decide +kernel
theorem dX10_rotationLength_0 : decode cX10_rotationLength 0 = .ok (.aload_n 0, 1) := by decide +kernel
theorem dX10_rotationLength_1 : decode cX10_rotationLength 1 = .ok (.iload_n 1, 1) := by decide +kernel
theorem dX10_rotationLength_2 : decode cX10_rotationLength 2 = .ok (.invokevirtual 316, 3) := by decide +kernel
theorem dX10_rotations_0 : decode cX10_rotations 0 = .ok (.aload_n 0, 1) := by decide +kernel
theorem dX10_rotations_1 : decode cX10_rotations 1 = .ok (.invokevirtual 312, 3) := by decide +kernel
theorem dX10_rotations_4 : decode cX10_rotations 4 = .ok (.aload_n 0, 1) := by decide +kernel
theorem dX10_rotations_5 : decode cX10_rotations 5 = .ok (.getfield 70, 3) := by decide +kernel
theorem dX10_rotations_8 : decode cX10_rotations 8 = .ok (.getfield 315, 3) := by decide +kernel
theorem dX10_rotations_11 : decode cX10_rotations 11 = .ok (.ireturn, 1) := by decide +kernel
theorem dX10_run_0 : decode cX10_run 0 = .ok (.aload_n 0, 1) := by decide +kernel
theorem dX10_run_1 : decode cX10_run 1 = .ok (.iload_n 1, 1) := by decide +kernel
theorem dX10_run_2 : decode cX10_run 2 = .ok (.invokevirtual 198, 3) := by decide +kernel
theorem dX10_run_5 : decode cX10_run 5 = .ok (.aload_n 0, 1) := by decide +kernel
theorem dX10_run_6 : decode cX10_run 6 = .ok (.getfield 44, 3) := by decide +kernel
theorem dX10_run_9 : decode cX10_run 9 = .ok (.aload_n 0, 1) := by decide +kernel
theorem dX10_run_10 : decode cX10_run 10 = .ok (.getfield 10, 3) := by decide +kernel
theorem dX10_run_13 : decode cX10_run 13 = .ok (.aload_n 0, 1) := by decide +kernel
theorem dX10_run_14 : decode cX10_run 14 = .ok (.getfield 37, 3) := by decide +kernel
theorem dX10_run_17 : decode cX10_run 17 = .ok (.iload_n 1, 1) := by decide +kernel
theorem dX10_run_18 : decode cX10_run 18 = .ok (.iconst 0, 1) := by decide +kernel
theorem dX10_run_19 : decode cX10_run 19 = .ok (.invokevirtual 238, 3) := by decide +kernel
theorem dX10_run_22 : decode cX10_run 22 = .ok (.aload_n 0, 1) := by decide +kernel
theorem dX10_run_23 : decode cX10_run 23 = .ok (.getfield 44, 3) := by decide +kernel
theorem dX10_run_26 : decode cX10_run 26 = .ok (.getfield 242, 3) := by decide +kernel
theorem dX10_run_29 : decode cX10_run 29 = .ok (.ireturn, 1) := by decide +kernel
theorem dX10_signAt_0 : decode cX10_signAt 0 = .ok (.iload_n 1, 1) := by decide +kernel
theorem dX10_signAt_1 : decode cX10_signAt 1 = .ok (.ifCond .lt 14, 3) := by decide +kernel
theorem dX10_signAt_4 : decode cX10_signAt 4 = .ok (.iload_n 1, 1) := by decide +kernel
theorem dX10_signAt_5 : decode cX10_signAt 5 = .ok (.aload_n 0, 1) := by decide +kernel
theorem dX10_signAt_6 : decode cX10_signAt 6 = .ok (.getfield 30, 3) := by decide +kernel
theorem dX10_signAt_9 : decode cX10_signAt 9 = .ok (.getfield 140, 3) := by decide +kernel
theorem dX10_signAt_12 : decode cX10_signAt 12 = .ok (.if_icmp .lt 13, 3) := by decide +kernel
theorem dX10_signAt_15 : decode cX10_signAt 15 = .ok (.new 152, 3) := by decide +kernel
theorem dX10_signAt_18 : decode cX10_signAt 18 = .ok (.dup, 1) := by decide +kernel
theorem dX10_signAt_19 : decode cX10_signAt 19 = .ok (.ldc 154, 2) := by decide +kernel
theorem dX10_signAt_21 : decode cX10_signAt 21 = .ok (.invokespecial 156, 3) := by decide +kernel
theorem dX10_signAt_24 : decode cX10_signAt 24 = .ok (.athrow, 1) := by decide +kernel
theorem dX10_stableAt_0 : decode cX10_stableAt 0 = .ok (.aload_n 0, 1) := by decide +kernel
theorem dX10_stableAt_1 : decode cX10_stableAt 1 = .ok (.invokevirtual 333, 3) := by decide +kernel
theorem dX10_stableAt_4 : decode cX10_stableAt 4 = .ok (.iload_n 1, 1) := by decide +kernel
theorem dX10_stableAt_5 : decode cX10_stableAt 5 = .ok (.ifCond .lt 14, 3) := by decide +kernel
theorem dX10_stableAt_8 : decode cX10_stableAt 8 = .ok (.iload_n 1, 1) := by decide +kernel
theorem dX10_stableAt_9 : decode cX10_stableAt 9 = .ok (.aload_n 0, 1) := by decide +kernel
theorem dX10_stableAt_10 : decode cX10_stableAt 10 = .ok (.getfield 77, 3) := by decide +kernel
theorem dX10_stableAt_13 : decode cX10_stableAt 13 = .ok (.getfield 336, 3) := by decide +kernel
theorem dX10_stableAt_16 : decode cX10_stableAt 16 = .ok (.if_icmp .lt 14, 3) := by decide +kernel
theorem dX10_stableAt_19 : decode cX10_stableAt 19 = .ok (.new 152, 3) := by decide +kernel
theorem dX10_stableAt_22 : decode cX10_stableAt 22 = .ok (.dup, 1) := by decide +kernel
theorem dX10_stableAt_23 : decode cX10_stableAt 23 = .ok (.ldc_w 337, 3) := by decide +kernel
theorem dX10_stableAt_26 : decode cX10_stableAt 26 = .ok (.invokespecial 156, 3) := by decide +kernel
theorem dX10_stableAt_29 : decode cX10_stableAt 29 = .ok (.athrow, 1) := by decide +kernel
theorem dX10_stableAt_30 : decode cX10_stableAt 30 = .ok (.aload_n 0, 1) := by decide +kernel
theorem dX10_stableAt_31 : decode cX10_stableAt 31 = .ok (.iload_n 1, 1) := by decide +kernel
theorem dX10_stableAt_32 : decode cX10_stableAt 32 = .ok (.invokevirtual 339, 3) := by decide +kernel
theorem dX10_stableAt_35 : decode cX10_stableAt 35 = .ok (.aload_n 0, 1) := by decide +kernel
theorem dX10_stableAt_36 : decode cX10_stableAt 36 = .ok (.getfield 37, 3) := by decide +kernel
theorem dX10_stableAt_39 : decode cX10_stableAt 39 = .ok (.invokevirtual 342, 3) := by decide +kernel
theorem dX10_stableAt_42 : decode cX10_stableAt 42 = .ok (.ireturn, 1) := by decide +kernel
theorem dX10_stables_0 : decode cX10_stables 0 = .ok (.aload_n 0, 1) := by decide +kernel
theorem dX10_stables_1 : decode cX10_stables 1 = .ok (.invokevirtual 333, 3) := by decide +kernel
theorem dX10_stables_4 : decode cX10_stables 4 = .ok (.aload_n 0, 1) := by decide +kernel
theorem dX10_stables_5 : decode cX10_stables 5 = .ok (.getfield 77, 3) := by decide +kernel
theorem dX10_stables_8 : decode cX10_stables 8 = .ok (.getfield 336, 3) := by decide +kernel
theorem dX10_stables_11 : decode cX10_stables 11 = .ok (.ireturn, 1) := by decide +kernel
theorem dX10_trade_0 : decode cX10_trade 0 = .ok (.aload_n 0, 1) := by decide +kernel
theorem dX10_trade_1 : decode cX10_trade 1 = .ok (.invokevirtual 400, 3) := by decide +kernel
theorem dX10_trade_4 : decode cX10_trade 4 = .ok (.aload_n 0, 1) := by decide +kernel
theorem dX10_trade_5 : decode cX10_trade 5 = .ok (.getfield 91, 3) := by decide +kernel
theorem dX10_trade_8 : decode cX10_trade 8 = .ok (.aload_n 0, 1) := by decide +kernel
theorem dX10_trade_9 : decode cX10_trade 9 = .ok (.getfield 10, 3) := by decide +kernel
theorem dX10_trade_12 : decode cX10_trade 12 = .ok (.getfield 352, 3) := by decide +kernel
theorem dX10_trade_15 : decode cX10_trade 15 = .ok (.invokevirtual 403, 3) := by decide +kernel
theorem dX10_trade_18 : decode cX10_trade 18 = .ok (.aload_n 0, 1) := by decide +kernel
theorem dX10_trade_19 : decode cX10_trade 19 = .ok (.getfield 91, 3) := by decide +kernel
theorem dX10_trade_22 : decode cX10_trade 22 = .ok (.getfield 406, 3) := by decide +kernel
theorem dX10_trade_25 : decode cX10_trade 25 = .ok (.ireturn, 1) := by decide +kernel
theorem dX10_tradeOf_0 : decode cX10_tradeOf 0 = .ok (.aload_n 0, 1) := by decide +kernel
theorem dX10_tradeOf_1 : decode cX10_tradeOf 1 = .ok (.iload_n 1, 1) := by decide +kernel
theorem dX10_tradeOf_2 : decode cX10_tradeOf 2 = .ok (.invokevirtual 254, 3) := by decide +kernel
theorem dX10_tradeRound_0 : decode cX10_tradeRound 0 = .ok (.aload_n 0, 1) := by decide +kernel
theorem dX10_tradeRound_1 : decode cX10_tradeRound 1 = .ok (.iload_n 1, 1) := by decide +kernel
theorem dX10_tradeRound_2 : decode cX10_tradeRound 2 = .ok (.invokevirtual 254, 3) := by decide +kernel
theorem dX10_turn_0 : decode cX10_turn 0 = .ok (.aload_n 0, 1) := by decide +kernel
theorem dX10_turn_1 : decode cX10_turn 1 = .ok (.iload_n 1, 1) := by decide +kernel
theorem dX10_turn_2 : decode cX10_turn 2 = .ok (.invokevirtual 316, 3) := by decide +kernel
theorem dX10_type_0 : decode cX10_type 0 = .ok (.iload_n 1, 1) := by decide +kernel
theorem dX10_type_1 : decode cX10_type 1 = .ok (.bipush 32, 2) := by decide +kernel
theorem dX10_type_3 : decode cX10_type 3 = .ok (.if_icmp .lt 9, 3) := by decide +kernel
theorem dX10_type_6 : decode cX10_type 6 = .ok (.iload_n 1, 1) := by decide +kernel
theorem dX10_type_7 : decode cX10_type 7 = .ok (.bipush 126, 2) := by decide +kernel
theorem dX10_type_9 : decode cX10_type 9 = .ok (.if_icmp .le 13, 3) := by decide +kernel
theorem dX10_type_12 : decode cX10_type 12 = .ok (.new 120, 3) := by decide +kernel
theorem dX10_type_15 : decode cX10_type 15 = .ok (.dup, 1) := by decide +kernel
theorem dX10_type_16 : decode cX10_type 16 = .ok (.ldc 138, 2) := by decide +kernel
theorem dX10_type_18 : decode cX10_type 18 = .ok (.invokespecial 124, 3) := by decide +kernel
theorem dX10_type_21 : decode cX10_type 21 = .ok (.athrow, 1) := by decide +kernel
theorem dX10_type_22 : decode cX10_type 22 = .ok (.aload_n 0, 1) := by decide +kernel
theorem dX10_type_23 : decode cX10_type 23 = .ok (.getfield 30, 3) := by decide +kernel
theorem dX10_type_26 : decode cX10_type 26 = .ok (.getfield 140, 3) := by decide +kernel
theorem dX10_type_29 : decode cX10_type 29 = .ok (.bipush 60, 2) := by decide +kernel
theorem dX10_type_31 : decode cX10_type 31 = .ok (.if_icmp .lt 13, 3) := by decide +kernel
theorem dX10_type_44 : decode cX10_type 44 = .ok (.aload_n 0, 1) := by decide +kernel
theorem dX10_type_45 : decode cX10_type 45 = .ok (.getfield 30, 3) := by decide +kernel
theorem dX10_type_48 : decode cX10_type 48 = .ok (.iload_n 1, 1) := by decide +kernel
theorem dX10_type_49 : decode cX10_type 49 = .ok (.invokevirtual 145, 3) := by decide +kernel
theorem dX10_type_52 : decode cX10_type 52 = .ok (.aload_n 0, 1) := by decide +kernel
theorem dX10_type_53 : decode cX10_type 53 = .ok (.getfield 30, 3) := by decide +kernel
theorem dX10_type_56 : decode cX10_type 56 = .ok (.getfield 140, 3) := by decide +kernel
theorem dX10_type_59 : decode cX10_type 59 = .ok (.ireturn, 1) := by decide +kernel
theorem dX10_wish_0 : decode cX10_wish 0 = .ok (.aload_n 0, 1) := by decide +kernel
theorem dX10_wish_1 : decode cX10_wish 1 = .ok (.iload_n 1, 1) := by decide +kernel
theorem dX10_wish_2 : decode cX10_wish 2 = .ok (.iload_n 2, 1) := by decide +kernel
theorem dX10_wish_3 : decode cX10_wish 3 = .ok (.invokevirtual 161, 3) := by decide +kernel
theorem dX10_without_0 : decode cX10_without 0 = .ok (.aload_n 0, 1) := by decide +kernel
theorem dX10_without_1 : decode cX10_without 1 = .ok (.iload_n 1, 1) := by decide +kernel
theorem dX10_without_2 : decode cX10_without 2 = .ok (.invokevirtual 254, 3) := by decide +kernel
theorem dX10_withoutHouse_0 : decode cX10_withoutHouse 0 = .ok (.aload_n 0, 1) := by decide +kernel
theorem dX10_withoutHouse_1 : decode cX10_withoutHouse 1 = .ok (.iload_n 1, 1) := by decide +kernel
theorem dX10_withoutHouse_2 : decode cX10_withoutHouse 2 = .ok (.invokevirtual 116, 3) := by decide +kernel
theorem dX11_add_0 : decode cX11_add 0 = .ok (.iload_n 1, 1) := by decide +kernel
theorem dX11_add_1 : decode cX11_add 1 = .ok (.invokestatic 124, 3) := by decide +kernel
theorem dX11_add_4 : decode cX11_add 4 = .ok (.istore_n 2, 1) := by decide +kernel
theorem dX11_add_5 : decode cX11_add 5 = .ok (.aload_n 0, 1) := by decide +kernel
theorem dX11_add_6 : decode cX11_add 6 = .ok (.iload_n 2, 1) := by decide +kernel
theorem dX11_add_7 : decode cX11_add 7 = .ok (.ifCond .ge 7, 3) := by decide +kernel
theorem dX11_add_10 : decode cX11_add 10 = .ok (.iconst 1, 1) := by decide +kernel
theorem dX11_add_11 : decode cX11_add 11 = .ok (.goto 4, 3) := by decide +kernel
theorem dX11_add_14 : decode cX11_add 14 = .ok (.iconst 0, 1) := by decide +kernel
theorem dX11_add_15 : decode cX11_add 15 = .ok (.iload_n 2, 1) := by decide +kernel
theorem dX11_add_16 : decode cX11_add 16 = .ok (.ifCond .lt 18, 3) := by decide +kernel
theorem dX11_add_19 : decode cX11_add 19 = .ok (.aload_n 0, 1) := by decide +kernel
theorem dX11_add_20 : decode cX11_add 20 = .ok (.getfield 7, 3) := by decide +kernel
theorem dX11_add_23 : decode cX11_add 23 = .ok (.iload_n 2, 1) := by decide +kernel
theorem dX11_add_24 : decode cX11_add 24 = .ok (.iaload, 1) := by decide +kernel
theorem dX11_add_25 : decode cX11_add 25 = .ok (.bipush 10, 2) := by decide +kernel
theorem dX11_add_27 : decode cX11_add 27 = .ok (.if_icmp .ne 7, 3) := by decide +kernel
theorem dX11_add_34 : decode cX11_add 34 = .ok (.iconst 0, 1) := by decide +kernel
theorem dX11_add_35 : decode cX11_add 35 = .ok (.iconst 0, 1) := by decide +kernel
theorem dX11_add_36 : decode cX11_add 36 = .ok (.invokevirtual 128, 3) := by decide +kernel
theorem dX11_add_39 : decode cX11_add 39 = .ok (.ifCond .eq 5, 3) := by decide +kernel
theorem dX11_add_42 : decode cX11_add 42 = .ok (.iconst 0, 1) := by decide +kernel
theorem dX11_add_43 : decode cX11_add 43 = .ok (.ireturn, 1) := by decide +kernel
theorem dX11_add_44 : decode cX11_add 44 = .ok (.aload_n 0, 1) := by decide +kernel
theorem dX11_add_45 : decode cX11_add 45 = .ok (.invokevirtual 132, 3) := by decide +kernel
theorem dX11_add_48 : decode cX11_add 48 = .ok (.aload_n 0, 1) := by decide +kernel
theorem dX11_add_49 : decode cX11_add 49 = .ok (.getfield 7, 3) := by decide +kernel
theorem dX11_add_52 : decode cX11_add 52 = .ok (.iload_n 2, 1) := by decide +kernel
theorem dX11_add_53 : decode cX11_add 53 = .ok (.iaload, 1) := by decide +kernel
theorem dX11_add_54 : decode cX11_add 54 = .ok (.istore_n 3, 1) := by decide +kernel
theorem dX11_add_55 : decode cX11_add 55 = .ok (.aload_n 0, 1) := by decide +kernel
theorem dX11_add_56 : decode cX11_add 56 = .ok (.getfield 7, 3) := by decide +kernel
theorem dX11_add_59 : decode cX11_add 59 = .ok (.iload_n 2, 1) := by decide +kernel
theorem dX11_add_60 : decode cX11_add 60 = .ok (.dup2, 1) := by decide +kernel
theorem dX11_add_61 : decode cX11_add 61 = .ok (.iaload, 1) := by decide +kernel
theorem dX11_add_62 : decode cX11_add 62 = .ok (.iconst 1, 1) := by decide +kernel
theorem dX11_add_63 : decode cX11_add 63 = .ok (.iadd, 1) := by decide +kernel
theorem dX11_add_64 : decode cX11_add 64 = .ok (.iastore, 1) := by decide +kernel
theorem dX11_add_65 : decode cX11_add 65 = .ok (.iload_n 2, 1) := by decide +kernel
theorem dX11_add_66 : decode cX11_add 66 = .ok (.iconst 1, 1) := by decide +kernel
theorem dX11_add_67 : decode cX11_add 67 = .ok (.if_icmp .ne 10, 3) := by decide +kernel
theorem dX11_add_70 : decode cX11_add 70 = .ok (.aload_n 0, 1) := by decide +kernel
theorem dX11_add_71 : decode cX11_add 71 = .ok (.getfield 21, 3) := by decide +kernel
theorem dX11_add_74 : decode cX11_add 74 = .ok (.iload_n 3, 1) := by decide +kernel
theorem dX11_add_75 : decode cX11_add 75 = .ok (.iconst 1, 1) := by decide +kernel
theorem dX11_add_76 : decode cX11_add 76 = .ok (.iastore, 1) := by decide +kernel
theorem dX11_add_77 : decode cX11_add 77 = .ok (.iload_n 3, 1) := by decide +kernel
theorem dX11_add_78 : decode cX11_add 78 = .ok (.ireturn, 1) := by decide +kernel
theorem dX11_all_0 : decode cX11_all 0 = .ok (.invokestatic 27, 3) := by decide +kernel
theorem dX11_all_3 : decode cX11_all 3 = .ok (.astore 4, 2) := by decide +kernel
theorem dX11_all_5 : decode cX11_all 5 = .ok (.bipush 10, 2) := by decide +kernel
theorem dX11_all_7 : decode cX11_all 7 = .ok (.newarray .int, 2) := by decide +kernel
theorem dX11_all_9 : decode cX11_all 9 = .ok (.astore 5, 2) := by decide +kernel
theorem dX11_all_11 : decode cX11_all 11 = .ok (.aload_n 0, 1) := by decide +kernel
theorem dX11_all_12 : decode cX11_all 12 = .ok (.getfield 7, 3) := by decide +kernel
theorem dX11_all_15 : decode cX11_all 15 = .ok (.iload_n 1, 1) := by decide +kernel
theorem dX11_all_16 : decode cX11_all 16 = .ok (.ifCond .eq 7, 3) := by decide +kernel
theorem dX11_all_19 : decode cX11_all 19 = .ok (.iconst 0, 1) := by decide +kernel
theorem dX11_all_20 : decode cX11_all 20 = .ok (.goto 4, 3) := by decide +kernel
theorem dX11_all_24 : decode cX11_all 24 = .ok (.iaload, 1) := by decide +kernel
theorem dX11_all_25 : decode cX11_all 25 = .ok (.istore 6, 2) := by decide +kernel
theorem dX11_all_27 : decode cX11_all 27 = .ok (.iconst 1, 1) := by decide +kernel
theorem dX11_all_28 : decode cX11_all 28 = .ok (.istore 7, 2) := by decide +kernel
theorem dX11_all_30 : decode cX11_all 30 = .ok (.iload 7, 2) := by decide +kernel
theorem dX11_all_32 : decode cX11_all 32 = .ok (.ifCond .eq 60, 3) := by decide +kernel
theorem dX11_all_35 : decode cX11_all 35 = .ok (.iconst 0, 1) := by decide +kernel
theorem dX11_all_36 : decode cX11_all 36 = .ok (.istore 7, 2) := by decide +kernel
theorem dX11_all_38 : decode cX11_all 38 = .ok (.iconst 0, 1) := by decide +kernel
theorem dX11_all_39 : decode cX11_all 39 = .ok (.istore 8, 2) := by decide +kernel
theorem dX11_all_41 : decode cX11_all 41 = .ok (.iload 8, 2) := by decide +kernel
theorem dX11_all_43 : decode cX11_all 43 = .ok (.iload 6, 2) := by decide +kernel
theorem dX11_all_45 : decode cX11_all 45 = .ok (.if_icmp .ge 44, 3) := by decide +kernel
theorem dX11_all_89 : decode cX11_all 89 = .ok (.goto (-59), 3) := by decide +kernel
theorem dX11_all_92 : decode cX11_all 92 = .ok (.aload 4, 2) := by decide +kernel
theorem dX11_all_94 : decode cX11_all 94 = .ok (.areturn, 1) := by decide +kernel
theorem dX11_alone_0 : decode cX11_alone 0 = .ok (.bipush 10, 2) := by decide +kernel
theorem dX11_alone_2 : decode cX11_alone 2 = .ok (.newarray .int, 2) := by decide +kernel
theorem dX11_alone_4 : decode cX11_alone 4 = .ok (.astore_n 0, 1) := by decide +kernel
theorem dX11_alone_5 : decode cX11_alone 5 = .ok (.iconst 0, 1) := by decide +kernel
theorem dX11_alone_6 : decode cX11_alone 6 = .ok (.istore_n 1, 1) := by decide +kernel
theorem dX11_alone_7 : decode cX11_alone 7 = .ok (.iload_n 1, 1) := by decide +kernel
theorem dX11_alone_8 : decode cX11_alone 8 = .ok (.bipush 10, 2) := by decide +kernel
theorem dX11_alone_10 : decode cX11_alone 10 = .ok (.if_icmp .ge 13, 3) := by decide +kernel
theorem dX11_alone_13 : decode cX11_alone 13 = .ok (.aload_n 0, 1) := by decide +kernel
theorem dX11_alone_14 : decode cX11_alone 14 = .ok (.iload_n 1, 1) := by decide +kernel
theorem dX11_alone_15 : decode cX11_alone 15 = .ok (.iconst (-1), 1) := by decide +kernel
theorem dX11_alone_16 : decode cX11_alone 16 = .ok (.iastore, 1) := by decide +kernel
theorem dX11_alone_17 : decode cX11_alone 17 = .ok (.iinc 1 1, 3) := by decide +kernel
theorem dX11_alone_20 : decode cX11_alone 20 = .ok (.goto (-13), 3) := by decide +kernel
theorem dX11_alone_23 : decode cX11_alone 23 = .ok (.aload_n 0, 1) := by decide +kernel
theorem dX11_alone_24 : decode cX11_alone 24 = .ok (.areturn, 1) := by decide +kernel
theorem dX11_areTooMany_0 : decode cX11_areTooMany 0 = .ok (.aload_n 0, 1) := by decide +kernel
theorem dX11_areTooMany_1 : decode cX11_areTooMany 1 = .ok (.iconst 0, 1) := by decide +kernel
theorem dX11_areTooMany_2 : decode cX11_areTooMany 2 = .ok (.putfield 215, 3) := by decide +kernel
theorem dX11_areTooMany_5 : decode cX11_areTooMany 5 = .ok (.aload_n 0, 1) := by decide +kernel
theorem dX11_areTooMany_6 : decode cX11_areTooMany 6 = .ok (.aload_n 0, 1) := by decide +kernel
theorem dX11_areTooMany_7 : decode cX11_areTooMany 7 = .ok (.invokevirtual 183, 3) := by decide +kernel
theorem dX11_areTooMany_10 : decode cX11_areTooMany 10 = .ok (.invokevirtual 222, 3) := by decide +kernel
theorem dX11_areTooMany_13 : decode cX11_areTooMany 13 = .ok (.iconst 0, 1) := by decide +kernel
theorem dX11_areTooMany_14 : decode cX11_areTooMany 14 = .ok (.istore_n 1, 1) := by decide +kernel
theorem dX11_areTooMany_15 : decode cX11_areTooMany 15 = .ok (.iload_n 1, 1) := by decide +kernel
theorem dX11_areTooMany_16 : decode cX11_areTooMany 16 = .ok (.aload_n 0, 1) := by decide +kernel
theorem dX11_areTooMany_17 : decode cX11_areTooMany 17 = .ok (.getfield 215, 3) := by decide +kernel
theorem dX11_areTooMany_20 : decode cX11_areTooMany 20 = .ok (.if_icmp .ge 103, 3) := by decide +kernel
theorem dX11_areTooMany_23 : decode cX11_areTooMany 23 = .ok (.aload_n 0, 1) := by decide +kernel
theorem dX11_areTooMany_24 : decode cX11_areTooMany 24 = .ok (.getfield 215, 3) := by decide +kernel
theorem dX11_areTooMany_27 : decode cX11_areTooMany 27 = .ok (.bipush 60, 2) := by decide +kernel
theorem dX11_areTooMany_29 : decode cX11_areTooMany 29 = .ok (.if_icmp .gt 94, 3) := by decide +kernel
theorem dX11_areTooMany_32 : decode cX11_areTooMany 32 = .ok (.aload_n 0, 1) := by decide +kernel
theorem dX11_areTooMany_33 : decode cX11_areTooMany 33 = .ok (.getfield 215, 3) := by decide +kernel
theorem dX11_areTooMany_36 : decode cX11_areTooMany 36 = .ok (.istore_n 1, 1) := by decide +kernel
theorem dX11_areTooMany_37 : decode cX11_areTooMany 37 = .ok (.iload_n 1, 1) := by decide +kernel
theorem dX11_areTooMany_38 : decode cX11_areTooMany 38 = .ok (.anewarray 56, 3) := by decide +kernel
theorem dX11_areTooMany_41 : decode cX11_areTooMany 41 = .ok (.astore_n 2, 1) := by decide +kernel
theorem dX11_areTooMany_42 : decode cX11_areTooMany 42 = .ok (.iconst 0, 1) := by decide +kernel
theorem dX11_areTooMany_43 : decode cX11_areTooMany 43 = .ok (.istore_n 3, 1) := by decide +kernel
theorem dX11_areTooMany_44 : decode cX11_areTooMany 44 = .ok (.iload_n 3, 1) := by decide +kernel
theorem dX11_areTooMany_45 : decode cX11_areTooMany 45 = .ok (.iload_n 1, 1) := by decide +kernel
theorem dX11_areTooMany_46 : decode cX11_areTooMany 46 = .ok (.if_icmp .ge 18, 3) := by decide +kernel
theorem dX11_areTooMany_49 : decode cX11_areTooMany 49 = .ok (.aload_n 2, 1) := by decide +kernel
theorem dX11_areTooMany_50 : decode cX11_areTooMany 50 = .ok (.iload_n 3, 1) := by decide +kernel
theorem dX11_areTooMany_51 : decode cX11_areTooMany 51 = .ok (.aload_n 0, 1) := by decide +kernel
theorem dX11_areTooMany_52 : decode cX11_areTooMany 52 = .ok (.getfield 57, 3) := by decide +kernel
theorem dX11_areTooMany_55 : decode cX11_areTooMany 55 = .ok (.iload_n 3, 1) := by decide +kernel
theorem dX11_areTooMany_56 : decode cX11_areTooMany 56 = .ok (.aaload, 1) := by decide +kernel
theorem dX11_areTooMany_57 : decode cX11_areTooMany 57 = .ok (.aastore, 1) := by decide +kernel
theorem dX11_areTooMany_58 : decode cX11_areTooMany 58 = .ok (.iinc 3 1, 3) := by decide +kernel
theorem dX11_areTooMany_61 : decode cX11_areTooMany 61 = .ok (.goto (-17), 3) := by decide +kernel
theorem dX11_areTooMany_64 : decode cX11_areTooMany 64 = .ok (.iconst 0, 1) := by decide +kernel
theorem dX11_areTooMany_65 : decode cX11_areTooMany 65 = .ok (.istore_n 3, 1) := by decide +kernel
theorem dX11_areTooMany_66 : decode cX11_areTooMany 66 = .ok (.iload_n 3, 1) := by decide +kernel
theorem dX11_areTooMany_67 : decode cX11_areTooMany 67 = .ok (.iload_n 1, 1) := by decide +kernel
theorem dX11_areTooMany_68 : decode cX11_areTooMany 68 = .ok (.if_icmp .ge 52, 3) := by decide +kernel
theorem dX11_areTooMany_71 : decode cX11_areTooMany 71 = .ok (.iconst 0, 1) := by decide +kernel
theorem dX11_areTooMany_72 : decode cX11_areTooMany 72 = .ok (.istore 4, 2) := by decide +kernel
theorem dX11_areTooMany_74 : decode cX11_areTooMany 74 = .ok (.iload 4, 2) := by decide +kernel
theorem dX11_areTooMany_76 : decode cX11_areTooMany 76 = .ok (.aload_n 0, 1) := by decide +kernel
theorem dX11_areTooMany_77 : decode cX11_areTooMany 77 = .ok (.aload_n 2, 1) := by decide +kernel
theorem dX11_areTooMany_78 : decode cX11_areTooMany 78 = .ok (.iload_n 3, 1) := by decide +kernel
theorem dX11_areTooMany_79 : decode cX11_areTooMany 79 = .ok (.aaload, 1) := by decide +kernel
theorem dX11_areTooMany_80 : decode cX11_areTooMany 80 = .ok (.invokevirtual 205, 3) := by decide +kernel
theorem dX11_areTooMany_83 : decode cX11_areTooMany 83 = .ok (.if_icmp .ge 31, 3) := by decide +kernel
theorem dX11_areTooMany_114 : decode cX11_areTooMany 114 = .ok (.iinc 3 1, 3) := by decide +kernel
theorem dX11_areTooMany_117 : decode cX11_areTooMany 117 = .ok (.goto (-51), 3) := by decide +kernel
theorem dX11_areTooMany_120 : decode cX11_areTooMany 120 = .ok (.goto (-105), 3) := by decide +kernel
theorem dX11_areTooMany_123 : decode cX11_areTooMany 123 = .ok (.aload_n 0, 1) := by decide +kernel
theorem dX11_areTooMany_124 : decode cX11_areTooMany 124 = .ok (.getfield 215, 3) := by decide +kernel
theorem dX11_areTooMany_127 : decode cX11_areTooMany 127 = .ok (.bipush 60, 2) := by decide +kernel
theorem dX11_areTooMany_129 : decode cX11_areTooMany 129 = .ok (.if_icmp .le 7, 3) := by decide +kernel
theorem dX11_areTooMany_136 : decode cX11_areTooMany 136 = .ok (.iconst 0, 1) := by decide +kernel
theorem dX11_areTooMany_137 : decode cX11_areTooMany 137 = .ok (.ireturn, 1) := by decide +kernel
theorem dX11_becomes_0 : decode cX11_becomes 0 = .ok (.aload_n 0, 1) := by decide +kernel
theorem dX11_becomes_1 : decode cX11_becomes 1 = .ok (.aload_n 0, 1) := by decide +kernel
theorem dX11_becomes_2 : decode cX11_becomes 2 = .ok (.getfield 57, 3) := by decide +kernel
theorem dX11_becomes_5 : decode cX11_becomes 5 = .ok (.iload_n 1, 1) := by decide +kernel
theorem dX11_becomes_6 : decode cX11_becomes 6 = .ok (.aaload, 1) := by decide +kernel
theorem dX11_becomes_7 : decode cX11_becomes 7 = .ok (.invokestatic 198, 3) := by decide +kernel
theorem dX11_becomes_10 : decode cX11_becomes 10 = .ok (.putfield 31, 3) := by decide +kernel
theorem dX11_becomes_13 : decode cX11_becomes 13 = .ok (.aload_n 0, 1) := by decide +kernel
theorem dX11_becomes_14 : decode cX11_becomes 14 = .ok (.bipush 45, 2) := by decide +kernel
theorem dX11_becomes_16 : decode cX11_becomes 16 = .ok (.putfield 34, 3) := by decide +kernel
theorem dX11_becomes_19 : decode cX11_becomes 19 = .ok (.iconst 0, 1) := by decide +kernel
theorem dX11_becomes_20 : decode cX11_becomes 20 = .ok (.istore_n 2, 1) := by decide +kernel
theorem dX11_becomes_21 : decode cX11_becomes 21 = .ok (.iconst 0, 1) := by decide +kernel
theorem dX11_becomes_22 : decode cX11_becomes 22 = .ok (.istore_n 3, 1) := by decide +kernel
theorem dX11_becomes_23 : decode cX11_becomes 23 = .ok (.iload_n 3, 1) := by decide +kernel
theorem dX11_becomes_24 : decode cX11_becomes 24 = .ok (.aload_n 0, 1) := by decide +kernel
theorem dX11_becomes_25 : decode cX11_becomes 25 = .ok (.getfield 7, 3) := by decide +kernel
theorem dX11_becomes_28 : decode cX11_becomes 28 = .ok (.iconst 0, 1) := by decide +kernel
theorem dX11_becomes_29 : decode cX11_becomes 29 = .ok (.iaload, 1) := by decide +kernel
theorem dX11_becomes_30 : decode cX11_becomes 30 = .ok (.if_icmp .ge 27, 3) := by decide +kernel
theorem dX11_becomes_57 : decode cX11_becomes 57 = .ok (.iload_n 2, 1) := by decide +kernel
theorem dX11_becomes_58 : decode cX11_becomes 58 = .ok (.ireturn, 1) := by decide +kernel
theorem dX11_begin_0 : decode cX11_begin 0 = .ok (.aload_n 0, 1) := by decide +kernel
theorem dX11_begin_1 : decode cX11_begin 1 = .ok (.iload_n 1, 1) := by decide +kernel
theorem dX11_begin_2 : decode cX11_begin 2 = .ok (.invokestatic 124, 3) := by decide +kernel
theorem dX11_begin_5 : decode cX11_begin 5 = .ok (.iconst 0, 1) := by decide +kernel
theorem dX11_begin_6 : decode cX11_begin 6 = .ok (.iconst 1, 1) := by decide +kernel
theorem dX11_begin_7 : decode cX11_begin 7 = .ok (.invokestatic 78, 3) := by decide +kernel
theorem dX11_begin_10 : decode cX11_begin 10 = .ok (.ifCond .ne 7, 3) := by decide +kernel
theorem dX11_begin_13 : decode cX11_begin 13 = .ok (.iconst 1, 1) := by decide +kernel
theorem dX11_begin_14 : decode cX11_begin 14 = .ok (.goto 4, 3) := by decide +kernel
theorem dX11_begin_17 : decode cX11_begin 17 = .ok (.iconst 0, 1) := by decide +kernel
theorem dX11_begin_18 : decode cX11_begin 18 = .ok (.iconst 0, 1) := by decide +kernel
theorem dX11_begin_19 : decode cX11_begin 19 = .ok (.iconst 0, 1) := by decide +kernel
theorem dX11_begin_20 : decode cX11_begin 20 = .ok (.invokevirtual 128, 3) := by decide +kernel
theorem dX11_begin_23 : decode cX11_begin 23 = .ok (.ifCond .eq 5, 3) := by decide +kernel
theorem dX11_begin_26 : decode cX11_begin 26 = .ok (.iconst 0, 1) := by decide +kernel
theorem dX11_begin_27 : decode cX11_begin 27 = .ok (.ireturn, 1) := by decide +kernel
theorem dX11_begin_28 : decode cX11_begin 28 = .ok (.aload_n 0, 1) := by decide +kernel
theorem dX11_begin_29 : decode cX11_begin 29 = .ok (.iload_n 1, 1) := by decide +kernel
theorem dX11_begin_30 : decode cX11_begin 30 = .ok (.invokevirtual 164, 3) := by decide +kernel
theorem dX11_begin_33 : decode cX11_begin 33 = .ok (.aload_n 0, 1) := by decide +kernel
theorem dX11_begin_34 : decode cX11_begin 34 = .ok (.invokevirtual 168, 3) := by decide +kernel
theorem dX11_begin_37 : decode cX11_begin 37 = .ok (.ireturn, 1) := by decide +kernel
theorem dX11_begins_0 : decode cX11_begins 0 = .ok (.aload_n 0, 1) := by decide +kernel
theorem dX11_begins_1 : decode cX11_begins 1 = .ok (.invokestatic 27, 3) := by decide +kernel
theorem dX11_begins_4 : decode cX11_begins 4 = .ok (.putfield 31, 3) := by decide +kernel
theorem dX11_begins_7 : decode cX11_begins 7 = .ok (.aload_n 0, 1) := by decide +kernel
theorem dX11_begins_8 : decode cX11_begins 8 = .ok (.bipush 10, 2) := by decide +kernel
theorem dX11_begins_10 : decode cX11_begins 10 = .ok (.newarray .int, 2) := by decide +kernel
theorem dX11_begins_12 : decode cX11_begins 12 = .ok (.putfield 38, 3) := by decide +kernel
theorem dX11_begins_15 : decode cX11_begins 15 = .ok (.aload_n 0, 1) := by decide +kernel
theorem dX11_begins_16 : decode cX11_begins 16 = .ok (.iconst 0, 1) := by decide +kernel
theorem dX11_begins_17 : decode cX11_begins 17 = .ok (.putfield 162, 3) := by decide +kernel
theorem dX11_begins_20 : decode cX11_begins 20 = .ok (.aload_n 0, 1) := by decide +kernel
theorem dX11_begins_21 : decode cX11_begins 21 = .ok (.iload_n 1, 1) := by decide +kernel
theorem dX11_begins_22 : decode cX11_begins 22 = .ok (.putfield 34, 3) := by decide +kernel
theorem dX11_begins_25 : decode cX11_begins 25 = .ok (.return_, 1) := by decide +kernel
theorem dX11_blockAt_0 : decode cX11_blockAt 0 = .ok (.aload_n 0, 1) := by decide +kernel
theorem dX11_blockAt_1 : decode cX11_blockAt 1 = .ok (.iload_n 1, 1) := by decide +kernel
theorem dX11_blockAt_2 : decode cX11_blockAt 2 = .ok (.iconst 0, 1) := by decide +kernel
theorem dX11_blockAt_3 : decode cX11_blockAt 3 = .ok (.aload_n 0, 1) := by decide +kernel
theorem dX11_blockAt_4 : decode cX11_blockAt 4 = .ok (.aload_n 0, 1) := by decide +kernel
theorem dX11_blockAt_5 : decode cX11_blockAt 5 = .ok (.getfield 31, 3) := by decide +kernel
theorem dX11_blockAt_8 : decode cX11_blockAt 8 = .ok (.invokevirtual 179, 3) := by decide +kernel
theorem dX11_blockAt_11 : decode cX11_blockAt 11 = .ok (.iconst 1, 1) := by decide +kernel
theorem dX11_blockAt_12 : decode cX11_blockAt 12 = .ok (.isub, 1) := by decide +kernel
theorem dX11_blockAt_13 : decode cX11_blockAt 13 = .ok (.invokestatic 78, 3) := by decide +kernel
theorem dX11_blockAt_16 : decode cX11_blockAt 16 = .ok (.ifCond .ne 7, 3) := by decide +kernel
theorem dX11_blockAt_19 : decode cX11_blockAt 19 = .ok (.iconst 1, 1) := by decide +kernel
theorem dX11_blockAt_20 : decode cX11_blockAt 20 = .ok (.goto 4, 3) := by decide +kernel
theorem dX11_blockAt_24 : decode cX11_blockAt 24 = .ok (.iconst 0, 1) := by decide +kernel
theorem dX11_blockAt_25 : decode cX11_blockAt 25 = .ok (.iconst 0, 1) := by decide +kernel
theorem dX11_blockAt_26 : decode cX11_blockAt 26 = .ok (.invokevirtual 128, 3) := by decide +kernel
theorem dX11_blockAt_29 : decode cX11_blockAt 29 = .ok (.ifCond .eq 5, 3) := by decide +kernel
theorem dX11_blockAt_32 : decode cX11_blockAt 32 = .ok (.iconst 0, 1) := by decide +kernel
theorem dX11_blockAt_33 : decode cX11_blockAt 33 = .ok (.ireturn, 1) := by decide +kernel
theorem dX11_blocksOf_0 : decode cX11_blocksOf 0 = .ok (.iconst 0, 1) := by decide +kernel
theorem dX11_blocksOf_1 : decode cX11_blocksOf 1 = .ok (.istore_n 2, 1) := by decide +kernel
theorem dX11_blocksOf_2 : decode cX11_blocksOf 2 = .ok (.iconst 0, 1) := by decide +kernel
theorem dX11_blocksOf_3 : decode cX11_blocksOf 3 = .ok (.istore_n 3, 1) := by decide +kernel
theorem dX11_blocksOf_4 : decode cX11_blocksOf 4 = .ok (.iload_n 3, 1) := by decide +kernel
theorem dX11_blocksOf_5 : decode cX11_blocksOf 5 = .ok (.aload_n 0, 1) := by decide +kernel
theorem dX11_blocksOf_6 : decode cX11_blocksOf 6 = .ok (.getfield 7, 3) := by decide +kernel
theorem dX11_blocksOf_9 : decode cX11_blocksOf 9 = .ok (.iconst 0, 1) := by decide +kernel
theorem dX11_blocksOf_10 : decode cX11_blocksOf 10 = .ok (.iaload, 1) := by decide +kernel
theorem dX11_blocksOf_11 : decode cX11_blocksOf 11 = .ok (.if_icmp .ge 48, 3) := by decide +kernel
theorem dX11_blocksOf_59 : decode cX11_blocksOf 59 = .ok (.iload_n 2, 1) := by decide +kernel
theorem dX11_blocksOf_60 : decode cX11_blocksOf 60 = .ok (.ireturn, 1) := by decide +kernel
theorem dX11_blocks__0 : decode cX11_blocks_ 0 = .ok (.aload_n 0, 1) := by decide +kernel
theorem dX11_blocks__1 : decode cX11_blocks_ 1 = .ok (.iconst 0, 1) := by decide +kernel
theorem dX11_blocks__2 : decode cX11_blocks_ 2 = .ok (.putfield 66, 3) := by decide +kernel
theorem dX11_blocks__5 : decode cX11_blocks_ 5 = .ok (.aload_n 0, 1) := by decide +kernel
theorem dX11_blocks__6 : decode cX11_blocks_ 6 = .ok (.aload_n 0, 1) := by decide +kernel
theorem dX11_blocks__7 : decode cX11_blocks_ 7 = .ok (.getfield 31, 3) := by decide +kernel
theorem dX11_blocks__10 : decode cX11_blocks_ 10 = .ok (.invokevirtual 179, 3) := by decide +kernel
theorem dX11_blocks__13 : decode cX11_blocks_ 13 = .ok (.ireturn, 1) := by decide +kernel
theorem dX11_byPersons_0 : decode cX11_byPersons 0 = .ok (.aload_n 0, 1) := by decide +kernel
theorem dX11_byPersons_1 : decode cX11_byPersons 1 = .ok (.iconst 1, 1) := by decide +kernel
theorem dX11_byPersons_2 : decode cX11_byPersons 2 = .ok (.iconst (-1), 1) := by decide +kernel
theorem dX11_byPersons_3 : decode cX11_byPersons 3 = .ok (.iconst (-1), 1) := by decide +kernel
theorem dX11_byPersons_4 : decode cX11_byPersons 4 = .ok (.invokevirtual 120, 3) := by decide +kernel
theorem dX11_byPersons_7 : decode cX11_byPersons 7 = .ok (.areturn, 1) := by decide +kernel
theorem dX11_checksum_0 : decode cX11_checksum 0 = .ok (.aload_n 0, 1) := by decide +kernel
theorem dX11_checksum_1 : decode cX11_checksum 1 = .ok (.iconst 0, 1) := by decide +kernel
theorem dX11_checksum_2 : decode cX11_checksum 2 = .ok (.putfield 66, 3) := by decide +kernel
theorem dX11_checksum_5 : decode cX11_checksum 5 = .ok (.ldc2_w 272, 3) := by decide +kernel
theorem dX11_checksum_8 : decode cX11_checksum 8 = .ok (.lstore_n 1, 1) := by decide +kernel
theorem dX11_checksum_9 : decode cX11_checksum 9 = .ok (.iconst 0, 1) := by decide +kernel
theorem dX11_checksum_10 : decode cX11_checksum 10 = .ok (.istore_n 3, 1) := by decide +kernel
theorem dX11_checksum_11 : decode cX11_checksum 11 = .ok (.iload_n 3, 1) := by decide +kernel
theorem dX11_checksum_12 : decode cX11_checksum 12 = .ok (.iconst 3, 1) := by decide +kernel
theorem dX11_checksum_13 : decode cX11_checksum 13 = .ok (.if_icmp .ge 98, 3) := by decide +kernel
theorem dX11_checksum_16 : decode cX11_checksum 16 = .ok (.iconst 0, 1) := by decide +kernel
theorem dX11_checksum_17 : decode cX11_checksum 17 = .ok (.istore 4, 2) := by decide +kernel
theorem dX11_checksum_19 : decode cX11_checksum 19 = .ok (.iload 4, 2) := by decide +kernel
theorem dX11_checksum_21 : decode cX11_checksum 21 = .ok (.aload_n 0, 1) := by decide +kernel
theorem dX11_checksum_22 : decode cX11_checksum 22 = .ok (.getfield 7, 3) := by decide +kernel
theorem dX11_checksum_25 : decode cX11_checksum 25 = .ok (.iload_n 3, 1) := by decide +kernel
theorem dX11_checksum_26 : decode cX11_checksum 26 = .ok (.iaload, 1) := by decide +kernel
theorem dX11_checksum_27 : decode cX11_checksum 27 = .ok (.if_icmp .ge 78, 3) := by decide +kernel
theorem dX11_checksum_105 : decode cX11_checksum 105 = .ok (.iinc 3 1, 3) := by decide +kernel
theorem dX11_checksum_108 : decode cX11_checksum 108 = .ok (.goto (-97), 3) := by decide +kernel
theorem dX11_checksum_111 : decode cX11_checksum 111 = .ok (.iconst 0, 1) := by decide +kernel
theorem dX11_checksum_112 : decode cX11_checksum 112 = .ok (.istore_n 3, 1) := by decide +kernel
theorem dX11_checksum_113 : decode cX11_checksum 113 = .ok (.iload_n 3, 1) := by decide +kernel
theorem dX11_checksum_114 : decode cX11_checksum 114 = .ok (.aload_n 0, 1) := by decide +kernel
theorem dX11_checksum_115 : decode cX11_checksum 115 = .ok (.getfield 7, 3) := by decide +kernel
theorem dX11_checksum_118 : decode cX11_checksum 118 = .ok (.iconst 1, 1) := by decide +kernel
theorem dX11_checksum_119 : decode cX11_checksum 119 = .ok (.iaload, 1) := by decide +kernel
theorem dX11_checksum_120 : decode cX11_checksum 120 = .ok (.if_icmp .ge 37, 3) := by decide +kernel
theorem dX11_checksum_157 : decode cX11_checksum 157 = .ok (.iconst 0, 1) := by decide +kernel
theorem dX11_checksum_158 : decode cX11_checksum 158 = .ok (.istore_n 3, 1) := by decide +kernel
theorem dX11_checksum_159 : decode cX11_checksum 159 = .ok (.iload_n 3, 1) := by decide +kernel
theorem dX11_checksum_160 : decode cX11_checksum 160 = .ok (.aload_n 0, 1) := by decide +kernel
theorem dX11_checksum_161 : decode cX11_checksum 161 = .ok (.getfield 7, 3) := by decide +kernel
theorem dX11_checksum_164 : decode cX11_checksum 164 = .ok (.iconst 0, 1) := by decide +kernel
theorem dX11_checksum_165 : decode cX11_checksum 165 = .ok (.iaload, 1) := by decide +kernel
theorem dX11_checksum_166 : decode cX11_checksum 166 = .ok (.if_icmp .ge 23, 3) := by decide +kernel
theorem dX11_checksum_189 : decode cX11_checksum 189 = .ok (.iconst 0, 1) := by decide +kernel
theorem dX11_checksum_190 : decode cX11_checksum 190 = .ok (.istore_n 3, 1) := by decide +kernel
theorem dX11_checksum_191 : decode cX11_checksum 191 = .ok (.iload_n 3, 1) := by decide +kernel
theorem dX11_checksum_192 : decode cX11_checksum 192 = .ok (.bipush 9, 2) := by decide +kernel
theorem dX11_checksum_194 : decode cX11_checksum 194 = .ok (.if_icmp .ge 60, 3) := by decide +kernel
theorem dX11_checksum_197 : decode cX11_checksum 197 = .ok (.iconst 0, 1) := by decide +kernel
theorem dX11_checksum_198 : decode cX11_checksum 198 = .ok (.istore 4, 2) := by decide +kernel
theorem dX11_checksum_200 : decode cX11_checksum 200 = .ok (.iload 4, 2) := by decide +kernel
theorem dX11_checksum_202 : decode cX11_checksum 202 = .ok (.bipush 9, 2) := by decide +kernel
theorem dX11_checksum_204 : decode cX11_checksum 204 = .ok (.if_icmp .ge 44, 3) := by decide +kernel
theorem dX11_checksum_207 : decode cX11_checksum 207 = .ok (.iload_n 3, 1) := by decide +kernel
theorem dX11_checksum_208 : decode cX11_checksum 208 = .ok (.iload 4, 2) := by decide +kernel
theorem dX11_checksum_210 : decode cX11_checksum 210 = .ok (.if_icmp .ne 7, 3) := by decide +kernel
theorem dX11_checksum_213 : decode cX11_checksum 213 = .ok (.lload_n 1, 1) := by decide +kernel
theorem dX11_checksum_214 : decode cX11_checksum 214 = .ok (.goto 27, 3) := by decide +kernel
theorem dX11_checksum_217 : decode cX11_checksum 217 = .ok (.ldc2_w 274, 3) := by decide +kernel
theorem dX11_checksum_220 : decode cX11_checksum 220 = .ok (.lload_n 1, 1) := by decide +kernel
theorem dX11_checksum_221 : decode cX11_checksum 221 = .ok (.lmul, 1) := by decide +kernel
theorem dX11_checksum_222 : decode cX11_checksum 222 = .ok (.aload_n 0, 1) := by decide +kernel
theorem dX11_checksum_223 : decode cX11_checksum 223 = .ok (.getfield 50, 3) := by decide +kernel
theorem dX11_checksum_226 : decode cX11_checksum 226 = .ok (.iload_n 3, 1) := by decide +kernel
theorem dX11_checksum_227 : decode cX11_checksum 227 = .ok (.aaload, 1) := by decide +kernel
theorem dX11_checksum_228 : decode cX11_checksum 228 = .ok (.iload 4, 2) := by decide +kernel
theorem dX11_checksum_230 : decode cX11_checksum 230 = .ok (.baload, 1) := by decide +kernel
theorem dX11_checksum_231 : decode cX11_checksum 231 = .ok (.ifCond .eq 7, 3) := by decide +kernel
theorem dX11_checksum_238 : decode cX11_checksum 238 = .ok (.iconst 0, 1) := by decide +kernel
theorem dX11_checksum_239 : decode cX11_checksum 239 = .ok (.i2l, 1) := by decide +kernel
theorem dX11_checksum_240 : decode cX11_checksum 240 = .ok (.ladd, 1) := by decide +kernel
theorem dX11_checksum_241 : decode cX11_checksum 241 = .ok (.lstore_n 1, 1) := by decide +kernel
theorem dX11_checksum_242 : decode cX11_checksum 242 = .ok (.iinc 4 1, 3) := by decide +kernel
theorem dX11_checksum_245 : decode cX11_checksum 245 = .ok (.goto (-45), 3) := by decide +kernel
theorem dX11_checksum_248 : decode cX11_checksum 248 = .ok (.iinc 3 1, 3) := by decide +kernel
theorem dX11_checksum_251 : decode cX11_checksum 251 = .ok (.goto (-60), 3) := by decide +kernel
theorem dX11_checksum_254 : decode cX11_checksum 254 = .ok (.iconst 0, 1) := by decide +kernel
theorem dX11_checksum_255 : decode cX11_checksum 255 = .ok (.istore_n 3, 1) := by decide +kernel
theorem dX11_checksum_256 : decode cX11_checksum 256 = .ok (.iload_n 3, 1) := by decide +kernel
theorem dX11_checksum_257 : decode cX11_checksum 257 = .ok (.aload_n 0, 1) := by decide +kernel
theorem dX11_checksum_258 : decode cX11_checksum 258 = .ok (.getfield 139, 3) := by decide +kernel
theorem dX11_checksum_261 : decode cX11_checksum 261 = .ok (.if_icmp .ge 23, 3) := by decide +kernel
theorem dX11_checksum_284 : decode cX11_checksum 284 = .ok (.lload_n 1, 1) := by decide +kernel
theorem dX11_checksum_285 : decode cX11_checksum 285 = .ok (.lreturn, 1) := by decide +kernel
theorem dX11_copied_0 : decode cX11_copied 0 = .ok (.aload_n 0, 1) := by decide +kernel
theorem dX11_copied_1 : decode cX11_copied 1 = .ok (.arraylength, 1) := by decide +kernel
theorem dX11_copied_2 : decode cX11_copied 2 = .ok (.newarray .int, 2) := by decide +kernel
theorem dX11_copied_4 : decode cX11_copied 4 = .ok (.astore_n 1, 1) := by decide +kernel
theorem dX11_copied_5 : decode cX11_copied 5 = .ok (.iconst 0, 1) := by decide +kernel
theorem dX11_copied_6 : decode cX11_copied 6 = .ok (.istore_n 2, 1) := by decide +kernel
theorem dX11_copied_7 : decode cX11_copied 7 = .ok (.iload_n 2, 1) := by decide +kernel
theorem dX11_copied_8 : decode cX11_copied 8 = .ok (.aload_n 0, 1) := by decide +kernel
theorem dX11_copied_9 : decode cX11_copied 9 = .ok (.arraylength, 1) := by decide +kernel
theorem dX11_copied_10 : decode cX11_copied 10 = .ok (.if_icmp .ge 15, 3) := by decide +kernel
theorem dX11_copied_13 : decode cX11_copied 13 = .ok (.aload_n 1, 1) := by decide +kernel
theorem dX11_copied_14 : decode cX11_copied 14 = .ok (.iload_n 2, 1) := by decide +kernel
theorem dX11_copied_15 : decode cX11_copied 15 = .ok (.aload_n 0, 1) := by decide +kernel
theorem dX11_copied_16 : decode cX11_copied 16 = .ok (.iload_n 2, 1) := by decide +kernel
theorem dX11_copied_17 : decode cX11_copied 17 = .ok (.iaload, 1) := by decide +kernel
theorem dX11_copied_18 : decode cX11_copied 18 = .ok (.iastore, 1) := by decide +kernel
theorem dX11_copied_19 : decode cX11_copied 19 = .ok (.iinc 2 1, 3) := by decide +kernel
theorem dX11_copied_22 : decode cX11_copied 22 = .ok (.goto (-15), 3) := by decide +kernel
theorem dX11_copied_25 : decode cX11_copied 25 = .ok (.aload_n 1, 1) := by decide +kernel
theorem dX11_copied_26 : decode cX11_copied 26 = .ok (.areturn, 1) := by decide +kernel
theorem dX11_cut_0 : decode cX11_cut 0 = .ok (.iload_n 1, 1) := by decide +kernel
theorem dX11_cut_1 : decode cX11_cut 1 = .ok (.invokestatic 124, 3) := by decide +kernel
theorem dX11_cut_4 : decode cX11_cut 4 = .ok (.istore 4, 2) := by decide +kernel
theorem dX11_cut_6 : decode cX11_cut 6 = .ok (.aload_n 0, 1) := by decide +kernel
theorem dX11_cut_7 : decode cX11_cut 7 = .ok (.iload 4, 2) := by decide +kernel
theorem dX11_cut_9 : decode cX11_cut 9 = .ok (.iload_n 2, 1) := by decide +kernel
theorem dX11_cut_10 : decode cX11_cut 10 = .ok (.invokevirtual 155, 3) := by decide +kernel
theorem dX11_cut_13 : decode cX11_cut 13 = .ok (.istore 5, 2) := by decide +kernel
theorem dX11_cut_15 : decode cX11_cut 15 = .ok (.iload 5, 2) := by decide +kernel
theorem dX11_cut_17 : decode cX11_cut 17 = .ok (.ifCond .eq 27, 3) := by decide +kernel
theorem dX11_cut_44 : decode cX11_cut 44 = .ok (.iconst 0, 1) := by decide +kernel
theorem dX11_cut_45 : decode cX11_cut 45 = .ok (.istore 6, 2) := by decide +kernel
theorem dX11_cut_47 : decode cX11_cut 47 = .ok (.aload_n 0, 1) := by decide +kernel
theorem dX11_cut_48 : decode cX11_cut 48 = .ok (.iload 4, 2) := by decide +kernel
theorem dX11_cut_50 : decode cX11_cut 50 = .ok (.ifCond .ge 7, 3) := by decide +kernel
theorem dX11_cut_53 : decode cX11_cut 53 = .ok (.iconst 1, 1) := by decide +kernel
theorem dX11_cut_54 : decode cX11_cut 54 = .ok (.goto 4, 3) := by decide +kernel
theorem dX11_cut_57 : decode cX11_cut 57 = .ok (.iconst 0, 1) := by decide +kernel
theorem dX11_cut_58 : decode cX11_cut 58 = .ok (.iload 5, 2) := by decide +kernel
theorem dX11_cut_60 : decode cX11_cut 60 = .ok (.ifCond .ne 7, 3) := by decide +kernel
theorem dX11_cut_63 : decode cX11_cut 63 = .ok (.iconst 1, 1) := by decide +kernel
theorem dX11_cut_64 : decode cX11_cut 64 = .ok (.goto 4, 3) := by decide +kernel
theorem dX11_cut_68 : decode cX11_cut 68 = .ok (.iload 6, 2) := by decide +kernel
theorem dX11_cut_70 : decode cX11_cut 70 = .ok (.invokevirtual 128, 3) := by decide +kernel
theorem dX11_cut_73 : decode cX11_cut 73 = .ok (.ifCond .eq 5, 3) := by decide +kernel
theorem dX11_cut_76 : decode cX11_cut 76 = .ok (.iconst 0, 1) := by decide +kernel
theorem dX11_cut_77 : decode cX11_cut 77 = .ok (.ireturn, 1) := by decide +kernel
theorem dX11_cutFor_0 : decode cX11_cutFor 0 = .ok (.aload_n 0, 1) := by decide +kernel
theorem dX11_cutFor_1 : decode cX11_cutFor 1 = .ok (.iload_n 1, 1) := by decide +kernel
theorem dX11_cutFor_2 : decode cX11_cutFor 2 = .ok (.invokevirtual 135, 3) := by decide +kernel
theorem dX11_cutFor_5 : decode cX11_cutFor 5 = .ok (.istore_n 2, 1) := by decide +kernel
theorem dX11_cutFor_6 : decode cX11_cutFor 6 = .ok (.aload_n 0, 1) := by decide +kernel
theorem dX11_cutFor_7 : decode cX11_cutFor 7 = .ok (.iload_n 2, 1) := by decide +kernel
theorem dX11_cutFor_8 : decode cX11_cutFor 8 = .ok (.ifCond .ne 7, 3) := by decide +kernel
theorem dX11_cutFor_11 : decode cX11_cutFor 11 = .ok (.iconst 1, 1) := by decide +kernel
theorem dX11_cutFor_12 : decode cX11_cutFor 12 = .ok (.goto 4, 3) := by decide +kernel
theorem dX11_cutFor_16 : decode cX11_cutFor 16 = .ok (.iload_n 2, 1) := by decide +kernel
theorem dX11_cutFor_17 : decode cX11_cutFor 17 = .ok (.ifCond .eq 17, 3) := by decide +kernel
theorem dX11_cutFor_34 : decode cX11_cutFor 34 = .ok (.iconst 0, 1) := by decide +kernel
theorem dX11_cutFor_35 : decode cX11_cutFor 35 = .ok (.iconst 0, 1) := by decide +kernel
theorem dX11_cutFor_36 : decode cX11_cutFor 36 = .ok (.invokevirtual 128, 3) := by decide +kernel
theorem dX11_cutFor_39 : decode cX11_cutFor 39 = .ok (.ifCond .eq 5, 3) := by decide +kernel
theorem dX11_cutFor_42 : decode cX11_cutFor 42 = .ok (.iconst 0, 1) := by decide +kernel
theorem dX11_cutFor_43 : decode cX11_cutFor 43 = .ok (.ireturn, 1) := by decide +kernel
theorem dX11_erase_0 : decode cX11_erase 0 = .ok (.aload_n 0, 1) := by decide +kernel
theorem dX11_erase_1 : decode cX11_erase 1 = .ok (.iconst 0, 1) := by decide +kernel
theorem dX11_erase_2 : decode cX11_erase 2 = .ok (.putfield 66, 3) := by decide +kernel
theorem dX11_erase_5 : decode cX11_erase 5 = .ok (.aload_n 0, 1) := by decide +kernel
theorem dX11_erase_6 : decode cX11_erase 6 = .ok (.getfield 139, 3) := by decide +kernel
theorem dX11_erase_9 : decode cX11_erase 9 = .ok (.istore_n 1, 1) := by decide +kernel
theorem dX11_erase_10 : decode cX11_erase 10 = .ok (.aload_n 0, 1) := by decide +kernel
theorem dX11_erase_11 : decode cX11_erase 11 = .ok (.iconst 0, 1) := by decide +kernel
theorem dX11_erase_12 : decode cX11_erase 12 = .ok (.putfield 139, 3) := by decide +kernel
theorem dX11_erase_15 : decode cX11_erase 15 = .ok (.iload_n 1, 1) := by decide +kernel
theorem dX11_erase_16 : decode cX11_erase 16 = .ok (.ireturn, 1) := by decide +kernel
theorem dX11_fails_0 : decode cX11_fails 0 = .ok (.aload_n 0, 1) := by decide +kernel
theorem dX11_fails_1 : decode cX11_fails 1 = .ok (.iload_n 1, 1) := by decide +kernel
theorem dX11_fails_2 : decode cX11_fails 2 = .ok (.ifCond .eq 7, 3) := by decide +kernel
theorem dX11_fails_5 : decode cX11_fails 5 = .ok (.iconst 1, 1) := by decide +kernel
theorem dX11_fails_6 : decode cX11_fails 6 = .ok (.goto 20, 3) := by decide +kernel
theorem dX11_fails_9 : decode cX11_fails 9 = .ok (.iload_n 2, 1) := by decide +kernel
theorem dX11_fails_10 : decode cX11_fails 10 = .ok (.ifCond .eq 7, 3) := by decide +kernel
theorem dX11_fails_13 : decode cX11_fails 13 = .ok (.iconst 2, 1) := by decide +kernel
theorem dX11_fails_14 : decode cX11_fails 14 = .ok (.goto 12, 3) := by decide +kernel
theorem dX11_fails_17 : decode cX11_fails 17 = .ok (.iload_n 3, 1) := by decide +kernel
theorem dX11_fails_18 : decode cX11_fails 18 = .ok (.ifCond .eq 7, 3) := by decide +kernel
theorem dX11_fails_25 : decode cX11_fails 25 = .ok (.iconst 0, 1) := by decide +kernel
theorem dX11_fails_26 : decode cX11_fails 26 = .ok (.putfield 66, 3) := by decide +kernel
theorem dX11_fails_29 : decode cX11_fails 29 = .ok (.aload_n 0, 1) := by decide +kernel
theorem dX11_fails_30 : decode cX11_fails 30 = .ok (.getfield 66, 3) := by decide +kernel
theorem dX11_fails_33 : decode cX11_fails 33 = .ok (.ifCond .le 7, 3) := by decide +kernel
theorem dX11_fails_36 : decode cX11_fails 36 = .ok (.iconst 1, 1) := by decide +kernel
theorem dX11_fails_37 : decode cX11_fails 37 = .ok (.goto 4, 3) := by decide +kernel
theorem dX11_fails_40 : decode cX11_fails 40 = .ok (.iconst 0, 1) := by decide +kernel
theorem dX11_fails_41 : decode cX11_fails 41 = .ok (.ireturn, 1) := by decide +kernel
theorem dX11_fairest_0 : decode cX11_fairest 0 = .ok (.iload_n 1, 1) := by decide +kernel
theorem dX11_fairest_1 : decode cX11_fairest 1 = .ok (.bipush 115, 2) := by decide +kernel
theorem dX11_fairest_3 : decode cX11_fairest 3 = .ok (.if_icmp .eq 9, 3) := by decide +kernel
theorem dX11_fairest_6 : decode cX11_fairest 6 = .ok (.iload_n 1, 1) := by decide +kernel
theorem dX11_fairest_7 : decode cX11_fairest 7 = .ok (.bipush 119, 2) := by decide +kernel
theorem dX11_fairest_9 : decode cX11_fairest 9 = .ok (.if_icmp .ne 7, 3) := by decide +kernel
theorem dX11_fairest_12 : decode cX11_fairest 12 = .ok (.iconst 1, 1) := by decide +kernel
theorem dX11_fairest_13 : decode cX11_fairest 13 = .ok (.goto 4, 3) := by decide +kernel
theorem dX11_fairest_16 : decode cX11_fairest 16 = .ok (.iconst 0, 1) := by decide +kernel
theorem dX11_fairest_17 : decode cX11_fairest 17 = .ok (.istore_n 2, 1) := by decide +kernel
theorem dX11_fairest_18 : decode cX11_fairest 18 = .ok (.aload_n 0, 1) := by decide +kernel
theorem dX11_fairest_19 : decode cX11_fairest 19 = .ok (.iload_n 2, 1) := by decide +kernel
theorem dX11_fairest_20 : decode cX11_fairest 20 = .ok (.ifCond .ne 7, 3) := by decide +kernel
theorem dX11_fairest_23 : decode cX11_fairest 23 = .ok (.iconst 1, 1) := by decide +kernel
theorem dX11_fairest_24 : decode cX11_fairest 24 = .ok (.goto 4, 3) := by decide +kernel
theorem dX11_fairest_27 : decode cX11_fairest 27 = .ok (.iconst 0, 1) := by decide +kernel
theorem dX11_fairest_28 : decode cX11_fairest 28 = .ok (.iload_n 2, 1) := by decide +kernel
theorem dX11_fairest_29 : decode cX11_fairest 29 = .ok (.ifCond .eq 14, 3) := by decide +kernel
theorem dX11_fairest_32 : decode cX11_fairest 32 = .ok (.aload_n 0, 1) := by decide +kernel
theorem dX11_fairest_33 : decode cX11_fairest 33 = .ok (.invokevirtual 226, 3) := by decide +kernel
theorem dX11_fairest_36 : decode cX11_fairest 36 = .ok (.ifCond .eq 7, 3) := by decide +kernel
theorem dX11_fairest_43 : decode cX11_fairest 43 = .ok (.iconst 0, 1) := by decide +kernel
theorem dX11_fairest_44 : decode cX11_fairest 44 = .ok (.iconst 0, 1) := by decide +kernel
theorem dX11_fairest_45 : decode cX11_fairest 45 = .ok (.invokevirtual 128, 3) := by decide +kernel
theorem dX11_fairest_48 : decode cX11_fairest 48 = .ok (.ifCond .eq 5, 3) := by decide +kernel
theorem dX11_fairest_51 : decode cX11_fairest 51 = .ok (.iconst 0, 1) := by decide +kernel
theorem dX11_fairest_52 : decode cX11_fairest 52 = .ok (.ireturn, 1) := by decide +kernel
theorem dX11_fairest_53 : decode cX11_fairest 53 = .ok (.iconst 0, 1) := by decide +kernel
theorem dX11_fairest_54 : decode cX11_fairest 54 = .ok (.istore_n 3, 1) := by decide +kernel
theorem dX11_fairest_55 : decode cX11_fairest 55 = .ok (.iconst 1, 1) := by decide +kernel
theorem dX11_fairest_56 : decode cX11_fairest 56 = .ok (.istore 4, 2) := by decide +kernel
theorem dX11_fairest_58 : decode cX11_fairest 58 = .ok (.iload 4, 2) := by decide +kernel
theorem dX11_fairest_60 : decode cX11_fairest 60 = .ok (.aload_n 0, 1) := by decide +kernel
theorem dX11_fairest_61 : decode cX11_fairest 61 = .ok (.getfield 215, 3) := by decide +kernel
theorem dX11_fairest_64 : decode cX11_fairest 64 = .ok (.if_icmp .ge 42, 3) := by decide +kernel
theorem dX11_fairest_106 : decode cX11_fairest 106 = .ok (.aload_n 0, 1) := by decide +kernel
theorem dX11_fairest_107 : decode cX11_fairest 107 = .ok (.iload_n 1, 1) := by decide +kernel
theorem dX11_fairest_108 : decode cX11_fairest 108 = .ok (.aload_n 0, 1) := by decide +kernel
theorem dX11_fairest_109 : decode cX11_fairest 109 = .ok (.getfield 57, 3) := by decide +kernel
theorem dX11_fairest_112 : decode cX11_fairest 112 = .ok (.iload_n 3, 1) := by decide +kernel
theorem dX11_fairest_113 : decode cX11_fairest 113 = .ok (.aaload, 1) := by decide +kernel
theorem dX11_fairest_114 : decode cX11_fairest 114 = .ok (.invokevirtual 233, 3) := by decide +kernel
theorem dX11_fairest_117 : decode cX11_fairest 117 = .ok (.istore 4, 2) := by decide +kernel
theorem dX11_fairest_119 : decode cX11_fairest 119 = .ok (.aload_n 0, 1) := by decide +kernel
theorem dX11_fairest_120 : decode cX11_fairest 120 = .ok (.iload_n 3, 1) := by decide +kernel
theorem dX11_fairest_121 : decode cX11_fairest 121 = .ok (.invokevirtual 230, 3) := by decide +kernel
theorem dX11_fairest_124 : decode cX11_fairest 124 = .ok (.istore 5, 2) := by decide +kernel
theorem dX11_fairest_126 : decode cX11_fairest 126 = .ok (.iload 4, 2) := by decide +kernel
theorem dX11_fairest_128 : decode cX11_fairest 128 = .ok (.ireturn, 1) := by decide +kernel
theorem dX11_filled_0 : decode cX11_filled 0 = .ok (.aload_n 0, 1) := by decide +kernel
theorem dX11_filled_1 : decode cX11_filled 1 = .ok (.aload_n 0, 1) := by decide +kernel
theorem dX11_filled_2 : decode cX11_filled 2 = .ok (.iload_n 1, 1) := by decide +kernel
theorem dX11_filled_3 : decode cX11_filled 3 = .ok (.invokevirtual 135, 3) := by decide +kernel
theorem dX11_filled_6 : decode cX11_filled 6 = .ok (.ifCond .ne 7, 3) := by decide +kernel
theorem dX11_filled_9 : decode cX11_filled 9 = .ok (.iconst 1, 1) := by decide +kernel
theorem dX11_filled_10 : decode cX11_filled 10 = .ok (.goto 4, 3) := by decide +kernel
theorem dX11_filled_14 : decode cX11_filled 14 = .ok (.iconst 0, 1) := by decide +kernel
theorem dX11_filled_15 : decode cX11_filled 15 = .ok (.iconst 0, 1) := by decide +kernel
theorem dX11_filled_16 : decode cX11_filled 16 = .ok (.invokevirtual 128, 3) := by decide +kernel
theorem dX11_filled_19 : decode cX11_filled 19 = .ok (.ifCond .eq 7, 3) := by decide +kernel
theorem dX11_filled_22 : decode cX11_filled 22 = .ok (.iconst 0, 1) := by decide +kernel
theorem dX11_filled_23 : decode cX11_filled 23 = .ok (.goto 12, 3) := by decide +kernel
theorem dX11_filled_35 : decode cX11_filled 35 = .ok (.ireturn, 1) := by decide +kernel
theorem dX11_finds_0 : decode cX11_finds 0 = .ok (.iconst 0, 1) := by decide +kernel
theorem dX11_finds_1 : decode cX11_finds 1 = .ok (.istore_n 2, 1) := by decide +kernel
theorem dX11_finds_2 : decode cX11_finds 2 = .ok (.iload_n 2, 1) := by decide +kernel
theorem dX11_finds_3 : decode cX11_finds 3 = .ok (.aload_n 0, 1) := by decide +kernel
theorem dX11_finds_4 : decode cX11_finds 4 = .ok (.getfield 215, 3) := by decide +kernel
theorem dX11_finds_7 : decode cX11_finds 7 = .ok (.if_icmp .ge 22, 3) := by decide +kernel
theorem dX11_finds_29 : decode cX11_finds 29 = .ok (.iload_n 2, 1) := by decide +kernel
theorem dX11_finds_30 : decode cX11_finds 30 = .ok (.aload_n 0, 1) := by decide +kernel
theorem dX11_finds_31 : decode cX11_finds 31 = .ok (.getfield 215, 3) := by decide +kernel
theorem dX11_finds_34 : decode cX11_finds 34 = .ok (.if_icmp .eq 16, 3) := by decide +kernel
theorem dX11_finds_50 : decode cX11_finds 50 = .ok (.iconst 1, 1) := by decide +kernel
theorem dX11_finds_51 : decode cX11_finds 51 = .ok (.goto 4, 3) := by decide +kernel
theorem dX11_finds_55 : decode cX11_finds 55 = .ok (.istore_n 3, 1) := by decide +kernel
theorem dX11_finds_56 : decode cX11_finds 56 = .ok (.iload_n 3, 1) := by decide +kernel
theorem dX11_finds_57 : decode cX11_finds 57 = .ok (.ifCond .eq 63, 3) := by decide +kernel
theorem dX11_finds_60 : decode cX11_finds 60 = .ok (.aload_n 0, 1) := by decide +kernel
theorem dX11_finds_61 : decode cX11_finds 61 = .ok (.getfield 215, 3) := by decide +kernel
theorem dX11_finds_64 : decode cX11_finds 64 = .ok (.bipush 60, 2) := by decide +kernel
theorem dX11_finds_66 : decode cX11_finds 66 = .ok (.if_icmp .gt 54, 3) := by decide +kernel
theorem dX11_finds_69 : decode cX11_finds 69 = .ok (.aload_n 0, 1) := by decide +kernel
theorem dX11_finds_70 : decode cX11_finds 70 = .ok (.getfield 215, 3) := by decide +kernel
theorem dX11_finds_73 : decode cX11_finds 73 = .ok (.istore 4, 2) := by decide +kernel
theorem dX11_finds_75 : decode cX11_finds 75 = .ok (.iload 4, 2) := by decide +kernel
theorem dX11_finds_77 : decode cX11_finds 77 = .ok (.iload_n 2, 1) := by decide +kernel
theorem dX11_finds_78 : decode cX11_finds 78 = .ok (.if_icmp .le 25, 3) := by decide +kernel
theorem dX11_finds_103 : decode cX11_finds 103 = .ok (.aload_n 0, 1) := by decide +kernel
theorem dX11_finds_104 : decode cX11_finds 104 = .ok (.getfield 57, 3) := by decide +kernel
theorem dX11_finds_107 : decode cX11_finds 107 = .ok (.iload_n 2, 1) := by decide +kernel
theorem dX11_finds_108 : decode cX11_finds 108 = .ok (.aload_n 1, 1) := by decide +kernel
theorem dX11_finds_109 : decode cX11_finds 109 = .ok (.aastore, 1) := by decide +kernel
theorem dX11_finds_110 : decode cX11_finds 110 = .ok (.aload_n 0, 1) := by decide +kernel
theorem dX11_finds_111 : decode cX11_finds 111 = .ok (.dup, 1) := by decide +kernel
theorem dX11_finds_112 : decode cX11_finds 112 = .ok (.getfield 215, 3) := by decide +kernel
theorem dX11_finds_115 : decode cX11_finds 115 = .ok (.iconst 1, 1) := by decide +kernel
theorem dX11_finds_116 : decode cX11_finds 116 = .ok (.iadd, 1) := by decide +kernel
theorem dX11_finds_117 : decode cX11_finds 117 = .ok (.putfield 215, 3) := by decide +kernel
theorem dX11_finds_120 : decode cX11_finds 120 = .ok (.return_, 1) := by decide +kernel
theorem dX11_gain_0 : decode cX11_gain 0 = .ok (.aload_n 0, 1) := by decide +kernel
theorem dX11_gain_1 : decode cX11_gain 1 = .ok (.iload_n 1, 1) := by decide +kernel
theorem dX11_gain_2 : decode cX11_gain 2 = .ok (.invokevirtual 135, 3) := by decide +kernel
theorem dX11_gain_5 : decode cX11_gain 5 = .ok (.istore_n 2, 1) := by decide +kernel
theorem dX11_gain_6 : decode cX11_gain 6 = .ok (.aload_n 0, 1) := by decide +kernel
theorem dX11_gain_7 : decode cX11_gain 7 = .ok (.iload_n 2, 1) := by decide +kernel
theorem dX11_gain_8 : decode cX11_gain 8 = .ok (.ifCond .ne 7, 3) := by decide +kernel
theorem dX11_gain_11 : decode cX11_gain 11 = .ok (.iconst 1, 1) := by decide +kernel
theorem dX11_gain_12 : decode cX11_gain 12 = .ok (.goto 4, 3) := by decide +kernel
theorem dX11_gain_16 : decode cX11_gain 16 = .ok (.iload_n 2, 1) := by decide +kernel
theorem dX11_gain_17 : decode cX11_gain 17 = .ok (.ifCond .eq 17, 3) := by decide +kernel
theorem dX11_gain_34 : decode cX11_gain 34 = .ok (.iconst 0, 1) := by decide +kernel
theorem dX11_gain_35 : decode cX11_gain 35 = .ok (.iconst 0, 1) := by decide +kernel
theorem dX11_gain_36 : decode cX11_gain 36 = .ok (.invokevirtual 128, 3) := by decide +kernel
theorem dX11_gain_39 : decode cX11_gain 39 = .ok (.ifCond .eq 7, 3) := by decide +kernel
theorem dX11_gain_42 : decode cX11_gain 42 = .ok (.iconst 0, 1) := by decide +kernel
theorem dX11_gain_43 : decode cX11_gain 43 = .ok (.goto 8, 3) := by decide +kernel
theorem dX11_gain_51 : decode cX11_gain 51 = .ok (.ireturn, 1) := by decide +kernel
theorem dX11_give_0 : decode cX11_give 0 = .ok (.aload_n 0, 1) := by decide +kernel
theorem dX11_give_1 : decode cX11_give 1 = .ok (.iload_n 1, 1) := by decide +kernel
theorem dX11_give_2 : decode cX11_give 2 = .ok (.iconst 0, 1) := by decide +kernel
theorem dX11_give_3 : decode cX11_give 3 = .ok (.bipush 8, 2) := by decide +kernel
theorem dX11_give_5 : decode cX11_give 5 = .ok (.invokestatic 78, 3) := by decide +kernel
theorem dX11_give_8 : decode cX11_give 8 = .ok (.ifCond .eq 18, 3) := by decide +kernel
theorem dX11_give_11 : decode cX11_give 11 = .ok (.iload_n 2, 1) := by decide +kernel
theorem dX11_give_12 : decode cX11_give 12 = .ok (.iconst 0, 1) := by decide +kernel
theorem dX11_give_13 : decode cX11_give 13 = .ok (.bipush 8, 2) := by decide +kernel
theorem dX11_give_15 : decode cX11_give 15 = .ok (.invokestatic 78, 3) := by decide +kernel
theorem dX11_give_18 : decode cX11_give 18 = .ok (.ifCond .eq 8, 3) := by decide +kernel
theorem dX11_give_21 : decode cX11_give 21 = .ok (.iload_n 1, 1) := by decide +kernel
theorem dX11_give_22 : decode cX11_give 22 = .ok (.iload_n 2, 1) := by decide +kernel
theorem dX11_give_23 : decode cX11_give 23 = .ok (.if_icmp .ne 7, 3) := by decide +kernel
theorem dX11_give_26 : decode cX11_give 26 = .ok (.iconst 1, 1) := by decide +kernel
theorem dX11_give_27 : decode cX11_give 27 = .ok (.goto 4, 3) := by decide +kernel
theorem dX11_give_30 : decode cX11_give 30 = .ok (.iconst 0, 1) := by decide +kernel
theorem dX11_give_31 : decode cX11_give 31 = .ok (.iconst 0, 1) := by decide +kernel
theorem dX11_give_32 : decode cX11_give 32 = .ok (.iconst 0, 1) := by decide +kernel
theorem dX11_give_33 : decode cX11_give 33 = .ok (.invokevirtual 128, 3) := by decide +kernel
theorem dX11_give_36 : decode cX11_give 36 = .ok (.ifCond .eq 5, 3) := by decide +kernel
theorem dX11_give_39 : decode cX11_give 39 = .ok (.iconst 0, 1) := by decide +kernel
theorem dX11_give_40 : decode cX11_give 40 = .ok (.ireturn, 1) := by decide +kernel
theorem dX11_give_41 : decode cX11_give 41 = .ok (.aload_n 0, 1) := by decide +kernel
theorem dX11_give_42 : decode cX11_give 42 = .ok (.getfield 50, 3) := by decide +kernel
theorem dX11_give_45 : decode cX11_give 45 = .ok (.iload_n 1, 1) := by decide +kernel
theorem dX11_give_46 : decode cX11_give 46 = .ok (.aaload, 1) := by decide +kernel
theorem dX11_give_47 : decode cX11_give 47 = .ok (.iload_n 2, 1) := by decide +kernel
theorem dX11_give_48 : decode cX11_give 48 = .ok (.baload, 1) := by decide +kernel
theorem dX11_give_49 : decode cX11_give 49 = .ok (.istore 4, 2) := by decide +kernel
theorem dX11_give_51 : decode cX11_give 51 = .ok (.aload_n 0, 1) := by decide +kernel
theorem dX11_give_52 : decode cX11_give 52 = .ok (.getfield 50, 3) := by decide +kernel
theorem dX11_give_55 : decode cX11_give 55 = .ok (.iload_n 1, 1) := by decide +kernel
theorem dX11_give_56 : decode cX11_give 56 = .ok (.aaload, 1) := by decide +kernel
theorem dX11_give_57 : decode cX11_give 57 = .ok (.iload_n 2, 1) := by decide +kernel
theorem dX11_give_58 : decode cX11_give 58 = .ok (.iload_n 3, 1) := by decide +kernel
theorem dX11_give_59 : decode cX11_give 59 = .ok (.bastore, 1) := by decide +kernel
theorem dX11_give_60 : decode cX11_give 60 = .ok (.iload 4, 2) := by decide +kernel
theorem dX11_give_62 : decode cX11_give 62 = .ok (.ireturn, 1) := by decide +kernel
theorem dX11_held_0 : decode cX11_held 0 = .ok (.aload_n 0, 1) := by decide +kernel
theorem dX11_held_1 : decode cX11_held 1 = .ok (.aload_n 0, 1) := by decide +kernel
theorem dX11_held_2 : decode cX11_held 2 = .ok (.iload_n 1, 1) := by decide +kernel
theorem dX11_held_3 : decode cX11_held 3 = .ok (.invokevirtual 135, 3) := by decide +kernel
theorem dX11_held_6 : decode cX11_held 6 = .ok (.ifCond .ne 7, 3) := by decide +kernel
theorem dX11_held_9 : decode cX11_held 9 = .ok (.iconst 1, 1) := by decide +kernel
theorem dX11_held_10 : decode cX11_held 10 = .ok (.goto 4, 3) := by decide +kernel
theorem dX11_held_14 : decode cX11_held 14 = .ok (.iconst 0, 1) := by decide +kernel
theorem dX11_held_15 : decode cX11_held 15 = .ok (.iconst 0, 1) := by decide +kernel
theorem dX11_held_16 : decode cX11_held 16 = .ok (.invokevirtual 128, 3) := by decide +kernel
theorem dX11_held_19 : decode cX11_held 19 = .ok (.ifCond .eq 7, 3) := by decide +kernel
theorem dX11_held_22 : decode cX11_held 22 = .ok (.iconst 0, 1) := by decide +kernel
theorem dX11_held_23 : decode cX11_held 23 = .ok (.goto 12, 3) := by decide +kernel
theorem dX11_held_35 : decode cX11_held 35 = .ok (.ireturn, 1) := by decide +kernel
theorem dX11_heldAt_0 : decode cX11_heldAt 0 = .ok (.aload_n 0, 1) := by decide +kernel
theorem dX11_heldAt_1 : decode cX11_heldAt 1 = .ok (.iload_n 1, 1) := by decide +kernel
theorem dX11_heldAt_2 : decode cX11_heldAt 2 = .ok (.invokevirtual 135, 3) := by decide +kernel
theorem dX11_heldAt_5 : decode cX11_heldAt 5 = .ok (.istore_n 3, 1) := by decide +kernel
theorem dX11_heldAt_6 : decode cX11_heldAt 6 = .ok (.aload_n 0, 1) := by decide +kernel
theorem dX11_heldAt_7 : decode cX11_heldAt 7 = .ok (.iload_n 3, 1) := by decide +kernel
theorem dX11_heldAt_8 : decode cX11_heldAt 8 = .ok (.ifCond .ne 7, 3) := by decide +kernel
theorem dX11_heldAt_11 : decode cX11_heldAt 11 = .ok (.iconst 1, 1) := by decide +kernel
theorem dX11_heldAt_12 : decode cX11_heldAt 12 = .ok (.goto 4, 3) := by decide +kernel
theorem dX11_heldAt_16 : decode cX11_heldAt 16 = .ok (.iload_n 3, 1) := by decide +kernel
theorem dX11_heldAt_17 : decode cX11_heldAt 17 = .ok (.ifCond .eq 26, 3) := by decide +kernel
theorem dX11_heldAt_43 : decode cX11_heldAt 43 = .ok (.iconst 0, 1) := by decide +kernel
theorem dX11_heldAt_44 : decode cX11_heldAt 44 = .ok (.iconst 0, 1) := by decide +kernel
theorem dX11_heldAt_45 : decode cX11_heldAt 45 = .ok (.invokevirtual 128, 3) := by decide +kernel
theorem dX11_heldAt_48 : decode cX11_heldAt 48 = .ok (.ifCond .eq 5, 3) := by decide +kernel
theorem dX11_heldAt_51 : decode cX11_heldAt 51 = .ok (.iconst 0, 1) := by decide +kernel
theorem dX11_heldAt_52 : decode cX11_heldAt 52 = .ok (.ireturn, 1) := by decide +kernel
theorem dX11_helped_0 : decode cX11_helped 0 = .ok (.aload_n 0, 1) := by decide +kernel
theorem dX11_helped_1 : decode cX11_helped 1 = .ok (.iload_n 1, 1) := by decide +kernel
theorem dX11_helped_2 : decode cX11_helped 2 = .ok (.iconst 2, 1) := by decide +kernel
theorem dX11_helped_3 : decode cX11_helped 3 = .ok (.iconst 3, 1) := by decide +kernel
theorem dX11_helped_4 : decode cX11_helped 4 = .ok (.invokestatic 78, 3) := by decide +kernel
theorem dX11_helped_7 : decode cX11_helped 7 = .ok (.ifCond .ne 7, 3) := by decide +kernel
theorem dX11_helped_10 : decode cX11_helped 10 = .ok (.iconst 1, 1) := by decide +kernel
theorem dX11_helped_11 : decode cX11_helped 11 = .ok (.goto 4, 3) := by decide +kernel
theorem dX11_helped_14 : decode cX11_helped 14 = .ok (.iconst 0, 1) := by decide +kernel
theorem dX11_helped_15 : decode cX11_helped 15 = .ok (.iconst 0, 1) := by decide +kernel
theorem dX11_helped_16 : decode cX11_helped 16 = .ok (.iconst 0, 1) := by decide +kernel
theorem dX11_helped_17 : decode cX11_helped 17 = .ok (.invokevirtual 128, 3) := by decide +kernel
theorem dX11_helped_20 : decode cX11_helped 20 = .ok (.ifCond .eq 5, 3) := by decide +kernel
theorem dX11_helped_23 : decode cX11_helped 23 = .ok (.iconst 0, 1) := by decide +kernel
theorem dX11_helped_24 : decode cX11_helped 24 = .ok (.ireturn, 1) := by decide +kernel
theorem dX11_helped_25 : decode cX11_helped 25 = .ok (.sipush 512, 3) := by decide +kernel
theorem dX11_helped_28 : decode cX11_helped 28 = .ok (.newarray .int, 2) := by decide +kernel
theorem dX11_helped_30 : decode cX11_helped 30 = .ok (.astore_n 2, 1) := by decide +kernel
theorem dX11_helped_31 : decode cX11_helped 31 = .ok (.iconst 1, 1) := by decide +kernel
theorem dX11_helped_32 : decode cX11_helped 32 = .ok (.istore_n 3, 1) := by decide +kernel
theorem dX11_helped_33 : decode cX11_helped 33 = .ok (.iload_n 3, 1) := by decide +kernel
theorem dX11_helped_34 : decode cX11_helped 34 = .ok (.aload_n 2, 1) := by decide +kernel
theorem dX11_helped_35 : decode cX11_helped 35 = .ok (.arraylength, 1) := by decide +kernel
theorem dX11_helped_36 : decode cX11_helped 36 = .ok (.if_icmp .ge 263, 3) := by decide +kernel
theorem dX11_helped_39 : decode cX11_helped 39 = .ok (.iconst 0, 1) := by decide +kernel
theorem dX11_helped_40 : decode cX11_helped 40 = .ok (.istore 4, 2) := by decide +kernel
theorem dX11_helped_42 : decode cX11_helped 42 = .ok (.iload_n 3, 1) := by decide +kernel
theorem dX11_helped_43 : decode cX11_helped 43 = .ok (.iload 4, 2) := by decide +kernel
theorem dX11_helped_45 : decode cX11_helped 45 = .ok (.ishr, 1) := by decide +kernel
theorem dX11_helped_46 : decode cX11_helped 46 = .ok (.iconst 1, 1) := by decide +kernel
theorem dX11_helped_47 : decode cX11_helped 47 = .ok (.iand, 1) := by decide +kernel
theorem dX11_helped_48 : decode cX11_helped 48 = .ok (.ifCond .ne 9, 3) := by decide +kernel
theorem dX11_helped_51 : decode cX11_helped 51 = .ok (.iinc 4 1, 3) := by decide +kernel
theorem dX11_helped_54 : decode cX11_helped 54 = .ok (.goto (-12), 3) := by decide +kernel
theorem dX11_helped_57 : decode cX11_helped 57 = .ok (.iload_n 3, 1) := by decide +kernel
theorem dX11_helped_58 : decode cX11_helped 58 = .ok (.iconst 1, 1) := by decide +kernel
theorem dX11_helped_59 : decode cX11_helped 59 = .ok (.iload 4, 2) := by decide +kernel
theorem dX11_helped_61 : decode cX11_helped 61 = .ok (.ishl, 1) := by decide +kernel
theorem dX11_helped_62 : decode cX11_helped 62 = .ok (.ixor, 1) := by decide +kernel
theorem dX11_helped_63 : decode cX11_helped 63 = .ok (.istore 5, 2) := by decide +kernel
theorem dX11_helped_65 : decode cX11_helped 65 = .ok (.aload_n 2, 1) := by decide +kernel
theorem dX11_helped_66 : decode cX11_helped 66 = .ok (.iload 5, 2) := by decide +kernel
theorem dX11_helped_68 : decode cX11_helped 68 = .ok (.iaload, 1) := by decide +kernel
theorem dX11_helped_69 : decode cX11_helped 69 = .ok (.istore 6, 2) := by decide +kernel
theorem dX11_helped_71 : decode cX11_helped 71 = .ok (.iload 4, 2) := by decide +kernel
theorem dX11_helped_73 : decode cX11_helped 73 = .ok (.iconst 1, 1) := by decide +kernel
theorem dX11_helped_74 : decode cX11_helped 74 = .ok (.iadd, 1) := by decide +kernel
theorem dX11_helped_75 : decode cX11_helped 75 = .ok (.istore 7, 2) := by decide +kernel
theorem dX11_helped_77 : decode cX11_helped 77 = .ok (.iload 7, 2) := by decide +kernel
theorem dX11_helped_79 : decode cX11_helped 79 = .ok (.bipush 9, 2) := by decide +kernel
theorem dX11_helped_81 : decode cX11_helped 81 = .ok (.if_icmp .ge 207, 3) := by decide +kernel
theorem dX11_helped_84 : decode cX11_helped 84 = .ok (.iload 5, 2) := by decide +kernel
theorem dX11_helped_86 : decode cX11_helped 86 = .ok (.iload 7, 2) := by decide +kernel
theorem dX11_helped_88 : decode cX11_helped 88 = .ok (.ishr, 1) := by decide +kernel
theorem dX11_helped_89 : decode cX11_helped 89 = .ok (.iconst 1, 1) := by decide +kernel
theorem dX11_helped_90 : decode cX11_helped 90 = .ok (.iand, 1) := by decide +kernel
theorem dX11_helped_91 : decode cX11_helped 91 = .ok (.iconst 1, 1) := by decide +kernel
theorem dX11_helped_92 : decode cX11_helped 92 = .ok (.if_icmp .ne 7, 3) := by decide +kernel
theorem dX11_helped_95 : decode cX11_helped 95 = .ok (.iconst 1, 1) := by decide +kernel
theorem dX11_helped_96 : decode cX11_helped 96 = .ok (.goto 4, 3) := by decide +kernel
theorem dX11_helped_99 : decode cX11_helped 99 = .ok (.iconst 0, 1) := by decide +kernel
theorem dX11_helped_100 : decode cX11_helped 100 = .ok (.istore 8, 2) := by decide +kernel
theorem dX11_helped_102 : decode cX11_helped 102 = .ok (.iload 8, 2) := by decide +kernel
theorem dX11_helped_104 : decode cX11_helped 104 = .ok (.ifCond .eq 48, 3) := by decide +kernel
theorem dX11_helped_107 : decode cX11_helped 107 = .ok (.aload_n 0, 1) := by decide +kernel
theorem dX11_helped_108 : decode cX11_helped 108 = .ok (.getfield 50, 3) := by decide +kernel
theorem dX11_helped_111 : decode cX11_helped 111 = .ok (.iload 4, 2) := by decide +kernel
theorem dX11_helped_113 : decode cX11_helped 113 = .ok (.aaload, 1) := by decide +kernel
theorem dX11_helped_114 : decode cX11_helped 114 = .ok (.iload 7, 2) := by decide +kernel
theorem dX11_helped_116 : decode cX11_helped 116 = .ok (.baload, 1) := by decide +kernel
theorem dX11_helped_117 : decode cX11_helped 117 = .ok (.ifCond .eq 35, 3) := by decide +kernel
theorem dX11_helped_152 : decode cX11_helped 152 = .ok (.iload 6, 2) := by decide +kernel
theorem dX11_helped_154 : decode cX11_helped 154 = .ok (.istore 6, 2) := by decide +kernel
theorem dX11_helped_156 : decode cX11_helped 156 = .ok (.iload 4, 2) := by decide +kernel
theorem dX11_helped_158 : decode cX11_helped 158 = .ok (.iconst 1, 1) := by decide +kernel
theorem dX11_helped_159 : decode cX11_helped 159 = .ok (.iadd, 1) := by decide +kernel
theorem dX11_helped_160 : decode cX11_helped 160 = .ok (.istore 9, 2) := by decide +kernel
theorem dX11_helped_162 : decode cX11_helped 162 = .ok (.iload 9, 2) := by decide +kernel
theorem dX11_helped_164 : decode cX11_helped 164 = .ok (.bipush 9, 2) := by decide +kernel
theorem dX11_helped_166 : decode cX11_helped 166 = .ok (.if_icmp .ge 116, 3) := by decide +kernel
theorem dX11_helped_169 : decode cX11_helped 169 = .ok (.iload 8, 2) := by decide +kernel
theorem dX11_helped_171 : decode cX11_helped 171 = .ok (.ifCond .eq 111, 3) := by decide +kernel
theorem dX11_helped_174 : decode cX11_helped 174 = .ok (.iload_n 1, 1) := by decide +kernel
theorem dX11_helped_175 : decode cX11_helped 175 = .ok (.iconst 3, 1) := by decide +kernel
theorem dX11_helped_176 : decode cX11_helped 176 = .ok (.if_icmp .ne 106, 3) := by decide +kernel
theorem dX11_helped_179 : decode cX11_helped 179 = .ok (.iload 9, 2) := by decide +kernel
theorem dX11_helped_181 : decode cX11_helped 181 = .ok (.iload 7, 2) := by decide +kernel
theorem dX11_helped_183 : decode cX11_helped 183 = .ok (.if_icmp .eq 57, 3) := by decide +kernel
theorem dX11_helped_186 : decode cX11_helped 186 = .ok (.iload 5, 2) := by decide +kernel
theorem dX11_helped_188 : decode cX11_helped 188 = .ok (.iload 9, 2) := by decide +kernel
theorem dX11_helped_190 : decode cX11_helped 190 = .ok (.ishr, 1) := by decide +kernel
theorem dX11_helped_191 : decode cX11_helped 191 = .ok (.iconst 1, 1) := by decide +kernel
theorem dX11_helped_192 : decode cX11_helped 192 = .ok (.iand, 1) := by decide +kernel
theorem dX11_helped_193 : decode cX11_helped 193 = .ok (.iconst 1, 1) := by decide +kernel
theorem dX11_helped_194 : decode cX11_helped 194 = .ok (.if_icmp .ne 46, 3) := by decide +kernel
theorem dX11_helped_197 : decode cX11_helped 197 = .ok (.aload_n 0, 1) := by decide +kernel
theorem dX11_helped_198 : decode cX11_helped 198 = .ok (.getfield 50, 3) := by decide +kernel
theorem dX11_helped_201 : decode cX11_helped 201 = .ok (.iload 4, 2) := by decide +kernel
theorem dX11_helped_203 : decode cX11_helped 203 = .ok (.aaload, 1) := by decide +kernel
theorem dX11_helped_204 : decode cX11_helped 204 = .ok (.iload 7, 2) := by decide +kernel
theorem dX11_helped_206 : decode cX11_helped 206 = .ok (.baload, 1) := by decide +kernel
theorem dX11_helped_207 : decode cX11_helped 207 = .ok (.ifCond .eq 33, 3) := by decide +kernel
theorem dX11_helped_240 : decode cX11_helped 240 = .ok (.iconst 0, 1) := by decide +kernel
theorem dX11_helped_241 : decode cX11_helped 241 = .ok (.istore 10, 2) := by decide +kernel
theorem dX11_helped_243 : decode cX11_helped 243 = .ok (.iload 10, 2) := by decide +kernel
theorem dX11_helped_245 : decode cX11_helped 245 = .ok (.ifCond .eq 27, 3) := by decide +kernel
theorem dX11_helped_272 : decode cX11_helped 272 = .ok (.iload 6, 2) := by decide +kernel
theorem dX11_helped_274 : decode cX11_helped 274 = .ok (.istore 6, 2) := by decide +kernel
theorem dX11_helped_276 : decode cX11_helped 276 = .ok (.iinc 9 1, 3) := by decide +kernel
theorem dX11_helped_279 : decode cX11_helped 279 = .ok (.goto (-117), 3) := by decide +kernel
theorem dX11_helped_282 : decode cX11_helped 282 = .ok (.iinc 7 1, 3) := by decide +kernel
theorem dX11_helped_285 : decode cX11_helped 285 = .ok (.goto (-208), 3) := by decide +kernel
theorem dX11_helped_288 : decode cX11_helped 288 = .ok (.aload_n 2, 1) := by decide +kernel
theorem dX11_helped_289 : decode cX11_helped 289 = .ok (.iload_n 3, 1) := by decide +kernel
theorem dX11_helped_290 : decode cX11_helped 290 = .ok (.iload 6, 2) := by decide +kernel
theorem dX11_helped_292 : decode cX11_helped 292 = .ok (.iastore, 1) := by decide +kernel
theorem dX11_helped_293 : decode cX11_helped 293 = .ok (.iinc 3 1, 3) := by decide +kernel
theorem dX11_helped_296 : decode cX11_helped 296 = .ok (.goto (-263), 3) := by decide +kernel
theorem dX11_helped_299 : decode cX11_helped 299 = .ok (.aload_n 2, 1) := by decide +kernel
theorem dX11_helped_300 : decode cX11_helped 300 = .ok (.aload_n 2, 1) := by decide +kernel
theorem dX11_helped_301 : decode cX11_helped 301 = .ok (.arraylength, 1) := by decide +kernel
theorem dX11_helped_302 : decode cX11_helped 302 = .ok (.iconst 1, 1) := by decide +kernel
theorem dX11_helped_303 : decode cX11_helped 303 = .ok (.isub, 1) := by decide +kernel
theorem dX11_helped_304 : decode cX11_helped 304 = .ok (.iaload, 1) := by decide +kernel
theorem dX11_helped_305 : decode cX11_helped 305 = .ok (.ireturn, 1) := by decide +kernel
theorem dX11_houseOf_0 : decode cX11_houseOf 0 = .ok (.aload_n 0, 1) := by decide +kernel
theorem dX11_houseOf_1 : decode cX11_houseOf 1 = .ok (.aload_n 0, 1) := by decide +kernel
theorem dX11_houseOf_2 : decode cX11_houseOf 2 = .ok (.iload_n 1, 1) := by decide +kernel
theorem dX11_houseOf_3 : decode cX11_houseOf 3 = .ok (.invokevirtual 176, 3) := by decide +kernel
theorem dX11_houseOf_6 : decode cX11_houseOf 6 = .ok (.ifCond .ne 7, 3) := by decide +kernel
theorem dX11_houseOf_9 : decode cX11_houseOf 9 = .ok (.iconst 1, 1) := by decide +kernel
theorem dX11_houseOf_10 : decode cX11_houseOf 10 = .ok (.goto 4, 3) := by decide +kernel
theorem dX11_houseOf_14 : decode cX11_houseOf 14 = .ok (.iconst 0, 1) := by decide +kernel
theorem dX11_houseOf_15 : decode cX11_houseOf 15 = .ok (.iconst 0, 1) := by decide +kernel
theorem dX11_houseOf_16 : decode cX11_houseOf 16 = .ok (.invokevirtual 128, 3) := by decide +kernel
theorem dX11_houseOf_19 : decode cX11_houseOf 19 = .ok (.ifCond .eq 7, 3) := by decide +kernel
theorem dX11_houseOf_22 : decode cX11_houseOf 22 = .ok (.iconst 0, 1) := by decide +kernel
theorem dX11_houseOf_23 : decode cX11_houseOf 23 = .ok (.goto 9, 3) := by decide +kernel
theorem dX11_houseOf_32 : decode cX11_houseOf 32 = .ok (.ireturn, 1) := by decide +kernel
theorem dX11_in_0 : decode cX11_in 0 = .ok (.iload_n 0, 1) := by decide +kernel
theorem dX11_in_1 : decode cX11_in 1 = .ok (.iload_n 1, 1) := by decide +kernel
theorem dX11_in_2 : decode cX11_in 2 = .ok (.if_icmp .lt 12, 3) := by decide +kernel
theorem dX11_in_5 : decode cX11_in 5 = .ok (.iload_n 0, 1) := by decide +kernel
theorem dX11_in_6 : decode cX11_in 6 = .ok (.iload_n 2, 1) := by decide +kernel
theorem dX11_in_7 : decode cX11_in 7 = .ok (.if_icmp .gt 7, 3) := by decide +kernel
theorem dX11_in_10 : decode cX11_in 10 = .ok (.iconst 1, 1) := by decide +kernel
theorem dX11_in_11 : decode cX11_in 11 = .ok (.goto 4, 3) := by decide +kernel
theorem dX11_in_14 : decode cX11_in 14 = .ok (.iconst 0, 1) := by decide +kernel
theorem dX11_in_15 : decode cX11_in 15 = .ok (.ireturn, 1) := by decide +kernel
theorem dX11_init_0 : decode cX11_init 0 = .ok (.aload_n 0, 1) := by decide +kernel
theorem dX11_init_1 : decode cX11_init 1 = .ok (.invokespecial 1, 3) := by decide +kernel
theorem dX11_init_4 : decode cX11_init 4 = .ok (.aload_n 0, 1) := by decide +kernel
theorem dX11_init_5 : decode cX11_init 5 = .ok (.iconst 3, 1) := by decide +kernel
theorem dX11_init_6 : decode cX11_init 6 = .ok (.newarray .int, 2) := by decide +kernel
theorem dX11_init_8 : decode cX11_init 8 = .ok (.putfield 7, 3) := by decide +kernel
theorem dX11_init_11 : decode cX11_init 11 = .ok (.aload_n 0, 1) := by decide +kernel
theorem dX11_init_12 : decode cX11_init 12 = .ok (.bipush 30, 2) := by decide +kernel
theorem dX11_init_14 : decode cX11_init 14 = .ok (.bipush 10, 2) := by decide +kernel
theorem dX11_init_16 : decode cX11_init 16 = .ok (.multianewarray 13 2, 4) := by decide +kernel
theorem dX11_init_20 : decode cX11_init 20 = .ok (.putfield 15, 3) := by decide +kernel
theorem dX11_init_23 : decode cX11_init 23 = .ok (.aload_n 0, 1) := by decide +kernel
theorem dX11_init_24 : decode cX11_init 24 = .ok (.bipush 30, 2) := by decide +kernel
theorem dX11_init_26 : decode cX11_init 26 = .ok (.newarray .int, 2) := by decide +kernel
theorem dX11_init_28 : decode cX11_init 28 = .ok (.putfield 18, 3) := by decide +kernel
theorem dX11_init_31 : decode cX11_init 31 = .ok (.aload_n 0, 1) := by decide +kernel
theorem dX11_init_32 : decode cX11_init 32 = .ok (.bipush 10, 2) := by decide +kernel
theorem dX11_init_34 : decode cX11_init 34 = .ok (.newarray .int, 2) := by decide +kernel
theorem dX11_init_36 : decode cX11_init 36 = .ok (.putfield 21, 3) := by decide +kernel
theorem dX11_init_39 : decode cX11_init 39 = .ok (.aload_n 0, 1) := by decide +kernel
theorem dX11_init_40 : decode cX11_init 40 = .ok (.bipush 10, 2) := by decide +kernel
theorem dX11_init_42 : decode cX11_init 42 = .ok (.newarray .int, 2) := by decide +kernel
theorem dX11_init_44 : decode cX11_init 44 = .ok (.putfield 24, 3) := by decide +kernel
theorem dX11_init_47 : decode cX11_init 47 = .ok (.aload_n 0, 1) := by decide +kernel
theorem dX11_init_48 : decode cX11_init 48 = .ok (.invokestatic 27, 3) := by decide +kernel
theorem dX11_init_51 : decode cX11_init 51 = .ok (.putfield 31, 3) := by decide +kernel
theorem dX11_init_54 : decode cX11_init 54 = .ok (.aload_n 0, 1) := by decide +kernel
theorem dX11_init_55 : decode cX11_init 55 = .ok (.bipush 45, 2) := by decide +kernel
theorem dX11_init_57 : decode cX11_init 57 = .ok (.putfield 34, 3) := by decide +kernel
theorem dX11_init_60 : decode cX11_init 60 = .ok (.aload_n 0, 1) := by decide +kernel
theorem dX11_init_61 : decode cX11_init 61 = .ok (.bipush 10, 2) := by decide +kernel
theorem dX11_init_63 : decode cX11_init 63 = .ok (.newarray .int, 2) := by decide +kernel
theorem dX11_init_65 : decode cX11_init 65 = .ok (.putfield 38, 3) := by decide +kernel
theorem dX11_init_68 : decode cX11_init 68 = .ok (.aload_n 0, 1) := by decide +kernel
theorem dX11_init_69 : decode cX11_init 69 = .ok (.sipush 200, 3) := by decide +kernel
theorem dX11_init_72 : decode cX11_init 72 = .ok (.newarray .int, 2) := by decide +kernel
theorem dX11_init_74 : decode cX11_init 74 = .ok (.putfield 41, 3) := by decide +kernel
theorem dX11_init_77 : decode cX11_init 77 = .ok (.aload_n 0, 1) := by decide +kernel
theorem dX11_init_78 : decode cX11_init 78 = .ok (.sipush 200, 3) := by decide +kernel
theorem dX11_init_81 : decode cX11_init 81 = .ok (.newarray .char, 2) := by decide +kernel
theorem dX11_init_83 : decode cX11_init 83 = .ok (.putfield 44, 3) := by decide +kernel
theorem dX11_init_86 : decode cX11_init 86 = .ok (.aload_n 0, 1) := by decide +kernel
theorem dX11_init_87 : decode cX11_init 87 = .ok (.bipush 9, 2) := by decide +kernel
theorem dX11_init_89 : decode cX11_init 89 = .ok (.bipush 9, 2) := by decide +kernel
theorem dX11_init_91 : decode cX11_init 91 = .ok (.multianewarray 48 2, 4) := by decide +kernel
theorem dX11_init_95 : decode cX11_init 95 = .ok (.putfield 50, 3) := by decide +kernel
theorem dX11_init_98 : decode cX11_init 98 = .ok (.aload_n 0, 1) := by decide +kernel
theorem dX11_init_99 : decode cX11_init 99 = .ok (.bipush 60, 2) := by decide +kernel
theorem dX11_init_101 : decode cX11_init 101 = .ok (.newarray .char, 2) := by decide +kernel
theorem dX11_init_103 : decode cX11_init 103 = .ok (.putfield 53, 3) := by decide +kernel
theorem dX11_init_106 : decode cX11_init 106 = .ok (.aload_n 0, 1) := by decide +kernel
theorem dX11_init_107 : decode cX11_init 107 = .ok (.bipush 61, 2) := by decide +kernel
theorem dX11_init_109 : decode cX11_init 109 = .ok (.anewarray 56, 3) := by decide +kernel
theorem dX11_init_112 : decode cX11_init 112 = .ok (.putfield 57, 3) := by decide +kernel
theorem dX11_init_115 : decode cX11_init 115 = .ok (.aload_n 0, 1) := by decide +kernel
theorem dX11_init_116 : decode cX11_init 116 = .ok (.bipush 10, 2) := by decide +kernel
theorem dX11_init_118 : decode cX11_init 118 = .ok (.newarray .int, 2) := by decide +kernel
theorem dX11_init_120 : decode cX11_init 120 = .ok (.putfield 60, 3) := by decide +kernel
theorem dX11_init_123 : decode cX11_init 123 = .ok (.aload_n 0, 1) := by decide +kernel
theorem dX11_init_124 : decode cX11_init 124 = .ok (.bipush 10, 2) := by decide +kernel
theorem dX11_init_126 : decode cX11_init 126 = .ok (.newarray .int, 2) := by decide +kernel
theorem dX11_init_128 : decode cX11_init 128 = .ok (.putfield 63, 3) := by decide +kernel
theorem dX11_init_131 : decode cX11_init 131 = .ok (.return_, 1) := by decide +kernel
theorem dX11_isHouse_0 : decode cX11_isHouse 0 = .ok (.iload_n 1, 1) := by decide +kernel
theorem dX11_isHouse_1 : decode cX11_isHouse 1 = .ok (.iconst 0, 1) := by decide +kernel
theorem dX11_isHouse_2 : decode cX11_isHouse 2 = .ok (.aload_n 0, 1) := by decide +kernel
theorem dX11_isHouse_3 : decode cX11_isHouse 3 = .ok (.getfield 7, 3) := by decide +kernel
theorem dX11_isHouse_6 : decode cX11_isHouse 6 = .ok (.iconst 1, 1) := by decide +kernel
theorem dX11_isHouse_7 : decode cX11_isHouse 7 = .ok (.iaload, 1) := by decide +kernel
theorem dX11_isHouse_8 : decode cX11_isHouse 8 = .ok (.iconst 1, 1) := by decide +kernel
theorem dX11_isHouse_9 : decode cX11_isHouse 9 = .ok (.isub, 1) := by decide +kernel
theorem dX11_isHouse_10 : decode cX11_isHouse 10 = .ok (.invokestatic 78, 3) := by decide +kernel
theorem dX11_isHouse_13 : decode cX11_isHouse 13 = .ok (.ireturn, 1) := by decide +kernel
theorem dX11_isOne_0 : decode cX11_isOne 0 = .ok (.iload_n 1, 1) := by decide +kernel
theorem dX11_isOne_1 : decode cX11_isOne 1 = .ok (.ifCond .lt 23, 3) := by decide +kernel
theorem dX11_isOne_4 : decode cX11_isOne 4 = .ok (.iload_n 2, 1) := by decide +kernel
theorem dX11_isOne_5 : decode cX11_isOne 5 = .ok (.iconst 0, 1) := by decide +kernel
theorem dX11_isOne_6 : decode cX11_isOne 6 = .ok (.aload_n 0, 1) := by decide +kernel
theorem dX11_isOne_7 : decode cX11_isOne 7 = .ok (.getfield 7, 3) := by decide +kernel
theorem dX11_isOne_10 : decode cX11_isOne 10 = .ok (.iload_n 1, 1) := by decide +kernel
theorem dX11_isOne_11 : decode cX11_isOne 11 = .ok (.iaload, 1) := by decide +kernel
theorem dX11_isOne_12 : decode cX11_isOne 12 = .ok (.iconst 1, 1) := by decide +kernel
theorem dX11_isOne_13 : decode cX11_isOne 13 = .ok (.isub, 1) := by decide +kernel
theorem dX11_isOne_14 : decode cX11_isOne 14 = .ok (.invokestatic 78, 3) := by decide +kernel
theorem dX11_isOne_17 : decode cX11_isOne 17 = .ok (.ifCond .eq 7, 3) := by decide +kernel
theorem dX11_isOne_24 : decode cX11_isOne 24 = .ok (.iconst 0, 1) := by decide +kernel
theorem dX11_isOne_25 : decode cX11_isOne 25 = .ok (.ireturn, 1) := by decide +kernel
theorem dX11_isPerson_0 : decode cX11_isPerson 0 = .ok (.iload_n 1, 1) := by decide +kernel
theorem dX11_isPerson_1 : decode cX11_isPerson 1 = .ok (.iconst 0, 1) := by decide +kernel
theorem dX11_isPerson_2 : decode cX11_isPerson 2 = .ok (.aload_n 0, 1) := by decide +kernel
theorem dX11_isPerson_3 : decode cX11_isPerson 3 = .ok (.getfield 7, 3) := by decide +kernel
theorem dX11_isPerson_6 : decode cX11_isPerson 6 = .ok (.iconst 0, 1) := by decide +kernel
theorem dX11_isPerson_7 : decode cX11_isPerson 7 = .ok (.iaload, 1) := by decide +kernel
theorem dX11_isPerson_8 : decode cX11_isPerson 8 = .ok (.iconst 1, 1) := by decide +kernel
theorem dX11_isPerson_9 : decode cX11_isPerson 9 = .ok (.isub, 1) := by decide +kernel
theorem dX11_isPerson_10 : decode cX11_isPerson 10 = .ok (.invokestatic 78, 3) := by decide +kernel
theorem dX11_isPerson_13 : decode cX11_isPerson 13 = .ok (.ireturn, 1) := by decide +kernel
theorem dX11_isQuiet_0 : decode cX11_isQuiet 0 = .ok (.iconst 1, 1) := by decide +kernel
theorem dX11_isQuiet_1 : decode cX11_isQuiet 1 = .ok (.istore_n 2, 1) := by decide +kernel
theorem dX11_isQuiet_2 : decode cX11_isQuiet 2 = .ok (.iconst 0, 1) := by decide +kernel
theorem dX11_isQuiet_3 : decode cX11_isQuiet 3 = .ok (.istore_n 3, 1) := by decide +kernel
theorem dX11_isQuiet_4 : decode cX11_isQuiet 4 = .ok (.iload_n 3, 1) := by decide +kernel
theorem dX11_isQuiet_5 : decode cX11_isQuiet 5 = .ok (.aload_n 0, 1) := by decide +kernel
theorem dX11_isQuiet_6 : decode cX11_isQuiet 6 = .ok (.getfield 7, 3) := by decide +kernel
theorem dX11_isQuiet_9 : decode cX11_isQuiet 9 = .ok (.iconst 2, 1) := by decide +kernel
theorem dX11_isQuiet_10 : decode cX11_isQuiet 10 = .ok (.iaload, 1) := by decide +kernel
theorem dX11_isQuiet_11 : decode cX11_isQuiet 11 = .ok (.if_icmp .ge 81, 3) := by decide +kernel
theorem dX11_isQuiet_92 : decode cX11_isQuiet 92 = .ok (.iload_n 2, 1) := by decide +kernel
theorem dX11_isQuiet_93 : decode cX11_isQuiet 93 = .ok (.ireturn, 1) := by decide +kernel
theorem dX11_isRotation_0 : decode cX11_isRotation 0 = .ok (.iload_n 1, 1) := by decide +kernel
theorem dX11_isRotation_1 : decode cX11_isRotation 1 = .ok (.iconst 0, 1) := by decide +kernel
theorem dX11_isRotation_2 : decode cX11_isRotation 2 = .ok (.aload_n 0, 1) := by decide +kernel
theorem dX11_isRotation_3 : decode cX11_isRotation 3 = .ok (.aload_n 0, 1) := by decide +kernel
theorem dX11_isRotation_4 : decode cX11_isRotation 4 = .ok (.getfield 31, 3) := by decide +kernel
theorem dX11_isRotation_7 : decode cX11_isRotation 7 = .ok (.invokevirtual 205, 3) := by decide +kernel
theorem dX11_isRotation_10 : decode cX11_isRotation 10 = .ok (.iconst 1, 1) := by decide +kernel
theorem dX11_isRotation_11 : decode cX11_isRotation 11 = .ok (.isub, 1) := by decide +kernel
theorem dX11_isRotation_12 : decode cX11_isRotation 12 = .ok (.invokestatic 78, 3) := by decide +kernel
theorem dX11_isRotation_15 : decode cX11_isRotation 15 = .ok (.ireturn, 1) := by decide +kernel
theorem dX11_isStable_0 : decode cX11_isStable 0 = .ok (.aload_n 0, 1) := by decide +kernel
theorem dX11_isStable_1 : decode cX11_isStable 1 = .ok (.iconst 0, 1) := by decide +kernel
theorem dX11_isStable_2 : decode cX11_isStable 2 = .ok (.putfield 66, 3) := by decide +kernel
theorem dX11_isStable_5 : decode cX11_isStable 5 = .ok (.aload_n 0, 1) := by decide +kernel
theorem dX11_isStable_6 : decode cX11_isStable 6 = .ok (.aload_n 0, 1) := by decide +kernel
theorem dX11_isStable_7 : decode cX11_isStable 7 = .ok (.getfield 31, 3) := by decide +kernel
theorem dX11_isStable_10 : decode cX11_isStable 10 = .ok (.invokevirtual 179, 3) := by decide +kernel
theorem dX11_isStable_13 : decode cX11_isStable 13 = .ok (.ifCond .ne 7, 3) := by decide +kernel
theorem dX11_isStable_16 : decode cX11_isStable 16 = .ok (.iconst 1, 1) := by decide +kernel
theorem dX11_isStable_17 : decode cX11_isStable 17 = .ok (.goto 4, 3) := by decide +kernel
theorem dX11_isStable_21 : decode cX11_isStable 21 = .ok (.ireturn, 1) := by decide +kernel
theorem dX11_isTrue_0 : decode cX11_isTrue 0 = .ok (.aload_n 0, 1) := by decide +kernel
theorem dX11_isTrue_1 : decode cX11_isTrue 1 = .ok (.iconst 0, 1) := by decide +kernel
theorem dX11_isTrue_2 : decode cX11_isTrue 2 = .ok (.putfield 66, 3) := by decide +kernel
theorem dX11_isTrue_5 : decode cX11_isTrue 5 = .ok (.iconst 1, 1) := by decide +kernel
theorem dX11_isTrue_6 : decode cX11_isTrue 6 = .ok (.ireturn, 1) := by decide +kernel
theorem dX11_lacks_0 : decode cX11_lacks 0 = .ok (.aload_n 0, 1) := by decide +kernel
theorem dX11_lacks_1 : decode cX11_lacks 1 = .ok (.aload_n 0, 1) := by decide +kernel
theorem dX11_lacks_2 : decode cX11_lacks 2 = .ok (.iload_n 1, 1) := by decide +kernel
theorem dX11_lacks_3 : decode cX11_lacks 3 = .ok (.invokevirtual 135, 3) := by decide +kernel
theorem dX11_lacks_6 : decode cX11_lacks 6 = .ok (.ifCond .ne 7, 3) := by decide +kernel
theorem dX11_lacks_9 : decode cX11_lacks 9 = .ok (.iconst 1, 1) := by decide +kernel
theorem dX11_lacks_10 : decode cX11_lacks 10 = .ok (.goto 4, 3) := by decide +kernel
theorem dX11_lacks_14 : decode cX11_lacks 14 = .ok (.iconst 0, 1) := by decide +kernel
theorem dX11_lacks_15 : decode cX11_lacks 15 = .ok (.iconst 0, 1) := by decide +kernel
theorem dX11_lacks_16 : decode cX11_lacks 16 = .ok (.invokevirtual 128, 3) := by decide +kernel
theorem dX11_lacks_19 : decode cX11_lacks 19 = .ok (.ifCond .eq 7, 3) := by decide +kernel
theorem dX11_lacks_22 : decode cX11_lacks 22 = .ok (.iconst 0, 1) := by decide +kernel
theorem dX11_lacks_23 : decode cX11_lacks 23 = .ok (.goto 23, 3) := by decide +kernel
theorem dX11_lacks_46 : decode cX11_lacks 46 = .ok (.ireturn, 1) := by decide +kernel
theorem dX11_least_0 : decode cX11_least 0 = .ok (.aload_n 0, 1) := by decide +kernel
theorem dX11_least_1 : decode cX11_least 1 = .ok (.aload_n 0, 1) := by decide +kernel
theorem dX11_least_2 : decode cX11_least 2 = .ok (.iload_n 1, 1) := by decide +kernel
theorem dX11_least_3 : decode cX11_least 3 = .ok (.invokevirtual 135, 3) := by decide +kernel
theorem dX11_least_6 : decode cX11_least 6 = .ok (.ifCond .ne 7, 3) := by decide +kernel
theorem dX11_least_9 : decode cX11_least 9 = .ok (.iconst 1, 1) := by decide +kernel
theorem dX11_least_10 : decode cX11_least 10 = .ok (.goto 4, 3) := by decide +kernel
theorem dX11_least_14 : decode cX11_least 14 = .ok (.iload_n 2, 1) := by decide +kernel
theorem dX11_least_15 : decode cX11_least 15 = .ok (.iconst 0, 1) := by decide +kernel
theorem dX11_least_16 : decode cX11_least 16 = .ok (.iconst 4, 1) := by decide +kernel
theorem dX11_least_17 : decode cX11_least 17 = .ok (.invokestatic 78, 3) := by decide +kernel
theorem dX11_least_20 : decode cX11_least 20 = .ok (.ifCond .ne 7, 3) := by decide +kernel
theorem dX11_least_23 : decode cX11_least 23 = .ok (.iconst 1, 1) := by decide +kernel
theorem dX11_least_24 : decode cX11_least 24 = .ok (.goto 4, 3) := by decide +kernel
theorem dX11_least_27 : decode cX11_least 27 = .ok (.iconst 0, 1) := by decide +kernel
theorem dX11_least_28 : decode cX11_least 28 = .ok (.iconst 0, 1) := by decide +kernel
theorem dX11_least_29 : decode cX11_least 29 = .ok (.invokevirtual 128, 3) := by decide +kernel
theorem dX11_least_32 : decode cX11_least 32 = .ok (.ifCond .eq 5, 3) := by decide +kernel
theorem dX11_least_35 : decode cX11_least 35 = .ok (.iconst 0, 1) := by decide +kernel
theorem dX11_least_36 : decode cX11_least 36 = .ok (.ireturn, 1) := by decide +kernel
theorem dX11_length_0 : decode cX11_length 0 = .ok (.iload_n 1, 1) := by decide +kernel
theorem dX11_length_1 : decode cX11_length 1 = .ok (.invokestatic 124, 3) := by decide +kernel
theorem dX11_length_4 : decode cX11_length 4 = .ok (.istore_n 3, 1) := by decide +kernel
theorem dX11_length_5 : decode cX11_length 5 = .ok (.aload_n 0, 1) := by decide +kernel
theorem dX11_length_6 : decode cX11_length 6 = .ok (.iload_n 3, 1) := by decide +kernel
theorem dX11_length_7 : decode cX11_length 7 = .ok (.ifCond .ge 7, 3) := by decide +kernel
theorem dX11_length_10 : decode cX11_length 10 = .ok (.iconst 1, 1) := by decide +kernel
theorem dX11_length_11 : decode cX11_length 11 = .ok (.goto 4, 3) := by decide +kernel
theorem dX11_length_14 : decode cX11_length 14 = .ok (.iconst 0, 1) := by decide +kernel
theorem dX11_length_15 : decode cX11_length 15 = .ok (.aload_n 0, 1) := by decide +kernel
theorem dX11_length_16 : decode cX11_length 16 = .ok (.iload_n 3, 1) := by decide +kernel
theorem dX11_length_17 : decode cX11_length 17 = .ok (.iload_n 2, 1) := by decide +kernel
theorem dX11_length_18 : decode cX11_length 18 = .ok (.invokevirtual 155, 3) := by decide +kernel
theorem dX11_length_21 : decode cX11_length 21 = .ok (.ifCond .ne 7, 3) := by decide +kernel
theorem dX11_length_24 : decode cX11_length 24 = .ok (.iconst 1, 1) := by decide +kernel
theorem dX11_length_25 : decode cX11_length 25 = .ok (.goto 4, 3) := by decide +kernel
theorem dX11_length_29 : decode cX11_length 29 = .ok (.iconst 0, 1) := by decide +kernel
theorem dX11_length_30 : decode cX11_length 30 = .ok (.invokevirtual 128, 3) := by decide +kernel
theorem dX11_length_33 : decode cX11_length 33 = .ok (.ifCond .eq 7, 3) := by decide +kernel
theorem dX11_length_36 : decode cX11_length 36 = .ok (.iconst 0, 1) := by decide +kernel
theorem dX11_length_37 : decode cX11_length 37 = .ok (.goto 14, 3) := by decide +kernel
theorem dX11_length_51 : decode cX11_length 51 = .ok (.ireturn, 1) := by decide +kernel
theorem dX11_letsGo_0 : decode cX11_letsGo 0 = .ok (.aload_n 0, 1) := by decide +kernel
theorem dX11_letsGo_1 : decode cX11_letsGo 1 = .ok (.invokestatic 27, 3) := by decide +kernel
theorem dX11_letsGo_4 : decode cX11_letsGo 4 = .ok (.putfield 31, 3) := by decide +kernel
theorem dX11_letsGo_7 : decode cX11_letsGo 7 = .ok (.aload_n 0, 1) := by decide +kernel
theorem dX11_letsGo_8 : decode cX11_letsGo 8 = .ok (.bipush 45, 2) := by decide +kernel
theorem dX11_letsGo_10 : decode cX11_letsGo 10 = .ok (.putfield 34, 3) := by decide +kernel
theorem dX11_letsGo_13 : decode cX11_letsGo 13 = .ok (.return_, 1) := by decide +kernel
theorem dX11_lie_0 : decode cX11_lie 0 = .ok (.aload_n 0, 1) := by decide +kernel
theorem dX11_lie_1 : decode cX11_lie 1 = .ok (.aload_n 0, 1) := by decide +kernel
theorem dX11_lie_2 : decode cX11_lie 2 = .ok (.iload_n 1, 1) := by decide +kernel
theorem dX11_lie_3 : decode cX11_lie 3 = .ok (.invokevirtual 176, 3) := by decide +kernel
theorem dX11_lie_6 : decode cX11_lie 6 = .ok (.ifCond .ne 7, 3) := by decide +kernel
theorem dX11_lie_9 : decode cX11_lie 9 = .ok (.iconst 1, 1) := by decide +kernel
theorem dX11_lie_10 : decode cX11_lie 10 = .ok (.goto 4, 3) := by decide +kernel
theorem dX11_lie_14 : decode cX11_lie 14 = .ok (.iconst 0, 1) := by decide +kernel
theorem dX11_lie_15 : decode cX11_lie 15 = .ok (.iconst 0, 1) := by decide +kernel
theorem dX11_lie_16 : decode cX11_lie 16 = .ok (.invokevirtual 128, 3) := by decide +kernel
theorem dX11_lie_19 : decode cX11_lie 19 = .ok (.ifCond .eq 5, 3) := by decide +kernel
theorem dX11_lie_22 : decode cX11_lie 22 = .ok (.iconst 0, 1) := by decide +kernel
theorem dX11_lie_23 : decode cX11_lie 23 = .ok (.ireturn, 1) := by decide +kernel
theorem dX11_many_0 : decode cX11_many 0 = .ok (.aload_n 0, 1) := by decide +kernel
theorem dX11_many_1 : decode cX11_many 1 = .ok (.iload_n 1, 1) := by decide +kernel
theorem dX11_many_2 : decode cX11_many 2 = .ok (.invokestatic 124, 3) := by decide +kernel
theorem dX11_many_5 : decode cX11_many 5 = .ok (.ifCond .ge 7, 3) := by decide +kernel
theorem dX11_many_8 : decode cX11_many 8 = .ok (.iconst 1, 1) := by decide +kernel
theorem dX11_many_9 : decode cX11_many 9 = .ok (.goto 4, 3) := by decide +kernel
theorem dX11_many_12 : decode cX11_many 12 = .ok (.iconst 0, 1) := by decide +kernel
theorem dX11_many_13 : decode cX11_many 13 = .ok (.iconst 0, 1) := by decide +kernel
theorem dX11_many_14 : decode cX11_many 14 = .ok (.iconst 0, 1) := by decide +kernel
theorem dX11_many_15 : decode cX11_many 15 = .ok (.invokevirtual 128, 3) := by decide +kernel
theorem dX11_many_18 : decode cX11_many 18 = .ok (.ifCond .eq 7, 3) := by decide +kernel
theorem dX11_many_21 : decode cX11_many 21 = .ok (.iconst 0, 1) := by decide +kernel
theorem dX11_many_22 : decode cX11_many 22 = .ok (.goto 12, 3) := by decide +kernel
theorem dX11_many_25 : decode cX11_many 25 = .ok (.aload_n 0, 1) := by decide +kernel
theorem dX11_many_26 : decode cX11_many 26 = .ok (.getfield 7, 3) := by decide +kernel
theorem dX11_many_29 : decode cX11_many 29 = .ok (.iload_n 1, 1) := by decide +kernel
theorem dX11_many_30 : decode cX11_many 30 = .ok (.invokestatic 124, 3) := by decide +kernel
theorem dX11_many_33 : decode cX11_many 33 = .ok (.iaload, 1) := by decide +kernel
theorem dX11_many_34 : decode cX11_many 34 = .ok (.ireturn, 1) := by decide +kernel
theorem dX11_meanRank_0 : decode cX11_meanRank 0 = .ok (.iload_n 1, 1) := by decide +kernel
theorem dX11_meanRank_1 : decode cX11_meanRank 1 = .ok (.invokestatic 124, 3) := by decide +kernel
theorem dX11_meanRank_4 : decode cX11_meanRank 4 = .ok (.iconst 0, 1) := by decide +kernel
theorem dX11_meanRank_5 : decode cX11_meanRank 5 = .ok (.iconst 1, 1) := by decide +kernel
theorem dX11_meanRank_6 : decode cX11_meanRank 6 = .ok (.invokestatic 78, 3) := by decide +kernel
theorem dX11_meanRank_9 : decode cX11_meanRank 9 = .ok (.istore_n 2, 1) := by decide +kernel
theorem dX11_meanRank_10 : decode cX11_meanRank 10 = .ok (.iconst 0, 1) := by decide +kernel
theorem dX11_meanRank_11 : decode cX11_meanRank 11 = .ok (.istore_n 3, 1) := by decide +kernel
theorem dX11_meanRank_12 : decode cX11_meanRank 12 = .ok (.iconst 0, 1) := by decide +kernel
theorem dX11_meanRank_13 : decode cX11_meanRank 13 = .ok (.istore 4, 2) := by decide +kernel
theorem dX11_meanRank_15 : decode cX11_meanRank 15 = .ok (.iload 4, 2) := by decide +kernel
theorem dX11_meanRank_17 : decode cX11_meanRank 17 = .ok (.aload_n 0, 1) := by decide +kernel
theorem dX11_meanRank_18 : decode cX11_meanRank 18 = .ok (.getfield 7, 3) := by decide +kernel
theorem dX11_meanRank_21 : decode cX11_meanRank 21 = .ok (.iconst 0, 1) := by decide +kernel
theorem dX11_meanRank_22 : decode cX11_meanRank 22 = .ok (.iaload, 1) := by decide +kernel
theorem dX11_meanRank_23 : decode cX11_meanRank 23 = .ok (.if_icmp .ge 62, 3) := by decide +kernel
theorem dX11_meanRank_85 : decode cX11_meanRank 85 = .ok (.aload_n 0, 1) := by decide +kernel
theorem dX11_meanRank_86 : decode cX11_meanRank 86 = .ok (.iload_n 2, 1) := by decide +kernel
theorem dX11_meanRank_87 : decode cX11_meanRank 87 = .ok (.ifCond .ne 7, 3) := by decide +kernel
theorem dX11_meanRank_90 : decode cX11_meanRank 90 = .ok (.iconst 1, 1) := by decide +kernel
theorem dX11_meanRank_91 : decode cX11_meanRank 91 = .ok (.goto 4, 3) := by decide +kernel
theorem dX11_meanRank_94 : decode cX11_meanRank 94 = .ok (.iconst 0, 1) := by decide +kernel
theorem dX11_meanRank_95 : decode cX11_meanRank 95 = .ok (.aload_n 0, 1) := by decide +kernel
theorem dX11_meanRank_96 : decode cX11_meanRank 96 = .ok (.invokevirtual 269, 3) := by decide +kernel
theorem dX11_meanRank_99 : decode cX11_meanRank 99 = .ok (.ifCond .ne 7, 3) := by decide +kernel
theorem dX11_meanRank_102 : decode cX11_meanRank 102 = .ok (.iconst 1, 1) := by decide +kernel
theorem dX11_meanRank_103 : decode cX11_meanRank 103 = .ok (.goto 4, 3) := by decide +kernel
theorem dX11_meanRank_107 : decode cX11_meanRank 107 = .ok (.iconst 0, 1) := by decide +kernel
theorem dX11_meanRank_108 : decode cX11_meanRank 108 = .ok (.invokevirtual 128, 3) := by decide +kernel
theorem dX11_meanRank_111 : decode cX11_meanRank 111 = .ok (.ifCond .eq 7, 3) := by decide +kernel
theorem dX11_meanRank_114 : decode cX11_meanRank 114 = .ok (.dconst 0, 1) := by decide +kernel
theorem dX11_meanRank_115 : decode cX11_meanRank 115 = .ok (.goto 11, 3) := by decide +kernel
theorem dX11_meanRank_126 : decode cX11_meanRank 126 = .ok (.dreturn, 1) := by decide +kernel
theorem dX11_offer_0 : decode cX11_offer 0 = .ok (.aload_n 0, 1) := by decide +kernel
theorem dX11_offer_1 : decode cX11_offer 1 = .ok (.getfield 34, 3) := by decide +kernel
theorem dX11_offer_4 : decode cX11_offer 4 = .ok (.bipush 45, 2) := by decide +kernel
theorem dX11_offer_6 : decode cX11_offer 6 = .ok (.if_icmp .eq 7, 3) := by decide +kernel
theorem dX11_offer_13 : decode cX11_offer 13 = .ok (.iconst 0, 1) := by decide +kernel
theorem dX11_offer_14 : decode cX11_offer 14 = .ok (.istore_n 2, 1) := by decide +kernel
theorem dX11_offer_15 : decode cX11_offer 15 = .ok (.iload_n 2, 1) := by decide +kernel
theorem dX11_offer_16 : decode cX11_offer 16 = .ok (.ifCond .eq 36, 3) := by decide +kernel
theorem dX11_offer_52 : decode cX11_offer 52 = .ok (.iconst 0, 1) := by decide +kernel
theorem dX11_offer_53 : decode cX11_offer 53 = .ok (.istore_n 3, 1) := by decide +kernel
theorem dX11_offer_54 : decode cX11_offer 54 = .ok (.aload_n 0, 1) := by decide +kernel
theorem dX11_offer_55 : decode cX11_offer 55 = .ok (.iload_n 2, 1) := by decide +kernel
theorem dX11_offer_56 : decode cX11_offer 56 = .ok (.ifCond .ne 7, 3) := by decide +kernel
theorem dX11_offer_59 : decode cX11_offer 59 = .ok (.iconst 1, 1) := by decide +kernel
theorem dX11_offer_60 : decode cX11_offer 60 = .ok (.goto 4, 3) := by decide +kernel
theorem dX11_offer_64 : decode cX11_offer 64 = .ok (.iload_n 3, 1) := by decide +kernel
theorem dX11_offer_65 : decode cX11_offer 65 = .ok (.ifCond .ne 7, 3) := by decide +kernel
theorem dX11_offer_68 : decode cX11_offer 68 = .ok (.iconst 1, 1) := by decide +kernel
theorem dX11_offer_69 : decode cX11_offer 69 = .ok (.goto 4, 3) := by decide +kernel
theorem dX11_offer_73 : decode cX11_offer 73 = .ok (.iload_n 3, 1) := by decide +kernel
theorem dX11_offer_74 : decode cX11_offer 74 = .ok (.ifCond .eq 38, 3) := by decide +kernel
theorem dX11_offer_112 : decode cX11_offer 112 = .ok (.iconst 0, 1) := by decide +kernel
theorem dX11_offer_113 : decode cX11_offer 113 = .ok (.invokevirtual 128, 3) := by decide +kernel
theorem dX11_offer_116 : decode cX11_offer 116 = .ok (.ifCond .eq 6, 3) := by decide +kernel
theorem dX11_offer_119 : decode cX11_offer 119 = .ok (.bipush 32, 2) := by decide +kernel
theorem dX11_offer_121 : decode cX11_offer 121 = .ok (.ireturn, 1) := by decide +kernel
theorem dX11_offerAt_0 : decode cX11_offerAt 0 = .ok (.aload_n 0, 1) := by decide +kernel
theorem dX11_offerAt_1 : decode cX11_offerAt 1 = .ok (.iload_n 1, 1) := by decide +kernel
theorem dX11_offerAt_2 : decode cX11_offerAt 2 = .ok (.iconst 0, 1) := by decide +kernel
theorem dX11_offerAt_3 : decode cX11_offerAt 3 = .ok (.aload_n 0, 1) := by decide +kernel
theorem dX11_offerAt_4 : decode cX11_offerAt 4 = .ok (.getfield 162, 3) := by decide +kernel
theorem dX11_offerAt_7 : decode cX11_offerAt 7 = .ok (.iconst 1, 1) := by decide +kernel
theorem dX11_offerAt_8 : decode cX11_offerAt 8 = .ok (.isub, 1) := by decide +kernel
theorem dX11_offerAt_9 : decode cX11_offerAt 9 = .ok (.invokestatic 78, 3) := by decide +kernel
theorem dX11_offerAt_12 : decode cX11_offerAt 12 = .ok (.ifCond .ne 7, 3) := by decide +kernel
theorem dX11_offerAt_15 : decode cX11_offerAt 15 = .ok (.iconst 1, 1) := by decide +kernel
theorem dX11_offerAt_16 : decode cX11_offerAt 16 = .ok (.goto 4, 3) := by decide +kernel
theorem dX11_offerAt_20 : decode cX11_offerAt 20 = .ok (.iconst 0, 1) := by decide +kernel
theorem dX11_offerAt_21 : decode cX11_offerAt 21 = .ok (.iconst 0, 1) := by decide +kernel
theorem dX11_offerAt_22 : decode cX11_offerAt 22 = .ok (.invokevirtual 128, 3) := by decide +kernel
theorem dX11_offerAt_25 : decode cX11_offerAt 25 = .ok (.ifCond .eq 7, 3) := by decide +kernel
theorem dX11_offerAt_28 : decode cX11_offerAt 28 = .ok (.iconst 0, 1) := by decide +kernel
theorem dX11_offerAt_29 : decode cX11_offerAt 29 = .ok (.goto 9, 3) := by decide +kernel
theorem dX11_offerAt_38 : decode cX11_offerAt 38 = .ok (.ireturn, 1) := by decide +kernel
theorem dX11_offers__0 : decode cX11_offers_ 0 = .ok (.aload_n 0, 1) := by decide +kernel
theorem dX11_offers__1 : decode cX11_offers_ 1 = .ok (.iconst 0, 1) := by decide +kernel
theorem dX11_offers__2 : decode cX11_offers_ 2 = .ok (.putfield 66, 3) := by decide +kernel
theorem dX11_offers__5 : decode cX11_offers_ 5 = .ok (.aload_n 0, 1) := by decide +kernel
theorem dX11_offers__6 : decode cX11_offers_ 6 = .ok (.getfield 162, 3) := by decide +kernel
theorem dX11_offers__9 : decode cX11_offers_ 9 = .ok (.ireturn, 1) := by decide +kernel
theorem dX11_open_0 : decode cX11_open 0 = .ok (.aload_n 0, 1) := by decide +kernel
theorem dX11_open_1 : decode cX11_open 1 = .ok (.aload_n 0, 1) := by decide +kernel
theorem dX11_open_2 : decode cX11_open 2 = .ok (.getfield 34, 3) := by decide +kernel
theorem dX11_open_5 : decode cX11_open 5 = .ok (.bipush 45, 2) := by decide +kernel
theorem dX11_open_7 : decode cX11_open 7 = .ok (.if_icmp .ne 7, 3) := by decide +kernel
theorem dX11_open_10 : decode cX11_open 10 = .ok (.iconst 1, 1) := by decide +kernel
theorem dX11_open_11 : decode cX11_open 11 = .ok (.goto 4, 3) := by decide +kernel
theorem dX11_open_15 : decode cX11_open 15 = .ok (.iconst 0, 1) := by decide +kernel
theorem dX11_open_16 : decode cX11_open 16 = .ok (.iconst 0, 1) := by decide +kernel
theorem dX11_open_17 : decode cX11_open 17 = .ok (.invokevirtual 128, 3) := by decide +kernel
theorem dX11_open_20 : decode cX11_open 20 = .ok (.ifCond .eq 7, 3) := by decide +kernel
theorem dX11_open_23 : decode cX11_open 23 = .ok (.iconst 0, 1) := by decide +kernel
theorem dX11_open_24 : decode cX11_open 24 = .ok (.goto 7, 3) := by decide +kernel
theorem dX11_open_31 : decode cX11_open 31 = .ok (.ireturn, 1) := by decide +kernel
theorem dX11_openNow_0 : decode cX11_openNow 0 = .ok (.iconst 0, 1) := by decide +kernel
theorem dX11_openNow_1 : decode cX11_openNow 1 = .ok (.istore_n 1, 1) := by decide +kernel
theorem dX11_openNow_2 : decode cX11_openNow 2 = .ok (.aload_n 0, 1) := by decide +kernel
theorem dX11_openNow_3 : decode cX11_openNow 3 = .ok (.getfield 34, 3) := by decide +kernel
theorem dX11_openNow_6 : decode cX11_openNow 6 = .ok (.bipush 112, 2) := by decide +kernel
theorem dX11_openNow_8 : decode cX11_openNow 8 = .ok (.if_icmp .ne 7, 3) := by decide +kernel
theorem dX11_openNow_11 : decode cX11_openNow 11 = .ok (.iconst 1, 1) := by decide +kernel
theorem dX11_openNow_12 : decode cX11_openNow 12 = .ok (.goto 4, 3) := by decide +kernel
theorem dX11_openNow_15 : decode cX11_openNow 15 = .ok (.iconst 0, 1) := by decide +kernel
theorem dX11_openNow_16 : decode cX11_openNow 16 = .ok (.istore_n 2, 1) := by decide +kernel
theorem dX11_openNow_17 : decode cX11_openNow 17 = .ok (.iconst 0, 1) := by decide +kernel
theorem dX11_openNow_18 : decode cX11_openNow 18 = .ok (.istore_n 3, 1) := by decide +kernel
theorem dX11_openNow_19 : decode cX11_openNow 19 = .ok (.iload_n 3, 1) := by decide +kernel
theorem dX11_openNow_20 : decode cX11_openNow 20 = .ok (.aload_n 0, 1) := by decide +kernel
theorem dX11_openNow_21 : decode cX11_openNow 21 = .ok (.getfield 7, 3) := by decide +kernel
theorem dX11_openNow_24 : decode cX11_openNow 24 = .ok (.iload_n 2, 1) := by decide +kernel
theorem dX11_openNow_25 : decode cX11_openNow 25 = .ok (.ifCond .eq 7, 3) := by decide +kernel
theorem dX11_openNow_28 : decode cX11_openNow 28 = .ok (.iconst 0, 1) := by decide +kernel
theorem dX11_openNow_29 : decode cX11_openNow 29 = .ok (.goto 4, 3) := by decide +kernel
theorem dX11_openNow_32 : decode cX11_openNow 32 = .ok (.iconst 1, 1) := by decide +kernel
theorem dX11_openNow_33 : decode cX11_openNow 33 = .ok (.iaload, 1) := by decide +kernel
theorem dX11_openNow_34 : decode cX11_openNow 34 = .ok (.if_icmp .ge 35, 3) := by decide +kernel
theorem dX11_openNow_69 : decode cX11_openNow 69 = .ok (.iload_n 1, 1) := by decide +kernel
theorem dX11_openNow_70 : decode cX11_openNow 70 = .ok (.ireturn, 1) := by decide +kernel
theorem dX11_pair_0 : decode cX11_pair 0 = .ok (.aload_n 0, 1) := by decide +kernel
theorem dX11_pair_1 : decode cX11_pair 1 = .ok (.iload_n 1, 1) := by decide +kernel
theorem dX11_pair_2 : decode cX11_pair 2 = .ok (.invokevirtual 176, 3) := by decide +kernel
theorem dX11_pair_5 : decode cX11_pair 5 = .ok (.ifCond .eq 15, 3) := by decide +kernel
theorem dX11_pair_20 : decode cX11_pair 20 = .ok (.iconst 0, 1) := by decide +kernel
theorem dX11_pair_21 : decode cX11_pair 21 = .ok (.istore_n 3, 1) := by decide +kernel
theorem dX11_pair_22 : decode cX11_pair 22 = .ok (.iload_n 3, 1) := by decide +kernel
theorem dX11_pair_23 : decode cX11_pair 23 = .ok (.ifCond .eq 16, 3) := by decide +kernel
theorem dX11_pair_39 : decode cX11_pair 39 = .ok (.iconst 0, 1) := by decide +kernel
theorem dX11_pair_40 : decode cX11_pair 40 = .ok (.istore 4, 2) := by decide +kernel
theorem dX11_pair_42 : decode cX11_pair 42 = .ok (.aload_n 0, 1) := by decide +kernel
theorem dX11_pair_43 : decode cX11_pair 43 = .ok (.iload_n 3, 1) := by decide +kernel
theorem dX11_pair_44 : decode cX11_pair 44 = .ok (.ifCond .ne 7, 3) := by decide +kernel
theorem dX11_pair_47 : decode cX11_pair 47 = .ok (.iconst 1, 1) := by decide +kernel
theorem dX11_pair_48 : decode cX11_pair 48 = .ok (.goto 4, 3) := by decide +kernel
theorem dX11_pair_52 : decode cX11_pair 52 = .ok (.iload 4, 2) := by decide +kernel
theorem dX11_pair_54 : decode cX11_pair 54 = .ok (.iload_n 3, 1) := by decide +kernel
theorem dX11_pair_55 : decode cX11_pair 55 = .ok (.ifCond .eq 29, 3) := by decide +kernel
theorem dX11_pair_84 : decode cX11_pair 84 = .ok (.iconst 0, 1) := by decide +kernel
theorem dX11_pair_85 : decode cX11_pair 85 = .ok (.invokevirtual 128, 3) := by decide +kernel
theorem dX11_pair_88 : decode cX11_pair 88 = .ok (.ifCond .eq 5, 3) := by decide +kernel
theorem dX11_pair_91 : decode cX11_pair 91 = .ok (.iconst 0, 1) := by decide +kernel
theorem dX11_pair_92 : decode cX11_pair 92 = .ok (.ireturn, 1) := by decide +kernel
theorem dX11_pairedMany_0 : decode cX11_pairedMany 0 = .ok (.iconst 0, 1) := by decide +kernel
theorem dX11_pairedMany_1 : decode cX11_pairedMany 1 = .ok (.istore_n 1, 1) := by decide +kernel
theorem dX11_pairedMany_2 : decode cX11_pairedMany 2 = .ok (.iconst 0, 1) := by decide +kernel
theorem dX11_pairedMany_3 : decode cX11_pairedMany 3 = .ok (.istore_n 2, 1) := by decide +kernel
theorem dX11_pairedMany_4 : decode cX11_pairedMany 4 = .ok (.iload_n 2, 1) := by decide +kernel
theorem dX11_pairedMany_5 : decode cX11_pairedMany 5 = .ok (.aload_n 0, 1) := by decide +kernel
theorem dX11_pairedMany_6 : decode cX11_pairedMany 6 = .ok (.getfield 7, 3) := by decide +kernel
theorem dX11_pairedMany_9 : decode cX11_pairedMany 9 = .ok (.iconst 0, 1) := by decide +kernel
theorem dX11_pairedMany_10 : decode cX11_pairedMany 10 = .ok (.iaload, 1) := by decide +kernel
theorem dX11_pairedMany_11 : decode cX11_pairedMany 11 = .ok (.if_icmp .ge 27, 3) := by decide +kernel
theorem dX11_pairedMany_38 : decode cX11_pairedMany 38 = .ok (.iload_n 1, 1) := by decide +kernel
theorem dX11_pairedMany_39 : decode cX11_pairedMany 39 = .ok (.ireturn, 1) := by decide +kernel
theorem dX11_pairedShare_0 : decode cX11_pairedShare 0 = .ok (.aload_n 0, 1) := by decide +kernel
theorem dX11_pairedShare_1 : decode cX11_pairedShare 1 = .ok (.aload_n 0, 1) := by decide +kernel
theorem dX11_pairedShare_2 : decode cX11_pairedShare 2 = .ok (.getfield 7, 3) := by decide +kernel
theorem dX11_pairedShare_5 : decode cX11_pairedShare 5 = .ok (.iconst 0, 1) := by decide +kernel
theorem dX11_pairedShare_6 : decode cX11_pairedShare 6 = .ok (.iaload, 1) := by decide +kernel
theorem dX11_pairedShare_7 : decode cX11_pairedShare 7 = .ok (.ifCond .ne 7, 3) := by decide +kernel
theorem dX11_pairedShare_10 : decode cX11_pairedShare 10 = .ok (.iconst 1, 1) := by decide +kernel
theorem dX11_pairedShare_11 : decode cX11_pairedShare 11 = .ok (.goto 4, 3) := by decide +kernel
theorem dX11_pairedShare_15 : decode cX11_pairedShare 15 = .ok (.iconst 0, 1) := by decide +kernel
theorem dX11_pairedShare_16 : decode cX11_pairedShare 16 = .ok (.iconst 0, 1) := by decide +kernel
theorem dX11_pairedShare_17 : decode cX11_pairedShare 17 = .ok (.invokevirtual 128, 3) := by decide +kernel
theorem dX11_pairedShare_20 : decode cX11_pairedShare 20 = .ok (.ifCond .eq 7, 3) := by decide +kernel
theorem dX11_pairedShare_23 : decode cX11_pairedShare 23 = .ok (.fconst 0, 1) := by decide +kernel
theorem dX11_pairedShare_24 : decode cX11_pairedShare 24 = .ok (.goto 16, 3) := by decide +kernel
theorem dX11_pairedShare_40 : decode cX11_pairedShare 40 = .ok (.freturn, 1) := by decide +kernel
theorem dX11_part_0 : decode cX11_part 0 = .ok (.aload_n 0, 1) := by decide +kernel
theorem dX11_part_1 : decode cX11_part 1 = .ok (.aload_n 0, 1) := by decide +kernel
theorem dX11_part_2 : decode cX11_part 2 = .ok (.iload_n 1, 1) := by decide +kernel
theorem dX11_part_3 : decode cX11_part 3 = .ok (.invokevirtual 176, 3) := by decide +kernel
theorem dX11_part_6 : decode cX11_part 6 = .ok (.ifCond .ne 7, 3) := by decide +kernel
theorem dX11_part_9 : decode cX11_part 9 = .ok (.iconst 1, 1) := by decide +kernel
theorem dX11_part_10 : decode cX11_part 10 = .ok (.goto 4, 3) := by decide +kernel
theorem dX11_part_14 : decode cX11_part 14 = .ok (.iconst 0, 1) := by decide +kernel
theorem dX11_part_15 : decode cX11_part 15 = .ok (.iconst 0, 1) := by decide +kernel
theorem dX11_part_16 : decode cX11_part 16 = .ok (.invokevirtual 128, 3) := by decide +kernel
theorem dX11_part_19 : decode cX11_part 19 = .ok (.ifCond .eq 5, 3) := by decide +kernel
theorem dX11_part_22 : decode cX11_part 22 = .ok (.iconst 0, 1) := by decide +kernel
theorem dX11_part_23 : decode cX11_part 23 = .ok (.ireturn, 1) := by decide +kernel
theorem dX11_places_0 : decode cX11_places 0 = .ok (.aload_n 0, 1) := by decide +kernel
theorem dX11_places_1 : decode cX11_places 1 = .ok (.aload_n 0, 1) := by decide +kernel
theorem dX11_places_2 : decode cX11_places 2 = .ok (.iload_n 1, 1) := by decide +kernel
theorem dX11_places_3 : decode cX11_places 3 = .ok (.invokevirtual 135, 3) := by decide +kernel
theorem dX11_places_6 : decode cX11_places 6 = .ok (.ifCond .ne 7, 3) := by decide +kernel
theorem dX11_places_9 : decode cX11_places 9 = .ok (.iconst 1, 1) := by decide +kernel
theorem dX11_places_10 : decode cX11_places 10 = .ok (.goto 4, 3) := by decide +kernel
theorem dX11_places_14 : decode cX11_places 14 = .ok (.iload_n 2, 1) := by decide +kernel
theorem dX11_places_15 : decode cX11_places 15 = .ok (.iconst 1, 1) := by decide +kernel
theorem dX11_places_16 : decode cX11_places 16 = .ok (.iconst 4, 1) := by decide +kernel
theorem dX11_places_17 : decode cX11_places 17 = .ok (.invokestatic 78, 3) := by decide +kernel
theorem dX11_places_20 : decode cX11_places 20 = .ok (.ifCond .ne 7, 3) := by decide +kernel
theorem dX11_places_23 : decode cX11_places 23 = .ok (.iconst 1, 1) := by decide +kernel
theorem dX11_places_24 : decode cX11_places 24 = .ok (.goto 4, 3) := by decide +kernel
theorem dX11_places_27 : decode cX11_places 27 = .ok (.iconst 0, 1) := by decide +kernel
theorem dX11_places_28 : decode cX11_places 28 = .ok (.iconst 0, 1) := by decide +kernel
theorem dX11_places_29 : decode cX11_places 29 = .ok (.invokevirtual 128, 3) := by decide +kernel
theorem dX11_places_32 : decode cX11_places 32 = .ok (.ifCond .eq 5, 3) := by decide +kernel
theorem dX11_places_35 : decode cX11_places 35 = .ok (.iconst 0, 1) := by decide +kernel
theorem dX11_places_36 : decode cX11_places 36 = .ok (.ireturn, 1) := by decide +kernel
theorem dX11_quiet_0 : decode cX11_quiet 0 = .ok (.aload_n 0, 1) := by decide +kernel
theorem dX11_quiet_1 : decode cX11_quiet 1 = .ok (.getfield 7, 3) := by decide +kernel
theorem dX11_quiet_4 : decode cX11_quiet 4 = .ok (.iconst 2, 1) := by decide +kernel
theorem dX11_quiet_5 : decode cX11_quiet 5 = .ok (.iaload, 1) := by decide +kernel
theorem dX11_quiet_6 : decode cX11_quiet 6 = .ok (.istore_n 1, 1) := by decide +kernel
theorem dX11_quiet_7 : decode cX11_quiet 7 = .ok (.iload_n 1, 1) := by decide +kernel
theorem dX11_quiet_8 : decode cX11_quiet 8 = .ok (.newarray .int, 2) := by decide +kernel
theorem dX11_quiet_10 : decode cX11_quiet 10 = .ok (.astore_n 2, 1) := by decide +kernel
theorem dX11_quiet_11 : decode cX11_quiet 11 = .ok (.iload_n 1, 1) := by decide +kernel
theorem dX11_quiet_12 : decode cX11_quiet 12 = .ok (.newarray .int, 2) := by decide +kernel
theorem dX11_quiet_14 : decode cX11_quiet 14 = .ok (.astore_n 3, 1) := by decide +kernel
theorem dX11_quiet_15 : decode cX11_quiet 15 = .ok (.iconst 0, 1) := by decide +kernel
theorem dX11_quiet_16 : decode cX11_quiet 16 = .ok (.istore 4, 2) := by decide +kernel
theorem dX11_quiet_18 : decode cX11_quiet 18 = .ok (.iload 4, 2) := by decide +kernel
theorem dX11_quiet_20 : decode cX11_quiet 20 = .ok (.iload_n 1, 1) := by decide +kernel
theorem dX11_quiet_21 : decode cX11_quiet 21 = .ok (.if_icmp .ge 15, 3) := by decide +kernel
theorem dX11_quiet_36 : decode cX11_quiet 36 = .ok (.iconst 0, 1) := by decide +kernel
theorem dX11_quiet_37 : decode cX11_quiet 37 = .ok (.istore 4, 2) := by decide +kernel
theorem dX11_quiet_39 : decode cX11_quiet 39 = .ok (.iconst 0, 1) := by decide +kernel
theorem dX11_quiet_40 : decode cX11_quiet 40 = .ok (.istore 5, 2) := by decide +kernel
theorem dX11_quiet_42 : decode cX11_quiet 42 = .ok (.iconst 1, 1) := by decide +kernel
theorem dX11_quiet_43 : decode cX11_quiet 43 = .ok (.istore 6, 2) := by decide +kernel
theorem dX11_quiet_45 : decode cX11_quiet 45 = .ok (.aload_n 0, 1) := by decide +kernel
theorem dX11_quiet_46 : decode cX11_quiet 46 = .ok (.aconst_null, 1) := by decide +kernel
theorem dX11_quiet_47 : decode cX11_quiet 47 = .ok (.putfield 253, 3) := by decide +kernel
theorem dX11_quiet_50 : decode cX11_quiet 50 = .ok (.iload 5, 2) := by decide +kernel
theorem dX11_quiet_52 : decode cX11_quiet 52 = .ok (.ifCond .lt 221, 3) := by decide +kernel
theorem dX11_quiet_55 : decode cX11_quiet 55 = .ok (.iload 5, 2) := by decide +kernel
theorem dX11_quiet_57 : decode cX11_quiet 57 = .ok (.iload_n 1, 1) := by decide +kernel
theorem dX11_quiet_58 : decode cX11_quiet 58 = .ok (.if_icmp .ne 43, 3) := by decide +kernel
theorem dX11_quiet_61 : decode cX11_quiet 61 = .ok (.aload_n 0, 1) := by decide +kernel
theorem dX11_quiet_62 : decode cX11_quiet 62 = .ok (.aload_n 2, 1) := by decide +kernel
theorem dX11_quiet_63 : decode cX11_quiet 63 = .ok (.invokevirtual 256, 3) := by decide +kernel
theorem dX11_quiet_66 : decode cX11_quiet 66 = .ok (.ifCond .eq 26, 3) := by decide +kernel
theorem dX11_quiet_69 : decode cX11_quiet 69 = .ok (.aload_n 0, 1) := by decide +kernel
theorem dX11_quiet_70 : decode cX11_quiet 70 = .ok (.iload 4, 2) := by decide +kernel
theorem dX11_quiet_72 : decode cX11_quiet 72 = .ok (.ifCond .ne 10, 3) := by decide +kernel
theorem dX11_quiet_75 : decode cX11_quiet 75 = .ok (.aload_n 2, 1) := by decide +kernel
theorem dX11_quiet_76 : decode cX11_quiet 76 = .ok (.invokestatic 198, 3) := by decide +kernel
theorem dX11_quiet_79 : decode cX11_quiet 79 = .ok (.goto 7, 3) := by decide +kernel
theorem dX11_quiet_86 : decode cX11_quiet 86 = .ok (.putfield 253, 3) := by decide +kernel
theorem dX11_quiet_89 : decode cX11_quiet 89 = .ok (.iinc 4 1, 3) := by decide +kernel
theorem dX11_quiet_92 : decode cX11_quiet 92 = .ok (.iinc 5 (-1), 3) := by decide +kernel
theorem dX11_quiet_95 : decode cX11_quiet 95 = .ok (.iconst 0, 1) := by decide +kernel
theorem dX11_quiet_96 : decode cX11_quiet 96 = .ok (.istore 6, 2) := by decide +kernel
theorem dX11_quiet_98 : decode cX11_quiet 98 = .ok (.goto (-48), 3) := by decide +kernel
theorem dX11_quiet_273 : decode cX11_quiet 273 = .ok (.iload 4, 2) := by decide +kernel
theorem dX11_quiet_275 : decode cX11_quiet 275 = .ok (.ireturn, 1) := by decide +kernel
theorem dX11_rank_0 : decode cX11_rank 0 = .ok (.iload_n 1, 1) := by decide +kernel
theorem dX11_rank_1 : decode cX11_rank 1 = .ok (.invokestatic 124, 3) := by decide +kernel
theorem dX11_rank_4 : decode cX11_rank 4 = .ok (.istore 4, 2) := by decide +kernel
theorem dX11_rank_6 : decode cX11_rank 6 = .ok (.aload_n 0, 1) := by decide +kernel
theorem dX11_rank_7 : decode cX11_rank 7 = .ok (.iload 4, 2) := by decide +kernel
theorem dX11_rank_9 : decode cX11_rank 9 = .ok (.ifCond .ge 7, 3) := by decide +kernel
theorem dX11_rank_12 : decode cX11_rank 12 = .ok (.iconst 1, 1) := by decide +kernel
theorem dX11_rank_13 : decode cX11_rank 13 = .ok (.goto 4, 3) := by decide +kernel
theorem dX11_rank_16 : decode cX11_rank 16 = .ok (.iconst 0, 1) := by decide +kernel
theorem dX11_rank_17 : decode cX11_rank 17 = .ok (.aload_n 0, 1) := by decide +kernel
theorem dX11_rank_18 : decode cX11_rank 18 = .ok (.iload 4, 2) := by decide +kernel
theorem dX11_rank_20 : decode cX11_rank 20 = .ok (.iload_n 2, 1) := by decide +kernel
theorem dX11_rank_21 : decode cX11_rank 21 = .ok (.invokevirtual 155, 3) := by decide +kernel
theorem dX11_rank_24 : decode cX11_rank 24 = .ok (.ifCond .ne 7, 3) := by decide +kernel
theorem dX11_rank_27 : decode cX11_rank 27 = .ok (.iconst 1, 1) := by decide +kernel
theorem dX11_rank_28 : decode cX11_rank 28 = .ok (.goto 4, 3) := by decide +kernel
theorem dX11_rank_32 : decode cX11_rank 32 = .ok (.iconst 0, 1) := by decide +kernel
theorem dX11_rank_33 : decode cX11_rank 33 = .ok (.invokevirtual 128, 3) := by decide +kernel
theorem dX11_rank_36 : decode cX11_rank 36 = .ok (.ifCond .eq 7, 3) := by decide +kernel
theorem dX11_rank_39 : decode cX11_rank 39 = .ok (.iconst 0, 1) := by decide +kernel
theorem dX11_rank_40 : decode cX11_rank 40 = .ok (.goto 11, 3) := by decide +kernel
theorem dX11_rank_51 : decode cX11_rank 51 = .ok (.ireturn, 1) := by decide +kernel
theorem dX11_read_0 : decode cX11_read 0 = .ok (.iload_n 1, 1) := by decide +kernel
theorem dX11_read_1 : decode cX11_read 1 = .ok (.invokestatic 124, 3) := by decide +kernel
theorem dX11_read_4 : decode cX11_read 4 = .ok (.istore_n 3, 1) := by decide +kernel
theorem dX11_read_5 : decode cX11_read 5 = .ok (.aload_n 0, 1) := by decide +kernel
theorem dX11_read_6 : decode cX11_read 6 = .ok (.iload_n 3, 1) := by decide +kernel
theorem dX11_read_7 : decode cX11_read 7 = .ok (.ifCond .ge 7, 3) := by decide +kernel
theorem dX11_read_10 : decode cX11_read 10 = .ok (.iconst 1, 1) := by decide +kernel
theorem dX11_read_11 : decode cX11_read 11 = .ok (.goto 4, 3) := by decide +kernel
theorem dX11_read_14 : decode cX11_read 14 = .ok (.iconst 0, 1) := by decide +kernel
theorem dX11_read_15 : decode cX11_read 15 = .ok (.aload_n 0, 1) := by decide +kernel
theorem dX11_read_16 : decode cX11_read 16 = .ok (.iload_n 3, 1) := by decide +kernel
theorem dX11_read_17 : decode cX11_read 17 = .ok (.iload_n 2, 1) := by decide +kernel
theorem dX11_read_18 : decode cX11_read 18 = .ok (.invokevirtual 155, 3) := by decide +kernel
theorem dX11_read_21 : decode cX11_read 21 = .ok (.ifCond .ne 7, 3) := by decide +kernel
theorem dX11_read_24 : decode cX11_read 24 = .ok (.iconst 1, 1) := by decide +kernel
theorem dX11_read_25 : decode cX11_read 25 = .ok (.goto 4, 3) := by decide +kernel
theorem dX11_read_29 : decode cX11_read 29 = .ok (.iconst 0, 1) := by decide +kernel
theorem dX11_read_30 : decode cX11_read 30 = .ok (.invokevirtual 128, 3) := by decide +kernel
theorem dX11_read_33 : decode cX11_read 33 = .ok (.ifCond .eq 5, 3) := by decide +kernel
theorem dX11_read_36 : decode cX11_read 36 = .ok (.iconst 0, 1) := by decide +kernel
theorem dX11_read_37 : decode cX11_read 37 = .ok (.ireturn, 1) := by decide +kernel
theorem dX11_resultAt_0 : decode cX11_resultAt 0 = .ok (.aload_n 0, 1) := by decide +kernel
theorem dX11_resultAt_1 : decode cX11_resultAt 1 = .ok (.iload_n 1, 1) := by decide +kernel
theorem dX11_resultAt_2 : decode cX11_resultAt 2 = .ok (.iconst 0, 1) := by decide +kernel
theorem dX11_resultAt_3 : decode cX11_resultAt 3 = .ok (.aload_n 0, 1) := by decide +kernel
theorem dX11_resultAt_4 : decode cX11_resultAt 4 = .ok (.getfield 162, 3) := by decide +kernel
theorem dX11_resultAt_7 : decode cX11_resultAt 7 = .ok (.iconst 1, 1) := by decide +kernel
theorem dX11_resultAt_8 : decode cX11_resultAt 8 = .ok (.isub, 1) := by decide +kernel
theorem dX11_resultAt_9 : decode cX11_resultAt 9 = .ok (.invokestatic 78, 3) := by decide +kernel
theorem dX11_resultAt_12 : decode cX11_resultAt 12 = .ok (.ifCond .ne 7, 3) := by decide +kernel
theorem dX11_resultAt_15 : decode cX11_resultAt 15 = .ok (.iconst 1, 1) := by decide +kernel
theorem dX11_resultAt_16 : decode cX11_resultAt 16 = .ok (.goto 4, 3) := by decide +kernel
theorem dX11_resultAt_20 : decode cX11_resultAt 20 = .ok (.iconst 0, 1) := by decide +kernel
theorem dX11_resultAt_21 : decode cX11_resultAt 21 = .ok (.iconst 0, 1) := by decide +kernel
theorem dX11_resultAt_22 : decode cX11_resultAt 22 = .ok (.invokevirtual 128, 3) := by decide +kernel
theorem dX11_resultAt_25 : decode cX11_resultAt 25 = .ok (.ifCond .eq 8, 3) := by decide +kernel
theorem dX11_resultAt_28 : decode cX11_resultAt 28 = .ok (.bipush 32, 2) := by decide +kernel
theorem dX11_resultAt_30 : decode cX11_resultAt 30 = .ok (.goto 9, 3) := by decide +kernel
theorem dX11_resultAt_39 : decode cX11_resultAt 39 = .ok (.ireturn, 1) := by decide +kernel
theorem dX11_ringsOf_0 : decode cX11_ringsOf 0 = .ok (.iconst 0, 1) := by decide +kernel
theorem dX11_ringsOf_1 : decode cX11_ringsOf 1 = .ok (.istore_n 2, 1) := by decide +kernel
theorem dX11_ringsOf_2 : decode cX11_ringsOf 2 = .ok (.iconst 0, 1) := by decide +kernel
theorem dX11_ringsOf_3 : decode cX11_ringsOf 3 = .ok (.istore_n 3, 1) := by decide +kernel
theorem dX11_ringsOf_4 : decode cX11_ringsOf 4 = .ok (.iload_n 3, 1) := by decide +kernel
theorem dX11_ringsOf_5 : decode cX11_ringsOf 5 = .ok (.aload_n 0, 1) := by decide +kernel
theorem dX11_ringsOf_6 : decode cX11_ringsOf 6 = .ok (.getfield 7, 3) := by decide +kernel
theorem dX11_ringsOf_9 : decode cX11_ringsOf 9 = .ok (.iconst 0, 1) := by decide +kernel
theorem dX11_ringsOf_10 : decode cX11_ringsOf 10 = .ok (.iaload, 1) := by decide +kernel
theorem dX11_ringsOf_11 : decode cX11_ringsOf 11 = .ok (.if_icmp .ge 26, 3) := by decide +kernel
theorem dX11_ringsOf_37 : decode cX11_ringsOf 37 = .ok (.iload_n 2, 1) := by decide +kernel
theorem dX11_ringsOf_38 : decode cX11_ringsOf 38 = .ok (.ireturn, 1) := by decide +kernel
theorem dX11_roomOf_0 : decode cX11_roomOf 0 = .ok (.iload_n 1, 1) := by decide +kernel
theorem dX11_roomOf_1 : decode cX11_roomOf 1 = .ok (.iconst 0, 1) := by decide +kernel
theorem dX11_roomOf_2 : decode cX11_roomOf 2 = .ok (.aload_n 0, 1) := by decide +kernel
theorem dX11_roomOf_3 : decode cX11_roomOf 3 = .ok (.getfield 7, 3) := by decide +kernel
theorem dX11_roomOf_6 : decode cX11_roomOf 6 = .ok (.iconst 2, 1) := by decide +kernel
theorem dX11_roomOf_7 : decode cX11_roomOf 7 = .ok (.iaload, 1) := by decide +kernel
theorem dX11_roomOf_8 : decode cX11_roomOf 8 = .ok (.iconst 1, 1) := by decide +kernel
theorem dX11_roomOf_9 : decode cX11_roomOf 9 = .ok (.isub, 1) := by decide +kernel
theorem dX11_roomOf_10 : decode cX11_roomOf 10 = .ok (.invokestatic 78, 3) := by decide +kernel
theorem dX11_roomOf_13 : decode cX11_roomOf 13 = .ok (.istore_n 2, 1) := by decide +kernel
theorem dX11_roomOf_14 : decode cX11_roomOf 14 = .ok (.iload_n 2, 1) := by decide +kernel
theorem dX11_roomOf_15 : decode cX11_roomOf 15 = .ok (.ifCond .eq 18, 3) := by decide +kernel
theorem dX11_roomOf_33 : decode cX11_roomOf 33 = .ok (.iconst 0, 1) := by decide +kernel
theorem dX11_roomOf_34 : decode cX11_roomOf 34 = .ok (.istore_n 3, 1) := by decide +kernel
theorem dX11_roomOf_35 : decode cX11_roomOf 35 = .ok (.aload_n 0, 1) := by decide +kernel
theorem dX11_roomOf_36 : decode cX11_roomOf 36 = .ok (.iload_n 2, 1) := by decide +kernel
theorem dX11_roomOf_37 : decode cX11_roomOf 37 = .ok (.ifCond .ne 7, 3) := by decide +kernel
theorem dX11_roomOf_40 : decode cX11_roomOf 40 = .ok (.iconst 1, 1) := by decide +kernel
theorem dX11_roomOf_41 : decode cX11_roomOf 41 = .ok (.goto 4, 3) := by decide +kernel
theorem dX11_roomOf_45 : decode cX11_roomOf 45 = .ok (.iload_n 3, 1) := by decide +kernel
theorem dX11_roomOf_46 : decode cX11_roomOf 46 = .ok (.iload_n 2, 1) := by decide +kernel
theorem dX11_roomOf_47 : decode cX11_roomOf 47 = .ok (.ifCond .eq 18, 3) := by decide +kernel
theorem dX11_roomOf_65 : decode cX11_roomOf 65 = .ok (.iconst 0, 1) := by decide +kernel
theorem dX11_roomOf_66 : decode cX11_roomOf 66 = .ok (.invokevirtual 128, 3) := by decide +kernel
theorem dX11_roomOf_69 : decode cX11_roomOf 69 = .ok (.ifCond .eq 7, 3) := by decide +kernel
theorem dX11_roomOf_72 : decode cX11_roomOf 72 = .ok (.iconst 0, 1) := by decide +kernel
theorem dX11_roomOf_73 : decode cX11_roomOf 73 = .ok (.goto 9, 3) := by decide +kernel
theorem dX11_roomOf_82 : decode cX11_roomOf 82 = .ok (.ireturn, 1) := by decide +kernel
theorem dX11_rooms_0 : decode cX11_rooms 0 = .ok (.aload_n 0, 1) := by decide +kernel
theorem dX11_rooms_1 : decode cX11_rooms 1 = .ok (.aload_n 0, 1) := by decide +kernel
theorem dX11_rooms_2 : decode cX11_rooms 2 = .ok (.getfield 7, 3) := by decide +kernel
theorem dX11_rooms_5 : decode cX11_rooms 5 = .ok (.iconst 2, 1) := by decide +kernel
theorem dX11_rooms_6 : decode cX11_rooms 6 = .ok (.iaload, 1) := by decide +kernel
theorem dX11_rooms_7 : decode cX11_rooms 7 = .ok (.bipush 8, 2) := by decide +kernel
theorem dX11_rooms_9 : decode cX11_rooms 9 = .ok (.if_icmp .le 7, 3) := by decide +kernel
theorem dX11_rooms_16 : decode cX11_rooms 16 = .ok (.iconst 0, 1) := by decide +kernel
theorem dX11_rooms_17 : decode cX11_rooms 17 = .ok (.iconst 0, 1) := by decide +kernel
theorem dX11_rooms_18 : decode cX11_rooms 18 = .ok (.iconst 0, 1) := by decide +kernel
theorem dX11_rooms_19 : decode cX11_rooms 19 = .ok (.invokevirtual 128, 3) := by decide +kernel
theorem dX11_rooms_22 : decode cX11_rooms 22 = .ok (.ifCond .eq 7, 3) := by decide +kernel
theorem dX11_rooms_29 : decode cX11_rooms 29 = .ok (.aload_n 0, 1) := by decide +kernel
theorem dX11_rooms_30 : decode cX11_rooms 30 = .ok (.invokevirtual 260, 3) := by decide +kernel
theorem dX11_rooms_33 : decode cX11_rooms 33 = .ok (.ireturn, 1) := by decide +kernel
theorem dX11_rotationAt_0 : decode cX11_rotationAt 0 = .ok (.aload_n 0, 1) := by decide +kernel
theorem dX11_rotationAt_1 : decode cX11_rotationAt 1 = .ok (.aload_n 0, 1) := by decide +kernel
theorem dX11_rotationAt_2 : decode cX11_rotationAt 2 = .ok (.getfield 31, 3) := by decide +kernel
theorem dX11_rotationAt_5 : decode cX11_rotationAt 5 = .ok (.invokevirtual 179, 3) := by decide +kernel
theorem dX11_rotationAt_8 : decode cX11_rotationAt 8 = .ok (.ifCond .le 7, 3) := by decide +kernel
theorem dX11_rotationAt_15 : decode cX11_rotationAt 15 = .ok (.iconst 0, 1) := by decide +kernel
theorem dX11_rotationAt_16 : decode cX11_rotationAt 16 = .ok (.istore_n 3, 1) := by decide +kernel
theorem dX11_rotationAt_17 : decode cX11_rotationAt 17 = .ok (.iload_n 3, 1) := by decide +kernel
theorem dX11_rotationAt_18 : decode cX11_rotationAt 18 = .ok (.ifCond .ne 15, 3) := by decide +kernel
theorem dX11_rotationAt_21 : decode cX11_rotationAt 21 = .ok (.aload_n 0, 1) := by decide +kernel
theorem dX11_rotationAt_22 : decode cX11_rotationAt 22 = .ok (.iload_n 1, 1) := by decide +kernel
theorem dX11_rotationAt_23 : decode cX11_rotationAt 23 = .ok (.invokevirtual 208, 3) := by decide +kernel
theorem dX11_rotationAt_26 : decode cX11_rotationAt 26 = .ok (.ifCond .eq 7, 3) := by decide +kernel
theorem dX11_rotationAt_33 : decode cX11_rotationAt 33 = .ok (.iconst 0, 1) := by decide +kernel
theorem dX11_rotationAt_34 : decode cX11_rotationAt 34 = .ok (.istore 4, 2) := by decide +kernel
theorem dX11_rotationAt_36 : decode cX11_rotationAt 36 = .ok (.aload_n 0, 1) := by decide +kernel
theorem dX11_rotationAt_37 : decode cX11_rotationAt 37 = .ok (.iload_n 3, 1) := by decide +kernel
theorem dX11_rotationAt_38 : decode cX11_rotationAt 38 = .ok (.iload 4, 2) := by decide +kernel
theorem dX11_rotationAt_40 : decode cX11_rotationAt 40 = .ok (.ifCond .eq 30, 3) := by decide +kernel
theorem dX11_rotationAt_70 : decode cX11_rotationAt 70 = .ok (.iconst 1, 1) := by decide +kernel
theorem dX11_rotationAt_71 : decode cX11_rotationAt 71 = .ok (.goto 4, 3) := by decide +kernel
theorem dX11_rotationAt_75 : decode cX11_rotationAt 75 = .ok (.iconst 0, 1) := by decide +kernel
theorem dX11_rotationAt_76 : decode cX11_rotationAt 76 = .ok (.invokevirtual 128, 3) := by decide +kernel
theorem dX11_rotationAt_79 : decode cX11_rotationAt 79 = .ok (.ifCond .eq 5, 3) := by decide +kernel
theorem dX11_rotationAt_82 : decode cX11_rotationAt 82 = .ok (.iconst 0, 1) := by decide +kernel
theorem dX11_rotationAt_83 : decode cX11_rotationAt 83 = .ok (.ireturn, 1) := by decide +kernel
theorem dX11_rotationLength_0 : decode cX11_rotationLength 0 = .ok (.aload_n 0, 1) := by decide +kernel
theorem dX11_rotationLength_1 : decode cX11_rotationLength 1 = .ok (.aload_n 0, 1) := by decide +kernel
theorem dX11_rotationLength_2 : decode cX11_rotationLength 2 = .ok (.getfield 31, 3) := by decide +kernel
theorem dX11_rotationLength_5 : decode cX11_rotationLength 5 = .ok (.invokevirtual 179, 3) := by decide +kernel
theorem dX11_rotationLength_8 : decode cX11_rotationLength 8 = .ok (.ifCond .le 7, 3) := by decide +kernel
theorem dX11_rotationLength_15 : decode cX11_rotationLength 15 = .ok (.iconst 0, 1) := by decide +kernel
theorem dX11_rotationLength_16 : decode cX11_rotationLength 16 = .ok (.istore_n 2, 1) := by decide +kernel
theorem dX11_rotationLength_17 : decode cX11_rotationLength 17 = .ok (.aload_n 0, 1) := by decide +kernel
theorem dX11_rotationLength_18 : decode cX11_rotationLength 18 = .ok (.iload_n 2, 1) := by decide +kernel
theorem dX11_rotationLength_19 : decode cX11_rotationLength 19 = .ok (.iload_n 2, 1) := by decide +kernel
theorem dX11_rotationLength_20 : decode cX11_rotationLength 20 = .ok (.ifCond .ne 15, 3) := by decide +kernel
theorem dX11_rotationLength_23 : decode cX11_rotationLength 23 = .ok (.aload_n 0, 1) := by decide +kernel
theorem dX11_rotationLength_24 : decode cX11_rotationLength 24 = .ok (.iload_n 1, 1) := by decide +kernel
theorem dX11_rotationLength_25 : decode cX11_rotationLength 25 = .ok (.invokevirtual 208, 3) := by decide +kernel
theorem dX11_rotationLength_28 : decode cX11_rotationLength 28 = .ok (.ifCond .ne 7, 3) := by decide +kernel
theorem dX11_rotationLength_31 : decode cX11_rotationLength 31 = .ok (.iconst 1, 1) := by decide +kernel
theorem dX11_rotationLength_32 : decode cX11_rotationLength 32 = .ok (.goto 4, 3) := by decide +kernel
theorem dX11_rotationLength_36 : decode cX11_rotationLength 36 = .ok (.iconst 0, 1) := by decide +kernel
theorem dX11_rotationLength_37 : decode cX11_rotationLength 37 = .ok (.invokevirtual 128, 3) := by decide +kernel
theorem dX11_rotationLength_40 : decode cX11_rotationLength 40 = .ok (.ifCond .eq 7, 3) := by decide +kernel
theorem dX11_rotationLength_43 : decode cX11_rotationLength 43 = .ok (.iconst 0, 1) := by decide +kernel
theorem dX11_rotationLength_44 : decode cX11_rotationLength 44 = .ok (.goto 20, 3) := by decide +kernel
theorem dX11_rotationLength_64 : decode cX11_rotationLength 64 = .ok (.ireturn, 1) := by decide +kernel
theorem dX11_rotations_0 : decode cX11_rotations 0 = .ok (.aload_n 0, 1) := by decide +kernel
theorem dX11_rotations_1 : decode cX11_rotations 1 = .ok (.aload_n 0, 1) := by decide +kernel
theorem dX11_rotations_2 : decode cX11_rotations 2 = .ok (.aload_n 0, 1) := by decide +kernel
theorem dX11_rotations_3 : decode cX11_rotations 3 = .ok (.getfield 31, 3) := by decide +kernel
theorem dX11_rotations_6 : decode cX11_rotations 6 = .ok (.invokevirtual 179, 3) := by decide +kernel
theorem dX11_rotations_9 : decode cX11_rotations 9 = .ok (.ifCond .le 7, 3) := by decide +kernel
theorem dX11_rotations_16 : decode cX11_rotations 16 = .ok (.iconst 0, 1) := by decide +kernel
theorem dX11_rotations_17 : decode cX11_rotations 17 = .ok (.iconst 0, 1) := by decide +kernel
theorem dX11_rotations_18 : decode cX11_rotations 18 = .ok (.iconst 0, 1) := by decide +kernel
theorem dX11_rotations_19 : decode cX11_rotations 19 = .ok (.invokevirtual 128, 3) := by decide +kernel
theorem dX11_rotations_22 : decode cX11_rotations 22 = .ok (.ifCond .eq 7, 3) := by decide +kernel
theorem dX11_rotations_29 : decode cX11_rotations 29 = .ok (.aload_n 0, 1) := by decide +kernel
theorem dX11_rotations_30 : decode cX11_rotations 30 = .ok (.aload_n 0, 1) := by decide +kernel
theorem dX11_rotations_31 : decode cX11_rotations 31 = .ok (.getfield 31, 3) := by decide +kernel
theorem dX11_rotations_34 : decode cX11_rotations 34 = .ok (.invokevirtual 205, 3) := by decide +kernel
theorem dX11_rotations_37 : decode cX11_rotations 37 = .ok (.ireturn, 1) := by decide +kernel
theorem dX11_run_0 : decode cX11_run 0 = .ok (.aload_n 0, 1) := by decide +kernel
theorem dX11_run_1 : decode cX11_run 1 = .ok (.iload_n 1, 1) := by decide +kernel
theorem dX11_run_2 : decode cX11_run 2 = .ok (.invokestatic 124, 3) := by decide +kernel
theorem dX11_run_5 : decode cX11_run 5 = .ok (.iconst 0, 1) := by decide +kernel
theorem dX11_run_6 : decode cX11_run 6 = .ok (.iconst 1, 1) := by decide +kernel
theorem dX11_run_7 : decode cX11_run 7 = .ok (.invokestatic 78, 3) := by decide +kernel
theorem dX11_run_10 : decode cX11_run 10 = .ok (.ifCond .ne 7, 3) := by decide +kernel
theorem dX11_run_13 : decode cX11_run 13 = .ok (.iconst 1, 1) := by decide +kernel
theorem dX11_run_14 : decode cX11_run 14 = .ok (.goto 4, 3) := by decide +kernel
theorem dX11_run_17 : decode cX11_run 17 = .ok (.iconst 0, 1) := by decide +kernel
theorem dX11_run_18 : decode cX11_run 18 = .ok (.iconst 0, 1) := by decide +kernel
theorem dX11_run_19 : decode cX11_run 19 = .ok (.iconst 0, 1) := by decide +kernel
theorem dX11_run_20 : decode cX11_run 20 = .ok (.invokevirtual 128, 3) := by decide +kernel
theorem dX11_run_23 : decode cX11_run 23 = .ok (.ifCond .eq 5, 3) := by decide +kernel
theorem dX11_run_26 : decode cX11_run 26 = .ok (.iconst 0, 1) := by decide +kernel
theorem dX11_run_27 : decode cX11_run 27 = .ok (.ireturn, 1) := by decide +kernel
theorem dX11_run_28 : decode cX11_run 28 = .ok (.aload_n 0, 1) := by decide +kernel
theorem dX11_run_29 : decode cX11_run 29 = .ok (.iload_n 1, 1) := by decide +kernel
theorem dX11_run_30 : decode cX11_run 30 = .ok (.invokevirtual 164, 3) := by decide +kernel
theorem dX11_run_33 : decode cX11_run 33 = .ok (.iconst 0, 1) := by decide +kernel
theorem dX11_run_34 : decode cX11_run 34 = .ok (.istore_n 2, 1) := by decide +kernel
theorem dX11_run_35 : decode cX11_run 35 = .ok (.iload_n 2, 1) := by decide +kernel
theorem dX11_run_36 : decode cX11_run 36 = .ok (.aload_n 0, 1) := by decide +kernel
theorem dX11_run_37 : decode cX11_run 37 = .ok (.getfield 7, 3) := by decide +kernel
theorem dX11_run_40 : decode cX11_run 40 = .ok (.iload_n 1, 1) := by decide +kernel
theorem dX11_run_41 : decode cX11_run 41 = .ok (.invokestatic 124, 3) := by decide +kernel
theorem dX11_run_44 : decode cX11_run 44 = .ok (.iaload, 1) := by decide +kernel
theorem dX11_run_45 : decode cX11_run 45 = .ok (.if_icmp .ge 48, 3) := by decide +kernel
theorem dX11_run_93 : decode cX11_run 93 = .ok (.aload_n 0, 1) := by decide +kernel
theorem dX11_run_94 : decode cX11_run 94 = .ok (.getfield 162, 3) := by decide +kernel
theorem dX11_run_97 : decode cX11_run 97 = .ok (.ireturn, 1) := by decide +kernel
theorem dX11_sideOf_0 : decode cX11_sideOf 0 = .ok (.ldc 70, 2) := by decide +kernel
theorem dX11_sideOf_2 : decode cX11_sideOf 2 = .ok (.iload_n 0, 1) := by decide +kernel
theorem dX11_sideOf_3 : decode cX11_sideOf 3 = .ok (.invokevirtual 72, 3) := by decide +kernel
theorem dX11_sideOf_6 : decode cX11_sideOf 6 = .ok (.ireturn, 1) := by decide +kernel
theorem dX11_signAt_0 : decode cX11_signAt 0 = .ok (.aload_n 0, 1) := by decide +kernel
theorem dX11_signAt_1 : decode cX11_signAt 1 = .ok (.iload_n 1, 1) := by decide +kernel
theorem dX11_signAt_2 : decode cX11_signAt 2 = .ok (.iconst 0, 1) := by decide +kernel
theorem dX11_signAt_3 : decode cX11_signAt 3 = .ok (.aload_n 0, 1) := by decide +kernel
theorem dX11_signAt_4 : decode cX11_signAt 4 = .ok (.getfield 139, 3) := by decide +kernel
theorem dX11_signAt_7 : decode cX11_signAt 7 = .ok (.iconst 1, 1) := by decide +kernel
theorem dX11_signAt_8 : decode cX11_signAt 8 = .ok (.isub, 1) := by decide +kernel
theorem dX11_signAt_9 : decode cX11_signAt 9 = .ok (.invokestatic 78, 3) := by decide +kernel
theorem dX11_signAt_12 : decode cX11_signAt 12 = .ok (.ifCond .ne 7, 3) := by decide +kernel
theorem dX11_signAt_15 : decode cX11_signAt 15 = .ok (.iconst 1, 1) := by decide +kernel
theorem dX11_signAt_16 : decode cX11_signAt 16 = .ok (.goto 4, 3) := by decide +kernel
theorem dX11_signAt_20 : decode cX11_signAt 20 = .ok (.iconst 0, 1) := by decide +kernel
theorem dX11_signAt_21 : decode cX11_signAt 21 = .ok (.iconst 0, 1) := by decide +kernel
theorem dX11_signAt_22 : decode cX11_signAt 22 = .ok (.invokevirtual 128, 3) := by decide +kernel
theorem dX11_signAt_25 : decode cX11_signAt 25 = .ok (.ifCond .eq 8, 3) := by decide +kernel
theorem dX11_signAt_28 : decode cX11_signAt 28 = .ok (.bipush 32, 2) := by decide +kernel
theorem dX11_signAt_30 : decode cX11_signAt 30 = .ok (.goto 9, 3) := by decide +kernel
theorem dX11_signAt_39 : decode cX11_signAt 39 = .ok (.ireturn, 1) := by decide +kernel
theorem dX11_stableAt_0 : decode cX11_stableAt 0 = .ok (.aload_n 0, 1) := by decide +kernel
theorem dX11_stableAt_1 : decode cX11_stableAt 1 = .ok (.invokevirtual 226, 3) := by decide +kernel
theorem dX11_stableAt_4 : decode cX11_stableAt 4 = .ok (.istore_n 2, 1) := by decide +kernel
theorem dX11_stableAt_5 : decode cX11_stableAt 5 = .ok (.aload_n 0, 1) := by decide +kernel
theorem dX11_stableAt_6 : decode cX11_stableAt 6 = .ok (.iload_n 2, 1) := by decide +kernel
theorem dX11_stableAt_7 : decode cX11_stableAt 7 = .ok (.iload_n 2, 1) := by decide +kernel
theorem dX11_stableAt_8 : decode cX11_stableAt 8 = .ok (.ifCond .ne 21, 3) := by decide +kernel
theorem dX11_stableAt_11 : decode cX11_stableAt 11 = .ok (.iload_n 1, 1) := by decide +kernel
theorem dX11_stableAt_12 : decode cX11_stableAt 12 = .ok (.iconst 0, 1) := by decide +kernel
theorem dX11_stableAt_13 : decode cX11_stableAt 13 = .ok (.aload_n 0, 1) := by decide +kernel
theorem dX11_stableAt_14 : decode cX11_stableAt 14 = .ok (.getfield 215, 3) := by decide +kernel
theorem dX11_stableAt_17 : decode cX11_stableAt 17 = .ok (.iconst 1, 1) := by decide +kernel
theorem dX11_stableAt_18 : decode cX11_stableAt 18 = .ok (.isub, 1) := by decide +kernel
theorem dX11_stableAt_19 : decode cX11_stableAt 19 = .ok (.invokestatic 78, 3) := by decide +kernel
theorem dX11_stableAt_22 : decode cX11_stableAt 22 = .ok (.ifCond .ne 7, 3) := by decide +kernel
theorem dX11_stableAt_25 : decode cX11_stableAt 25 = .ok (.iconst 1, 1) := by decide +kernel
theorem dX11_stableAt_26 : decode cX11_stableAt 26 = .ok (.goto 4, 3) := by decide +kernel
theorem dX11_stableAt_29 : decode cX11_stableAt 29 = .ok (.iconst 0, 1) := by decide +kernel
theorem dX11_stableAt_30 : decode cX11_stableAt 30 = .ok (.iconst 0, 1) := by decide +kernel
theorem dX11_stableAt_31 : decode cX11_stableAt 31 = .ok (.invokevirtual 128, 3) := by decide +kernel
theorem dX11_stableAt_34 : decode cX11_stableAt 34 = .ok (.ifCond .eq 7, 3) := by decide +kernel
theorem dX11_stableAt_37 : decode cX11_stableAt 37 = .ok (.iconst 0, 1) := by decide +kernel
theorem dX11_stableAt_38 : decode cX11_stableAt 38 = .ok (.goto 8, 3) := by decide +kernel
theorem dX11_stableAt_41 : decode cX11_stableAt 41 = .ok (.aload_n 0, 1) := by decide +kernel
theorem dX11_stableAt_42 : decode cX11_stableAt 42 = .ok (.iload_n 1, 1) := by decide +kernel
theorem dX11_stableAt_43 : decode cX11_stableAt 43 = .ok (.invokevirtual 230, 3) := by decide +kernel
theorem dX11_stableAt_46 : decode cX11_stableAt 46 = .ok (.ireturn, 1) := by decide +kernel
theorem dX11_stables_0 : decode cX11_stables 0 = .ok (.aload_n 0, 1) := by decide +kernel
theorem dX11_stables_1 : decode cX11_stables 1 = .ok (.aload_n 0, 1) := by decide +kernel
theorem dX11_stables_2 : decode cX11_stables 2 = .ok (.invokevirtual 226, 3) := by decide +kernel
theorem dX11_stables_5 : decode cX11_stables 5 = .ok (.iconst 0, 1) := by decide +kernel
theorem dX11_stables_6 : decode cX11_stables 6 = .ok (.iconst 0, 1) := by decide +kernel
theorem dX11_stables_7 : decode cX11_stables 7 = .ok (.invokevirtual 128, 3) := by decide +kernel
theorem dX11_stables_10 : decode cX11_stables 10 = .ok (.ifCond .eq 7, 3) := by decide +kernel
theorem dX11_stables_17 : decode cX11_stables 17 = .ok (.aload_n 0, 1) := by decide +kernel
theorem dX11_stables_18 : decode cX11_stables 18 = .ok (.getfield 215, 3) := by decide +kernel
theorem dX11_stables_21 : decode cX11_stables 21 = .ok (.ireturn, 1) := by decide +kernel
theorem dX11_thrown_0 : decode cX11_thrown 0 = .ok (.aload_n 0, 1) := by decide +kernel
theorem dX11_thrown_1 : decode cX11_thrown 1 = .ok (.getfield 66, 3) := by decide +kernel
theorem dX11_thrown_4 : decode cX11_thrown 4 = .ok (.ireturn, 1) := by decide +kernel
theorem dX11_trade_0 : decode cX11_trade 0 = .ok (.aload_n 0, 1) := by decide +kernel
theorem dX11_trade_1 : decode cX11_trade 1 = .ok (.aload_n 0, 1) := by decide +kernel
theorem dX11_trade_2 : decode cX11_trade 2 = .ok (.getfield 7, 3) := by decide +kernel
theorem dX11_trade_5 : decode cX11_trade 5 = .ok (.iconst 0, 1) := by decide +kernel
theorem dX11_trade_6 : decode cX11_trade 6 = .ok (.iaload, 1) := by decide +kernel
theorem dX11_trade_7 : decode cX11_trade 7 = .ok (.aload_n 0, 1) := by decide +kernel
theorem dX11_trade_8 : decode cX11_trade 8 = .ok (.getfield 7, 3) := by decide +kernel
theorem dX11_trade_11 : decode cX11_trade 11 = .ok (.iconst 1, 1) := by decide +kernel
theorem dX11_trade_12 : decode cX11_trade 12 = .ok (.iaload, 1) := by decide +kernel
theorem dX11_trade_13 : decode cX11_trade 13 = .ok (.if_icmp .eq 7, 3) := by decide +kernel
theorem dX11_trade_20 : decode cX11_trade 20 = .ok (.iconst 0, 1) := by decide +kernel
theorem dX11_trade_21 : decode cX11_trade 21 = .ok (.iconst 0, 1) := by decide +kernel
theorem dX11_trade_22 : decode cX11_trade 22 = .ok (.iconst 0, 1) := by decide +kernel
theorem dX11_trade_23 : decode cX11_trade 23 = .ok (.invokevirtual 128, 3) := by decide +kernel
theorem dX11_trade_26 : decode cX11_trade 26 = .ok (.ifCond .eq 7, 3) := by decide +kernel
theorem dX11_trade_33 : decode cX11_trade 33 = .ok (.aload_n 0, 1) := by decide +kernel
theorem dX11_trade_34 : decode cX11_trade 34 = .ok (.invokevirtual 266, 3) := by decide +kernel
theorem dX11_trade_37 : decode cX11_trade 37 = .ok (.ireturn, 1) := by decide +kernel
theorem dX11_tradeOf_0 : decode cX11_tradeOf 0 = .ok (.aload_n 0, 1) := by decide +kernel
theorem dX11_tradeOf_1 : decode cX11_tradeOf 1 = .ok (.aload_n 0, 1) := by decide +kernel
theorem dX11_tradeOf_2 : decode cX11_tradeOf 2 = .ok (.iload_n 1, 1) := by decide +kernel
theorem dX11_tradeOf_3 : decode cX11_tradeOf 3 = .ok (.invokevirtual 176, 3) := by decide +kernel
theorem dX11_tradeOf_6 : decode cX11_tradeOf 6 = .ok (.ifCond .ne 7, 3) := by decide +kernel
theorem dX11_tradeOf_9 : decode cX11_tradeOf 9 = .ok (.iconst 1, 1) := by decide +kernel
theorem dX11_tradeOf_10 : decode cX11_tradeOf 10 = .ok (.goto 4, 3) := by decide +kernel
theorem dX11_tradeOf_14 : decode cX11_tradeOf 14 = .ok (.aload_n 0, 1) := by decide +kernel
theorem dX11_tradeOf_15 : decode cX11_tradeOf 15 = .ok (.getfield 7, 3) := by decide +kernel
theorem dX11_tradeOf_18 : decode cX11_tradeOf 18 = .ok (.iconst 0, 1) := by decide +kernel
theorem dX11_tradeOf_19 : decode cX11_tradeOf 19 = .ok (.iaload, 1) := by decide +kernel
theorem dX11_tradeOf_20 : decode cX11_tradeOf 20 = .ok (.aload_n 0, 1) := by decide +kernel
theorem dX11_tradeOf_21 : decode cX11_tradeOf 21 = .ok (.getfield 7, 3) := by decide +kernel
theorem dX11_tradeOf_24 : decode cX11_tradeOf 24 = .ok (.iconst 1, 1) := by decide +kernel
theorem dX11_tradeOf_25 : decode cX11_tradeOf 25 = .ok (.iaload, 1) := by decide +kernel
theorem dX11_tradeOf_26 : decode cX11_tradeOf 26 = .ok (.if_icmp .eq 7, 3) := by decide +kernel
theorem dX11_tradeOf_33 : decode cX11_tradeOf 33 = .ok (.iconst 0, 1) := by decide +kernel
theorem dX11_tradeOf_34 : decode cX11_tradeOf 34 = .ok (.iconst 0, 1) := by decide +kernel
theorem dX11_tradeOf_35 : decode cX11_tradeOf 35 = .ok (.invokevirtual 128, 3) := by decide +kernel
theorem dX11_tradeOf_38 : decode cX11_tradeOf 38 = .ok (.ifCond .eq 5, 3) := by decide +kernel
theorem dX11_tradeOf_41 : decode cX11_tradeOf 41 = .ok (.iconst 0, 1) := by decide +kernel
theorem dX11_tradeOf_42 : decode cX11_tradeOf 42 = .ok (.ireturn, 1) := by decide +kernel
theorem dX11_tradeRound_0 : decode cX11_tradeRound 0 = .ok (.aload_n 0, 1) := by decide +kernel
theorem dX11_tradeRound_1 : decode cX11_tradeRound 1 = .ok (.aload_n 0, 1) := by decide +kernel
theorem dX11_tradeRound_2 : decode cX11_tradeRound 2 = .ok (.iload_n 1, 1) := by decide +kernel
theorem dX11_tradeRound_3 : decode cX11_tradeRound 3 = .ok (.invokevirtual 176, 3) := by decide +kernel
theorem dX11_tradeRound_6 : decode cX11_tradeRound 6 = .ok (.ifCond .ne 7, 3) := by decide +kernel
theorem dX11_tradeRound_9 : decode cX11_tradeRound 9 = .ok (.iconst 1, 1) := by decide +kernel
theorem dX11_tradeRound_10 : decode cX11_tradeRound 10 = .ok (.goto 4, 3) := by decide +kernel
theorem dX11_tradeRound_14 : decode cX11_tradeRound 14 = .ok (.aload_n 0, 1) := by decide +kernel
theorem dX11_tradeRound_15 : decode cX11_tradeRound 15 = .ok (.getfield 7, 3) := by decide +kernel
theorem dX11_tradeRound_18 : decode cX11_tradeRound 18 = .ok (.iconst 0, 1) := by decide +kernel
theorem dX11_tradeRound_19 : decode cX11_tradeRound 19 = .ok (.iaload, 1) := by decide +kernel
theorem dX11_tradeRound_20 : decode cX11_tradeRound 20 = .ok (.aload_n 0, 1) := by decide +kernel
theorem dX11_tradeRound_21 : decode cX11_tradeRound 21 = .ok (.getfield 7, 3) := by decide +kernel
theorem dX11_tradeRound_24 : decode cX11_tradeRound 24 = .ok (.iconst 1, 1) := by decide +kernel
theorem dX11_tradeRound_25 : decode cX11_tradeRound 25 = .ok (.iaload, 1) := by decide +kernel
theorem dX11_tradeRound_26 : decode cX11_tradeRound 26 = .ok (.if_icmp .eq 7, 3) := by decide +kernel
theorem dX11_tradeRound_33 : decode cX11_tradeRound 33 = .ok (.iconst 0, 1) := by decide +kernel
theorem dX11_tradeRound_34 : decode cX11_tradeRound 34 = .ok (.iconst 0, 1) := by decide +kernel
theorem dX11_tradeRound_35 : decode cX11_tradeRound 35 = .ok (.invokevirtual 128, 3) := by decide +kernel
theorem dX11_tradeRound_38 : decode cX11_tradeRound 38 = .ok (.ifCond .eq 5, 3) := by decide +kernel
theorem dX11_tradeRound_41 : decode cX11_tradeRound 41 = .ok (.iconst 0, 1) := by decide +kernel
theorem dX11_tradeRound_42 : decode cX11_tradeRound 42 = .ok (.ireturn, 1) := by decide +kernel
theorem dX11_trades_0 : decode cX11_trades 0 = .ok (.iconst 0, 1) := by decide +kernel
theorem dX11_trades_1 : decode cX11_trades 1 = .ok (.istore_n 1, 1) := by decide +kernel
theorem dX11_trades_2 : decode cX11_trades 2 = .ok (.iload_n 1, 1) := by decide +kernel
theorem dX11_trades_3 : decode cX11_trades 3 = .ok (.bipush 10, 2) := by decide +kernel
theorem dX11_trades_5 : decode cX11_trades 5 = .ok (.if_icmp .ge 16, 3) := by decide +kernel
theorem dX11_trades_8 : decode cX11_trades 8 = .ok (.aload_n 0, 1) := by decide +kernel
theorem dX11_trades_9 : decode cX11_trades 9 = .ok (.getfield 60, 3) := by decide +kernel
theorem dX11_trades_12 : decode cX11_trades 12 = .ok (.iload_n 1, 1) := by decide +kernel
theorem dX11_trades_13 : decode cX11_trades 13 = .ok (.iconst 0, 1) := by decide +kernel
theorem dX11_trades_14 : decode cX11_trades 14 = .ok (.iastore, 1) := by decide +kernel
theorem dX11_trades_15 : decode cX11_trades 15 = .ok (.iinc 1 1, 3) := by decide +kernel
theorem dX11_trades_18 : decode cX11_trades 18 = .ok (.goto (-16), 3) := by decide +kernel
theorem dX11_trades_21 : decode cX11_trades 21 = .ok (.iconst 0, 1) := by decide +kernel
theorem dX11_trades_22 : decode cX11_trades 22 = .ok (.istore_n 1, 1) := by decide +kernel
theorem dX11_trades_23 : decode cX11_trades 23 = .ok (.aload_n 0, 1) := by decide +kernel
theorem dX11_trades_24 : decode cX11_trades 24 = .ok (.getfield 7, 3) := by decide +kernel
theorem dX11_trades_27 : decode cX11_trades 27 = .ok (.iconst 0, 1) := by decide +kernel
theorem dX11_trades_28 : decode cX11_trades 28 = .ok (.iaload, 1) := by decide +kernel
theorem dX11_trades_29 : decode cX11_trades 29 = .ok (.istore_n 2, 1) := by decide +kernel
theorem dX11_trades_30 : decode cX11_trades 30 = .ok (.iconst 1, 1) := by decide +kernel
theorem dX11_trades_31 : decode cX11_trades 31 = .ok (.istore_n 3, 1) := by decide +kernel
theorem dX11_trades_32 : decode cX11_trades 32 = .ok (.iload_n 2, 1) := by decide +kernel
theorem dX11_trades_33 : decode cX11_trades 33 = .ok (.ifCond .le 193, 3) := by decide +kernel
theorem dX11_trades_226 : decode cX11_trades 226 = .ok (.iload_n 1, 1) := by decide +kernel
theorem dX11_trades_227 : decode cX11_trades 227 = .ok (.ireturn, 1) := by decide +kernel
theorem dX11_turn_0 : decode cX11_turn 0 = .ok (.aload_n 0, 1) := by decide +kernel
theorem dX11_turn_1 : decode cX11_turn 1 = .ok (.aload_n 0, 1) := by decide +kernel
theorem dX11_turn_2 : decode cX11_turn 2 = .ok (.getfield 31, 3) := by decide +kernel
theorem dX11_turn_5 : decode cX11_turn 5 = .ok (.invokevirtual 179, 3) := by decide +kernel
theorem dX11_turn_8 : decode cX11_turn 8 = .ok (.ifCond .le 7, 3) := by decide +kernel
theorem dX11_turn_15 : decode cX11_turn 15 = .ok (.iconst 0, 1) := by decide +kernel
theorem dX11_turn_16 : decode cX11_turn 16 = .ok (.istore_n 2, 1) := by decide +kernel
theorem dX11_turn_17 : decode cX11_turn 17 = .ok (.aload_n 0, 1) := by decide +kernel
theorem dX11_turn_18 : decode cX11_turn 18 = .ok (.iload_n 2, 1) := by decide +kernel
theorem dX11_turn_19 : decode cX11_turn 19 = .ok (.iload_n 2, 1) := by decide +kernel
theorem dX11_turn_20 : decode cX11_turn 20 = .ok (.ifCond .ne 15, 3) := by decide +kernel
theorem dX11_turn_23 : decode cX11_turn 23 = .ok (.aload_n 0, 1) := by decide +kernel
theorem dX11_turn_24 : decode cX11_turn 24 = .ok (.iload_n 1, 1) := by decide +kernel
theorem dX11_turn_25 : decode cX11_turn 25 = .ok (.invokevirtual 208, 3) := by decide +kernel
theorem dX11_turn_28 : decode cX11_turn 28 = .ok (.ifCond .ne 7, 3) := by decide +kernel
theorem dX11_turn_31 : decode cX11_turn 31 = .ok (.iconst 1, 1) := by decide +kernel
theorem dX11_turn_32 : decode cX11_turn 32 = .ok (.goto 4, 3) := by decide +kernel
theorem dX11_turn_36 : decode cX11_turn 36 = .ok (.iconst 0, 1) := by decide +kernel
theorem dX11_turn_37 : decode cX11_turn 37 = .ok (.invokevirtual 128, 3) := by decide +kernel
theorem dX11_turn_40 : decode cX11_turn 40 = .ok (.ifCond .eq 5, 3) := by decide +kernel
theorem dX11_turn_43 : decode cX11_turn 43 = .ok (.iconst 0, 1) := by decide +kernel
theorem dX11_turn_44 : decode cX11_turn 44 = .ok (.ireturn, 1) := by decide +kernel
theorem dX11_type_0 : decode cX11_type 0 = .ok (.aload_n 0, 1) := by decide +kernel
theorem dX11_type_1 : decode cX11_type 1 = .ok (.iload_n 1, 1) := by decide +kernel
theorem dX11_type_2 : decode cX11_type 2 = .ok (.bipush 32, 2) := by decide +kernel
theorem dX11_type_4 : decode cX11_type 4 = .ok (.bipush 126, 2) := by decide +kernel
theorem dX11_type_6 : decode cX11_type 6 = .ok (.invokestatic 78, 3) := by decide +kernel
theorem dX11_type_9 : decode cX11_type 9 = .ok (.ifCond .ne 7, 3) := by decide +kernel
theorem dX11_type_12 : decode cX11_type 12 = .ok (.iconst 1, 1) := by decide +kernel
theorem dX11_type_13 : decode cX11_type 13 = .ok (.goto 4, 3) := by decide +kernel
theorem dX11_type_16 : decode cX11_type 16 = .ok (.iconst 0, 1) := by decide +kernel
theorem dX11_type_17 : decode cX11_type 17 = .ok (.aload_n 0, 1) := by decide +kernel
theorem dX11_type_18 : decode cX11_type 18 = .ok (.getfield 139, 3) := by decide +kernel
theorem dX11_type_21 : decode cX11_type 21 = .ok (.bipush 60, 2) := by decide +kernel
theorem dX11_type_23 : decode cX11_type 23 = .ok (.if_icmp .ne 7, 3) := by decide +kernel
theorem dX11_type_30 : decode cX11_type 30 = .ok (.iconst 0, 1) := by decide +kernel
theorem dX11_type_31 : decode cX11_type 31 = .ok (.iconst 0, 1) := by decide +kernel
theorem dX11_type_32 : decode cX11_type 32 = .ok (.invokevirtual 128, 3) := by decide +kernel
theorem dX11_type_35 : decode cX11_type 35 = .ok (.ifCond .eq 5, 3) := by decide +kernel
theorem dX11_type_38 : decode cX11_type 38 = .ok (.iconst 0, 1) := by decide +kernel
theorem dX11_type_39 : decode cX11_type 39 = .ok (.ireturn, 1) := by decide +kernel
theorem dX11_type_40 : decode cX11_type 40 = .ok (.aload_n 0, 1) := by decide +kernel
theorem dX11_type_41 : decode cX11_type 41 = .ok (.getfield 53, 3) := by decide +kernel
theorem dX11_type_44 : decode cX11_type 44 = .ok (.aload_n 0, 1) := by decide +kernel
theorem dX11_type_45 : decode cX11_type 45 = .ok (.getfield 139, 3) := by decide +kernel
theorem dX11_type_48 : decode cX11_type 48 = .ok (.iload_n 1, 1) := by decide +kernel
theorem dX11_type_49 : decode cX11_type 49 = .ok (.castore, 1) := by decide +kernel
theorem dX11_type_50 : decode cX11_type 50 = .ok (.aload_n 0, 1) := by decide +kernel
theorem dX11_type_51 : decode cX11_type 51 = .ok (.dup, 1) := by decide +kernel
theorem dX11_type_52 : decode cX11_type 52 = .ok (.getfield 139, 3) := by decide +kernel
theorem dX11_type_55 : decode cX11_type 55 = .ok (.iconst 1, 1) := by decide +kernel
theorem dX11_type_56 : decode cX11_type 56 = .ok (.iadd, 1) := by decide +kernel
theorem dX11_type_57 : decode cX11_type 57 = .ok (.putfield 139, 3) := by decide +kernel
theorem dX11_type_60 : decode cX11_type 60 = .ok (.aload_n 0, 1) := by decide +kernel
theorem dX11_type_61 : decode cX11_type 61 = .ok (.getfield 139, 3) := by decide +kernel
theorem dX11_type_64 : decode cX11_type 64 = .ok (.ireturn, 1) := by decide +kernel
theorem dX11_wish_0 : decode cX11_wish 0 = .ok (.iload_n 1, 1) := by decide +kernel
theorem dX11_wish_1 : decode cX11_wish 1 = .ok (.invokestatic 124, 3) := by decide +kernel
theorem dX11_wish_4 : decode cX11_wish 4 = .ok (.istore 4, 2) := by decide +kernel
theorem dX11_wish_6 : decode cX11_wish 6 = .ok (.aload_n 0, 1) := by decide +kernel
theorem dX11_wish_7 : decode cX11_wish 7 = .ok (.iload 4, 2) := by decide +kernel
theorem dX11_wish_9 : decode cX11_wish 9 = .ok (.iload_n 2, 1) := by decide +kernel
theorem dX11_wish_10 : decode cX11_wish 10 = .ok (.invokevirtual 155, 3) := by decide +kernel
theorem dX11_wish_13 : decode cX11_wish 13 = .ok (.istore 5, 2) := by decide +kernel
theorem dX11_wish_15 : decode cX11_wish 15 = .ok (.aload_n 0, 1) := by decide +kernel
theorem dX11_wish_16 : decode cX11_wish 16 = .ok (.iload 4, 2) := by decide +kernel
theorem dX11_wish_18 : decode cX11_wish 18 = .ok (.ifCond .ge 7, 3) := by decide +kernel
theorem dX11_wish_21 : decode cX11_wish 21 = .ok (.iconst 1, 1) := by decide +kernel
theorem dX11_wish_22 : decode cX11_wish 22 = .ok (.goto 4, 3) := by decide +kernel
theorem dX11_wish_25 : decode cX11_wish 25 = .ok (.iconst 0, 1) := by decide +kernel
theorem dX11_wish_26 : decode cX11_wish 26 = .ok (.iload 5, 2) := by decide +kernel
theorem dX11_wish_28 : decode cX11_wish 28 = .ok (.ifCond .ne 7, 3) := by decide +kernel
theorem dX11_wish_31 : decode cX11_wish 31 = .ok (.iconst 1, 1) := by decide +kernel
theorem dX11_wish_32 : decode cX11_wish 32 = .ok (.goto 4, 3) := by decide +kernel
theorem dX11_wish_36 : decode cX11_wish 36 = .ok (.iload 5, 2) := by decide +kernel
theorem dX11_wish_38 : decode cX11_wish 38 = .ok (.ifCond .eq 29, 3) := by decide +kernel
theorem dX11_wish_67 : decode cX11_wish 67 = .ok (.iconst 0, 1) := by decide +kernel
theorem dX11_wish_68 : decode cX11_wish 68 = .ok (.invokevirtual 128, 3) := by decide +kernel
theorem dX11_wish_71 : decode cX11_wish 71 = .ok (.ifCond .eq 7, 3) := by decide +kernel
theorem dX11_wish_74 : decode cX11_wish 74 = .ok (.iconst 0, 1) := by decide +kernel
theorem dX11_wish_75 : decode cX11_wish 75 = .ok (.goto 17, 3) := by decide +kernel
theorem dX11_wish_92 : decode cX11_wish 92 = .ok (.ireturn, 1) := by decide +kernel
theorem dX11_without_0 : decode cX11_without 0 = .ok (.aload_n 0, 1) := by decide +kernel
theorem dX11_without_1 : decode cX11_without 1 = .ok (.aload_n 0, 1) := by decide +kernel
theorem dX11_without_2 : decode cX11_without 2 = .ok (.iload_n 1, 1) := by decide +kernel
theorem dX11_without_3 : decode cX11_without 3 = .ok (.invokevirtual 176, 3) := by decide +kernel
theorem dX11_without_6 : decode cX11_without 6 = .ok (.ifCond .ne 7, 3) := by decide +kernel
theorem dX11_without_9 : decode cX11_without 9 = .ok (.iconst 1, 1) := by decide +kernel
theorem dX11_without_10 : decode cX11_without 10 = .ok (.goto 4, 3) := by decide +kernel
theorem dX11_without_14 : decode cX11_without 14 = .ok (.iconst 0, 1) := by decide +kernel
theorem dX11_without_15 : decode cX11_without 15 = .ok (.iconst 0, 1) := by decide +kernel
theorem dX11_without_16 : decode cX11_without 16 = .ok (.invokevirtual 128, 3) := by decide +kernel
theorem dX11_without_19 : decode cX11_without 19 = .ok (.ifCond .eq 7, 3) := by decide +kernel
theorem dX11_without_22 : decode cX11_without 22 = .ok (.iconst 0, 1) := by decide +kernel
theorem dX11_without_23 : decode cX11_without 23 = .ok (.goto 19, 3) := by decide +kernel
theorem dX11_without_42 : decode cX11_without 42 = .ok (.ireturn, 1) := by decide +kernel
theorem dX11_withoutHouse_0 : decode cX11_withoutHouse 0 = .ok (.aload_n 0, 1) := by decide +kernel
theorem dX11_withoutHouse_1 : decode cX11_withoutHouse 1 = .ok (.aload_n 0, 1) := by decide +kernel
theorem dX11_withoutHouse_2 : decode cX11_withoutHouse 2 = .ok (.iload_n 1, 1) := by decide +kernel
theorem dX11_withoutHouse_3 : decode cX11_withoutHouse 3 = .ok (.invokevirtual 135, 3) := by decide +kernel
theorem dX11_withoutHouse_6 : decode cX11_withoutHouse 6 = .ok (.ifCond .ne 7, 3) := by decide +kernel
theorem dX11_withoutHouse_9 : decode cX11_withoutHouse 9 = .ok (.iconst 1, 1) := by decide +kernel
theorem dX11_withoutHouse_10 : decode cX11_withoutHouse 10 = .ok (.goto 4, 3) := by decide +kernel
theorem dX11_withoutHouse_14 : decode cX11_withoutHouse 14 = .ok (.iconst 0, 1) := by decide +kernel
theorem dX11_withoutHouse_15 : decode cX11_withoutHouse 15 = .ok (.iconst 0, 1) := by decide +kernel
theorem dX11_withoutHouse_16 : decode cX11_withoutHouse 16 = .ok (.invokevirtual 128, 3) := by decide +kernel
theorem dX11_withoutHouse_19 : decode cX11_withoutHouse 19 = .ok (.ifCond .eq 7, 3) := by decide +kernel
theorem dX11_withoutHouse_22 : decode cX11_withoutHouse 22 = .ok (.iconst 0, 1) := by decide +kernel
theorem dX11_withoutHouse_23 : decode cX11_withoutHouse 23 = .ok (.goto 19, 3) := by decide +kernel
theorem dX11_withoutHouse_42 : decode cX11_withoutHouse 42 = .ok (.ireturn, 1) := by decide +kernel
theorem dX11_worth_0 : decode cX11_worth 0 = .ok (.iconst 0, 1) := by decide +kernel
theorem dX11_worth_1 : decode cX11_worth 1 = .ok (.istore_n 3, 1) := by decide +kernel
theorem dX11_worth_2 : decode cX11_worth 2 = .ok (.iconst 0, 1) := by decide +kernel
theorem dX11_worth_3 : decode cX11_worth 3 = .ok (.istore 4, 2) := by decide +kernel
theorem dX11_worth_5 : decode cX11_worth 5 = .ok (.iconst 0, 1) := by decide +kernel
theorem dX11_worth_6 : decode cX11_worth 6 = .ok (.istore 5, 2) := by decide +kernel
theorem dX11_worth_8 : decode cX11_worth 8 = .ok (.iload 5, 2) := by decide +kernel
theorem dX11_worth_10 : decode cX11_worth 10 = .ok (.aload_n 0, 1) := by decide +kernel
theorem dX11_worth_11 : decode cX11_worth 11 = .ok (.getfield 7, 3) := by decide +kernel
theorem dX11_worth_14 : decode cX11_worth 14 = .ok (.iconst 0, 1) := by decide +kernel
theorem dX11_worth_15 : decode cX11_worth 15 = .ok (.iaload, 1) := by decide +kernel
theorem dX11_worth_16 : decode cX11_worth 16 = .ok (.if_icmp .ge 65, 3) := by decide +kernel
theorem dX11_worth_81 : decode cX11_worth 81 = .ok (.iload_n 1, 1) := by decide +kernel
theorem dX11_worth_82 : decode cX11_worth 82 = .ok (.bipush 115, 2) := by decide +kernel
theorem dX11_worth_84 : decode cX11_worth 84 = .ok (.if_icmp .ne 7, 3) := by decide +kernel
theorem dX11_worth_87 : decode cX11_worth 87 = .ok (.iload_n 3, 1) := by decide +kernel
theorem dX11_worth_88 : decode cX11_worth 88 = .ok (.goto 5, 3) := by decide +kernel
theorem dX11_worth_91 : decode cX11_worth 91 = .ok (.iload 4, 2) := by decide +kernel
theorem dX11_worth_93 : decode cX11_worth 93 = .ok (.ireturn, 1) := by decide +kernel
theorem dX1_codeAt_0 : decode cX1_codeAt 0 = .ok (.iload_n 1, 1) := by decide +kernel
theorem dX1_codeAt_1 : decode cX1_codeAt 1 = .ok (.ifCond .lt 26, 3) := by decide +kernel
theorem dX1_codeAt_4 : decode cX1_codeAt 4 = .ok (.iload_n 1, 1) := by decide +kernel
theorem dX1_codeAt_5 : decode cX1_codeAt 5 = .ok (.aload_n 0, 1) := by decide +kernel
theorem dX1_codeAt_6 : decode cX1_codeAt 6 = .ok (.getfield 22, 3) := by decide +kernel
theorem dX1_codeAt_9 : decode cX1_codeAt 9 = .ok (.if_icmp .ge 18, 3) := by decide +kernel
theorem dX1_codeAt_12 : decode cX1_codeAt 12 = .ok (.iload_n 1, 1) := by decide +kernel
theorem dX1_codeAt_13 : decode cX1_codeAt 13 = .ok (.bipush 60, 2) := by decide +kernel
theorem dX1_codeAt_15 : decode cX1_codeAt 15 = .ok (.if_icmp .gt 12, 3) := by decide +kernel
theorem dX1_codeAt_18 : decode cX1_codeAt 18 = .ok (.aload_n 0, 1) := by decide +kernel
theorem dX1_codeAt_19 : decode cX1_codeAt 19 = .ok (.getfield 9, 3) := by decide +kernel
theorem dX1_codeAt_22 : decode cX1_codeAt 22 = .ok (.iload_n 1, 1) := by decide +kernel
theorem dX1_codeAt_23 : decode cX1_codeAt 23 = .ok (.laload, 1) := by decide +kernel
theorem dX1_codeAt_24 : decode cX1_codeAt 24 = .ok (.goto 4, 3) := by decide +kernel
theorem dX1_codeAt_28 : decode cX1_codeAt 28 = .ok (.lreturn, 1) := by decide +kernel
theorem dX1_gather_0 : decode cX1_gather 0 = .ok (.aload_n 1, 1) := by decide +kernel
theorem dX1_gather_1 : decode cX1_gather 1 = .ok (.getfield 26, 3) := by decide +kernel
theorem dX1_gather_4 : decode cX1_gather 4 = .ok (.getfield 32, 3) := by decide +kernel
theorem dX1_gather_7 : decode cX1_gather 7 = .ok (.istore 4, 2) := by decide +kernel
theorem dX1_gather_9 : decode cX1_gather 9 = .ok (.aload_n 0, 1) := by decide +kernel
theorem dX1_gather_10 : decode cX1_gather 10 = .ok (.iconst 0, 1) := by decide +kernel
theorem dX1_gather_11 : decode cX1_gather 11 = .ok (.putfield 22, 3) := by decide +kernel
theorem dX1_gather_14 : decode cX1_gather 14 = .ok (.aload_n 0, 1) := by decide +kernel
theorem dX1_gather_15 : decode cX1_gather 15 = .ok (.aload_n 2, 1) := by decide +kernel
theorem dX1_gather_16 : decode cX1_gather 16 = .ok (.iload 4, 2) := by decide +kernel
theorem dX1_gather_18 : decode cX1_gather 18 = .ok (.invokevirtual 35, 3) := by decide +kernel
theorem dX1_gather_21 : decode cX1_gather 21 = .ok (.invokevirtual 39, 3) := by decide +kernel
theorem dX1_gather_24 : decode cX1_gather 24 = .ok (.iconst 0, 1) := by decide +kernel
theorem dX1_gather_25 : decode cX1_gather 25 = .ok (.istore 5, 2) := by decide +kernel
theorem dX1_gather_27 : decode cX1_gather 27 = .ok (.iload 5, 2) := by decide +kernel
theorem dX1_gather_29 : decode cX1_gather 29 = .ok (.aload_n 0, 1) := by decide +kernel
theorem dX1_gather_30 : decode cX1_gather 30 = .ok (.getfield 22, 3) := by decide +kernel
theorem dX1_gather_33 : decode cX1_gather 33 = .ok (.if_icmp .ge 108, 3) := by decide +kernel
theorem dX1_gather_36 : decode cX1_gather 36 = .ok (.iload 5, 2) := by decide +kernel
theorem dX1_gather_38 : decode cX1_gather 38 = .ok (.bipush 60, 2) := by decide +kernel
theorem dX1_gather_40 : decode cX1_gather 40 = .ok (.if_icmp .gt 101, 3) := by decide +kernel
theorem dX1_gather_43 : decode cX1_gather 43 = .ok (.aload_n 0, 1) := by decide +kernel
theorem dX1_gather_44 : decode cX1_gather 44 = .ok (.getfield 18, 3) := by decide +kernel
theorem dX1_gather_47 : decode cX1_gather 47 = .ok (.aload_n 0, 1) := by decide +kernel
theorem dX1_gather_48 : decode cX1_gather 48 = .ok (.getfield 9, 3) := by decide +kernel
theorem dX1_gather_51 : decode cX1_gather 51 = .ok (.iload 5, 2) := by decide +kernel
theorem dX1_gather_53 : decode cX1_gather 53 = .ok (.laload, 1) := by decide +kernel
theorem dX1_gather_54 : decode cX1_gather 54 = .ok (.iload 4, 2) := by decide +kernel
theorem dX1_gather_56 : decode cX1_gather 56 = .ok (.invokevirtual 43, 3) := by decide +kernel
theorem dX1_gather_59 : decode cX1_gather 59 = .ok (.aload_n 3, 1) := by decide +kernel
theorem dX1_gather_60 : decode cX1_gather 60 = .ok (.aload_n 1, 1) := by decide +kernel
theorem dX1_gather_61 : decode cX1_gather 61 = .ok (.aload_n 0, 1) := by decide +kernel
theorem dX1_gather_62 : decode cX1_gather 62 = .ok (.getfield 18, 3) := by decide +kernel
theorem dX1_gather_65 : decode cX1_gather 65 = .ok (.invokevirtual 47, 3) := by decide +kernel
theorem dX1_gather_68 : decode cX1_gather 68 = .ok (.iconst 0, 1) := by decide +kernel
theorem dX1_gather_69 : decode cX1_gather 69 = .ok (.istore 6, 2) := by decide +kernel
theorem dX1_gather_71 : decode cX1_gather 71 = .ok (.iload 6, 2) := by decide +kernel
theorem dX1_gather_73 : decode cX1_gather 73 = .ok (.aload_n 3, 1) := by decide +kernel
theorem dX1_gather_74 : decode cX1_gather 74 = .ok (.getfield 53, 3) := by decide +kernel
theorem dX1_gather_77 : decode cX1_gather 77 = .ok (.if_icmp .ge 48, 3) := by decide +kernel
theorem dX1_gather_125 : decode cX1_gather 125 = .ok (.aload_n 0, 1) := by decide +kernel
theorem dX1_gather_126 : decode cX1_gather 126 = .ok (.getfield 22, 3) := by decide +kernel
theorem dX1_gather_129 : decode cX1_gather 129 = .ok (.bipush 60, 2) := by decide +kernel
theorem dX1_gather_131 : decode cX1_gather 131 = .ok (.if_icmp .le 4, 3) := by decide +kernel
theorem dX1_gather_135 : decode cX1_gather 135 = .ok (.iinc 5 1, 3) := by decide +kernel
theorem dX1_gather_138 : decode cX1_gather 138 = .ok (.goto (-111), 3) := by decide +kernel
theorem dX1_gather_141 : decode cX1_gather 141 = .ok (.aload_n 0, 1) := by decide +kernel
theorem dX1_gather_142 : decode cX1_gather 142 = .ok (.invokevirtual 58, 3) := by decide +kernel
theorem dX1_gather_145 : decode cX1_gather 145 = .ok (.return_, 1) := by decide +kernel
theorem dX1_init_0 : decode cX1_init 0 = .ok (.aload_n 0, 1) := by decide +kernel
theorem dX1_init_1 : decode cX1_init 1 = .ok (.invokespecial 3, 3) := by decide +kernel
theorem dX1_init_4 : decode cX1_init 4 = .ok (.aload_n 0, 1) := by decide +kernel
theorem dX1_init_5 : decode cX1_init 5 = .ok (.bipush 61, 2) := by decide +kernel
theorem dX1_init_7 : decode cX1_init 7 = .ok (.newarray .long, 2) := by decide +kernel
theorem dX1_init_9 : decode cX1_init 9 = .ok (.putfield 9, 3) := by decide +kernel
theorem dX1_init_12 : decode cX1_init 12 = .ok (.aload_n 0, 1) := by decide +kernel
theorem dX1_init_13 : decode cX1_init 13 = .ok (.new 15, 3) := by decide +kernel
theorem dX1_init_16 : decode cX1_init 16 = .ok (.dup, 1) := by decide +kernel
theorem dX1_init_17 : decode cX1_init 17 = .ok (.invokespecial 17, 3) := by decide +kernel
theorem dX1_init_20 : decode cX1_init 20 = .ok (.putfield 18, 3) := by decide +kernel
theorem dX1_init_23 : decode cX1_init 23 = .ok (.return_, 1) := by decide +kernel
theorem dX1_note_0 : decode cX1_note 0 = .ok (.iconst 0, 1) := by decide +kernel
theorem dX1_note_1 : decode cX1_note 1 = .ok (.istore_n 3, 1) := by decide +kernel
theorem dX1_note_2 : decode cX1_note 2 = .ok (.iload_n 3, 1) := by decide +kernel
theorem dX1_note_3 : decode cX1_note 3 = .ok (.aload_n 0, 1) := by decide +kernel
theorem dX1_note_4 : decode cX1_note 4 = .ok (.getfield 22, 3) := by decide +kernel
theorem dX1_note_7 : decode cX1_note 7 = .ok (.if_icmp .ge 27, 3) := by decide +kernel
theorem dX1_note_34 : decode cX1_note 34 = .ok (.aload_n 0, 1) := by decide +kernel
theorem dX1_note_35 : decode cX1_note 35 = .ok (.getfield 22, 3) := by decide +kernel
theorem dX1_note_38 : decode cX1_note 38 = .ok (.ifCond .lt 32, 3) := by decide +kernel
theorem dX1_note_41 : decode cX1_note 41 = .ok (.aload_n 0, 1) := by decide +kernel
theorem dX1_note_42 : decode cX1_note 42 = .ok (.getfield 22, 3) := by decide +kernel
theorem dX1_note_45 : decode cX1_note 45 = .ok (.bipush 60, 2) := by decide +kernel
theorem dX1_note_47 : decode cX1_note 47 = .ok (.if_icmp .gt 23, 3) := by decide +kernel
theorem dX1_note_50 : decode cX1_note 50 = .ok (.aload_n 0, 1) := by decide +kernel
theorem dX1_note_51 : decode cX1_note 51 = .ok (.getfield 9, 3) := by decide +kernel
theorem dX1_note_54 : decode cX1_note 54 = .ok (.aload_n 0, 1) := by decide +kernel
theorem dX1_note_55 : decode cX1_note 55 = .ok (.getfield 22, 3) := by decide +kernel
theorem dX1_note_58 : decode cX1_note 58 = .ok (.lload_n 1, 1) := by decide +kernel
theorem dX1_note_59 : decode cX1_note 59 = .ok (.lastore, 1) := by decide +kernel
theorem dX1_note_60 : decode cX1_note 60 = .ok (.aload_n 0, 1) := by decide +kernel
theorem dX1_note_61 : decode cX1_note 61 = .ok (.dup, 1) := by decide +kernel
theorem dX1_note_62 : decode cX1_note 62 = .ok (.getfield 22, 3) := by decide +kernel
theorem dX1_note_65 : decode cX1_note 65 = .ok (.iconst 1, 1) := by decide +kernel
theorem dX1_note_66 : decode cX1_note 66 = .ok (.iadd, 1) := by decide +kernel
theorem dX1_note_67 : decode cX1_note 67 = .ok (.putfield 22, 3) := by decide +kernel
theorem dX1_note_70 : decode cX1_note 70 = .ok (.return_, 1) := by decide +kernel
theorem dX1_sort_0 : decode cX1_sort 0 = .ok (.iconst 1, 1) := by decide +kernel
theorem dX1_sort_1 : decode cX1_sort 1 = .ok (.istore_n 1, 1) := by decide +kernel
theorem dX1_sort_2 : decode cX1_sort 2 = .ok (.iload_n 1, 1) := by decide +kernel
theorem dX1_sort_3 : decode cX1_sort 3 = .ok (.aload_n 0, 1) := by decide +kernel
theorem dX1_sort_4 : decode cX1_sort 4 = .ok (.getfield 22, 3) := by decide +kernel
theorem dX1_sort_7 : decode cX1_sort 7 = .ok (.if_icmp .ge 74, 3) := by decide +kernel
theorem dX1_sort_81 : decode cX1_sort 81 = .ok (.return_, 1) := by decide +kernel
theorem dX2_addTo_0 : decode cX2_addTo 0 = .ok (.lload_n 1, 1) := by decide +kernel
theorem dX2_addTo_1 : decode cX2_addTo 1 = .ok (.lstore_n 3, 1) := by decide +kernel
theorem dX2_addTo_2 : decode cX2_addTo 2 = .ok (.iconst 0, 1) := by decide +kernel
theorem dX2_addTo_3 : decode cX2_addTo 3 = .ok (.istore 5, 2) := by decide +kernel
theorem dX2_addTo_5 : decode cX2_addTo 5 = .ok (.iload 5, 2) := by decide +kernel
theorem dX2_addTo_7 : decode cX2_addTo 7 = .ok (.aload_n 0, 1) := by decide +kernel
theorem dX2_addTo_8 : decode cX2_addTo 8 = .ok (.getfield 21, 3) := by decide +kernel
theorem dX2_addTo_11 : decode cX2_addTo 11 = .ok (.if_icmp .ge 59, 3) := by decide +kernel
theorem dX2_addTo_70 : decode cX2_addTo 70 = .ok (.lload_n 3, 1) := by decide +kernel
theorem dX2_addTo_71 : decode cX2_addTo 71 = .ok (.lreturn, 1) := by decide +kernel
theorem dX2_grow_0 : decode cX2_grow 0 = .ok (.aload_n 0, 1) := by decide +kernel
theorem dX2_grow_1 : decode cX2_grow 1 = .ok (.getfield 21, 3) := by decide +kernel
theorem dX2_grow_4 : decode cX2_grow 4 = .ok (.bipush 10, 2) := by decide +kernel
theorem dX2_grow_6 : decode cX2_grow 6 = .ok (.if_icmp .ge 13, 3) := by decide +kernel
theorem dX2_grow_9 : decode cX2_grow 9 = .ok (.aload_n 0, 1) := by decide +kernel
theorem dX2_grow_10 : decode cX2_grow 10 = .ok (.dup, 1) := by decide +kernel
theorem dX2_grow_11 : decode cX2_grow 11 = .ok (.getfield 21, 3) := by decide +kernel
theorem dX2_grow_14 : decode cX2_grow 14 = .ok (.iconst 1, 1) := by decide +kernel
theorem dX2_grow_15 : decode cX2_grow 15 = .ok (.iadd, 1) := by decide +kernel
theorem dX2_grow_16 : decode cX2_grow 16 = .ok (.putfield 21, 3) := by decide +kernel
theorem dX2_grow_19 : decode cX2_grow 19 = .ok (.return_, 1) := by decide +kernel
theorem dX2_has_0 : decode cX2_has 0 = .ok (.iload_n 1, 1) := by decide +kernel
theorem dX2_has_1 : decode cX2_has 1 = .ok (.ifCond .lt 21, 3) := by decide +kernel
theorem dX2_has_4 : decode cX2_has 4 = .ok (.iload_n 1, 1) := by decide +kernel
theorem dX2_has_5 : decode cX2_has 5 = .ok (.aload_n 0, 1) := by decide +kernel
theorem dX2_has_6 : decode cX2_has 6 = .ok (.getfield 21, 3) := by decide +kernel
theorem dX2_has_9 : decode cX2_has 9 = .ok (.if_icmp .ge 13, 3) := by decide +kernel
theorem dX2_has_22 : decode cX2_has 22 = .ok (.iconst 0, 1) := by decide +kernel
theorem dX2_has_23 : decode cX2_has 23 = .ok (.ireturn, 1) := by decide +kernel
theorem dX2_init_0 : decode cX2_init 0 = .ok (.aload_n 0, 1) := by decide +kernel
theorem dX2_init_1 : decode cX2_init 1 = .ok (.invokespecial 3, 3) := by decide +kernel
theorem dX2_init_4 : decode cX2_init 4 = .ok (.aload_n 0, 1) := by decide +kernel
theorem dX2_init_5 : decode cX2_init 5 = .ok (.bipush 10, 2) := by decide +kernel
theorem dX2_init_7 : decode cX2_init 7 = .ok (.newarray .int, 2) := by decide +kernel
theorem dX2_init_9 : decode cX2_init 9 = .ok (.putfield 9, 3) := by decide +kernel
theorem dX2_init_12 : decode cX2_init 12 = .ok (.aload_n 0, 1) := by decide +kernel
theorem dX2_init_13 : decode cX2_init 13 = .ok (.bipush 100, 2) := by decide +kernel
theorem dX2_init_15 : decode cX2_init 15 = .ok (.newarray .int, 2) := by decide +kernel
theorem dX2_init_17 : decode cX2_init 17 = .ok (.putfield 15, 3) := by decide +kernel
theorem dX2_init_20 : decode cX2_init 20 = .ok (.aload_n 0, 1) := by decide +kernel
theorem dX2_init_21 : decode cX2_init 21 = .ok (.bipush 100, 2) := by decide +kernel
theorem dX2_init_23 : decode cX2_init 23 = .ok (.newarray .int, 2) := by decide +kernel
theorem dX2_init_25 : decode cX2_init 25 = .ok (.putfield 18, 3) := by decide +kernel
theorem dX2_init_28 : decode cX2_init 28 = .ok (.return_, 1) := by decide +kernel
theorem dX2_placeOf_0 : decode cX2_placeOf 0 = .ok (.iload_n 1, 1) := by decide +kernel
theorem dX2_placeOf_1 : decode cX2_placeOf 1 = .ok (.ifCond .lt 27, 3) := by decide +kernel
theorem dX2_placeOf_4 : decode cX2_placeOf 4 = .ok (.iload_n 1, 1) := by decide +kernel
theorem dX2_placeOf_5 : decode cX2_placeOf 5 = .ok (.aload_n 0, 1) := by decide +kernel
theorem dX2_placeOf_6 : decode cX2_placeOf 6 = .ok (.getfield 21, 3) := by decide +kernel
theorem dX2_placeOf_9 : decode cX2_placeOf 9 = .ok (.if_icmp .ge 19, 3) := by decide +kernel
theorem dX2_placeOf_28 : decode cX2_placeOf 28 = .ok (.iconst (-1), 1) := by decide +kernel
theorem dX2_placeOf_29 : decode cX2_placeOf 29 = .ok (.ireturn, 1) := by decide +kernel
theorem dX2_sizeOf_0 : decode cX2_sizeOf 0 = .ok (.iload_n 1, 1) := by decide +kernel
theorem dX2_sizeOf_1 : decode cX2_sizeOf 1 = .ok (.ifCond .lt 26, 3) := by decide +kernel
theorem dX2_sizeOf_4 : decode cX2_sizeOf 4 = .ok (.iload_n 1, 1) := by decide +kernel
theorem dX2_sizeOf_5 : decode cX2_sizeOf 5 = .ok (.aload_n 0, 1) := by decide +kernel
theorem dX2_sizeOf_6 : decode cX2_sizeOf 6 = .ok (.getfield 21, 3) := by decide +kernel
theorem dX2_sizeOf_9 : decode cX2_sizeOf 9 = .ok (.if_icmp .ge 18, 3) := by decide +kernel
theorem dX2_sizeOf_27 : decode cX2_sizeOf 27 = .ok (.iconst 0, 1) := by decide +kernel
theorem dX2_sizeOf_28 : decode cX2_sizeOf 28 = .ok (.ireturn, 1) := by decide +kernel
theorem dX3_areMutual_0 : decode cX3_areMutual 0 = .ok (.aload_n 0, 1) := by decide +kernel
theorem dX3_areMutual_1 : decode cX3_areMutual 1 = .ok (.getfield 12, 3) := by decide +kernel
theorem dX3_areMutual_4 : decode cX3_areMutual 4 = .ok (.iload_n 1, 1) := by decide +kernel
theorem dX3_areMutual_5 : decode cX3_areMutual 5 = .ok (.iload_n 2, 1) := by decide +kernel
theorem dX3_areMutual_6 : decode cX3_areMutual 6 = .ok (.invokevirtual 25, 3) := by decide +kernel
theorem dX3_areMutual_9 : decode cX3_areMutual 9 = .ok (.iconst (-1), 1) := by decide +kernel
theorem dX3_areMutual_10 : decode cX3_areMutual 10 = .ok (.if_icmp .eq 20, 3) := by decide +kernel
theorem dX3_areMutual_30 : decode cX3_areMutual 30 = .ok (.iconst 0, 1) := by decide +kernel
theorem dX3_areMutual_31 : decode cX3_areMutual 31 = .ok (.ireturn, 1) := by decide +kernel
theorem dX3_init_0 : decode cX3_init 0 = .ok (.aload_n 0, 1) := by decide +kernel
theorem dX3_init_1 : decode cX3_init 1 = .ok (.invokespecial 3, 3) := by decide +kernel
theorem dX3_init_4 : decode cX3_init 4 = .ok (.aload_n 0, 1) := by decide +kernel
theorem dX3_init_5 : decode cX3_init 5 = .ok (.new 9, 3) := by decide +kernel
theorem dX3_init_8 : decode cX3_init 8 = .ok (.dup, 1) := by decide +kernel
theorem dX3_init_9 : decode cX3_init 9 = .ok (.invokespecial 11, 3) := by decide +kernel
theorem dX3_init_12 : decode cX3_init 12 = .ok (.putfield 12, 3) := by decide +kernel
theorem dX3_init_15 : decode cX3_init 15 = .ok (.aload_n 0, 1) := by decide +kernel
theorem dX3_init_16 : decode cX3_init 16 = .ok (.new 9, 3) := by decide +kernel
theorem dX3_init_19 : decode cX3_init 19 = .ok (.dup, 1) := by decide +kernel
theorem dX3_init_20 : decode cX3_init 20 = .ok (.invokespecial 11, 3) := by decide +kernel
theorem dX3_init_23 : decode cX3_init 23 = .ok (.putfield 18, 3) := by decide +kernel
theorem dX3_init_26 : decode cX3_init 26 = .ok (.aload_n 0, 1) := by decide +kernel
theorem dX3_init_27 : decode cX3_init 27 = .ok (.bipush 10, 2) := by decide +kernel
theorem dX3_init_29 : decode cX3_init 29 = .ok (.newarray .int, 2) := by decide +kernel
theorem dX3_init_31 : decode cX3_init 31 = .ok (.putfield 21, 3) := by decide +kernel
theorem dX3_init_34 : decode cX3_init 34 = .ok (.iconst 0, 1) := by decide +kernel
theorem dX3_init_35 : decode cX3_init 35 = .ok (.istore_n 1, 1) := by decide +kernel
theorem dX3_init_36 : decode cX3_init 36 = .ok (.iload_n 1, 1) := by decide +kernel
theorem dX3_init_37 : decode cX3_init 37 = .ok (.bipush 10, 2) := by decide +kernel
theorem dX3_init_39 : decode cX3_init 39 = .ok (.if_icmp .ge 16, 3) := by decide +kernel
theorem dX3_init_42 : decode cX3_init 42 = .ok (.aload_n 0, 1) := by decide +kernel
theorem dX3_init_43 : decode cX3_init 43 = .ok (.getfield 21, 3) := by decide +kernel
theorem dX3_init_46 : decode cX3_init 46 = .ok (.iload_n 1, 1) := by decide +kernel
theorem dX3_init_47 : decode cX3_init 47 = .ok (.iconst 1, 1) := by decide +kernel
theorem dX3_init_48 : decode cX3_init 48 = .ok (.iastore, 1) := by decide +kernel
theorem dX3_init_49 : decode cX3_init 49 = .ok (.iinc 1 1, 3) := by decide +kernel
theorem dX3_init_52 : decode cX3_init 52 = .ok (.goto (-16), 3) := by decide +kernel
theorem dX3_init_55 : decode cX3_init 55 = .ok (.return_, 1) := by decide +kernel
theorem dX3_placesOf_0 : decode cX3_placesOf 0 = .ok (.iload_n 1, 1) := by decide +kernel
theorem dX3_placesOf_1 : decode cX3_placesOf 1 = .ok (.ifCond .lt 18, 3) := by decide +kernel
theorem dX3_placesOf_4 : decode cX3_placesOf 4 = .ok (.iload_n 1, 1) := by decide +kernel
theorem dX3_placesOf_5 : decode cX3_placesOf 5 = .ok (.bipush 10, 2) := by decide +kernel
theorem dX3_placesOf_7 : decode cX3_placesOf 7 = .ok (.if_icmp .ge 12, 3) := by decide +kernel
theorem dX3_placesOf_10 : decode cX3_placesOf 10 = .ok (.aload_n 0, 1) := by decide +kernel
theorem dX3_placesOf_11 : decode cX3_placesOf 11 = .ok (.getfield 21, 3) := by decide +kernel
theorem dX3_placesOf_14 : decode cX3_placesOf 14 = .ok (.iload_n 1, 1) := by decide +kernel
theorem dX3_placesOf_15 : decode cX3_placesOf 15 = .ok (.iaload, 1) := by decide +kernel
theorem dX3_placesOf_16 : decode cX3_placesOf 16 = .ok (.goto 4, 3) := by decide +kernel
theorem dX3_placesOf_19 : decode cX3_placesOf 19 = .ok (.iconst 1, 1) := by decide +kernel
theorem dX3_placesOf_20 : decode cX3_placesOf 20 = .ok (.ireturn, 1) := by decide +kernel
theorem dX4_canMake_0 : decode cX4_canMake 0 = .ok (.iload_n 3, 1) := by decide +kernel
theorem dX4_canMake_1 : decode cX4_canMake 1 = .ok (.ifCond .lt 27, 3) := by decide +kernel
theorem dX4_canMake_4 : decode cX4_canMake 4 = .ok (.iload_n 3, 1) := by decide +kernel
theorem dX4_canMake_5 : decode cX4_canMake 5 = .ok (.bipush 10, 2) := by decide +kernel
theorem dX4_canMake_7 : decode cX4_canMake 7 = .ok (.if_icmp .ge 21, 3) := by decide +kernel
theorem dX4_canMake_10 : decode cX4_canMake 10 = .ok (.aload_n 0, 1) := by decide +kernel
theorem dX4_canMake_11 : decode cX4_canMake 11 = .ok (.getfield 9, 3) := by decide +kernel
theorem dX4_canMake_14 : decode cX4_canMake 14 = .ok (.iload_n 3, 1) := by decide +kernel
theorem dX4_canMake_15 : decode cX4_canMake 15 = .ok (.iaload, 1) := by decide +kernel
theorem dX4_canMake_16 : decode cX4_canMake 16 = .ok (.aload_n 0, 1) := by decide +kernel
theorem dX4_canMake_17 : decode cX4_canMake 17 = .ok (.aload_n 1, 1) := by decide +kernel
theorem dX4_canMake_18 : decode cX4_canMake 18 = .ok (.invokevirtual 48, 3) := by decide +kernel
theorem dX4_canMake_21 : decode cX4_canMake 21 = .ok (.iload_n 3, 1) := by decide +kernel
theorem dX4_canMake_22 : decode cX4_canMake 22 = .ok (.invokevirtual 52, 3) := by decide +kernel
theorem dX4_canMake_25 : decode cX4_canMake 25 = .ok (.if_icmp .lt 5, 3) := by decide +kernel
theorem dX4_canMake_28 : decode cX4_canMake 28 = .ok (.iconst 0, 1) := by decide +kernel
theorem dX4_canMake_29 : decode cX4_canMake 29 = .ok (.ireturn, 1) := by decide +kernel
theorem dX4_chooseAble_0 : decode cX4_chooseAble 0 = .ok (.iconst 0, 1) := by decide +kernel
theorem dX4_chooseAble_1 : decode cX4_chooseAble 1 = .ok (.istore 4, 2) := by decide +kernel
theorem dX4_chooseAble_3 : decode cX4_chooseAble 3 = .ok (.iload 4, 2) := by decide +kernel
theorem dX4_chooseAble_5 : decode cX4_chooseAble 5 = .ok (.bipush 10, 2) := by decide +kernel
theorem dX4_chooseAble_7 : decode cX4_chooseAble 7 = .ok (.if_icmp .ge 39, 3) := by decide +kernel
theorem dX4_chooseAble_10 : decode cX4_chooseAble 10 = .ok (.iload_n 3, 1) := by decide +kernel
theorem dX4_chooseAble_11 : decode cX4_chooseAble 11 = .ok (.ifCond .eq 11, 3) := by decide +kernel
theorem dX4_chooseAble_14 : decode cX4_chooseAble 14 = .ok (.bipush 9, 2) := by decide +kernel
theorem dX4_chooseAble_16 : decode cX4_chooseAble 16 = .ok (.iload 4, 2) := by decide +kernel
theorem dX4_chooseAble_18 : decode cX4_chooseAble 18 = .ok (.isub, 1) := by decide +kernel
theorem dX4_chooseAble_19 : decode cX4_chooseAble 19 = .ok (.goto 5, 3) := by decide +kernel
theorem dX4_chooseAble_22 : decode cX4_chooseAble 22 = .ok (.iload 4, 2) := by decide +kernel
theorem dX4_chooseAble_24 : decode cX4_chooseAble 24 = .ok (.istore 5, 2) := by decide +kernel
theorem dX4_chooseAble_26 : decode cX4_chooseAble 26 = .ok (.aload_n 0, 1) := by decide +kernel
theorem dX4_chooseAble_27 : decode cX4_chooseAble 27 = .ok (.aload_n 1, 1) := by decide +kernel
theorem dX4_chooseAble_28 : decode cX4_chooseAble 28 = .ok (.aload_n 2, 1) := by decide +kernel
theorem dX4_chooseAble_29 : decode cX4_chooseAble 29 = .ok (.iload 5, 2) := by decide +kernel
theorem dX4_chooseAble_31 : decode cX4_chooseAble 31 = .ok (.invokevirtual 67, 3) := by decide +kernel
theorem dX4_chooseAble_34 : decode cX4_chooseAble 34 = .ok (.ifCond .eq 6, 3) := by decide +kernel
theorem dX4_chooseAble_40 : decode cX4_chooseAble 40 = .ok (.iinc 4 1, 3) := by decide +kernel
theorem dX4_chooseAble_43 : decode cX4_chooseAble 43 = .ok (.goto (-40), 3) := by decide +kernel
theorem dX4_chooseAble_46 : decode cX4_chooseAble 46 = .ok (.iconst (-1), 1) := by decide +kernel
theorem dX4_chooseAble_47 : decode cX4_chooseAble 47 = .ok (.ireturn, 1) := by decide +kernel
theorem dX4_countAble_0 : decode cX4_countAble 0 = .ok (.iconst 0, 1) := by decide +kernel
theorem dX4_countAble_1 : decode cX4_countAble 1 = .ok (.istore_n 3, 1) := by decide +kernel
theorem dX4_countAble_2 : decode cX4_countAble 2 = .ok (.iconst 0, 1) := by decide +kernel
theorem dX4_countAble_3 : decode cX4_countAble 3 = .ok (.istore 4, 2) := by decide +kernel
theorem dX4_countAble_5 : decode cX4_countAble 5 = .ok (.iload 4, 2) := by decide +kernel
theorem dX4_countAble_7 : decode cX4_countAble 7 = .ok (.bipush 10, 2) := by decide +kernel
theorem dX4_countAble_9 : decode cX4_countAble 9 = .ok (.if_icmp .ge 23, 3) := by decide +kernel
theorem dX4_countAble_12 : decode cX4_countAble 12 = .ok (.aload_n 0, 1) := by decide +kernel
theorem dX4_countAble_13 : decode cX4_countAble 13 = .ok (.aload_n 1, 1) := by decide +kernel
theorem dX4_countAble_14 : decode cX4_countAble 14 = .ok (.aload_n 2, 1) := by decide +kernel
theorem dX4_countAble_15 : decode cX4_countAble 15 = .ok (.iload 4, 2) := by decide +kernel
theorem dX4_countAble_17 : decode cX4_countAble 17 = .ok (.invokevirtual 67, 3) := by decide +kernel
theorem dX4_countAble_20 : decode cX4_countAble 20 = .ok (.ifCond .eq 6, 3) := by decide +kernel
theorem dX4_countAble_26 : decode cX4_countAble 26 = .ok (.iinc 4 1, 3) := by decide +kernel
theorem dX4_countAble_29 : decode cX4_countAble 29 = .ok (.goto (-24), 3) := by decide +kernel
theorem dX4_countAble_32 : decode cX4_countAble 32 = .ok (.iload_n 3, 1) := by decide +kernel
theorem dX4_countAble_33 : decode cX4_countAble 33 = .ok (.ireturn, 1) := by decide +kernel
theorem dX4_end_0 : decode cX4_end 0 = .ok (.aload_n 0, 1) := by decide +kernel
theorem dX4_end_1 : decode cX4_end 1 = .ok (.iconst 0, 1) := by decide +kernel
theorem dX4_end_2 : decode cX4_end 2 = .ok (.putfield 22, 3) := by decide +kernel
theorem dX4_end_5 : decode cX4_end 5 = .ok (.return_, 1) := by decide +kernel
theorem dX4_init_0 : decode cX4_init 0 = .ok (.aload_n 0, 1) := by decide +kernel
theorem dX4_init_1 : decode cX4_init 1 = .ok (.invokespecial 3, 3) := by decide +kernel
theorem dX4_init_4 : decode cX4_init 4 = .ok (.aload_n 0, 1) := by decide +kernel
theorem dX4_init_5 : decode cX4_init 5 = .ok (.bipush 10, 2) := by decide +kernel
theorem dX4_init_7 : decode cX4_init 7 = .ok (.newarray .int, 2) := by decide +kernel
theorem dX4_init_9 : decode cX4_init 9 = .ok (.putfield 9, 3) := by decide +kernel
theorem dX4_init_12 : decode cX4_init 12 = .ok (.aload_n 0, 1) := by decide +kernel
theorem dX4_init_13 : decode cX4_init 13 = .ok (.bipush 100, 2) := by decide +kernel
theorem dX4_init_15 : decode cX4_init 15 = .ok (.newarray .int, 2) := by decide +kernel
theorem dX4_init_17 : decode cX4_init 17 = .ok (.putfield 15, 3) := by decide +kernel
theorem dX4_init_20 : decode cX4_init 20 = .ok (.aload_n 0, 1) := by decide +kernel
theorem dX4_init_21 : decode cX4_init 21 = .ok (.bipush 100, 2) := by decide +kernel
theorem dX4_init_23 : decode cX4_init 23 = .ok (.newarray .char, 2) := by decide +kernel
theorem dX4_init_25 : decode cX4_init 25 = .ok (.putfield 18, 3) := by decide +kernel
theorem dX4_init_28 : decode cX4_init 28 = .ok (.return_, 1) := by decide +kernel
theorem dX4_makeAll_0 : decode cX4_makeAll 0 = .ok (.aload_n 2, 1) := by decide +kernel
theorem dX4_makeAll_1 : decode cX4_makeAll 1 = .ok (.invokevirtual 71, 3) := by decide +kernel
theorem dX4_makeAll_4 : decode cX4_makeAll 4 = .ok (.aload_n 0, 1) := by decide +kernel
theorem dX4_makeAll_5 : decode cX4_makeAll 5 = .ok (.iload_n 3, 1) := by decide +kernel
theorem dX4_makeAll_6 : decode cX4_makeAll 6 = .ok (.invokevirtual 74, 3) := by decide +kernel
theorem dX4_makeAll_9 : decode cX4_makeAll 9 = .ok (.iconst 0, 1) := by decide +kernel
theorem dX4_makeAll_10 : decode cX4_makeAll 10 = .ok (.istore 5, 2) := by decide +kernel
theorem dX4_makeAll_12 : decode cX4_makeAll 12 = .ok (.iload 5, 2) := by decide +kernel
theorem dX4_makeAll_14 : decode cX4_makeAll 14 = .ok (.bipush 100, 2) := by decide +kernel
theorem dX4_makeAll_16 : decode cX4_makeAll 16 = .ok (.if_icmp .ge 35, 3) := by decide +kernel
theorem dX4_makeAll_19 : decode cX4_makeAll 19 = .ok (.aload_n 0, 1) := by decide +kernel
theorem dX4_makeAll_20 : decode cX4_makeAll 20 = .ok (.aload_n 1, 1) := by decide +kernel
theorem dX4_makeAll_21 : decode cX4_makeAll 21 = .ok (.aload_n 2, 1) := by decide +kernel
theorem dX4_makeAll_22 : decode cX4_makeAll 22 = .ok (.iload 4, 2) := by decide +kernel
theorem dX4_makeAll_24 : decode cX4_makeAll 24 = .ok (.invokevirtual 78, 3) := by decide +kernel
theorem dX4_makeAll_27 : decode cX4_makeAll 27 = .ok (.istore 6, 2) := by decide +kernel
theorem dX4_makeAll_29 : decode cX4_makeAll 29 = .ok (.iload 6, 2) := by decide +kernel
theorem dX4_makeAll_31 : decode cX4_makeAll 31 = .ok (.iconst (-1), 1) := by decide +kernel
theorem dX4_makeAll_32 : decode cX4_makeAll 32 = .ok (.if_icmp .ne 4, 3) := by decide +kernel
theorem dX4_makeAll_35 : decode cX4_makeAll 35 = .ok (.return_, 1) := by decide +kernel
theorem dX4_offerers_0 : decode cX4_offerers 0 = .ok (.aload_n 0, 1) := by decide +kernel
theorem dX4_offerers_1 : decode cX4_offerers 1 = .ok (.getfield 26, 3) := by decide +kernel
theorem dX4_offerers_4 : decode cX4_offerers 4 = .ok (.ifCond .eq 10, 3) := by decide +kernel
theorem dX4_offerers_7 : decode cX4_offerers 7 = .ok (.aload_n 1, 1) := by decide +kernel
theorem dX4_offerers_8 : decode cX4_offerers 8 = .ok (.getfield 39, 3) := by decide +kernel
theorem dX4_offerers_11 : decode cX4_offerers 11 = .ok (.goto 7, 3) := by decide +kernel
theorem dX4_offerers_14 : decode cX4_offerers 14 = .ok (.aload_n 1, 1) := by decide +kernel
theorem dX4_offerers_15 : decode cX4_offerers 15 = .ok (.getfield 45, 3) := by decide +kernel
theorem dX4_offerers_18 : decode cX4_offerers 18 = .ok (.areturn, 1) := by decide +kernel
theorem dX4_start_0 : decode cX4_start 0 = .ok (.aload_n 0, 1) := by decide +kernel
theorem dX4_start_1 : decode cX4_start 1 = .ok (.iconst 1, 1) := by decide +kernel
theorem dX4_start_2 : decode cX4_start 2 = .ok (.putfield 22, 3) := by decide +kernel
theorem dX4_start_5 : decode cX4_start 5 = .ok (.aload_n 0, 1) := by decide +kernel
theorem dX4_start_6 : decode cX4_start 6 = .ok (.iload_n 1, 1) := by decide +kernel
theorem dX4_start_7 : decode cX4_start 7 = .ok (.bipush 104, 2) := by decide +kernel
theorem dX4_start_9 : decode cX4_start 9 = .ok (.if_icmp .ne 7, 3) := by decide +kernel
theorem dX4_start_12 : decode cX4_start 12 = .ok (.iconst 1, 1) := by decide +kernel
theorem dX4_start_13 : decode cX4_start 13 = .ok (.goto 4, 3) := by decide +kernel
theorem dX4_start_16 : decode cX4_start 16 = .ok (.iconst 0, 1) := by decide +kernel
theorem dX4_start_17 : decode cX4_start 17 = .ok (.putfield 26, 3) := by decide +kernel
theorem dX4_start_20 : decode cX4_start 20 = .ok (.aload_n 0, 1) := by decide +kernel
theorem dX4_start_21 : decode cX4_start 21 = .ok (.iconst 0, 1) := by decide +kernel
theorem dX4_start_22 : decode cX4_start 22 = .ok (.putfield 29, 3) := by decide +kernel
theorem dX4_start_25 : decode cX4_start 25 = .ok (.aload_n 0, 1) := by decide +kernel
theorem dX4_start_26 : decode cX4_start 26 = .ok (.getfield 9, 3) := by decide +kernel
theorem dX4_start_29 : decode cX4_start 29 = .ok (.iconst 0, 1) := by decide +kernel
theorem dX4_start_30 : decode cX4_start 30 = .ok (.invokestatic 33, 3) := by decide +kernel
theorem dX4_start_33 : decode cX4_start 33 = .ok (.return_, 1) := by decide +kernel
theorem dX5_barOf_0 : decode cX5_barOf 0 = .ok (.aload_n 0, 1) := by decide +kernel
theorem dX5_barOf_1 : decode cX5_barOf 1 = .ok (.iload_n 2, 1) := by decide +kernel
theorem dX5_barOf_2 : decode cX5_barOf 2 = .ok (.invokevirtual 30, 3) := by decide +kernel
theorem dX5_barOf_5 : decode cX5_barOf 5 = .ok (.aload_n 1, 1) := by decide +kernel
theorem dX5_barOf_6 : decode cX5_barOf 6 = .ok (.iload_n 2, 1) := by decide +kernel
theorem dX5_barOf_7 : decode cX5_barOf 7 = .ok (.invokevirtual 34, 3) := by decide +kernel
theorem dX5_barOf_10 : decode cX5_barOf 10 = .ok (.if_icmp .ge 6, 3) := by decide +kernel
theorem dX5_barOf_13 : decode cX5_barOf 13 = .ok (.bipush 10, 2) := by decide +kernel
theorem dX5_barOf_15 : decode cX5_barOf 15 = .ok (.ireturn, 1) := by decide +kernel
theorem dX5_blockNumber_0 : decode cX5_blockNumber 0 = .ok (.iconst 0, 1) := by decide +kernel
theorem dX5_blockNumber_1 : decode cX5_blockNumber 1 = .ok (.istore_n 3, 1) := by decide +kernel
theorem dX5_blockNumber_2 : decode cX5_blockNumber 2 = .ok (.iconst 0, 1) := by decide +kernel
theorem dX5_blockNumber_3 : decode cX5_blockNumber 3 = .ok (.istore 4, 2) := by decide +kernel
theorem dX5_blockNumber_5 : decode cX5_blockNumber 5 = .ok (.iload 4, 2) := by decide +kernel
theorem dX5_blockNumber_7 : decode cX5_blockNumber 7 = .ok (.bipush 100, 2) := by decide +kernel
theorem dX5_blockNumber_9 : decode cX5_blockNumber 9 = .ok (.if_icmp .ge 38, 3) := by decide +kernel
theorem dX5_blockNumber_12 : decode cX5_blockNumber 12 = .ok (.aload_n 0, 1) := by decide +kernel
theorem dX5_blockNumber_13 : decode cX5_blockNumber 13 = .ok (.aload_n 1, 1) := by decide +kernel
theorem dX5_blockNumber_14 : decode cX5_blockNumber 14 = .ok (.iload 4, 2) := by decide +kernel
theorem dX5_blockNumber_16 : decode cX5_blockNumber 16 = .ok (.bipush 10, 2) := by decide +kernel
theorem dX5_blockNumber_18 : decode cX5_blockNumber 18 = .ok (.idiv, 1) := by decide +kernel
theorem dX5_blockNumber_19 : decode cX5_blockNumber 19 = .ok (.iload 4, 2) := by decide +kernel
theorem dX5_blockNumber_21 : decode cX5_blockNumber 21 = .ok (.bipush 10, 2) := by decide +kernel
theorem dX5_blockNumber_23 : decode cX5_blockNumber 23 = .ok (.irem, 1) := by decide +kernel
theorem dX5_blockNumber_24 : decode cX5_blockNumber 24 = .ok (.invokevirtual 77, 3) := by decide +kernel
theorem dX5_blockNumber_27 : decode cX5_blockNumber 27 = .ok (.ifCond .eq 14, 3) := by decide +kernel
theorem dX5_blockNumber_41 : decode cX5_blockNumber 41 = .ok (.iinc 4 1, 3) := by decide +kernel
theorem dX5_blockNumber_44 : decode cX5_blockNumber 44 = .ok (.goto (-39), 3) := by decide +kernel
theorem dX5_blockNumber_47 : decode cX5_blockNumber 47 = .ok (.iconst (-1), 1) := by decide +kernel
theorem dX5_blockNumber_48 : decode cX5_blockNumber 48 = .ok (.ireturn, 1) := by decide +kernel
theorem dX5_clear_0 : decode cX5_clear 0 = .ok (.aload_n 0, 1) := by decide +kernel
theorem dX5_clear_1 : decode cX5_clear 1 = .ok (.getfield 9, 3) := by decide +kernel
theorem dX5_clear_4 : decode cX5_clear 4 = .ok (.iconst (-1), 1) := by decide +kernel
theorem dX5_clear_5 : decode cX5_clear 5 = .ok (.invokestatic 18, 3) := by decide +kernel
theorem dX5_clear_8 : decode cX5_clear 8 = .ok (.aload_n 0, 1) := by decide +kernel
theorem dX5_clear_9 : decode cX5_clear 9 = .ok (.getfield 15, 3) := by decide +kernel
theorem dX5_clear_12 : decode cX5_clear 12 = .ok (.iconst 0, 1) := by decide +kernel
theorem dX5_clear_13 : decode cX5_clear 13 = .ok (.invokestatic 18, 3) := by decide +kernel
theorem dX5_clear_16 : decode cX5_clear 16 = .ok (.return_, 1) := by decide +kernel
theorem dX5_countBlocks_0 : decode cX5_countBlocks 0 = .ok (.iconst 0, 1) := by decide +kernel
theorem dX5_countBlocks_1 : decode cX5_countBlocks 1 = .ok (.istore_n 2, 1) := by decide +kernel
theorem dX5_countBlocks_2 : decode cX5_countBlocks 2 = .ok (.iconst 0, 1) := by decide +kernel
theorem dX5_countBlocks_3 : decode cX5_countBlocks 3 = .ok (.istore_n 3, 1) := by decide +kernel
theorem dX5_countBlocks_4 : decode cX5_countBlocks 4 = .ok (.iload_n 3, 1) := by decide +kernel
theorem dX5_countBlocks_5 : decode cX5_countBlocks 5 = .ok (.bipush 100, 2) := by decide +kernel
theorem dX5_countBlocks_7 : decode cX5_countBlocks 7 = .ok (.if_icmp .ge 28, 3) := by decide +kernel
theorem dX5_countBlocks_10 : decode cX5_countBlocks 10 = .ok (.aload_n 0, 1) := by decide +kernel
theorem dX5_countBlocks_11 : decode cX5_countBlocks 11 = .ok (.aload_n 1, 1) := by decide +kernel
theorem dX5_countBlocks_12 : decode cX5_countBlocks 12 = .ok (.iload_n 3, 1) := by decide +kernel
theorem dX5_countBlocks_13 : decode cX5_countBlocks 13 = .ok (.bipush 10, 2) := by decide +kernel
theorem dX5_countBlocks_15 : decode cX5_countBlocks 15 = .ok (.idiv, 1) := by decide +kernel
theorem dX5_countBlocks_16 : decode cX5_countBlocks 16 = .ok (.iload_n 3, 1) := by decide +kernel
theorem dX5_countBlocks_17 : decode cX5_countBlocks 17 = .ok (.bipush 10, 2) := by decide +kernel
theorem dX5_countBlocks_19 : decode cX5_countBlocks 19 = .ok (.irem, 1) := by decide +kernel
theorem dX5_countBlocks_20 : decode cX5_countBlocks 20 = .ok (.invokevirtual 77, 3) := by decide +kernel
theorem dX5_countBlocks_23 : decode cX5_countBlocks 23 = .ok (.ifCond .eq 6, 3) := by decide +kernel
theorem dX5_countBlocks_29 : decode cX5_countBlocks 29 = .ok (.iinc 3 1, 3) := by decide +kernel
theorem dX5_countBlocks_32 : decode cX5_countBlocks 32 = .ok (.goto (-28), 3) := by decide +kernel
theorem dX5_countBlocks_35 : decode cX5_countBlocks 35 = .ok (.iload_n 2, 1) := by decide +kernel
theorem dX5_countBlocks_36 : decode cX5_countBlocks 36 = .ok (.ireturn, 1) := by decide +kernel
theorem dX5_countMoved_0 : decode cX5_countMoved 0 = .ok (.iconst 0, 1) := by decide +kernel
theorem dX5_countMoved_1 : decode cX5_countMoved 1 = .ok (.istore_n 2, 1) := by decide +kernel
theorem dX5_countMoved_2 : decode cX5_countMoved 2 = .ok (.iconst 0, 1) := by decide +kernel
theorem dX5_countMoved_3 : decode cX5_countMoved 3 = .ok (.istore_n 3, 1) := by decide +kernel
theorem dX5_countMoved_4 : decode cX5_countMoved 4 = .ok (.iload_n 3, 1) := by decide +kernel
theorem dX5_countMoved_5 : decode cX5_countMoved 5 = .ok (.bipush 10, 2) := by decide +kernel
theorem dX5_countMoved_7 : decode cX5_countMoved 7 = .ok (.if_icmp .ge 27, 3) := by decide +kernel
theorem dX5_countMoved_10 : decode cX5_countMoved 10 = .ok (.aload_n 0, 1) := by decide +kernel
theorem dX5_countMoved_11 : decode cX5_countMoved 11 = .ok (.getfield 9, 3) := by decide +kernel
theorem dX5_countMoved_14 : decode cX5_countMoved 14 = .ok (.iload_n 3, 1) := by decide +kernel
theorem dX5_countMoved_15 : decode cX5_countMoved 15 = .ok (.iaload, 1) := by decide +kernel
theorem dX5_countMoved_16 : decode cX5_countMoved 16 = .ok (.aload_n 1, 1) := by decide +kernel
theorem dX5_countMoved_17 : decode cX5_countMoved 17 = .ok (.getfield 9, 3) := by decide +kernel
theorem dX5_countMoved_20 : decode cX5_countMoved 20 = .ok (.iload_n 3, 1) := by decide +kernel
theorem dX5_countMoved_21 : decode cX5_countMoved 21 = .ok (.iaload, 1) := by decide +kernel
theorem dX5_countMoved_22 : decode cX5_countMoved 22 = .ok (.if_icmp .eq 6, 3) := by decide +kernel
theorem dX5_countMoved_28 : decode cX5_countMoved 28 = .ok (.iinc 3 1, 3) := by decide +kernel
theorem dX5_countMoved_31 : decode cX5_countMoved 31 = .ok (.goto (-27), 3) := by decide +kernel
theorem dX5_countMoved_34 : decode cX5_countMoved 34 = .ok (.iload_n 2, 1) := by decide +kernel
theorem dX5_countMoved_35 : decode cX5_countMoved 35 = .ok (.ireturn, 1) := by decide +kernel
theorem dX5_countPaired_0 : decode cX5_countPaired 0 = .ok (.iconst 0, 1) := by decide +kernel
theorem dX5_countPaired_1 : decode cX5_countPaired 1 = .ok (.istore_n 1, 1) := by decide +kernel
theorem dX5_countPaired_2 : decode cX5_countPaired 2 = .ok (.iconst 0, 1) := by decide +kernel
theorem dX5_countPaired_3 : decode cX5_countPaired 3 = .ok (.istore_n 2, 1) := by decide +kernel
theorem dX5_countPaired_4 : decode cX5_countPaired 4 = .ok (.iload_n 2, 1) := by decide +kernel
theorem dX5_countPaired_5 : decode cX5_countPaired 5 = .ok (.bipush 10, 2) := by decide +kernel
theorem dX5_countPaired_7 : decode cX5_countPaired 7 = .ok (.if_icmp .ge 22, 3) := by decide +kernel
theorem dX5_countPaired_10 : decode cX5_countPaired 10 = .ok (.aload_n 0, 1) := by decide +kernel
theorem dX5_countPaired_11 : decode cX5_countPaired 11 = .ok (.getfield 9, 3) := by decide +kernel
theorem dX5_countPaired_14 : decode cX5_countPaired 14 = .ok (.iload_n 2, 1) := by decide +kernel
theorem dX5_countPaired_15 : decode cX5_countPaired 15 = .ok (.iaload, 1) := by decide +kernel
theorem dX5_countPaired_16 : decode cX5_countPaired 16 = .ok (.iconst (-1), 1) := by decide +kernel
theorem dX5_countPaired_17 : decode cX5_countPaired 17 = .ok (.if_icmp .eq 6, 3) := by decide +kernel
theorem dX5_countPaired_23 : decode cX5_countPaired 23 = .ok (.iinc 2 1, 3) := by decide +kernel
theorem dX5_countPaired_26 : decode cX5_countPaired 26 = .ok (.goto (-22), 3) := by decide +kernel
theorem dX5_countPaired_29 : decode cX5_countPaired 29 = .ok (.iload_n 1, 1) := by decide +kernel
theorem dX5_countPaired_30 : decode cX5_countPaired 30 = .ok (.ireturn, 1) := by decide +kernel
theorem dX5_decode_0 : decode cX5_decode 0 = .ok (.aload_n 0, 1) := by decide +kernel
theorem dX5_decode_1 : decode cX5_decode 1 = .ok (.invokevirtual 90, 3) := by decide +kernel
theorem dX5_decode_4 : decode cX5_decode 4 = .ok (.lload_n 1, 1) := by decide +kernel
theorem dX5_decode_5 : decode cX5_decode 5 = .ok (.lstore 4, 2) := by decide +kernel
theorem dX5_decode_7 : decode cX5_decode 7 = .ok (.iload_n 3, 1) := by decide +kernel
theorem dX5_decode_8 : decode cX5_decode 8 = .ok (.iconst 1, 1) := by decide +kernel
theorem dX5_decode_9 : decode cX5_decode 9 = .ok (.isub, 1) := by decide +kernel
theorem dX5_decode_10 : decode cX5_decode 10 = .ok (.istore 6, 2) := by decide +kernel
theorem dX5_decode_12 : decode cX5_decode 12 = .ok (.iload 6, 2) := by decide +kernel
theorem dX5_decode_14 : decode cX5_decode 14 = .ok (.ifCond .lt 32, 3) := by decide +kernel
theorem dX5_decode_46 : decode cX5_decode 46 = .ok (.return_, 1) := by decide +kernel
theorem dX5_encode_0 : decode cX5_encode 0 = .ok (.lconst 0, 1) := by decide +kernel
theorem dX5_encode_1 : decode cX5_encode 1 = .ok (.lstore_n 2, 1) := by decide +kernel
theorem dX5_encode_2 : decode cX5_encode 2 = .ok (.iconst 0, 1) := by decide +kernel
theorem dX5_encode_3 : decode cX5_encode 3 = .ok (.istore 4, 2) := by decide +kernel
theorem dX5_encode_5 : decode cX5_encode 5 = .ok (.iload 4, 2) := by decide +kernel
theorem dX5_encode_7 : decode cX5_encode 7 = .ok (.iload_n 1, 1) := by decide +kernel
theorem dX5_encode_8 : decode cX5_encode 8 = .ok (.if_icmp .ge 25, 3) := by decide +kernel
theorem dX5_encode_33 : decode cX5_encode 33 = .ok (.lload_n 2, 1) := by decide +kernel
theorem dX5_encode_34 : decode cX5_encode 34 = .ok (.lreturn, 1) := by decide +kernel
theorem dX5_greatestPlace_0 : decode cX5_greatestPlace 0 = .ok (.iconst 0, 1) := by decide +kernel
theorem dX5_greatestPlace_1 : decode cX5_greatestPlace 1 = .ok (.istore_n 2, 1) := by decide +kernel
theorem dX5_greatestPlace_2 : decode cX5_greatestPlace 2 = .ok (.iconst 0, 1) := by decide +kernel
theorem dX5_greatestPlace_3 : decode cX5_greatestPlace 3 = .ok (.istore_n 3, 1) := by decide +kernel
theorem dX5_greatestPlace_4 : decode cX5_greatestPlace 4 = .ok (.iload_n 3, 1) := by decide +kernel
theorem dX5_greatestPlace_5 : decode cX5_greatestPlace 5 = .ok (.bipush 10, 2) := by decide +kernel
theorem dX5_greatestPlace_7 : decode cX5_greatestPlace 7 = .ok (.if_icmp .ge 47, 3) := by decide +kernel
theorem dX5_greatestPlace_10 : decode cX5_greatestPlace 10 = .ok (.aload_n 0, 1) := by decide +kernel
theorem dX5_greatestPlace_11 : decode cX5_greatestPlace 11 = .ok (.getfield 9, 3) := by decide +kernel
theorem dX5_greatestPlace_14 : decode cX5_greatestPlace 14 = .ok (.iload_n 3, 1) := by decide +kernel
theorem dX5_greatestPlace_15 : decode cX5_greatestPlace 15 = .ok (.iaload, 1) := by decide +kernel
theorem dX5_greatestPlace_16 : decode cX5_greatestPlace 16 = .ok (.istore 4, 2) := by decide +kernel
theorem dX5_greatestPlace_18 : decode cX5_greatestPlace 18 = .ok (.iload_n 2, 1) := by decide +kernel
theorem dX5_greatestPlace_19 : decode cX5_greatestPlace 19 = .ok (.aload_n 1, 1) := by decide +kernel
theorem dX5_greatestPlace_20 : decode cX5_greatestPlace 20 = .ok (.getfield 70, 3) := by decide +kernel
theorem dX5_greatestPlace_23 : decode cX5_greatestPlace 23 = .ok (.iload_n 3, 1) := by decide +kernel
theorem dX5_greatestPlace_24 : decode cX5_greatestPlace 24 = .ok (.iload 4, 2) := by decide +kernel
theorem dX5_greatestPlace_26 : decode cX5_greatestPlace 26 = .ok (.invokevirtual 58, 3) := by decide +kernel
theorem dX5_greatestPlace_29 : decode cX5_greatestPlace 29 = .ok (.invokestatic 61, 3) := by decide +kernel
theorem dX5_greatestPlace_32 : decode cX5_greatestPlace 32 = .ok (.istore_n 2, 1) := by decide +kernel
theorem dX5_greatestPlace_33 : decode cX5_greatestPlace 33 = .ok (.iload_n 2, 1) := by decide +kernel
theorem dX5_greatestPlace_34 : decode cX5_greatestPlace 34 = .ok (.aload_n 1, 1) := by decide +kernel
theorem dX5_greatestPlace_35 : decode cX5_greatestPlace 35 = .ok (.getfield 42, 3) := by decide +kernel
theorem dX5_greatestPlace_38 : decode cX5_greatestPlace 38 = .ok (.iload 4, 2) := by decide +kernel
theorem dX5_greatestPlace_40 : decode cX5_greatestPlace 40 = .ok (.iload_n 3, 1) := by decide +kernel
theorem dX5_greatestPlace_41 : decode cX5_greatestPlace 41 = .ok (.invokevirtual 58, 3) := by decide +kernel
theorem dX5_greatestPlace_44 : decode cX5_greatestPlace 44 = .ok (.invokestatic 61, 3) := by decide +kernel
theorem dX5_greatestPlace_47 : decode cX5_greatestPlace 47 = .ok (.istore_n 2, 1) := by decide +kernel
theorem dX5_greatestPlace_48 : decode cX5_greatestPlace 48 = .ok (.iinc 3 1, 3) := by decide +kernel
theorem dX5_greatestPlace_51 : decode cX5_greatestPlace 51 = .ok (.goto (-47), 3) := by decide +kernel
theorem dX5_greatestPlace_54 : decode cX5_greatestPlace 54 = .ok (.iload_n 2, 1) := by decide +kernel
theorem dX5_greatestPlace_55 : decode cX5_greatestPlace 55 = .ok (.ireturn, 1) := by decide +kernel
theorem dX5_homeOf_0 : decode cX5_homeOf 0 = .ok (.iload_n 1, 1) := by decide +kernel
theorem dX5_homeOf_1 : decode cX5_homeOf 1 = .ok (.ifCond .lt 18, 3) := by decide +kernel
theorem dX5_homeOf_4 : decode cX5_homeOf 4 = .ok (.iload_n 1, 1) := by decide +kernel
theorem dX5_homeOf_5 : decode cX5_homeOf 5 = .ok (.bipush 10, 2) := by decide +kernel
theorem dX5_homeOf_7 : decode cX5_homeOf 7 = .ok (.if_icmp .ge 12, 3) := by decide +kernel
theorem dX5_homeOf_10 : decode cX5_homeOf 10 = .ok (.aload_n 0, 1) := by decide +kernel
theorem dX5_homeOf_11 : decode cX5_homeOf 11 = .ok (.getfield 9, 3) := by decide +kernel
theorem dX5_homeOf_14 : decode cX5_homeOf 14 = .ok (.iload_n 1, 1) := by decide +kernel
theorem dX5_homeOf_15 : decode cX5_homeOf 15 = .ok (.iaload, 1) := by decide +kernel
theorem dX5_homeOf_16 : decode cX5_homeOf 16 = .ok (.goto 4, 3) := by decide +kernel
theorem dX5_homeOf_19 : decode cX5_homeOf 19 = .ok (.iconst (-1), 1) := by decide +kernel
theorem dX5_homeOf_20 : decode cX5_homeOf 20 = .ok (.ireturn, 1) := by decide +kernel
theorem dX5_housesPlaceSum_0 : decode cX5_housesPlaceSum 0 = .ok (.iconst 0, 1) := by decide +kernel
theorem dX5_housesPlaceSum_1 : decode cX5_housesPlaceSum 1 = .ok (.istore_n 2, 1) := by decide +kernel
theorem dX5_housesPlaceSum_2 : decode cX5_housesPlaceSum 2 = .ok (.iconst 0, 1) := by decide +kernel
theorem dX5_housesPlaceSum_3 : decode cX5_housesPlaceSum 3 = .ok (.istore_n 3, 1) := by decide +kernel
theorem dX5_housesPlaceSum_4 : decode cX5_housesPlaceSum 4 = .ok (.iload_n 3, 1) := by decide +kernel
theorem dX5_housesPlaceSum_5 : decode cX5_housesPlaceSum 5 = .ok (.bipush 10, 2) := by decide +kernel
theorem dX5_housesPlaceSum_7 : decode cX5_housesPlaceSum 7 = .ok (.if_icmp .ge 36, 3) := by decide +kernel
theorem dX5_housesPlaceSum_10 : decode cX5_housesPlaceSum 10 = .ok (.aload_n 0, 1) := by decide +kernel
theorem dX5_housesPlaceSum_11 : decode cX5_housesPlaceSum 11 = .ok (.getfield 9, 3) := by decide +kernel
theorem dX5_housesPlaceSum_14 : decode cX5_housesPlaceSum 14 = .ok (.iload_n 3, 1) := by decide +kernel
theorem dX5_housesPlaceSum_15 : decode cX5_housesPlaceSum 15 = .ok (.iaload, 1) := by decide +kernel
theorem dX5_housesPlaceSum_16 : decode cX5_housesPlaceSum 16 = .ok (.iconst (-1), 1) := by decide +kernel
theorem dX5_housesPlaceSum_17 : decode cX5_housesPlaceSum 17 = .ok (.if_icmp .eq 20, 3) := by decide +kernel
theorem dX5_housesPlaceSum_37 : decode cX5_housesPlaceSum 37 = .ok (.iinc 3 1, 3) := by decide +kernel
theorem dX5_housesPlaceSum_40 : decode cX5_housesPlaceSum 40 = .ok (.goto (-36), 3) := by decide +kernel
theorem dX5_housesPlaceSum_43 : decode cX5_housesPlaceSum 43 = .ok (.iload_n 2, 1) := by decide +kernel
theorem dX5_housesPlaceSum_44 : decode cX5_housesPlaceSum 44 = .ok (.ireturn, 1) := by decide +kernel
theorem dX5_init_0 : decode cX5_init 0 = .ok (.aload_n 0, 1) := by decide +kernel
theorem dX5_init_1 : decode cX5_init 1 = .ok (.invokespecial 3, 3) := by decide +kernel
theorem dX5_init_4 : decode cX5_init 4 = .ok (.aload_n 0, 1) := by decide +kernel
theorem dX5_init_5 : decode cX5_init 5 = .ok (.bipush 10, 2) := by decide +kernel
theorem dX5_init_7 : decode cX5_init 7 = .ok (.newarray .int, 2) := by decide +kernel
theorem dX5_init_9 : decode cX5_init 9 = .ok (.putfield 9, 3) := by decide +kernel
theorem dX5_init_12 : decode cX5_init 12 = .ok (.aload_n 0, 1) := by decide +kernel
theorem dX5_init_13 : decode cX5_init 13 = .ok (.bipush 10, 2) := by decide +kernel
theorem dX5_init_15 : decode cX5_init 15 = .ok (.newarray .int, 2) := by decide +kernel
theorem dX5_init_17 : decode cX5_init 17 = .ok (.putfield 15, 3) := by decide +kernel
theorem dX5_init_20 : decode cX5_init 20 = .ok (.iconst 0, 1) := by decide +kernel
theorem dX5_init_21 : decode cX5_init 21 = .ok (.istore_n 1, 1) := by decide +kernel
theorem dX5_init_22 : decode cX5_init 22 = .ok (.iload_n 1, 1) := by decide +kernel
theorem dX5_init_23 : decode cX5_init 23 = .ok (.bipush 10, 2) := by decide +kernel
theorem dX5_init_25 : decode cX5_init 25 = .ok (.if_icmp .ge 16, 3) := by decide +kernel
theorem dX5_init_28 : decode cX5_init 28 = .ok (.aload_n 0, 1) := by decide +kernel
theorem dX5_init_29 : decode cX5_init 29 = .ok (.getfield 9, 3) := by decide +kernel
theorem dX5_init_32 : decode cX5_init 32 = .ok (.iload_n 1, 1) := by decide +kernel
theorem dX5_init_33 : decode cX5_init 33 = .ok (.iconst (-1), 1) := by decide +kernel
theorem dX5_init_34 : decode cX5_init 34 = .ok (.iastore, 1) := by decide +kernel
theorem dX5_init_35 : decode cX5_init 35 = .ok (.iinc 1 1, 3) := by decide +kernel
theorem dX5_init_38 : decode cX5_init 38 = .ok (.goto (-16), 3) := by decide +kernel
theorem dX5_init_41 : decode cX5_init 41 = .ok (.return_, 1) := by decide +kernel
theorem dX5_isBlock_0 : decode cX5_isBlock 0 = .ok (.aload_n 1, 1) := by decide +kernel
theorem dX5_isBlock_1 : decode cX5_isBlock 1 = .ok (.iload_n 2, 1) := by decide +kernel
theorem dX5_isBlock_2 : decode cX5_isBlock 2 = .ok (.iload_n 3, 1) := by decide +kernel
theorem dX5_isBlock_3 : decode cX5_isBlock 3 = .ok (.invokevirtual 66, 3) := by decide +kernel
theorem dX5_isBlock_6 : decode cX5_isBlock 6 = .ok (.ifCond .ne 5, 3) := by decide +kernel
theorem dX5_isBlock_9 : decode cX5_isBlock 9 = .ok (.iconst 0, 1) := by decide +kernel
theorem dX5_isBlock_10 : decode cX5_isBlock 10 = .ok (.ireturn, 1) := by decide +kernel
theorem dX5_isCalm_0 : decode cX5_isCalm 0 = .ok (.iconst 0, 1) := by decide +kernel
theorem dX5_isCalm_1 : decode cX5_isCalm 1 = .ok (.istore_n 2, 1) := by decide +kernel
theorem dX5_isCalm_2 : decode cX5_isCalm 2 = .ok (.iload_n 2, 1) := by decide +kernel
theorem dX5_isCalm_3 : decode cX5_isCalm 3 = .ok (.bipush 100, 2) := by decide +kernel
theorem dX5_isCalm_5 : decode cX5_isCalm 5 = .ok (.if_icmp .ge 27, 3) := by decide +kernel
theorem dX5_isCalm_8 : decode cX5_isCalm 8 = .ok (.aload_n 0, 1) := by decide +kernel
theorem dX5_isCalm_9 : decode cX5_isCalm 9 = .ok (.aload_n 1, 1) := by decide +kernel
theorem dX5_isCalm_10 : decode cX5_isCalm 10 = .ok (.iload_n 2, 1) := by decide +kernel
theorem dX5_isCalm_11 : decode cX5_isCalm 11 = .ok (.bipush 10, 2) := by decide +kernel
theorem dX5_isCalm_13 : decode cX5_isCalm 13 = .ok (.idiv, 1) := by decide +kernel
theorem dX5_isCalm_14 : decode cX5_isCalm 14 = .ok (.iload_n 2, 1) := by decide +kernel
theorem dX5_isCalm_15 : decode cX5_isCalm 15 = .ok (.bipush 10, 2) := by decide +kernel
theorem dX5_isCalm_17 : decode cX5_isCalm 17 = .ok (.irem, 1) := by decide +kernel
theorem dX5_isCalm_18 : decode cX5_isCalm 18 = .ok (.invokevirtual 77, 3) := by decide +kernel
theorem dX5_isCalm_21 : decode cX5_isCalm 21 = .ok (.ifCond .eq 5, 3) := by decide +kernel
theorem dX5_isCalm_26 : decode cX5_isCalm 26 = .ok (.iinc 2 1, 3) := by decide +kernel
theorem dX5_isCalm_29 : decode cX5_isCalm 29 = .ok (.goto (-27), 3) := by decide +kernel
theorem dX5_isCalm_32 : decode cX5_isCalm 32 = .ok (.iconst 1, 1) := by decide +kernel
theorem dX5_isCalm_33 : decode cX5_isCalm 33 = .ok (.ireturn, 1) := by decide +kernel
theorem dX5_loadOf_0 : decode cX5_loadOf 0 = .ok (.iload_n 1, 1) := by decide +kernel
theorem dX5_loadOf_1 : decode cX5_loadOf 1 = .ok (.ifCond .lt 18, 3) := by decide +kernel
theorem dX5_loadOf_4 : decode cX5_loadOf 4 = .ok (.iload_n 1, 1) := by decide +kernel
theorem dX5_loadOf_5 : decode cX5_loadOf 5 = .ok (.bipush 10, 2) := by decide +kernel
theorem dX5_loadOf_7 : decode cX5_loadOf 7 = .ok (.if_icmp .ge 12, 3) := by decide +kernel
theorem dX5_loadOf_10 : decode cX5_loadOf 10 = .ok (.aload_n 0, 1) := by decide +kernel
theorem dX5_loadOf_11 : decode cX5_loadOf 11 = .ok (.getfield 15, 3) := by decide +kernel
theorem dX5_loadOf_14 : decode cX5_loadOf 14 = .ok (.iload_n 1, 1) := by decide +kernel
theorem dX5_loadOf_15 : decode cX5_loadOf 15 = .ok (.iaload, 1) := by decide +kernel
theorem dX5_loadOf_16 : decode cX5_loadOf 16 = .ok (.goto 4, 3) := by decide +kernel
theorem dX5_loadOf_19 : decode cX5_loadOf 19 = .ok (.iconst 0, 1) := by decide +kernel
theorem dX5_loadOf_20 : decode cX5_loadOf 20 = .ok (.ireturn, 1) := by decide +kernel
theorem dX5_personsPlaceSum_0 : decode cX5_personsPlaceSum 0 = .ok (.iconst 0, 1) := by decide +kernel
theorem dX5_personsPlaceSum_1 : decode cX5_personsPlaceSum 1 = .ok (.istore_n 2, 1) := by decide +kernel
theorem dX5_personsPlaceSum_2 : decode cX5_personsPlaceSum 2 = .ok (.iconst 0, 1) := by decide +kernel
theorem dX5_personsPlaceSum_3 : decode cX5_personsPlaceSum 3 = .ok (.istore_n 3, 1) := by decide +kernel
theorem dX5_personsPlaceSum_4 : decode cX5_personsPlaceSum 4 = .ok (.iload_n 3, 1) := by decide +kernel
theorem dX5_personsPlaceSum_5 : decode cX5_personsPlaceSum 5 = .ok (.bipush 10, 2) := by decide +kernel
theorem dX5_personsPlaceSum_7 : decode cX5_personsPlaceSum 7 = .ok (.if_icmp .ge 36, 3) := by decide +kernel
theorem dX5_personsPlaceSum_10 : decode cX5_personsPlaceSum 10 = .ok (.aload_n 0, 1) := by decide +kernel
theorem dX5_personsPlaceSum_11 : decode cX5_personsPlaceSum 11 = .ok (.getfield 9, 3) := by decide +kernel
theorem dX5_personsPlaceSum_14 : decode cX5_personsPlaceSum 14 = .ok (.iload_n 3, 1) := by decide +kernel
theorem dX5_personsPlaceSum_15 : decode cX5_personsPlaceSum 15 = .ok (.iaload, 1) := by decide +kernel
theorem dX5_personsPlaceSum_16 : decode cX5_personsPlaceSum 16 = .ok (.iconst (-1), 1) := by decide +kernel
theorem dX5_personsPlaceSum_17 : decode cX5_personsPlaceSum 17 = .ok (.if_icmp .eq 20, 3) := by decide +kernel
theorem dX5_personsPlaceSum_37 : decode cX5_personsPlaceSum 37 = .ok (.iinc 3 1, 3) := by decide +kernel
theorem dX5_personsPlaceSum_40 : decode cX5_personsPlaceSum 40 = .ok (.goto (-36), 3) := by decide +kernel
theorem dX5_personsPlaceSum_43 : decode cX5_personsPlaceSum 43 = .ok (.iload_n 2, 1) := by decide +kernel
theorem dX5_personsPlaceSum_44 : decode cX5_personsPlaceSum 44 = .ok (.ireturn, 1) := by decide +kernel
theorem dX5_placeSum_0 : decode cX5_placeSum 0 = .ok (.aload_n 0, 1) := by decide +kernel
theorem dX5_placeSum_1 : decode cX5_placeSum 1 = .ok (.aload_n 1, 1) := by decide +kernel
theorem dX5_placeSum_2 : decode cX5_placeSum 2 = .ok (.invokevirtual 81, 3) := by decide +kernel
theorem dX5_placeSum_5 : decode cX5_placeSum 5 = .ok (.aload_n 0, 1) := by decide +kernel
theorem dX5_placeSum_6 : decode cX5_placeSum 6 = .ok (.aload_n 1, 1) := by decide +kernel
theorem dX5_placeSum_7 : decode cX5_placeSum 7 = .ok (.invokevirtual 85, 3) := by decide +kernel
theorem dX5_placeSum_10 : decode cX5_placeSum 10 = .ok (.iadd, 1) := by decide +kernel
theorem dX5_placeSum_11 : decode cX5_placeSum 11 = .ok (.ireturn, 1) := by decide +kernel
theorem dX6_decide_0 : decode cX6_decide 0 = .ok (.aload_n 0, 1) := by decide +kernel
theorem dX6_decide_1 : decode cX6_decide 1 = .ok (.aload_n 1, 1) := by decide +kernel
theorem dX6_decide_2 : decode cX6_decide 2 = .ok (.iload_n 2, 1) := by decide +kernel
theorem dX6_decide_3 : decode cX6_decide 3 = .ok (.iconst 1, 1) := by decide +kernel
theorem dX6_decide_4 : decode cX6_decide 4 = .ok (.isub, 1) := by decide +kernel
theorem dX6_decide_5 : decode cX6_decide 5 = .ok (.invokevirtual 32, 3) := by decide +kernel
theorem dX6_decide_8 : decode cX6_decide 8 = .ok (.ifCond .eq 4, 3) := by decide +kernel
theorem dX6_decide_12 : decode cX6_decide 12 = .ok (.iload_n 2, 1) := by decide +kernel
theorem dX6_decide_13 : decode cX6_decide 13 = .ok (.ifCond .lt 17, 3) := by decide +kernel
theorem dX6_decide_16 : decode cX6_decide 16 = .ok (.iload_n 2, 1) := by decide +kernel
theorem dX6_decide_17 : decode cX6_decide 17 = .ok (.aload_n 1, 1) := by decide +kernel
theorem dX6_decide_18 : decode cX6_decide 18 = .ok (.getfield 36, 3) := by decide +kernel
theorem dX6_decide_21 : decode cX6_decide 21 = .ok (.if_icmp .ge 9, 3) := by decide +kernel
theorem dX6_decide_30 : decode cX6_decide 30 = .ok (.aload_n 0, 1) := by decide +kernel
theorem dX6_decide_31 : decode cX6_decide 31 = .ok (.invokevirtual 39, 3) := by decide +kernel
theorem dX6_decide_34 : decode cX6_decide 34 = .ok (.return_, 1) := by decide +kernel
theorem dX6_init_0 : decode cX6_init 0 = .ok (.aload_n 0, 1) := by decide +kernel
theorem dX6_init_1 : decode cX6_init 1 = .ok (.invokespecial 3, 3) := by decide +kernel
theorem dX6_init_4 : decode cX6_init 4 = .ok (.aload_n 0, 1) := by decide +kernel
theorem dX6_init_5 : decode cX6_init 5 = .ok (.bipush 8, 2) := by decide +kernel
theorem dX6_init_7 : decode cX6_init 7 = .ok (.newarray .int, 2) := by decide +kernel
theorem dX6_init_9 : decode cX6_init 9 = .ok (.putfield 9, 3) := by decide +kernel
theorem dX6_init_12 : decode cX6_init 12 = .ok (.aload_n 0, 1) := by decide +kernel
theorem dX6_init_13 : decode cX6_init 13 = .ok (.bipush 8, 2) := by decide +kernel
theorem dX6_init_15 : decode cX6_init 15 = .ok (.newarray .int, 2) := by decide +kernel
theorem dX6_init_17 : decode cX6_init 17 = .ok (.putfield 15, 3) := by decide +kernel
theorem dX6_init_20 : decode cX6_init 20 = .ok (.return_, 1) := by decide +kernel
theorem dX6_isBlockedBy_0 : decode cX6_isBlockedBy 0 = .ok (.iconst 0, 1) := by decide +kernel
theorem dX6_isBlockedBy_1 : decode cX6_isBlockedBy 1 = .ok (.istore_n 3, 1) := by decide +kernel
theorem dX6_isBlockedBy_2 : decode cX6_isBlockedBy 2 = .ok (.iload_n 3, 1) := by decide +kernel
theorem dX6_isBlockedBy_3 : decode cX6_isBlockedBy 3 = .ok (.iload_n 2, 1) := by decide +kernel
theorem dX6_isBlockedBy_4 : decode cX6_isBlockedBy 4 = .ok (.if_icmp .ge 31, 3) := by decide +kernel
theorem dX6_isBlockedBy_35 : decode cX6_isBlockedBy 35 = .ok (.iconst 0, 1) := by decide +kernel
theorem dX6_isBlockedBy_36 : decode cX6_isBlockedBy 36 = .ok (.ireturn, 1) := by decide +kernel
theorem dX6_note_0 : decode cX6_note 0 = .ok (.aload_n 0, 1) := by decide +kernel
theorem dX6_note_1 : decode cX6_note 1 = .ok (.getfield 18, 3) := by decide +kernel
theorem dX6_note_4 : decode cX6_note 4 = .ok (.ifCond .ne 18, 3) := by decide +kernel
theorem dX6_note_7 : decode cX6_note 7 = .ok (.aload_n 0, 1) := by decide +kernel
theorem dX6_note_8 : decode cX6_note 8 = .ok (.getfield 9, 3) := by decide +kernel
theorem dX6_note_11 : decode cX6_note 11 = .ok (.iconst 0, 1) := by decide +kernel
theorem dX6_note_12 : decode cX6_note 12 = .ok (.aload_n 0, 1) := by decide +kernel
theorem dX6_note_13 : decode cX6_note 13 = .ok (.getfield 15, 3) := by decide +kernel
theorem dX6_note_16 : decode cX6_note 16 = .ok (.iconst 0, 1) := by decide +kernel
theorem dX6_note_17 : decode cX6_note 17 = .ok (.bipush 8, 2) := by decide +kernel
theorem dX6_note_19 : decode cX6_note 19 = .ok (.invokestatic 50, 3) := by decide +kernel
theorem dX6_note_22 : decode cX6_note 22 = .ok (.aload_n 0, 1) := by decide +kernel
theorem dX6_note_23 : decode cX6_note 23 = .ok (.dup, 1) := by decide +kernel
theorem dX6_note_24 : decode cX6_note 24 = .ok (.getfield 18, 3) := by decide +kernel
theorem dX6_note_27 : decode cX6_note 27 = .ok (.iconst 1, 1) := by decide +kernel
theorem dX6_note_28 : decode cX6_note 28 = .ok (.iadd, 1) := by decide +kernel
theorem dX6_note_29 : decode cX6_note 29 = .ok (.putfield 18, 3) := by decide +kernel
theorem dX6_note_32 : decode cX6_note 32 = .ok (.return_, 1) := by decide +kernel
theorem dX6_seek_0 : decode cX6_seek 0 = .ok (.aload_n 0, 1) := by decide +kernel
theorem dX6_seek_1 : decode cX6_seek 1 = .ok (.iconst 0, 1) := by decide +kernel
theorem dX6_seek_2 : decode cX6_seek 2 = .ok (.putfield 18, 3) := by decide +kernel
theorem dX6_seek_5 : decode cX6_seek 5 = .ok (.aload_n 0, 1) := by decide +kernel
theorem dX6_seek_6 : decode cX6_seek 6 = .ok (.getfield 9, 3) := by decide +kernel
theorem dX6_seek_9 : decode cX6_seek 9 = .ok (.bipush (-2), 2) := by decide +kernel
theorem dX6_seek_11 : decode cX6_seek 11 = .ok (.invokestatic 22, 3) := by decide +kernel
theorem dX6_seek_14 : decode cX6_seek 14 = .ok (.aload_n 0, 1) := by decide +kernel
theorem dX6_seek_15 : decode cX6_seek 15 = .ok (.aload_n 1, 1) := by decide +kernel
theorem dX6_seek_16 : decode cX6_seek 16 = .ok (.iconst 0, 1) := by decide +kernel
theorem dX6_seek_17 : decode cX6_seek 17 = .ok (.invokestatic 28, 3) := by decide +kernel
theorem dX6_seek_20 : decode cX6_seek 20 = .ok (.return_, 1) := by decide +kernel
theorem dX7_find_0 : decode cX7_find 0 = .ok (.iconst 0, 1) := by decide +kernel
theorem dX7_find_1 : decode cX7_find 1 = .ok (.istore_n 3, 1) := by decide +kernel
theorem dX7_find_2 : decode cX7_find 2 = .ok (.iload_n 3, 1) := by decide +kernel
theorem dX7_find_3 : decode cX7_find 3 = .ok (.bipush 10, 2) := by decide +kernel
theorem dX7_find_5 : decode cX7_find 5 = .ok (.if_icmp .ge 21, 3) := by decide +kernel
theorem dX7_find_8 : decode cX7_find 8 = .ok (.aload_n 0, 1) := by decide +kernel
theorem dX7_find_9 : decode cX7_find 9 = .ok (.getfield 18, 3) := by decide +kernel
theorem dX7_find_12 : decode cX7_find 12 = .ok (.iload_n 3, 1) := by decide +kernel
theorem dX7_find_13 : decode cX7_find 13 = .ok (.aload_n 2, 1) := by decide +kernel
theorem dX7_find_14 : decode cX7_find 14 = .ok (.aload_n 1, 1) := by decide +kernel
theorem dX7_find_15 : decode cX7_find 15 = .ok (.iload_n 3, 1) := by decide +kernel
theorem dX7_find_16 : decode cX7_find 16 = .ok (.invokevirtual 27, 3) := by decide +kernel
theorem dX7_find_19 : decode cX7_find 19 = .ok (.iastore, 1) := by decide +kernel
theorem dX7_find_20 : decode cX7_find 20 = .ok (.iinc 3 1, 3) := by decide +kernel
theorem dX7_find_23 : decode cX7_find 23 = .ok (.goto (-21), 3) := by decide +kernel
theorem dX7_find_26 : decode cX7_find 26 = .ok (.iconst 0, 1) := by decide +kernel
theorem dX7_find_27 : decode cX7_find 27 = .ok (.istore_n 3, 1) := by decide +kernel
theorem dX7_find_28 : decode cX7_find 28 = .ok (.iload_n 3, 1) := by decide +kernel
theorem dX7_find_29 : decode cX7_find 29 = .ok (.bipush 10, 2) := by decide +kernel
theorem dX7_find_31 : decode cX7_find 31 = .ok (.if_icmp .ge 80, 3) := by decide +kernel
theorem dX7_find_34 : decode cX7_find 34 = .ok (.aload_n 0, 1) := by decide +kernel
theorem dX7_find_35 : decode cX7_find 35 = .ok (.aload_n 1, 1) := by decide +kernel
theorem dX7_find_36 : decode cX7_find 36 = .ok (.iload_n 3, 1) := by decide +kernel
theorem dX7_find_37 : decode cX7_find 37 = .ok (.aload_n 2, 1) := by decide +kernel
theorem dX7_find_38 : decode cX7_find 38 = .ok (.iload_n 3, 1) := by decide +kernel
theorem dX7_find_39 : decode cX7_find 39 = .ok (.invokevirtual 33, 3) := by decide +kernel
theorem dX7_find_42 : decode cX7_find 42 = .ok (.invokevirtual 37, 3) := by decide +kernel
theorem dX7_find_45 : decode cX7_find 45 = .ok (.istore 4, 2) := by decide +kernel
theorem dX7_find_47 : decode cX7_find 47 = .ok (.aload_n 0, 1) := by decide +kernel
theorem dX7_find_48 : decode cX7_find 48 = .ok (.getfield 9, 3) := by decide +kernel
theorem dX7_find_51 : decode cX7_find 51 = .ok (.iload_n 3, 1) := by decide +kernel
theorem dX7_find_52 : decode cX7_find 52 = .ok (.iload 4, 2) := by decide +kernel
theorem dX7_find_54 : decode cX7_find 54 = .ok (.iastore, 1) := by decide +kernel
theorem dX7_find_55 : decode cX7_find 55 = .ok (.iload 4, 2) := by decide +kernel
theorem dX7_find_57 : decode cX7_find 57 = .ok (.ifCond .lt 14, 3) := by decide +kernel
theorem dX7_find_71 : decode cX7_find 71 = .ok (.iconst 0, 1) := by decide +kernel
theorem dX7_find_72 : decode cX7_find 72 = .ok (.istore 5, 2) := by decide +kernel
theorem dX7_find_74 : decode cX7_find 74 = .ok (.aload_n 0, 1) := by decide +kernel
theorem dX7_find_75 : decode cX7_find 75 = .ok (.getfield 15, 3) := by decide +kernel
theorem dX7_find_78 : decode cX7_find 78 = .ok (.iload_n 3, 1) := by decide +kernel
theorem dX7_find_79 : decode cX7_find 79 = .ok (.iload 5, 2) := by decide +kernel
theorem dX7_find_81 : decode cX7_find 81 = .ok (.ifCond .eq 22, 3) := by decide +kernel
theorem dX7_find_103 : decode cX7_find 103 = .ok (.iconst (-1), 1) := by decide +kernel
theorem dX7_find_104 : decode cX7_find 104 = .ok (.iastore, 1) := by decide +kernel
theorem dX7_find_105 : decode cX7_find 105 = .ok (.iinc 3 1, 3) := by decide +kernel
theorem dX7_find_108 : decode cX7_find 108 = .ok (.goto (-80), 3) := by decide +kernel
theorem dX7_find_111 : decode cX7_find 111 = .ok (.aload_n 0, 1) := by decide +kernel
theorem dX7_find_112 : decode cX7_find 112 = .ok (.iconst 0, 1) := by decide +kernel
theorem dX7_find_113 : decode cX7_find 113 = .ok (.putfield 53, 3) := by decide +kernel
theorem dX7_find_116 : decode cX7_find 116 = .ok (.iconst 0, 1) := by decide +kernel
theorem dX7_find_117 : decode cX7_find 117 = .ok (.istore_n 3, 1) := by decide +kernel
theorem dX7_find_118 : decode cX7_find 118 = .ok (.iload_n 3, 1) := by decide +kernel
theorem dX7_find_119 : decode cX7_find 119 = .ok (.bipush 10, 2) := by decide +kernel
theorem dX7_find_121 : decode cX7_find 121 = .ok (.if_icmp .ge 68, 3) := by decide +kernel
theorem dX7_find_124 : decode cX7_find 124 = .ok (.aload_n 0, 1) := by decide +kernel
theorem dX7_find_125 : decode cX7_find 125 = .ok (.iload_n 3, 1) := by decide +kernel
theorem dX7_find_126 : decode cX7_find 126 = .ok (.invokevirtual 57, 3) := by decide +kernel
theorem dX7_find_129 : decode cX7_find 129 = .ok (.istore 4, 2) := by decide +kernel
theorem dX7_find_131 : decode cX7_find 131 = .ok (.iload 4, 2) := by decide +kernel
theorem dX7_find_133 : decode cX7_find 133 = .ok (.ifCond .le 50, 3) := by decide +kernel
theorem dX7_find_183 : decode cX7_find 183 = .ok (.iinc 3 1, 3) := by decide +kernel
theorem dX7_find_186 : decode cX7_find 186 = .ok (.goto (-68), 3) := by decide +kernel
theorem dX7_find_189 : decode cX7_find 189 = .ok (.return_, 1) := by decide +kernel
theorem dX7_init_0 : decode cX7_init 0 = .ok (.aload_n 0, 1) := by decide +kernel
theorem dX7_init_1 : decode cX7_init 1 = .ok (.invokespecial 3, 3) := by decide +kernel
theorem dX7_init_4 : decode cX7_init 4 = .ok (.aload_n 0, 1) := by decide +kernel
theorem dX7_init_5 : decode cX7_init 5 = .ok (.bipush 10, 2) := by decide +kernel
theorem dX7_init_7 : decode cX7_init 7 = .ok (.newarray .int, 2) := by decide +kernel
theorem dX7_init_9 : decode cX7_init 9 = .ok (.putfield 9, 3) := by decide +kernel
theorem dX7_init_12 : decode cX7_init 12 = .ok (.aload_n 0, 1) := by decide +kernel
theorem dX7_init_13 : decode cX7_init 13 = .ok (.bipush 10, 2) := by decide +kernel
theorem dX7_init_15 : decode cX7_init 15 = .ok (.newarray .int, 2) := by decide +kernel
theorem dX7_init_17 : decode cX7_init 17 = .ok (.putfield 15, 3) := by decide +kernel
theorem dX7_init_20 : decode cX7_init 20 = .ok (.aload_n 0, 1) := by decide +kernel
theorem dX7_init_21 : decode cX7_init 21 = .ok (.bipush 10, 2) := by decide +kernel
theorem dX7_init_23 : decode cX7_init 23 = .ok (.newarray .int, 2) := by decide +kernel
theorem dX7_init_25 : decode cX7_init 25 = .ok (.putfield 18, 3) := by decide +kernel
theorem dX7_init_28 : decode cX7_init 28 = .ok (.aload_n 0, 1) := by decide +kernel
theorem dX7_init_29 : decode cX7_init 29 = .ok (.bipush 10, 2) := by decide +kernel
theorem dX7_init_31 : decode cX7_init 31 = .ok (.newarray .int, 2) := by decide +kernel
theorem dX7_init_33 : decode cX7_init 33 = .ok (.putfield 21, 3) := by decide +kernel
theorem dX7_init_36 : decode cX7_init 36 = .ok (.aload_n 0, 1) := by decide +kernel
theorem dX7_init_37 : decode cX7_init 37 = .ok (.bipush 10, 2) := by decide +kernel
theorem dX7_init_39 : decode cX7_init 39 = .ok (.newarray .int, 2) := by decide +kernel
theorem dX7_init_41 : decode cX7_init 41 = .ok (.putfield 24, 3) := by decide +kernel
theorem dX7_init_44 : decode cX7_init 44 = .ok (.return_, 1) := by decide +kernel
theorem dX7_nextHouse_0 : decode cX7_nextHouse 0 = .ok (.iload_n 3, 1) := by decide +kernel
theorem dX7_nextHouse_1 : decode cX7_nextHouse 1 = .ok (.iconst (-1), 1) := by decide +kernel
theorem dX7_nextHouse_2 : decode cX7_nextHouse 2 = .ok (.if_icmp .ne 5, 3) := by decide +kernel
theorem dX7_nextHouse_5 : decode cX7_nextHouse 5 = .ok (.iconst (-1), 1) := by decide +kernel
theorem dX7_nextHouse_6 : decode cX7_nextHouse 6 = .ok (.ireturn, 1) := by decide +kernel
theorem dX7_nextPerson_0 : decode cX7_nextPerson 0 = .ok (.iload_n 1, 1) := by decide +kernel
theorem dX7_nextPerson_1 : decode cX7_nextPerson 1 = .ok (.ifCond .lt 18, 3) := by decide +kernel
theorem dX7_nextPerson_4 : decode cX7_nextPerson 4 = .ok (.iload_n 1, 1) := by decide +kernel
theorem dX7_nextPerson_5 : decode cX7_nextPerson 5 = .ok (.bipush 10, 2) := by decide +kernel
theorem dX7_nextPerson_7 : decode cX7_nextPerson 7 = .ok (.if_icmp .ge 12, 3) := by decide +kernel
theorem dX7_nextPerson_10 : decode cX7_nextPerson 10 = .ok (.aload_n 0, 1) := by decide +kernel
theorem dX7_nextPerson_11 : decode cX7_nextPerson 11 = .ok (.getfield 15, 3) := by decide +kernel
theorem dX7_nextPerson_14 : decode cX7_nextPerson 14 = .ok (.iload_n 1, 1) := by decide +kernel
theorem dX7_nextPerson_15 : decode cX7_nextPerson 15 = .ok (.iaload, 1) := by decide +kernel
theorem dX7_nextPerson_16 : decode cX7_nextPerson 16 = .ok (.goto 4, 3) := by decide +kernel
theorem dX7_nextPerson_19 : decode cX7_nextPerson 19 = .ok (.iconst (-1), 1) := by decide +kernel
theorem dX7_nextPerson_20 : decode cX7_nextPerson 20 = .ok (.ireturn, 1) := by decide +kernel
theorem dX7_ringSize_0 : decode cX7_ringSize 0 = .ok (.aload_n 0, 1) := by decide +kernel
theorem dX7_ringSize_1 : decode cX7_ringSize 1 = .ok (.iload_n 1, 1) := by decide +kernel
theorem dX7_ringSize_2 : decode cX7_ringSize 2 = .ok (.invokevirtual 69, 3) := by decide +kernel
theorem dX7_ringSize_5 : decode cX7_ringSize 5 = .ok (.istore_n 2, 1) := by decide +kernel
theorem dX7_ringSize_6 : decode cX7_ringSize 6 = .ok (.iconst 1, 1) := by decide +kernel
theorem dX7_ringSize_7 : decode cX7_ringSize 7 = .ok (.istore_n 3, 1) := by decide +kernel
theorem dX7_ringSize_8 : decode cX7_ringSize 8 = .ok (.iload_n 2, 1) := by decide +kernel
theorem dX7_ringSize_9 : decode cX7_ringSize 9 = .ok (.iload_n 1, 1) := by decide +kernel
theorem dX7_ringSize_10 : decode cX7_ringSize 10 = .ok (.if_icmp .le 21, 3) := by decide +kernel
theorem dX7_ringSize_31 : decode cX7_ringSize 31 = .ok (.iload_n 2, 1) := by decide +kernel
theorem dX7_ringSize_32 : decode cX7_ringSize 32 = .ok (.iload_n 1, 1) := by decide +kernel
theorem dX7_ringSize_33 : decode cX7_ringSize 33 = .ok (.if_icmp .ne 7, 3) := by decide +kernel
theorem dX7_ringSize_40 : decode cX7_ringSize 40 = .ok (.iconst 0, 1) := by decide +kernel
theorem dX7_ringSize_41 : decode cX7_ringSize 41 = .ok (.ireturn, 1) := by decide +kernel
theorem dX8_addTo_0 : decode cX8_addTo 0 = .ok (.lload_n 1, 1) := by decide +kernel
theorem dX8_addTo_1 : decode cX8_addTo 1 = .ok (.lstore_n 3, 1) := by decide +kernel
theorem dX8_addTo_2 : decode cX8_addTo 2 = .ok (.iconst 0, 1) := by decide +kernel
theorem dX8_addTo_3 : decode cX8_addTo 3 = .ok (.istore 5, 2) := by decide +kernel
theorem dX8_addTo_5 : decode cX8_addTo 5 = .ok (.iload 5, 2) := by decide +kernel
theorem dX8_addTo_7 : decode cX8_addTo 7 = .ok (.aload_n 0, 1) := by decide +kernel
theorem dX8_addTo_8 : decode cX8_addTo 8 = .ok (.getfield 19, 3) := by decide +kernel
theorem dX8_addTo_11 : decode cX8_addTo 11 = .ok (.if_icmp .ge 23, 3) := by decide +kernel
theorem dX8_addTo_34 : decode cX8_addTo 34 = .ok (.lload_n 3, 1) := by decide +kernel
theorem dX8_addTo_35 : decode cX8_addTo 35 = .ok (.lreturn, 1) := by decide +kernel
theorem dX8_append_0 : decode cX8_append 0 = .ok (.aload_n 0, 1) := by decide +kernel
theorem dX8_append_1 : decode cX8_append 1 = .ok (.getfield 19, 3) := by decide +kernel
theorem dX8_append_4 : decode cX8_append 4 = .ok (.ifCond .lt 32, 3) := by decide +kernel
theorem dX8_append_7 : decode cX8_append 7 = .ok (.aload_n 0, 1) := by decide +kernel
theorem dX8_append_8 : decode cX8_append 8 = .ok (.getfield 19, 3) := by decide +kernel
theorem dX8_append_11 : decode cX8_append 11 = .ok (.bipush 60, 2) := by decide +kernel
theorem dX8_append_13 : decode cX8_append 13 = .ok (.if_icmp .ge 23, 3) := by decide +kernel
theorem dX8_append_16 : decode cX8_append 16 = .ok (.aload_n 0, 1) := by decide +kernel
theorem dX8_append_17 : decode cX8_append 17 = .ok (.getfield 9, 3) := by decide +kernel
theorem dX8_append_20 : decode cX8_append 20 = .ok (.aload_n 0, 1) := by decide +kernel
theorem dX8_append_21 : decode cX8_append 21 = .ok (.getfield 19, 3) := by decide +kernel
theorem dX8_append_24 : decode cX8_append 24 = .ok (.iload_n 1, 1) := by decide +kernel
theorem dX8_append_25 : decode cX8_append 25 = .ok (.castore, 1) := by decide +kernel
theorem dX8_append_26 : decode cX8_append 26 = .ok (.aload_n 0, 1) := by decide +kernel
theorem dX8_append_27 : decode cX8_append 27 = .ok (.dup, 1) := by decide +kernel
theorem dX8_append_28 : decode cX8_append 28 = .ok (.getfield 19, 3) := by decide +kernel
theorem dX8_append_31 : decode cX8_append 31 = .ok (.iconst 1, 1) := by decide +kernel
theorem dX8_append_32 : decode cX8_append 32 = .ok (.iadd, 1) := by decide +kernel
theorem dX8_append_33 : decode cX8_append 33 = .ok (.putfield 19, 3) := by decide +kernel
theorem dX8_append_36 : decode cX8_append 36 = .ok (.return_, 1) := by decide +kernel
theorem dX8_clear_0 : decode cX8_clear 0 = .ok (.aload_n 0, 1) := by decide +kernel
theorem dX8_clear_1 : decode cX8_clear 1 = .ok (.iconst 0, 1) := by decide +kernel
theorem dX8_clear_2 : decode cX8_clear 2 = .ok (.putfield 19, 3) := by decide +kernel
theorem dX8_clear_5 : decode cX8_clear 5 = .ok (.return_, 1) := by decide +kernel
theorem dX8_init_0 : decode cX8_init 0 = .ok (.aload_n 0, 1) := by decide +kernel
theorem dX8_init_1 : decode cX8_init 1 = .ok (.invokespecial 3, 3) := by decide +kernel
theorem dX8_init_4 : decode cX8_init 4 = .ok (.aload_n 0, 1) := by decide +kernel
theorem dX8_init_5 : decode cX8_init 5 = .ok (.bipush 60, 2) := by decide +kernel
theorem dX8_init_7 : decode cX8_init 7 = .ok (.newarray .char, 2) := by decide +kernel
theorem dX8_init_9 : decode cX8_init 9 = .ok (.putfield 9, 3) := by decide +kernel
theorem dX8_init_12 : decode cX8_init 12 = .ok (.aload_n 0, 1) := by decide +kernel
theorem dX8_init_13 : decode cX8_init 13 = .ok (.bipush 10, 2) := by decide +kernel
theorem dX8_init_15 : decode cX8_init 15 = .ok (.newarray .int, 2) := by decide +kernel
theorem dX8_init_17 : decode cX8_init 17 = .ok (.putfield 15, 3) := by decide +kernel
theorem dX8_init_20 : decode cX8_init 20 = .ok (.return_, 1) := by decide +kernel
theorem dX9_init_0 : decode cX9_init 0 = .ok (.aload_n 0, 1) := by decide +kernel
theorem dX9_init_1 : decode cX9_init 1 = .ok (.invokespecial 3, 3) := by decide +kernel
theorem dX9_init_4 : decode cX9_init 4 = .ok (.aload_n 0, 1) := by decide +kernel
theorem dX9_init_5 : decode cX9_init 5 = .ok (.bipush 10, 2) := by decide +kernel
theorem dX9_init_7 : decode cX9_init 7 = .ok (.newarray .int, 2) := by decide +kernel
theorem dX9_init_9 : decode cX9_init 9 = .ok (.putfield 9, 3) := by decide +kernel
theorem dX9_init_12 : decode cX9_init 12 = .ok (.aload_n 0, 1) := by decide +kernel
theorem dX9_init_13 : decode cX9_init 13 = .ok (.bipush 10, 2) := by decide +kernel
theorem dX9_init_15 : decode cX9_init 15 = .ok (.newarray .int, 2) := by decide +kernel
theorem dX9_init_17 : decode cX9_init 17 = .ok (.putfield 15, 3) := by decide +kernel
theorem dX9_init_20 : decode cX9_init 20 = .ok (.return_, 1) := by decide +kernel
theorem dX9_settleAll_0 : decode cX9_settleAll 0 = .ok (.aload_n 0, 1) := by decide +kernel
theorem dX9_settleAll_1 : decode cX9_settleAll 1 = .ok (.iconst 0, 1) := by decide +kernel
theorem dX9_settleAll_2 : decode cX9_settleAll 2 = .ok (.putfield 18, 3) := by decide +kernel
theorem dX9_settleAll_5 : decode cX9_settleAll 5 = .ok (.aload_n 0, 1) := by decide +kernel
theorem dX9_settleAll_6 : decode cX9_settleAll 6 = .ok (.getfield 15, 3) := by decide +kernel
theorem dX9_settleAll_9 : decode cX9_settleAll 9 = .ok (.iconst 0, 1) := by decide +kernel
theorem dX9_settleAll_10 : decode cX9_settleAll 10 = .ok (.invokestatic 22, 3) := by decide +kernel
theorem dX9_settleAll_13 : decode cX9_settleAll 13 = .ok (.iconst 1, 1) := by decide +kernel
theorem dX9_settleAll_14 : decode cX9_settleAll 14 = .ok (.istore_n 2, 1) := by decide +kernel
theorem dX9_settleAll_15 : decode cX9_settleAll 15 = .ok (.iload_n 2, 1) := by decide +kernel
theorem dX9_settleAll_16 : decode cX9_settleAll 16 = .ok (.aload_n 1, 1) := by decide +kernel
theorem dX9_settleAll_17 : decode cX9_settleAll 17 = .ok (.getfield 28, 3) := by decide +kernel
theorem dX9_settleAll_20 : decode cX9_settleAll 20 = .ok (.if_icmp .gt 15, 3) := by decide +kernel
theorem dX9_settleAll_35 : decode cX9_settleAll 35 = .ok (.return_, 1) := by decide +kernel
