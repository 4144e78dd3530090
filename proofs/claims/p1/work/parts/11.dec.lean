theorem dJ7_fill_53178_0 : decode cJ7_fill_53178 0 = .ok (.iconst 0, 1) := by decide +kernel
theorem dJ7_fill_53178_1 : decode cJ7_fill_53178 1 = .ok (.istore_n 2, 1) := by decide +kernel
theorem dJ7_fill_53178_2 : decode cJ7_fill_53178 2 = .ok (.aload_n 0, 1) := by decide +kernel
theorem dJ7_fill_53178_3 : decode cJ7_fill_53178 3 = .ok (.arraylength, 1) := by decide +kernel
theorem dJ7_fill_53178_4 : decode cJ7_fill_53178 4 = .ok (.istore_n 3, 1) := by decide +kernel
theorem dJ7_fill_53178_5 : decode cJ7_fill_53178 5 = .ok (.iload_n 2, 1) := by decide +kernel
theorem dJ7_fill_53178_6 : decode cJ7_fill_53178 6 = .ok (.iload_n 3, 1) := by decide +kernel
theorem dJ7_fill_53178_7 : decode cJ7_fill_53178 7 = .ok (.if_icmp .ge 13, 3) := by decide +kernel
theorem dJ7_fill_53178_10 : decode cJ7_fill_53178 10 = .ok (.aload_n 0, 1) := by decide +kernel
theorem dJ7_fill_53178_11 : decode cJ7_fill_53178 11 = .ok (.iload_n 2, 1) := by decide +kernel
theorem dJ7_fill_53178_12 : decode cJ7_fill_53178 12 = .ok (.iload_n 1, 1) := by decide +kernel
theorem dJ7_fill_53178_13 : decode cJ7_fill_53178 13 = .ok (.iastore, 1) := by decide +kernel
theorem dJ7_fill_53178_14 : decode cJ7_fill_53178 14 = .ok (.iinc 2 1, 3) := by decide +kernel
theorem dJ7_fill_53178_17 : decode cJ7_fill_53178 17 = .ok (.goto (-12), 3) := by decide +kernel
theorem dJ7_fill_53178_20 : decode cJ7_fill_53178 20 = .ok (.return_, 1) := by decide +kernel
theorem dL_places_0 : decode cL_places 0 = .ok (.aload_n 3, 1) := by decide +kernel
theorem dL_places_1 : decode cL_places 1 = .ok (.iconst 0, 1) := by decide +kernel
theorem dL_places_2 : decode cL_places 2 = .ok (.aload_n 0, 1) := by decide +kernel
theorem dL_places_3 : decode cL_places 3 = .ok (.iload_n 1, 1) := by decide +kernel
theorem dL_places_4 : decode cL_places 4 = .ok (.iload_n 2, 1) := by decide +kernel
theorem dL_places_5 : decode cL_places 5 = .ok (.invokevirtual 20, 3) := by decide +kernel
theorem dL_places_13 : decode cL_places 13 = .ok (.astore 4, 2) := by decide +kernel
theorem dL_places_15 : decode cL_places 15 = .ok (.iconst 1, 1) := by decide +kernel
theorem dL_places_16 : decode cL_places 16 = .ok (.ireturn, 1) := by decide +kernel
theorem dX10_begin_0 : decode cX10_begin 0 = .ok (.aload_n 0, 1) := by decide +kernel
theorem dX10_begin_1 : decode cX10_begin 1 = .ok (.iload_n 1, 1) := by decide +kernel
theorem dX10_begin_2 : decode cX10_begin 2 = .ok (.invokevirtual 198, 3) := by decide +kernel
theorem dX10_begin_5 : decode cX10_begin 5 = .ok (.aload_n 0, 1) := by decide +kernel
theorem dX10_begin_6 : decode cX10_begin 6 = .ok (.getfield 37, 3) := by decide +kernel
theorem dX10_begin_9 : decode cX10_begin 9 = .ok (.invokevirtual 201, 3) := by decide +kernel
theorem dX10_begin_12 : decode cX10_begin 12 = .ok (.aload_n 0, 1) := by decide +kernel
theorem dX10_begin_13 : decode cX10_begin 13 = .ok (.getfield 44, 3) := by decide +kernel
theorem dX10_begin_16 : decode cX10_begin 16 = .ok (.iload_n 1, 1) := by decide +kernel
theorem dX10_begin_17 : decode cX10_begin 17 = .ok (.invokevirtual 202, 3) := by decide +kernel
theorem dX10_begin_20 : decode cX10_begin 20 = .ok (.aload_n 0, 1) := by decide +kernel
theorem dX10_begin_21 : decode cX10_begin 21 = .ok (.getfield 44, 3) := by decide +kernel
theorem dX10_begin_24 : decode cX10_begin 24 = .ok (.aload_n 0, 1) := by decide +kernel
theorem dX10_begin_25 : decode cX10_begin 25 = .ok (.getfield 10, 3) := by decide +kernel
theorem dX10_begin_28 : decode cX10_begin 28 = .ok (.aload_n 0, 1) := by decide +kernel
theorem dX10_begin_29 : decode cX10_begin 29 = .ok (.getfield 37, 3) := by decide +kernel
theorem dX10_begin_32 : decode cX10_begin 32 = .ok (.invokevirtual 205, 3) := by decide +kernel
theorem dX10_begin_35 : decode cX10_begin 35 = .ok (.ireturn, 1) := by decide +kernel
theorem dX10_blocks_0 : decode cX10_blocks 0 = .ok (.aload_n 0, 1) := by decide +kernel
theorem dX10_blocks_1 : decode cX10_blocks 1 = .ok (.getfield 37, 3) := by decide +kernel
theorem dX10_blocks_4 : decode cX10_blocks 4 = .ok (.aload_n 0, 1) := by decide +kernel
theorem dX10_blocks_5 : decode cX10_blocks 5 = .ok (.getfield 10, 3) := by decide +kernel
theorem dX10_blocks_8 : decode cX10_blocks 8 = .ok (.invokevirtual 290, 3) := by decide +kernel
theorem dX10_blocks_11 : decode cX10_blocks 11 = .ok (.ireturn, 1) := by decide +kernel
theorem dX10_needHouse_0 : decode cX10_needHouse 0 = .ok (.aload_n 0, 1) := by decide +kernel
theorem dX10_needHouse_1 : decode cX10_needHouse 1 = .ok (.getfield 10, 3) := by decide +kernel
theorem dX10_needHouse_4 : decode cX10_needHouse 4 = .ok (.getfield 368, 3) := by decide +kernel
theorem dX10_needHouse_7 : decode cX10_needHouse 7 = .ok (.iload_n 1, 1) := by decide +kernel
theorem dX10_needHouse_8 : decode cX10_needHouse 8 = .ok (.invokevirtual 216, 3) := by decide +kernel
theorem dX10_needHouse_11 : decode cX10_needHouse 11 = .ok (.ifCond .ne 14, 3) := by decide +kernel
theorem dX10_needHouse_14 : decode cX10_needHouse 14 = .ok (.new 220, 3) := by decide +kernel
theorem dX10_needHouse_17 : decode cX10_needHouse 17 = .ok (.dup, 1) := by decide +kernel
theorem dX10_needHouse_18 : decode cX10_needHouse 18 = .ok (.ldc_w 470, 3) := by decide +kernel
theorem dX10_needHouse_21 : decode cX10_needHouse 21 = .ok (.invokespecial 224, 3) := by decide +kernel
theorem dX10_needHouse_24 : decode cX10_needHouse 24 = .ok (.athrow, 1) := by decide +kernel
theorem dX10_needOfferSide_0 : decode cX10_needOfferSide 0 = .ok (.iload_n 1, 1) := by decide +kernel
theorem dX10_needOfferSide_1 : decode cX10_needOfferSide 1 = .ok (.bipush 112, 2) := by decide +kernel
theorem dX10_needOfferSide_3 : decode cX10_needOfferSide 3 = .ok (.if_icmp .eq 20, 3) := by decide +kernel
theorem dX10_needOfferSide_23 : decode cX10_needOfferSide 23 = .ok (.return_, 1) := by decide +kernel
theorem dX10_places_0 : decode cX10_places 0 = .ok (.aload_n 0, 1) := by decide +kernel
theorem dX10_places_1 : decode cX10_places 1 = .ok (.iload_n 1, 1) := by decide +kernel
theorem dX10_places_2 : decode cX10_places 2 = .ok (.invokevirtual 116, 3) := by decide +kernel
theorem dX11_fails_0 : decode cX11_fails 0 = .ok (.aload_n 0, 1) := by decide +kernel
theorem dX11_fails_1 : decode cX11_fails 1 = .ok (.iload_n 1, 1) := by decide +kernel
theorem dX11_fails_2 : decode cX11_fails 2 = .ok (.ifCond .eq 7, 3) := by decide +kernel
theorem dX11_fails_5 : decode cX11_fails 5 = .ok (.iconst 1, 1) := by decide +kernel
theorem dX11_fails_6 : decode cX11_fails 6 = .ok (.goto 20, 3) := by decide +kernel
theorem dX11_fails_26 : decode cX11_fails 26 = .ok (.putfield 66, 3) := by decide +kernel
theorem dX11_fails_29 : decode cX11_fails 29 = .ok (.aload_n 0, 1) := by decide +kernel
theorem dX11_fails_30 : decode cX11_fails 30 = .ok (.getfield 66, 3) := by decide +kernel
theorem dX11_fails_33 : decode cX11_fails 33 = .ok (.ifCond .le 7, 3) := by decide +kernel
theorem dX11_fails_36 : decode cX11_fails 36 = .ok (.iconst 1, 1) := by decide +kernel
theorem dX11_fails_37 : decode cX11_fails 37 = .ok (.goto 4, 3) := by decide +kernel
theorem dX11_fails_41 : decode cX11_fails 41 = .ok (.ireturn, 1) := by decide +kernel
theorem dX11_in_0 : decode cX11_in 0 = .ok (.iload_n 0, 1) := by decide +kernel
theorem dX11_in_1 : decode cX11_in 1 = .ok (.iload_n 1, 1) := by decide +kernel
theorem dX11_in_2 : decode cX11_in 2 = .ok (.if_icmp .lt 12, 3) := by decide +kernel
theorem dX11_in_5 : decode cX11_in 5 = .ok (.iload_n 0, 1) := by decide +kernel
theorem dX11_in_6 : decode cX11_in 6 = .ok (.iload_n 2, 1) := by decide +kernel
theorem dX11_in_7 : decode cX11_in 7 = .ok (.if_icmp .gt 7, 3) := by decide +kernel
theorem dX11_in_10 : decode cX11_in 10 = .ok (.iconst 1, 1) := by decide +kernel
theorem dX11_in_11 : decode cX11_in 11 = .ok (.goto 4, 3) := by decide +kernel
theorem dX11_in_14 : decode cX11_in 14 = .ok (.iconst 0, 1) := by decide +kernel
theorem dX11_in_15 : decode cX11_in 15 = .ok (.ireturn, 1) := by decide +kernel
theorem dX11_isHouse_0 : decode cX11_isHouse 0 = .ok (.iload_n 1, 1) := by decide +kernel
theorem dX11_isHouse_1 : decode cX11_isHouse 1 = .ok (.iconst 0, 1) := by decide +kernel
theorem dX11_isHouse_2 : decode cX11_isHouse 2 = .ok (.aload_n 0, 1) := by decide +kernel
theorem dX11_isHouse_3 : decode cX11_isHouse 3 = .ok (.getfield 7, 3) := by decide +kernel
theorem dX11_isHouse_6 : decode cX11_isHouse 6 = .ok (.iconst 1, 1) := by decide +kernel
theorem dX11_isHouse_7 : decode cX11_isHouse 7 = .ok (.iaload, 1) := by decide +kernel
theorem dX11_isHouse_8 : decode cX11_isHouse 8 = .ok (.iconst 1, 1) := by decide +kernel
theorem dX11_isHouse_9 : decode cX11_isHouse 9 = .ok (.isub, 1) := by decide +kernel
theorem dX11_isHouse_10 : decode cX11_isHouse 10 = .ok (.invokestatic 78, 3) := by decide +kernel
theorem dX11_isHouse_13 : decode cX11_isHouse 13 = .ok (.ireturn, 1) := by decide +kernel
theorem dX11_places_0 : decode cX11_places 0 = .ok (.aload_n 0, 1) := by decide +kernel
theorem dX11_places_1 : decode cX11_places 1 = .ok (.aload_n 0, 1) := by decide +kernel
theorem dX11_places_2 : decode cX11_places 2 = .ok (.iload_n 1, 1) := by decide +kernel
theorem dX11_places_3 : decode cX11_places 3 = .ok (.invokevirtual 135, 3) := by decide +kernel
theorem dX11_places_6 : decode cX11_places 6 = .ok (.ifCond .ne 7, 3) := by decide +kernel
theorem dX11_places_9 : decode cX11_places 9 = .ok (.iconst 1, 1) := by decide +kernel
theorem dX11_places_10 : decode cX11_places 10 = .ok (.goto 4, 3) := by decide +kernel
theorem dX11_places_14 : decode cX11_places 14 = .ok (.iload_n 2, 1) := by decide +kernel
theorem dX11_places_15 : decode cX11_places 15 = .ok (.iconst 1, 1) := by decide +kernel
theorem dX11_places_16 : decode cX11_places 16 = .ok (.iconst 4, 1) := by decide +kernel
theorem dX11_places_17 : decode cX11_places 17 = .ok (.invokestatic 78, 3) := by decide +kernel
theorem dX11_places_20 : decode cX11_places 20 = .ok (.ifCond .ne 7, 3) := by decide +kernel
theorem dX11_places_23 : decode cX11_places 23 = .ok (.iconst 1, 1) := by decide +kernel
theorem dX11_places_24 : decode cX11_places 24 = .ok (.goto 4, 3) := by decide +kernel
theorem dX11_places_27 : decode cX11_places 27 = .ok (.iconst 0, 1) := by decide +kernel
theorem dX11_places_28 : decode cX11_places 28 = .ok (.iconst 0, 1) := by decide +kernel
theorem dX11_places_29 : decode cX11_places 29 = .ok (.invokevirtual 128, 3) := by decide +kernel
theorem dX11_places_32 : decode cX11_places 32 = .ok (.ifCond .eq 5, 3) := by decide +kernel
theorem dX11_places_35 : decode cX11_places 35 = .ok (.iconst 0, 1) := by decide +kernel
theorem dX11_places_36 : decode cX11_places 36 = .ok (.ireturn, 1) := by decide +kernel
theorem dX2_has_0 : decode cX2_has 0 = .ok (.iload_n 1, 1) := by decide +kernel
theorem dX2_has_1 : decode cX2_has 1 = .ok (.ifCond .lt 21, 3) := by decide +kernel
theorem dX2_has_4 : decode cX2_has 4 = .ok (.iload_n 1, 1) := by decide +kernel
theorem dX2_has_5 : decode cX2_has 5 = .ok (.aload_n 0, 1) := by decide +kernel
theorem dX2_has_6 : decode cX2_has 6 = .ok (.getfield 21, 3) := by decide +kernel
theorem dX2_has_9 : decode cX2_has 9 = .ok (.if_icmp .ge 13, 3) := by decide +kernel
theorem dX2_has_22 : decode cX2_has 22 = .ok (.iconst 0, 1) := by decide +kernel
theorem dX2_has_23 : decode cX2_has 23 = .ok (.ireturn, 1) := by decide +kernel
theorem dX2_placeOf_0 : decode cX2_placeOf 0 = .ok (.iload_n 1, 1) := by decide +kernel
theorem dX2_placeOf_1 : decode cX2_placeOf 1 = .ok (.ifCond .lt 27, 3) := by decide +kernel
theorem dX2_placeOf_4 : decode cX2_placeOf 4 = .ok (.iload_n 1, 1) := by decide +kernel
theorem dX2_placeOf_5 : decode cX2_placeOf 5 = .ok (.aload_n 0, 1) := by decide +kernel
theorem dX2_placeOf_6 : decode cX2_placeOf 6 = .ok (.getfield 21, 3) := by decide +kernel
theorem dX2_placeOf_9 : decode cX2_placeOf 9 = .ok (.if_icmp .ge 19, 3) := by decide +kernel
theorem dX2_placeOf_28 : decode cX2_placeOf 28 = .ok (.iconst (-1), 1) := by decide +kernel
theorem dX2_placeOf_29 : decode cX2_placeOf 29 = .ok (.ireturn, 1) := by decide +kernel
theorem dX2_sizeOf_0 : decode cX2_sizeOf 0 = .ok (.iload_n 1, 1) := by decide +kernel
theorem dX2_sizeOf_1 : decode cX2_sizeOf 1 = .ok (.ifCond .lt 26, 3) := by decide +kernel
theorem dX2_sizeOf_4 : decode cX2_sizeOf 4 = .ok (.iload_n 1, 1) := by decide +kernel
theorem dX2_sizeOf_5 : decode cX2_sizeOf 5 = .ok (.aload_n 0, 1) := by decide +kernel
theorem dX2_sizeOf_6 : decode cX2_sizeOf 6 = .ok (.getfield 21, 3) := by decide +kernel
theorem dX2_sizeOf_9 : decode cX2_sizeOf 9 = .ok (.if_icmp .ge 18, 3) := by decide +kernel
theorem dX2_sizeOf_27 : decode cX2_sizeOf 27 = .ok (.iconst 0, 1) := by decide +kernel
theorem dX2_sizeOf_28 : decode cX2_sizeOf 28 = .ok (.ireturn, 1) := by decide +kernel
theorem dX3_areMutual_0 : decode cX3_areMutual 0 = .ok (.aload_n 0, 1) := by decide +kernel
theorem dX3_areMutual_1 : decode cX3_areMutual 1 = .ok (.getfield 12, 3) := by decide +kernel
theorem dX3_areMutual_4 : decode cX3_areMutual 4 = .ok (.iload_n 1, 1) := by decide +kernel
theorem dX3_areMutual_5 : decode cX3_areMutual 5 = .ok (.iload_n 2, 1) := by decide +kernel
theorem dX3_areMutual_6 : decode cX3_areMutual 6 = .ok (.invokevirtual 25, 3) := by decide +kernel
theorem dX3_areMutual_9 : decode cX3_areMutual 9 = .ok (.iconst (-1), 1) := by decide +kernel
theorem dX3_areMutual_10 : decode cX3_areMutual 10 = .ok (.if_icmp .eq 20, 3) := by decide +kernel
theorem dX3_areMutual_30 : decode cX3_areMutual 30 = .ok (.iconst 0, 1) := by decide +kernel
theorem dX3_areMutual_31 : decode cX3_areMutual 31 = .ok (.ireturn, 1) := by decide +kernel
theorem dX4_canMake_0 : decode cX4_canMake 0 = .ok (.iload_n 3, 1) := by decide +kernel
theorem dX4_canMake_1 : decode cX4_canMake 1 = .ok (.ifCond .lt 27, 3) := by decide +kernel
theorem dX4_canMake_4 : decode cX4_canMake 4 = .ok (.iload_n 3, 1) := by decide +kernel
theorem dX4_canMake_5 : decode cX4_canMake 5 = .ok (.bipush 10, 2) := by decide +kernel
theorem dX4_canMake_7 : decode cX4_canMake 7 = .ok (.if_icmp .ge 21, 3) := by decide +kernel
theorem dX4_canMake_10 : decode cX4_canMake 10 = .ok (.aload_n 0, 1) := by decide +kernel
theorem dX4_canMake_11 : decode cX4_canMake 11 = .ok (.getfield 9, 3) := by decide +kernel
theorem dX4_canMake_14 : decode cX4_canMake 14 = .ok (.iload_n 3, 1) := by decide +kernel
theorem dX4_canMake_15 : decode cX4_canMake 15 = .ok (.iaload, 1) := by decide +kernel
theorem dX4_canMake_16 : decode cX4_canMake 16 = .ok (.aload_n 0, 1) := by decide +kernel
theorem dX4_canMake_17 : decode cX4_canMake 17 = .ok (.aload_n 1, 1) := by decide +kernel
theorem dX4_canMake_18 : decode cX4_canMake 18 = .ok (.invokevirtual 48, 3) := by decide +kernel
theorem dX4_canMake_21 : decode cX4_canMake 21 = .ok (.iload_n 3, 1) := by decide +kernel
theorem dX4_canMake_22 : decode cX4_canMake 22 = .ok (.invokevirtual 52, 3) := by decide +kernel
theorem dX4_canMake_25 : decode cX4_canMake 25 = .ok (.if_icmp .lt 5, 3) := by decide +kernel
theorem dX4_canMake_28 : decode cX4_canMake 28 = .ok (.iconst 0, 1) := by decide +kernel
theorem dX4_canMake_29 : decode cX4_canMake 29 = .ok (.ireturn, 1) := by decide +kernel
theorem dX4_countAble_0 : decode cX4_countAble 0 = .ok (.iconst 0, 1) := by decide +kernel
theorem dX4_countAble_1 : decode cX4_countAble 1 = .ok (.istore_n 3, 1) := by decide +kernel
theorem dX4_countAble_2 : decode cX4_countAble 2 = .ok (.iconst 0, 1) := by decide +kernel
theorem dX4_countAble_3 : decode cX4_countAble 3 = .ok (.istore 4, 2) := by decide +kernel
theorem dX4_countAble_5 : decode cX4_countAble 5 = .ok (.iload 4, 2) := by decide +kernel
theorem dX4_countAble_7 : decode cX4_countAble 7 = .ok (.bipush 10, 2) := by decide +kernel
theorem dX4_countAble_9 : decode cX4_countAble 9 = .ok (.if_icmp .ge 23, 3) := by decide +kernel
theorem dX4_countAble_12 : decode cX4_countAble 12 = .ok (.aload_n 0, 1) := by decide +kernel
theorem dX4_countAble_13 : decode cX4_countAble 13 = .ok (.aload_n 1, 1) := by decide +kernel
theorem dX4_countAble_14 : decode cX4_countAble 14 = .ok (.aload_n 2, 1) := by decide +kernel
theorem dX4_countAble_15 : decode cX4_countAble 15 = .ok (.iload 4, 2) := by decide +kernel
theorem dX4_countAble_17 : decode cX4_countAble 17 = .ok (.invokevirtual 67, 3) := by decide +kernel
theorem dX4_countAble_20 : decode cX4_countAble 20 = .ok (.ifCond .eq 6, 3) := by decide +kernel
theorem dX4_countAble_26 : decode cX4_countAble 26 = .ok (.iinc 4 1, 3) := by decide +kernel
theorem dX4_countAble_29 : decode cX4_countAble 29 = .ok (.goto (-24), 3) := by decide +kernel
theorem dX4_countAble_32 : decode cX4_countAble 32 = .ok (.iload_n 3, 1) := by decide +kernel
theorem dX4_countAble_33 : decode cX4_countAble 33 = .ok (.ireturn, 1) := by decide +kernel
theorem dX4_offerers_0 : decode cX4_offerers 0 = .ok (.aload_n 0, 1) := by decide +kernel
theorem dX4_offerers_1 : decode cX4_offerers 1 = .ok (.getfield 26, 3) := by decide +kernel
theorem dX4_offerers_4 : decode cX4_offerers 4 = .ok (.ifCond .eq 10, 3) := by decide +kernel
theorem dX4_offerers_14 : decode cX4_offerers 14 = .ok (.aload_n 1, 1) := by decide +kernel
theorem dX4_offerers_15 : decode cX4_offerers 15 = .ok (.getfield 45, 3) := by decide +kernel
theorem dX4_offerers_18 : decode cX4_offerers 18 = .ok (.areturn, 1) := by decide +kernel
theorem dX4_start_0 : decode cX4_start 0 = .ok (.aload_n 0, 1) := by decide +kernel
theorem dX4_start_1 : decode cX4_start 1 = .ok (.iconst 1, 1) := by decide +kernel
theorem dX4_start_2 : decode cX4_start 2 = .ok (.putfield 22, 3) := by decide +kernel
theorem dX4_start_5 : decode cX4_start 5 = .ok (.aload_n 0, 1) := by decide +kernel
theorem dX4_start_6 : decode cX4_start 6 = .ok (.iload_n 1, 1) := by decide +kernel
theorem dX4_start_7 : decode cX4_start 7 = .ok (.bipush 104, 2) := by decide +kernel
theorem dX4_start_9 : decode cX4_start 9 = .ok (.if_icmp .ne 7, 3) := by decide +kernel
theorem dX4_start_16 : decode cX4_start 16 = .ok (.iconst 0, 1) := by decide +kernel
theorem dX4_start_17 : decode cX4_start 17 = .ok (.putfield 26, 3) := by decide +kernel
theorem dX4_start_20 : decode cX4_start 20 = .ok (.aload_n 0, 1) := by decide +kernel
theorem dX4_start_21 : decode cX4_start 21 = .ok (.iconst 0, 1) := by decide +kernel
theorem dX4_start_22 : decode cX4_start 22 = .ok (.putfield 29, 3) := by decide +kernel
theorem dX4_start_25 : decode cX4_start 25 = .ok (.aload_n 0, 1) := by decide +kernel
theorem dX4_start_26 : decode cX4_start 26 = .ok (.getfield 9, 3) := by decide +kernel
theorem dX4_start_29 : decode cX4_start 29 = .ok (.iconst 0, 1) := by decide +kernel
theorem dX4_start_30 : decode cX4_start 30 = .ok (.invokestatic 33, 3) := by decide +kernel
theorem dX4_start_33 : decode cX4_start 33 = .ok (.return_, 1) := by decide +kernel
theorem dX5_clear_0 : decode cX5_clear 0 = .ok (.aload_n 0, 1) := by decide +kernel
theorem dX5_clear_1 : decode cX5_clear 1 = .ok (.getfield 9, 3) := by decide +kernel
theorem dX5_clear_4 : decode cX5_clear 4 = .ok (.iconst (-1), 1) := by decide +kernel
theorem dX5_clear_5 : decode cX5_clear 5 = .ok (.invokestatic 18, 3) := by decide +kernel
theorem dX5_clear_8 : decode cX5_clear 8 = .ok (.aload_n 0, 1) := by decide +kernel
theorem dX5_clear_9 : decode cX5_clear 9 = .ok (.getfield 15, 3) := by decide +kernel
theorem dX5_clear_12 : decode cX5_clear 12 = .ok (.iconst 0, 1) := by decide +kernel
theorem dX5_clear_13 : decode cX5_clear 13 = .ok (.invokestatic 18, 3) := by decide +kernel
theorem dX5_clear_16 : decode cX5_clear 16 = .ok (.return_, 1) := by decide +kernel
theorem dX5_countBlocks_0 : decode cX5_countBlocks 0 = .ok (.iconst 0, 1) := by decide +kernel
theorem dX5_countBlocks_1 : decode cX5_countBlocks 1 = .ok (.istore_n 2, 1) := by decide +kernel
theorem dX5_countBlocks_2 : decode cX5_countBlocks 2 = .ok (.iconst 0, 1) := by decide +kernel
theorem dX5_countBlocks_3 : decode cX5_countBlocks 3 = .ok (.istore_n 3, 1) := by decide +kernel
theorem dX5_countBlocks_4 : decode cX5_countBlocks 4 = .ok (.iload_n 3, 1) := by decide +kernel
theorem dX5_countBlocks_5 : decode cX5_countBlocks 5 = .ok (.bipush 100, 2) := by decide +kernel
theorem dX5_countBlocks_7 : decode cX5_countBlocks 7 = .ok (.if_icmp .ge 28, 3) := by decide +kernel
theorem dX5_countBlocks_10 : decode cX5_countBlocks 10 = .ok (.aload_n 0, 1) := by decide +kernel
theorem dX5_countBlocks_11 : decode cX5_countBlocks 11 = .ok (.aload_n 1, 1) := by decide +kernel
theorem dX5_countBlocks_12 : decode cX5_countBlocks 12 = .ok (.iload_n 3, 1) := by decide +kernel
theorem dX5_countBlocks_13 : decode cX5_countBlocks 13 = .ok (.bipush 10, 2) := by decide +kernel
theorem dX5_countBlocks_15 : decode cX5_countBlocks 15 = .ok (.idiv, 1) := by decide +kernel
theorem dX5_countBlocks_16 : decode cX5_countBlocks 16 = .ok (.iload_n 3, 1) := by decide +kernel
theorem dX5_countBlocks_17 : decode cX5_countBlocks 17 = .ok (.bipush 10, 2) := by decide +kernel
theorem dX5_countBlocks_19 : decode cX5_countBlocks 19 = .ok (.irem, 1) := by decide +kernel
theorem dX5_countBlocks_20 : decode cX5_countBlocks 20 = .ok (.invokevirtual 77, 3) := by decide +kernel
theorem dX5_countBlocks_23 : decode cX5_countBlocks 23 = .ok (.ifCond .eq 6, 3) := by decide +kernel
theorem dX5_countBlocks_29 : decode cX5_countBlocks 29 = .ok (.iinc 3 1, 3) := by decide +kernel
theorem dX5_countBlocks_32 : decode cX5_countBlocks 32 = .ok (.goto (-28), 3) := by decide +kernel
theorem dX5_countBlocks_35 : decode cX5_countBlocks 35 = .ok (.iload_n 2, 1) := by decide +kernel
theorem dX5_countBlocks_36 : decode cX5_countBlocks 36 = .ok (.ireturn, 1) := by decide +kernel
theorem dX5_isBlock_0 : decode cX5_isBlock 0 = .ok (.aload_n 1, 1) := by decide +kernel
theorem dX5_isBlock_1 : decode cX5_isBlock 1 = .ok (.iload_n 2, 1) := by decide +kernel
theorem dX5_isBlock_2 : decode cX5_isBlock 2 = .ok (.iload_n 3, 1) := by decide +kernel
theorem dX5_isBlock_3 : decode cX5_isBlock 3 = .ok (.invokevirtual 66, 3) := by decide +kernel
theorem dX5_isBlock_6 : decode cX5_isBlock 6 = .ok (.ifCond .ne 5, 3) := by decide +kernel
theorem dX5_isBlock_9 : decode cX5_isBlock 9 = .ok (.iconst 0, 1) := by decide +kernel
theorem dX5_isBlock_10 : decode cX5_isBlock 10 = .ok (.ireturn, 1) := by decide +kernel
