theorem dX1_isSet_0 : decode cX1_isSet 0 = .ok (.iload_n 1, 1) := by decide +kernel
theorem dX1_isSet_1 : decode cX1_isSet 1 = .ok (.ifCond .lt 23, 3) := by decide +kernel
theorem dX1_isSet_4 : decode cX1_isSet 4 = .ok (.iload_n 1, 1) := by decide +kernel
theorem dX1_isSet_5 : decode cX1_isSet 5 = .ok (.iconst 4, 1) := by decide +kernel
theorem dX1_isSet_6 : decode cX1_isSet 6 = .ok (.if_icmp .ge 18, 3) := by decide +kernel
theorem dX1_isSet_9 : decode cX1_isSet 9 = .ok (.aload_n 0, 1) := by decide +kernel
theorem dX1_isSet_10 : decode cX1_isSet 10 = .ok (.getfield 9, 3) := by decide +kernel
theorem dX1_isSet_13 : decode cX1_isSet 13 = .ok (.iload_n 1, 1) := by decide +kernel
theorem dX1_isSet_14 : decode cX1_isSet 14 = .ok (.iaload, 1) := by decide +kernel
theorem dX1_isSet_15 : decode cX1_isSet 15 = .ok (.bipush (-4), 2) := by decide +kernel
theorem dX1_isSet_17 : decode cX1_isSet 17 = .ok (.if_icmp .eq 7, 3) := by decide +kernel
theorem dX1_isSet_24 : decode cX1_isSet 24 = .ok (.iconst 0, 1) := by decide +kernel
theorem dX1_isSet_25 : decode cX1_isSet 25 = .ok (.ireturn, 1) := by decide +kernel
theorem dX1_setMany_0 : decode cX1_setMany 0 = .ok (.iconst 0, 1) := by decide +kernel
theorem dX1_setMany_1 : decode cX1_setMany 1 = .ok (.istore_n 1, 1) := by decide +kernel
theorem dX1_setMany_2 : decode cX1_setMany 2 = .ok (.iconst 0, 1) := by decide +kernel
theorem dX1_setMany_3 : decode cX1_setMany 3 = .ok (.istore_n 2, 1) := by decide +kernel
theorem dX1_setMany_4 : decode cX1_setMany 4 = .ok (.iload_n 2, 1) := by decide +kernel
theorem dX1_setMany_5 : decode cX1_setMany 5 = .ok (.iconst 4, 1) := by decide +kernel
theorem dX1_setMany_6 : decode cX1_setMany 6 = .ok (.if_icmp .ge 25, 3) := by decide +kernel
theorem dX1_setMany_9 : decode cX1_setMany 9 = .ok (.iload_n 1, 1) := by decide +kernel
theorem dX1_setMany_10 : decode cX1_setMany 10 = .ok (.aload_n 0, 1) := by decide +kernel
theorem dX1_setMany_11 : decode cX1_setMany 11 = .ok (.iload_n 2, 1) := by decide +kernel
theorem dX1_setMany_12 : decode cX1_setMany 12 = .ok (.invokevirtual 35, 3) := by decide +kernel
theorem dX1_setMany_15 : decode cX1_setMany 15 = .ok (.ifCond .eq 7, 3) := by decide +kernel
theorem dX1_setMany_22 : decode cX1_setMany 22 = .ok (.iconst 0, 1) := by decide +kernel
theorem dX1_setMany_23 : decode cX1_setMany 23 = .ok (.iadd, 1) := by decide +kernel
theorem dX1_setMany_24 : decode cX1_setMany 24 = .ok (.istore_n 1, 1) := by decide +kernel
theorem dX1_setMany_25 : decode cX1_setMany 25 = .ok (.iinc 2 1, 3) := by decide +kernel
theorem dX1_setMany_28 : decode cX1_setMany 28 = .ok (.goto (-24), 3) := by decide +kernel
theorem dX1_setMany_31 : decode cX1_setMany 31 = .ok (.iload_n 1, 1) := by decide +kernel
theorem dX1_setMany_32 : decode cX1_setMany 32 = .ok (.ireturn, 1) := by decide +kernel
theorem dX1_seenMany_0 : decode cX1_seenMany 0 = .ok (.iconst 0, 1) := by decide +kernel
theorem dX1_seenMany_1 : decode cX1_seenMany 1 = .ok (.istore_n 1, 1) := by decide +kernel
theorem dX1_seenMany_2 : decode cX1_seenMany 2 = .ok (.iconst 0, 1) := by decide +kernel
theorem dX1_seenMany_3 : decode cX1_seenMany 3 = .ok (.istore_n 2, 1) := by decide +kernel
theorem dX1_seenMany_4 : decode cX1_seenMany 4 = .ok (.iload_n 2, 1) := by decide +kernel
theorem dX1_seenMany_5 : decode cX1_seenMany 5 = .ok (.aload_n 0, 1) := by decide +kernel
theorem dX1_seenMany_6 : decode cX1_seenMany 6 = .ok (.getfield 18, 3) := by decide +kernel
theorem dX1_seenMany_9 : decode cX1_seenMany 9 = .ok (.arraylength, 1) := by decide +kernel
theorem dX1_seenMany_10 : decode cX1_seenMany 10 = .ok (.if_icmp .ge 27, 3) := by decide +kernel
theorem dX1_seenMany_13 : decode cX1_seenMany 13 = .ok (.iload_n 1, 1) := by decide +kernel
theorem dX1_seenMany_14 : decode cX1_seenMany 14 = .ok (.aload_n 0, 1) := by decide +kernel
theorem dX1_seenMany_15 : decode cX1_seenMany 15 = .ok (.getfield 18, 3) := by decide +kernel
theorem dX1_seenMany_18 : decode cX1_seenMany 18 = .ok (.iload_n 2, 1) := by decide +kernel
theorem dX1_seenMany_19 : decode cX1_seenMany 19 = .ok (.iaload, 1) := by decide +kernel
theorem dX1_seenMany_20 : decode cX1_seenMany 20 = .ok (.iconst (-1), 1) := by decide +kernel
theorem dX1_seenMany_21 : decode cX1_seenMany 21 = .ok (.if_icmp .eq 7, 3) := by decide +kernel
theorem dX1_seenMany_28 : decode cX1_seenMany 28 = .ok (.iconst 0, 1) := by decide +kernel
theorem dX1_seenMany_29 : decode cX1_seenMany 29 = .ok (.iadd, 1) := by decide +kernel
theorem dX1_seenMany_30 : decode cX1_seenMany 30 = .ok (.istore_n 1, 1) := by decide +kernel
theorem dX1_seenMany_31 : decode cX1_seenMany 31 = .ok (.iinc 2 1, 3) := by decide +kernel
theorem dX1_seenMany_34 : decode cX1_seenMany 34 = .ok (.goto (-30), 3) := by decide +kernel
theorem dX1_seenMany_37 : decode cX1_seenMany 37 = .ok (.iload_n 1, 1) := by decide +kernel
theorem dX1_seenMany_38 : decode cX1_seenMany 38 = .ok (.ireturn, 1) := by decide +kernel
theorem dX3_isSet_0 : decode cX3_isSet 0 = .ok (.iload_n 1, 1) := by decide +kernel
theorem dX3_isSet_1 : decode cX3_isSet 1 = .ok (.ifCond .lt 21, 3) := by decide +kernel
theorem dX3_isSet_4 : decode cX3_isSet 4 = .ok (.iload_n 1, 1) := by decide +kernel
theorem dX3_isSet_5 : decode cX3_isSet 5 = .ok (.iconst 2, 1) := by decide +kernel
theorem dX3_isSet_6 : decode cX3_isSet 6 = .ok (.if_icmp .ge 16, 3) := by decide +kernel
theorem dX3_isSet_9 : decode cX3_isSet 9 = .ok (.aload_n 0, 1) := by decide +kernel
theorem dX3_isSet_10 : decode cX3_isSet 10 = .ok (.getfield 24, 3) := by decide +kernel
theorem dX3_isSet_13 : decode cX3_isSet 13 = .ok (.iload_n 1, 1) := by decide +kernel
theorem dX3_isSet_14 : decode cX3_isSet 14 = .ok (.iaload, 1) := by decide +kernel
theorem dX3_isSet_15 : decode cX3_isSet 15 = .ok (.ifCond .le 7, 3) := by decide +kernel
theorem dX3_isSet_22 : decode cX3_isSet 22 = .ok (.iconst 0, 1) := by decide +kernel
theorem dX3_isSet_23 : decode cX3_isSet 23 = .ok (.ireturn, 1) := by decide +kernel
theorem dX3_setMany_0 : decode cX3_setMany 0 = .ok (.aload_n 0, 1) := by decide +kernel
theorem dX3_setMany_1 : decode cX3_setMany 1 = .ok (.iconst 0, 1) := by decide +kernel
theorem dX3_setMany_2 : decode cX3_setMany 2 = .ok (.invokevirtual 37, 3) := by decide +kernel
theorem dX3_setMany_5 : decode cX3_setMany 5 = .ok (.ifCond .eq 7, 3) := by decide +kernel
theorem dX3_setMany_12 : decode cX3_setMany 12 = .ok (.iconst 0, 1) := by decide +kernel
theorem dX3_setMany_13 : decode cX3_setMany 13 = .ok (.aload_n 0, 1) := by decide +kernel
theorem dX3_setMany_14 : decode cX3_setMany 14 = .ok (.iconst 1, 1) := by decide +kernel
theorem dX3_setMany_15 : decode cX3_setMany 15 = .ok (.invokevirtual 37, 3) := by decide +kernel
theorem dX3_setMany_18 : decode cX3_setMany 18 = .ok (.ifCond .eq 7, 3) := by decide +kernel
theorem dX3_setMany_25 : decode cX3_setMany 25 = .ok (.iconst 0, 1) := by decide +kernel
theorem dX3_setMany_26 : decode cX3_setMany 26 = .ok (.iadd, 1) := by decide +kernel
theorem dX3_setMany_27 : decode cX3_setMany 27 = .ok (.ireturn, 1) := by decide +kernel
theorem dX4_empty_0 : decode cX4_empty 0 = .ok (.aload_n 0, 1) := by decide +kernel
theorem dX4_empty_1 : decode cX4_empty 1 = .ok (.iconst 0, 1) := by decide +kernel
theorem dX4_empty_2 : decode cX4_empty 2 = .ok (.putfield 21, 3) := by decide +kernel
theorem dX4_empty_5 : decode cX4_empty 5 = .ok (.aload_n 0, 1) := by decide +kernel
theorem dX4_empty_6 : decode cX4_empty 6 = .ok (.iconst 0, 1) := by decide +kernel
theorem dX4_empty_7 : decode cX4_empty 7 = .ok (.putfield 25, 3) := by decide +kernel
theorem dX4_empty_10 : decode cX4_empty 10 = .ok (.aload_n 0, 1) := by decide +kernel
theorem dX4_empty_11 : decode cX4_empty 11 = .ok (.iconst 0, 1) := by decide +kernel
theorem dX4_empty_12 : decode cX4_empty 12 = .ok (.putfield 28, 3) := by decide +kernel
theorem dX4_empty_15 : decode cX4_empty 15 = .ok (.aload_n 0, 1) := by decide +kernel
theorem dX4_empty_16 : decode cX4_empty 16 = .ok (.getfield 15, 3) := by decide +kernel
theorem dX4_empty_19 : decode cX4_empty 19 = .ok (.bipush (-4), 2) := by decide +kernel
theorem dX4_empty_21 : decode cX4_empty 21 = .ok (.invokestatic 31, 3) := by decide +kernel
theorem dX4_empty_24 : decode cX4_empty 24 = .ok (.aload_n 0, 1) := by decide +kernel
theorem dX4_empty_25 : decode cX4_empty 25 = .ok (.getfield 18, 3) := by decide +kernel
theorem dX4_empty_28 : decode cX4_empty 28 = .ok (.bipush (-4), 2) := by decide +kernel
theorem dX4_empty_30 : decode cX4_empty 30 = .ok (.invokestatic 31, 3) := by decide +kernel
theorem dX4_empty_33 : decode cX4_empty 33 = .ok (.return_, 1) := by decide +kernel
theorem dX7_append_0 : decode cX7_append 0 = .ok (.iload_n 1, 1) := by decide +kernel
theorem dX7_append_1 : decode cX7_append 1 = .ok (.iconst 1, 1) := by decide +kernel
theorem dX7_append_2 : decode cX7_append 2 = .ok (.isub, 1) := by decide +kernel
theorem dX7_append_3 : decode cX7_append 3 = .ok (.istore 4, 2) := by decide +kernel
theorem dX7_append_5 : decode cX7_append 5 = .ok (.iload 4, 2) := by decide +kernel
theorem dX7_append_7 : decode cX7_append 7 = .ok (.ifCond .lt 50, 3) := by decide +kernel
theorem dX7_append_10 : decode cX7_append 10 = .ok (.aload_n 0, 1) := by decide +kernel
theorem dX7_append_11 : decode cX7_append 11 = .ok (.getfield 18, 3) := by decide +kernel
theorem dX7_append_14 : decode cX7_append 14 = .ok (.sipush 400, 3) := by decide +kernel
theorem dX7_append_17 : decode cX7_append 17 = .ok (.if_icmp .ge 40, 3) := by decide +kernel
theorem dX7_append_20 : decode cX7_append 20 = .ok (.aload_n 0, 1) := by decide +kernel
theorem dX7_append_21 : decode cX7_append 21 = .ok (.getfield 9, 3) := by decide +kernel
theorem dX7_append_24 : decode cX7_append 24 = .ok (.aload_n 0, 1) := by decide +kernel
theorem dX7_append_25 : decode cX7_append 25 = .ok (.getfield 18, 3) := by decide +kernel
theorem dX7_append_28 : decode cX7_append 28 = .ok (.lload_n 2, 1) := by decide +kernel
theorem dX7_append_29 : decode cX7_append 29 = .ok (.bipush 8, 2) := by decide +kernel
theorem dX7_append_31 : decode cX7_append 31 = .ok (.iload 4, 2) := by decide +kernel
theorem dX7_append_33 : decode cX7_append 33 = .ok (.imul, 1) := by decide +kernel
theorem dX7_append_34 : decode cX7_append 34 = .ok (.lushr, 1) := by decide +kernel
theorem dX7_append_35 : decode cX7_append 35 = .ok (.l2i, 1) := by decide +kernel
theorem dX7_append_36 : decode cX7_append 36 = .ok (.sipush 255, 3) := by decide +kernel
theorem dX7_append_39 : decode cX7_append 39 = .ok (.iand, 1) := by decide +kernel
theorem dX7_append_40 : decode cX7_append 40 = .ok (.iastore, 1) := by decide +kernel
theorem dX7_append_41 : decode cX7_append 41 = .ok (.aload_n 0, 1) := by decide +kernel
theorem dX7_append_42 : decode cX7_append 42 = .ok (.dup, 1) := by decide +kernel
theorem dX7_append_43 : decode cX7_append 43 = .ok (.getfield 18, 3) := by decide +kernel
theorem dX7_append_46 : decode cX7_append 46 = .ok (.iconst 1, 1) := by decide +kernel
theorem dX7_append_47 : decode cX7_append 47 = .ok (.iadd, 1) := by decide +kernel
theorem dX7_append_48 : decode cX7_append 48 = .ok (.putfield 18, 3) := by decide +kernel
theorem dX7_append_51 : decode cX7_append 51 = .ok (.iinc 4 (-1), 3) := by decide +kernel
theorem dX7_append_54 : decode cX7_append 54 = .ok (.goto (-49), 3) := by decide +kernel
theorem dX7_append_57 : decode cX7_append 57 = .ok (.return_, 1) := by decide +kernel
theorem dX7_readInto_0 : decode cX7_readInto 0 = .ok (.aload_n 1, 1) := by decide +kernel
theorem dX7_readInto_1 : decode cX7_readInto 1 = .ok (.invokevirtual 25, 3) := by decide +kernel
theorem dX7_readInto_4 : decode cX7_readInto 4 = .ok (.aload_n 0, 1) := by decide +kernel
theorem dX7_readInto_5 : decode cX7_readInto 5 = .ok (.iconst 0, 1) := by decide +kernel
theorem dX7_readInto_6 : decode cX7_readInto 6 = .ok (.putfield 22, 3) := by decide +kernel
theorem dX7_readInto_9 : decode cX7_readInto 9 = .ok (.iconst 0, 1) := by decide +kernel
theorem dX7_readInto_10 : decode cX7_readInto 10 = .ok (.istore_n 2, 1) := by decide +kernel
theorem dX7_readInto_11 : decode cX7_readInto 11 = .ok (.iload_n 2, 1) := by decide +kernel
theorem dX7_readInto_12 : decode cX7_readInto 12 = .ok (.bipush 40, 2) := by decide +kernel
theorem dX7_readInto_14 : decode cX7_readInto 14 = .ok (.if_icmp .gt 59, 3) := by decide +kernel
theorem dX7_readInto_17 : decode cX7_readInto 17 = .ok (.aload_n 0, 1) := by decide +kernel
theorem dX7_readInto_18 : decode cX7_readInto 18 = .ok (.getfield 22, 3) := by decide +kernel
theorem dX7_readInto_21 : decode cX7_readInto 21 = .ok (.aload_n 0, 1) := by decide +kernel
theorem dX7_readInto_22 : decode cX7_readInto 22 = .ok (.getfield 18, 3) := by decide +kernel
theorem dX7_readInto_25 : decode cX7_readInto 25 = .ok (.if_icmp .ge 48, 3) := by decide +kernel
theorem dX7_readInto_73 : decode cX7_readInto 73 = .ok (.bipush (-4), 2) := by decide +kernel
theorem dX7_readInto_75 : decode cX7_readInto 75 = .ok (.ireturn, 1) := by decide +kernel
theorem dX8_putRain_0 : decode cX8_putRain 0 = .ok (.aload_n 0, 1) := by decide +kernel
theorem dX8_putRain_1 : decode cX8_putRain 1 = .ok (.iload_n 1, 1) := by decide +kernel
theorem dX8_putRain_2 : decode cX8_putRain 2 = .ok (.iload_n 2, 1) := by decide +kernel
theorem dX8_putRain_3 : decode cX8_putRain 3 = .ok (.invokevirtual 21, 3) := by decide +kernel
theorem dX8_putRain_6 : decode cX8_putRain 6 = .ok (.istore 4, 2) := by decide +kernel
theorem dX8_putRain_8 : decode cX8_putRain 8 = .ok (.iload_n 1, 1) := by decide +kernel
theorem dX8_putRain_9 : decode cX8_putRain 9 = .ok (.invokestatic 25, 3) := by decide +kernel
theorem dX8_putRain_12 : decode cX8_putRain 12 = .ok (.ifCond .ne 25, 3) := by decide +kernel
theorem dX8_putRain_15 : decode cX8_putRain 15 = .ok (.iload_n 2, 1) := by decide +kernel
theorem dX8_putRain_16 : decode cX8_putRain 16 = .ok (.iconst 0, 1) := by decide +kernel
theorem dX8_putRain_17 : decode cX8_putRain 17 = .ok (.bipush 23, 2) := by decide +kernel
theorem dX8_putRain_19 : decode cX8_putRain 19 = .ok (.invokestatic 29, 3) := by decide +kernel
theorem dX8_putRain_22 : decode cX8_putRain 22 = .ok (.ifCond .ne 15, 3) := by decide +kernel
theorem dX8_putRain_25 : decode cX8_putRain 25 = .ok (.aload_n 0, 1) := by decide +kernel
theorem dX8_putRain_26 : decode cX8_putRain 26 = .ok (.getfield 18, 3) := by decide +kernel
theorem dX8_putRain_29 : decode cX8_putRain 29 = .ok (.iload_n 1, 1) := by decide +kernel
theorem dX8_putRain_30 : decode cX8_putRain 30 = .ok (.bipush 24, 2) := by decide +kernel
theorem dX8_putRain_32 : decode cX8_putRain 32 = .ok (.imul, 1) := by decide +kernel
theorem dX8_putRain_33 : decode cX8_putRain 33 = .ok (.iload_n 2, 1) := by decide +kernel
theorem dX8_putRain_34 : decode cX8_putRain 34 = .ok (.iadd, 1) := by decide +kernel
theorem dX8_putRain_35 : decode cX8_putRain 35 = .ok (.iload_n 3, 1) := by decide +kernel
theorem dX8_putRain_36 : decode cX8_putRain 36 = .ok (.iastore, 1) := by decide +kernel
theorem dX8_putRain_37 : decode cX8_putRain 37 = .ok (.iload 4, 2) := by decide +kernel
theorem dX8_putRain_39 : decode cX8_putRain 39 = .ok (.ireturn, 1) := by decide +kernel
theorem dX8_rainAhead_0 : decode cX8_rainAhead 0 = .ok (.iload_n 1, 1) := by decide +kernel
theorem dX8_rainAhead_1 : decode cX8_rainAhead 1 = .ok (.invokestatic 25, 3) := by decide +kernel
theorem dX8_rainAhead_4 : decode cX8_rainAhead 4 = .ok (.ifCond .ne 13, 3) := by decide +kernel
theorem dX8_rainAhead_7 : decode cX8_rainAhead 7 = .ok (.iload_n 2, 1) := by decide +kernel
theorem dX8_rainAhead_8 : decode cX8_rainAhead 8 = .ok (.iconst 0, 1) := by decide +kernel
theorem dX8_rainAhead_9 : decode cX8_rainAhead 9 = .ok (.bipush 23, 2) := by decide +kernel
theorem dX8_rainAhead_11 : decode cX8_rainAhead 11 = .ok (.invokestatic 29, 3) := by decide +kernel
theorem dX8_rainAhead_14 : decode cX8_rainAhead 14 = .ok (.ifCond .eq 7, 3) := by decide +kernel
theorem dX8_rainAhead_17 : decode cX8_rainAhead 17 = .ok (.iconst 0, 1) := by decide +kernel
theorem dX8_rainAhead_18 : decode cX8_rainAhead 18 = .ok (.goto 14, 3) := by decide +kernel
theorem dX8_rainAhead_21 : decode cX8_rainAhead 21 = .ok (.aload_n 0, 1) := by decide +kernel
theorem dX8_rainAhead_22 : decode cX8_rainAhead 22 = .ok (.getfield 18, 3) := by decide +kernel
theorem dX8_rainAhead_25 : decode cX8_rainAhead 25 = .ok (.iload_n 1, 1) := by decide +kernel
theorem dX8_rainAhead_26 : decode cX8_rainAhead 26 = .ok (.bipush 24, 2) := by decide +kernel
theorem dX8_rainAhead_28 : decode cX8_rainAhead 28 = .ok (.imul, 1) := by decide +kernel
theorem dX8_rainAhead_29 : decode cX8_rainAhead 29 = .ok (.iload_n 2, 1) := by decide +kernel
theorem dX8_rainAhead_30 : decode cX8_rainAhead 30 = .ok (.iadd, 1) := by decide +kernel
theorem dX8_rainAhead_31 : decode cX8_rainAhead 31 = .ok (.iaload, 1) := by decide +kernel
theorem dX8_rainAhead_32 : decode cX8_rainAhead 32 = .ok (.ireturn, 1) := by decide +kernel
theorem dX9_write_0 : decode cX9_write 0 = .ok (.iload_n 1, 1) := by decide +kernel
theorem dX9_write_1 : decode cX9_write 1 = .ok (.iconst 1, 1) := by decide +kernel
theorem dX9_write_2 : decode cX9_write 2 = .ok (.bipush 8, 2) := by decide +kernel
theorem dX9_write_4 : decode cX9_write 4 = .ok (.invokestatic 99, 3) := by decide +kernel
theorem dX9_write_7 : decode cX9_write 7 = .ok (.ifCond .eq 5, 3) := by decide +kernel
theorem dX9_write_10 : decode cX9_write 10 = .ok (.iconst (-1), 1) := by decide +kernel
theorem dX9_write_11 : decode cX9_write 11 = .ok (.ireturn, 1) := by decide +kernel
theorem dX9_write_12 : decode cX9_write 12 = .ok (.aload_n 0, 1) := by decide +kernel
theorem dX9_write_13 : decode cX9_write 13 = .ok (.getfield 10, 3) := by decide +kernel
theorem dX9_write_16 : decode cX9_write 16 = .ok (.getfield 103, 3) := by decide +kernel
theorem dX9_write_19 : decode cX9_write 19 = .ok (.iload_n 1, 1) := by decide +kernel
theorem dX9_write_20 : decode cX9_write 20 = .ok (.iadd, 1) := by decide +kernel
theorem dX9_write_21 : decode cX9_write 21 = .ok (.sipush 400, 3) := by decide +kernel
theorem dX9_write_24 : decode cX9_write 24 = .ok (.if_icmp .le 6, 3) := by decide +kernel
theorem dX9_write_27 : decode cX9_write 27 = .ok (.bipush (-3), 2) := by decide +kernel
theorem dX9_write_29 : decode cX9_write 29 = .ok (.ireturn, 1) := by decide +kernel
theorem dX9_write_30 : decode cX9_write 30 = .ok (.aload_n 0, 1) := by decide +kernel
theorem dX9_write_31 : decode cX9_write 31 = .ok (.getfield 10, 3) := by decide +kernel
theorem dX9_write_34 : decode cX9_write 34 = .ok (.iload_n 1, 1) := by decide +kernel
theorem dX9_write_35 : decode cX9_write 35 = .ok (.lload_n 2, 1) := by decide +kernel
theorem dX9_write_36 : decode cX9_write 36 = .ok (.invokevirtual 106, 3) := by decide +kernel
theorem dX9_write_39 : decode cX9_write 39 = .ok (.aload_n 0, 1) := by decide +kernel
theorem dX9_write_40 : decode cX9_write 40 = .ok (.getfield 10, 3) := by decide +kernel
theorem dX9_write_43 : decode cX9_write 43 = .ok (.getfield 103, 3) := by decide +kernel
theorem dX9_write_46 : decode cX9_write 46 = .ok (.ireturn, 1) := by decide +kernel
theorem dX9_clear_0 : decode cX9_clear 0 = .ok (.aload_n 0, 1) := by decide +kernel
theorem dX9_clear_1 : decode cX9_clear 1 = .ok (.getfield 10, 3) := by decide +kernel
theorem dX9_clear_4 : decode cX9_clear 4 = .ok (.getfield 103, 3) := by decide +kernel
theorem dX9_clear_7 : decode cX9_clear 7 = .ok (.istore_n 1, 1) := by decide +kernel
theorem dX9_clear_8 : decode cX9_clear 8 = .ok (.aload_n 0, 1) := by decide +kernel
theorem dX9_clear_9 : decode cX9_clear 9 = .ok (.getfield 10, 3) := by decide +kernel
theorem dX9_clear_12 : decode cX9_clear 12 = .ok (.iconst 0, 1) := by decide +kernel
theorem dX9_clear_13 : decode cX9_clear 13 = .ok (.putfield 103, 3) := by decide +kernel
theorem dX9_clear_16 : decode cX9_clear 16 = .ok (.iload_n 1, 1) := by decide +kernel
theorem dX9_clear_17 : decode cX9_clear 17 = .ok (.ireturn, 1) := by decide +kernel
theorem dX9_fault_0 : decode cX9_fault 0 = .ok (.aload_n 0, 1) := by decide +kernel
theorem dX9_fault_1 : decode cX9_fault 1 = .ok (.getfield 10, 3) := by decide +kernel
theorem dX9_fault_4 : decode cX9_fault 4 = .ok (.aload_n 0, 1) := by decide +kernel
theorem dX9_fault_5 : decode cX9_fault 5 = .ok (.getfield 23, 3) := by decide +kernel
theorem dX9_fault_8 : decode cX9_fault 8 = .ok (.invokevirtual 110, 3) := by decide +kernel
theorem dX9_fault_11 : decode cX9_fault 11 = .ok (.ireturn, 1) := by decide +kernel
theorem dX9_build_0 : decode cX9_build 0 = .ok (.aload_n 0, 1) := by decide +kernel
theorem dX9_build_1 : decode cX9_build 1 = .ok (.getfield 10, 3) := by decide +kernel
theorem dX9_build_4 : decode cX9_build 4 = .ok (.aload_n 0, 1) := by decide +kernel
theorem dX9_build_5 : decode cX9_build 5 = .ok (.getfield 23, 3) := by decide +kernel
theorem dX9_build_8 : decode cX9_build 8 = .ok (.invokevirtual 110, 3) := by decide +kernel
theorem dX9_build_11 : decode cX9_build 11 = .ok (.bipush (-4), 2) := by decide +kernel
theorem dX9_build_13 : decode cX9_build 13 = .ok (.if_icmp .ne 13, 3) := by decide +kernel
theorem dX9_build_16 : decode cX9_build 16 = .ok (.aload_n 0, 1) := by decide +kernel
theorem dX9_build_17 : decode cX9_build 17 = .ok (.getfield 23, 3) := by decide +kernel
theorem dX9_build_20 : decode cX9_build 20 = .ok (.getfield 114, 3) := by decide +kernel
theorem dX9_build_23 : decode cX9_build 23 = .ok (.ifCond .ne 6, 3) := by decide +kernel
theorem dX9_build_26 : decode cX9_build 26 = .ok (.bipush (-2), 2) := by decide +kernel
theorem dX9_build_28 : decode cX9_build 28 = .ok (.ireturn, 1) := by decide +kernel
theorem dX9_weather_0 : decode cX9_weather 0 = .ok (.iload_n 1, 1) := by decide +kernel
theorem dX9_weather_1 : decode cX9_weather 1 = .ok (.iconst 0, 1) := by decide +kernel
theorem dX9_weather_2 : decode cX9_weather 2 = .ok (.iconst 1, 1) := by decide +kernel
theorem dX9_weather_3 : decode cX9_weather 3 = .ok (.invokestatic 99, 3) := by decide +kernel
theorem dX9_weather_6 : decode cX9_weather 6 = .ok (.ifCond .ne 13, 3) := by decide +kernel
theorem dX9_weather_9 : decode cX9_weather 9 = .ok (.iload_n 2, 1) := by decide +kernel
theorem dX9_weather_10 : decode cX9_weather 10 = .ok (.iconst 0, 1) := by decide +kernel
theorem dX9_weather_11 : decode cX9_weather 11 = .ok (.bipush 95, 2) := by decide +kernel
theorem dX9_weather_13 : decode cX9_weather 13 = .ok (.invokestatic 99, 3) := by decide +kernel
theorem dX9_weather_16 : decode cX9_weather 16 = .ok (.ifCond .eq 5, 3) := by decide +kernel
theorem dX9_weather_19 : decode cX9_weather 19 = .ok (.iconst (-1), 1) := by decide +kernel
theorem dX9_weather_20 : decode cX9_weather 20 = .ok (.ireturn, 1) := by decide +kernel
theorem dX9_weather_21 : decode cX9_weather 21 = .ok (.iload_n 3, 1) := by decide +kernel
theorem dX9_weather_22 : decode cX9_weather 22 = .ok (.iconst 0, 1) := by decide +kernel
theorem dX9_weather_23 : decode cX9_weather 23 = .ok (.sipush 10000, 3) := by decide +kernel
theorem dX9_weather_26 : decode cX9_weather 26 = .ok (.invokestatic 99, 3) := by decide +kernel
theorem dX9_weather_29 : decode cX9_weather 29 = .ok (.ifCond .ne 15, 3) := by decide +kernel
theorem dX9_weather_32 : decode cX9_weather 32 = .ok (.iload 4, 2) := by decide +kernel
theorem dX9_weather_34 : decode cX9_weather 34 = .ok (.bipush (-30), 2) := by decide +kernel
theorem dX9_weather_36 : decode cX9_weather 36 = .ok (.bipush 40, 2) := by decide +kernel
theorem dX9_weather_38 : decode cX9_weather 38 = .ok (.invokestatic 99, 3) := by decide +kernel
theorem dX9_weather_41 : decode cX9_weather 41 = .ok (.ifCond .eq 5, 3) := by decide +kernel
theorem dX9_weather_44 : decode cX9_weather 44 = .ok (.iconst (-1), 1) := by decide +kernel
theorem dX9_weather_45 : decode cX9_weather 45 = .ok (.ireturn, 1) := by decide +kernel
theorem dX9_weather_46 : decode cX9_weather 46 = .ok (.iload_n 1, 1) := by decide +kernel
theorem dX9_weather_47 : decode cX9_weather 47 = .ok (.ifCond .ne 10, 3) := by decide +kernel
theorem dX9_weather_50 : decode cX9_weather 50 = .ok (.aload_n 0, 1) := by decide +kernel
theorem dX9_weather_51 : decode cX9_weather 51 = .ok (.getfield 39, 3) := by decide +kernel
theorem dX9_weather_54 : decode cX9_weather 54 = .ok (.goto 7, 3) := by decide +kernel
theorem dX9_weather_57 : decode cX9_weather 57 = .ok (.aload_n 0, 1) := by decide +kernel
theorem dX9_weather_58 : decode cX9_weather 58 = .ok (.getfield 43, 3) := by decide +kernel
theorem dX9_weather_61 : decode cX9_weather 61 = .ok (.astore 5, 2) := by decide +kernel
theorem dX9_weather_63 : decode cX9_weather 63 = .ok (.aload 5, 2) := by decide +kernel
theorem dX9_weather_65 : decode cX9_weather 65 = .ok (.getfield 138, 3) := by decide +kernel
theorem dX9_weather_68 : decode cX9_weather 68 = .ok (.iload_n 2, 1) := by decide +kernel
theorem dX9_weather_69 : decode cX9_weather 69 = .ok (.iload_n 3, 1) := by decide +kernel
theorem dX9_weather_70 : decode cX9_weather 70 = .ok (.iastore, 1) := by decide +kernel
theorem dX9_weather_71 : decode cX9_weather 71 = .ok (.aload 5, 2) := by decide +kernel
theorem dX9_weather_73 : decode cX9_weather 73 = .ok (.getfield 141, 3) := by decide +kernel
theorem dX9_weather_76 : decode cX9_weather 76 = .ok (.iload_n 2, 1) := by decide +kernel
theorem dX9_weather_77 : decode cX9_weather 77 = .ok (.iload 4, 2) := by decide +kernel
theorem dX9_weather_79 : decode cX9_weather 79 = .ok (.iastore, 1) := by decide +kernel
theorem dX9_weather_80 : decode cX9_weather 80 = .ok (.iconst 0, 1) := by decide +kernel
theorem dX9_weather_81 : decode cX9_weather 81 = .ok (.ireturn, 1) := by decide +kernel
theorem dX9_ends_0 : decode cX9_ends 0 = .ok (.iload_n 1, 1) := by decide +kernel
theorem dX9_ends_1 : decode cX9_ends 1 = .ok (.iconst 0, 1) := by decide +kernel
theorem dX9_ends_2 : decode cX9_ends 2 = .ok (.ldc 224, 2) := by decide +kernel
theorem dX9_ends_4 : decode cX9_ends 4 = .ok (.invokestatic 99, 3) := by decide +kernel
theorem dX9_ends_7 : decode cX9_ends 7 = .ok (.ifCond .eq 5, 3) := by decide +kernel
theorem dX9_ends_10 : decode cX9_ends 10 = .ok (.iconst (-1), 1) := by decide +kernel
theorem dX9_ends_11 : decode cX9_ends 11 = .ok (.ireturn, 1) := by decide +kernel
theorem dX9_ends_12 : decode cX9_ends 12 = .ok (.aload_n 0, 1) := by decide +kernel
theorem dX9_ends_13 : decode cX9_ends 13 = .ok (.getfield 74, 3) := by decide +kernel
theorem dX9_ends_16 : decode cX9_ends 16 = .ok (.getfield 225, 3) := by decide +kernel
theorem dX9_ends_19 : decode cX9_ends 19 = .ok (.istore_n 2, 1) := by decide +kernel
theorem dX9_ends_20 : decode cX9_ends 20 = .ok (.aload_n 0, 1) := by decide +kernel
theorem dX9_ends_21 : decode cX9_ends 21 = .ok (.getfield 74, 3) := by decide +kernel
theorem dX9_ends_24 : decode cX9_ends 24 = .ok (.iload_n 1, 1) := by decide +kernel
theorem dX9_ends_25 : decode cX9_ends 25 = .ok (.putfield 225, 3) := by decide +kernel
theorem dX9_ends_28 : decode cX9_ends 28 = .ok (.iload_n 2, 1) := by decide +kernel
theorem dX9_ends_29 : decode cX9_ends 29 = .ok (.ireturn, 1) := by decide +kernel
theorem dX9_weigh_0 : decode cX9_weigh 0 = .ok (.iload_n 1, 1) := by decide +kernel
theorem dX9_weigh_1 : decode cX9_weigh 1 = .ok (.invokestatic 256, 3) := by decide +kernel
theorem dX9_weigh_4 : decode cX9_weigh 4 = .ok (.ifCond .ne 13, 3) := by decide +kernel
theorem dX9_weigh_7 : decode cX9_weigh 7 = .ok (.iload_n 2, 1) := by decide +kernel
theorem dX9_weigh_8 : decode cX9_weigh 8 = .ok (.iconst 0, 1) := by decide +kernel
theorem dX9_weigh_9 : decode cX9_weigh 9 = .ok (.bipush 100, 2) := by decide +kernel
theorem dX9_weigh_11 : decode cX9_weigh 11 = .ok (.invokestatic 99, 3) := by decide +kernel
theorem dX9_weigh_14 : decode cX9_weigh 14 = .ok (.ifCond .eq 5, 3) := by decide +kernel
theorem dX9_weigh_17 : decode cX9_weigh 17 = .ok (.iconst (-1), 1) := by decide +kernel
theorem dX9_weigh_18 : decode cX9_weigh 18 = .ok (.ireturn, 1) := by decide +kernel
theorem dX9_weigh_19 : decode cX9_weigh 19 = .ok (.aload_n 0, 1) := by decide +kernel
theorem dX9_weigh_20 : decode cX9_weigh 20 = .ok (.getfield 88, 3) := by decide +kernel
theorem dX9_weigh_23 : decode cX9_weigh 23 = .ok (.getfield 259, 3) := by decide +kernel
theorem dX9_weigh_26 : decode cX9_weigh 26 = .ok (.iload_n 1, 1) := by decide +kernel
theorem dX9_weigh_27 : decode cX9_weigh 27 = .ok (.iaload, 1) := by decide +kernel
theorem dX9_weigh_28 : decode cX9_weigh 28 = .ok (.istore_n 3, 1) := by decide +kernel
theorem dX9_weigh_29 : decode cX9_weigh 29 = .ok (.aload_n 0, 1) := by decide +kernel
theorem dX9_weigh_30 : decode cX9_weigh 30 = .ok (.getfield 88, 3) := by decide +kernel
theorem dX9_weigh_33 : decode cX9_weigh 33 = .ok (.getfield 259, 3) := by decide +kernel
theorem dX9_weigh_36 : decode cX9_weigh 36 = .ok (.iload_n 1, 1) := by decide +kernel
theorem dX9_weigh_37 : decode cX9_weigh 37 = .ok (.iload_n 2, 1) := by decide +kernel
theorem dX9_weigh_38 : decode cX9_weigh 38 = .ok (.iastore, 1) := by decide +kernel
theorem dX9_weigh_39 : decode cX9_weigh 39 = .ok (.iload_n 3, 1) := by decide +kernel
theorem dX9_weigh_40 : decode cX9_weigh 40 = .ok (.ireturn, 1) := by decide +kernel
theorem dX9_rain_0 : decode cX9_rain 0 = .ok (.iload_n 1, 1) := by decide +kernel
theorem dX9_rain_1 : decode cX9_rain 1 = .ok (.invokestatic 256, 3) := by decide +kernel
theorem dX9_rain_4 : decode cX9_rain 4 = .ok (.ifCond .ne 24, 3) := by decide +kernel
theorem dX9_rain_7 : decode cX9_rain 7 = .ok (.iload_n 2, 1) := by decide +kernel
theorem dX9_rain_8 : decode cX9_rain 8 = .ok (.iconst 0, 1) := by decide +kernel
theorem dX9_rain_9 : decode cX9_rain 9 = .ok (.bipush 23, 2) := by decide +kernel
theorem dX9_rain_11 : decode cX9_rain 11 = .ok (.invokestatic 99, 3) := by decide +kernel
theorem dX9_rain_14 : decode cX9_rain 14 = .ok (.ifCond .ne 14, 3) := by decide +kernel
theorem dX9_rain_17 : decode cX9_rain 17 = .ok (.iload_n 3, 1) := by decide +kernel
theorem dX9_rain_18 : decode cX9_rain 18 = .ok (.iconst 0, 1) := by decide +kernel
theorem dX9_rain_19 : decode cX9_rain 19 = .ok (.sipush 10000, 3) := by decide +kernel
theorem dX9_rain_22 : decode cX9_rain 22 = .ok (.invokestatic 99, 3) := by decide +kernel
theorem dX9_rain_25 : decode cX9_rain 25 = .ok (.ifCond .eq 5, 3) := by decide +kernel
theorem dX9_rain_28 : decode cX9_rain 28 = .ok (.iconst (-1), 1) := by decide +kernel
theorem dX9_rain_29 : decode cX9_rain 29 = .ok (.ireturn, 1) := by decide +kernel
theorem dX9_rain_30 : decode cX9_rain 30 = .ok (.aload_n 0, 1) := by decide +kernel
theorem dX9_rain_31 : decode cX9_rain 31 = .ok (.getfield 88, 3) := by decide +kernel
theorem dX9_rain_34 : decode cX9_rain 34 = .ok (.iload_n 1, 1) := by decide +kernel
theorem dX9_rain_35 : decode cX9_rain 35 = .ok (.iload_n 2, 1) := by decide +kernel
theorem dX9_rain_36 : decode cX9_rain 36 = .ok (.iload_n 3, 1) := by decide +kernel
theorem dX9_rain_37 : decode cX9_rain 37 = .ok (.invokevirtual 262, 3) := by decide +kernel
theorem dX9_rain_40 : decode cX9_rain 40 = .ok (.ireturn, 1) := by decide +kernel
theorem dX9_count_0 : decode cX9_count 0 = .ok (.iload_n 1, 1) := by decide +kernel
theorem dX9_count_1 : decode cX9_count 1 = .ok (.tableswitch 153 0 8 #[51, 59, 78, 97, 116, 124, 132, 140, 148], 51) := by decide +kernel
theorem dX9_count_52 : decode cX9_count 52 = .ok (.aload_n 0, 1) := by decide +kernel
theorem dX9_count_53 : decode cX9_count 53 = .ok (.getfield 10, 3) := by decide +kernel
theorem dX9_count_56 : decode cX9_count 56 = .ok (.getfield 103, 3) := by decide +kernel
theorem dX9_count_59 : decode cX9_count 59 = .ok (.ireturn, 1) := by decide +kernel
theorem dX9_count_60 : decode cX9_count 60 = .ok (.aload_n 0, 1) := by decide +kernel
theorem dX9_count_61 : decode cX9_count 61 = .ok (.getfield 29, 3) := by decide +kernel
theorem dX9_count_64 : decode cX9_count 64 = .ok (.ifCond .eq 13, 3) := by decide +kernel
theorem dX9_count_77 : decode cX9_count 77 = .ok (.iconst 0, 1) := by decide +kernel
theorem dX9_count_78 : decode cX9_count 78 = .ok (.ireturn, 1) := by decide +kernel
theorem dX9_count_79 : decode cX9_count 79 = .ok (.aload_n 0, 1) := by decide +kernel
theorem dX9_count_80 : decode cX9_count 80 = .ok (.getfield 29, 3) := by decide +kernel
theorem dX9_count_83 : decode cX9_count 83 = .ok (.ifCond .eq 13, 3) := by decide +kernel
theorem dX9_count_96 : decode cX9_count 96 = .ok (.iconst 0, 1) := by decide +kernel
theorem dX9_count_97 : decode cX9_count 97 = .ok (.ireturn, 1) := by decide +kernel
theorem dX9_count_98 : decode cX9_count 98 = .ok (.aload_n 0, 1) := by decide +kernel
theorem dX9_count_99 : decode cX9_count 99 = .ok (.getfield 29, 3) := by decide +kernel
theorem dX9_count_102 : decode cX9_count 102 = .ok (.ifCond .eq 13, 3) := by decide +kernel
theorem dX9_count_115 : decode cX9_count 115 = .ok (.iconst 0, 1) := by decide +kernel
theorem dX9_count_116 : decode cX9_count 116 = .ok (.ireturn, 1) := by decide +kernel
theorem dX9_count_117 : decode cX9_count 117 = .ok (.aload_n 0, 1) := by decide +kernel
theorem dX9_count_118 : decode cX9_count 118 = .ok (.getfield 53, 3) := by decide +kernel
theorem dX9_count_121 : decode cX9_count 121 = .ok (.getfield 144, 3) := by decide +kernel
theorem dX9_count_124 : decode cX9_count 124 = .ok (.ireturn, 1) := by decide +kernel
theorem dX9_count_125 : decode cX9_count 125 = .ok (.aload_n 0, 1) := by decide +kernel
theorem dX9_count_126 : decode cX9_count 126 = .ok (.getfield 81, 3) := by decide +kernel
theorem dX9_count_129 : decode cX9_count 129 = .ok (.invokevirtual 336, 3) := by decide +kernel
theorem dX9_count_132 : decode cX9_count 132 = .ok (.ireturn, 1) := by decide +kernel
theorem dX9_count_133 : decode cX9_count 133 = .ok (.aload_n 0, 1) := by decide +kernel
theorem dX9_count_134 : decode cX9_count 134 = .ok (.getfield 74, 3) := by decide +kernel
theorem dX9_count_137 : decode cX9_count 137 = .ok (.invokevirtual 339, 3) := by decide +kernel
theorem dX9_count_140 : decode cX9_count 140 = .ok (.ireturn, 1) := by decide +kernel
theorem dX9_count_141 : decode cX9_count 141 = .ok (.aload_n 0, 1) := by decide +kernel
theorem dX9_count_142 : decode cX9_count 142 = .ok (.getfield 74, 3) := by decide +kernel
theorem dX9_count_145 : decode cX9_count 145 = .ok (.invokevirtual 340, 3) := by decide +kernel
theorem dX9_count_148 : decode cX9_count 148 = .ok (.ireturn, 1) := by decide +kernel
theorem dX9_count_149 : decode cX9_count 149 = .ok (.aload_n 0, 1) := by decide +kernel
theorem dX9_count_150 : decode cX9_count 150 = .ok (.getfield 67, 3) := by decide +kernel
theorem dX9_count_153 : decode cX9_count 153 = .ok (.ireturn, 1) := by decide +kernel
theorem dX9_count_154 : decode cX9_count 154 = .ok (.iconst (-1), 1) := by decide +kernel
theorem dX9_count_155 : decode cX9_count 155 = .ok (.ireturn, 1) := by decide +kernel

def uX4_empty : List Cond := .code yX4_empty cX4_empty 1 none :: ([.fieldLink RX4 21 "RiverModel$Model" "many" "I", .fieldLink RX4 25 "RiverModel$Model" "stores" "I", .fieldLink RX4 28 "RiverModel$Model" "gates" "I", .fieldLink RX4 15 "RiverModel$Model" "storeItems" "[I", .methodLink RX4 31 yJ7_fill_53178, .static yJ7_fill_53178, .initialized RJ7, .fieldLink RX4 18 "RiverModel$Model" "gateItems" "[I", .code yJ7_fill_53178 cJ7_fill_53178 4 none] ++ wsX40)
set_option maxRecDepth 20000 in
theorem gu_X4_empty_J7_fill_53178_31 : GoodIn uX4_empty (va_wsS RX4 31 yJ7_fill_53178 wsJ7_fill_53178) := goodIn_r _ [5, 6, 7, 9] (by decide +kernel) (by decide +kernel)
set_option maxHeartbeats 4000000 in
set_option maxRecDepth 100000 in
theorem c_X4_empty (l : Launch) (D : va_G) (t : Nat → Nat) (cI cL cC : ClassId) (gC : Int32) (gR : Int32) (a0 : Nat) (k_a0 : t a0 = 3) : tM l yX4_empty uX4_empty 1 23 D (fF cI cL cC gC gR) (fF cI cL cC gC gR) t cI cL cC [.ref a0] wrX (pV (True)) := by
  refine tM.ofW (cc := cX4_empty) (maxL := 1) (ret := none) (by decide) rfl (Nat.le_of_ble_eq_true rfl) ?_
  intro p e s m below meth c hx hb hr hml hown hts hlk H locs hG hK hE hS ls hl
  have hl : lv_has ls 1 [(0, .ref a0)] := hl
  have in4 : ∀ w ∈ wsX40, w ∈ uX4_empty := fun w h => List.mem_cons_of_mem _ (List.mem_append_right _ h)
  refine lv_aload_n hx hb dX4_empty_0 rfl (lv_at hl 0 rfl) ?_
  refine lv_iconst (v := 0) hx hb dX4_empty_1 (by decide) ?_
  obtain ⟨r_1, r_3, r_5, at_7, h_2, h_4, h_6⟩ := fF_o3 hG k_a0
  refine ty_put (D := D) (ci := 3) (v := .int 0) (ty := .int) (C := RX4) (T := TX4) (N := 6) (F2 := (fF cI cL cC gC gR)) hx hb hts in4 tyX4 tyX4_ok nmX4 hown hK hG hS at_7 (by rw [k_a0]; rfl) rfl 3 (by decide) (hts (.fieldLink RX4 21 "RiverModel$Model" "many" "I") (List.mem_of_getElem? (i := 1) rfl)) (fun _ h9 => h9) rfl (by decide +kernel) rfl rfl (Nat.le_of_ble_eq_true rfl) (by rw [k_a0]; exact ⟨r_1, r_3, r_5, rfl, h_2, h_4, h_6⟩) tFF dX4_empty_2 (fun H locs hG hS at_8 o_9 => ?_)
  have at_8 : va_at D vwCl (a0, .inr (3, [.ref r_1, .ref r_3, .ref r_5, .int 0, .int 0, .int 0])) H := at_8
  refine lv_aload_n hx hb dX4_empty_5 rfl (lv_at hl 0 rfl) ?_
  refine lv_iconst (v := 0) hx hb dX4_empty_6 (by decide) ?_
  refine ty_put (D := D) (ci := 3) (v := .int 0) (ty := .int) (C := RX4) (T := TX4) (N := 6) (F2 := (fF cI cL cC gC gR)) hx hb hts in4 tyX4 tyX4_ok nmX4 hown hK hG hS at_8 (by rw [k_a0]; rfl) rfl 4 (by decide) (hts (.fieldLink RX4 25 "RiverModel$Model" "stores" "I") (List.mem_of_getElem? (i := 2) rfl)) (fun _ h9 => h9) rfl (by decide +kernel) rfl rfl (Nat.le_of_ble_eq_true rfl) (by rw [k_a0]; exact ⟨r_1, r_3, r_5, rfl, h_2, h_4, h_6⟩) tFF dX4_empty_7 (fun H locs hG hS at_10 o_11 => ?_)
  have at_10 : va_at D vwCl (a0, .inr (3, [.ref r_1, .ref r_3, .ref r_5, .int 0, .int 0, .int 0])) H := at_10
  refine lv_aload_n hx hb dX4_empty_10 rfl (lv_at hl 0 rfl) ?_
  refine lv_pc (pc2 := 11) rfl ?_
  refine lv_iconst (v := 0) hx hb dX4_empty_11 (by decide) ?_
  refine ty_put (D := D) (ci := 3) (v := .int 0) (ty := .int) (C := RX4) (T := TX4) (N := 6) (F2 := (fF cI cL cC gC gR)) hx hb hts in4 tyX4 tyX4_ok nmX4 hown hK hG hS at_10 (by rw [k_a0]; rfl) rfl 5 (by decide) (hts (.fieldLink RX4 28 "RiverModel$Model" "gates" "I") (List.mem_of_getElem? (i := 3) rfl)) (fun _ h9 => h9) rfl (by decide +kernel) rfl rfl (Nat.le_of_ble_eq_true rfl) (by rw [k_a0]; exact ⟨r_1, r_3, r_5, rfl, h_2, h_4, h_6⟩) tFF dX4_empty_12 (fun H locs hG hS at_12 o_13 => ?_)
  have at_12 : va_at D vwCl (a0, .inr (3, [.ref r_1, .ref r_3, .ref r_5, .int 0, .int 0, .int 0])) H := at_12
  refine lv_aload_n hx hb dX4_empty_15 rfl (lv_at hl 0 rfl) ?_
  refine va_get (D := D) (ci := 3) (v := .ref r_3) (C := RX4) (T := TX4) (N := 6) hx hb hts in4 hown hK (va_one at_12) 0 rfl rfl 1 (by decide) (hts (.fieldLink RX4 15 "RiverModel$Model" "storeItems" "[I") (List.mem_of_getElem? (i := 4) rfl)) (fun _ h9 => h9) rfl dX4_empty_16 ?_
  refine lv_bipush (v := (-4)) hx hb dX4_empty_19 (by decide) ?_
  obtain ⟨f_14, at_15⟩ := fF_o13 hG h_4
  refine nw_row (W.runS (As := [.ref r_3, .int (-4)]) (rest := []) ⟨hx, hb, hml, hown, hts⟩ (c_fillI l D cI cL cC r_3 16 f_14 (-4) (by decide)) (va_cwS 2 hts gu_X4_empty_J7_fill_53178_31 rfl rfl rfl (by decide +kernel) ⟨Nat.le_of_ble_eq_true rfl, Nat.le_of_ble_eq_true rfl⟩) (rP_S at_15 hE) rfl rfl hl.1 rfl (lv_room (Nat.le_of_ble_eq_true rfl)) dX4_empty_21 ⟨Nat.le_of_ble_eq_true rfl, Nat.le_of_ble_eq_true rfl⟩) (fun H L ee hp at_21 hz_19 o_17 hL_20 => ?_)
  obtain ⟨g_16, rfl, hg_18⟩ := hp
  replace hG : tG D (fF cI cL cC gC gR) t H := tG.set hG at_21 (by rw [h_4]; exact ⟨_, rfl⟩) o_17
  replace hS := tF.row hS hz_19 o_17 hL_20 (by rw [h_4]; rfl)
  generalize _ ++ L = locs at hS ⊢
  have at_12 := va_at.keptK at_12 o_17 h_4 k_a0 rfl
  refine lv_aload_n hx hb dX4_empty_24 rfl (lv_at hl 0 rfl) ?_
  refine va_get (D := D) (ci := 3) (v := .ref r_5) (C := RX4) (T := TX4) (N := 6) hx hb hts in4 hown hK (va_one at_12) 0 rfl rfl 2 (by decide) (hts (.fieldLink RX4 18 "RiverModel$Model" "gateItems" "[I") (List.mem_of_getElem? (i := 8) rfl)) (fun _ h9 => h9) rfl dX4_empty_25 ?_
  refine lv_pc (pc2 := 28) rfl ?_
  refine lv_bipush (v := (-4)) hx hb dX4_empty_28 (by decide) ?_
  obtain ⟨f_22, at_23⟩ := fF_o14 hG h_6
  refine nw_row (W.runS (As := [.ref r_5, .int (-4)]) (rest := []) ⟨hx, hb, hml, hown, hts⟩ (c_fillI l D cI cL cC r_5 4 f_22 (-4) (by decide)) (va_cwS 2 hts gu_X4_empty_J7_fill_53178_31 rfl rfl rfl (by decide +kernel) ⟨Nat.le_of_ble_eq_true rfl, Nat.le_of_ble_eq_true rfl⟩) (rP_S at_23 hE) rfl rfl hl.1 rfl (lv_room (Nat.le_of_ble_eq_true rfl)) dX4_empty_30 ⟨Nat.le_of_ble_eq_true rfl, Nat.le_of_ble_eq_true rfl⟩) (fun H L ee hp at_29 hz_27 o_25 hL_28 => ?_)
  obtain ⟨g_24, rfl, hg_26⟩ := hp
  replace hG : tG D (fF cI cL cC gC gR) t H := tG.set hG at_29 (by rw [h_6]; exact ⟨_, rfl⟩) o_25
  replace hS := tF.row hS hz_27 o_25 hL_28 (by rw [h_6]; rfl)
  generalize _ ++ L = locs at hS ⊢
  have at_12 := va_at.keptK at_12 o_25 h_6 k_a0 rfl
  exact ty_vret hx hb hr hlk hG hS (by first | exact Or.inl ⟨rfl, by omega⟩ | exact Or.inr ⟨rfl, by omega⟩ | exact Or.inr (Or.inl ⟨rfl, by omega⟩) | exact Or.inr (Or.inr ⟨rfl, by omega⟩) | exact ⟨rfl, by omega⟩ | omega | trivial | rfl | (exfalso; omega)) dX4_empty_33

def uX7_readInto : List Cond := .code yX7_readInto cX7_readInto 4 (some .int) :: ([.methodLink RX7 25 yX4_empty, .instanceMethod yX4_empty, .selects RX4 yX4_empty yX4_empty, .initialized RX4, .fieldLink RX7 22 "RiverModel$Text" "at" "I", .fieldLink RX7 18 "RiverModel$Text" "length" "I", .code yX4_empty cX4_empty 1 none, .fieldLink RX4 21 "RiverModel$Model" "many" "I", .fieldLink RX4 25 "RiverModel$Model" "stores" "I", .fieldLink RX4 28 "RiverModel$Model" "gates" "I", .fieldLink RX4 15 "RiverModel$Model" "storeItems" "[I", .methodLink RX4 31 yJ7_fill_53178, .static yJ7_fill_53178, .initialized RJ7, .fieldLink RX4 18 "RiverModel$Model" "gateItems" "[I", .code yJ7_fill_53178 cJ7_fill_53178 4 none] ++ wsX70 ++ wsX40)
set_option maxRecDepth 20000 in
theorem gu_X7_readInto_X4_empty_25 : GoodIn uX7_readInto (wsV RX7 25 RX4 yX4_empty uX4_empty) := goodIn_r _ [1, 2, 3, 4, 7, 8, 9, 10, 11, 12, 13, 14, 15, 16, 21, 22, 23, 24, 25, 26] (by decide +kernel) (by decide +kernel)
set_option maxHeartbeats 4000000 in
set_option maxRecDepth 100000 in
theorem c_X7_readInto (l : Launch) (D : va_G) (t : Nat → Nat) (cI cL cC : ClassId) (a0 : Nat) (a1 : Nat) (k_a0 : t a0 = 2) (k_a1 : t a1 = 3) : tM l yX7_readInto uX7_readInto 2 43 D (fF cI cL cC 0 0) (fF cI cL cC 0 0) t cI cL cC [.ref a0, .ref a1] wrX (pI (fun r => r = -4)) := by
  refine tM.ofW (cc := cX7_readInto) (maxL := 4) (ret := (some .int)) (by decide) rfl (Nat.le_of_ble_eq_true rfl) ?_
  intro p e s m below meth c hx hb hr hml hown hts hlk H locs hG hK hE hS ls hl
  have hl : lv_has ls 4 [(0, .ref a0), (1, .ref a1)] := hl
  have in7 : ∀ w ∈ wsX70, w ∈ uX7_readInto := fun w h => List.mem_cons_of_mem _ (List.mem_append_left _ (List.mem_append_right _ h))
  refine lv_aload_n hx hb dX7_readInto_0 rfl (lv_at hl 1 rfl) ?_
  obtain ⟨r_1, r_3, r_5, at_7, h_2, h_4, h_6⟩ := fF_o3 hG k_a1
  refine ty_callv ((W.runV (As := []) (rest := []) ⟨hx, hb, hml, hown, hts⟩ (c_X4_empty l D t cI cL cC 0 0 a1 k_a1) (cwV 0 hts gu_X7_readInto_X4_empty_25 rfl rfl rfl (by decide +kernel) ⟨Nat.le_of_ble_eq_true rfl, Nat.le_of_ble_eq_true rfl⟩) (tP_V hG hE at_7 rfl) rfl rfl hl.1 rfl (lv_room (Nat.le_of_ble_eq_true rfl)) dX7_readInto_1 ⟨Nat.le_of_ble_eq_true rfl, Nat.le_of_ble_eq_true rfl⟩)) hS (fun _ h => h) (fun H locs hp_9 hG hS o_10 => ?_)
  refine lv_aload_n hx hb dX7_readInto_4 rfl (lv_at hl 0 rfl) ?_
  refine lv_iconst (v := 0) hx hb dX7_readInto_5 (by decide) ?_
  obtain ⟨r_11, r_13, v_15, at_16, h_12, h_14⟩ := fF_o2 hG k_a0
  refine ty_put (D := D) (ci := 6) (v := .int 0) (ty := .int) (C := RX7) (T := TX7) (N := 4) (F2 := (fF cI cL cC 0 0)) hx hb hts in7 tyX7 tyX7_ok nmX7 hown hK hG hS at_16 (by rw [k_a0]; rfl) rfl 3 (by decide) (hts (.fieldLink RX7 22 "RiverModel$Text" "at" "I") (List.mem_of_getElem? (i := 5) rfl)) (fun _ h9 => h9) rfl (by decide +kernel) rfl rfl (Nat.le_of_ble_eq_true rfl) (by rw [k_a0]; exact ⟨r_11, r_13, 0, rfl, h_12, h_14⟩) tFF dX7_readInto_6 (fun H locs hG hS at_17 o_18 => ?_)
  have at_17 : va_at D vwCl (a0, .inr (6, [.ref r_11, .ref r_13, .int 0, .int 0])) H := at_17
  refine lv_iconst (v := 0) hx hb dX7_readInto_9 (by decide) ?_
  refine lv_istore_n (lv' := [(2, .int 0), (0, .ref a0), (1, .ref a1)]) hx hb dX7_readInto_10 rfl hl (by decide) rfl (fun ls hl => ?_)
  refine lv_pc (pc2 := 11) rfl ?_
  refine lv_iload_n hx hb dX7_readInto_11 rfl (lv_at hl 0 rfl) ?_
  refine lv_bipush (v := 40) hx hb dX7_readInto_12 (by decide) ?_
  refine lv_icmp_gt (tgt := 73) hx hb dX7_readInto_14 (by decide) (fun q => absurd q (by decide)) (fun _ => ?_)
  refine lv_aload_n hx hb dX7_readInto_17 rfl (lv_at hl 1 rfl) ?_
  refine va_get (D := D) (ci := 6) (v := .int 0) (C := RX7) (T := TX7) (N := 4) hx hb hts in7 hown hK (va_one at_17) 0 rfl rfl 3 (by decide) (hts (.fieldLink RX7 22 "RiverModel$Text" "at" "I") (List.mem_of_getElem? (i := 5) rfl)) (fun _ h9 => h9) rfl dX7_readInto_18 ?_
  refine lv_aload_n hx hb dX7_readInto_21 rfl (lv_at hl 1 rfl) ?_
  refine va_get (D := D) (ci := 6) (v := .int 0) (C := RX7) (T := TX7) (N := 4) hx hb hts in7 hown hK (va_one at_17) 0 rfl rfl 2 (by decide) (hts (.fieldLink RX7 18 "RiverModel$Text" "length" "I") (List.mem_of_getElem? (i := 6) rfl)) (fun _ h9 => h9) rfl dX7_readInto_22 ?_
  refine lv_icmp_ge (tgt := 73) hx hb dX7_readInto_25 (by decide) (fun _ => ?_) (fun q => absurd (by decide) q)
  refine lv_pc (pc2 := 73) rfl ?_
  refine lv_bipush (v := (-4)) hx hb dX7_readInto_73 (by decide) ?_
  exact ty_iret hx hb hr hlk hG hS (by first | exact Or.inl ⟨rfl, by omega⟩ | exact Or.inr ⟨rfl, by omega⟩ | exact Or.inr (Or.inl ⟨rfl, by omega⟩) | exact Or.inr (Or.inr ⟨rfl, by omega⟩) | exact ⟨rfl, by omega⟩ | omega | trivial | rfl | (exfalso; omega)) dX7_readInto_75

def uX9_clear : List Cond := .code yX9_clear cX9_clear 2 (some .int) :: ([.fieldLink RX9 10 "RiverModel" "text" "LRiverModel$Text;", .fieldLink RX9 103 "RiverModel$Text" "length" "I"] ++ wsX90 ++ wsX70)
set_option maxHeartbeats 4000000 in
set_option maxRecDepth 100000 in
theorem c_X9_clear (l : Launch) (D : va_G) (t : Nat → Nat) (cI cL cC : ClassId) (a0 : Nat) (k_a0 : t a0 = 1) : tM l yX9_clear uX9_clear 0 0 D (fF cI cL cC 0 0) (fF cI cL cC 0 0) t cI cL cC [.ref a0] wrX (pI (fun r => r = 0)) := by
  refine tM.ofW (cc := cX9_clear) (maxL := 2) (ret := (some .int)) (by decide) rfl (Nat.le_of_ble_eq_true rfl) ?_
  intro p e s m below meth c hx hb hr hml hown hts hlk H locs hG hK hE hS ls hl
  have hl : lv_has ls 2 [(0, .ref a0)] := hl
  have in9 : ∀ w ∈ wsX90, w ∈ uX9_clear := fun w h => List.mem_cons_of_mem _ (List.mem_append_left _ (List.mem_append_right _ h))
  have in7 : ∀ w ∈ wsX70, w ∈ uX9_clear := fun w h => List.mem_cons_of_mem _ (List.mem_append_right _ h)
  refine lv_aload_n hx hb dX9_clear_0 rfl (lv_at hl 0 rfl) ?_
  obtain ⟨r_1, r_3, r_5, r_7, r_9, r_11, r_13, r_15, r_17, r_19, r_21, r_23, r_25, r_27, r_29, at_31, h_2, h_4, h_6, h_8, h_10, h_12, h_14, h_16, h_18, h_20, h_22, h_24, h_26, h_28, h_30⟩ := fF_o1 hG k_a0
  refine va_get (D := D) (ci := 8) (v := .ref r_1) (C := RX9) (T := TX9) (N := 18) hx hb hts in9 hown hK (va_one at_31) 0 rfl rfl 0 (by decide) (hts (.fieldLink RX9 10 "RiverModel" "text" "LRiverModel$Text;") (List.mem_of_getElem? (i := 1) rfl)) (fun _ h9 => h9) rfl dX9_clear_1 ?_
  obtain ⟨r_32, r_34, v_36, at_37, h_33, h_35⟩ := fF_o2 hG h_2
  refine va_get (D := D) (ci := 6) (v := .int 0) (C := RX7) (T := TX7) (N := 4) hx hb hts in7 hown hK (va_one at_37) 0 rfl rfl 2 (by decide) (hts (.fieldLink RX9 103 "RiverModel$Text" "length" "I") (List.mem_of_getElem? (i := 2) rfl)) (fun _ h9 => h9) rfl dX9_clear_4 ?_
  refine lv_istore_n (lv' := [(1, .int 0), (0, .ref a0)]) hx hb dX9_clear_7 rfl hl (by decide) rfl (fun ls hl => ?_)
  refine lv_aload_n hx hb dX9_clear_8 rfl (lv_at hl 1 rfl) ?_
  refine va_get (D := D) (ci := 8) (v := .ref r_1) (C := RX9) (T := TX9) (N := 18) hx hb hts in9 hown hK (va_one at_31) 0 rfl rfl 0 (by decide) (hts (.fieldLink RX9 10 "RiverModel" "text" "LRiverModel$Text;") (List.mem_of_getElem? (i := 1) rfl)) (fun _ h9 => h9) rfl dX9_clear_9 ?_
  refine lv_iconst (v := 0) hx hb dX9_clear_12 (by decide) ?_
  refine lv_pc (pc2 := 13) rfl ?_
  refine ty_put (D := D) (ci := 6) (v := .int 0) (ty := .int) (C := RX7) (T := TX7) (N := 4) (F2 := (fF cI cL cC 0 0)) hx hb hts in7 tyX7 tyX7_ok nmX7 hown hK hG hS at_37 (by rw [h_2]; rfl) rfl 2 (by decide) (hts (.fieldLink RX9 103 "RiverModel$Text" "length" "I") (List.mem_of_getElem? (i := 2) rfl)) (fun _ h9 => h9) rfl (by decide +kernel) rfl rfl (Nat.le_of_ble_eq_true rfl) (by rw [h_2]; exact ⟨r_32, r_34, v_36, rfl, h_33, h_35⟩) tFF dX9_clear_13 (fun H locs hG hS at_38 o_39 => ?_)
  have at_38 : va_at D vwCl (r_1, .inr (6, [.ref r_32, .ref r_34, .int 0, .int v_36])) H := at_38
  have at_31 := va_at.keptK at_31 o_39 h_2 k_a0 rfl
  refine lv_iload_n hx hb dX9_clear_16 rfl (lv_at hl 0 rfl) ?_
  exact ty_iret hx hb hr hlk hG hS (by first | exact Or.inl ⟨rfl, by omega⟩ | exact Or.inr ⟨rfl, by omega⟩ | exact Or.inr (Or.inl ⟨rfl, by omega⟩) | exact Or.inr (Or.inr ⟨rfl, by omega⟩) | exact ⟨rfl, by omega⟩ | omega | trivial | rfl | (exfalso; omega)) dX9_clear_17

def uX9_fault : List Cond := .code yX9_fault cX9_fault 1 (some .int) :: ([.fieldLink RX9 10 "RiverModel" "text" "LRiverModel$Text;", .fieldLink RX9 23 "RiverModel" "draft" "LRiverModel$Model;", .methodLink RX9 110 yX7_readInto, .instanceMethod yX7_readInto, .selects RX7 yX7_readInto yX7_readInto, .initialized RX7, .code yX7_readInto cX7_readInto 4 (some .int), .methodLink RX7 25 yX4_empty, .instanceMethod yX4_empty, .selects RX4 yX4_empty yX4_empty, .initialized RX4, .fieldLink RX7 22 "RiverModel$Text" "at" "I", .fieldLink RX7 18 "RiverModel$Text" "length" "I", .code yX4_empty cX4_empty 1 none, .fieldLink RX4 21 "RiverModel$Model" "many" "I", .fieldLink RX4 25 "RiverModel$Model" "stores" "I", .fieldLink RX4 28 "RiverModel$Model" "gates" "I", .fieldLink RX4 15 "RiverModel$Model" "storeItems" "[I", .methodLink RX4 31 yJ7_fill_53178, .static yJ7_fill_53178, .initialized RJ7, .fieldLink RX4 18 "RiverModel$Model" "gateItems" "[I", .code yJ7_fill_53178 cJ7_fill_53178 4 none] ++ wsX90 ++ wsX70 ++ wsX40)
set_option maxRecDepth 20000 in
theorem gu_X9_fault_X7_readInto_110 : GoodIn uX9_fault (wsV RX9 110 RX7 yX7_readInto uX7_readInto) := goodIn_r _ [3, 4, 5, 6, 7, 8, 9, 10, 11, 12, 13, 14, 15, 16, 17, 18, 19, 20, 21, 22, 23, 42, 43, 44, 45, 46, 47, 48, 49, 50, 51] (by decide +kernel) (by decide +kernel)
set_option maxHeartbeats 4000000 in
set_option maxRecDepth 100000 in
theorem c_X9_fault (l : Launch) (D : va_G) (t : Nat → Nat) (cI cL cC : ClassId) (a0 : Nat) (k_a0 : t a0 = 1) : tM l yX9_fault uX9_fault 3 66 D (fF cI cL cC 0 0) (fF cI cL cC 0 0) t cI cL cC [.ref a0] wrX (pI (fun r => r = (-4))) := by
  refine tM.ofW (cc := cX9_fault) (maxL := 1) (ret := (some .int)) (by decide) rfl (Nat.le_of_ble_eq_true rfl) ?_
  intro p e s m below meth c hx hb hr hml hown hts hlk H locs hG hK hE hS ls hl
  have hl : lv_has ls 1 [(0, .ref a0)] := hl
  have in9 : ∀ w ∈ wsX90, w ∈ uX9_fault := fun w h => List.mem_cons_of_mem _ (List.mem_append_left _ (List.mem_append_left _ (List.mem_append_right _ h)))
  refine lv_aload_n hx hb dX9_fault_0 rfl (lv_at hl 0 rfl) ?_
  obtain ⟨r_1, r_3, r_5, r_7, r_9, r_11, r_13, r_15, r_17, r_19, r_21, r_23, r_25, r_27, r_29, at_31, h_2, h_4, h_6, h_8, h_10, h_12, h_14, h_16, h_18, h_20, h_22, h_24, h_26, h_28, h_30⟩ := fF_o1 hG k_a0
  refine va_get (D := D) (ci := 8) (v := .ref r_1) (C := RX9) (T := TX9) (N := 18) hx hb hts in9 hown hK (va_one at_31) 0 rfl rfl 0 (by decide) (hts (.fieldLink RX9 10 "RiverModel" "text" "LRiverModel$Text;") (List.mem_of_getElem? (i := 1) rfl)) (fun _ h9 => h9) rfl dX9_fault_1 ?_
  refine lv_aload_n hx hb dX9_fault_4 rfl (lv_at hl 0 rfl) ?_
  refine va_get (D := D) (ci := 8) (v := .ref r_5) (C := RX9) (T := TX9) (N := 18) hx hb hts in9 hown hK (va_one at_31) 0 rfl rfl 2 (by decide) (hts (.fieldLink RX9 23 "RiverModel" "draft" "LRiverModel$Model;") (List.mem_of_getElem? (i := 2) rfl)) (fun _ h9 => h9) rfl dX9_fault_5 ?_
  obtain ⟨r_32, r_34, v_36, at_37, h_33, h_35⟩ := fF_o2 hG h_2
  refine ty_calli ((W.runV (As := [.ref r_5]) (rest := []) ⟨hx, hb, hml, hown, hts⟩ (c_X7_readInto l D t cI cL cC r_1 r_5 h_2 h_6) (cwV 1 hts gu_X9_fault_X7_readInto_110 rfl rfl rfl (by decide +kernel) ⟨Nat.le_of_ble_eq_true rfl, Nat.le_of_ble_eq_true rfl⟩) (tP_V hG hE at_37 rfl) rfl rfl hl.1 rfl (lv_room (Nat.le_of_ble_eq_true rfl)) dX9_fault_8 ⟨Nat.le_of_ble_eq_true rfl, Nat.le_of_ble_eq_true rfl⟩)) hS (fun _ h => h) (fun r_38 H locs hp_39 hG hS o_40 => ?_)
  rcases hp_39 with rfl
  exact ty_iret hx hb hr hlk hG hS (by first | exact Or.inl ⟨rfl, by omega⟩ | exact Or.inr ⟨rfl, by omega⟩ | exact Or.inr (Or.inl ⟨rfl, by omega⟩) | exact Or.inr (Or.inr ⟨rfl, by omega⟩) | exact ⟨rfl, by omega⟩ | omega | trivial | rfl | (exfalso; omega)) dX9_fault_11

def uX9_build : List Cond := .code yX9_build cX9_build 1 (some .int) :: ([.fieldLink RX9 10 "RiverModel" "text" "LRiverModel$Text;", .fieldLink RX9 23 "RiverModel" "draft" "LRiverModel$Model;", .methodLink RX9 110 yX7_readInto, .instanceMethod yX7_readInto, .selects RX7 yX7_readInto yX7_readInto, .initialized RX7, .fieldLink RX9 114 "RiverModel$Model" "stores" "I", .code yX7_readInto cX7_readInto 4 (some .int), .methodLink RX7 25 yX4_empty, .instanceMethod yX4_empty, .selects RX4 yX4_empty yX4_empty, .initialized RX4, .fieldLink RX7 22 "RiverModel$Text" "at" "I", .fieldLink RX7 18 "RiverModel$Text" "length" "I", .code yX4_empty cX4_empty 1 none, .fieldLink RX4 21 "RiverModel$Model" "many" "I", .fieldLink RX4 25 "RiverModel$Model" "stores" "I", .fieldLink RX4 28 "RiverModel$Model" "gates" "I", .fieldLink RX4 15 "RiverModel$Model" "storeItems" "[I", .methodLink RX4 31 yJ7_fill_53178, .static yJ7_fill_53178, .initialized RJ7, .fieldLink RX4 18 "RiverModel$Model" "gateItems" "[I", .code yJ7_fill_53178 cJ7_fill_53178 4 none] ++ wsX90 ++ wsX40 ++ wsX70)
set_option maxRecDepth 20000 in
theorem gu_X9_build_X7_readInto_110 : GoodIn uX9_build (wsV RX9 110 RX7 yX7_readInto uX7_readInto) := goodIn_r _ [3, 4, 5, 6, 8, 9, 10, 11, 12, 13, 14, 15, 16, 17, 18, 19, 20, 21, 22, 23, 24, 49, 50, 51, 52, 43, 44, 45, 46, 47, 48] (by decide +kernel) (by decide +kernel)
set_option maxHeartbeats 4000000 in
set_option maxRecDepth 100000 in
theorem c_X9_build (l : Launch) (D : va_G) (t : Nat → Nat) (cI cL cC : ClassId) (a0 : Nat) (k_a0 : t a0 = 1) : tM l yX9_build uX9_build 3 66 D (fF cI cL cC 0 0) (fF cI cL cC 0 0) t cI cL cC [.ref a0] wrX (pI (fun r => r = (-2))) := by
  refine tM.ofW (cc := cX9_build) (maxL := 1) (ret := (some .int)) (by decide) rfl (Nat.le_of_ble_eq_true rfl) ?_
  intro p e s m below meth c hx hb hr hml hown hts hlk H locs hG hK hE hS ls hl
  have hl : lv_has ls 1 [(0, .ref a0)] := hl
  have in9 : ∀ w ∈ wsX90, w ∈ uX9_build := fun w h => List.mem_cons_of_mem _ (List.mem_append_left _ (List.mem_append_left _ (List.mem_append_right _ h)))
  have in4 : ∀ w ∈ wsX40, w ∈ uX9_build := fun w h => List.mem_cons_of_mem _ (List.mem_append_left _ (List.mem_append_right _ h))
  refine lv_aload_n hx hb dX9_build_0 rfl (lv_at hl 0 rfl) ?_
  obtain ⟨r_1, r_3, r_5, r_7, r_9, r_11, r_13, r_15, r_17, r_19, r_21, r_23, r_25, r_27, r_29, at_31, h_2, h_4, h_6, h_8, h_10, h_12, h_14, h_16, h_18, h_20, h_22, h_24, h_26, h_28, h_30⟩ := fF_o1 hG k_a0
  refine va_get (D := D) (ci := 8) (v := .ref r_1) (C := RX9) (T := TX9) (N := 18) hx hb hts in9 hown hK (va_one at_31) 0 rfl rfl 0 (by decide) (hts (.fieldLink RX9 10 "RiverModel" "text" "LRiverModel$Text;") (List.mem_of_getElem? (i := 1) rfl)) (fun _ h9 => h9) rfl dX9_build_1 ?_
  refine lv_aload_n hx hb dX9_build_4 rfl (lv_at hl 0 rfl) ?_
  refine va_get (D := D) (ci := 8) (v := .ref r_5) (C := RX9) (T := TX9) (N := 18) hx hb hts in9 hown hK (va_one at_31) 0 rfl rfl 2 (by decide) (hts (.fieldLink RX9 23 "RiverModel" "draft" "LRiverModel$Model;") (List.mem_of_getElem? (i := 2) rfl)) (fun _ h9 => h9) rfl dX9_build_5 ?_
  obtain ⟨r_32, r_34, v_36, at_37, h_33, h_35⟩ := fF_o2 hG h_2
  refine ty_calli ((W.runV (As := [.ref r_5]) (rest := []) ⟨hx, hb, hml, hown, hts⟩ (c_X7_readInto l D t cI cL cC r_1 r_5 h_2 h_6) (cwV 1 hts gu_X9_build_X7_readInto_110 rfl rfl rfl (by decide +kernel) ⟨Nat.le_of_ble_eq_true rfl, Nat.le_of_ble_eq_true rfl⟩) (tP_V hG hE at_37 rfl) rfl rfl hl.1 rfl (lv_room (Nat.le_of_ble_eq_true rfl)) dX9_build_8 ⟨Nat.le_of_ble_eq_true rfl, Nat.le_of_ble_eq_true rfl⟩)) hS (fun _ h => h) (fun r_38 H locs hp_39 hG hS o_40 => ?_)
  rcases hp_39 with rfl
  refine lv_bipush (v := (-4)) hx hb dX9_build_11 (by decide) ?_
  refine lv_icmp_ne (tgt := 26) hx hb dX9_build_13 (by decide) (fun q => absurd rfl q) (fun _ => ?_)
  refine lv_pc (pc2 := 16) rfl ?_
  refine lv_aload_n hx hb dX9_build_16 rfl (lv_at hl 0 rfl) ?_
  obtain ⟨r_41, r_43, r_45, r_47, r_49, r_51, r_53, r_55, r_57, r_59, r_61, r_63, r_65, r_67, r_69, at_71, h_42, h_44, h_46, h_48, h_50, h_52, h_54, h_56, h_58, h_60, h_62, h_64, h_66, h_68, h_70⟩ := fF_o1 hG k_a0
  refine va_get (D := D) (ci := 8) (v := .ref r_45) (C := RX9) (T := TX9) (N := 18) hx hb hts in9 hown hK (va_one at_71) 0 rfl rfl 2 (by decide) (hts (.fieldLink RX9 23 "RiverModel" "draft" "LRiverModel$Model;") (List.mem_of_getElem? (i := 2) rfl)) (fun _ h9 => h9) rfl dX9_build_17 ?_
  obtain ⟨r_72, r_74, r_76, at_78, h_73, h_75, h_77⟩ := fF_o3 hG h_46
  refine va_get (D := D) (ci := 3) (v := .int 0) (C := RX4) (T := TX4) (N := 6) hx hb hts in4 hown hK (va_one at_78) 0 rfl rfl 4 (by decide) (hts (.fieldLink RX9 114 "RiverModel$Model" "stores" "I") (List.mem_of_getElem? (i := 7) rfl)) (fun _ h9 => h9) rfl dX9_build_20 ?_
  refine lv_if_ne (tgt := 29) hx hb dX9_build_23 (by decide) (fun q => absurd rfl q) (fun _ => ?_)
  refine lv_bipush (v := (-2)) hx hb dX9_build_26 (by decide) ?_
  exact ty_iret hx hb hr hlk hG hS (by first | exact Or.inl ⟨rfl, by omega⟩ | exact Or.inr ⟨rfl, by omega⟩ | exact Or.inr (Or.inl ⟨rfl, by omega⟩) | exact Or.inr (Or.inr ⟨rfl, by omega⟩) | exact ⟨rfl, by omega⟩ | omega | trivial | rfl | (exfalso; omega)) dX9_build_28

def uX9_weather : List Cond := .code yX9_weather cX9_weather 6 (some .int) :: ([.methodLink RX9 99 yX9_isOutside, .static yX9_isOutside, .initialized RX9, .fieldLink RX9 43 "RiverModel" "skyB" "LRiverModel$Sky;", .fieldLink RX9 138 "RiverModel$Sky" "rains" "[I", .fieldLink RX9 141 "RiverModel$Sky" "temps" "[I", .fieldLink RX9 39 "RiverModel" "skyA" "LRiverModel$Sky;", .code yX9_isOutside cX9_isOutside 3 (some .boolean)] ++ wsX90 ++ wsX60)
set_option maxRecDepth 20000 in
theorem gu_X9_weather_X9_isOutside_99 : GoodIn uX9_weather (va_wsS RX9 99 yX9_isOutside uX9_isOutside) := goodIn_r _ [1, 2, 3, 8] (by decide +kernel) (by decide +kernel)
set_option maxHeartbeats 4000000 in
set_option maxRecDepth 100000 in
theorem c_X9_weather (l : Launch) (D : va_G) (t : Nat → Nat) (cI cL cC : ClassId) (a0 : Nat) (a1 : Int32) (a2 : Int32) (a3 : Int32) (a4 : Int32) (k_a0 : t a0 = 1) : tM l yX9_weather uX9_weather 1 22 D (fF cI cL cC 0 0) (fF cI cL cC 0 0) t cI cL cC [.ref a0, .int a1, .int a2, .int a3, .int a4] wrX (pI (fun r => (r = (-1) ∧ (a1.toInt < 0 ∨ 1 < a1.toInt ∨ a2.toInt < 0 ∨ 95 < a2.toInt ∨ a3.toInt < 0 ∨ 10000 < a3.toInt ∨ a4.toInt < (-30) ∨ 40 < a4.toInt)) ∨ (r = 0 ∧ 0 ≤ a1.toInt ∧ a1.toInt ≤ 1 ∧ 0 ≤ a2.toInt ∧ a2.toInt ≤ 95 ∧ 0 ≤ a3.toInt ∧ a3.toInt ≤ 10000 ∧ (-30) ≤ a4.toInt ∧ a4.toInt ≤ 40))) := by
  refine tM.ofW (cc := cX9_weather) (maxL := 6) (ret := (some .int)) (by decide) rfl (Nat.le_of_ble_eq_true rfl) ?_
  intro p e s m below meth c hx hb hr hml hown hts hlk H locs hG hK hE hS ls hl
  have hl : lv_has ls 6 [(0, .ref a0), (1, .int a1), (2, .int a2), (3, .int a3), (4, .int a4)] := hl
  have in9 : ∀ w ∈ wsX90, w ∈ uX9_weather := fun w h => List.mem_cons_of_mem _ (List.mem_append_left _ (List.mem_append_right _ h))
  have in6 : ∀ w ∈ wsX60, w ∈ uX9_weather := fun w h => List.mem_cons_of_mem _ (List.mem_append_right _ h)
  refine lv_iload_n hx hb dX9_weather_0 rfl (lv_at hl 1 rfl) ?_
  refine lv_iconst (v := 0) hx hb dX9_weather_1 (by decide) ?_
  refine lv_iconst (v := 1) hx hb dX9_weather_2 (by decide) ?_
  refine ty_calli ((W.runS (As := [.int a1, .int 0, .int 1]) (rest := []) ⟨hx, hb, hml, hown, hts⟩ (c_isOutside l D t cI cL cC 0 0 a1 0 1 0 1 (by decide) (by decide) ) (va_cwS 3 hts gu_X9_weather_X9_isOutside_99 rfl rfl rfl (by decide +kernel) ⟨Nat.le_of_ble_eq_true rfl, Nat.le_of_ble_eq_true rfl⟩) (tP_S hG hE) rfl rfl hl.1 rfl (lv_room (Nat.le_of_ble_eq_true rfl)) dX9_weather_3 ⟨Nat.le_of_ble_eq_true rfl, Nat.le_of_ble_eq_true rfl⟩)) hS (fun k h => by simp [wr0] at h) (fun r_1 H locs hp_2 hG hS o_3 => ?_)
  rcases hp_2 with ⟨rfl, hc_145⟩ | ⟨rfl, hc_146, hc_147⟩
  · skip
    refine lv_if_ne (tgt := 19) hx hb dX9_weather_6 (by decide) (fun _ => ?_) (fun q => absurd q (by decide))
    refine lv_iconst (v := (-1)) hx hb dX9_weather_19 (by decide) ?_
    exact ty_iret hx hb hr hlk hG hS (by first | exact Or.inl ⟨rfl, by omega⟩ | exact Or.inr ⟨rfl, by omega⟩ | exact Or.inr (Or.inl ⟨rfl, by omega⟩) | exact Or.inr (Or.inr ⟨rfl, by omega⟩) | exact ⟨rfl, by omega⟩ | omega | trivial | rfl | (exfalso; omega)) dX9_weather_20
  · skip
    refine lv_pc (pc2 := 6) rfl ?_
    refine lv_if_ne (tgt := 19) hx hb dX9_weather_6 (by decide) (fun q => absurd rfl q) (fun _ => ?_)
    refine lv_iload_n hx hb dX9_weather_9 rfl (lv_at hl 2 rfl) ?_
    refine lv_iconst (v := 0) hx hb dX9_weather_10 (by decide) ?_
    refine lv_bipush (v := 95) hx hb dX9_weather_11 (by decide) ?_
    refine ty_calli ((W.runS (As := [.int a2, .int 0, .int 95]) (rest := []) ⟨hx, hb, hml, hown, hts⟩ (c_isOutside l D t cI cL cC 0 0 a2 0 95 0 95 (by decide) (by decide) ) (va_cwS 3 hts gu_X9_weather_X9_isOutside_99 rfl rfl rfl (by decide +kernel) ⟨Nat.le_of_ble_eq_true rfl, Nat.le_of_ble_eq_true rfl⟩) (tP_S hG hE) rfl rfl hl.1 rfl (lv_room (Nat.le_of_ble_eq_true rfl)) dX9_weather_13 ⟨Nat.le_of_ble_eq_true rfl, Nat.le_of_ble_eq_true rfl⟩)) hS (fun k h => by simp [wr0] at h) (fun r_4 H locs hp_5 hG hS o_6 => ?_)
    rcases hp_5 with ⟨rfl, hc_148⟩ | ⟨rfl, hc_149, hc_150⟩
    · skip
      refine lv_if_eq (tgt := 21) hx hb dX9_weather_16 (by decide) (fun q => absurd q (by decide)) (fun _ => ?_)
      refine lv_iconst (v := (-1)) hx hb dX9_weather_19 (by decide) ?_
      exact ty_iret hx hb hr hlk hG hS (by first | exact Or.inl ⟨rfl, by omega⟩ | exact Or.inr ⟨rfl, by omega⟩ | exact Or.inr (Or.inl ⟨rfl, by omega⟩) | exact Or.inr (Or.inr ⟨rfl, by omega⟩) | exact ⟨rfl, by omega⟩ | omega | trivial | rfl | (exfalso; omega)) dX9_weather_20
    · skip
      refine lv_pc (pc2 := 16) rfl ?_
      refine lv_if_eq (tgt := 21) hx hb dX9_weather_16 (by decide) (fun _ => ?_) (fun q => absurd (by decide) q)
      refine lv_iload_n hx hb dX9_weather_21 rfl (lv_at hl 3 rfl) ?_
      refine lv_iconst (v := 0) hx hb dX9_weather_22 (by decide) ?_
      refine lv_sipush (v := 10000) hx hb dX9_weather_23 (by decide) ?_
      refine ty_calli ((W.runS (As := [.int a3, .int 0, .int 10000]) (rest := []) ⟨hx, hb, hml, hown, hts⟩ (c_isOutside l D t cI cL cC 0 0 a3 0 10000 0 10000 (by decide) (by decide) ) (va_cwS 3 hts gu_X9_weather_X9_isOutside_99 rfl rfl rfl (by decide +kernel) ⟨Nat.le_of_ble_eq_true rfl, Nat.le_of_ble_eq_true rfl⟩) (tP_S hG hE) rfl rfl hl.1 rfl (lv_room (Nat.le_of_ble_eq_true rfl)) dX9_weather_26 ⟨Nat.le_of_ble_eq_true rfl, Nat.le_of_ble_eq_true rfl⟩)) hS (fun k h => by simp [wr0] at h) (fun r_7 H locs hp_8 hG hS o_9 => ?_)
      rcases hp_8 with ⟨rfl, hc_151⟩ | ⟨rfl, hc_152, hc_153⟩
      · skip
        refine lv_if_ne (tgt := 44) hx hb dX9_weather_29 (by decide) (fun _ => ?_) (fun q => absurd q (by decide))
        refine lv_iconst (v := (-1)) hx hb dX9_weather_44 (by decide) ?_
        exact ty_iret hx hb hr hlk hG hS (by first | exact Or.inl ⟨rfl, by omega⟩ | exact Or.inr ⟨rfl, by omega⟩ | exact Or.inr (Or.inl ⟨rfl, by omega⟩) | exact Or.inr (Or.inr ⟨rfl, by omega⟩) | exact ⟨rfl, by omega⟩ | omega | trivial | rfl | (exfalso; omega)) dX9_weather_45
      · skip
        refine lv_pc (pc2 := 29) rfl ?_
        refine lv_if_ne (tgt := 44) hx hb dX9_weather_29 (by decide) (fun q => absurd rfl q) (fun _ => ?_)
        refine lv_iload hx hb dX9_weather_32 (lv_at hl 4 rfl) ?_
        refine lv_bipush (v := (-30)) hx hb dX9_weather_34 (by decide) ?_
        refine lv_bipush (v := 40) hx hb dX9_weather_36 (by decide) ?_
        refine ty_calli ((W.runS (As := [.int a4, .int (-30), .int 40]) (rest := []) ⟨hx, hb, hml, hown, hts⟩ (c_isOutside l D t cI cL cC 0 0 a4 (-30) 40 (-30) 40 (by decide) (by decide) ) (va_cwS 3 hts gu_X9_weather_X9_isOutside_99 rfl rfl rfl (by decide +kernel) ⟨Nat.le_of_ble_eq_true rfl, Nat.le_of_ble_eq_true rfl⟩) (tP_S hG hE) rfl rfl hl.1 rfl (lv_room (Nat.le_of_ble_eq_true rfl)) dX9_weather_38 ⟨Nat.le_of_ble_eq_true rfl, Nat.le_of_ble_eq_true rfl⟩)) hS (fun k h => by simp [wr0] at h) (fun r_10 H locs hp_11 hG hS o_12 => ?_)
        rcases hp_11 with ⟨rfl, hc_154⟩ | ⟨rfl, hc_155, hc_156⟩
        · skip
          refine lv_if_eq (tgt := 46) hx hb dX9_weather_41 (by decide) (fun q => absurd q (by decide)) (fun _ => ?_)
          refine lv_iconst (v := (-1)) hx hb dX9_weather_44 (by decide) ?_
          exact ty_iret hx hb hr hlk hG hS (by first | exact Or.inl ⟨rfl, by omega⟩ | exact Or.inr ⟨rfl, by omega⟩ | exact Or.inr (Or.inl ⟨rfl, by omega⟩) | exact Or.inr (Or.inr ⟨rfl, by omega⟩) | exact ⟨rfl, by omega⟩ | omega | trivial | rfl | (exfalso; omega)) dX9_weather_45
        · skip
          refine lv_pc (pc2 := 41) rfl ?_
          refine lv_if_eq (tgt := 46) hx hb dX9_weather_41 (by decide) (fun _ => ?_) (fun q => absurd (by decide) q)
          refine lv_iload_n hx hb dX9_weather_46 rfl (lv_at hl 1 rfl) ?_
          refine lv_if_ne (tgt := 57) hx hb dX9_weather_47 (by decide) (fun c_13 => ?_) (fun c_13 => ?_)
          · skip
            have c_13 : a1.toInt ≠ 0 := q_ne c_13
            refine lv_aload_n hx hb dX9_weather_57 rfl (lv_at hl 0 rfl) ?_
            obtain ⟨r_14, r_16, r_18, r_20, r_22, r_24, r_26, r_28, r_30, r_32, r_34, r_36, r_38, r_40, r_42, at_44, h_15, h_17, h_19, h_21, h_23, h_25, h_27, h_29, h_31, h_33, h_35, h_37, h_39, h_41, h_43⟩ := fF_o1 hG k_a0
            refine va_get (D := D) (ci := 8) (v := .ref r_24) (C := RX9) (T := TX9) (N := 18) hx hb hts in9 hown hK (va_one at_44) 0 rfl rfl 7 (by decide) (hts (.fieldLink RX9 43 "RiverModel" "skyB" "LRiverModel$Sky;") (List.mem_of_getElem? (i := 4) rfl)) (fun _ h9 => h9) rfl dX9_weather_58 ?_
            refine lv_astore (lv' := [(5, .ref r_24), (0, .ref a0), (1, .int a1), (2, .int a2), (3, .int a3), (4, .int a4)]) hx hb dX9_weather_61 hl (by decide) rfl (fun ls hl => ?_)
            refine lv_aload hx hb dX9_weather_63 (lv_at hl 0 rfl) ?_
            obtain ⟨r_45, r_47, at_49, h_46, h_48⟩ := fF_o4 hG h_25
            refine va_get (D := D) (ci := 5) (v := .ref r_45) (C := RX6) (T := TX6) (N := 2) hx hb hts in6 hown hK (va_one at_49) 0 rfl rfl 0 (by decide) (hts (.fieldLink RX9 138 "RiverModel$Sky" "rains" "[I") (List.mem_of_getElem? (i := 5) rfl)) (fun _ h9 => h9) rfl dX9_weather_65 ?_
            refine lv_pc (pc2 := 68) rfl ?_
            refine lv_iload_n hx hb dX9_weather_68 rfl (lv_at hl 3 rfl) ?_
            refine lv_iload_n hx hb dX9_weather_69 rfl (lv_at hl 4 rfl) ?_
            obtain ⟨f_50, at_51⟩ := fF_o15 hG h_46
            have b_52 : vp_in a2 96 := (q_in (by omega) (by omega))
            refine ty_iast (F2 := (fF cI cL cC 0 0)) hx hb hK hG hS 0 at_51 (by rw [h_46]; rfl) rfl b_52 (by rw [h_46]; exact ⟨_, rfl⟩) tFF dX9_weather_70 (fun H locs hG hS at_53 o_54 => ?_)
            have at_44 := va_at.keptK at_44 o_54 h_46 k_a0 rfl
            have at_49 := va_at.keptK at_49 o_54 h_46 h_25 rfl
            refine lv_aload hx hb dX9_weather_71 (lv_at hl 0 rfl) ?_
            refine va_get (D := D) (ci := 5) (v := .ref r_47) (C := RX6) (T := TX6) (N := 2) hx hb hts in6 hown hK (va_one at_49) 0 rfl rfl 1 (by decide) (hts (.fieldLink RX9 141 "RiverModel$Sky" "temps" "[I") (List.mem_of_getElem? (i := 6) rfl)) (fun _ h9 => h9) rfl dX9_weather_73 ?_
            refine lv_iload_n hx hb dX9_weather_76 rfl (lv_at hl 3 rfl) ?_
            refine lv_iload hx hb dX9_weather_77 (lv_at hl 5 rfl) ?_
            obtain ⟨f_55, at_56⟩ := fF_o16 hG h_48
            have b_57 : vp_in a2 96 := (q_in (by omega) (by omega))
            refine ty_iast (F2 := (fF cI cL cC 0 0)) hx hb hK hG hS 0 at_56 (by rw [h_48]; rfl) rfl b_57 (by rw [h_48]; exact ⟨_, rfl⟩) tFF dX9_weather_79 (fun H locs hG hS at_58 o_59 => ?_)
            have at_44 := va_at.keptK at_44 o_59 h_48 k_a0 rfl
            have at_49 := va_at.keptK at_49 o_59 h_48 h_25 rfl
            refine lv_pc (pc2 := 80) rfl ?_
            refine lv_iconst (v := 0) hx hb dX9_weather_80 (by decide) ?_
            exact ty_iret hx hb hr hlk hG hS (by first | exact Or.inl ⟨rfl, by omega⟩ | exact Or.inr ⟨rfl, by omega⟩ | exact Or.inr (Or.inl ⟨rfl, by omega⟩) | exact Or.inr (Or.inr ⟨rfl, by omega⟩) | exact ⟨rfl, by omega⟩ | omega | trivial | rfl | (exfalso; omega)) dX9_weather_81
          · skip
            have c_13 : a1.toInt = 0 := q_eq c_13
            refine lv_aload_n hx hb dX9_weather_50 rfl (lv_at hl 0 rfl) ?_
            obtain ⟨r_60, r_62, r_64, r_66, r_68, r_70, r_72, r_74, r_76, r_78, r_80, r_82, r_84, r_86, r_88, at_90, h_61, h_63, h_65, h_67, h_69, h_71, h_73, h_75, h_77, h_79, h_81, h_83, h_85, h_87, h_89⟩ := fF_o1 hG k_a0
            refine va_get (D := D) (ci := 8) (v := .ref r_68) (C := RX9) (T := TX9) (N := 18) hx hb hts in9 hown hK (va_one at_90) 0 rfl rfl 6 (by decide) (hts (.fieldLink RX9 39 "RiverModel" "skyA" "LRiverModel$Sky;") (List.mem_of_getElem? (i := 7) rfl)) (fun _ h9 => h9) rfl dX9_weather_51 ?_
            refine lv_goto (tgt := 61) hx hb dX9_weather_54 (by decide) ?_
            refine lv_astore (lv' := [(5, .ref r_68), (0, .ref a0), (1, .int a1), (2, .int a2), (3, .int a3), (4, .int a4)]) hx hb dX9_weather_61 hl (by decide) rfl (fun ls hl => ?_)
            refine lv_aload hx hb dX9_weather_63 (lv_at hl 0 rfl) ?_
            obtain ⟨r_91, r_93, at_95, h_92, h_94⟩ := fF_o4 hG h_69
            refine va_get (D := D) (ci := 5) (v := .ref r_91) (C := RX6) (T := TX6) (N := 2) hx hb hts in6 hown hK (va_one at_95) 0 rfl rfl 0 (by decide) (hts (.fieldLink RX9 138 "RiverModel$Sky" "rains" "[I") (List.mem_of_getElem? (i := 5) rfl)) (fun _ h9 => h9) rfl dX9_weather_65 ?_
            refine lv_pc (pc2 := 68) rfl ?_
            refine lv_iload_n hx hb dX9_weather_68 rfl (lv_at hl 3 rfl) ?_
            refine lv_iload_n hx hb dX9_weather_69 rfl (lv_at hl 4 rfl) ?_
            obtain ⟨f_96, at_97⟩ := fF_o15 hG h_92
            have b_98 : vp_in a2 96 := (q_in (by omega) (by omega))
            refine ty_iast (F2 := (fF cI cL cC 0 0)) hx hb hK hG hS 0 at_97 (by rw [h_92]; rfl) rfl b_98 (by rw [h_92]; exact ⟨_, rfl⟩) tFF dX9_weather_70 (fun H locs hG hS at_99 o_100 => ?_)
            have at_90 := va_at.keptK at_90 o_100 h_92 k_a0 rfl
            have at_95 := va_at.keptK at_95 o_100 h_92 h_69 rfl
            refine lv_aload hx hb dX9_weather_71 (lv_at hl 0 rfl) ?_
            refine va_get (D := D) (ci := 5) (v := .ref r_93) (C := RX6) (T := TX6) (N := 2) hx hb hts in6 hown hK (va_one at_95) 0 rfl rfl 1 (by decide) (hts (.fieldLink RX9 141 "RiverModel$Sky" "temps" "[I") (List.mem_of_getElem? (i := 6) rfl)) (fun _ h9 => h9) rfl dX9_weather_73 ?_
            refine lv_iload_n hx hb dX9_weather_76 rfl (lv_at hl 3 rfl) ?_
            refine lv_iload hx hb dX9_weather_77 (lv_at hl 5 rfl) ?_
            obtain ⟨f_101, at_102⟩ := fF_o16 hG h_94
            have b_103 : vp_in a2 96 := (q_in (by omega) (by omega))
            refine ty_iast (F2 := (fF cI cL cC 0 0)) hx hb hK hG hS 0 at_102 (by rw [h_94]; rfl) rfl b_103 (by rw [h_94]; exact ⟨_, rfl⟩) tFF dX9_weather_79 (fun H locs hG hS at_104 o_105 => ?_)
            have at_90 := va_at.keptK at_90 o_105 h_94 k_a0 rfl
            have at_95 := va_at.keptK at_95 o_105 h_94 h_69 rfl
            refine lv_pc (pc2 := 80) rfl ?_
            refine lv_iconst (v := 0) hx hb dX9_weather_80 (by decide) ?_
            exact ty_iret hx hb hr hlk hG hS (by first | exact Or.inl ⟨rfl, by omega⟩ | exact Or.inr ⟨rfl, by omega⟩ | exact Or.inr (Or.inl ⟨rfl, by omega⟩) | exact Or.inr (Or.inr ⟨rfl, by omega⟩) | exact ⟨rfl, by omega⟩ | omega | trivial | rfl | (exfalso; omega)) dX9_weather_81

def uX9_ends : List Cond := .code yX9_ends cX9_ends 3 (some .int) :: ([.constant RX9 224 (100000), .methodLink RX9 99 yX9_isOutside, .static yX9_isOutside, .initialized RX9, .fieldLink RX9 74 "RiverModel" "gauges" "LRiverModel$Gauges;", .fieldLink RX9 225 "RiverModel$Gauges" "mayBeOff" "I", .code yX9_isOutside cX9_isOutside 3 (some .boolean)] ++ wsX90 ++ wsX10)
set_option maxRecDepth 20000 in
theorem gu_X9_ends_X9_isOutside_99 : GoodIn uX9_ends (va_wsS RX9 99 yX9_isOutside uX9_isOutside) := goodIn_r _ [2, 3, 4, 7] (by decide +kernel) (by decide +kernel)
set_option maxHeartbeats 4000000 in
set_option maxRecDepth 100000 in
theorem c_X9_ends (l : Launch) (D : va_G) (t : Nat → Nat) (cI cL cC : ClassId) (a0 : Nat) (a1 : Int32) (k_a0 : t a0 = 1) : tM l yX9_ends uX9_ends 1 22 D (fF cI cL cC 0 0) fT t cI cL cC [.ref a0, .int a1] wrX (pI (fun r => (r = (-1) ∧ (a1.toInt < 0 ∨ 100000 < a1.toInt)) ∨ (r = 0 ∧ 0 ≤ a1.toInt ∧ a1.toInt ≤ 100000))) := by
  refine tM.ofW (cc := cX9_ends) (maxL := 3) (ret := (some .int)) (by decide) rfl (Nat.le_of_ble_eq_true rfl) ?_
  intro p e s m below meth c hx hb hr hml hown hts hlk H locs hG hK hE hS ls hl
  have hl : lv_has ls 3 [(0, .ref a0), (1, .int a1)] := hl
  have in9 : ∀ w ∈ wsX90, w ∈ uX9_ends := fun w h => List.mem_cons_of_mem _ (List.mem_append_left _ (List.mem_append_right _ h))
  have in1 : ∀ w ∈ wsX10, w ∈ uX9_ends := fun w h => List.mem_cons_of_mem _ (List.mem_append_right _ h)
  refine lv_iload_n hx hb dX9_ends_0 rfl (lv_at hl 1 rfl) ?_
  refine lv_iconst (v := 0) hx hb dX9_ends_1 (by decide) ?_
  refine lv_ldc hx hb hown (hts (.constant RX9 224 (100000)) (List.mem_of_getElem? (i := 1) rfl)) dX9_ends_2 ?_
  refine ty_calli ((W.runS (As := [.int a1, .int 0, .int 100000]) (rest := []) ⟨hx, hb, hml, hown, hts⟩ (c_isOutside l D t cI cL cC 0 0 a1 0 100000 0 100000 (by decide) (by decide) ) (va_cwS 3 hts gu_X9_ends_X9_isOutside_99 rfl rfl rfl (by decide +kernel) ⟨Nat.le_of_ble_eq_true rfl, Nat.le_of_ble_eq_true rfl⟩) (tP_S hG hE) rfl rfl hl.1 rfl (lv_room (Nat.le_of_ble_eq_true rfl)) dX9_ends_4 ⟨Nat.le_of_ble_eq_true rfl, Nat.le_of_ble_eq_true rfl⟩)) hS (fun k h => by simp [wr0] at h) (fun r_1 H locs hp_2 hG hS o_3 => ?_)
  rcases hp_2 with ⟨rfl, hc_157⟩ | ⟨rfl, hc_158, hc_159⟩
  · skip
    refine lv_if_eq (tgt := 12) hx hb dX9_ends_7 (by decide) (fun q => absurd q (by decide)) (fun _ => ?_)
    refine lv_iconst (v := (-1)) hx hb dX9_ends_10 (by decide) ?_
    exact ty_iret hx hb hr hlk hG.toT hS (by first | exact Or.inl ⟨rfl, by omega⟩ | exact Or.inr ⟨rfl, by omega⟩ | exact Or.inr (Or.inl ⟨rfl, by omega⟩) | exact Or.inr (Or.inr ⟨rfl, by omega⟩) | exact ⟨rfl, by omega⟩ | omega | trivial | rfl | (exfalso; omega)) dX9_ends_11
  · skip
    refine lv_pc (pc2 := 7) rfl ?_
    refine lv_if_eq (tgt := 12) hx hb dX9_ends_7 (by decide) (fun _ => ?_) (fun q => absurd (by decide) q)
    refine lv_aload_n hx hb dX9_ends_12 rfl (lv_at hl 0 rfl) ?_
    obtain ⟨r_4, r_6, r_8, r_10, r_12, r_14, r_16, r_18, r_20, r_22, r_24, r_26, r_28, r_30, r_32, at_34, h_5, h_7, h_9, h_11, h_13, h_15, h_17, h_19, h_21, h_23, h_25, h_27, h_29, h_31, h_33⟩ := fF_o1 hG k_a0
    refine va_get (D := D) (ci := 8) (v := .ref r_26) (C := RX9) (T := TX9) (N := 18) hx hb hts in9 hown hK (va_one at_34) 0 rfl rfl 14 (by decide) (hts (.fieldLink RX9 74 "RiverModel" "gauges" "LRiverModel$Gauges;") (List.mem_of_getElem? (i := 5) rfl)) (fun _ h9 => h9) rfl dX9_ends_13 ?_
    obtain ⟨r_35, r_37, r_39, at_41, h_36, h_38, h_40⟩ := fF_o6 hG h_27
    refine va_get (D := D) (ci := 1) (v := .int 0) (C := RX1) (T := TX1) (N := 4) hx hb hts in1 hown hK (va_one at_41) 0 rfl rfl 3 (by decide) (hts (.fieldLink RX9 225 "RiverModel$Gauges" "mayBeOff" "I") (List.mem_of_getElem? (i := 6) rfl)) (fun _ h9 => h9) rfl dX9_ends_16 ?_
    refine lv_istore_n (lv' := [(2, .int 0), (0, .ref a0), (1, .int a1)]) hx hb dX9_ends_19 rfl hl (by decide) rfl (fun ls hl => ?_)
    refine lv_aload_n hx hb dX9_ends_20 rfl (lv_at hl 1 rfl) ?_
    refine va_get (D := D) (ci := 8) (v := .ref r_26) (C := RX9) (T := TX9) (N := 18) hx hb hts in9 hown hK (va_one at_34) 0 rfl rfl 14 (by decide) (hts (.fieldLink RX9 74 "RiverModel" "gauges" "LRiverModel$Gauges;") (List.mem_of_getElem? (i := 5) rfl)) (fun _ h9 => h9) rfl dX9_ends_21 ?_
    refine lv_iload_n hx hb dX9_ends_24 rfl (lv_at hl 2 rfl) ?_
    refine lv_pc (pc2 := 25) rfl ?_
    refine ty_put (D := D) (ci := 1) (v := .int a1) (ty := .int) (C := RX1) (T := TX1) (N := 4) (F2 := fT) hx hb hts in1 tyX1 tyX1_ok nmX1 hown hK hG hS at_41 (by rw [h_27]; rfl) rfl 3 (by decide) (hts (.fieldLink RX9 225 "RiverModel$Gauges" "mayBeOff" "I") (List.mem_of_getElem? (i := 6) rfl)) (fun _ h9 => h9) rfl (by decide +kernel) rfl rfl (Nat.le_of_ble_eq_true rfl) True.intro (fun hG b _ h0 => by obtain ⟨e, g1, _⟩ := hG b h0; exact ⟨e, g1, True.intro⟩) dX9_ends_25 (fun H locs hG hS at_42 o_43 => ?_)
    have at_42 : va_at D vwCl (r_26, .inr (1, [.ref r_35, .ref r_37, .ref r_39, .int a1])) H := at_42
    have at_34 := va_at.keptK at_34 o_43 h_27 k_a0 rfl
    refine lv_iload_n hx hb dX9_ends_28 rfl (lv_at hl 0 rfl) ?_
    exact ty_iret hx hb hr hlk hG hS (by first | exact Or.inl ⟨rfl, by omega⟩ | exact Or.inr ⟨rfl, by omega⟩ | exact Or.inr (Or.inl ⟨rfl, by omega⟩) | exact Or.inr (Or.inr ⟨rfl, by omega⟩) | exact ⟨rfl, by omega⟩ | omega | trivial | rfl | (exfalso; omega)) dX9_ends_29

def uX9_weigh : List Cond := .code yX9_weigh cX9_weigh 4 (some .int) :: ([.methodLink RX9 256 yX9_isNoWorld, .static yX9_isNoWorld, .initialized RX9, .methodLink RX9 99 yX9_isOutside, .static yX9_isOutside, .fieldLink RX9 88 "RiverModel" "worlds" "LRiverModel$Worlds;", .fieldLink RX9 259 "RiverModel$Worlds" "weights" "[I", .code yX9_isNoWorld cX9_isNoWorld 1 (some .boolean), .code yX9_isOutside cX9_isOutside 3 (some .boolean)] ++ wsX90 ++ wsX80)
set_option maxRecDepth 20000 in
theorem gu_X9_weigh_X9_isNoWorld_256 : GoodIn uX9_weigh (va_wsS RX9 256 yX9_isNoWorld uX9_isNoWorld) := goodIn_r _ [1, 2, 3, 8] (by decide +kernel) (by decide +kernel)
set_option maxRecDepth 20000 in
theorem gu_X9_weigh_X9_isOutside_99 : GoodIn uX9_weigh (va_wsS RX9 99 yX9_isOutside uX9_isOutside) := goodIn_r _ [4, 5, 3, 9] (by decide +kernel) (by decide +kernel)
set_option maxHeartbeats 4000000 in
set_option maxRecDepth 100000 in
theorem c_X9_weigh (l : Launch) (D : va_G) (t : Nat → Nat) (cI cL cC : ClassId) (a0 : Nat) (a1 : Int32) (a2 : Int32) (k_a0 : t a0 = 1) : tM l yX9_weigh uX9_weigh 1 22 D (fF cI cL cC 0 0) fT t cI cL cC [.ref a0, .int a1, .int a2] wrX (pI (fun r => (r = (-1) ∧ (a1.toInt < 0 ∨ 3 < a1.toInt ∨ a2.toInt < 0 ∨ 100 < a2.toInt)) ∨ (r = 0 ∧ 0 ≤ a1.toInt ∧ a1.toInt ≤ 3 ∧ 0 ≤ a2.toInt ∧ a2.toInt ≤ 100))) := by
  refine tM.ofW (cc := cX9_weigh) (maxL := 4) (ret := (some .int)) (by decide) rfl (Nat.le_of_ble_eq_true rfl) ?_
  intro p e s m below meth c hx hb hr hml hown hts hlk H locs hG hK hE hS ls hl
  have hl : lv_has ls 4 [(0, .ref a0), (1, .int a1), (2, .int a2)] := hl
  have in9 : ∀ w ∈ wsX90, w ∈ uX9_weigh := fun w h => List.mem_cons_of_mem _ (List.mem_append_left _ (List.mem_append_right _ h))
  have in8 : ∀ w ∈ wsX80, w ∈ uX9_weigh := fun w h => List.mem_cons_of_mem _ (List.mem_append_right _ h)
  refine lv_iload_n hx hb dX9_weigh_0 rfl (lv_at hl 1 rfl) ?_
  refine ty_calli ((W.runS (As := [.int a1]) (rest := []) ⟨hx, hb, hml, hown, hts⟩ (c_isNoWorld l D t cI cL cC 0 0 a1 ) (va_cwS 1 hts gu_X9_weigh_X9_isNoWorld_256 rfl rfl rfl (by decide +kernel) ⟨Nat.le_of_ble_eq_true rfl, Nat.le_of_ble_eq_true rfl⟩) (tP_S hG hE) rfl rfl hl.1 rfl (lv_room (Nat.le_of_ble_eq_true rfl)) dX9_weigh_1 ⟨Nat.le_of_ble_eq_true rfl, Nat.le_of_ble_eq_true rfl⟩)) hS (fun k h => by simp [wr0] at h) (fun r_1 H locs hp_2 hG hS o_3 => ?_)
  rcases hp_2 with ⟨rfl, hc_160⟩ | ⟨rfl, hc_161, hc_162⟩
  · skip
    refine lv_if_ne (tgt := 17) hx hb dX9_weigh_4 (by decide) (fun _ => ?_) (fun q => absurd q (by decide))
    refine lv_iconst (v := (-1)) hx hb dX9_weigh_17 (by decide) ?_
    exact ty_iret hx hb hr hlk hG.toT hS (by first | exact Or.inl ⟨rfl, by omega⟩ | exact Or.inr ⟨rfl, by omega⟩ | exact Or.inr (Or.inl ⟨rfl, by omega⟩) | exact Or.inr (Or.inr ⟨rfl, by omega⟩) | exact ⟨rfl, by omega⟩ | omega | trivial | rfl | (exfalso; omega)) dX9_weigh_18
  · skip
    refine lv_if_ne (tgt := 17) hx hb dX9_weigh_4 (by decide) (fun q => absurd rfl q) (fun _ => ?_)
    refine lv_iload_n hx hb dX9_weigh_7 rfl (lv_at hl 2 rfl) ?_
    refine lv_pc (pc2 := 8) rfl ?_
    refine lv_iconst (v := 0) hx hb dX9_weigh_8 (by decide) ?_
    refine lv_bipush (v := 100) hx hb dX9_weigh_9 (by decide) ?_
    refine ty_calli ((W.runS (As := [.int a2, .int 0, .int 100]) (rest := []) ⟨hx, hb, hml, hown, hts⟩ (c_isOutside l D t cI cL cC 0 0 a2 0 100 0 100 (by decide) (by decide) ) (va_cwS 3 hts gu_X9_weigh_X9_isOutside_99 rfl rfl rfl (by decide +kernel) ⟨Nat.le_of_ble_eq_true rfl, Nat.le_of_ble_eq_true rfl⟩) (tP_S hG hE) rfl rfl hl.1 rfl (lv_room (Nat.le_of_ble_eq_true rfl)) dX9_weigh_11 ⟨Nat.le_of_ble_eq_true rfl, Nat.le_of_ble_eq_true rfl⟩)) hS (fun k h => by simp [wr0] at h) (fun r_4 H locs hp_5 hG hS o_6 => ?_)
    rcases hp_5 with ⟨rfl, hc_163⟩ | ⟨rfl, hc_164, hc_165⟩
    · skip
      refine lv_if_eq (tgt := 19) hx hb dX9_weigh_14 (by decide) (fun q => absurd q (by decide)) (fun _ => ?_)
      refine lv_iconst (v := (-1)) hx hb dX9_weigh_17 (by decide) ?_
      exact ty_iret hx hb hr hlk hG.toT hS (by first | exact Or.inl ⟨rfl, by omega⟩ | exact Or.inr ⟨rfl, by omega⟩ | exact Or.inr (Or.inl ⟨rfl, by omega⟩) | exact Or.inr (Or.inr ⟨rfl, by omega⟩) | exact ⟨rfl, by omega⟩ | omega | trivial | rfl | (exfalso; omega)) dX9_weigh_18
    · skip
      refine lv_if_eq (tgt := 19) hx hb dX9_weigh_14 (by decide) (fun _ => ?_) (fun q => absurd (by decide) q)
      refine lv_aload_n hx hb dX9_weigh_19 rfl (lv_at hl 0 rfl) ?_
      refine lv_pc (pc2 := 20) rfl ?_
      obtain ⟨r_7, r_9, r_11, r_13, r_15, r_17, r_19, r_21, r_23, r_25, r_27, r_29, r_31, r_33, r_35, at_37, h_8, h_10, h_12, h_14, h_16, h_18, h_20, h_22, h_24, h_26, h_28, h_30, h_32, h_34, h_36⟩ := fF_o1 hG k_a0
      refine va_get (D := D) (ci := 8) (v := .ref r_33) (C := RX9) (T := TX9) (N := 18) hx hb hts in9 hown hK (va_one at_37) 0 rfl rfl 16 (by decide) (hts (.fieldLink RX9 88 "RiverModel" "worlds" "LRiverModel$Worlds;") (List.mem_of_getElem? (i := 6) rfl)) (fun _ h9 => h9) rfl dX9_weigh_20 ?_
      obtain ⟨r_38, r_40, r_42, at_44, h_39, h_41, h_43⟩ := fF_o8 hG h_34
      refine va_get (D := D) (ci := 7) (v := .ref r_38) (C := RX8) (T := TX8) (N := 3) hx hb hts in8 hown hK (va_one at_44) 0 rfl rfl 0 (by decide) (hts (.fieldLink RX9 259 "RiverModel$Worlds" "weights" "[I") (List.mem_of_getElem? (i := 7) rfl)) (fun _ h9 => h9) rfl dX9_weigh_23 ?_
      refine lv_iload_n hx hb dX9_weigh_26 rfl (lv_at hl 1 rfl) ?_
      obtain ⟨f_45, at_46, h_47⟩ := fF_o29 hG h_39
      have b_48 : vp_in a1 4 := (q_in (by omega) (by omega))
      refine va_iald hx hb hK (va_one at_46) 0 0 rfl rfl b_48 dX9_weigh_27 ?_
      refine lv_seti (y := 0) (h_47 _ (q_inlt b_48)) ?_
      refine lv_istore_n (lv' := [(3, .int 0), (0, .ref a0), (1, .int a1), (2, .int a2)]) hx hb dX9_weigh_28 rfl hl (by decide) rfl (fun ls hl => ?_)
      refine lv_aload_n hx hb dX9_weigh_29 rfl (lv_at hl 1 rfl) ?_
      refine va_get (D := D) (ci := 8) (v := .ref r_33) (C := RX9) (T := TX9) (N := 18) hx hb hts in9 hown hK (va_one at_37) 0 rfl rfl 16 (by decide) (hts (.fieldLink RX9 88 "RiverModel" "worlds" "LRiverModel$Worlds;") (List.mem_of_getElem? (i := 6) rfl)) (fun _ h9 => h9) rfl dX9_weigh_30 ?_
      refine va_get (D := D) (ci := 7) (v := .ref r_38) (C := RX8) (T := TX8) (N := 3) hx hb hts in8 hown hK (va_one at_44) 0 rfl rfl 0 (by decide) (hts (.fieldLink RX9 259 "RiverModel$Worlds" "weights" "[I") (List.mem_of_getElem? (i := 7) rfl)) (fun _ h9 => h9) rfl dX9_weigh_33 ?_
      refine lv_pc (pc2 := 36) rfl ?_
      refine lv_iload_n hx hb dX9_weigh_36 rfl (lv_at hl 2 rfl) ?_
      refine lv_iload_n hx hb dX9_weigh_37 rfl (lv_at hl 3 rfl) ?_
      have b_49 : vp_in a1 4 := (q_in (by omega) (by omega))
      refine ty_iast (F2 := fT) hx hb hK hG hS 0 at_46 (by rw [h_39]; rfl) rfl b_49 True.intro (fun hG b _ h0 => by obtain ⟨e, g1, _⟩ := hG b h0; exact ⟨e, g1, True.intro⟩) dX9_weigh_38 (fun H locs hG hS at_50 o_51 => ?_)
      have at_37 := va_at.keptK at_37 o_51 h_39 k_a0 rfl
      have at_44 := va_at.keptK at_44 o_51 h_39 h_34 rfl
      refine lv_iload_n hx hb dX9_weigh_39 rfl (lv_at hl 0 rfl) ?_
      exact ty_iret hx hb hr hlk hG hS (by first | exact Or.inl ⟨rfl, by omega⟩ | exact Or.inr ⟨rfl, by omega⟩ | exact Or.inr (Or.inl ⟨rfl, by omega⟩) | exact Or.inr (Or.inr ⟨rfl, by omega⟩) | exact ⟨rfl, by omega⟩ | omega | trivial | rfl | (exfalso; omega)) dX9_weigh_40

def uX8_rainAhead : List Cond := .code yX8_rainAhead cX8_rainAhead 3 (some .int) :: ([.initialized RX9, .static yX9_isNoWorld, .static yX9_isOutside, .fieldLink RX8 18 "RiverModel$Worlds" "rains" "[I", .code yX9_isNoWorld cX9_isNoWorld 1 (some .boolean), .code yX9_isOutside cX9_isOutside 3 (some .boolean)] ++ wsX80)
set_option maxRecDepth 20000 in
theorem gu_X8_rainAhead_X9_isNoWorld_n : GoodIn uX8_rainAhead (uX9_isNoWorld) := goodIn_r _ [5] (by decide +kernel) (by decide +kernel)
set_option maxRecDepth 20000 in
theorem gu_X8_rainAhead_X9_isOutside_n : GoodIn uX8_rainAhead (uX9_isOutside) := goodIn_r _ [6] (by decide +kernel) (by decide +kernel)
set_option maxHeartbeats 4000000 in
set_option maxRecDepth 100000 in
theorem c_X8_rainAhead (l : Launch) (D : va_G) (t : Nat → Nat) (cI cL cC : ClassId) (a0 : Nat) (a1 : Int32) (a2 : Int32) (k_a0 : t a0 = 8) : tM l yX8_rainAhead uX8_rainAhead 1 22 D (fF cI cL cC 0 0) (fF cI cL cC 0 0) t cI cL cC [.ref a0, .int a1, .int a2] wr0 (pI (fun r => r = 0)) := by
  refine tM.ofW (cc := cX8_rainAhead) (maxL := 3) (ret := (some .int)) (by decide) rfl (Nat.le_of_ble_eq_true rfl) ?_
  intro p e s m below meth c hx hb hr hml hown hts hlk H locs hG hK hE hS ls hl
  have hl : lv_has ls 3 [(0, .ref a0), (1, .int a1), (2, .int a2)] := hl
  have in8 : ∀ w ∈ wsX80, w ∈ uX8_rainAhead := fun w h => List.mem_cons_of_mem _ (List.mem_append_right _ h)
  refine lv_iload_n hx hb dX8_rainAhead_0 rfl (lv_at hl 1 rfl) ?_
  refine ty_calli (tRun (va_runSN (As := [.int a1]) (rest := []) ⟨hx, hb, hml, hown, hts⟩ (c_isNoWorld l D t cI cL cC 0 0 a1 ) ⟨(va_cnB 1 hts gu_X8_rainAhead_X9_isNoWorld_n rfl rfl rfl (hE.2.1 _ (List.mem_of_getElem? (i := 20) rfl)) (hts (.initialized RX9) (List.mem_of_getElem? (i := 1) rfl)) (by decide +kernel) ⟨Nat.le_of_ble_eq_true rfl, Nat.le_of_ble_eq_true rfl⟩), (hts (.static yX9_isNoWorld) (List.mem_of_getElem? (i := 2) rfl)), trivial⟩ (tP_S hG hE) rfl rfl hl.1 rfl (lv_room (Nat.le_of_ble_eq_true rfl)) dX8_rainAhead_1 ⟨Nat.le_of_ble_eq_true rfl, Nat.le_of_ble_eq_true rfl⟩)) hS (fun _ h => h) (fun r_1 H locs hp_2 hG hS o_3 => ?_)
  rcases hp_2 with ⟨rfl, hc_166⟩ | ⟨rfl, hc_167, hc_168⟩
  · skip
    refine lv_if_ne (tgt := 17) hx hb dX8_rainAhead_4 (by decide) (fun _ => ?_) (fun q => absurd q (by decide))
    refine lv_iconst (v := 0) hx hb dX8_rainAhead_17 (by decide) ?_
    refine lv_goto (tgt := 32) hx hb dX8_rainAhead_18 (by decide) ?_
    exact ty_iret hx hb hr hlk hG hS (by first | exact Or.inl ⟨rfl, by omega⟩ | exact Or.inr ⟨rfl, by omega⟩ | exact Or.inr (Or.inl ⟨rfl, by omega⟩) | exact Or.inr (Or.inr ⟨rfl, by omega⟩) | exact ⟨rfl, by omega⟩ | omega | trivial | rfl | (exfalso; omega)) dX8_rainAhead_32
  · skip
    refine lv_if_ne (tgt := 17) hx hb dX8_rainAhead_4 (by decide) (fun q => absurd rfl q) (fun _ => ?_)
    refine lv_pc (pc2 := 7) rfl ?_
    refine lv_iload_n hx hb dX8_rainAhead_7 rfl (lv_at hl 2 rfl) ?_
    refine lv_iconst (v := 0) hx hb dX8_rainAhead_8 (by decide) ?_
    refine lv_bipush (v := 23) hx hb dX8_rainAhead_9 (by decide) ?_
    refine ty_calli (tRun (va_runSN (As := [.int a2, .int 0, .int 23]) (rest := []) ⟨hx, hb, hml, hown, hts⟩ (c_isOutside l D t cI cL cC 0 0 a2 0 23 0 23 (by decide) (by decide) ) ⟨(va_cnB 3 hts gu_X8_rainAhead_X9_isOutside_n rfl rfl rfl (hE.2.1 _ (List.mem_of_getElem? (i := 21) rfl)) (hts (.initialized RX9) (List.mem_of_getElem? (i := 1) rfl)) (by decide +kernel) ⟨Nat.le_of_ble_eq_true rfl, Nat.le_of_ble_eq_true rfl⟩), (hts (.static yX9_isOutside) (List.mem_of_getElem? (i := 3) rfl)), trivial⟩ (tP_S hG hE) rfl rfl hl.1 rfl (lv_room (Nat.le_of_ble_eq_true rfl)) dX8_rainAhead_11 ⟨Nat.le_of_ble_eq_true rfl, Nat.le_of_ble_eq_true rfl⟩)) hS (fun _ h => h) (fun r_4 H locs hp_5 hG hS o_6 => ?_)
    rcases hp_5 with ⟨rfl, hc_169⟩ | ⟨rfl, hc_170, hc_171⟩
    · skip
      refine lv_if_eq (tgt := 21) hx hb dX8_rainAhead_14 (by decide) (fun q => absurd q (by decide)) (fun _ => ?_)
      refine lv_iconst (v := 0) hx hb dX8_rainAhead_17 (by decide) ?_
      refine lv_goto (tgt := 32) hx hb dX8_rainAhead_18 (by decide) ?_
      exact ty_iret hx hb hr hlk hG hS (by first | exact Or.inl ⟨rfl, by omega⟩ | exact Or.inr ⟨rfl, by omega⟩ | exact Or.inr (Or.inl ⟨rfl, by omega⟩) | exact Or.inr (Or.inr ⟨rfl, by omega⟩) | exact ⟨rfl, by omega⟩ | omega | trivial | rfl | (exfalso; omega)) dX8_rainAhead_32
    · skip
      refine lv_pc (pc2 := 14) rfl ?_
      refine lv_if_eq (tgt := 21) hx hb dX8_rainAhead_14 (by decide) (fun _ => ?_) (fun q => absurd (by decide) q)
      refine lv_aload_n hx hb dX8_rainAhead_21 rfl (lv_at hl 0 rfl) ?_
      obtain ⟨r_7, r_9, r_11, at_13, h_8, h_10, h_12⟩ := fF_o8 hG k_a0
      refine va_get (D := D) (ci := 7) (v := .ref r_11) (C := RX8) (T := TX8) (N := 3) hx hb hts in8 hown hK (va_one at_13) 0 rfl rfl 2 (by decide) (hts (.fieldLink RX8 18 "RiverModel$Worlds" "rains" "[I") (List.mem_of_getElem? (i := 4) rfl)) (fun _ h9 => h9) rfl dX8_rainAhead_22 ?_
      refine lv_iload_n hx hb dX8_rainAhead_25 rfl (lv_at hl 1 rfl) ?_
      refine lv_bipush (v := 24) hx hb dX8_rainAhead_26 (by decide) ?_
      refine lv_imul hx hb dX8_rainAhead_28 ?_
      refine lv_topi (fun x_14 e_15 => ?_)
      have i_x_14 : x_14.toInt = a1.toInt * 24 := by rw [e_15]; exact (q_mul (by rw [show (24 : Int32).toInt = 24 by decide]; omega) (by rw [show (24 : Int32).toInt = 24 by decide]; omega)).trans (by rw [show (24 : Int32).toInt = 24 by decide])
      refine lv_iload_n hx hb dX8_rainAhead_29 rfl (lv_at hl 2 rfl) ?_
      refine lv_iadd hx hb dX8_rainAhead_30 ?_
      refine lv_topi (fun x_16 e_17 => ?_)
      have i_x_16 : x_16.toInt = x_14.toInt + a2.toInt := by rw [e_17]; exact (q_add (by omega) (by omega)).trans (by rfl)
      refine lv_pc (pc2 := 31) rfl ?_
      obtain ⟨f_18, at_19, h_20⟩ := fF_o31 hG h_12
      have b_21 : vp_in x_16 96 := (q_in (by omega) (by omega))
      refine va_iald hx hb hK (va_one at_19) 0 0 rfl rfl b_21 dX8_rainAhead_31 ?_
      refine lv_seti (y := 0) (h_20 _ (q_inlt b_21)) ?_
      exact ty_iret hx hb hr hlk hG hS (by first | exact Or.inl ⟨rfl, by omega⟩ | exact Or.inr ⟨rfl, by omega⟩ | exact Or.inr (Or.inl ⟨rfl, by omega⟩) | exact Or.inr (Or.inr ⟨rfl, by omega⟩) | exact ⟨rfl, by omega⟩ | omega | trivial | rfl | (exfalso; omega)) dX8_rainAhead_32

def uX8_putRain : List Cond := .code yX8_putRain cX8_putRain 5 (some .int) :: ([.methodLink RX8 21 yX8_rainAhead, .instanceMethod yX8_rainAhead, .selects RX8 yX8_rainAhead yX8_rainAhead, .initialized RX8, .initialized RX9, .static yX9_isNoWorld, .static yX9_isOutside, .fieldLink RX8 18 "RiverModel$Worlds" "rains" "[I", .code yX8_rainAhead cX8_rainAhead 3 (some .int), .code yX9_isNoWorld cX9_isNoWorld 1 (some .boolean), .code yX9_isOutside cX9_isOutside 3 (some .boolean)] ++ wsX80)
set_option maxRecDepth 20000 in
theorem gu_X8_putRain_X8_rainAhead_21 : GoodIn uX8_putRain (wsV RX8 21 RX8 yX8_rainAhead uX8_rainAhead) := goodIn_r _ [1, 2, 3, 4, 9, 5, 6, 7, 8, 10, 11, 12, 13, 14] (by decide +kernel) (by decide +kernel)
set_option maxRecDepth 20000 in
theorem gu_X8_putRain_X9_isNoWorld_n : GoodIn uX8_putRain (uX9_isNoWorld) := goodIn_r _ [10] (by decide +kernel) (by decide +kernel)
set_option maxRecDepth 20000 in
theorem gu_X8_putRain_X9_isOutside_n : GoodIn uX8_putRain (uX9_isOutside) := goodIn_r _ [11] (by decide +kernel) (by decide +kernel)
set_option maxHeartbeats 4000000 in
set_option maxRecDepth 100000 in
theorem c_X8_putRain (l : Launch) (D : va_G) (t : Nat → Nat) (cI cL cC : ClassId) (a0 : Nat) (a1 : Int32) (a2 : Int32) (a3 : Int32) (k_a0 : t a0 = 8) : tM l yX8_putRain uX8_putRain 2 44 D (fF cI cL cC 0 0) fT t cI cL cC [.ref a0, .int a1, .int a2, .int a3] wrX (pI (fun r => r = 0)) := by
  refine tM.ofW (cc := cX8_putRain) (maxL := 5) (ret := (some .int)) (by decide) rfl (Nat.le_of_ble_eq_true rfl) ?_
  intro p e s m below meth c hx hb hr hml hown hts hlk H locs hG hK hE hS ls hl
  have hl : lv_has ls 5 [(0, .ref a0), (1, .int a1), (2, .int a2), (3, .int a3)] := hl
  have in8 : ∀ w ∈ wsX80, w ∈ uX8_putRain := fun w h => List.mem_cons_of_mem _ (List.mem_append_right _ h)
  refine lv_aload_n hx hb dX8_putRain_0 rfl (lv_at hl 0 rfl) ?_
  refine lv_iload_n hx hb dX8_putRain_1 rfl (lv_at hl 1 rfl) ?_
  refine lv_iload_n hx hb dX8_putRain_2 rfl (lv_at hl 2 rfl) ?_
  obtain ⟨r_1, r_3, r_5, at_7, h_2, h_4, h_6⟩ := fF_o8 hG k_a0
  refine ty_calli ((W.runV (As := [.int a1, .int a2]) (rest := []) ⟨hx, hb, hml, hown, hts⟩ (c_X8_rainAhead l D t cI cL cC a0 a1 a2 k_a0) (cwV 2 hts gu_X8_putRain_X8_rainAhead_21 rfl rfl rfl (by decide +kernel) ⟨Nat.le_of_ble_eq_true rfl, Nat.le_of_ble_eq_true rfl⟩) (tP_V hG hE at_7 rfl) rfl rfl hl.1 rfl (lv_room (Nat.le_of_ble_eq_true rfl)) dX8_putRain_3 ⟨Nat.le_of_ble_eq_true rfl, Nat.le_of_ble_eq_true rfl⟩)) hS (fun k h => by simp [wr0] at h) (fun r_8 H locs hp_9 hG hS o_10 => ?_)
  have at_7 := va_at.keptC at_7 o_10 k_a0 rfl
  rcases hp_9 with rfl
  refine lv_istore (lv' := [(4, .int 0), (0, .ref a0), (1, .int a1), (2, .int a2), (3, .int a3)]) hx hb dX8_putRain_6 hl (by decide) rfl (fun ls hl => ?_)
  refine lv_iload_n hx hb dX8_putRain_8 rfl (lv_at hl 2 rfl) ?_
  refine ty_calli (tRun (va_runSN (As := [.int a1]) (rest := []) ⟨hx, hb, hml, hown, hts⟩ (c_isNoWorld l D t cI cL cC 0 0 a1 ) ⟨(va_cnB 1 hts gu_X8_putRain_X9_isNoWorld_n rfl rfl rfl (hE.2.1 _ (List.mem_of_getElem? (i := 20) rfl)) (hts (.initialized RX9) (List.mem_of_getElem? (i := 5) rfl)) (by decide +kernel) ⟨Nat.le_of_ble_eq_true rfl, Nat.le_of_ble_eq_true rfl⟩), (hts (.static yX9_isNoWorld) (List.mem_of_getElem? (i := 6) rfl)), trivial⟩ (tP_S hG hE) rfl rfl hl.1 rfl (lv_room (Nat.le_of_ble_eq_true rfl)) dX8_putRain_9 ⟨Nat.le_of_ble_eq_true rfl, Nat.le_of_ble_eq_true rfl⟩)) hS (fun k h => by simp [wr0] at h) (fun r_11 H locs hp_12 hG hS o_13 => ?_)
  have at_7 := va_at.keptC at_7 o_13 k_a0 rfl
  rcases hp_12 with ⟨rfl, hc_172⟩ | ⟨rfl, hc_173, hc_174⟩
  · skip
    refine lv_pc (pc2 := 12) rfl ?_
    refine lv_if_ne (tgt := 37) hx hb dX8_putRain_12 (by decide) (fun _ => ?_) (fun q => absurd q (by decide))
    refine lv_iload hx hb dX8_putRain_37 (lv_at hl 0 rfl) ?_
    exact ty_iret hx hb hr hlk hG.toT hS (by first | exact Or.inl ⟨rfl, by omega⟩ | exact Or.inr ⟨rfl, by omega⟩ | exact Or.inr (Or.inl ⟨rfl, by omega⟩) | exact Or.inr (Or.inr ⟨rfl, by omega⟩) | exact ⟨rfl, by omega⟩ | omega | trivial | rfl | (exfalso; omega)) dX8_putRain_39
  · skip
    refine lv_if_ne (tgt := 37) hx hb dX8_putRain_12 (by decide) (fun q => absurd rfl q) (fun _ => ?_)
    refine lv_iload_n hx hb dX8_putRain_15 rfl (lv_at hl 3 rfl) ?_
    refine lv_iconst (v := 0) hx hb dX8_putRain_16 (by decide) ?_
    refine lv_bipush (v := 23) hx hb dX8_putRain_17 (by decide) ?_
    refine ty_calli (tRun (va_runSN (As := [.int a2, .int 0, .int 23]) (rest := []) ⟨hx, hb, hml, hown, hts⟩ (c_isOutside l D t cI cL cC 0 0 a2 0 23 0 23 (by decide) (by decide) ) ⟨(va_cnB 3 hts gu_X8_putRain_X9_isOutside_n rfl rfl rfl (hE.2.1 _ (List.mem_of_getElem? (i := 21) rfl)) (hts (.initialized RX9) (List.mem_of_getElem? (i := 5) rfl)) (by decide +kernel) ⟨Nat.le_of_ble_eq_true rfl, Nat.le_of_ble_eq_true rfl⟩), (hts (.static yX9_isOutside) (List.mem_of_getElem? (i := 7) rfl)), trivial⟩ (tP_S hG hE) rfl rfl hl.1 rfl (lv_room (Nat.le_of_ble_eq_true rfl)) dX8_putRain_19 ⟨Nat.le_of_ble_eq_true rfl, Nat.le_of_ble_eq_true rfl⟩)) hS (fun k h => by simp [wr0] at h) (fun r_14 H locs hp_15 hG hS o_16 => ?_)
    have at_7 := va_at.keptC at_7 o_16 k_a0 rfl
    rcases hp_15 with ⟨rfl, hc_175⟩ | ⟨rfl, hc_176, hc_177⟩
    · skip
      refine lv_pc (pc2 := 22) rfl ?_
      refine lv_if_ne (tgt := 37) hx hb dX8_putRain_22 (by decide) (fun _ => ?_) (fun q => absurd q (by decide))
      refine lv_iload hx hb dX8_putRain_37 (lv_at hl 0 rfl) ?_
      exact ty_iret hx hb hr hlk hG.toT hS (by first | exact Or.inl ⟨rfl, by omega⟩ | exact Or.inr ⟨rfl, by omega⟩ | exact Or.inr (Or.inl ⟨rfl, by omega⟩) | exact Or.inr (Or.inr ⟨rfl, by omega⟩) | exact ⟨rfl, by omega⟩ | omega | trivial | rfl | (exfalso; omega)) dX8_putRain_39
    · skip
      refine lv_if_ne (tgt := 37) hx hb dX8_putRain_22 (by decide) (fun q => absurd rfl q) (fun _ => ?_)
      refine lv_aload_n hx hb dX8_putRain_25 rfl (lv_at hl 1 rfl) ?_
      refine va_get (D := D) (ci := 7) (v := .ref r_5) (C := RX8) (T := TX8) (N := 3) hx hb hts in8 hown hK (va_one at_7) 0 rfl rfl 2 (by decide) (hts (.fieldLink RX8 18 "RiverModel$Worlds" "rains" "[I") (List.mem_of_getElem? (i := 8) rfl)) (fun _ h9 => h9) rfl dX8_putRain_26 ?_
      refine lv_iload_n hx hb dX8_putRain_29 rfl (lv_at hl 2 rfl) ?_
      refine lv_bipush (v := 24) hx hb dX8_putRain_30 (by decide) ?_
      refine lv_pc (pc2 := 32) rfl ?_
      refine lv_imul hx hb dX8_putRain_32 ?_
      refine lv_topi (fun x_17 e_18 => ?_)
      have i_x_17 : x_17.toInt = a1.toInt * 24 := by rw [e_18]; exact (q_mul (by rw [show (24 : Int32).toInt = 24 by decide]; omega) (by rw [show (24 : Int32).toInt = 24 by decide]; omega)).trans (by rw [show (24 : Int32).toInt = 24 by decide])
      refine lv_iload_n hx hb dX8_putRain_33 rfl (lv_at hl 3 rfl) ?_
      refine lv_iadd hx hb dX8_putRain_34 ?_
      refine lv_topi (fun x_19 e_20 => ?_)
      have i_x_19 : x_19.toInt = x_17.toInt + a2.toInt := by rw [e_20]; exact (q_add (by omega) (by omega)).trans (by rfl)
      refine lv_iload_n hx hb dX8_putRain_35 rfl (lv_at hl 4 rfl) ?_
      obtain ⟨f_21, at_22, h_23⟩ := fF_o31 hG h_6
      have b_24 : vp_in x_19 96 := (q_in (by omega) (by omega))
      refine ty_iast (F2 := fT) hx hb hK hG hS 0 at_22 (by rw [h_6]; rfl) rfl b_24 True.intro (fun hG b _ h0 => by obtain ⟨e, g1, _⟩ := hG b h0; exact ⟨e, g1, True.intro⟩) dX8_putRain_36 (fun H locs hG hS at_25 o_26 => ?_)
      have at_7 := va_at.keptK at_7 o_26 h_6 k_a0 rfl
      refine lv_iload hx hb dX8_putRain_37 (lv_at hl 0 rfl) ?_
      exact ty_iret hx hb hr hlk hG hS (by first | exact Or.inl ⟨rfl, by omega⟩ | exact Or.inr ⟨rfl, by omega⟩ | exact Or.inr (Or.inl ⟨rfl, by omega⟩) | exact Or.inr (Or.inr ⟨rfl, by omega⟩) | exact ⟨rfl, by omega⟩ | omega | trivial | rfl | (exfalso; omega)) dX8_putRain_39

def uX9_rain : List Cond := .code yX9_rain cX9_rain 4 (some .int) :: ([.methodLink RX9 256 yX9_isNoWorld, .static yX9_isNoWorld, .initialized RX9, .methodLink RX9 99 yX9_isOutside, .static yX9_isOutside, .fieldLink RX9 88 "RiverModel" "worlds" "LRiverModel$Worlds;", .methodLink RX9 262 yX8_putRain, .instanceMethod yX8_putRain, .selects RX8 yX8_putRain yX8_putRain, .initialized RX8, .code yX9_isNoWorld cX9_isNoWorld 1 (some .boolean), .code yX9_isOutside cX9_isOutside 3 (some .boolean), .code yX8_putRain cX8_putRain 5 (some .int), .methodLink RX8 21 yX8_rainAhead, .instanceMethod yX8_rainAhead, .selects RX8 yX8_rainAhead yX8_rainAhead, .fieldLink RX8 18 "RiverModel$Worlds" "rains" "[I", .code yX8_rainAhead cX8_rainAhead 3 (some .int)] ++ wsX90 ++ wsX80)
set_option maxRecDepth 20000 in
theorem gu_X9_rain_X9_isNoWorld_256 : GoodIn uX9_rain (va_wsS RX9 256 yX9_isNoWorld uX9_isNoWorld) := goodIn_r _ [1, 2, 3, 11] (by decide +kernel) (by decide +kernel)
set_option maxRecDepth 20000 in
theorem gu_X9_rain_X9_isOutside_99 : GoodIn uX9_rain (va_wsS RX9 99 yX9_isOutside uX9_isOutside) := goodIn_r _ [4, 5, 3, 12] (by decide +kernel) (by decide +kernel)
set_option maxRecDepth 20000 in
theorem gu_X9_rain_X8_putRain_262 : GoodIn uX9_rain (wsV RX9 262 RX8 yX8_putRain uX8_putRain) := goodIn_r _ [7, 8, 9, 10, 13, 14, 15, 16, 10, 3, 2, 5, 17, 18, 11, 12, 37, 38, 39] (by decide +kernel) (by decide +kernel)
set_option maxHeartbeats 4000000 in
set_option maxRecDepth 100000 in
theorem c_X9_rain (l : Launch) (D : va_G) (t : Nat → Nat) (cI cL cC : ClassId) (a0 : Nat) (a1 : Int32) (a2 : Int32) (a3 : Int32) (k_a0 : t a0 = 1) : tM l yX9_rain uX9_rain 3 68 D (fF cI cL cC 0 0) fT t cI cL cC [.ref a0, .int a1, .int a2, .int a3] wrX (pI (fun r => (r = (-1) ∧ (a1.toInt < 0 ∨ 3 < a1.toInt ∨ a2.toInt < 0 ∨ 23 < a2.toInt ∨ a3.toInt < 0 ∨ 10000 < a3.toInt)) ∨ (r = 0 ∧ 0 ≤ a1.toInt ∧ a1.toInt ≤ 3 ∧ 0 ≤ a2.toInt ∧ a2.toInt ≤ 23 ∧ 0 ≤ a3.toInt ∧ a3.toInt ≤ 10000))) := by
  refine tM.ofW (cc := cX9_rain) (maxL := 4) (ret := (some .int)) (by decide) rfl (Nat.le_of_ble_eq_true rfl) ?_
  intro p e s m below meth c hx hb hr hml hown hts hlk H locs hG hK hE hS ls hl
  have hl : lv_has ls 4 [(0, .ref a0), (1, .int a1), (2, .int a2), (3, .int a3)] := hl
  have in9 : ∀ w ∈ wsX90, w ∈ uX9_rain := fun w h => List.mem_cons_of_mem _ (List.mem_append_left _ (List.mem_append_right _ h))
  refine lv_iload_n hx hb dX9_rain_0 rfl (lv_at hl 1 rfl) ?_
  refine ty_calli ((W.runS (As := [.int a1]) (rest := []) ⟨hx, hb, hml, hown, hts⟩ (c_isNoWorld l D t cI cL cC 0 0 a1 ) (va_cwS 1 hts gu_X9_rain_X9_isNoWorld_256 rfl rfl rfl (by decide +kernel) ⟨Nat.le_of_ble_eq_true rfl, Nat.le_of_ble_eq_true rfl⟩) (tP_S hG hE) rfl rfl hl.1 rfl (lv_room (Nat.le_of_ble_eq_true rfl)) dX9_rain_1 ⟨Nat.le_of_ble_eq_true rfl, Nat.le_of_ble_eq_true rfl⟩)) hS (fun k h => by simp [wr0] at h) (fun r_1 H locs hp_2 hG hS o_3 => ?_)
  rcases hp_2 with ⟨rfl, hc_178⟩ | ⟨rfl, hc_179, hc_180⟩
  · skip
    refine lv_if_ne (tgt := 28) hx hb dX9_rain_4 (by decide) (fun _ => ?_) (fun q => absurd q (by decide))
    refine lv_iconst (v := (-1)) hx hb dX9_rain_28 (by decide) ?_
    exact ty_iret hx hb hr hlk hG.toT hS (by first | exact Or.inl ⟨rfl, by omega⟩ | exact Or.inr ⟨rfl, by omega⟩ | exact Or.inr (Or.inl ⟨rfl, by omega⟩) | exact Or.inr (Or.inr ⟨rfl, by omega⟩) | exact ⟨rfl, by omega⟩ | omega | trivial | rfl | (exfalso; omega)) dX9_rain_29
  · skip
    refine lv_if_ne (tgt := 28) hx hb dX9_rain_4 (by decide) (fun q => absurd rfl q) (fun _ => ?_)
    refine lv_iload_n hx hb dX9_rain_7 rfl (lv_at hl 2 rfl) ?_
    refine lv_pc (pc2 := 8) rfl ?_
    refine lv_iconst (v := 0) hx hb dX9_rain_8 (by decide) ?_
    refine lv_bipush (v := 23) hx hb dX9_rain_9 (by decide) ?_
    refine ty_calli ((W.runS (As := [.int a2, .int 0, .int 23]) (rest := []) ⟨hx, hb, hml, hown, hts⟩ (c_isOutside l D t cI cL cC 0 0 a2 0 23 0 23 (by decide) (by decide) ) (va_cwS 3 hts gu_X9_rain_X9_isOutside_99 rfl rfl rfl (by decide +kernel) ⟨Nat.le_of_ble_eq_true rfl, Nat.le_of_ble_eq_true rfl⟩) (tP_S hG hE) rfl rfl hl.1 rfl (lv_room (Nat.le_of_ble_eq_true rfl)) dX9_rain_11 ⟨Nat.le_of_ble_eq_true rfl, Nat.le_of_ble_eq_true rfl⟩)) hS (fun k h => by simp [wr0] at h) (fun r_4 H locs hp_5 hG hS o_6 => ?_)
    rcases hp_5 with ⟨rfl, hc_181⟩ | ⟨rfl, hc_182, hc_183⟩
    · skip
      refine lv_if_ne (tgt := 28) hx hb dX9_rain_14 (by decide) (fun _ => ?_) (fun q => absurd q (by decide))
      refine lv_iconst (v := (-1)) hx hb dX9_rain_28 (by decide) ?_
      exact ty_iret hx hb hr hlk hG.toT hS (by first | exact Or.inl ⟨rfl, by omega⟩ | exact Or.inr ⟨rfl, by omega⟩ | exact Or.inr (Or.inl ⟨rfl, by omega⟩) | exact Or.inr (Or.inr ⟨rfl, by omega⟩) | exact ⟨rfl, by omega⟩ | omega | trivial | rfl | (exfalso; omega)) dX9_rain_29
    · skip
      refine lv_if_ne (tgt := 28) hx hb dX9_rain_14 (by decide) (fun q => absurd rfl q) (fun _ => ?_)
      refine lv_iload_n hx hb dX9_rain_17 rfl (lv_at hl 3 rfl) ?_
      refine lv_pc (pc2 := 18) rfl ?_
      refine lv_iconst (v := 0) hx hb dX9_rain_18 (by decide) ?_
      refine lv_sipush (v := 10000) hx hb dX9_rain_19 (by decide) ?_
      refine ty_calli ((W.runS (As := [.int a3, .int 0, .int 10000]) (rest := []) ⟨hx, hb, hml, hown, hts⟩ (c_isOutside l D t cI cL cC 0 0 a3 0 10000 0 10000 (by decide) (by decide) ) (va_cwS 3 hts gu_X9_rain_X9_isOutside_99 rfl rfl rfl (by decide +kernel) ⟨Nat.le_of_ble_eq_true rfl, Nat.le_of_ble_eq_true rfl⟩) (tP_S hG hE) rfl rfl hl.1 rfl (lv_room (Nat.le_of_ble_eq_true rfl)) dX9_rain_22 ⟨Nat.le_of_ble_eq_true rfl, Nat.le_of_ble_eq_true rfl⟩)) hS (fun k h => by simp [wr0] at h) (fun r_7 H locs hp_8 hG hS o_9 => ?_)
      rcases hp_8 with ⟨rfl, hc_184⟩ | ⟨rfl, hc_185, hc_186⟩
      · skip
        refine lv_if_eq (tgt := 30) hx hb dX9_rain_25 (by decide) (fun q => absurd q (by decide)) (fun _ => ?_)
        refine lv_iconst (v := (-1)) hx hb dX9_rain_28 (by decide) ?_
        exact ty_iret hx hb hr hlk hG.toT hS (by first | exact Or.inl ⟨rfl, by omega⟩ | exact Or.inr ⟨rfl, by omega⟩ | exact Or.inr (Or.inl ⟨rfl, by omega⟩) | exact Or.inr (Or.inr ⟨rfl, by omega⟩) | exact ⟨rfl, by omega⟩ | omega | trivial | rfl | (exfalso; omega)) dX9_rain_29
      · skip
        refine lv_if_eq (tgt := 30) hx hb dX9_rain_25 (by decide) (fun _ => ?_) (fun q => absurd (by decide) q)
        refine lv_aload_n hx hb dX9_rain_30 rfl (lv_at hl 0 rfl) ?_
        refine lv_pc (pc2 := 31) rfl ?_
        obtain ⟨r_10, r_12, r_14, r_16, r_18, r_20, r_22, r_24, r_26, r_28, r_30, r_32, r_34, r_36, r_38, at_40, h_11, h_13, h_15, h_17, h_19, h_21, h_23, h_25, h_27, h_29, h_31, h_33, h_35, h_37, h_39⟩ := fF_o1 hG k_a0
        refine va_get (D := D) (ci := 8) (v := .ref r_36) (C := RX9) (T := TX9) (N := 18) hx hb hts in9 hown hK (va_one at_40) 0 rfl rfl 16 (by decide) (hts (.fieldLink RX9 88 "RiverModel" "worlds" "LRiverModel$Worlds;") (List.mem_of_getElem? (i := 6) rfl)) (fun _ h9 => h9) rfl dX9_rain_31 ?_
        refine lv_iload_n hx hb dX9_rain_34 rfl (lv_at hl 1 rfl) ?_
        refine lv_iload_n hx hb dX9_rain_35 rfl (lv_at hl 2 rfl) ?_
        refine lv_iload_n hx hb dX9_rain_36 rfl (lv_at hl 3 rfl) ?_
        obtain ⟨r_41, r_43, r_45, at_47, h_42, h_44, h_46⟩ := fF_o8 hG h_37
        refine ty_calli ((W.runV (As := [.int a1, .int a2, .int a3]) (rest := []) ⟨hx, hb, hml, hown, hts⟩ (c_X8_putRain l D t cI cL cC r_36 a1 a2 a3 h_37) (cwV 3 hts gu_X9_rain_X8_putRain_262 rfl rfl rfl (by decide +kernel) ⟨Nat.le_of_ble_eq_true rfl, Nat.le_of_ble_eq_true rfl⟩) (tP_V hG hE at_47 rfl) rfl rfl hl.1 rfl (lv_room (Nat.le_of_ble_eq_true rfl)) dX9_rain_37 ⟨Nat.le_of_ble_eq_true rfl, Nat.le_of_ble_eq_true rfl⟩)) hS (fun _ h => h) (fun r_48 H locs hp_49 hG hS o_50 => ?_)
        rcases hp_49 with rfl
        exact ty_iret hx hb hr hlk hG hS (by first | exact Or.inl ⟨rfl, by omega⟩ | exact Or.inr ⟨rfl, by omega⟩ | exact Or.inr (Or.inl ⟨rfl, by omega⟩) | exact Or.inr (Or.inr ⟨rfl, by omega⟩) | exact ⟨rfl, by omega⟩ | omega | trivial | rfl | (exfalso; omega)) dX9_rain_40

def uX3_isSet : List Cond := .code yX3_isSet cX3_isSet 2 (some .boolean) :: ([.fieldLink RX3 24 "RiverModel$Knobs" "manys" "[I"] ++ wsX30)
set_option maxHeartbeats 4000000 in
set_option maxRecDepth 100000 in
theorem c_X3_isSet (l : Launch) (D : va_G) (t : Nat → Nat) (cI cL cC : ClassId) (a0 : Nat) (a1 : Int32) (k_a0 : t a0 = 7) : tM l yX3_isSet uX3_isSet 0 0 D (fF cI cL cC 0 0) (fF cI cL cC 0 0) t cI cL cC [.ref a0, .int a1] wr0 (pI (fun r => r = 0)) := by
  refine tM.ofW (cc := cX3_isSet) (maxL := 2) (ret := (some .boolean)) (by decide) rfl (Nat.le_of_ble_eq_true rfl) ?_
  intro p e s m below meth c hx hb hr hml hown hts hlk H locs hG hK hE hS ls hl
  have hl : lv_has ls 2 [(0, .ref a0), (1, .int a1)] := hl
  have in3 : ∀ w ∈ wsX30, w ∈ uX3_isSet := fun w h => List.mem_cons_of_mem _ (List.mem_append_right _ h)
  refine lv_iload_n hx hb dX3_isSet_0 rfl (lv_at hl 1 rfl) ?_
  refine lv_if_lt (tgt := 22) hx hb dX3_isSet_1 (by decide) (fun c_1 => ?_) (fun c_1 => ?_)
  · skip
    have c_1 : a1.toInt < 0 := q_lt c_1
    refine lv_iconst (v := 0) hx hb dX3_isSet_22 (by decide) ?_
    exact ty_zret hx hb hr hlk rfl hG hS (by first | exact Or.inl ⟨rfl, by omega⟩ | exact Or.inr ⟨rfl, by omega⟩ | exact Or.inr (Or.inl ⟨rfl, by omega⟩) | exact Or.inr (Or.inr ⟨rfl, by omega⟩) | exact ⟨rfl, by omega⟩ | omega | trivial | rfl | (exfalso; omega)) dX3_isSet_23
  · skip
    have c_1 : 0 ≤ a1.toInt := q_nlt c_1
    refine lv_iload_n hx hb dX3_isSet_4 rfl (lv_at hl 1 rfl) ?_
    refine lv_iconst (v := 2) hx hb dX3_isSet_5 (by decide) ?_
    refine lv_icmp_ge (tgt := 22) hx hb dX3_isSet_6 (by decide) (fun c_2 => ?_) (fun c_2 => ?_)
    · skip
      have c_2 : 2 ≤ a1.toInt := q_le c_2
      refine lv_pc (pc2 := 22) rfl ?_
      refine lv_iconst (v := 0) hx hb dX3_isSet_22 (by decide) ?_
      exact ty_zret hx hb hr hlk rfl hG hS (by first | exact Or.inl ⟨rfl, by omega⟩ | exact Or.inr ⟨rfl, by omega⟩ | exact Or.inr (Or.inl ⟨rfl, by omega⟩) | exact Or.inr (Or.inr ⟨rfl, by omega⟩) | exact ⟨rfl, by omega⟩ | omega | trivial | rfl | (exfalso; omega)) dX3_isSet_23
    · skip
      have c_2 : a1.toInt < 2 := q_nle c_2
      refine lv_aload_n hx hb dX3_isSet_9 rfl (lv_at hl 0 rfl) ?_
      obtain ⟨r_3, r_5, r_7, r_9, r_11, at_13, h_4, h_6, h_8, h_10, h_12⟩ := fF_o7 hG k_a0
      refine va_get (D := D) (ci := 2) (v := .ref r_11) (C := RX3) (T := TX3) (N := 5) hx hb hts in3 hown hK (va_one at_13) 0 rfl rfl 4 (by decide) (hts (.fieldLink RX3 24 "RiverModel$Knobs" "manys" "[I") (List.mem_of_getElem? (i := 1) rfl)) (fun _ h9 => h9) rfl dX3_isSet_10 ?_
      refine lv_iload_n hx hb dX3_isSet_13 rfl (lv_at hl 1 rfl) ?_
      obtain ⟨f_14, at_15, h_16⟩ := fF_o28 hG h_12
      have b_17 : vp_in a1 2 := (q_in (by omega) (by omega))
      refine va_iald hx hb hK (va_one at_15) 0 0 rfl rfl b_17 dX3_isSet_14 ?_
      refine lv_seti (y := 0) (h_16 _ (q_inlt b_17)) ?_
      refine lv_if_le (tgt := 22) hx hb dX3_isSet_15 (by decide) (fun _ => ?_) (fun q => absurd (by decide) q)
      refine lv_iconst (v := 0) hx hb dX3_isSet_22 (by decide) ?_
      refine lv_pc (pc2 := 23) rfl ?_
      exact ty_zret hx hb hr hlk rfl hG hS (by first | exact Or.inl ⟨rfl, by omega⟩ | exact Or.inr ⟨rfl, by omega⟩ | exact Or.inr (Or.inl ⟨rfl, by omega⟩) | exact Or.inr (Or.inr ⟨rfl, by omega⟩) | exact ⟨rfl, by omega⟩ | omega | trivial | rfl | (exfalso; omega)) dX3_isSet_23

def uX3_setMany : List Cond := .code yX3_setMany cX3_setMany 1 (some .int) :: ([.methodLink RX3 37 yX3_isSet, .instanceMethod yX3_isSet, .selects RX3 yX3_isSet yX3_isSet, .initialized RX3, .code yX3_isSet cX3_isSet 2 (some .boolean), .fieldLink RX3 24 "RiverModel$Knobs" "manys" "[I"] ++ wsX30)
set_option maxRecDepth 20000 in
theorem gu_X3_setMany_X3_isSet_37 : GoodIn uX3_setMany (wsV RX3 37 RX3 yX3_isSet uX3_isSet) := goodIn_r _ [1, 2, 3, 4, 5, 6, 7, 8, 9, 10, 11] (by decide +kernel) (by decide +kernel)
set_option maxHeartbeats 4000000 in
set_option maxRecDepth 100000 in
theorem c_X3_setMany (l : Launch) (D : va_G) (t : Nat → Nat) (cI cL cC : ClassId) (a0 : Nat) (k_a0 : t a0 = 7) : tM l yX3_setMany uX3_setMany 1 21 D (fF cI cL cC 0 0) (fF cI cL cC 0 0) t cI cL cC [.ref a0] wr0 (pI (fun r => r = 0)) := by
  refine tM.ofW (cc := cX3_setMany) (maxL := 1) (ret := (some .int)) (by decide) rfl (Nat.le_of_ble_eq_true rfl) ?_
  intro p e s m below meth c hx hb hr hml hown hts hlk H locs hG hK hE hS ls hl
  have hl : lv_has ls 1 [(0, .ref a0)] := hl
  skip
  refine lv_aload_n hx hb dX3_setMany_0 rfl (lv_at hl 0 rfl) ?_
  refine lv_iconst (v := 0) hx hb dX3_setMany_1 (by decide) ?_
  obtain ⟨r_1, r_3, r_5, r_7, r_9, at_11, h_2, h_4, h_6, h_8, h_10⟩ := fF_o7 hG k_a0
  refine ty_calli ((W.runV (As := [.int 0]) (rest := []) ⟨hx, hb, hml, hown, hts⟩ (c_X3_isSet l D t cI cL cC a0 0 k_a0) (cwV 1 hts gu_X3_setMany_X3_isSet_37 rfl rfl rfl (by decide +kernel) ⟨Nat.le_of_ble_eq_true rfl, Nat.le_of_ble_eq_true rfl⟩) (tP_V hG hE at_11 rfl) rfl rfl hl.1 rfl (lv_room (Nat.le_of_ble_eq_true rfl)) dX3_setMany_2 ⟨Nat.le_of_ble_eq_true rfl, Nat.le_of_ble_eq_true rfl⟩)) hS (fun _ h => h) (fun r_12 H locs hp_13 hG hS o_14 => ?_)
  have at_11 := va_at.keptC at_11 o_14 k_a0 rfl
  rcases hp_13 with rfl
  refine lv_if_eq (tgt := 12) hx hb dX3_setMany_5 (by decide) (fun _ => ?_) (fun q => absurd (by decide) q)
  refine lv_iconst (v := 0) hx hb dX3_setMany_12 (by decide) ?_
  refine lv_aload_n hx hb dX3_setMany_13 rfl (lv_at hl 0 rfl) ?_
  refine lv_iconst (v := 1) hx hb dX3_setMany_14 (by decide) ?_
  refine lv_pc (pc2 := 15) rfl ?_
  refine ty_calli ((W.runV (As := [.int 1]) (rest := [.int 0]) ⟨hx, hb, hml, hown, hts⟩ (c_X3_isSet l D t cI cL cC a0 1 k_a0) (cwV 1 hts gu_X3_setMany_X3_isSet_37 rfl rfl rfl (by decide +kernel) ⟨Nat.le_of_ble_eq_true rfl, Nat.le_of_ble_eq_true rfl⟩) (tP_V hG hE at_11 rfl) rfl rfl hl.1 rfl (lv_room (Nat.le_of_ble_eq_true rfl)) dX3_setMany_15 ⟨Nat.le_of_ble_eq_true rfl, Nat.le_of_ble_eq_true rfl⟩)) hS (fun _ h => h) (fun r_15 H locs hp_16 hG hS o_17 => ?_)
  have at_11 := va_at.keptC at_11 o_17 k_a0 rfl
  rcases hp_16 with rfl
  refine lv_if_eq (tgt := 25) hx hb dX3_setMany_18 (by decide) (fun _ => ?_) (fun q => absurd (by decide) q)
  refine lv_iconst (v := 0) hx hb dX3_setMany_25 (by decide) ?_
  refine lv_iadd hx hb dX3_setMany_26 ?_
  refine lv_seti (y := 0) (by decide) ?_
  exact ty_iret hx hb hr hlk hG hS (by first | exact Or.inl ⟨rfl, by omega⟩ | exact Or.inr ⟨rfl, by omega⟩ | exact Or.inr (Or.inl ⟨rfl, by omega⟩) | exact Or.inr (Or.inr ⟨rfl, by omega⟩) | exact ⟨rfl, by omega⟩ | omega | trivial | rfl | (exfalso; omega)) dX3_setMany_27

def uX1_isSet : List Cond := .code yX1_isSet cX1_isSet 2 (some .boolean) :: ([.fieldLink RX1 9 "RiverModel$Gauges" "whats" "[I"] ++ wsX10)
set_option maxHeartbeats 4000000 in
set_option maxRecDepth 100000 in
theorem c_X1_isSet (l : Launch) (D : va_G) (t : Nat → Nat) (cI cL cC : ClassId) (a0 : Nat) (a1 : Int32) (k_a0 : t a0 = 6) : tM l yX1_isSet uX1_isSet 0 0 D (fF cI cL cC 0 0) (fF cI cL cC 0 0) t cI cL cC [.ref a0, .int a1] wr0 (pI (fun r => r = 0)) := by
  refine tM.ofW (cc := cX1_isSet) (maxL := 2) (ret := (some .boolean)) (by decide) rfl (Nat.le_of_ble_eq_true rfl) ?_
  intro p e s m below meth c hx hb hr hml hown hts hlk H locs hG hK hE hS ls hl
  have hl : lv_has ls 2 [(0, .ref a0), (1, .int a1)] := hl
  have in1 : ∀ w ∈ wsX10, w ∈ uX1_isSet := fun w h => List.mem_cons_of_mem _ (List.mem_append_right _ h)
  refine lv_iload_n hx hb dX1_isSet_0 rfl (lv_at hl 1 rfl) ?_
  refine lv_if_lt (tgt := 24) hx hb dX1_isSet_1 (by decide) (fun c_1 => ?_) (fun c_1 => ?_)
  · skip
    have c_1 : a1.toInt < 0 := q_lt c_1
    refine lv_iconst (v := 0) hx hb dX1_isSet_24 (by decide) ?_
    exact ty_zret hx hb hr hlk rfl hG hS (by first | exact Or.inl ⟨rfl, by omega⟩ | exact Or.inr ⟨rfl, by omega⟩ | exact Or.inr (Or.inl ⟨rfl, by omega⟩) | exact Or.inr (Or.inr ⟨rfl, by omega⟩) | exact ⟨rfl, by omega⟩ | omega | trivial | rfl | (exfalso; omega)) dX1_isSet_25
  · skip
    have c_1 : 0 ≤ a1.toInt := q_nlt c_1
    refine lv_iload_n hx hb dX1_isSet_4 rfl (lv_at hl 1 rfl) ?_
    refine lv_iconst (v := 4) hx hb dX1_isSet_5 (by decide) ?_
    refine lv_icmp_ge (tgt := 24) hx hb dX1_isSet_6 (by decide) (fun c_2 => ?_) (fun c_2 => ?_)
    · skip
      have c_2 : 4 ≤ a1.toInt := q_le c_2
      refine lv_pc (pc2 := 24) rfl ?_
      refine lv_iconst (v := 0) hx hb dX1_isSet_24 (by decide) ?_
      exact ty_zret hx hb hr hlk rfl hG hS (by first | exact Or.inl ⟨rfl, by omega⟩ | exact Or.inr ⟨rfl, by omega⟩ | exact Or.inr (Or.inl ⟨rfl, by omega⟩) | exact Or.inr (Or.inr ⟨rfl, by omega⟩) | exact ⟨rfl, by omega⟩ | omega | trivial | rfl | (exfalso; omega)) dX1_isSet_25
    · skip
      have c_2 : a1.toInt < 4 := q_nle c_2
      refine lv_aload_n hx hb dX1_isSet_9 rfl (lv_at hl 0 rfl) ?_
      obtain ⟨r_3, r_5, r_7, at_9, h_4, h_6, h_8⟩ := fF_o6 hG k_a0
      refine va_get (D := D) (ci := 1) (v := .ref r_3) (C := RX1) (T := TX1) (N := 4) hx hb hts in1 hown hK (va_one at_9) 0 rfl rfl 0 (by decide) (hts (.fieldLink RX1 9 "RiverModel$Gauges" "whats" "[I") (List.mem_of_getElem? (i := 1) rfl)) (fun _ h9 => h9) rfl dX1_isSet_10 ?_
      refine lv_iload_n hx hb dX1_isSet_13 rfl (lv_at hl 1 rfl) ?_
      obtain ⟨f_10, at_11, h_12⟩ := fF_o21 hG h_4
      have b_13 : vp_in a1 4 := (q_in (by omega) (by omega))
      refine va_iald hx hb hK (va_one at_11) 0 0 rfl rfl b_13 dX1_isSet_14 ?_
      refine lv_seti (y := (-4)) (h_12 _ (q_inlt b_13)) ?_
      refine lv_bipush (v := (-4)) hx hb dX1_isSet_15 (by decide) ?_
      refine lv_icmp_eq (tgt := 24) hx hb dX1_isSet_17 (by decide) (fun _ => ?_) (fun q => absurd (by decide) q)
      refine lv_pc (pc2 := 24) rfl ?_
      refine lv_iconst (v := 0) hx hb dX1_isSet_24 (by decide) ?_
      exact ty_zret hx hb hr hlk rfl hG hS (by first | exact Or.inl ⟨rfl, by omega⟩ | exact Or.inr ⟨rfl, by omega⟩ | exact Or.inr (Or.inl ⟨rfl, by omega⟩) | exact Or.inr (Or.inr ⟨rfl, by omega⟩) | exact ⟨rfl, by omega⟩ | omega | trivial | rfl | (exfalso; omega)) dX1_isSet_25

def uX1_setMany : List Cond := .code yX1_setMany cX1_setMany 3 (some .int) :: ([.methodLink RX1 35 yX1_isSet, .instanceMethod yX1_isSet, .selects RX1 yX1_isSet yX1_isSet, .initialized RX1, .code yX1_isSet cX1_isSet 2 (some .boolean), .fieldLink RX1 9 "RiverModel$Gauges" "whats" "[I"] ++ wsX10)
set_option maxRecDepth 20000 in
theorem gu_X1_setMany_X1_isSet_35 : GoodIn uX1_setMany (wsV RX1 35 RX1 yX1_isSet uX1_isSet) := goodIn_r _ [1, 2, 3, 4, 5, 6, 7, 8, 9, 10] (by decide +kernel) (by decide +kernel)
set_option maxHeartbeats 4000000 in
set_option maxRecDepth 100000 in
theorem c_X1_setMany (l : Launch) (D : va_G) (t : Nat → Nat) (cI cL cC : ClassId) (a0 : Nat) (k_a0 : t a0 = 6) : tM l yX1_setMany uX1_setMany 1 21 D (fF cI cL cC 0 0) (fF cI cL cC 0 0) t cI cL cC [.ref a0] wr0 (pI (fun r => r = 0)) := by
  refine tM.ofW (cc := cX1_setMany) (maxL := 3) (ret := (some .int)) (by decide) rfl (Nat.le_of_ble_eq_true rfl) ?_
  intro p e s m below meth c hx hb hr hml hown hts hlk H locs hG hK hE hS ls hl
  have hl : lv_has ls 3 [(0, .ref a0)] := hl
  skip
  refine lv_iconst (v := 0) hx hb dX1_setMany_0 (by decide) ?_
  refine lv_istore_n (lv' := [(1, .int 0), (0, .ref a0)]) hx hb dX1_setMany_1 rfl hl (by decide) rfl (fun ls hl => ?_)
  refine lv_iconst (v := 0) hx hb dX1_setMany_2 (by decide) ?_
  refine lv_istore_n (lv' := [(2, .int 0), (1, .int 0), (0, .ref a0)]) hx hb dX1_setMany_3 rfl hl (by decide) rfl (fun ls hl => ?_)
  refine lv_iload_n hx hb dX1_setMany_4 rfl (lv_at hl 0 rfl) ?_
  refine lv_iconst (v := 4) hx hb dX1_setMany_5 (by decide) ?_
  refine lv_icmp_ge (tgt := 31) hx hb dX1_setMany_6 (by decide) (fun q => absurd q (by decide)) (fun _ => ?_)
  refine lv_pc (pc2 := 9) rfl ?_
  refine lv_iload_n hx hb dX1_setMany_9 rfl (lv_at hl 1 rfl) ?_
  refine lv_aload_n hx hb dX1_setMany_10 rfl (lv_at hl 2 rfl) ?_
  refine lv_iload_n hx hb dX1_setMany_11 rfl (lv_at hl 0 rfl) ?_
  obtain ⟨r_1, r_3, r_5, at_7, h_2, h_4, h_6⟩ := fF_o6 hG k_a0
  refine ty_calli ((W.runV (As := [.int 0]) (rest := [.int 0]) ⟨hx, hb, hml, hown, hts⟩ (c_X1_isSet l D t cI cL cC a0 0 k_a0) (cwV 1 hts gu_X1_setMany_X1_isSet_35 rfl rfl rfl (by decide +kernel) ⟨Nat.le_of_ble_eq_true rfl, Nat.le_of_ble_eq_true rfl⟩) (tP_V hG hE at_7 rfl) rfl rfl hl.1 rfl (lv_room (Nat.le_of_ble_eq_true rfl)) dX1_setMany_12 ⟨Nat.le_of_ble_eq_true rfl, Nat.le_of_ble_eq_true rfl⟩)) hS (fun _ h => h) (fun r_8 H locs hp_9 hG hS o_10 => ?_)
  have at_7 := va_at.keptC at_7 o_10 k_a0 rfl
  rcases hp_9 with rfl
  refine lv_if_eq (tgt := 22) hx hb dX1_setMany_15 (by decide) (fun _ => ?_) (fun q => absurd (by decide) q)
  refine lv_iconst (v := 0) hx hb dX1_setMany_22 (by decide) ?_
  refine lv_iadd hx hb dX1_setMany_23 ?_
  refine lv_seti (y := 0) (by decide) ?_
  refine lv_istore_n (lv' := [(1, .int 0), (2, .int 0), (0, .ref a0)]) hx hb dX1_setMany_24 rfl hl (by decide) rfl (fun ls hl => ?_)
  refine lv_pc (pc2 := 25) rfl ?_
  refine lv_iinc (v := 1) (lv' := [(2, .int 1), (1, .int 0), (0, .ref a0)]) hx hb dX1_setMany_25 hl (k := 1) rfl (by decide) (by decide) rfl (fun ls hl => ?_)
  refine lv_goto (tgt := 4) hx hb dX1_setMany_28 (by decide) ?_
  refine lv_iload_n hx hb dX1_setMany_4 rfl (lv_at hl 0 rfl) ?_
  refine lv_iconst (v := 4) hx hb dX1_setMany_5 (by decide) ?_
  refine lv_icmp_ge (tgt := 31) hx hb dX1_setMany_6 (by decide) (fun q => absurd q (by decide)) (fun _ => ?_)
  refine lv_iload_n hx hb dX1_setMany_9 rfl (lv_at hl 1 rfl) ?_
  refine lv_aload_n hx hb dX1_setMany_10 rfl (lv_at hl 2 rfl) ?_
  refine lv_iload_n hx hb dX1_setMany_11 rfl (lv_at hl 0 rfl) ?_
  refine lv_pc (pc2 := 12) rfl ?_
  refine ty_calli ((W.runV (As := [.int 1]) (rest := [.int 0]) ⟨hx, hb, hml, hown, hts⟩ (c_X1_isSet l D t cI cL cC a0 1 k_a0) (cwV 1 hts gu_X1_setMany_X1_isSet_35 rfl rfl rfl (by decide +kernel) ⟨Nat.le_of_ble_eq_true rfl, Nat.le_of_ble_eq_true rfl⟩) (tP_V hG hE at_7 rfl) rfl rfl hl.1 rfl (lv_room (Nat.le_of_ble_eq_true rfl)) dX1_setMany_12 ⟨Nat.le_of_ble_eq_true rfl, Nat.le_of_ble_eq_true rfl⟩)) hS (fun _ h => h) (fun r_11 H locs hp_12 hG hS o_13 => ?_)
  have at_7 := va_at.keptC at_7 o_13 k_a0 rfl
  rcases hp_12 with rfl
  refine lv_if_eq (tgt := 22) hx hb dX1_setMany_15 (by decide) (fun _ => ?_) (fun q => absurd (by decide) q)
  refine lv_iconst (v := 0) hx hb dX1_setMany_22 (by decide) ?_
  refine lv_iadd hx hb dX1_setMany_23 ?_
  refine lv_seti (y := 0) (by decide) ?_
  refine lv_istore_n (lv' := [(1, .int 0), (2, .int 1), (0, .ref a0)]) hx hb dX1_setMany_24 rfl hl (by decide) rfl (fun ls hl => ?_)
  refine lv_iinc (v := 2) (lv' := [(2, .int 2), (1, .int 0), (0, .ref a0)]) hx hb dX1_setMany_25 hl (k := 1) rfl (by decide) (by decide) rfl (fun ls hl => ?_)
  refine lv_goto (tgt := 4) hx hb dX1_setMany_28 (by decide) ?_
  refine lv_iload_n hx hb dX1_setMany_4 rfl (lv_at hl 0 rfl) ?_
  refine lv_pc (pc2 := 5) rfl ?_
  refine lv_iconst (v := 4) hx hb dX1_setMany_5 (by decide) ?_
  refine lv_icmp_ge (tgt := 31) hx hb dX1_setMany_6 (by decide) (fun q => absurd q (by decide)) (fun _ => ?_)
  refine lv_iload_n hx hb dX1_setMany_9 rfl (lv_at hl 1 rfl) ?_
  refine lv_aload_n hx hb dX1_setMany_10 rfl (lv_at hl 2 rfl) ?_
  refine lv_iload_n hx hb dX1_setMany_11 rfl (lv_at hl 0 rfl) ?_
  refine ty_calli ((W.runV (As := [.int 2]) (rest := [.int 0]) ⟨hx, hb, hml, hown, hts⟩ (c_X1_isSet l D t cI cL cC a0 2 k_a0) (cwV 1 hts gu_X1_setMany_X1_isSet_35 rfl rfl rfl (by decide +kernel) ⟨Nat.le_of_ble_eq_true rfl, Nat.le_of_ble_eq_true rfl⟩) (tP_V hG hE at_7 rfl) rfl rfl hl.1 rfl (lv_room (Nat.le_of_ble_eq_true rfl)) dX1_setMany_12 ⟨Nat.le_of_ble_eq_true rfl, Nat.le_of_ble_eq_true rfl⟩)) hS (fun _ h => h) (fun r_14 H locs hp_15 hG hS o_16 => ?_)
  have at_7 := va_at.keptC at_7 o_16 k_a0 rfl
  rcases hp_15 with rfl
  refine lv_if_eq (tgt := 22) hx hb dX1_setMany_15 (by decide) (fun _ => ?_) (fun q => absurd (by decide) q)
  refine lv_iconst (v := 0) hx hb dX1_setMany_22 (by decide) ?_
  refine lv_pc (pc2 := 23) rfl ?_
  refine lv_iadd hx hb dX1_setMany_23 ?_
  refine lv_seti (y := 0) (by decide) ?_
  refine lv_istore_n (lv' := [(1, .int 0), (2, .int 2), (0, .ref a0)]) hx hb dX1_setMany_24 rfl hl (by decide) rfl (fun ls hl => ?_)
  refine lv_iinc (v := 3) (lv' := [(2, .int 3), (1, .int 0), (0, .ref a0)]) hx hb dX1_setMany_25 hl (k := 1) rfl (by decide) (by decide) rfl (fun ls hl => ?_)
  refine lv_goto (tgt := 4) hx hb dX1_setMany_28 (by decide) ?_
  refine lv_iload_n hx hb dX1_setMany_4 rfl (lv_at hl 0 rfl) ?_
  refine lv_iconst (v := 4) hx hb dX1_setMany_5 (by decide) ?_
  refine lv_icmp_ge (tgt := 31) hx hb dX1_setMany_6 (by decide) (fun q => absurd q (by decide)) (fun _ => ?_)
  refine lv_iload_n hx hb dX1_setMany_9 rfl (lv_at hl 1 rfl) ?_
  refine lv_pc (pc2 := 10) rfl ?_
  refine lv_aload_n hx hb dX1_setMany_10 rfl (lv_at hl 2 rfl) ?_
  refine lv_iload_n hx hb dX1_setMany_11 rfl (lv_at hl 0 rfl) ?_
  refine ty_calli ((W.runV (As := [.int 3]) (rest := [.int 0]) ⟨hx, hb, hml, hown, hts⟩ (c_X1_isSet l D t cI cL cC a0 3 k_a0) (cwV 1 hts gu_X1_setMany_X1_isSet_35 rfl rfl rfl (by decide +kernel) ⟨Nat.le_of_ble_eq_true rfl, Nat.le_of_ble_eq_true rfl⟩) (tP_V hG hE at_7 rfl) rfl rfl hl.1 rfl (lv_room (Nat.le_of_ble_eq_true rfl)) dX1_setMany_12 ⟨Nat.le_of_ble_eq_true rfl, Nat.le_of_ble_eq_true rfl⟩)) hS (fun _ h => h) (fun r_17 H locs hp_18 hG hS o_19 => ?_)
  have at_7 := va_at.keptC at_7 o_19 k_a0 rfl
  rcases hp_18 with rfl
  refine lv_if_eq (tgt := 22) hx hb dX1_setMany_15 (by decide) (fun _ => ?_) (fun q => absurd (by decide) q)
  refine lv_iconst (v := 0) hx hb dX1_setMany_22 (by decide) ?_
  refine lv_iadd hx hb dX1_setMany_23 ?_
  refine lv_seti (y := 0) (by decide) ?_
  refine lv_istore_n (lv' := [(1, .int 0), (2, .int 3), (0, .ref a0)]) hx hb dX1_setMany_24 rfl hl (by decide) rfl (fun ls hl => ?_)
  refine lv_iinc (v := 4) (lv' := [(2, .int 4), (1, .int 0), (0, .ref a0)]) hx hb dX1_setMany_25 hl (k := 1) rfl (by decide) (by decide) rfl (fun ls hl => ?_)
  refine lv_pc (pc2 := 28) rfl ?_
  refine lv_goto (tgt := 4) hx hb dX1_setMany_28 (by decide) ?_
  refine lv_iload_n hx hb dX1_setMany_4 rfl (lv_at hl 0 rfl) ?_
  refine lv_iconst (v := 4) hx hb dX1_setMany_5 (by decide) ?_
  refine lv_icmp_ge (tgt := 31) hx hb dX1_setMany_6 (by decide) (fun _ => ?_) (fun q => absurd (by decide) q)
  refine lv_iload_n hx hb dX1_setMany_31 rfl (lv_at hl 1 rfl) ?_
  exact ty_iret hx hb hr hlk hG hS (by first | exact Or.inl ⟨rfl, by omega⟩ | exact Or.inr ⟨rfl, by omega⟩ | exact Or.inr (Or.inl ⟨rfl, by omega⟩) | exact Or.inr (Or.inr ⟨rfl, by omega⟩) | exact ⟨rfl, by omega⟩ | omega | trivial | rfl | (exfalso; omega)) dX1_setMany_32

def uX1_seenMany : List Cond := .code yX1_seenMany cX1_seenMany 3 (some .int) :: ([.fieldLink RX1 18 "RiverModel$Gauges" "seen" "[I"] ++ wsX10)
set_option maxHeartbeats 4000000 in
set_option maxRecDepth 100000 in
theorem c_X1_seenMany (l : Launch) (D : va_G) (t : Nat → Nat) (cI cL cC : ClassId) (a0 : Nat) (k_a0 : t a0 = 6) : tM l yX1_seenMany uX1_seenMany 0 0 D (fF cI cL cC 0 0) (fF cI cL cC 0 0) t cI cL cC [.ref a0] wr0 (pI (fun r => r = 0)) := by
  refine tM.ofW (cc := cX1_seenMany) (maxL := 3) (ret := (some .int)) (by decide) rfl (Nat.le_of_ble_eq_true rfl) ?_
  intro p e s m below meth c hx hb hr hml hown hts hlk H locs hG hK hE hS ls hl
  have hl : lv_has ls 3 [(0, .ref a0)] := hl
  have in1 : ∀ w ∈ wsX10, w ∈ uX1_seenMany := fun w h => List.mem_cons_of_mem _ (List.mem_append_right _ h)
  refine lv_iconst (v := 0) hx hb dX1_seenMany_0 (by decide) ?_
  refine lv_istore_n (lv' := [(1, .int 0), (0, .ref a0)]) hx hb dX1_seenMany_1 rfl hl (by decide) rfl (fun ls hl => ?_)
  refine lv_iconst (v := 0) hx hb dX1_seenMany_2 (by decide) ?_
  refine lv_istore_n (lv' := [(2, .int 0), (1, .int 0), (0, .ref a0)]) hx hb dX1_seenMany_3 rfl hl (by decide) rfl (fun ls hl => ?_)
  refine lv_pc (pc2 := 4) rfl ?_
  refine lp_gen (fun WW hWW => ?_)
  have kx : ∀ (H1 : Heap) (locs1 : List Loc) (ls1 : Array Slot), tG D (fF cI cL cC 0 0) t H1 → tF t wr0 s.heap H1 locs1 → lv_has ls1 3 [(2, .int 384), (1, .int 0), (0, .ref a0)] → WW H1 locs1 (F0 m 37 ls1 []) := by
    intro H locs ls hG hS hl
    refine (hWW _ _ _).mpr ?_
    refine lv_iload_n hx hb dX1_seenMany_37 rfl (lv_at hl 1 rfl) ?_
    exact ty_iret hx hb hr hlk hG hS (by first | exact Or.inl ⟨rfl, by omega⟩ | exact Or.inr ⟨rfl, by omega⟩ | exact Or.inr (Or.inl ⟨rfl, by omega⟩) | exact Or.inr (Or.inr ⟨rfl, by omega⟩) | exact ⟨rfl, by omega⟩ | omega | trivial | rfl | (exfalso; omega)) dX1_seenMany_38
  have loop : ∀ (k i : Nat) (H1 : Heap) (locs1 : List Loc) (ls1 : Array Slot), i + k = 384 → tG D (fF cI cL cC 0 0) t H1 → tF t wr0 s.heap H1 locs1 → lv_has ls1 3 [(2, .int (nI i)), (1, .int 0), (0, .ref a0)] → WW H1 locs1 (F0 m 4 ls1 []) := by
    intro k
    induction k with
    | zero =>
      intro i H locs ls hi hG hS hl
      have hi : i = 384 := by omega
      subst hi
      have hl : lv_has ls 3 [(2, .int 384), (1, .int 0), (0, .ref a0)] := hl
      refine (hWW _ _ _).mpr ?_
      refine lv_iload_n hx hb dX1_seenMany_4 rfl (lv_at hl 0 rfl) ?_
      refine lv_pc (pc2 := 5) rfl ?_
      refine lv_aload_n hx hb dX1_seenMany_5 rfl (lv_at hl 2 rfl) ?_
      obtain ⟨r_1, r_3, r_5, at_7, h_2, h_4, h_6⟩ := fF_o6 hG k_a0
      refine va_get (D := D) (ci := 1) (v := .ref r_5) (C := RX1) (T := TX1) (N := 4) hx hb hts in1 hown hK (va_one at_7) 0 rfl rfl 2 (by decide) (hts (.fieldLink RX1 18 "RiverModel$Gauges" "seen" "[I") (List.mem_of_getElem? (i := 1) rfl)) (fun _ h9 => h9) rfl dX1_seenMany_6 ?_
      obtain ⟨f_8, at_9, h_10⟩ := fF_o23 hG h_6
      refine va_alen (v := 384) hx hb hK (va_one at_9) 0 0 rfl rfl rfl dX1_seenMany_9 ?_
      refine lv_icmp_ge (tgt := 37) hx hb dX1_seenMany_10 (by decide) (fun _ => ?_) (fun q => absurd (by decide) q)
      exact (hWW _ _ _).mp (kx H locs ls hG hS (lv_sub hl [0, 1, 2] rfl))
    | succ k ih =>
      intro i H locs ls hi hG hS hl
      have hlt : i < 384 := by omega
      have i_c : (nI i).toInt = (i : Int) := nI_toInt (by omega)
      refine (hWW _ _ _).mpr ?_
      refine lv_iload_n hx hb dX1_seenMany_4 rfl (lv_at hl 0 rfl) ?_
      refine lv_aload_n hx hb dX1_seenMany_5 rfl (lv_at hl 2 rfl) ?_
      obtain ⟨r_11, r_13, r_15, at_17, h_12, h_14, h_16⟩ := fF_o6 hG k_a0
      refine va_get (D := D) (ci := 1) (v := .ref r_15) (C := RX1) (T := TX1) (N := 4) hx hb hts in1 hown hK (va_one at_17) 0 rfl rfl 2 (by decide) (hts (.fieldLink RX1 18 "RiverModel$Gauges" "seen" "[I") (List.mem_of_getElem? (i := 1) rfl)) (fun _ h9 => h9) rfl dX1_seenMany_6 ?_
      obtain ⟨f_18, at_19, h_20⟩ := fF_o23 hG h_16
      refine va_alen (v := 384) hx hb hK (va_one at_19) 0 0 rfl rfl rfl dX1_seenMany_9 ?_
      refine lv_pc (pc2 := 10) rfl ?_
      refine lv_icmp_ge (tgt := 37) hx hb dX1_seenMany_10 (by decide) (fun c_21 => ?_) (fun c_21 => ?_)
      · skip
        have c_21 : 384 ≤ (nI i).toInt := q_le c_21
        exfalso; omega
      · skip
        have c_21 : (nI i).toInt < 384 := q_nle c_21
        refine lv_iload_n hx hb dX1_seenMany_13 rfl (lv_at hl 1 rfl) ?_
        refine lv_aload_n hx hb dX1_seenMany_14 rfl (lv_at hl 2 rfl) ?_
        refine va_get (D := D) (ci := 1) (v := .ref r_15) (C := RX1) (T := TX1) (N := 4) hx hb hts in1 hown hK (va_one at_17) 0 rfl rfl 2 (by decide) (hts (.fieldLink RX1 18 "RiverModel$Gauges" "seen" "[I") (List.mem_of_getElem? (i := 1) rfl)) (fun _ h9 => h9) rfl dX1_seenMany_15 ?_
        refine lv_iload_n hx hb dX1_seenMany_18 rfl (lv_at hl 0 rfl) ?_
        have b_22 : vp_in (nI i) 384 := (q_in (by omega) (by omega))
        refine va_iald hx hb hK (va_one at_19) 0 0 rfl rfl b_22 dX1_seenMany_19 ?_
        refine lv_seti (y := (-1)) (h_20 _ (q_inlt b_22)) ?_
        refine lv_iconst (v := (-1)) hx hb dX1_seenMany_20 (by decide) ?_
        refine lv_icmp_eq (tgt := 28) hx hb dX1_seenMany_21 (by decide) (fun _ => ?_) (fun q => absurd (by decide) q)
        refine lv_pc (pc2 := 28) rfl ?_
        refine lv_iconst (v := 0) hx hb dX1_seenMany_28 (by decide) ?_
        refine lv_iadd hx hb dX1_seenMany_29 ?_
        refine lv_seti (y := 0) (by decide) ?_
        refine lv_istore_n (lv' := [(1, .int 0), (2, .int (nI i)), (0, .ref a0)]) hx hb dX1_seenMany_30 rfl hl (by decide) rfl (fun ls hl => ?_)
        refine lv_iinc (v := nI (i + 1)) (lv' := [(2, .int (nI (i + 1))), (1, .int 0), (0, .ref a0)]) hx hb dX1_seenMany_31 hl (k := 1) rfl (by rw [nI_succ]; rfl) (by decide) rfl (fun ls hl => ?_)
        refine lv_goto (tgt := 4) hx hb dX1_seenMany_34 (by decide) ?_
        exact (hWW _ _ _).mp (ih (i + 1) H locs ls (by omega) hG hS (lv_sub hl [0, 1, 2] rfl))
  exact loop 384 0 H locs ls (by omega) hG hS (lv_sub hl [0, 1, 2] rfl)

def uX9_count : List Cond := .code yX9_count cX9_count 2 (some .int) :: ([.fieldLink RX9 10 "RiverModel" "text" "LRiverModel$Text;", .fieldLink RX9 103 "RiverModel$Text" "length" "I", .fieldLink RX9 29 "RiverModel" "isBuilt" "Z", .fieldLink RX9 53 "RiverModel" "now" "LRiverModel$Course;", .fieldLink RX9 144 "RiverModel$Course" "hours" "I", .fieldLink RX9 81 "RiverModel" "knobs" "LRiverModel$Knobs;", .methodLink RX9 336 yX3_setMany, .instanceMethod yX3_setMany, .selects RX3 yX3_setMany yX3_setMany, .initialized RX3, .fieldLink RX9 74 "RiverModel" "gauges" "LRiverModel$Gauges;", .methodLink RX9 339 yX1_setMany, .instanceMethod yX1_setMany, .selects RX1 yX1_setMany yX1_setMany, .initialized RX1, .methodLink RX9 340 yX1_seenMany, .instanceMethod yX1_seenMany, .selects RX1 yX1_seenMany yX1_seenMany, .fieldLink RX9 67 "RiverModel" "keptMany" "I", .code yX3_setMany cX3_setMany 1 (some .int), .methodLink RX3 37 yX3_isSet, .instanceMethod yX3_isSet, .selects RX3 yX3_isSet yX3_isSet, .code yX3_isSet cX3_isSet 2 (some .boolean), .fieldLink RX3 24 "RiverModel$Knobs" "manys" "[I", .code yX1_setMany cX1_setMany 3 (some .int), .methodLink RX1 35 yX1_isSet, .instanceMethod yX1_isSet, .selects RX1 yX1_isSet yX1_isSet, .code yX1_isSet cX1_isSet 2 (some .boolean), .fieldLink RX1 9 "RiverModel$Gauges" "whats" "[I", .code yX1_seenMany cX1_seenMany 3 (some .int), .fieldLink RX1 18 "RiverModel$Gauges" "seen" "[I"] ++ wsX90 ++ wsX70 ++ wsX00 ++ wsX30 ++ wsX10)
set_option maxRecDepth 20000 in
theorem gu_X9_count_X3_setMany_336 : GoodIn uX9_count (wsV RX9 336 RX3 yX3_setMany uX3_setMany) := goodIn_r _ [7, 8, 9, 10, 20, 21, 22, 23, 10, 24, 25, 64, 65, 66, 67, 68] (by decide +kernel) (by decide +kernel)
set_option maxRecDepth 20000 in
theorem gu_X9_count_X1_setMany_339 : GoodIn uX9_count (wsV RX9 339 RX1 yX1_setMany uX1_setMany) := goodIn_r _ [12, 13, 14, 15, 26, 27, 28, 29, 15, 30, 31, 69, 70, 71, 72] (by decide +kernel) (by decide +kernel)
set_option maxRecDepth 20000 in
theorem gu_X9_count_X1_seenMany_340 : GoodIn uX9_count (wsV RX9 340 RX1 yX1_seenMany uX1_seenMany) := goodIn_r _ [16, 17, 18, 15, 32, 33, 69, 70, 71, 72] (by decide +kernel) (by decide +kernel)
set_option maxHeartbeats 4000000 in
set_option maxRecDepth 100000 in
theorem c_X9_count (l : Launch) (D : va_G) (t : Nat → Nat) (cI cL cC : ClassId) (a0 : Nat) (a1 : Int32) (k_a0 : t a0 = 1) : tM l yX9_count uX9_count 2 43 D (fF cI cL cC 0 0) (fF cI cL cC 0 0) t cI cL cC [.ref a0, .int a1] wr0 (pI (fun r => (r = (-1) ∧ (a1.toInt < 0 ∨ 8 < a1.toInt)) ∨ (r = 0 ∧ 0 ≤ a1.toInt ∧ a1.toInt ≤ 8))) := by
  refine tM.ofW (cc := cX9_count) (maxL := 2) (ret := (some .int)) (by decide) rfl (Nat.le_of_ble_eq_true rfl) ?_
  intro p e s m below meth c hx hb hr hml hown hts hlk H locs hG hK hE hS ls hl
  have hl : lv_has ls 2 [(0, .ref a0), (1, .int a1)] := hl
  have in9 : ∀ w ∈ wsX90, w ∈ uX9_count := fun w h => List.mem_cons_of_mem _ (List.mem_append_left _ (List.mem_append_left _ (List.mem_append_left _ (List.mem_append_left _ (List.mem_append_right _ h)))))
  have in7 : ∀ w ∈ wsX70, w ∈ uX9_count := fun w h => List.mem_cons_of_mem _ (List.mem_append_left _ (List.mem_append_left _ (List.mem_append_left _ (List.mem_append_right _ h))))
  have in0 : ∀ w ∈ wsX00, w ∈ uX9_count := fun w h => List.mem_cons_of_mem _ (List.mem_append_left _ (List.mem_append_left _ (List.mem_append_right _ h)))
  refine lv_iload_n hx hb dX9_count_0 rfl (lv_at hl 1 rfl) ?_
  by_cases k_1 : a1.toInt = 0
  · refine lv_tableIn (tgt := 52) hx hb dX9_count_1 (by rw [k_1]; decide) (by rw [k_1]; decide) (by rw [k_1]; rfl) (by decide) ?_
    refine lv_aload_n hx hb dX9_count_52 rfl (lv_at hl 0 rfl) ?_
    obtain ⟨r_2, r_4, r_6, r_8, r_10, r_12, r_14, r_16, r_18, r_20, r_22, r_24, r_26, r_28, r_30, at_32, h_3, h_5, h_7, h_9, h_11, h_13, h_15, h_17, h_19, h_21, h_23, h_25, h_27, h_29, h_31⟩ := fF_o1 hG k_a0
    refine va_get (D := D) (ci := 8) (v := .ref r_2) (C := RX9) (T := TX9) (N := 18) hx hb hts in9 hown hK (va_one at_32) 0 rfl rfl 0 (by decide) (hts (.fieldLink RX9 10 "RiverModel" "text" "LRiverModel$Text;") (List.mem_of_getElem? (i := 1) rfl)) (fun _ h9 => h9) rfl dX9_count_53 ?_
    obtain ⟨r_33, r_35, v_37, at_38, h_34, h_36⟩ := fF_o2 hG h_3
    refine va_get (D := D) (ci := 6) (v := .int 0) (C := RX7) (T := TX7) (N := 4) hx hb hts in7 hown hK (va_one at_38) 0 rfl rfl 2 (by decide) (hts (.fieldLink RX9 103 "RiverModel$Text" "length" "I") (List.mem_of_getElem? (i := 2) rfl)) (fun _ h9 => h9) rfl dX9_count_56 ?_
    exact ty_iret hx hb hr hlk hG hS (by first | exact Or.inl ⟨rfl, by omega⟩ | exact Or.inr ⟨rfl, by omega⟩ | exact Or.inr (Or.inl ⟨rfl, by omega⟩) | exact Or.inr (Or.inr ⟨rfl, by omega⟩) | exact ⟨rfl, by omega⟩ | omega | trivial | rfl | (exfalso; omega)) dX9_count_59
  by_cases k_39 : a1.toInt = 1
  · refine lv_tableIn (tgt := 60) hx hb dX9_count_1 (by rw [k_39]; decide) (by rw [k_39]; decide) (by rw [k_39]; rfl) (by decide) ?_
    refine lv_aload_n hx hb dX9_count_60 rfl (lv_at hl 0 rfl) ?_
    refine lv_pc (pc2 := 61) rfl ?_
    obtain ⟨r_40, r_42, r_44, r_46, r_48, r_50, r_52, r_54, r_56, r_58, r_60, r_62, r_64, r_66, r_68, at_70, h_41, h_43, h_45, h_47, h_49, h_51, h_53, h_55, h_57, h_59, h_61, h_63, h_65, h_67, h_69⟩ := fF_o1 hG k_a0
    refine va_get (D := D) (ci := 8) (v := .int 0) (C := RX9) (T := TX9) (N := 18) hx hb hts in9 hown hK (va_one at_70) 0 rfl rfl 4 (by decide) (hts (.fieldLink RX9 29 "RiverModel" "isBuilt" "Z") (List.mem_of_getElem? (i := 3) rfl)) (fun _ h9 => h9) rfl dX9_count_61 ?_
    refine lv_if_eq (tgt := 77) hx hb dX9_count_64 (by decide) (fun _ => ?_) (fun q => absurd (by decide) q)
    refine lv_iconst (v := 0) hx hb dX9_count_77 (by decide) ?_
    exact ty_iret hx hb hr hlk hG hS (by first | exact Or.inl ⟨rfl, by omega⟩ | exact Or.inr ⟨rfl, by omega⟩ | exact Or.inr (Or.inl ⟨rfl, by omega⟩) | exact Or.inr (Or.inr ⟨rfl, by omega⟩) | exact ⟨rfl, by omega⟩ | omega | trivial | rfl | (exfalso; omega)) dX9_count_78
  by_cases k_71 : a1.toInt = 2
  · refine lv_tableIn (tgt := 79) hx hb dX9_count_1 (by rw [k_71]; decide) (by rw [k_71]; decide) (by rw [k_71]; rfl) (by decide) ?_
    refine lv_aload_n hx hb dX9_count_79 rfl (lv_at hl 0 rfl) ?_
    obtain ⟨r_72, r_74, r_76, r_78, r_80, r_82, r_84, r_86, r_88, r_90, r_92, r_94, r_96, r_98, r_100, at_102, h_73, h_75, h_77, h_79, h_81, h_83, h_85, h_87, h_89, h_91, h_93, h_95, h_97, h_99, h_101⟩ := fF_o1 hG k_a0
    refine va_get (D := D) (ci := 8) (v := .int 0) (C := RX9) (T := TX9) (N := 18) hx hb hts in9 hown hK (va_one at_102) 0 rfl rfl 4 (by decide) (hts (.fieldLink RX9 29 "RiverModel" "isBuilt" "Z") (List.mem_of_getElem? (i := 3) rfl)) (fun _ h9 => h9) rfl dX9_count_80 ?_
    refine lv_if_eq (tgt := 96) hx hb dX9_count_83 (by decide) (fun _ => ?_) (fun q => absurd (by decide) q)
    refine lv_iconst (v := 0) hx hb dX9_count_96 (by decide) ?_
    refine lv_pc (pc2 := 97) rfl ?_
    exact ty_iret hx hb hr hlk hG hS (by first | exact Or.inl ⟨rfl, by omega⟩ | exact Or.inr ⟨rfl, by omega⟩ | exact Or.inr (Or.inl ⟨rfl, by omega⟩) | exact Or.inr (Or.inr ⟨rfl, by omega⟩) | exact ⟨rfl, by omega⟩ | omega | trivial | rfl | (exfalso; omega)) dX9_count_97
  by_cases k_103 : a1.toInt = 3
  · refine lv_tableIn (tgt := 98) hx hb dX9_count_1 (by rw [k_103]; decide) (by rw [k_103]; decide) (by rw [k_103]; rfl) (by decide) ?_
    refine lv_aload_n hx hb dX9_count_98 rfl (lv_at hl 0 rfl) ?_
    obtain ⟨r_104, r_106, r_108, r_110, r_112, r_114, r_116, r_118, r_120, r_122, r_124, r_126, r_128, r_130, r_132, at_134, h_105, h_107, h_109, h_111, h_113, h_115, h_117, h_119, h_121, h_123, h_125, h_127, h_129, h_131, h_133⟩ := fF_o1 hG k_a0
    refine va_get (D := D) (ci := 8) (v := .int 0) (C := RX9) (T := TX9) (N := 18) hx hb hts in9 hown hK (va_one at_134) 0 rfl rfl 4 (by decide) (hts (.fieldLink RX9 29 "RiverModel" "isBuilt" "Z") (List.mem_of_getElem? (i := 3) rfl)) (fun _ h9 => h9) rfl dX9_count_99 ?_
    refine lv_if_eq (tgt := 115) hx hb dX9_count_102 (by decide) (fun _ => ?_) (fun q => absurd (by decide) q)
    refine lv_iconst (v := 0) hx hb dX9_count_115 (by decide) ?_
    exact ty_iret hx hb hr hlk hG hS (by first | exact Or.inl ⟨rfl, by omega⟩ | exact Or.inr ⟨rfl, by omega⟩ | exact Or.inr (Or.inl ⟨rfl, by omega⟩) | exact Or.inr (Or.inr ⟨rfl, by omega⟩) | exact ⟨rfl, by omega⟩ | omega | trivial | rfl | (exfalso; omega)) dX9_count_116
  by_cases k_135 : a1.toInt = 4
  · refine lv_tableIn (tgt := 117) hx hb dX9_count_1 (by rw [k_135]; decide) (by rw [k_135]; decide) (by rw [k_135]; rfl) (by decide) ?_
    refine lv_aload_n hx hb dX9_count_117 rfl (lv_at hl 0 rfl) ?_
    obtain ⟨r_136, r_138, r_140, r_142, r_144, r_146, r_148, r_150, r_152, r_154, r_156, r_158, r_160, r_162, r_164, at_166, h_137, h_139, h_141, h_143, h_145, h_147, h_149, h_151, h_153, h_155, h_157, h_159, h_161, h_163, h_165⟩ := fF_o1 hG k_a0
    refine va_get (D := D) (ci := 8) (v := .ref r_150) (C := RX9) (T := TX9) (N := 18) hx hb hts in9 hown hK (va_one at_166) 0 rfl rfl 9 (by decide) (hts (.fieldLink RX9 53 "RiverModel" "now" "LRiverModel$Course;") (List.mem_of_getElem? (i := 4) rfl)) (fun _ h9 => h9) rfl dX9_count_118 ?_
    refine lv_pc (pc2 := 121) rfl ?_
    obtain ⟨r_167, r_169, r_171, r_173, v_175, v_176, v_177, at_178, h_168, h_170, h_172, h_174⟩ := fF_o5 hG h_151
    refine va_get (D := D) (ci := 0) (v := .int 0) (C := RX0) (T := TX0) (N := 8) hx hb hts in0 hown hK (va_one at_178) 0 rfl rfl 7 (by decide) (hts (.fieldLink RX9 144 "RiverModel$Course" "hours" "I") (List.mem_of_getElem? (i := 5) rfl)) (fun _ h9 => h9) rfl dX9_count_121 ?_
    exact ty_iret hx hb hr hlk hG hS (by first | exact Or.inl ⟨rfl, by omega⟩ | exact Or.inr ⟨rfl, by omega⟩ | exact Or.inr (Or.inl ⟨rfl, by omega⟩) | exact Or.inr (Or.inr ⟨rfl, by omega⟩) | exact ⟨rfl, by omega⟩ | omega | trivial | rfl | (exfalso; omega)) dX9_count_124
  by_cases k_179 : a1.toInt = 5
  · refine lv_tableIn (tgt := 125) hx hb dX9_count_1 (by rw [k_179]; decide) (by rw [k_179]; decide) (by rw [k_179]; rfl) (by decide) ?_
    refine lv_aload_n hx hb dX9_count_125 rfl (lv_at hl 0 rfl) ?_
    obtain ⟨r_180, r_182, r_184, r_186, r_188, r_190, r_192, r_194, r_196, r_198, r_200, r_202, r_204, r_206, r_208, at_210, h_181, h_183, h_185, h_187, h_189, h_191, h_193, h_195, h_197, h_199, h_201, h_203, h_205, h_207, h_209⟩ := fF_o1 hG k_a0
    refine va_get (D := D) (ci := 8) (v := .ref r_204) (C := RX9) (T := TX9) (N := 18) hx hb hts in9 hown hK (va_one at_210) 0 rfl rfl 15 (by decide) (hts (.fieldLink RX9 81 "RiverModel" "knobs" "LRiverModel$Knobs;") (List.mem_of_getElem? (i := 6) rfl)) (fun _ h9 => h9) rfl dX9_count_126 ?_
    obtain ⟨r_211, r_213, r_215, r_217, r_219, at_221, h_212, h_214, h_216, h_218, h_220⟩ := fF_o7 hG h_205
    refine ty_calli ((W.runV (As := []) (rest := []) ⟨hx, hb, hml, hown, hts⟩ (c_X3_setMany l D t cI cL cC r_204 h_205) (cwV 0 hts gu_X9_count_X3_setMany_336 rfl rfl rfl (by decide +kernel) ⟨Nat.le_of_ble_eq_true rfl, Nat.le_of_ble_eq_true rfl⟩) (tP_V hG hE at_221 rfl) rfl rfl hl.1 rfl (lv_room (Nat.le_of_ble_eq_true rfl)) dX9_count_129 ⟨Nat.le_of_ble_eq_true rfl, Nat.le_of_ble_eq_true rfl⟩)) hS (fun _ h => h) (fun r_222 H locs hp_223 hG hS o_224 => ?_)
    have at_210 := va_at.keptC at_210 o_224 k_a0 rfl
    have at_221 := va_at.keptC at_221 o_224 h_205 rfl
    rcases hp_223 with rfl
    exact ty_iret hx hb hr hlk hG hS (by first | exact Or.inl ⟨rfl, by omega⟩ | exact Or.inr ⟨rfl, by omega⟩ | exact Or.inr (Or.inl ⟨rfl, by omega⟩) | exact Or.inr (Or.inr ⟨rfl, by omega⟩) | exact ⟨rfl, by omega⟩ | omega | trivial | rfl | (exfalso; omega)) dX9_count_132
  by_cases k_225 : a1.toInt = 6
  · refine lv_tableIn (tgt := 133) hx hb dX9_count_1 (by rw [k_225]; decide) (by rw [k_225]; decide) (by rw [k_225]; rfl) (by decide) ?_
    refine lv_aload_n hx hb dX9_count_133 rfl (lv_at hl 0 rfl) ?_
    obtain ⟨r_226, r_228, r_230, r_232, r_234, r_236, r_238, r_240, r_242, r_244, r_246, r_248, r_250, r_252, r_254, at_256, h_227, h_229, h_231, h_233, h_235, h_237, h_239, h_241, h_243, h_245, h_247, h_249, h_251, h_253, h_255⟩ := fF_o1 hG k_a0
    refine va_get (D := D) (ci := 8) (v := .ref r_248) (C := RX9) (T := TX9) (N := 18) hx hb hts in9 hown hK (va_one at_256) 0 rfl rfl 14 (by decide) (hts (.fieldLink RX9 74 "RiverModel" "gauges" "LRiverModel$Gauges;") (List.mem_of_getElem? (i := 11) rfl)) (fun _ h9 => h9) rfl dX9_count_134 ?_
    refine lv_pc (pc2 := 137) rfl ?_
    obtain ⟨r_257, r_259, r_261, at_263, h_258, h_260, h_262⟩ := fF_o6 hG h_249
    refine ty_calli ((W.runV (As := []) (rest := []) ⟨hx, hb, hml, hown, hts⟩ (c_X1_setMany l D t cI cL cC r_248 h_249) (cwV 0 hts gu_X9_count_X1_setMany_339 rfl rfl rfl (by decide +kernel) ⟨Nat.le_of_ble_eq_true rfl, Nat.le_of_ble_eq_true rfl⟩) (tP_V hG hE at_263 rfl) rfl rfl hl.1 rfl (lv_room (Nat.le_of_ble_eq_true rfl)) dX9_count_137 ⟨Nat.le_of_ble_eq_true rfl, Nat.le_of_ble_eq_true rfl⟩)) hS (fun _ h => h) (fun r_264 H locs hp_265 hG hS o_266 => ?_)
    have at_256 := va_at.keptC at_256 o_266 k_a0 rfl
    have at_263 := va_at.keptC at_263 o_266 h_249 rfl
    rcases hp_265 with rfl
    exact ty_iret hx hb hr hlk hG hS (by first | exact Or.inl ⟨rfl, by omega⟩ | exact Or.inr ⟨rfl, by omega⟩ | exact Or.inr (Or.inl ⟨rfl, by omega⟩) | exact Or.inr (Or.inr ⟨rfl, by omega⟩) | exact ⟨rfl, by omega⟩ | omega | trivial | rfl | (exfalso; omega)) dX9_count_140
  by_cases k_267 : a1.toInt = 7
  · refine lv_tableIn (tgt := 141) hx hb dX9_count_1 (by rw [k_267]; decide) (by rw [k_267]; decide) (by rw [k_267]; rfl) (by decide) ?_
    refine lv_aload_n hx hb dX9_count_141 rfl (lv_at hl 0 rfl) ?_
    obtain ⟨r_268, r_270, r_272, r_274, r_276, r_278, r_280, r_282, r_284, r_286, r_288, r_290, r_292, r_294, r_296, at_298, h_269, h_271, h_273, h_275, h_277, h_279, h_281, h_283, h_285, h_287, h_289, h_291, h_293, h_295, h_297⟩ := fF_o1 hG k_a0
    refine va_get (D := D) (ci := 8) (v := .ref r_290) (C := RX9) (T := TX9) (N := 18) hx hb hts in9 hown hK (va_one at_298) 0 rfl rfl 14 (by decide) (hts (.fieldLink RX9 74 "RiverModel" "gauges" "LRiverModel$Gauges;") (List.mem_of_getElem? (i := 11) rfl)) (fun _ h9 => h9) rfl dX9_count_142 ?_
    obtain ⟨r_299, r_301, r_303, at_305, h_300, h_302, h_304⟩ := fF_o6 hG h_291
    refine ty_calli ((W.runV (As := []) (rest := []) ⟨hx, hb, hml, hown, hts⟩ (c_X1_seenMany l D t cI cL cC r_290 h_291) (cwV 0 hts gu_X9_count_X1_seenMany_340 rfl rfl rfl (by decide +kernel) ⟨Nat.le_of_ble_eq_true rfl, Nat.le_of_ble_eq_true rfl⟩) (tP_V hG hE at_305 rfl) rfl rfl hl.1 rfl (lv_room (Nat.le_of_ble_eq_true rfl)) dX9_count_145 ⟨Nat.le_of_ble_eq_true rfl, Nat.le_of_ble_eq_true rfl⟩)) hS (fun _ h => h) (fun r_306 H locs hp_307 hG hS o_308 => ?_)
    have at_298 := va_at.keptC at_298 o_308 k_a0 rfl
    have at_305 := va_at.keptC at_305 o_308 h_291 rfl
    rcases hp_307 with rfl
    exact ty_iret hx hb hr hlk hG hS (by first | exact Or.inl ⟨rfl, by omega⟩ | exact Or.inr ⟨rfl, by omega⟩ | exact Or.inr (Or.inl ⟨rfl, by omega⟩) | exact Or.inr (Or.inr ⟨rfl, by omega⟩) | exact ⟨rfl, by omega⟩ | omega | trivial | rfl | (exfalso; omega)) dX9_count_148
  by_cases k_309 : a1.toInt = 8
  · refine lv_tableIn (tgt := 149) hx hb dX9_count_1 (by rw [k_309]; decide) (by rw [k_309]; decide) (by rw [k_309]; rfl) (by decide) ?_
    refine lv_aload_n hx hb dX9_count_149 rfl (lv_at hl 0 rfl) ?_
    obtain ⟨r_310, r_312, r_314, r_316, r_318, r_320, r_322, r_324, r_326, r_328, r_330, r_332, r_334, r_336, r_338, at_340, h_311, h_313, h_315, h_317, h_319, h_321, h_323, h_325, h_327, h_329, h_331, h_333, h_335, h_337, h_339⟩ := fF_o1 hG k_a0
    refine va_get (D := D) (ci := 8) (v := .int 0) (C := RX9) (T := TX9) (N := 18) hx hb hts in9 hown hK (va_one at_340) 0 rfl rfl 13 (by decide) (hts (.fieldLink RX9 67 "RiverModel" "keptMany" "I") (List.mem_of_getElem? (i := 19) rfl)) (fun _ h9 => h9) rfl dX9_count_150 ?_
    refine lv_pc (pc2 := 153) rfl ?_
    exact ty_iret hx hb hr hlk hG hS (by first | exact Or.inl ⟨rfl, by omega⟩ | exact Or.inr ⟨rfl, by omega⟩ | exact Or.inr (Or.inl ⟨rfl, by omega⟩) | exact Or.inr (Or.inr ⟨rfl, by omega⟩) | exact ⟨rfl, by omega⟩ | omega | trivial | rfl | (exfalso; omega)) dX9_count_153
  refine lv_tableOut (tgt := 154) hx hb dX9_count_1 (by omega) (by decide) ?_
  refine lv_iconst (v := (-1)) hx hb dX9_count_154 (by decide) ?_
  exact ty_iret hx hb hr hlk hG hS (by first | exact Or.inl ⟨rfl, by omega⟩ | exact Or.inr ⟨rfl, by omega⟩ | exact Or.inr (Or.inl ⟨rfl, by omega⟩) | exact Or.inr (Or.inr ⟨rfl, by omega⟩) | exact ⟨rfl, by omega⟩ | omega | trivial | rfl | (exfalso; omega)) dX9_count_155

def uX7_append : List Cond := .code yX7_append cX7_append 5 none :: ([.fieldLink RX7 18 "RiverModel$Text" "length" "I", .fieldLink RX7 9 "RiverModel$Text" "bytes" "[I"] ++ wsX70)
set_option maxHeartbeats 4000000 in
set_option maxRecDepth 100000 in
theorem c_X7_append (l : Launch) (D : va_G) (t : Nat → Nat) (cI cL cC : ClassId) (gR : Int32) (a0 : Nat) (a1 : Int32) (a2 : Int64) (uq_gC : ∀ b c : Nat, t b = 2 → t c = 2 → b = c) (h1 : 1 ≤ a1.toInt) (h8 : a1.toInt ≤ 8) (k_a0 : t a0 = 2) : tM l yX7_append uX7_append 0 0 D (fF cI cL cC 0 gR) (fF cI cL cC a1 gR) t cI cL cC [.ref a0, .int a1, .long a2] wrX (pV (True)) := by
  refine tM.ofW (cc := cX7_append) (maxL := 5) (ret := none) (by decide) rfl (Nat.le_of_ble_eq_true rfl) ?_
  intro p e s m below meth c hx hb hr hml hown hts hlk H locs hG hK hE hS ls hl
  have hl : lv_has ls 5 [(0, .ref a0), (1, .int a1), (2, .long a2)] := hl
  have in7 : ∀ w ∈ wsX70, w ∈ uX7_append := fun w h => List.mem_cons_of_mem _ (List.mem_append_right _ h)
  refine lv_iload_n hx hb dX7_append_0 rfl (lv_at hl 1 rfl) ?_
  refine lv_iconst (v := 1) hx hb dX7_append_1 (by decide) ?_
  refine lv_isub hx hb dX7_append_2 ?_
  refine lv_topi (fun x_1 e_2 => ?_)
  have i_x_1 : x_1.toInt = a1.toInt - 1 := by rw [e_2]; exact (q_sub (by rw [show (1 : Int32).toInt = 1 by decide]; omega) (by rw [show (1 : Int32).toInt = 1 by decide]; omega)).trans (by rw [show (1 : Int32).toInt = 1 by decide])
  refine lv_istore (lv' := [(4, .int x_1), (0, .ref a0), (1, .int a1), (2, .long a2)]) hx hb dX7_append_3 hl (by decide) rfl (fun ls hl => ?_)
  refine lv_pc (pc2 := 5) rfl ?_
  refine lp_gen (fun WW hWW => ?_)
  have loop : ∀ (j : Nat) (x L : Int32) (H1 : Heap) (locs1 : List Loc) (ls1 : Array Slot), x.toInt = (j : Int) - 1 → L.toInt = a1.toInt - (j : Int) → 0 ≤ L.toInt → tG D (fF cI cL cC L gR) t H1 → tF t wrX s.heap H1 locs1 → lv_has ls1 5 [(4, .int x), (0, .ref a0), (1, .int a1), (2, .long a2)] → WW H1 locs1 (F0 m 5 ls1 []) := by
    intro j
    induction j with
    | zero =>
      intro x L H locs ls hj hL hL0 hG hS hl
      refine (hWW _ _ _).mpr ?_
      refine lv_iload hx hb dX7_append_5 (lv_at hl 0 rfl) ?_
      refine lv_if_lt (tgt := 57) hx hb dX7_append_7 (by decide) (fun c_3 => ?_) (fun c_3 => ?_)
      · skip
        have c_3 : x.toInt < 0 := q_lt c_3
        have hLa : L = a1 := Int32.toInt_inj.mp (by omega)
        subst hLa
        exact ty_vret hx hb hr hlk hG hS (by first | exact Or.inl ⟨rfl, by omega⟩ | exact Or.inr ⟨rfl, by omega⟩ | exact Or.inr (Or.inl ⟨rfl, by omega⟩) | exact Or.inr (Or.inr ⟨rfl, by omega⟩) | exact ⟨rfl, by omega⟩ | omega | trivial | rfl | (exfalso; omega)) dX7_append_57
      · skip
        have c_3 : 0 ≤ x.toInt := q_nlt c_3
        exfalso; omega
    | succ j ih =>
      intro x L H locs ls hj hL hL0 hG hS hl
      refine (hWW _ _ _).mpr ?_
      refine lv_pc (pc2 := 5) rfl ?_
      refine lv_iload hx hb dX7_append_5 (lv_at hl 0 rfl) ?_
      refine lv_if_lt (tgt := 57) hx hb dX7_append_7 (by decide) (fun c_4 => ?_) (fun c_4 => ?_)
      · skip
        have c_4 : x.toInt < 0 := q_lt c_4
        exfalso; omega
      · skip
        have c_4 : 0 ≤ x.toInt := q_nlt c_4
        refine lv_aload_n hx hb dX7_append_10 rfl (lv_at hl 1 rfl) ?_
        obtain ⟨r_5, r_7, v_9, at_10, h_6, h_8⟩ := fF_o2 hG k_a0
        refine va_get (D := D) (ci := 6) (v := .int L) (C := RX7) (T := TX7) (N := 4) hx hb hts in7 hown hK (va_one at_10) 0 rfl rfl 2 (by decide) (hts (.fieldLink RX7 18 "RiverModel$Text" "length" "I") (List.mem_of_getElem? (i := 1) rfl)) (fun _ h9 => h9) rfl dX7_append_11 ?_
        refine lv_sipush (v := 400) hx hb dX7_append_14 (by decide) ?_
        refine lv_icmp_ge (tgt := 57) hx hb dX7_append_17 (by decide) (fun c_11 => ?_) (fun c_11 => ?_)
        · skip
          have c_11 : 400 ≤ L.toInt := q_le c_11
          exfalso; omega
        · skip
          have c_11 : L.toInt < 400 := q_nle c_11
          refine lv_aload_n hx hb dX7_append_20 rfl (lv_at hl 1 rfl) ?_
          refine va_get (D := D) (ci := 6) (v := .ref r_5) (C := RX7) (T := TX7) (N := 4) hx hb hts in7 hown hK (va_one at_10) 0 rfl rfl 0 (by decide) (hts (.fieldLink RX7 9 "RiverModel$Text" "bytes" "[I") (List.mem_of_getElem? (i := 2) rfl)) (fun _ h9 => h9) rfl dX7_append_21 ?_
          refine lv_pc (pc2 := 24) rfl ?_
          refine lv_aload_n hx hb dX7_append_24 rfl (lv_at hl 1 rfl) ?_
          refine va_get (D := D) (ci := 6) (v := .int L) (C := RX7) (T := TX7) (N := 4) hx hb hts in7 hown hK (va_one at_10) 0 rfl rfl 2 (by decide) (hts (.fieldLink RX7 18 "RiverModel$Text" "length" "I") (List.mem_of_getElem? (i := 1) rfl)) (fun _ h9 => h9) rfl dX7_append_25 ?_
          refine lv_lload_n hx hb dX7_append_28 rfl (lv_at hl 3 rfl) ?_
          refine lv_bipush (v := 8) hx hb dX7_append_29 (by decide) ?_
          refine lv_iload hx hb dX7_append_31 (lv_at hl 0 rfl) ?_
          refine lv_imul hx hb dX7_append_33 ?_
          refine lv_topi (fun x_12 e_13 => ?_)
          refine lv_lushr hx hb dX7_append_34 rfl ?_
          refine lv_topl (fun z_14 e_15 => ?_)
          refine lv_l2i (v := z_14.toInt32) hx hb dX7_append_35 rfl ?_
          refine lv_topi (fun x_16 e_17 => ?_)
          refine lv_pc (pc2 := 36) rfl ?_
          refine lv_sipush (v := 255) hx hb dX7_append_36 (by decide) ?_
          refine lv_iand hx hb dX7_append_39 ?_
          refine lv_topi (fun x_18 e_19 => ?_)
          obtain ⟨f_20, at_21⟩ := fF_o10 hG h_6
          have b_22 : vp_in L 400 := (q_in (by omega) (by omega))
          refine ty_iast (F2 := (fF cI cL cC L gR)) hx hb hK hG hS 0 at_21 (by rw [h_6]; rfl) rfl b_22 (by rw [h_6]; exact ⟨_, rfl⟩) tFF dX7_append_40 (fun H locs hG hS at_23 o_24 => ?_)
          have at_10 := va_at.keptK at_10 o_24 h_6 k_a0 rfl
          refine lv_aload_n hx hb dX7_append_41 rfl (lv_at hl 1 rfl) ?_
          refine lv_dup hx hb dX7_append_42 rfl ?_
          refine va_get (D := D) (ci := 6) (v := .int L) (C := RX7) (T := TX7) (N := 4) hx hb hts in7 hown hK (va_one at_10) 0 rfl rfl 2 (by decide) (hts (.fieldLink RX7 18 "RiverModel$Text" "length" "I") (List.mem_of_getElem? (i := 1) rfl)) (fun _ h9 => h9) rfl dX7_append_43 ?_
          refine lv_iconst (v := 1) hx hb dX7_append_46 (by decide) ?_
          refine lv_iadd hx hb dX7_append_47 ?_
          refine lv_topi (fun x_25 e_26 => ?_)
          have i_x_25 : x_25.toInt = L.toInt + 1 := by rw [e_26]; exact (q_add (by rw [show (1 : Int32).toInt = 1 by decide]; omega) (by rw [show (1 : Int32).toInt = 1 by decide]; omega)).trans (by rw [show (1 : Int32).toInt = 1 by decide])
          refine lv_pc (pc2 := 48) rfl ?_
          refine ty_put (D := D) (ci := 6) (v := .int x_25) (ty := .int) (C := RX7) (T := TX7) (N := 4) (F2 := (fF cI cL cC x_25 gR)) hx hb hts in7 tyX7 tyX7_ok nmX7 hown hK hG hS at_10 (by rw [k_a0]; rfl) rfl 2 (by decide) (hts (.fieldLink RX7 18 "RiverModel$Text" "length" "I") (List.mem_of_getElem? (i := 1) rfl)) (fun _ h9 => h9) rfl (by decide +kernel) rfl rfl (Nat.le_of_ble_eq_true rfl) (by rw [k_a0]; exact ⟨r_5, r_7, v_9, rfl, h_6, h_8⟩) (fun hG b hb h0 => by obtain ⟨e, g1, g2⟩ := hG b h0; exact ⟨e, g1, fF_gC (fun h => hb (uq_gC b a0 h k_a0)) g2⟩) dX7_append_48 (fun H locs hG hS at_27 o_28 => ?_)
          have at_27 : va_at D vwCl (a0, .inr (6, [.ref r_5, .ref r_7, .int x_25, .int v_9])) H := at_27
          obtain ⟨x_29, e_30⟩ : ∃ y : Int32, y = x + Int32.ofInt (-1) := ⟨_, rfl⟩
          have i_x_29 : x_29.toInt = x.toInt + (-1) := by rw [e_30, show Int32.ofInt (-1) = (-1) by decide]; exact (q_add (by rw [show ((-1) : Int32).toInt = (-1) by decide]; omega) (by rw [show ((-1) : Int32).toInt = (-1) by decide]; omega)).trans (by rw [show ((-1) : Int32).toInt = (-1) by decide])
          refine lv_iinc (v := x_29) (lv' := [(4, .int x_29), (0, .ref a0), (1, .int a1), (2, .long a2)]) hx hb dX7_append_51 hl (k := 0) rfl e_30.symm (by decide) rfl (fun ls hl => ?_)
          refine lv_goto (tgt := 5) hx hb dX7_append_54 (by decide) ?_
          exact (hWW _ _ _).mp (ih x_29 x_25 H locs ls (by omega) (by omega) (by omega) hG hS (lv_sub hl [0, 1, 2, 3] rfl))
  exact loop a1.toInt.toNat x_1 0 H locs ls (by omega) (by rw [show (0 : Int32).toInt = 0 by decide]; omega) (by decide) hG hS (lv_sub hl [0, 1, 2, 3] rfl)

def uX9_write : List Cond := .code yX9_write cX9_write 4 (some .int) :: ([.methodLink RX9 99 yX9_isOutside, .static yX9_isOutside, .initialized RX9, .fieldLink RX9 10 "RiverModel" "text" "LRiverModel$Text;", .fieldLink RX9 103 "RiverModel$Text" "length" "I", .methodLink RX9 106 yX7_append, .instanceMethod yX7_append, .selects RX7 yX7_append yX7_append, .initialized RX7, .code yX9_isOutside cX9_isOutside 3 (some .boolean), .code yX7_append cX7_append 5 none, .fieldLink RX7 18 "RiverModel$Text" "length" "I", .fieldLink RX7 9 "RiverModel$Text" "bytes" "[I"] ++ wsX90 ++ wsX70)
set_option maxRecDepth 20000 in
theorem gu_X9_write_X9_isOutside_99 : GoodIn uX9_write (va_wsS RX9 99 yX9_isOutside uX9_isOutside) := goodIn_r _ [1, 2, 3, 10] (by decide +kernel) (by decide +kernel)
set_option maxRecDepth 20000 in
theorem gu_X9_write_X7_append_106 : GoodIn uX9_write (wsV RX9 106 RX7 yX7_append uX7_append) := goodIn_r _ [6, 7, 8, 9, 11, 12, 13, 32, 33, 34, 35] (by decide +kernel) (by decide +kernel)
set_option maxHeartbeats 4000000 in
set_option maxRecDepth 100000 in
theorem c_X9_write (l : Launch) (D : va_G) (t : Nat → Nat) (cI cL cC : ClassId) (a0 : Nat) (a1 : Int32) (a2 : Int64) (uq_gC : ∀ b c : Nat, t b = 2 → t c = 2 → b = c) (k_a0 : t a0 = 1) : tM l yX9_write uX9_write 1 24 D (fF cI cL cC 0 0) fT t cI cL cC [.ref a0, .int a1, .long a2] wrX (pI (fun r => (r = -1 ∧ (a1.toInt < 1 ∨ 8 < a1.toInt)) ∨ (r = a1 ∧ 1 ≤ a1.toInt ∧ a1.toInt ≤ 8))) := by
  refine tM.ofW (cc := cX9_write) (maxL := 4) (ret := (some .int)) (by decide) rfl (Nat.le_of_ble_eq_true rfl) ?_
  intro p e s m below meth c hx hb hr hml hown hts hlk H locs hG hK hE hS ls hl
  have hl : lv_has ls 4 [(0, .ref a0), (1, .int a1), (2, .long a2)] := hl
  have in9 : ∀ w ∈ wsX90, w ∈ uX9_write := fun w h => List.mem_cons_of_mem _ (List.mem_append_left _ (List.mem_append_right _ h))
  have in7 : ∀ w ∈ wsX70, w ∈ uX9_write := fun w h => List.mem_cons_of_mem _ (List.mem_append_right _ h)
  refine lv_iload_n hx hb dX9_write_0 rfl (lv_at hl 1 rfl) ?_
  refine lv_iconst (v := 1) hx hb dX9_write_1 (by decide) ?_
  refine lv_bipush (v := 8) hx hb dX9_write_2 (by decide) ?_
  refine ty_calli ((W.runS (As := [.int a1, .int 1, .int 8]) (rest := []) ⟨hx, hb, hml, hown, hts⟩ (c_isOutside l D t cI cL cC 0 0 a1 1 8 1 8 (by decide) (by decide) ) (va_cwS 3 hts gu_X9_write_X9_isOutside_99 rfl rfl rfl (by decide +kernel) ⟨Nat.le_of_ble_eq_true rfl, Nat.le_of_ble_eq_true rfl⟩) (tP_S hG hE) rfl rfl hl.1 rfl (lv_room (Nat.le_of_ble_eq_true rfl)) dX9_write_4 ⟨Nat.le_of_ble_eq_true rfl, Nat.le_of_ble_eq_true rfl⟩)) hS (fun k h => by simp [wr0] at h) (fun r_1 H locs hp_2 hG hS o_3 => ?_)
  rcases hp_2 with ⟨rfl, hc_187⟩ | ⟨rfl, hc_188, hc_189⟩
  · skip
    refine lv_if_eq (tgt := 12) hx hb dX9_write_7 (by decide) (fun q => absurd q (by decide)) (fun _ => ?_)
    refine lv_iconst (v := (-1)) hx hb dX9_write_10 (by decide) ?_
    exact ty_iret hx hb hr hlk hG.toT hS (by first | exact Or.inl ⟨rfl, by omega⟩ | exact Or.inr ⟨rfl, by omega⟩ | (exfalso; omega)) dX9_write_11
  · skip
    refine lv_pc (pc2 := 7) rfl ?_
    refine lv_if_eq (tgt := 12) hx hb dX9_write_7 (by decide) (fun _ => ?_) (fun q => absurd (by decide) q)
    refine lv_aload_n hx hb dX9_write_12 rfl (lv_at hl 0 rfl) ?_
    obtain ⟨r_4, r_6, r_8, r_10, r_12, r_14, r_16, r_18, r_20, r_22, r_24, r_26, r_28, r_30, r_32, at_34, h_5, h_7, h_9, h_11, h_13, h_15, h_17, h_19, h_21, h_23, h_25, h_27, h_29, h_31, h_33⟩ := fF_o1 hG k_a0
    refine va_get (D := D) (ci := 8) (v := .ref r_4) (C := RX9) (T := TX9) (N := 18) hx hb hts in9 hown hK (va_one at_34) 0 rfl rfl 0 (by decide) (hts (.fieldLink RX9 10 "RiverModel" "text" "LRiverModel$Text;") (List.mem_of_getElem? (i := 4) rfl)) (fun _ h9 => h9) rfl dX9_write_13 ?_
    obtain ⟨r_35, r_37, v_39, at_40, h_36, h_38⟩ := fF_o2 hG h_5
    refine va_get (D := D) (ci := 6) (v := .int 0) (C := RX7) (T := TX7) (N := 4) hx hb hts in7 hown hK (va_one at_40) 0 rfl rfl 2 (by decide) (hts (.fieldLink RX9 103 "RiverModel$Text" "length" "I") (List.mem_of_getElem? (i := 5) rfl)) (fun _ h9 => h9) rfl dX9_write_16 ?_
    refine lv_iload_n hx hb dX9_write_19 rfl (lv_at hl 1 rfl) ?_
    refine lv_iadd hx hb dX9_write_20 ?_
    refine lv_topi (fun x_41 e_42 => ?_)
    have i_x_41 : x_41.toInt = 0 + a1.toInt := by rw [e_42]; exact (q_add (by rw [show (0 : Int32).toInt = 0 by decide]; omega) (by rw [show (0 : Int32).toInt = 0 by decide]; omega)).trans (by rw [show (0 : Int32).toInt = 0 by decide])
    refine lv_sipush (v := 400) hx hb dX9_write_21 (by decide) ?_
    refine lv_icmp_le (tgt := 30) hx hb dX9_write_24 (by decide) (fun c_43 => ?_) (fun c_43 => ?_)
    · skip
      have c_43 : x_41.toInt ≤ 400 := q_le c_43
      refine lv_pc (pc2 := 30) rfl ?_
      refine lv_aload_n hx hb dX9_write_30 rfl (lv_at hl 0 rfl) ?_
      refine va_get (D := D) (ci := 8) (v := .ref r_4) (C := RX9) (T := TX9) (N := 18) hx hb hts in9 hown hK (va_one at_34) 0 rfl rfl 0 (by decide) (hts (.fieldLink RX9 10 "RiverModel" "text" "LRiverModel$Text;") (List.mem_of_getElem? (i := 4) rfl)) (fun _ h9 => h9) rfl dX9_write_31 ?_
      refine lv_iload_n hx hb dX9_write_34 rfl (lv_at hl 1 rfl) ?_
      refine lv_lload_n hx hb dX9_write_35 rfl (lv_at hl 2 rfl) ?_
      refine ty_callv ((W.runV (As := [.int a1, .long a2]) (rest := []) ⟨hx, hb, hml, hown, hts⟩ (c_X7_append l D t cI cL cC 0 r_4 a1 a2 uq_gC (by omega) (by omega) h_5) (cwV 2 hts gu_X9_write_X7_append_106 rfl rfl rfl (by decide +kernel) ⟨Nat.le_of_ble_eq_true rfl, Nat.le_of_ble_eq_true rfl⟩) (tP_V hG hE at_40 rfl) rfl rfl hl.1 rfl (lv_room (Nat.le_of_ble_eq_true rfl)) dX9_write_36 ⟨Nat.le_of_ble_eq_true rfl, Nat.le_of_ble_eq_true rfl⟩)) hS (fun _ h => h) (fun H locs hp_45 hG hS o_46 => ?_)
      refine lv_aload_n hx hb dX9_write_39 rfl (lv_at hl 0 rfl) ?_
      obtain ⟨r_47, r_49, r_51, r_53, r_55, r_57, r_59, r_61, r_63, r_65, r_67, r_69, r_71, r_73, r_75, at_77, h_48, h_50, h_52, h_54, h_56, h_58, h_60, h_62, h_64, h_66, h_68, h_70, h_72, h_74, h_76⟩ := fF_o1 hG k_a0
      refine va_get (D := D) (ci := 8) (v := .ref r_47) (C := RX9) (T := TX9) (N := 18) hx hb hts in9 hown hK (va_one at_77) 0 rfl rfl 0 (by decide) (hts (.fieldLink RX9 10 "RiverModel" "text" "LRiverModel$Text;") (List.mem_of_getElem? (i := 4) rfl)) (fun _ h9 => h9) rfl dX9_write_40 ?_
      obtain ⟨r_78, r_80, v_82, at_83, h_79, h_81⟩ := fF_o2 hG h_48
      refine va_get (D := D) (ci := 6) (v := .int a1) (C := RX7) (T := TX7) (N := 4) hx hb hts in7 hown hK (va_one at_83) 0 rfl rfl 2 (by decide) (hts (.fieldLink RX9 103 "RiverModel$Text" "length" "I") (List.mem_of_getElem? (i := 5) rfl)) (fun _ h9 => h9) rfl dX9_write_43 ?_
      refine lv_pc (pc2 := 46) rfl ?_
      exact ty_iret hx hb hr hlk hG.toT hS (by first | exact Or.inl ⟨rfl, by omega⟩ | exact Or.inr ⟨rfl, by omega⟩ | (exfalso; omega)) dX9_write_46
    · skip
      have c_43 : 400 < x_41.toInt := q_nle c_43
      refine lv_bipush (v := (-3)) hx hb dX9_write_27 (by decide) ?_
      exact ty_iret hx hb hr hlk hG.toT hS (by first | exact Or.inl ⟨rfl, by omega⟩ | exact Or.inr ⟨rfl, by omega⟩ | (exfalso; omega)) dX9_write_29
