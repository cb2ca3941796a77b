theorem dX10_faultOf_0 : decode cX10_faultOf 0 = .ok (.iconst 0, 1) := by decide +kernel
theorem dX10_faultOf_1 : decode cX10_faultOf 1 = .ok (.istore_n 1, 1) := by decide +kernel
theorem dX10_faultOf_2 : decode cX10_faultOf 2 = .ok (.iconst 0, 1) := by decide +kernel
theorem dX10_faultOf_3 : decode cX10_faultOf 3 = .ok (.istore_n 2, 1) := by decide +kernel
theorem dX10_faultOf_4 : decode cX10_faultOf 4 = .ok (.iconst 0, 1) := by decide +kernel
theorem dX10_faultOf_5 : decode cX10_faultOf 5 = .ok (.istore_n 3, 1) := by decide +kernel
theorem dX10_faultOf_6 : decode cX10_faultOf 6 = .ok (.aload_n 0, 1) := by decide +kernel
theorem dX10_faultOf_7 : decode cX10_faultOf 7 = .ok (.iconst 0, 1) := by decide +kernel
theorem dX10_faultOf_8 : decode cX10_faultOf 8 = .ok (.putfield 148, 3) := by decide +kernel
theorem dX10_faultOf_11 : decode cX10_faultOf 11 = .ok (.iload_n 1, 1) := by decide +kernel
theorem dX10_faultOf_12 : decode cX10_faultOf 12 = .ok (.aload_n 0, 1) := by decide +kernel
theorem dX10_faultOf_13 : decode cX10_faultOf 13 = .ok (.getfield 89, 3) := by decide +kernel
theorem dX10_faultOf_16 : decode cX10_faultOf 16 = .ok (.if_icmp .ge 90, 3) := by decide +kernel
theorem dX10_faultOf_19 : decode cX10_faultOf 19 = .ok (.aload_n 0, 1) := by decide +kernel
theorem dX10_faultOf_20 : decode cX10_faultOf 20 = .ok (.getfield 148, 3) := by decide +kernel
theorem dX10_faultOf_23 : decode cX10_faultOf 23 = .ok (.bipush 40, 2) := by decide +kernel
theorem dX10_faultOf_25 : decode cX10_faultOf 25 = .ok (.if_icmp .eq 13, 3) := by decide +kernel
theorem dX10_faultOf_28 : decode cX10_faultOf 28 = .ok (.aload_n 0, 1) := by decide +kernel
theorem dX10_faultOf_29 : decode cX10_faultOf 29 = .ok (.iload_n 1, 1) := by decide +kernel
theorem dX10_faultOf_30 : decode cX10_faultOf 30 = .ok (.iload_n 2, 1) := by decide +kernel
theorem dX10_faultOf_31 : decode cX10_faultOf 31 = .ok (.iload_n 3, 1) := by decide +kernel
theorem dX10_faultOf_32 : decode cX10_faultOf 32 = .ok (.invokevirtual 151, 3) := by decide +kernel
theorem dX10_faultOf_35 : decode cX10_faultOf 35 = .ok (.ifCond .ne 5, 3) := by decide +kernel
theorem dX10_faultOf_38 : decode cX10_faultOf 38 = .ok (.iload_n 1, 1) := by decide +kernel
theorem dX10_faultOf_39 : decode cX10_faultOf 39 = .ok (.ireturn, 1) := by decide +kernel
theorem dX10_faultOf_40 : decode cX10_faultOf 40 = .ok (.aload_n 0, 1) := by decide +kernel
theorem dX10_faultOf_41 : decode cX10_faultOf 41 = .ok (.iconst 1, 1) := by decide +kernel
theorem dX10_faultOf_42 : decode cX10_faultOf 42 = .ok (.aload_n 0, 1) := by decide +kernel
theorem dX10_faultOf_43 : decode cX10_faultOf 43 = .ok (.getfield 148, 3) := by decide +kernel
theorem dX10_faultOf_46 : decode cX10_faultOf 46 = .ok (.invokevirtual 155, 3) := by decide +kernel
theorem dX10_faultOf_49 : decode cX10_faultOf 49 = .ok (.aload_n 0, 1) := by decide +kernel
theorem dX10_faultOf_50 : decode cX10_faultOf 50 = .ok (.dup, 1) := by decide +kernel
theorem dX10_faultOf_51 : decode cX10_faultOf 51 = .ok (.getfield 148, 3) := by decide +kernel
theorem dX10_faultOf_54 : decode cX10_faultOf 54 = .ok (.iconst 1, 1) := by decide +kernel
theorem dX10_faultOf_55 : decode cX10_faultOf 55 = .ok (.iadd, 1) := by decide +kernel
theorem dX10_faultOf_56 : decode cX10_faultOf 56 = .ok (.putfield 148, 3) := by decide +kernel
theorem dX10_faultOf_59 : decode cX10_faultOf 59 = .ok (.iload_n 2, 1) := by decide +kernel
theorem dX10_faultOf_60 : decode cX10_faultOf 60 = .ok (.aload_n 0, 1) := by decide +kernel
theorem dX10_faultOf_61 : decode cX10_faultOf 61 = .ok (.getfield 125, 3) := by decide +kernel
theorem dX10_faultOf_64 : decode cX10_faultOf 64 = .ok (.bipush 115, 2) := by decide +kernel
theorem dX10_faultOf_66 : decode cX10_faultOf 66 = .ok (.if_icmp .ne 12, 3) := by decide +kernel
theorem dX10_faultOf_69 : decode cX10_faultOf 69 = .ok (.iconst 1, 1) := by decide +kernel
theorem dX10_faultOf_70 : decode cX10_faultOf 70 = .ok (.aload_n 0, 1) := by decide +kernel
theorem dX10_faultOf_71 : decode cX10_faultOf 71 = .ok (.getfield 135, 3) := by decide +kernel
theorem dX10_faultOf_74 : decode cX10_faultOf 74 = .ok (.ishl, 1) := by decide +kernel
theorem dX10_faultOf_75 : decode cX10_faultOf 75 = .ok (.goto 4, 3) := by decide +kernel
theorem dX10_faultOf_78 : decode cX10_faultOf 78 = .ok (.iconst 0, 1) := by decide +kernel
theorem dX10_faultOf_79 : decode cX10_faultOf 79 = .ok (.ior, 1) := by decide +kernel
theorem dX10_faultOf_80 : decode cX10_faultOf 80 = .ok (.istore_n 2, 1) := by decide +kernel
theorem dX10_faultOf_81 : decode cX10_faultOf 81 = .ok (.iload_n 3, 1) := by decide +kernel
theorem dX10_faultOf_82 : decode cX10_faultOf 82 = .ok (.aload_n 0, 1) := by decide +kernel
theorem dX10_faultOf_83 : decode cX10_faultOf 83 = .ok (.getfield 125, 3) := by decide +kernel
theorem dX10_faultOf_86 : decode cX10_faultOf 86 = .ok (.bipush 103, 2) := by decide +kernel
theorem dX10_faultOf_88 : decode cX10_faultOf 88 = .ok (.if_icmp .ne 7, 3) := by decide +kernel
theorem dX10_faultOf_91 : decode cX10_faultOf 91 = .ok (.iconst 1, 1) := by decide +kernel
theorem dX10_faultOf_92 : decode cX10_faultOf 92 = .ok (.goto 4, 3) := by decide +kernel
theorem dX10_faultOf_95 : decode cX10_faultOf 95 = .ok (.iconst 0, 1) := by decide +kernel
theorem dX10_faultOf_96 : decode cX10_faultOf 96 = .ok (.iadd, 1) := by decide +kernel
theorem dX10_faultOf_97 : decode cX10_faultOf 97 = .ok (.istore_n 3, 1) := by decide +kernel
theorem dX10_faultOf_98 : decode cX10_faultOf 98 = .ok (.aload_n 0, 1) := by decide +kernel
theorem dX10_faultOf_99 : decode cX10_faultOf 99 = .ok (.getfield 109, 3) := by decide +kernel
theorem dX10_faultOf_102 : decode cX10_faultOf 102 = .ok (.istore_n 1, 1) := by decide +kernel
theorem dX10_faultOf_103 : decode cX10_faultOf 103 = .ok (.goto (-92), 3) := by decide +kernel
theorem dX10_faultOf_106 : decode cX10_faultOf 106 = .ok (.bipush (-4), 2) := by decide +kernel
theorem dX10_faultOf_108 : decode cX10_faultOf 108 = .ok (.ireturn, 1) := by decide +kernel
theorem dX10_copies_0 : decode cX10_copies 0 = .ok (.iconst 0, 1) := by decide +kernel
theorem dX10_copies_1 : decode cX10_copies 1 = .ok (.istore_n 3, 1) := by decide +kernel
theorem dX10_copies_2 : decode cX10_copies 2 = .ok (.iload_n 3, 1) := by decide +kernel
theorem dX10_copies_3 : decode cX10_copies 3 = .ok (.bipush 40, 2) := by decide +kernel
theorem dX10_copies_5 : decode cX10_copies 5 = .ok (.if_icmp .ge 75, 3) := by decide +kernel
theorem dX10_copies_8 : decode cX10_copies 8 = .ok (.aload_n 0, 1) := by decide +kernel
theorem dX10_copies_9 : decode cX10_copies 9 = .ok (.getfield 13, 3) := by decide +kernel
theorem dX10_copies_12 : decode cX10_copies 12 = .ok (.bipush 40, 2) := by decide +kernel
theorem dX10_copies_14 : decode cX10_copies 14 = .ok (.iload_n 1, 1) := by decide +kernel
theorem dX10_copies_15 : decode cX10_copies 15 = .ok (.imul, 1) := by decide +kernel
theorem dX10_copies_16 : decode cX10_copies 16 = .ok (.iload_n 3, 1) := by decide +kernel
theorem dX10_copies_17 : decode cX10_copies 17 = .ok (.iadd, 1) := by decide +kernel
theorem dX10_copies_18 : decode cX10_copies 18 = .ok (.aload_n 0, 1) := by decide +kernel
theorem dX10_copies_19 : decode cX10_copies 19 = .ok (.getfield 13, 3) := by decide +kernel
theorem dX10_copies_22 : decode cX10_copies 22 = .ok (.bipush 40, 2) := by decide +kernel
theorem dX10_copies_24 : decode cX10_copies 24 = .ok (.iload_n 2, 1) := by decide +kernel
theorem dX10_copies_25 : decode cX10_copies 25 = .ok (.imul, 1) := by decide +kernel
theorem dX10_copies_26 : decode cX10_copies 26 = .ok (.iload_n 3, 1) := by decide +kernel
theorem dX10_copies_27 : decode cX10_copies 27 = .ok (.iadd, 1) := by decide +kernel
theorem dX10_copies_28 : decode cX10_copies 28 = .ok (.iaload, 1) := by decide +kernel
theorem dX10_copies_29 : decode cX10_copies 29 = .ok (.iastore, 1) := by decide +kernel
theorem dX10_copies_30 : decode cX10_copies 30 = .ok (.aload_n 0, 1) := by decide +kernel
theorem dX10_copies_31 : decode cX10_copies 31 = .ok (.getfield 16, 3) := by decide +kernel
theorem dX10_copies_34 : decode cX10_copies 34 = .ok (.bipush 40, 2) := by decide +kernel
theorem dX10_copies_36 : decode cX10_copies 36 = .ok (.iload_n 1, 1) := by decide +kernel
theorem dX10_copies_37 : decode cX10_copies 37 = .ok (.imul, 1) := by decide +kernel
theorem dX10_copies_38 : decode cX10_copies 38 = .ok (.iload_n 3, 1) := by decide +kernel
theorem dX10_copies_39 : decode cX10_copies 39 = .ok (.iadd, 1) := by decide +kernel
theorem dX10_copies_40 : decode cX10_copies 40 = .ok (.aload_n 0, 1) := by decide +kernel
theorem dX10_copies_41 : decode cX10_copies 41 = .ok (.getfield 16, 3) := by decide +kernel
theorem dX10_copies_44 : decode cX10_copies 44 = .ok (.bipush 40, 2) := by decide +kernel
theorem dX10_copies_46 : decode cX10_copies 46 = .ok (.iload_n 2, 1) := by decide +kernel
theorem dX10_copies_47 : decode cX10_copies 47 = .ok (.imul, 1) := by decide +kernel
theorem dX10_copies_48 : decode cX10_copies 48 = .ok (.iload_n 3, 1) := by decide +kernel
theorem dX10_copies_49 : decode cX10_copies 49 = .ok (.iadd, 1) := by decide +kernel
theorem dX10_copies_50 : decode cX10_copies 50 = .ok (.iaload, 1) := by decide +kernel
theorem dX10_copies_51 : decode cX10_copies 51 = .ok (.iastore, 1) := by decide +kernel
theorem dX10_copies_52 : decode cX10_copies 52 = .ok (.aload_n 0, 1) := by decide +kernel
theorem dX10_copies_53 : decode cX10_copies 53 = .ok (.getfield 19, 3) := by decide +kernel
theorem dX10_copies_56 : decode cX10_copies 56 = .ok (.bipush 40, 2) := by decide +kernel
theorem dX10_copies_58 : decode cX10_copies 58 = .ok (.iload_n 1, 1) := by decide +kernel
theorem dX10_copies_59 : decode cX10_copies 59 = .ok (.imul, 1) := by decide +kernel
theorem dX10_copies_60 : decode cX10_copies 60 = .ok (.iload_n 3, 1) := by decide +kernel
theorem dX10_copies_61 : decode cX10_copies 61 = .ok (.iadd, 1) := by decide +kernel
theorem dX10_copies_62 : decode cX10_copies 62 = .ok (.aload_n 0, 1) := by decide +kernel
theorem dX10_copies_63 : decode cX10_copies 63 = .ok (.getfield 19, 3) := by decide +kernel
theorem dX10_copies_66 : decode cX10_copies 66 = .ok (.bipush 40, 2) := by decide +kernel
theorem dX10_copies_68 : decode cX10_copies 68 = .ok (.iload_n 2, 1) := by decide +kernel
theorem dX10_copies_69 : decode cX10_copies 69 = .ok (.imul, 1) := by decide +kernel
theorem dX10_copies_70 : decode cX10_copies 70 = .ok (.iload_n 3, 1) := by decide +kernel
theorem dX10_copies_71 : decode cX10_copies 71 = .ok (.iadd, 1) := by decide +kernel
theorem dX10_copies_72 : decode cX10_copies 72 = .ok (.iaload, 1) := by decide +kernel
theorem dX10_copies_73 : decode cX10_copies 73 = .ok (.iastore, 1) := by decide +kernel
theorem dX10_copies_74 : decode cX10_copies 74 = .ok (.iinc 3 1, 3) := by decide +kernel
theorem dX10_copies_77 : decode cX10_copies 77 = .ok (.goto (-75), 3) := by decide +kernel
theorem dX10_copies_80 : decode cX10_copies 80 = .ok (.iconst 0, 1) := by decide +kernel
theorem dX10_copies_81 : decode cX10_copies 81 = .ok (.istore_n 3, 1) := by decide +kernel
theorem dX10_copies_82 : decode cX10_copies 82 = .ok (.iload_n 3, 1) := by decide +kernel
theorem dX10_copies_83 : decode cX10_copies 83 = .ok (.bipush 120, 2) := by decide +kernel
theorem dX10_copies_85 : decode cX10_copies 85 = .ok (.if_icmp .ge 31, 3) := by decide +kernel
theorem dX10_copies_88 : decode cX10_copies 88 = .ok (.aload_n 0, 1) := by decide +kernel
theorem dX10_copies_89 : decode cX10_copies 89 = .ok (.getfield 22, 3) := by decide +kernel
theorem dX10_copies_92 : decode cX10_copies 92 = .ok (.bipush 120, 2) := by decide +kernel
theorem dX10_copies_94 : decode cX10_copies 94 = .ok (.iload_n 1, 1) := by decide +kernel
theorem dX10_copies_95 : decode cX10_copies 95 = .ok (.imul, 1) := by decide +kernel
theorem dX10_copies_96 : decode cX10_copies 96 = .ok (.iload_n 3, 1) := by decide +kernel
theorem dX10_copies_97 : decode cX10_copies 97 = .ok (.iadd, 1) := by decide +kernel
theorem dX10_copies_98 : decode cX10_copies 98 = .ok (.aload_n 0, 1) := by decide +kernel
theorem dX10_copies_99 : decode cX10_copies 99 = .ok (.getfield 22, 3) := by decide +kernel
theorem dX10_copies_102 : decode cX10_copies 102 = .ok (.bipush 120, 2) := by decide +kernel
theorem dX10_copies_104 : decode cX10_copies 104 = .ok (.iload_n 2, 1) := by decide +kernel
theorem dX10_copies_105 : decode cX10_copies 105 = .ok (.imul, 1) := by decide +kernel
theorem dX10_copies_106 : decode cX10_copies 106 = .ok (.iload_n 3, 1) := by decide +kernel
theorem dX10_copies_107 : decode cX10_copies 107 = .ok (.iadd, 1) := by decide +kernel
theorem dX10_copies_108 : decode cX10_copies 108 = .ok (.iaload, 1) := by decide +kernel
theorem dX10_copies_109 : decode cX10_copies 109 = .ok (.iastore, 1) := by decide +kernel
theorem dX10_copies_110 : decode cX10_copies 110 = .ok (.iinc 3 1, 3) := by decide +kernel
theorem dX10_copies_113 : decode cX10_copies 113 = .ok (.goto (-31), 3) := by decide +kernel
theorem dX10_copies_116 : decode cX10_copies 116 = .ok (.return_, 1) := by decide +kernel
theorem dX10_storeAt_0 : decode cX10_storeAt 0 = .ok (.iconst (-1), 1) := by decide +kernel
theorem dX10_storeAt_1 : decode cX10_storeAt 1 = .ok (.istore_n 3, 1) := by decide +kernel
theorem dX10_storeAt_2 : decode cX10_storeAt 2 = .ok (.iconst 0, 1) := by decide +kernel
theorem dX10_storeAt_3 : decode cX10_storeAt 3 = .ok (.istore 4, 2) := by decide +kernel
theorem dX10_storeAt_5 : decode cX10_storeAt 5 = .ok (.iload 4, 2) := by decide +kernel
theorem dX10_storeAt_7 : decode cX10_storeAt 7 = .ok (.aload_n 0, 1) := by decide +kernel
theorem dX10_storeAt_8 : decode cX10_storeAt 8 = .ok (.getfield 163, 3) := by decide +kernel
theorem dX10_storeAt_11 : decode cX10_storeAt 11 = .ok (.if_icmp .ge 49, 3) := by decide +kernel
theorem dX10_storeAt_14 : decode cX10_storeAt 14 = .ok (.aload_n 0, 1) := by decide +kernel
theorem dX10_storeAt_15 : decode cX10_storeAt 15 = .ok (.getfield 13, 3) := by decide +kernel
theorem dX10_storeAt_18 : decode cX10_storeAt 18 = .ok (.bipush 40, 2) := by decide +kernel
theorem dX10_storeAt_20 : decode cX10_storeAt 20 = .ok (.iload_n 1, 1) := by decide +kernel
theorem dX10_storeAt_21 : decode cX10_storeAt 21 = .ok (.imul, 1) := by decide +kernel
theorem dX10_storeAt_22 : decode cX10_storeAt 22 = .ok (.iload 4, 2) := by decide +kernel
theorem dX10_storeAt_24 : decode cX10_storeAt 24 = .ok (.iadd, 1) := by decide +kernel
theorem dX10_storeAt_25 : decode cX10_storeAt 25 = .ok (.iaload, 1) := by decide +kernel
theorem dX10_storeAt_26 : decode cX10_storeAt 26 = .ok (.bipush 115, 2) := by decide +kernel
theorem dX10_storeAt_28 : decode cX10_storeAt 28 = .ok (.if_icmp .ne 24, 3) := by decide +kernel
theorem dX10_storeAt_31 : decode cX10_storeAt 31 = .ok (.aload_n 0, 1) := by decide +kernel
theorem dX10_storeAt_32 : decode cX10_storeAt 32 = .ok (.getfield 16, 3) := by decide +kernel
theorem dX10_storeAt_35 : decode cX10_storeAt 35 = .ok (.bipush 40, 2) := by decide +kernel
theorem dX10_storeAt_37 : decode cX10_storeAt 37 = .ok (.iload_n 1, 1) := by decide +kernel
theorem dX10_storeAt_38 : decode cX10_storeAt 38 = .ok (.imul, 1) := by decide +kernel
theorem dX10_storeAt_39 : decode cX10_storeAt 39 = .ok (.iload 4, 2) := by decide +kernel
theorem dX10_storeAt_41 : decode cX10_storeAt 41 = .ok (.iadd, 1) := by decide +kernel
theorem dX10_storeAt_42 : decode cX10_storeAt 42 = .ok (.iaload, 1) := by decide +kernel
theorem dX10_storeAt_43 : decode cX10_storeAt 43 = .ok (.iload_n 2, 1) := by decide +kernel
theorem dX10_storeAt_44 : decode cX10_storeAt 44 = .ok (.if_icmp .ne 8, 3) := by decide +kernel
theorem dX10_storeAt_47 : decode cX10_storeAt 47 = .ok (.iload 4, 2) := by decide +kernel
theorem dX10_storeAt_49 : decode cX10_storeAt 49 = .ok (.goto 4, 3) := by decide +kernel
theorem dX10_storeAt_52 : decode cX10_storeAt 52 = .ok (.iload_n 3, 1) := by decide +kernel
theorem dX10_storeAt_53 : decode cX10_storeAt 53 = .ok (.istore_n 3, 1) := by decide +kernel
theorem dX10_storeAt_54 : decode cX10_storeAt 54 = .ok (.iinc 4 1, 3) := by decide +kernel
theorem dX10_storeAt_57 : decode cX10_storeAt 57 = .ok (.goto (-52), 3) := by decide +kernel
theorem dX10_storeAt_60 : decode cX10_storeAt 60 = .ok (.iload_n 3, 1) := by decide +kernel
theorem dX10_storeAt_61 : decode cX10_storeAt 61 = .ok (.ireturn, 1) := by decide +kernel
theorem dX10_isStore_0 : decode cX10_isStore 0 = .ok (.aload_n 0, 1) := by decide +kernel
theorem dX10_isStore_1 : decode cX10_isStore 1 = .ok (.iconst 0, 1) := by decide +kernel
theorem dX10_isStore_2 : decode cX10_isStore 2 = .ok (.iload_n 1, 1) := by decide +kernel
theorem dX10_isStore_3 : decode cX10_isStore 3 = .ok (.invokevirtual 166, 3) := by decide +kernel
theorem dX10_isStore_6 : decode cX10_isStore 6 = .ok (.ifCond .lt 7, 3) := by decide +kernel
theorem dX10_isStore_9 : decode cX10_isStore 9 = .ok (.iconst 1, 1) := by decide +kernel
theorem dX10_isStore_10 : decode cX10_isStore 10 = .ok (.goto 4, 3) := by decide +kernel
theorem dX10_isStore_13 : decode cX10_isStore 13 = .ok (.iconst 0, 1) := by decide +kernel
theorem dX10_isStore_14 : decode cX10_isStore 14 = .ok (.ireturn, 1) := by decide +kernel
theorem dX10_startOf_0 : decode cX10_startOf 0 = .ok (.aload_n 0, 1) := by decide +kernel
theorem dX10_startOf_1 : decode cX10_startOf 1 = .ok (.iload_n 1, 1) := by decide +kernel
theorem dX10_startOf_2 : decode cX10_startOf 2 = .ok (.iload_n 2, 1) := by decide +kernel
theorem dX10_startOf_3 : decode cX10_startOf 3 = .ok (.invokevirtual 166, 3) := by decide +kernel
theorem dX10_startOf_6 : decode cX10_startOf 6 = .ok (.istore_n 3, 1) := by decide +kernel
theorem dX10_startOf_7 : decode cX10_startOf 7 = .ok (.iload_n 3, 1) := by decide +kernel
theorem dX10_startOf_8 : decode cX10_startOf 8 = .ok (.ifCond .ge 7, 3) := by decide +kernel
theorem dX10_startOf_11 : decode cX10_startOf 11 = .ok (.iconst 0, 1) := by decide +kernel
theorem dX10_startOf_12 : decode cX10_startOf 12 = .ok (.goto 18, 3) := by decide +kernel
theorem dX10_startOf_15 : decode cX10_startOf 15 = .ok (.aload_n 0, 1) := by decide +kernel
theorem dX10_startOf_16 : decode cX10_startOf 16 = .ok (.getfield 22, 3) := by decide +kernel
theorem dX10_startOf_19 : decode cX10_startOf 19 = .ok (.bipush 120, 2) := by decide +kernel
theorem dX10_startOf_21 : decode cX10_startOf 21 = .ok (.iload_n 1, 1) := by decide +kernel
theorem dX10_startOf_22 : decode cX10_startOf 22 = .ok (.imul, 1) := by decide +kernel
theorem dX10_startOf_23 : decode cX10_startOf 23 = .ok (.iconst 3, 1) := by decide +kernel
theorem dX10_startOf_24 : decode cX10_startOf 24 = .ok (.iload_n 3, 1) := by decide +kernel
theorem dX10_startOf_25 : decode cX10_startOf 25 = .ok (.imul, 1) := by decide +kernel
theorem dX10_startOf_26 : decode cX10_startOf 26 = .ok (.iadd, 1) := by decide +kernel
theorem dX10_startOf_27 : decode cX10_startOf 27 = .ok (.iconst 1, 1) := by decide +kernel
theorem dX10_startOf_28 : decode cX10_startOf 28 = .ok (.iadd, 1) := by decide +kernel
theorem dX10_startOf_29 : decode cX10_startOf 29 = .ok (.iaload, 1) := by decide +kernel
theorem dX10_startOf_30 : decode cX10_startOf 30 = .ok (.ireturn, 1) := by decide +kernel
theorem dX10_most_0 : decode cX10_most 0 = .ok (.lload_n 2, 1) := by decide +kernel
theorem dX10_most_1 : decode cX10_most 1 = .ok (.aload_n 0, 1) := by decide +kernel
theorem dX10_most_2 : decode cX10_most 2 = .ok (.getfield 28, 3) := by decide +kernel
theorem dX10_most_5 : decode cX10_most 5 = .ok (.iload_n 1, 1) := by decide +kernel
theorem dX10_most_6 : decode cX10_most 6 = .ok (.laload, 1) := by decide +kernel
theorem dX10_most_7 : decode cX10_most 7 = .ok (.lcmp, 1) := by decide +kernel
theorem dX10_most_8 : decode cX10_most 8 = .ok (.ifCond .ge 7, 3) := by decide +kernel
theorem dX10_most_11 : decode cX10_most 11 = .ok (.lload_n 2, 1) := by decide +kernel
theorem dX10_most_12 : decode cX10_most 12 = .ok (.goto 9, 3) := by decide +kernel
theorem dX10_most_15 : decode cX10_most 15 = .ok (.aload_n 0, 1) := by decide +kernel
theorem dX10_most_16 : decode cX10_most 16 = .ok (.getfield 28, 3) := by decide +kernel
theorem dX10_most_19 : decode cX10_most 19 = .ok (.iload_n 1, 1) := by decide +kernel
theorem dX10_most_20 : decode cX10_most 20 = .ok (.laload, 1) := by decide +kernel
theorem dX10_most_21 : decode cX10_most 21 = .ok (.lreturn, 1) := by decide +kernel
theorem dX10_moves_0 : decode cX10_moves 0 = .ok (.aload_n 0, 1) := by decide +kernel
theorem dX10_moves_1 : decode cX10_moves 1 = .ok (.getfield 16, 3) := by decide +kernel
theorem dX10_moves_4 : decode cX10_moves 4 = .ok (.iload_n 1, 1) := by decide +kernel
theorem dX10_moves_5 : decode cX10_moves 5 = .ok (.iaload, 1) := by decide +kernel
theorem dX10_moves_6 : decode cX10_moves 6 = .ok (.istore 5, 2) := by decide +kernel
theorem dX10_moves_8 : decode cX10_moves 8 = .ok (.aload_n 0, 1) := by decide +kernel
theorem dX10_moves_9 : decode cX10_moves 9 = .ok (.getfield 22, 3) := by decide +kernel
theorem dX10_moves_12 : decode cX10_moves 12 = .ok (.iconst 3, 1) := by decide +kernel
theorem dX10_moves_13 : decode cX10_moves 13 = .ok (.iload_n 1, 1) := by decide +kernel
theorem dX10_moves_14 : decode cX10_moves 14 = .ok (.imul, 1) := by decide +kernel
theorem dX10_moves_15 : decode cX10_moves 15 = .ok (.iaload, 1) := by decide +kernel
theorem dX10_moves_16 : decode cX10_moves 16 = .ok (.i2l, 1) := by decide +kernel
theorem dX10_moves_17 : decode cX10_moves 17 = .ok (.lstore 6, 2) := by decide +kernel
theorem dX10_moves_19 : decode cX10_moves 19 = .ok (.aload_n 0, 1) := by decide +kernel
theorem dX10_moves_20 : decode cX10_moves 20 = .ok (.getfield 13, 3) := by decide +kernel
theorem dX10_moves_23 : decode cX10_moves 23 = .ok (.iload_n 1, 1) := by decide +kernel
theorem dX10_moves_24 : decode cX10_moves 24 = .ok (.iaload, 1) := by decide +kernel
theorem dX10_moves_25 : decode cX10_moves 25 = .ok (.tableswitch 312 101 122 #[278, 312, 220, 312, 312, 312, 312, 103, 198, 259, 164, 312, 312, 240, 312, 304, 312, 312, 312, 312, 312, 304], 103) := by decide +kernel
theorem dX10_moves_128 : decode cX10_moves 128 = .ok (.aload_n 0, 1) := by decide +kernel
theorem dX10_moves_129 : decode cX10_moves 129 = .ok (.getfield 28, 3) := by decide +kernel
theorem dX10_moves_132 : decode cX10_moves 132 = .ok (.iload 5, 2) := by decide +kernel
theorem dX10_moves_134 : decode cX10_moves 134 = .ok (.laload, 1) := by decide +kernel
theorem dX10_moves_135 : decode cX10_moves 135 = .ok (.aload_n 0, 1) := by decide +kernel
theorem dX10_moves_136 : decode cX10_moves 136 = .ok (.getfield 22, 3) := by decide +kernel
theorem dX10_moves_139 : decode cX10_moves 139 = .ok (.iconst 3, 1) := by decide +kernel
theorem dX10_moves_140 : decode cX10_moves 140 = .ok (.iload_n 1, 1) := by decide +kernel
theorem dX10_moves_141 : decode cX10_moves 141 = .ok (.imul, 1) := by decide +kernel
theorem dX10_moves_142 : decode cX10_moves 142 = .ok (.iconst 2, 1) := by decide +kernel
theorem dX10_moves_143 : decode cX10_moves 143 = .ok (.iadd, 1) := by decide +kernel
theorem dX10_moves_144 : decode cX10_moves 144 = .ok (.iaload, 1) := by decide +kernel
theorem dX10_moves_145 : decode cX10_moves 145 = .ok (.i2l, 1) := by decide +kernel
theorem dX10_moves_146 : decode cX10_moves 146 = .ok (.lcmp, 1) := by decide +kernel
theorem dX10_moves_147 : decode cX10_moves 147 = .ok (.ifCond .le 40, 3) := by decide +kernel
theorem dX10_moves_150 : decode cX10_moves 150 = .ok (.aload_n 0, 1) := by decide +kernel
theorem dX10_moves_151 : decode cX10_moves 151 = .ok (.getfield 28, 3) := by decide +kernel
theorem dX10_moves_154 : decode cX10_moves 154 = .ok (.iload 5, 2) := by decide +kernel
theorem dX10_moves_156 : decode cX10_moves 156 = .ok (.laload, 1) := by decide +kernel
theorem dX10_moves_157 : decode cX10_moves 157 = .ok (.aload_n 0, 1) := by decide +kernel
theorem dX10_moves_158 : decode cX10_moves 158 = .ok (.getfield 22, 3) := by decide +kernel
theorem dX10_moves_161 : decode cX10_moves 161 = .ok (.iconst 3, 1) := by decide +kernel
theorem dX10_moves_162 : decode cX10_moves 162 = .ok (.iload_n 1, 1) := by decide +kernel
theorem dX10_moves_163 : decode cX10_moves 163 = .ok (.imul, 1) := by decide +kernel
theorem dX10_moves_164 : decode cX10_moves 164 = .ok (.iconst 2, 1) := by decide +kernel
theorem dX10_moves_165 : decode cX10_moves 165 = .ok (.iadd, 1) := by decide +kernel
theorem dX10_moves_166 : decode cX10_moves 166 = .ok (.iaload, 1) := by decide +kernel
theorem dX10_moves_167 : decode cX10_moves 167 = .ok (.i2l, 1) := by decide +kernel
theorem dX10_moves_168 : decode cX10_moves 168 = .ok (.lsub, 1) := by decide +kernel
theorem dX10_moves_169 : decode cX10_moves 169 = .ok (.lload 6, 2) := by decide +kernel
theorem dX10_moves_171 : decode cX10_moves 171 = .ok (.lmul, 1) := by decide +kernel
theorem dX10_moves_172 : decode cX10_moves 172 = .ok (.aload_n 0, 1) := by decide +kernel
theorem dX10_moves_173 : decode cX10_moves 173 = .ok (.getfield 22, 3) := by decide +kernel
theorem dX10_moves_176 : decode cX10_moves 176 = .ok (.iconst 3, 1) := by decide +kernel
theorem dX10_moves_177 : decode cX10_moves 177 = .ok (.iload_n 1, 1) := by decide +kernel
theorem dX10_moves_178 : decode cX10_moves 178 = .ok (.imul, 1) := by decide +kernel
theorem dX10_moves_179 : decode cX10_moves 179 = .ok (.iconst 1, 1) := by decide +kernel
theorem dX10_moves_180 : decode cX10_moves 180 = .ok (.iadd, 1) := by decide +kernel
theorem dX10_moves_181 : decode cX10_moves 181 = .ok (.iaload, 1) := by decide +kernel
theorem dX10_moves_182 : decode cX10_moves 182 = .ok (.i2l, 1) := by decide +kernel
theorem dX10_moves_183 : decode cX10_moves 183 = .ok (.ldiv, 1) := by decide +kernel
theorem dX10_moves_184 : decode cX10_moves 184 = .ok (.goto 4, 3) := by decide +kernel
theorem dX10_moves_187 : decode cX10_moves 187 = .ok (.lconst 0, 1) := by decide +kernel
theorem dX10_moves_188 : decode cX10_moves 188 = .ok (.lreturn, 1) := by decide +kernel
theorem dX10_moves_189 : decode cX10_moves 189 = .ok (.aload_n 0, 1) := by decide +kernel
theorem dX10_moves_190 : decode cX10_moves 190 = .ok (.getfield 28, 3) := by decide +kernel
theorem dX10_moves_193 : decode cX10_moves 193 = .ok (.iload 5, 2) := by decide +kernel
theorem dX10_moves_195 : decode cX10_moves 195 = .ok (.laload, 1) := by decide +kernel
theorem dX10_moves_196 : decode cX10_moves 196 = .ok (.aload_n 0, 1) := by decide +kernel
theorem dX10_moves_197 : decode cX10_moves 197 = .ok (.iload_n 1, 1) := by decide +kernel
theorem dX10_moves_198 : decode cX10_moves 198 = .ok (.invokevirtual 211, 3) := by decide +kernel
theorem dX10_moves_201 : decode cX10_moves 201 = .ok (.lcmp, 1) := by decide +kernel
theorem dX10_moves_202 : decode cX10_moves 202 = .ok (.ifCond .le 19, 3) := by decide +kernel
theorem dX10_moves_205 : decode cX10_moves 205 = .ok (.aload_n 0, 1) := by decide +kernel
theorem dX10_moves_206 : decode cX10_moves 206 = .ok (.getfield 28, 3) := by decide +kernel
theorem dX10_moves_209 : decode cX10_moves 209 = .ok (.iload 5, 2) := by decide +kernel
theorem dX10_moves_211 : decode cX10_moves 211 = .ok (.laload, 1) := by decide +kernel
theorem dX10_moves_212 : decode cX10_moves 212 = .ok (.aload_n 0, 1) := by decide +kernel
theorem dX10_moves_213 : decode cX10_moves 213 = .ok (.iload_n 1, 1) := by decide +kernel
theorem dX10_moves_214 : decode cX10_moves 214 = .ok (.invokevirtual 211, 3) := by decide +kernel
theorem dX10_moves_217 : decode cX10_moves 217 = .ok (.lsub, 1) := by decide +kernel
theorem dX10_moves_218 : decode cX10_moves 218 = .ok (.goto 4, 3) := by decide +kernel
theorem dX10_moves_221 : decode cX10_moves 221 = .ok (.lconst 0, 1) := by decide +kernel
theorem dX10_moves_222 : decode cX10_moves 222 = .ok (.lreturn, 1) := by decide +kernel
theorem dX10_moves_223 : decode cX10_moves 223 = .ok (.iload 4, 2) := by decide +kernel
theorem dX10_moves_225 : decode cX10_moves 225 = .ok (.ifCond .le 18, 3) := by decide +kernel
theorem dX10_moves_228 : decode cX10_moves 228 = .ok (.aload_n 0, 1) := by decide +kernel
theorem dX10_moves_229 : decode cX10_moves 229 = .ok (.iload 5, 2) := by decide +kernel
theorem dX10_moves_231 : decode cX10_moves 231 = .ok (.iload 4, 2) := by decide +kernel
theorem dX10_moves_233 : decode cX10_moves 233 = .ok (.i2l, 1) := by decide +kernel
theorem dX10_moves_234 : decode cX10_moves 234 = .ok (.lload 6, 2) := by decide +kernel
theorem dX10_moves_236 : decode cX10_moves 236 = .ok (.lmul, 1) := by decide +kernel
theorem dX10_moves_237 : decode cX10_moves 237 = .ok (.invokevirtual 215, 3) := by decide +kernel
theorem dX10_moves_240 : decode cX10_moves 240 = .ok (.goto 4, 3) := by decide +kernel
theorem dX10_moves_243 : decode cX10_moves 243 = .ok (.lconst 0, 1) := by decide +kernel
theorem dX10_moves_244 : decode cX10_moves 244 = .ok (.lreturn, 1) := by decide +kernel
theorem dX10_moves_245 : decode cX10_moves 245 = .ok (.aload_n 0, 1) := by decide +kernel
theorem dX10_moves_246 : decode cX10_moves 246 = .ok (.iload 5, 2) := by decide +kernel
theorem dX10_moves_248 : decode cX10_moves 248 = .ok (.aload_n 0, 1) := by decide +kernel
theorem dX10_moves_249 : decode cX10_moves 249 = .ok (.getfield 28, 3) := by decide +kernel
theorem dX10_moves_252 : decode cX10_moves 252 = .ok (.sipush 224, 3) := by decide +kernel
theorem dX10_moves_255 : decode cX10_moves 255 = .ok (.iload_n 2, 1) := by decide +kernel
theorem dX10_moves_256 : decode cX10_moves 256 = .ok (.iadd, 1) := by decide +kernel
theorem dX10_moves_257 : decode cX10_moves 257 = .ok (.laload, 1) := by decide +kernel
theorem dX10_moves_258 : decode cX10_moves 258 = .ok (.lload 6, 2) := by decide +kernel
theorem dX10_moves_260 : decode cX10_moves 260 = .ok (.lmul, 1) := by decide +kernel
theorem dX10_moves_261 : decode cX10_moves 261 = .ok (.invokevirtual 215, 3) := by decide +kernel
theorem dX10_moves_264 : decode cX10_moves 264 = .ok (.lreturn, 1) := by decide +kernel
theorem dX10_moves_265 : decode cX10_moves 265 = .ok (.iload 4, 2) := by decide +kernel
theorem dX10_moves_267 : decode cX10_moves 267 = .ok (.ifCond .le 15, 3) := by decide +kernel
theorem dX10_moves_270 : decode cX10_moves 270 = .ok (.iload_n 3, 1) := by decide +kernel
theorem dX10_moves_271 : decode cX10_moves 271 = .ok (.i2l, 1) := by decide +kernel
theorem dX10_moves_272 : decode cX10_moves 272 = .ok (.lload 6, 2) := by decide +kernel
theorem dX10_moves_274 : decode cX10_moves 274 = .ok (.lmul, 1) := by decide +kernel
theorem dX10_moves_275 : decode cX10_moves 275 = .ok (.ldc2_w 107, 3) := by decide +kernel
theorem dX10_moves_278 : decode cX10_moves 278 = .ok (.ldiv, 1) := by decide +kernel
theorem dX10_moves_279 : decode cX10_moves 279 = .ok (.goto 4, 3) := by decide +kernel
theorem dX10_moves_282 : decode cX10_moves 282 = .ok (.lconst 0, 1) := by decide +kernel
theorem dX10_moves_283 : decode cX10_moves 283 = .ok (.lreturn, 1) := by decide +kernel
theorem dX10_moves_284 : decode cX10_moves 284 = .ok (.iload 4, 2) := by decide +kernel
theorem dX10_moves_286 : decode cX10_moves 286 = .ok (.ifCond .le 7, 3) := by decide +kernel
theorem dX10_moves_289 : decode cX10_moves 289 = .ok (.lconst 0, 1) := by decide +kernel
theorem dX10_moves_290 : decode cX10_moves 290 = .ok (.goto 12, 3) := by decide +kernel
theorem dX10_moves_293 : decode cX10_moves 293 = .ok (.iload_n 3, 1) := by decide +kernel
theorem dX10_moves_294 : decode cX10_moves 294 = .ok (.i2l, 1) := by decide +kernel
theorem dX10_moves_295 : decode cX10_moves 295 = .ok (.lload 6, 2) := by decide +kernel
theorem dX10_moves_297 : decode cX10_moves 297 = .ok (.lmul, 1) := by decide +kernel
theorem dX10_moves_298 : decode cX10_moves 298 = .ok (.ldc2_w 107, 3) := by decide +kernel
theorem dX10_moves_301 : decode cX10_moves 301 = .ok (.ldiv, 1) := by decide +kernel
theorem dX10_moves_302 : decode cX10_moves 302 = .ok (.lreturn, 1) := by decide +kernel
theorem dX10_moves_303 : decode cX10_moves 303 = .ok (.iload 4, 2) := by decide +kernel
theorem dX10_moves_305 : decode cX10_moves 305 = .ok (.ifCond .le 22, 3) := by decide +kernel
theorem dX10_moves_308 : decode cX10_moves 308 = .ok (.aload_n 0, 1) := by decide +kernel
theorem dX10_moves_309 : decode cX10_moves 309 = .ok (.iload 5, 2) := by decide +kernel
theorem dX10_moves_311 : decode cX10_moves 311 = .ok (.iload 4, 2) := by decide +kernel
theorem dX10_moves_313 : decode cX10_moves 313 = .ok (.i2l, 1) := by decide +kernel
theorem dX10_moves_314 : decode cX10_moves 314 = .ok (.lload 6, 2) := by decide +kernel
theorem dX10_moves_316 : decode cX10_moves 316 = .ok (.lmul, 1) := by decide +kernel
theorem dX10_moves_317 : decode cX10_moves 317 = .ok (.ldc2_w 219, 3) := by decide +kernel
theorem dX10_moves_320 : decode cX10_moves 320 = .ok (.ldiv, 1) := by decide +kernel
theorem dX10_moves_321 : decode cX10_moves 321 = .ok (.invokevirtual 215, 3) := by decide +kernel
theorem dX10_moves_324 : decode cX10_moves 324 = .ok (.goto 4, 3) := by decide +kernel
theorem dX10_moves_327 : decode cX10_moves 327 = .ok (.lconst 0, 1) := by decide +kernel
theorem dX10_moves_328 : decode cX10_moves 328 = .ok (.lreturn, 1) := by decide +kernel
theorem dX10_moves_329 : decode cX10_moves 329 = .ok (.aload_n 0, 1) := by decide +kernel
theorem dX10_moves_330 : decode cX10_moves 330 = .ok (.getfield 28, 3) := by decide +kernel
theorem dX10_moves_333 : decode cX10_moves 333 = .ok (.iload 5, 2) := by decide +kernel
theorem dX10_moves_335 : decode cX10_moves 335 = .ok (.laload, 1) := by decide +kernel
theorem dX10_moves_336 : decode cX10_moves 336 = .ok (.lreturn, 1) := by decide +kernel
theorem dX10_moves_337 : decode cX10_moves 337 = .ok (.lconst 0, 1) := by decide +kernel
theorem dX10_moves_338 : decode cX10_moves 338 = .ok (.lreturn, 1) := by decide +kernel
theorem dX10_capacity_0 : decode cX10_capacity 0 = .ok (.iload_n 1, 1) := by decide +kernel
theorem dX10_capacity_1 : decode cX10_capacity 1 = .ok (.bipush 40, 2) := by decide +kernel
theorem dX10_capacity_3 : decode cX10_capacity 3 = .ok (.idiv, 1) := by decide +kernel
theorem dX10_capacity_4 : decode cX10_capacity 4 = .ok (.istore_n 2, 1) := by decide +kernel
theorem dX10_capacity_5 : decode cX10_capacity 5 = .ok (.aload_n 0, 1) := by decide +kernel
theorem dX10_capacity_6 : decode cX10_capacity 6 = .ok (.getfield 22, 3) := by decide +kernel
theorem dX10_capacity_9 : decode cX10_capacity 9 = .ok (.bipush 120, 2) := by decide +kernel
theorem dX10_capacity_11 : decode cX10_capacity 11 = .ok (.iload_n 2, 1) := by decide +kernel
theorem dX10_capacity_12 : decode cX10_capacity 12 = .ok (.imul, 1) := by decide +kernel
theorem dX10_capacity_13 : decode cX10_capacity 13 = .ok (.iconst 3, 1) := by decide +kernel
theorem dX10_capacity_14 : decode cX10_capacity 14 = .ok (.aload_n 0, 1) := by decide +kernel
theorem dX10_capacity_15 : decode cX10_capacity 15 = .ok (.iload_n 2, 1) := by decide +kernel
theorem dX10_capacity_16 : decode cX10_capacity 16 = .ok (.aload_n 0, 1) := by decide +kernel
theorem dX10_capacity_17 : decode cX10_capacity 17 = .ok (.getfield 16, 3) := by decide +kernel
theorem dX10_capacity_20 : decode cX10_capacity 20 = .ok (.iload_n 1, 1) := by decide +kernel
theorem dX10_capacity_21 : decode cX10_capacity 21 = .ok (.iaload, 1) := by decide +kernel
theorem dX10_capacity_22 : decode cX10_capacity 22 = .ok (.invokevirtual 166, 3) := by decide +kernel
theorem dX10_capacity_25 : decode cX10_capacity 25 = .ok (.imul, 1) := by decide +kernel
theorem dX10_capacity_26 : decode cX10_capacity 26 = .ok (.iadd, 1) := by decide +kernel
theorem dX10_capacity_27 : decode cX10_capacity 27 = .ok (.iaload, 1) := by decide +kernel
theorem dX10_capacity_28 : decode cX10_capacity 28 = .ok (.i2l, 1) := by decide +kernel
theorem dX10_capacity_29 : decode cX10_capacity 29 = .ok (.lreturn, 1) := by decide +kernel
theorem dX10_wayTo_0 : decode cX10_wayTo 0 = .ok (.lconst 0, 1) := by decide +kernel
theorem dX10_wayTo_1 : decode cX10_wayTo 1 = .ok (.lstore_n 2, 1) := by decide +kernel
theorem dX10_wayTo_2 : decode cX10_wayTo 2 = .ok (.iconst 0, 1) := by decide +kernel
theorem dX10_wayTo_3 : decode cX10_wayTo 3 = .ok (.istore 4, 2) := by decide +kernel
theorem dX10_wayTo_5 : decode cX10_wayTo 5 = .ok (.iload 4, 2) := by decide +kernel
theorem dX10_wayTo_7 : decode cX10_wayTo 7 = .ok (.bipush 13, 2) := by decide +kernel
theorem dX10_wayTo_9 : decode cX10_wayTo 9 = .ok (.if_icmp .ge 27, 3) := by decide +kernel
theorem dX10_wayTo_12 : decode cX10_wayTo 12 = .ok (.lload_n 2, 1) := by decide +kernel
theorem dX10_wayTo_13 : decode cX10_wayTo 13 = .ok (.aload_n 0, 1) := by decide +kernel
theorem dX10_wayTo_14 : decode cX10_wayTo 14 = .ok (.getfield 28, 3) := by decide +kernel
theorem dX10_wayTo_17 : decode cX10_wayTo 17 = .ok (.bipush 16, 2) := by decide +kernel
theorem dX10_wayTo_19 : decode cX10_wayTo 19 = .ok (.bipush 13, 2) := by decide +kernel
theorem dX10_wayTo_21 : decode cX10_wayTo 21 = .ok (.iload_n 1, 1) := by decide +kernel
theorem dX10_wayTo_22 : decode cX10_wayTo 22 = .ok (.imul, 1) := by decide +kernel
theorem dX10_wayTo_23 : decode cX10_wayTo 23 = .ok (.iadd, 1) := by decide +kernel
theorem dX10_wayTo_24 : decode cX10_wayTo 24 = .ok (.iload 4, 2) := by decide +kernel
theorem dX10_wayTo_26 : decode cX10_wayTo 26 = .ok (.iadd, 1) := by decide +kernel
theorem dX10_wayTo_27 : decode cX10_wayTo 27 = .ok (.laload, 1) := by decide +kernel
theorem dX10_wayTo_28 : decode cX10_wayTo 28 = .ok (.ladd, 1) := by decide +kernel
theorem dX10_wayTo_29 : decode cX10_wayTo 29 = .ok (.lstore_n 2, 1) := by decide +kernel
theorem dX10_wayTo_30 : decode cX10_wayTo 30 = .ok (.iinc 4 1, 3) := by decide +kernel
theorem dX10_wayTo_33 : decode cX10_wayTo 33 = .ok (.goto (-28), 3) := by decide +kernel
theorem dX10_wayTo_36 : decode cX10_wayTo 36 = .ok (.lload_n 2, 1) := by decide +kernel
theorem dX10_wayTo_37 : decode cX10_wayTo 37 = .ok (.lreturn, 1) := by decide +kernel
def uX10_faultOf : List Cond := .code yX10_faultOf cX10_faultOf 4 (some .int) :: ([.fieldLink RX10 148 "RiverModelModel" "readItems" "I", .fieldLink RX10 89 "RiverModelModel" "length" "I", .methodLink RX10 151 yX10_readsItem, .instanceMethod yX10_readsItem, .selects RX10 yX10_readsItem yX10_readsItem, .initialized RX10, .methodLink RX10 155 yX10_lays, .instanceMethod yX10_lays, .selects RX10 yX10_lays yX10_lays, .fieldLink RX10 125 "RiverModelModel" "readKind" "I", .fieldLink RX10 109 "RiverModelModel" "end" "I", .fieldLink RX10 135 "RiverModelModel" "readFirst" "I", .code yX10_readsItem cX10_readsItem 8 (some .boolean), .methodLink RX10 112 yX10_byteAt, .instanceMethod yX10_byteAt, .selects RX10 yX10_byteAt yX10_byteAt, .methodLink RX10 128 yX10_shape, .static yX10_shape, .methodLink RX10 131 yX10_isName, .static yX10_isName, .fieldLink RX10 138 "RiverModelModel" "readSecond" "I", .fieldLink RX10 74 "RiverModelModel" "readNumber" "[I", .methodLink RX10 144 yX10_areWell, .static yX10_areWell, .methodLink RX10 141 yX10_readsNumber, .instanceMethod yX10_readsNumber, .selects RX10 yX10_readsNumber yX10_readsNumber, .code yX10_byteAt cX10_byteAt 2 (some .int), .fieldLink RX10 7 "RiverModelModel" "text" "[I", .code yX10_shape cX10_shape 1 (some .int), .code yX10_isName cX10_isName 1 (some .boolean), .constantLong RX10 95 (97), .constantLong RX10 97 (112), .methodLink RX10 85 yX10_in, .static yX10_in, .code yX10_in cX10_in 6 (some .boolean), .code yX10_areWell cX10_areWell 4 (some .boolean), .constantLong RX10 101 (1000), .constantLong RX10 103 (10000), .constantLong RX10 99 (1000000), .constantLong RX10 107 (100), .constantLong RX10 105 (12), .code yX10_readsNumber cX10_readsNumber 3 (some .boolean), .fieldLink RX10 116 "RiverModelModel" "figures" "I", .constantLong RX10 123 (7), .constantLong RX10 119 (48), .constantLong RX10 121 (57), .code yX10_lays cX10_lays 5 none, .fieldLink RX10 13 "RiverModelModel" "kind" "[I", .fieldLink RX10 16 "RiverModelModel" "first" "[I", .fieldLink RX10 19 "RiverModelModel" "second" "[I", .fieldLink RX10 22 "RiverModelModel" "number" "[I"] ++ wsX100)
set_option maxRecDepth 20000 in
theorem gu_X10_faultOf_X10_readsItem_151 : GoodIn uX10_faultOf (wsV RX10 151 RX10 yX10_readsItem uX10_readsItem) := goodIn_r _ [3, 4, 5, 6, 13, 11, 14, 15, 16, 6, 10, 17, 18, 19, 20, 12, 21, 22, 23, 24, 25, 26, 27, 28, 2, 29, 30, 31, 32, 33, 34, 35, 36, 37, 38, 39, 40, 41, 42, 43, 44, 45, 46, 47, 53, 54, 55, 56, 57, 58, 59, 60, 61, 62, 63, 64, 65, 66, 67, 68, 69, 70, 71, 72, 73, 74, 75, 76, 77, 78, 79, 80, 81, 82, 83, 84, 85, 86, 87, 88] rfl (by decide +kernel)
set_option maxRecDepth 20000 in
theorem gu_X10_faultOf_X10_lays_155 : GoodIn uX10_faultOf (wsV RX10 155 RX10 yX10_lays uX10_lays) := goodIn_r _ [7, 8, 9, 6, 48, 49, 10, 50, 12, 51, 21, 52, 22, 53, 54, 55, 56, 57, 58, 59, 60, 61, 62, 63, 64, 65, 66, 67, 68, 69, 70, 71, 72, 73, 74, 75, 76, 77, 78, 79, 80, 81, 82, 83, 84, 85, 86, 87, 88] rfl (by decide +kernel)
set_option maxHeartbeats 4000000 in
set_option maxRecDepth 100000 in
theorem m_X10_faultOf (l : Launch) (D : va_G) (t : Nat → Nat) (cI cL cC : ClassId) (gC : Int32) (gE : Int32) (gW : Nat → Int32) (gA : Nat → Int32) (gT : Nat → Int32) (gI : Int32) (gS : Int32) (gM : Int32) (K : Nat → Int32) (F : Nat → Int32) (S : Nat → Int32) (N : Nat → Int32) (gH : Int) (gJ : Int) (ge : Int32) (gk : Int32) (gf : Int32) (gs : Int32) (gg : Int32) (gr : Int32) (RN : Nat → Int32) (a0 : Nat) (uq : ∀ b c : Nat, t b = t c → t b ≠ 0 → b = c) (hC0 : 0 ≤ gC.toInt) (hC4 : gC.toInt ≤ 400) (k_a0 : t a0 = 40) : tMx (Z := (Int32) × (Int32) × (Int32) × (Int32) × (Int32) × (Nat → Int32) × (Int32) × (Nat → Int32) × (Nat → Int32) × (Nat → Int32) × (Nat → Int32)) l yX10_faultOf uX10_faultOf 3 75 D (mF cI cL cC gC gE gW gA gT gI gS gM K F S N gH gJ ge gk gf gs gg gr RN) (fun z => (mF cI cL cC gC gE gW gA gT gI gS gM z.2.2.2.2.2.2.2.1 z.2.2.2.2.2.2.2.2.1 z.2.2.2.2.2.2.2.2.2.1 z.2.2.2.2.2.2.2.2.2.2 gH gJ z.1 z.2.1 z.2.2.1 z.2.2.2.1 z.2.2.2.2.1 z.2.2.2.2.2.2.1 z.2.2.2.2.2.1)) t cI cL cC [.ref a0] wPI (xI (fun r (z : (Int32) × (Int32) × (Int32) × (Int32) × (Int32) × (Nat → Int32) × (Int32) × (Nat → Int32) × (Nat → Int32) × (Nat → Int32) × (Nat → Int32)) => kpO K z.2.2.2.2.2.2.2.1 40 40 ∧ kpO F z.2.2.2.2.2.2.2.2.1 40 40 ∧ kpO S z.2.2.2.2.2.2.2.2.2.1 40 40 ∧ kpO N z.2.2.2.2.2.2.2.2.2.2 120 120 ∧ 0 ≤ z.2.2.2.2.2.2.1.toInt ∧ z.2.2.2.2.2.2.1.toInt ≤ 40 ∧ (r.toInt = -4 → okM z.2.2.2.2.2.2.2.1 z.2.2.2.2.2.2.2.2.1 z.2.2.2.2.2.2.2.2.2.1 z.2.2.2.2.2.2.2.2.2.2 40 z.2.2.2.2.2.2.1.toInt))) := by
  refine tMx.ofW (cc := cX10_faultOf) (maxL := 4) (ret := (some .int)) (by decide) rfl (Nat.le_of_ble_eq_true rfl) ?_
  intro p e s m below meth c hx hb hr hml hown hts hlk H locs hG hK hE hS ls hl
  have hl : lv_has ls 4 [(0, .ref a0)] := hl
  have in10 : ∀ w ∈ wsX100, w ∈ uX10_faultOf := fun w h => List.mem_cons_of_mem _ (List.mem_append_right _ h)
  refine lv_iconst (v := 0) hx hb dX10_faultOf_0 (by decide) ?_
  refine lv_istore_n (lv' := [(1, .int 0), (0, .ref a0)]) hx hb dX10_faultOf_1 rfl hl (by decide) rfl (fun ls hl => ?_)
  refine lv_iconst (v := 0) hx hb dX10_faultOf_2 (by decide) ?_
  refine lv_istore_n (lv' := [(2, .int 0), (1, .int 0), (0, .ref a0)]) hx hb dX10_faultOf_3 rfl hl (by decide) rfl (fun ls hl => ?_)
  refine lv_iconst (v := 0) hx hb dX10_faultOf_4 (by decide) ?_
  refine lv_istore_n (lv' := [(3, .int 0), (2, .int 0), (1, .int 0), (0, .ref a0)]) hx hb dX10_faultOf_5 rfl hl (by decide) rfl (fun ls hl => ?_)
  refine lv_aload_n hx hb dX10_faultOf_6 rfl (lv_at hl 3 rfl) ?_
  refine lv_pc (pc2 := 7) rfl ?_
  refine lv_iconst (v := 0) hx hb dX10_faultOf_7 (by decide) ?_
  obtain ⟨r_1, v_3, r_4, r_6, r_8, r_10, r_12, r_14, r_16, r_18, r_20, r_22, r_24, r_26, r_28, r_30, r_32, r_34, r_36, r_38, r_40, r_42, r_44, v_46, r_47, at_49, h_2, h_5, h_7, h_9, h_11, h_13, h_15, h_17, h_19, h_21, h_23, h_25, h_27, h_29, h_31, h_33, h_35, h_37, h_39, h_41, h_43, h_45, h_48⟩ := mF_o40 hG k_a0
  have zi_0 : (0 : Int32).toInt = 0 := by decide
  refine ty_put (D := D) (ci := 9) (v := .int 0) (ty := .int) (C := RX10) (T := TX10) (N := 36) (F2 := (mF cI cL cC gC gE gW gA gT gI gS gM K F S N gH gJ ge gk gf gs gg 0 RN)) hx hb hts in10 tyX10 tyX10_ok nmX10 hown hK hG hS at_49 (by rw [k_a0]; rfl) rfl 33 (by decide) (hts (.fieldLink RX10 148 "RiverModelModel" "readItems" "I") (List.mem_of_getElem? (i := 1) rfl)) (fun _ h9 => h9) rfl (by decide +kernel) rfl rfl (Nat.le_of_ble_eq_true rfl) (by rw [k_a0]; exact ⟨r_1, v_3, r_4, r_6, r_8, r_10, r_12, r_14, r_16, r_18, r_20, r_22, r_24, r_26, r_28, r_30, r_32, r_34, r_36, r_38, r_40, r_42, r_44, v_46, r_47, rfl, h_2, h_5, h_7, h_9, h_11, h_13, h_15, h_17, h_19, h_21, h_23, h_25, h_27, h_29, h_31, h_33, h_35, h_37, h_39, h_41, h_43, h_45, h_48⟩) (fun hG b hb h0 => by obtain ⟨e, g1, g2⟩ := hG b h0; exact ⟨e, g1, mF_gr (fun h => hb (uq b a0 (h.trans k_a0.symm) h0)) g2⟩) dX10_faultOf_8 (fun H locs hG hS at_50 o_51 => ?_)
  have at_50 : va_at D vwCl (a0, .inr (9, [.int gC, .ref r_1, .int v_3, .int gI, .ref r_4, .ref r_6, .ref r_8, .ref r_10, .int gS, .ref r_12, .ref r_14, .ref r_16, .ref r_18, .int gM, .ref r_20, .ref r_22, .ref r_24, .int gE, .ref r_26, .ref r_28, .ref r_30, .ref r_32, .ref r_34, .ref r_36, .ref r_38, .ref r_40, .ref r_42, .int ge, .int gk, .int gf, .int gs, .int gg, .ref r_44, .int 0, .int v_46, .ref r_47])) H := at_50
  refine lv_pc (pc2 := 11) rfl ?_
  refine lp_gen (fun WW52 hWW52 => ?_)
  have kx52 : ∀ (yg : Int32) (yn : Int32) (yp : Int32) (e1 : Int32) (k1 : Int32) (f1 : Int32) (s1 : Int32) (g1 : Int32) (gr1 : Int32) (rn1 : Nat → Int32) (K1 : Nat → Int32) (F1 : Nat → Int32) (S1 : Nat → Int32) (N1 : Nat → Int32) (H1 : Heap) (locs1 : List Loc) (ls1 : Array Slot), (0 ≤ yp.toInt) → (yp.toInt ≤ 500) → (0 ≤ gr1.toInt) → (gr1.toInt ≤ 40) → (kpO K K1 40 40) → (kpO F F1 40 40) → (kpO S S1 40 40) → (kpO N N1 120 120) → (okM K1 F1 S1 N1 40 gr1.toInt) → (nmS K1 F1 40 gr1.toInt yn) → tG D (mF cI cL cC gC gE gW gA gT gI gS gM K1 F1 S1 N1 gH gJ e1 k1 f1 s1 g1 gr1 rn1) t H1 → tF t wPI s.heap H1 locs1 → lv_has ls1 4 [(3, .int yg), (2, .int yn), (1, .int yp), (0, .ref a0)] → WW52 H1 locs1 (F0 m 106 ls1 []) := by
    intro yg yn yp e1 k1 f1 s1 g1 gr1 rn1 K1 F1 S1 N1 H locs ls v52_0 v52_1 v52_2 v52_3 v52_4 v52_5 v52_6 v52_7 v52_8 v52_9 hG hS hl
    refine (hWW52 _ _ _).mpr ?_
    refine lv_bipush (v := (-4)) hx hb dX10_faultOf_106 (by decide) ?_
    have zi_m4 : ((-4) : Int32).toInt = (-4) := by decide
    exact tx_iret (z := (e1, k1, f1, s1, g1, rn1, gr1, K1, F1, S1, N1)) hx hb hr hlk hG hS ⟨v52_4, v52_5, v52_6, v52_7, (by show 0 ≤ gr1.toInt; omega), (by show gr1.toInt ≤ 40; omega), (fun _ => v52_8)⟩ dX10_faultOf_108
  have lp52 : ∀ (kk52 : Nat) (yg : Int32) (yn : Int32) (yp : Int32) (e1 : Int32) (k1 : Int32) (f1 : Int32) (s1 : Int32) (g1 : Int32) (gr1 : Int32) (rn1 : Nat → Int32) (K1 : Nat → Int32) (F1 : Nat → Int32) (S1 : Nat → Int32) (N1 : Nat → Int32) (H1 : Heap) (locs1 : List Loc) (ls1 : Array Slot), 41 - gr1.toInt ≤ (kk52 : Int) → (0 ≤ yp.toInt) → (yp.toInt ≤ 500) → (0 ≤ gr1.toInt) → (gr1.toInt ≤ 40) → (kpO K K1 40 40) → (kpO F F1 40 40) → (kpO S S1 40 40) → (kpO N N1 120 120) → (okM K1 F1 S1 N1 40 gr1.toInt) → (nmS K1 F1 40 gr1.toInt yn) → tG D (mF cI cL cC gC gE gW gA gT gI gS gM K1 F1 S1 N1 gH gJ e1 k1 f1 s1 g1 gr1 rn1) t H1 → tF t wPI s.heap H1 locs1 → lv_has ls1 4 [(3, .int yg), (2, .int yn), (1, .int yp), (0, .ref a0)] → WW52 H1 locs1 (F0 m 11 ls1 []) := by
    intro kk52
    induction kk52 with
    | zero =>
      intro yg yn yp e1 k1 f1 s1 g1 gr1 rn1 K1 F1 S1 N1 H locs ls hk52 v52_0 v52_1 v52_2 v52_3 v52_4 v52_5 v52_6 v52_7 v52_8 v52_9 hG hS hl
      refine (hWW52 _ _ _).mpr ?_
      refine lv_iload_n hx hb dX10_faultOf_11 rfl (lv_at hl 2 rfl) ?_
      refine lv_aload_n hx hb dX10_faultOf_12 rfl (lv_at hl 3 rfl) ?_
      obtain ⟨r_53, v_55, r_56, r_58, r_60, r_62, r_64, r_66, r_68, r_70, r_72, r_74, r_76, r_78, r_80, r_82, r_84, r_86, r_88, r_90, r_92, r_94, r_96, v_98, r_99, at_101, h_54, h_57, h_59, h_61, h_63, h_65, h_67, h_69, h_71, h_73, h_75, h_77, h_79, h_81, h_83, h_85, h_87, h_89, h_91, h_93, h_95, h_97, h_100⟩ := mF_o40 hG k_a0
      refine va_get (D := D) (ci := 9) (v := .int gC) (C := RX10) (T := TX10) (N := 36) hx hb hts in10 hown hK (va_one at_101) 0 rfl rfl 0 (by decide) (hts (.fieldLink RX10 89 "RiverModelModel" "length" "I") (List.mem_of_getElem? (i := 2) rfl)) (fun _ h9 => h9) rfl dX10_faultOf_13 ?_
      refine lv_icmp_ge (tgt := 106) hx hb dX10_faultOf_16 (by decide) (fun c_102 => ?_) (fun c_102 => ?_)
      · skip
        have c_102 : gC.toInt ≤ yp.toInt := q_le c_102
        exact (hWW52 _ _ _).mp (kx52 yg yn yp e1 k1 f1 s1 g1 gr1 rn1 K1 F1 S1 N1 H locs ls v52_0 v52_1 v52_2 v52_3 v52_4 v52_5 v52_6 v52_7 v52_8 v52_9 hG hS (lv_sub hl [0, 1, 2, 3] rfl))
      · skip
        have c_102 : yp.toInt < gC.toInt := q_nle c_102
        exfalso; omega
    | succ kk52 ih52 =>
      intro yg yn yp e1 k1 f1 s1 g1 gr1 rn1 K1 F1 S1 N1 H locs ls hk52 v52_0 v52_1 v52_2 v52_3 v52_4 v52_5 v52_6 v52_7 v52_8 v52_9 hG hS hl
      refine (hWW52 _ _ _).mpr ?_
      refine lv_pc (pc2 := 11) rfl ?_
      refine lv_iload_n hx hb dX10_faultOf_11 rfl (lv_at hl 2 rfl) ?_
      refine lv_aload_n hx hb dX10_faultOf_12 rfl (lv_at hl 3 rfl) ?_
      obtain ⟨r_103, v_105, r_106, r_108, r_110, r_112, r_114, r_116, r_118, r_120, r_122, r_124, r_126, r_128, r_130, r_132, r_134, r_136, r_138, r_140, r_142, r_144, r_146, v_148, r_149, at_151, h_104, h_107, h_109, h_111, h_113, h_115, h_117, h_119, h_121, h_123, h_125, h_127, h_129, h_131, h_133, h_135, h_137, h_139, h_141, h_143, h_145, h_147, h_150⟩ := mF_o40 hG k_a0
      refine va_get (D := D) (ci := 9) (v := .int gC) (C := RX10) (T := TX10) (N := 36) hx hb hts in10 hown hK (va_one at_151) 0 rfl rfl 0 (by decide) (hts (.fieldLink RX10 89 "RiverModelModel" "length" "I") (List.mem_of_getElem? (i := 2) rfl)) (fun _ h9 => h9) rfl dX10_faultOf_13 ?_
      refine lv_icmp_ge (tgt := 106) hx hb dX10_faultOf_16 (by decide) (fun c_152 => ?_) (fun c_152 => ?_)
      · skip
        have c_152 : gC.toInt ≤ yp.toInt := q_le c_152
        exact (hWW52 _ _ _).mp (kx52 yg yn yp e1 k1 f1 s1 g1 gr1 rn1 K1 F1 S1 N1 H locs ls v52_0 v52_1 v52_2 v52_3 v52_4 v52_5 v52_6 v52_7 v52_8 v52_9 hG hS (lv_sub hl [0, 1, 2, 3] rfl))
      · skip
        have c_152 : yp.toInt < gC.toInt := q_nle c_152
        refine lv_aload_n hx hb dX10_faultOf_19 rfl (lv_at hl 3 rfl) ?_
        refine va_get (D := D) (ci := 9) (v := .int gr1) (C := RX10) (T := TX10) (N := 36) hx hb hts in10 hown hK (va_one at_151) 0 rfl rfl 33 (by decide) (hts (.fieldLink RX10 148 "RiverModelModel" "readItems" "I") (List.mem_of_getElem? (i := 1) rfl)) (fun _ h9 => h9) rfl dX10_faultOf_20 ?_
        refine lv_bipush (v := 40) hx hb dX10_faultOf_23 (by decide) ?_
        refine lv_icmp_eq (tgt := 38) hx hb dX10_faultOf_25 (by decide) (fun c_153 => ?_) (fun c_153 => ?_)
        · skip
          have c_153 : gr1.toInt = 40 := q_eq c_153
          refine lv_pc (pc2 := 38) rfl ?_
          refine lv_iload_n hx hb dX10_faultOf_38 rfl (lv_at hl 2 rfl) ?_
          exact tx_iret (z := (e1, k1, f1, s1, g1, rn1, gr1, K1, F1, S1, N1)) hx hb hr hlk hG hS ⟨v52_4, v52_5, v52_6, v52_7, (by show 0 ≤ gr1.toInt; omega), (by show gr1.toInt ≤ 40; omega), (fun q => absurd q (by omega))⟩ dX10_faultOf_39
        · skip
          have c_153 : gr1.toInt ≠ 40 := q_ne c_153
          have hgr9 : gr1.toInt ≤ 39 := by omega
          refine lv_aload_n hx hb dX10_faultOf_28 rfl (lv_at hl 3 rfl) ?_
          refine lv_iload_n hx hb dX10_faultOf_29 rfl (lv_at hl 2 rfl) ?_
          refine lv_iload_n hx hb dX10_faultOf_30 rfl (lv_at hl 1 rfl) ?_
          refine lv_iload_n hx hb dX10_faultOf_31 rfl (lv_at hl 0 rfl) ?_
          refine tx_calli (W.runV (As := [.int yp, .int yn, .int yg]) (rest := []) ⟨hx, hb, hml, hown, hts⟩ (m_X10_readsItem l D t cI cL cC gC gE gW gA gT gI gS gM K1 F1 S1 N1 gH gJ e1 k1 f1 s1 g1 gr1 rn1 a0 yp yn yg  uq (by omega) (by omega) (by omega) (by omega) k_a0) (cwV 3 hts gu_X10_faultOf_X10_readsItem_151 rfl rfl rfl (by decide +kernel) ⟨Nat.le_of_ble_eq_true rfl, Nat.le_of_ble_eq_true rfl⟩) (tP_V hG hE at_151 rfl) rfl rfl hl.1 rfl (lv_room (Nat.le_of_ble_eq_true rfl)) dX10_faultOf_32 ⟨Nat.le_of_ble_eq_true rfl, Nat.le_of_ble_eq_true rfl⟩) hS (wrL_sub (by decide)) (fun r_154 zz_157 H locs hp_155 hG hS o_156 => ?_)
          obtain ⟨ge_158, gk_159, gf_160, gs_161, gg_162, RN_163⟩ := zz_157
          replace hG : tG D (mF cI cL cC gC gE gW gA gT gI gS gM K1 F1 S1 N1 gH gJ ge_158 gk_159 gf_160 gs_161 gg_162 gr1 RN_163) t H := hG
          have hp_155 : (r_154 = 1 ∧ yp.toInt < ge_158.toInt ∧ ge_158.toInt ≤ yp.toInt + 40 ∧ itOk gk_159 gf_160 gs_161 (RN_163 0) (RN_163 1) ∧ nmOk gk_159 gf_160 yn) ∨ (r_154 = 0) := hp_155
          rcases hp_155 with ⟨rfl, p_164, p_165, p_166, p_167⟩ | rfl
          · skip
            refine lv_if_ne (tgt := 40) hx hb dX10_faultOf_35 (by decide) (fun _ => ?_) (fun q => absurd q (by decide))
            refine lv_pc (pc2 := 40) rfl ?_
            refine lv_aload_n hx hb dX10_faultOf_40 rfl (lv_at hl 3 rfl) ?_
            refine lv_iconst (v := 1) hx hb dX10_faultOf_41 (by decide) ?_
            refine lv_aload_n hx hb dX10_faultOf_42 rfl (lv_at hl 3 rfl) ?_
            obtain ⟨r_168, v_170, r_171, r_173, r_175, r_177, r_179, r_181, r_183, r_185, r_187, r_189, r_191, r_193, r_195, r_197, r_199, r_201, r_203, r_205, r_207, r_209, r_211, v_213, r_214, at_216, h_169, h_172, h_174, h_176, h_178, h_180, h_182, h_184, h_186, h_188, h_190, h_192, h_194, h_196, h_198, h_200, h_202, h_204, h_206, h_208, h_210, h_212, h_215⟩ := mF_o40 hG k_a0
            refine va_get (D := D) (ci := 9) (v := .int gr1) (C := RX10) (T := TX10) (N := 36) hx hb hts in10 hown hK (va_one at_216) 0 rfl rfl 33 (by decide) (hts (.fieldLink RX10 148 "RiverModelModel" "readItems" "I") (List.mem_of_getElem? (i := 1) rfl)) (fun _ h9 => h9) rfl dX10_faultOf_43 ?_
            have zi_1 : (1 : Int32).toInt = 1 := by decide
            refine tx_callv (W.runV (As := [.int 1, .int gr1]) (rest := []) ⟨hx, hb, hml, hown, hts⟩ (m_X10_lays l D t cI cL cC gC gE gW gA gT gI gS gM K1 F1 S1 N1 gH gJ ge_158 gk_159 gf_160 gs_161 gg_162 gr1 RN_163 a0 1 gr1 40 uq (by omega) (by omega) (by omega) (by omega) (by omega) k_a0) (cwV 2 hts gu_X10_faultOf_X10_lays_155 rfl rfl rfl (by decide +kernel) ⟨Nat.le_of_ble_eq_true rfl, Nat.le_of_ble_eq_true rfl⟩) (tP_V hG hE at_216 rfl) rfl rfl hl.1 rfl (lv_room (Nat.le_of_ble_eq_true rfl)) dX10_faultOf_46 ⟨Nat.le_of_ble_eq_true rfl, Nat.le_of_ble_eq_true rfl⟩) hS (wrL_sub (by decide)) (fun zz_220 H locs hp_218 hG hS o_219 => ?_)
            obtain ⟨K_221, F_222, S_223, N_224⟩ := zz_220
            have at_216 := va_at.keptC at_216 o_219 k_a0 rfl
            replace hG : tG D (mF cI cL cC gC gE gW gA gT gI gS gM K_221 F_222 S_223 N_224 gH gJ ge_158 gk_159 gf_160 gs_161 gg_162 gr1 RN_163) t H := hG
            have hp_218 : K_221 = upd K1 (40 + gr1.toInt).toNat gk_159 ∧ F_222 = upd F1 (40 + gr1.toInt).toNat gf_160 ∧ S_223 = upd S1 (40 + gr1.toInt).toNat gs_161 ∧ N_224 = upd (upd (upd N1 (3 * (40 + gr1.toInt)).toNat (RN_163 0)) (3 * (40 + gr1.toInt) + 1).toNat (RN_163 1)) (3 * (40 + gr1.toInt) + 2).toNat (RN_163 2) := hp_218
            obtain ⟨p_225, p_226, p_227, p_228⟩ := hp_218
            refine lv_aload_n hx hb dX10_faultOf_49 rfl (lv_at hl 3 rfl) ?_
            refine lv_dup hx hb dX10_faultOf_50 rfl ?_
            refine va_get (D := D) (ci := 9) (v := .int gr1) (C := RX10) (T := TX10) (N := 36) hx hb hts in10 hown hK (va_one at_216) 0 rfl rfl 33 (by decide) (hts (.fieldLink RX10 148 "RiverModelModel" "readItems" "I") (List.mem_of_getElem? (i := 1) rfl)) (fun _ h9 => h9) rfl dX10_faultOf_51 ?_
            refine lv_pc (pc2 := 54) rfl ?_
            refine lv_iconst (v := 1) hx hb dX10_faultOf_54 (by decide) ?_
            refine lv_iadd hx hb dX10_faultOf_55 ?_
            refine lv_topi (fun x_229 e_230 => ?_)
            have i_x_229 : x_229.toInt = gr1.toInt + 1 := by rw [e_230]; exact (q_add (by rw [show (1 : Int32).toInt = 1 by decide]; omega) (by rw [show (1 : Int32).toInt = 1 by decide]; omega)).trans (by rw [show (1 : Int32).toInt = 1 by decide])
            refine ty_put (D := D) (ci := 9) (v := .int x_229) (ty := .int) (C := RX10) (T := TX10) (N := 36) (F2 := (mF cI cL cC gC gE gW gA gT gI gS gM K_221 F_222 S_223 N_224 gH gJ ge_158 gk_159 gf_160 gs_161 gg_162 x_229 RN_163)) hx hb hts in10 tyX10 tyX10_ok nmX10 hown hK hG hS at_216 (by rw [k_a0]; rfl) rfl 33 (by decide) (hts (.fieldLink RX10 148 "RiverModelModel" "readItems" "I") (List.mem_of_getElem? (i := 1) rfl)) (fun _ h9 => h9) rfl (by decide +kernel) rfl rfl (Nat.le_of_ble_eq_true rfl) (by rw [k_a0]; exact ⟨r_168, v_170, r_171, r_173, r_175, r_177, r_179, r_181, r_183, r_185, r_187, r_189, r_191, r_193, r_195, r_197, r_199, r_201, r_203, r_205, r_207, r_209, r_211, v_213, r_214, rfl, h_169, h_172, h_174, h_176, h_178, h_180, h_182, h_184, h_186, h_188, h_190, h_192, h_194, h_196, h_198, h_200, h_202, h_204, h_206, h_208, h_210, h_212, h_215⟩) (fun hG b hb h0 => by obtain ⟨e, g1, g2⟩ := hG b h0; exact ⟨e, g1, mF_gr (fun h => hb (uq b a0 (h.trans k_a0.symm) h0)) g2⟩) dX10_faultOf_56 (fun H locs hG hS at_231 o_232 => ?_)
            have at_231 : va_at D vwCl (a0, .inr (9, [.int gC, .ref r_168, .int v_170, .int gI, .ref r_171, .ref r_173, .ref r_175, .ref r_177, .int gS, .ref r_179, .ref r_181, .ref r_183, .ref r_185, .int gM, .ref r_187, .ref r_189, .ref r_191, .int gE, .ref r_193, .ref r_195, .ref r_197, .ref r_199, .ref r_201, .ref r_203, .ref r_205, .ref r_207, .ref r_209, .int ge_158, .int gk_159, .int gf_160, .int gs_161, .int gg_162, .ref r_211, .int x_229, .int v_213, .ref r_214])) H := at_231
            refine lv_iload_n hx hb dX10_faultOf_59 rfl (lv_at hl 1 rfl) ?_
            refine lv_aload_n hx hb dX10_faultOf_60 rfl (lv_at hl 3 rfl) ?_
            refine va_get (D := D) (ci := 9) (v := .int gk_159) (C := RX10) (T := TX10) (N := 36) hx hb hts in10 hown hK (va_one at_231) 0 rfl rfl 28 (by decide) (hts (.fieldLink RX10 125 "RiverModelModel" "readKind" "I") (List.mem_of_getElem? (i := 10) rfl)) (fun _ h9 => h9) rfl dX10_faultOf_61 ?_
            refine lv_bipush (v := 115) hx hb dX10_faultOf_64 (by decide) ?_
            refine lv_icmp_ne (tgt := 78) hx hb dX10_faultOf_66 (by decide) (fun c_233 => ?_) (fun c_233 => ?_)
            · skip
              have c_233 : gk_159.toInt ≠ 115 := q_ne c_233
              refine lv_pc (pc2 := 78) rfl ?_
              refine lv_iconst (v := 0) hx hb dX10_faultOf_78 (by decide) ?_
              refine lv_ior hx hb dX10_faultOf_79 ?_
              refine lv_topi (fun x_234 e_235 => ?_)
              refine lv_istore_n (lv' := [(2, .int x_234), (3, .int yg), (1, .int yp), (0, .ref a0)]) hx hb dX10_faultOf_80 rfl hl (by decide) rfl (fun ls hl => ?_)
              refine lv_iload_n hx hb dX10_faultOf_81 rfl (lv_at hl 1 rfl) ?_
              refine lv_aload_n hx hb dX10_faultOf_82 rfl (lv_at hl 3 rfl) ?_
              refine va_get (D := D) (ci := 9) (v := .int gk_159) (C := RX10) (T := TX10) (N := 36) hx hb hts in10 hown hK (va_one at_231) 0 rfl rfl 28 (by decide) (hts (.fieldLink RX10 125 "RiverModelModel" "readKind" "I") (List.mem_of_getElem? (i := 10) rfl)) (fun _ h9 => h9) rfl dX10_faultOf_83 ?_
              refine lv_bipush (v := 103) hx hb dX10_faultOf_86 (by decide) ?_
              refine lv_icmp_ne (tgt := 95) hx hb dX10_faultOf_88 (by decide) (fun c_236 => ?_) (fun c_236 => ?_)
              · skip
                have c_236 : gk_159.toInt ≠ 103 := q_ne c_236
                refine lv_pc (pc2 := 95) rfl ?_
                refine lv_iconst (v := 0) hx hb dX10_faultOf_95 (by decide) ?_
                refine lv_iadd hx hb dX10_faultOf_96 ?_
                refine lv_topi (fun x_237 e_238 => ?_)
                refine lv_istore_n (lv' := [(3, .int x_237), (2, .int x_234), (1, .int yp), (0, .ref a0)]) hx hb dX10_faultOf_97 rfl hl (by decide) rfl (fun ls hl => ?_)
                refine lv_aload_n hx hb dX10_faultOf_98 rfl (lv_at hl 3 rfl) ?_
                refine va_get (D := D) (ci := 9) (v := .int ge_158) (C := RX10) (T := TX10) (N := 36) hx hb hts in10 hown hK (va_one at_231) 0 rfl rfl 27 (by decide) (hts (.fieldLink RX10 109 "RiverModelModel" "end" "I") (List.mem_of_getElem? (i := 11) rfl)) (fun _ h9 => h9) rfl dX10_faultOf_99 ?_
                refine lv_istore_n (lv' := [(1, .int ge_158), (3, .int x_237), (2, .int x_234), (0, .ref a0)]) hx hb dX10_faultOf_102 rfl hl (by decide) rfl (fun ls hl => ?_)
                refine lv_goto (tgt := 11) hx hb dX10_faultOf_103 (by decide) ?_
                exact (hWW52 _ _ _).mp (ih52 x_237 x_234 ge_158 ge_158 gk_159 gf_160 gs_161 gg_162 x_229 RN_163 K_221 F_222 S_223 N_224 H locs ls (by omega) (by omega) (by omega) (by omega) (by omega) (kpO.upd v52_4 (by decide) (by omega) p_225) (kpO.upd v52_5 (by decide) (by omega) p_226) (kpO.upd v52_6 (by decide) (by omega) p_227) (kpO.upd (kpO.upd (kpO.upd v52_7 (by decide) (i := 3 * (40 + gr1.toInt)) (by omega) rfl) (by decide) (i := 3 * (40 + gr1.toInt) + 1) (by omega) rfl) (by decide) (by omega) p_228) (by rw [show x_229.toInt = gr1.toInt + 1 by omega]; exact okM.lay (b := 40) (by decide) (by omega) p_225 p_226 p_227 p_228 v52_8 p_166 (fun q => v52_9 _ p_166.1 p_166.2.1 (p_167 (by omega)))) (by rw [show x_229.toInt = gr1.toInt + 1 by omega, e_235, or_0]; exact nmS.lay (b := 40) (by decide) p_225 p_226 v52_9) hG hS (lv_sub hl [1, 2, 0, 3] rfl))
              · skip
                have c_236 : gk_159.toInt = 103 := q_eq c_236
                refine lv_iconst (v := 1) hx hb dX10_faultOf_91 (by decide) ?_
                refine lv_pc (pc2 := 92) rfl ?_
                refine lv_goto (tgt := 96) hx hb dX10_faultOf_92 (by decide) ?_
                refine lv_iadd hx hb dX10_faultOf_96 ?_
                refine lv_topi (fun x_239 e_240 => ?_)
                refine lv_istore_n (lv' := [(3, .int x_239), (2, .int x_234), (1, .int yp), (0, .ref a0)]) hx hb dX10_faultOf_97 rfl hl (by decide) rfl (fun ls hl => ?_)
                refine lv_aload_n hx hb dX10_faultOf_98 rfl (lv_at hl 3 rfl) ?_
                refine va_get (D := D) (ci := 9) (v := .int ge_158) (C := RX10) (T := TX10) (N := 36) hx hb hts in10 hown hK (va_one at_231) 0 rfl rfl 27 (by decide) (hts (.fieldLink RX10 109 "RiverModelModel" "end" "I") (List.mem_of_getElem? (i := 11) rfl)) (fun _ h9 => h9) rfl dX10_faultOf_99 ?_
                refine lv_istore_n (lv' := [(1, .int ge_158), (3, .int x_239), (2, .int x_234), (0, .ref a0)]) hx hb dX10_faultOf_102 rfl hl (by decide) rfl (fun ls hl => ?_)
                refine lv_goto (tgt := 11) hx hb dX10_faultOf_103 (by decide) ?_
                exact (hWW52 _ _ _).mp (ih52 x_239 x_234 ge_158 ge_158 gk_159 gf_160 gs_161 gg_162 x_229 RN_163 K_221 F_222 S_223 N_224 H locs ls (by omega) (by omega) (by omega) (by omega) (by omega) (kpO.upd v52_4 (by decide) (by omega) p_225) (kpO.upd v52_5 (by decide) (by omega) p_226) (kpO.upd v52_6 (by decide) (by omega) p_227) (kpO.upd (kpO.upd (kpO.upd v52_7 (by decide) (i := 3 * (40 + gr1.toInt)) (by omega) rfl) (by decide) (i := 3 * (40 + gr1.toInt) + 1) (by omega) rfl) (by decide) (by omega) p_228) (by rw [show x_229.toInt = gr1.toInt + 1 by omega]; exact okM.lay (b := 40) (by decide) (by omega) p_225 p_226 p_227 p_228 v52_8 p_166 (fun q => v52_9 _ p_166.1 p_166.2.1 (p_167 (by omega)))) (by rw [show x_229.toInt = gr1.toInt + 1 by omega, e_235, or_0]; exact nmS.lay (b := 40) (by decide) p_225 p_226 v52_9) hG hS (lv_sub hl [1, 2, 0, 3] rfl))
            · skip
              have c_233 : gk_159.toInt = 115 := q_eq c_233
              refine lv_iconst (v := 1) hx hb dX10_faultOf_69 (by decide) ?_
              refine lv_pc (pc2 := 70) rfl ?_
              refine lv_aload_n hx hb dX10_faultOf_70 rfl (lv_at hl 3 rfl) ?_
              refine va_get (D := D) (ci := 9) (v := .int gf_160) (C := RX10) (T := TX10) (N := 36) hx hb hts in10 hown hK (va_one at_231) 0 rfl rfl 29 (by decide) (hts (.fieldLink RX10 135 "RiverModelModel" "readFirst" "I") (List.mem_of_getElem? (i := 12) rfl)) (fun _ h9 => h9) rfl dX10_faultOf_71 ?_
              refine lv_ishl hx hb dX10_faultOf_74 ?_
              refine lv_topi (fun x_241 e_242 => ?_)
              refine lv_goto (tgt := 79) hx hb dX10_faultOf_75 (by decide) ?_
              refine lv_ior hx hb dX10_faultOf_79 ?_
              refine lv_topi (fun x_243 e_244 => ?_)
              refine lv_istore_n (lv' := [(2, .int x_243), (3, .int yg), (1, .int yp), (0, .ref a0)]) hx hb dX10_faultOf_80 rfl hl (by decide) rfl (fun ls hl => ?_)
              refine lv_iload_n hx hb dX10_faultOf_81 rfl (lv_at hl 1 rfl) ?_
              refine lv_aload_n hx hb dX10_faultOf_82 rfl (lv_at hl 3 rfl) ?_
              refine lv_pc (pc2 := 83) rfl ?_
              refine va_get (D := D) (ci := 9) (v := .int gk_159) (C := RX10) (T := TX10) (N := 36) hx hb hts in10 hown hK (va_one at_231) 0 rfl rfl 28 (by decide) (hts (.fieldLink RX10 125 "RiverModelModel" "readKind" "I") (List.mem_of_getElem? (i := 10) rfl)) (fun _ h9 => h9) rfl dX10_faultOf_83 ?_
              refine lv_bipush (v := 103) hx hb dX10_faultOf_86 (by decide) ?_
              refine lv_icmp_ne (tgt := 95) hx hb dX10_faultOf_88 (by decide) (fun c_245 => ?_) (fun c_245 => ?_)
              · skip
                have c_245 : gk_159.toInt ≠ 103 := q_ne c_245
                refine lv_iconst (v := 0) hx hb dX10_faultOf_95 (by decide) ?_
                refine lv_iadd hx hb dX10_faultOf_96 ?_
                refine lv_topi (fun x_246 e_247 => ?_)
                refine lv_istore_n (lv' := [(3, .int x_246), (2, .int x_243), (1, .int yp), (0, .ref a0)]) hx hb dX10_faultOf_97 rfl hl (by decide) rfl (fun ls hl => ?_)
                refine lv_aload_n hx hb dX10_faultOf_98 rfl (lv_at hl 3 rfl) ?_
                refine va_get (D := D) (ci := 9) (v := .int ge_158) (C := RX10) (T := TX10) (N := 36) hx hb hts in10 hown hK (va_one at_231) 0 rfl rfl 27 (by decide) (hts (.fieldLink RX10 109 "RiverModelModel" "end" "I") (List.mem_of_getElem? (i := 11) rfl)) (fun _ h9 => h9) rfl dX10_faultOf_99 ?_
                refine lv_pc (pc2 := 102) rfl ?_
                refine lv_istore_n (lv' := [(1, .int ge_158), (3, .int x_246), (2, .int x_243), (0, .ref a0)]) hx hb dX10_faultOf_102 rfl hl (by decide) rfl (fun ls hl => ?_)
                refine lv_goto (tgt := 11) hx hb dX10_faultOf_103 (by decide) ?_
                exact (hWW52 _ _ _).mp (ih52 x_246 x_243 ge_158 ge_158 gk_159 gf_160 gs_161 gg_162 x_229 RN_163 K_221 F_222 S_223 N_224 H locs ls (by omega) (by omega) (by omega) (by omega) (by omega) (kpO.upd v52_4 (by decide) (by omega) p_225) (kpO.upd v52_5 (by decide) (by omega) p_226) (kpO.upd v52_6 (by decide) (by omega) p_227) (kpO.upd (kpO.upd (kpO.upd v52_7 (by decide) (i := 3 * (40 + gr1.toInt)) (by omega) rfl) (by decide) (i := 3 * (40 + gr1.toInt) + 1) (by omega) rfl) (by decide) (by omega) p_228) (by rw [show x_229.toInt = gr1.toInt + 1 by omega]; exact okM.lay (b := 40) (by decide) (by omega) p_225 p_226 p_227 p_228 v52_8 p_166 (fun q => v52_9 _ p_166.1 p_166.2.1 (p_167 (by omega)))) (by rw [show x_229.toInt = gr1.toInt + 1 by omega, e_244, e_242]; exact nmS.layS (b := 40) (by decide) (by omega) p_166.1 p_166.2.1 p_225 p_226 (by omega) v52_9) hG hS (lv_sub hl [1, 2, 0, 3] rfl))
              · skip
                have c_245 : gk_159.toInt = 103 := q_eq c_245
                refine lv_iconst (v := 1) hx hb dX10_faultOf_91 (by decide) ?_
                refine lv_goto (tgt := 96) hx hb dX10_faultOf_92 (by decide) ?_
                refine lv_iadd hx hb dX10_faultOf_96 ?_
                refine lv_topi (fun x_248 e_249 => ?_)
                refine lv_istore_n (lv' := [(3, .int x_248), (2, .int x_243), (1, .int yp), (0, .ref a0)]) hx hb dX10_faultOf_97 rfl hl (by decide) rfl (fun ls hl => ?_)
                refine lv_aload_n hx hb dX10_faultOf_98 rfl (lv_at hl 3 rfl) ?_
                refine va_get (D := D) (ci := 9) (v := .int ge_158) (C := RX10) (T := TX10) (N := 36) hx hb hts in10 hown hK (va_one at_231) 0 rfl rfl 27 (by decide) (hts (.fieldLink RX10 109 "RiverModelModel" "end" "I") (List.mem_of_getElem? (i := 11) rfl)) (fun _ h9 => h9) rfl dX10_faultOf_99 ?_
                refine lv_pc (pc2 := 102) rfl ?_
                refine lv_istore_n (lv' := [(1, .int ge_158), (3, .int x_248), (2, .int x_243), (0, .ref a0)]) hx hb dX10_faultOf_102 rfl hl (by decide) rfl (fun ls hl => ?_)
                refine lv_goto (tgt := 11) hx hb dX10_faultOf_103 (by decide) ?_
                exact (hWW52 _ _ _).mp (ih52 x_248 x_243 ge_158 ge_158 gk_159 gf_160 gs_161 gg_162 x_229 RN_163 K_221 F_222 S_223 N_224 H locs ls (by omega) (by omega) (by omega) (by omega) (by omega) (kpO.upd v52_4 (by decide) (by omega) p_225) (kpO.upd v52_5 (by decide) (by omega) p_226) (kpO.upd v52_6 (by decide) (by omega) p_227) (kpO.upd (kpO.upd (kpO.upd v52_7 (by decide) (i := 3 * (40 + gr1.toInt)) (by omega) rfl) (by decide) (i := 3 * (40 + gr1.toInt) + 1) (by omega) rfl) (by decide) (by omega) p_228) (by rw [show x_229.toInt = gr1.toInt + 1 by omega]; exact okM.lay (b := 40) (by decide) (by omega) p_225 p_226 p_227 p_228 v52_8 p_166 (fun q => v52_9 _ p_166.1 p_166.2.1 (p_167 (by omega)))) (by rw [show x_229.toInt = gr1.toInt + 1 by omega, e_244, e_242]; exact nmS.layS (b := 40) (by decide) (by omega) p_166.1 p_166.2.1 p_225 p_226 (by omega) v52_9) hG hS (lv_sub hl [1, 2, 0, 3] rfl))
          · skip
            refine lv_if_ne (tgt := 40) hx hb dX10_faultOf_35 (by decide) (fun q => absurd rfl q) (fun _ => ?_)
            refine lv_iload_n hx hb dX10_faultOf_38 rfl (lv_at hl 2 rfl) ?_
            exact tx_iret (z := (ge_158, gk_159, gf_160, gs_161, gg_162, RN_163, gr1, K1, F1, S1, N1)) hx hb hr hlk hG hS ⟨v52_4, v52_5, v52_6, v52_7, (by show 0 ≤ gr1.toInt; omega), (by show gr1.toInt ≤ 40; omega), (fun q => absurd q (by omega))⟩ dX10_faultOf_39
  exact lp52 (41 - (0 : Int32).toInt : Int).toNat 0 0 0 ge gk gf gs gg 0 RN K F S N H locs ls (by omega) (by omega) (by omega) (by omega) (by omega) kpO.rf kpO.rf kpO.rf kpO.rf (fun j h0 h1 => by omega) nmS.zero hG hS (lv_sub hl [0, 1, 2, 3] rfl)

def uX10_copies : List Cond := .code yX10_copies cX10_copies 4 none :: ([.fieldLink RX10 22 "RiverModelModel" "number" "[I", .fieldLink RX10 13 "RiverModelModel" "kind" "[I", .fieldLink RX10 16 "RiverModelModel" "first" "[I", .fieldLink RX10 19 "RiverModelModel" "second" "[I"] ++ wsX100)
set_option maxHeartbeats 4000000 in
set_option maxRecDepth 100000 in
theorem m_X10_copies (l : Launch) (D : va_G) (t : Nat → Nat) (cI cL cC : ClassId) (gC : Int32) (gE : Int32) (gW : Nat → Int32) (gA : Nat → Int32) (gT : Nat → Int32) (gI : Int32) (gS : Int32) (gM : Int32) (K : Nat → Int32) (F : Nat → Int32) (S : Nat → Int32) (N : Nat → Int32) (gH : Int) (gJ : Int) (ge : Int32) (gk : Int32) (gf : Int32) (gs : Int32) (gg : Int32) (gr : Int32) (RN : Nat → Int32) (a0 : Nat) (a1 : Int32) (a2 : Int32) (A : Int) (B : Int) (A3 : Int) (B3 : Int) (uq : ∀ b c : Nat, t b = t c → t b ≠ 0 → b = c) (hA : 40 * a1.toInt = A) (hB : 40 * a2.toInt = B) (hA3 : 3 * A = A3) (hB3 : 3 * B = B3) (hA0 : 0 ≤ a1.toInt) (hA2 : a1.toInt ≤ 2) (hB0 : 0 ≤ a2.toInt) (hB2 : a2.toInt ≤ 2) (hAB : A + 40 ≤ B ∨ B + 40 ≤ A) (k_a0 : t a0 = 40) : tMx (Z := (Nat → Int32) × (Nat → Int32) × (Nat → Int32) × (Nat → Int32)) l yX10_copies uX10_copies 0 0 D (mF cI cL cC gC gE gW gA gT gI gS gM K F S N gH gJ ge gk gf gs gg gr RN) (fun z => (mF cI cL cC gC gE gW gA gT gI gS gM z.1 z.2.1 z.2.2.1 z.2.2.2 gH gJ ge gk gf gs gg gr RN)) t cI cL cC [.ref a0, .int a1, .int a2] wI (xV (fun (z : (Nat → Int32) × (Nat → Int32) × (Nat → Int32) × (Nat → Int32)) => cpd K z.1 A B 40 ∧ cpd F z.2.1 A B 40 ∧ cpd S z.2.2.1 A B 40 ∧ cpd N z.2.2.2 A3 B3 120)) := by
  refine tMx.ofW (cc := cX10_copies) (maxL := 4) (ret := none) (by decide) rfl (Nat.le_of_ble_eq_true rfl) ?_
  intro p e s m below meth c hx hb hr hml hown hts hlk H locs hG hK hE hS ls hl
  have hl : lv_has ls 4 [(0, .ref a0), (1, .int a1), (2, .int a2)] := hl
  have in10 : ∀ w ∈ wsX100, w ∈ uX10_copies := fun w h => List.mem_cons_of_mem _ (List.mem_append_right _ h)
  refine lv_iconst (v := 0) hx hb dX10_copies_0 (by decide) ?_
  refine lv_istore_n (lv' := [(3, .int 0), (0, .ref a0), (1, .int a1), (2, .int a2)]) hx hb dX10_copies_1 rfl hl (by decide) rfl (fun ls hl => ?_)
  refine lv_pc (pc2 := 2) rfl ?_
  refine lp_gen (fun WW1 hWW1 => ?_)
  have kx1 : ∀ (yk : Int32) (K1 : Nat → Int32) (F1 : Nat → Int32) (S1 : Nat → Int32) (H1 : Heap) (locs1 : List Loc) (ls1 : Array Slot), (0 ≤ yk.toInt) → (yk.toInt ≤ 40) → (cpd K K1 A B yk.toInt) → (cpd F F1 A B yk.toInt) → (cpd S S1 A B yk.toInt) → (40 ≤ yk.toInt) → tG D (mF cI cL cC gC gE gW gA gT gI gS gM K1 F1 S1 N gH gJ ge gk gf gs gg gr RN) t H1 → tF t wI s.heap H1 locs1 → lv_has ls1 4 [(3, .int yk), (0, .ref a0), (1, .int a1), (2, .int a2)] → WW1 H1 locs1 (F0 m 80 ls1 []) := by
    intro yk K1 F1 S1 H locs ls v1_0 v1_1 v1_2 v1_3 v1_4 xf1_0 hG hS hl
    refine (hWW1 _ _ _).mpr ?_
    have cp_2 := cpd.at (n' := 40) v1_2 (by omega)
    have cp_3 := cpd.at (n' := 40) v1_3 (by omega)
    have cp_4 := cpd.at (n' := 40) v1_4 (by omega)
    refine lv_iconst (v := 0) hx hb dX10_copies_80 (by decide) ?_
    refine lv_istore_n (lv' := [(3, .int 0), (0, .ref a0), (1, .int a1), (2, .int a2)]) hx hb dX10_copies_81 rfl hl (by decide) rfl (fun ls hl => ?_)
    refine lv_pc (pc2 := 82) rfl ?_
    refine lp_gen (fun WW5 hWW5 => ?_)
    have kx5 : ∀ (yk : Int32) (N1 : Nat → Int32) (H1 : Heap) (locs1 : List Loc) (ls1 : Array Slot), (0 ≤ yk.toInt) → (yk.toInt ≤ 120) → (cpd N N1 A3 B3 yk.toInt) → (120 ≤ yk.toInt) → tG D (mF cI cL cC gC gE gW gA gT gI gS gM K1 F1 S1 N1 gH gJ ge gk gf gs gg gr RN) t H1 → tF t wI s.heap H1 locs1 → lv_has ls1 4 [(3, .int yk), (0, .ref a0), (1, .int a1), (2, .int a2)] → WW5 H1 locs1 (F0 m 116 ls1 []) := by
      intro yk N1 H locs ls v5_0 v5_1 v5_2 xf5_0 hG hS hl
      refine (hWW5 _ _ _).mpr ?_
      exact tx_vret (z := (K1, F1, S1, N1)) hx hb hr hlk hG hS ⟨cp_2, cp_3, cp_4, (cpd.at v5_2 (by omega))⟩ dX10_copies_116
    have lp5 : ∀ (kk5 : Nat) (yk : Int32) (N1 : Nat → Int32) (H1 : Heap) (locs1 : List Loc) (ls1 : Array Slot), 120 - yk.toInt ≤ (kk5 : Int) → (0 ≤ yk.toInt) → (yk.toInt ≤ 120) → (cpd N N1 A3 B3 yk.toInt) → tG D (mF cI cL cC gC gE gW gA gT gI gS gM K1 F1 S1 N1 gH gJ ge gk gf gs gg gr RN) t H1 → tF t wI s.heap H1 locs1 → lv_has ls1 4 [(3, .int yk), (0, .ref a0), (1, .int a1), (2, .int a2)] → WW5 H1 locs1 (F0 m 82 ls1 []) := by
      intro kk5
      induction kk5 with
      | zero =>
        intro yk N1 H locs ls hk5 v5_0 v5_1 v5_2 hG hS hl
        refine (hWW5 _ _ _).mpr ?_
        refine lv_iload_n hx hb dX10_copies_82 rfl (lv_at hl 0 rfl) ?_
        refine lv_bipush (v := 120) hx hb dX10_copies_83 (by decide) ?_
        refine lv_pc (pc2 := 85) rfl ?_
        refine lv_icmp_ge (tgt := 116) hx hb dX10_copies_85 (by decide) (fun c_6 => ?_) (fun c_6 => ?_)
        · skip
          have c_6 : 120 ≤ yk.toInt := q_le c_6
          exact (hWW5 _ _ _).mp (kx5 yk N1 H locs ls v5_0 v5_1 v5_2 (by omega) hG hS (lv_sub hl [0, 1, 2, 3] rfl))
        · skip
          have c_6 : yk.toInt < 120 := q_nle c_6
          exfalso; omega
      | succ kk5 ih5 =>
        intro yk N1 H locs ls hk5 v5_0 v5_1 v5_2 hG hS hl
        refine (hWW5 _ _ _).mpr ?_
        refine lv_iload_n hx hb dX10_copies_82 rfl (lv_at hl 0 rfl) ?_
        refine lv_bipush (v := 120) hx hb dX10_copies_83 (by decide) ?_
        refine lv_icmp_ge (tgt := 116) hx hb dX10_copies_85 (by decide) (fun c_7 => ?_) (fun c_7 => ?_)
        · skip
          have c_7 : 120 ≤ yk.toInt := q_le c_7
          exact (hWW5 _ _ _).mp (kx5 yk N1 H locs ls v5_0 v5_1 v5_2 (by omega) hG hS (lv_sub hl [0, 1, 2, 3] rfl))
        · skip
          have c_7 : yk.toInt < 120 := q_nle c_7
          refine lv_aload_n hx hb dX10_copies_88 rfl (lv_at hl 1 rfl) ?_
          obtain ⟨r_8, v_10, r_11, r_13, r_15, r_17, r_19, r_21, r_23, r_25, r_27, r_29, r_31, r_33, r_35, r_37, r_39, r_41, r_43, r_45, r_47, r_49, r_51, v_53, r_54, at_56, h_9, h_12, h_14, h_16, h_18, h_20, h_22, h_24, h_26, h_28, h_30, h_32, h_34, h_36, h_38, h_40, h_42, h_44, h_46, h_48, h_50, h_52, h_55⟩ := mF_o40 hG k_a0
          refine va_get (D := D) (ci := 9) (v := .ref r_17) (C := RX10) (T := TX10) (N := 36) hx hb hts in10 hown hK (va_one at_56) 0 rfl rfl 7 (by decide) (hts (.fieldLink RX10 22 "RiverModelModel" "number" "[I") (List.mem_of_getElem? (i := 1) rfl)) (fun _ h9 => h9) rfl dX10_copies_89 ?_
          refine lv_bipush (v := 120) hx hb dX10_copies_92 (by decide) ?_
          refine lv_iload_n hx hb dX10_copies_94 rfl (lv_at hl 2 rfl) ?_
          refine lv_pc (pc2 := 95) rfl ?_
          refine lv_imul hx hb dX10_copies_95 ?_
          refine lv_topi (fun x_57 e_58 => ?_)
          have i_x_57 : x_57.toInt = 120 * a1.toInt := by rw [e_58]; exact (q_mul (by rw [show (120 : Int32).toInt = 120 by decide]; omega) (by rw [show (120 : Int32).toInt = 120 by decide]; omega)).trans (by rw [show (120 : Int32).toInt = 120 by decide])
          refine lv_iload_n hx hb dX10_copies_96 rfl (lv_at hl 0 rfl) ?_
          refine lv_iadd hx hb dX10_copies_97 ?_
          refine lv_topi (fun x_59 e_60 => ?_)
          have i_x_59 : x_59.toInt = x_57.toInt + yk.toInt := by rw [e_60]; exact (q_add (by omega) (by omega)).trans (by rfl)
          refine lv_aload_n hx hb dX10_copies_98 rfl (lv_at hl 1 rfl) ?_
          refine va_get (D := D) (ci := 9) (v := .ref r_17) (C := RX10) (T := TX10) (N := 36) hx hb hts in10 hown hK (va_one at_56) 0 rfl rfl 7 (by decide) (hts (.fieldLink RX10 22 "RiverModelModel" "number" "[I") (List.mem_of_getElem? (i := 1) rfl)) (fun _ h9 => h9) rfl dX10_copies_99 ?_
          refine lv_bipush (v := 120) hx hb dX10_copies_102 (by decide) ?_
          refine lv_iload_n hx hb dX10_copies_104 rfl (lv_at hl 3 rfl) ?_
          refine lv_imul hx hb dX10_copies_105 ?_
          refine lv_topi (fun x_61 e_62 => ?_)
          have i_x_61 : x_61.toInt = 120 * a2.toInt := by rw [e_62]; exact (q_mul (by rw [show (120 : Int32).toInt = 120 by decide]; omega) (by rw [show (120 : Int32).toInt = 120 by decide]; omega)).trans (by rw [show (120 : Int32).toInt = 120 by decide])
          refine lv_pc (pc2 := 106) rfl ?_
          refine lv_iload_n hx hb dX10_copies_106 rfl (lv_at hl 0 rfl) ?_
          refine lv_iadd hx hb dX10_copies_107 ?_
          refine lv_topi (fun x_63 e_64 => ?_)
          have i_x_63 : x_63.toInt = x_61.toInt + yk.toInt := by rw [e_64]; exact (q_add (by omega) (by omega)).trans (by rfl)
          have at_65 := mF_o45 hG h_18
          have b_66 : vp_in x_63 360 := (q_in (by omega) (by omega))
          refine va_iald hx hb hK (va_one at_65) 0 0 rfl rfl b_66 dX10_copies_108 ?_
          refine lv_topi (fun x_67 e_68 => ?_)
          have w_x_67 : x_67 = N1 (B3 + yk.toInt).toNat := by rw [e_68]; exact congrArg (fun q : Int => N1 q.toNat) (show x_63.toInt = B3 + yk.toInt by omega)
          have i_x_67 : x_67.toInt = (N1 (B3 + yk.toInt).toNat).toInt := by rw [w_x_67]
          have b_69 : vp_in x_59 360 := (q_in (by omega) (by omega))
          obtain ⟨q_70, eq_70⟩ : ∃ q : Nat → Int32, q = upd N1 x_59.toNatClampNeg x_67 := ⟨_, rfl⟩
          refine ty_iast (F2 := (mF cI cL cC gC gE gW gA gT gI gS gM K1 F1 S1 q_70 gH gJ ge gk gf gs gg gr RN)) hx hb hK hG hS 0 at_65 (by rw [h_18]; rfl) rfl b_69 (by rw [h_18]; show _ = _; rw [eq_70]) (fun hG b hb h0 => by obtain ⟨e, g1, g2⟩ := hG b h0; exact ⟨e, g1, mF_N (fun h => hb (uq b r_17 (h.trans h_18.symm) h0)) g2⟩) dX10_copies_109 (fun H locs hG hS at_71 o_72 => ?_)
          have at_56 := va_at.keptK at_56 o_72 h_18 k_a0 rfl
          obtain ⟨x_73, e_74⟩ : ∃ y : Int32, y = yk + Int32.ofInt 1 := ⟨_, rfl⟩
          have i_x_73 : x_73.toInt = yk.toInt + 1 := by rw [e_74, show Int32.ofInt 1 = 1 by decide]; exact (q_add (by rw [show (1 : Int32).toInt = 1 by decide]; omega) (by rw [show (1 : Int32).toInt = 1 by decide]; omega)).trans (by rw [show (1 : Int32).toInt = 1 by decide])
          refine lv_iinc (v := x_73) (lv' := [(3, .int x_73), (0, .ref a0), (1, .int a1), (2, .int a2)]) hx hb dX10_copies_110 hl (k := 0) rfl e_74.symm (by decide) rfl (fun ls hl => ?_)
          refine lv_goto (tgt := 82) hx hb dX10_copies_113 (by decide) ?_
          exact (hWW5 _ _ _).mp (ih5 x_73 q_70 H locs ls (by omega) (by omega) (by omega) (by rw [show x_73.toInt = yk.toInt + 1 by omega]; exact cpd.step (i := x_59.toInt) v5_2 (by omega) (by omega) (by omega) (by omega) w_x_67 (by omega) eq_70) hG hS (lv_sub hl [0, 1, 2, 3] rfl))
    have zi_0 : (0 : Int32).toInt = 0 := by decide
    exact lp5 (120 - (0 : Int32).toInt : Int).toNat 0 N H locs ls (by omega) (by omega) (by omega) (by rw [zi_0]; exact cpd.zero) hG hS (lv_sub hl [0, 1, 2, 3] rfl)
  have lp1 : ∀ (kk1 : Nat) (yk : Int32) (K1 : Nat → Int32) (F1 : Nat → Int32) (S1 : Nat → Int32) (H1 : Heap) (locs1 : List Loc) (ls1 : Array Slot), 40 - yk.toInt ≤ (kk1 : Int) → (0 ≤ yk.toInt) → (yk.toInt ≤ 40) → (cpd K K1 A B yk.toInt) → (cpd F F1 A B yk.toInt) → (cpd S S1 A B yk.toInt) → tG D (mF cI cL cC gC gE gW gA gT gI gS gM K1 F1 S1 N gH gJ ge gk gf gs gg gr RN) t H1 → tF t wI s.heap H1 locs1 → lv_has ls1 4 [(3, .int yk), (0, .ref a0), (1, .int a1), (2, .int a2)] → WW1 H1 locs1 (F0 m 2 ls1 []) := by
    intro kk1
    induction kk1 with
    | zero =>
      intro yk K1 F1 S1 H locs ls hk1 v1_0 v1_1 v1_2 v1_3 v1_4 hG hS hl
      refine (hWW1 _ _ _).mpr ?_
      refine lv_iload_n hx hb dX10_copies_2 rfl (lv_at hl 0 rfl) ?_
      refine lv_bipush (v := 40) hx hb dX10_copies_3 (by decide) ?_
      refine lv_pc (pc2 := 5) rfl ?_
      refine lv_icmp_ge (tgt := 80) hx hb dX10_copies_5 (by decide) (fun c_75 => ?_) (fun c_75 => ?_)
      · skip
        have c_75 : 40 ≤ yk.toInt := q_le c_75
        exact (hWW1 _ _ _).mp (kx1 yk K1 F1 S1 H locs ls v1_0 v1_1 v1_2 v1_3 v1_4 (by omega) hG hS (lv_sub hl [0, 1, 2, 3] rfl))
      · skip
        have c_75 : yk.toInt < 40 := q_nle c_75
        exfalso; omega
    | succ kk1 ih1 =>
      intro yk K1 F1 S1 H locs ls hk1 v1_0 v1_1 v1_2 v1_3 v1_4 hG hS hl
      refine (hWW1 _ _ _).mpr ?_
      refine lv_iload_n hx hb dX10_copies_2 rfl (lv_at hl 0 rfl) ?_
      refine lv_bipush (v := 40) hx hb dX10_copies_3 (by decide) ?_
      refine lv_icmp_ge (tgt := 80) hx hb dX10_copies_5 (by decide) (fun c_76 => ?_) (fun c_76 => ?_)
      · skip
        have c_76 : 40 ≤ yk.toInt := q_le c_76
        exact (hWW1 _ _ _).mp (kx1 yk K1 F1 S1 H locs ls v1_0 v1_1 v1_2 v1_3 v1_4 (by omega) hG hS (lv_sub hl [0, 1, 2, 3] rfl))
      · skip
        have c_76 : yk.toInt < 40 := q_nle c_76
        refine lv_aload_n hx hb dX10_copies_8 rfl (lv_at hl 1 rfl) ?_
        obtain ⟨r_77, v_79, r_80, r_82, r_84, r_86, r_88, r_90, r_92, r_94, r_96, r_98, r_100, r_102, r_104, r_106, r_108, r_110, r_112, r_114, r_116, r_118, r_120, v_122, r_123, at_125, h_78, h_81, h_83, h_85, h_87, h_89, h_91, h_93, h_95, h_97, h_99, h_101, h_103, h_105, h_107, h_109, h_111, h_113, h_115, h_117, h_119, h_121, h_124⟩ := mF_o40 hG k_a0
        refine va_get (D := D) (ci := 9) (v := .ref r_80) (C := RX10) (T := TX10) (N := 36) hx hb hts in10 hown hK (va_one at_125) 0 rfl rfl 4 (by decide) (hts (.fieldLink RX10 13 "RiverModelModel" "kind" "[I") (List.mem_of_getElem? (i := 2) rfl)) (fun _ h9 => h9) rfl dX10_copies_9 ?_
        refine lv_bipush (v := 40) hx hb dX10_copies_12 (by decide) ?_
        refine lv_iload_n hx hb dX10_copies_14 rfl (lv_at hl 2 rfl) ?_
        refine lv_pc (pc2 := 15) rfl ?_
        refine lv_imul hx hb dX10_copies_15 ?_
        refine lv_topi (fun x_126 e_127 => ?_)
        have i_x_126 : x_126.toInt = 40 * a1.toInt := by rw [e_127]; exact (q_mul (by rw [show (40 : Int32).toInt = 40 by decide]; omega) (by rw [show (40 : Int32).toInt = 40 by decide]; omega)).trans (by rw [show (40 : Int32).toInt = 40 by decide])
        refine lv_iload_n hx hb dX10_copies_16 rfl (lv_at hl 0 rfl) ?_
        refine lv_iadd hx hb dX10_copies_17 ?_
        refine lv_topi (fun x_128 e_129 => ?_)
        have i_x_128 : x_128.toInt = x_126.toInt + yk.toInt := by rw [e_129]; exact (q_add (by omega) (by omega)).trans (by rfl)
        refine lv_aload_n hx hb dX10_copies_18 rfl (lv_at hl 1 rfl) ?_
        refine va_get (D := D) (ci := 9) (v := .ref r_80) (C := RX10) (T := TX10) (N := 36) hx hb hts in10 hown hK (va_one at_125) 0 rfl rfl 4 (by decide) (hts (.fieldLink RX10 13 "RiverModelModel" "kind" "[I") (List.mem_of_getElem? (i := 2) rfl)) (fun _ h9 => h9) rfl dX10_copies_19 ?_
        refine lv_bipush (v := 40) hx hb dX10_copies_22 (by decide) ?_
        refine lv_iload_n hx hb dX10_copies_24 rfl (lv_at hl 3 rfl) ?_
        refine lv_imul hx hb dX10_copies_25 ?_
        refine lv_topi (fun x_130 e_131 => ?_)
        have i_x_130 : x_130.toInt = 40 * a2.toInt := by rw [e_131]; exact (q_mul (by rw [show (40 : Int32).toInt = 40 by decide]; omega) (by rw [show (40 : Int32).toInt = 40 by decide]; omega)).trans (by rw [show (40 : Int32).toInt = 40 by decide])
        refine lv_pc (pc2 := 26) rfl ?_
        refine lv_iload_n hx hb dX10_copies_26 rfl (lv_at hl 0 rfl) ?_
        refine lv_iadd hx hb dX10_copies_27 ?_
        refine lv_topi (fun x_132 e_133 => ?_)
        have i_x_132 : x_132.toInt = x_130.toInt + yk.toInt := by rw [e_133]; exact (q_add (by omega) (by omega)).trans (by rfl)
        have at_134 := mF_o42 hG h_81
        have b_135 : vp_in x_132 120 := (q_in (by omega) (by omega))
        refine va_iald hx hb hK (va_one at_134) 0 0 rfl rfl b_135 dX10_copies_28 ?_
        refine lv_topi (fun x_136 e_137 => ?_)
        have w_x_136 : x_136 = K1 (B + yk.toInt).toNat := by rw [e_137]; exact congrArg (fun q : Int => K1 q.toNat) (show x_132.toInt = B + yk.toInt by omega)
        have i_x_136 : x_136.toInt = (K1 (B + yk.toInt).toNat).toInt := by rw [w_x_136]
        have b_138 : vp_in x_128 120 := (q_in (by omega) (by omega))
        obtain ⟨q_139, eq_139⟩ : ∃ q : Nat → Int32, q = upd K1 x_128.toNatClampNeg x_136 := ⟨_, rfl⟩
        refine ty_iast (F2 := (mF cI cL cC gC gE gW gA gT gI gS gM q_139 F1 S1 N gH gJ ge gk gf gs gg gr RN)) hx hb hK hG hS 0 at_134 (by rw [h_81]; rfl) rfl b_138 (by rw [h_81]; show _ = _; rw [eq_139]) (fun hG b hb h0 => by obtain ⟨e, g1, g2⟩ := hG b h0; exact ⟨e, g1, mF_K (fun h => hb (uq b r_80 (h.trans h_81.symm) h0)) g2⟩) dX10_copies_29 (fun H locs hG hS at_140 o_141 => ?_)
        have at_125 := va_at.keptK at_125 o_141 h_81 k_a0 rfl
        refine lv_aload_n hx hb dX10_copies_30 rfl (lv_at hl 1 rfl) ?_
        refine va_get (D := D) (ci := 9) (v := .ref r_82) (C := RX10) (T := TX10) (N := 36) hx hb hts in10 hown hK (va_one at_125) 0 rfl rfl 5 (by decide) (hts (.fieldLink RX10 16 "RiverModelModel" "first" "[I") (List.mem_of_getElem? (i := 3) rfl)) (fun _ h9 => h9) rfl dX10_copies_31 ?_
        refine lv_bipush (v := 40) hx hb dX10_copies_34 (by decide) ?_
        refine lv_iload_n hx hb dX10_copies_36 rfl (lv_at hl 2 rfl) ?_
        refine lv_pc (pc2 := 37) rfl ?_
        refine lv_imul hx hb dX10_copies_37 ?_
        refine lv_topi (fun x_142 e_143 => ?_)
        have i_x_142 : x_142.toInt = 40 * a1.toInt := by rw [e_143]; exact (q_mul (by rw [show (40 : Int32).toInt = 40 by decide]; omega) (by rw [show (40 : Int32).toInt = 40 by decide]; omega)).trans (by rw [show (40 : Int32).toInt = 40 by decide])
        refine lv_iload_n hx hb dX10_copies_38 rfl (lv_at hl 0 rfl) ?_
        refine lv_iadd hx hb dX10_copies_39 ?_
        refine lv_topi (fun x_144 e_145 => ?_)
        have i_x_144 : x_144.toInt = x_142.toInt + yk.toInt := by rw [e_145]; exact (q_add (by omega) (by omega)).trans (by rfl)
        refine lv_aload_n hx hb dX10_copies_40 rfl (lv_at hl 1 rfl) ?_
        refine va_get (D := D) (ci := 9) (v := .ref r_82) (C := RX10) (T := TX10) (N := 36) hx hb hts in10 hown hK (va_one at_125) 0 rfl rfl 5 (by decide) (hts (.fieldLink RX10 16 "RiverModelModel" "first" "[I") (List.mem_of_getElem? (i := 3) rfl)) (fun _ h9 => h9) rfl dX10_copies_41 ?_
        refine lv_bipush (v := 40) hx hb dX10_copies_44 (by decide) ?_
        refine lv_iload_n hx hb dX10_copies_46 rfl (lv_at hl 3 rfl) ?_
        refine lv_imul hx hb dX10_copies_47 ?_
        refine lv_topi (fun x_146 e_147 => ?_)
        have i_x_146 : x_146.toInt = 40 * a2.toInt := by rw [e_147]; exact (q_mul (by rw [show (40 : Int32).toInt = 40 by decide]; omega) (by rw [show (40 : Int32).toInt = 40 by decide]; omega)).trans (by rw [show (40 : Int32).toInt = 40 by decide])
        refine lv_pc (pc2 := 48) rfl ?_
        refine lv_iload_n hx hb dX10_copies_48 rfl (lv_at hl 0 rfl) ?_
        refine lv_iadd hx hb dX10_copies_49 ?_
        refine lv_topi (fun x_148 e_149 => ?_)
        have i_x_148 : x_148.toInt = x_146.toInt + yk.toInt := by rw [e_149]; exact (q_add (by omega) (by omega)).trans (by rfl)
        have at_150 := mF_o43 hG h_83
        have b_151 : vp_in x_148 120 := (q_in (by omega) (by omega))
        refine va_iald hx hb hK (va_one at_150) 0 0 rfl rfl b_151 dX10_copies_50 ?_
        refine lv_topi (fun x_152 e_153 => ?_)
        have w_x_152 : x_152 = F1 (B + yk.toInt).toNat := by rw [e_153]; exact congrArg (fun q : Int => F1 q.toNat) (show x_148.toInt = B + yk.toInt by omega)
        have i_x_152 : x_152.toInt = (F1 (B + yk.toInt).toNat).toInt := by rw [w_x_152]
        have b_154 : vp_in x_144 120 := (q_in (by omega) (by omega))
        obtain ⟨q_155, eq_155⟩ : ∃ q : Nat → Int32, q = upd F1 x_144.toNatClampNeg x_152 := ⟨_, rfl⟩
        refine ty_iast (F2 := (mF cI cL cC gC gE gW gA gT gI gS gM q_139 q_155 S1 N gH gJ ge gk gf gs gg gr RN)) hx hb hK hG hS 0 at_150 (by rw [h_83]; rfl) rfl b_154 (by rw [h_83]; show _ = _; rw [eq_155]) (fun hG b hb h0 => by obtain ⟨e, g1, g2⟩ := hG b h0; exact ⟨e, g1, mF_F (fun h => hb (uq b r_82 (h.trans h_83.symm) h0)) g2⟩) dX10_copies_51 (fun H locs hG hS at_156 o_157 => ?_)
        have at_125 := va_at.keptK at_125 o_157 h_83 k_a0 rfl
        refine lv_aload_n hx hb dX10_copies_52 rfl (lv_at hl 1 rfl) ?_
        refine va_get (D := D) (ci := 9) (v := .ref r_84) (C := RX10) (T := TX10) (N := 36) hx hb hts in10 hown hK (va_one at_125) 0 rfl rfl 6 (by decide) (hts (.fieldLink RX10 19 "RiverModelModel" "second" "[I") (List.mem_of_getElem? (i := 4) rfl)) (fun _ h9 => h9) rfl dX10_copies_53 ?_
        refine lv_bipush (v := 40) hx hb dX10_copies_56 (by decide) ?_
        refine lv_iload_n hx hb dX10_copies_58 rfl (lv_at hl 2 rfl) ?_
        refine lv_pc (pc2 := 59) rfl ?_
        refine lv_imul hx hb dX10_copies_59 ?_
        refine lv_topi (fun x_158 e_159 => ?_)
        have i_x_158 : x_158.toInt = 40 * a1.toInt := by rw [e_159]; exact (q_mul (by rw [show (40 : Int32).toInt = 40 by decide]; omega) (by rw [show (40 : Int32).toInt = 40 by decide]; omega)).trans (by rw [show (40 : Int32).toInt = 40 by decide])
        refine lv_iload_n hx hb dX10_copies_60 rfl (lv_at hl 0 rfl) ?_
        refine lv_iadd hx hb dX10_copies_61 ?_
        refine lv_topi (fun x_160 e_161 => ?_)
        have i_x_160 : x_160.toInt = x_158.toInt + yk.toInt := by rw [e_161]; exact (q_add (by omega) (by omega)).trans (by rfl)
        refine lv_aload_n hx hb dX10_copies_62 rfl (lv_at hl 1 rfl) ?_
        refine va_get (D := D) (ci := 9) (v := .ref r_84) (C := RX10) (T := TX10) (N := 36) hx hb hts in10 hown hK (va_one at_125) 0 rfl rfl 6 (by decide) (hts (.fieldLink RX10 19 "RiverModelModel" "second" "[I") (List.mem_of_getElem? (i := 4) rfl)) (fun _ h9 => h9) rfl dX10_copies_63 ?_
        refine lv_bipush (v := 40) hx hb dX10_copies_66 (by decide) ?_
        refine lv_iload_n hx hb dX10_copies_68 rfl (lv_at hl 3 rfl) ?_
        refine lv_imul hx hb dX10_copies_69 ?_
        refine lv_topi (fun x_162 e_163 => ?_)
        have i_x_162 : x_162.toInt = 40 * a2.toInt := by rw [e_163]; exact (q_mul (by rw [show (40 : Int32).toInt = 40 by decide]; omega) (by rw [show (40 : Int32).toInt = 40 by decide]; omega)).trans (by rw [show (40 : Int32).toInt = 40 by decide])
        refine lv_pc (pc2 := 70) rfl ?_
        refine lv_iload_n hx hb dX10_copies_70 rfl (lv_at hl 0 rfl) ?_
        refine lv_iadd hx hb dX10_copies_71 ?_
        refine lv_topi (fun x_164 e_165 => ?_)
        have i_x_164 : x_164.toInt = x_162.toInt + yk.toInt := by rw [e_165]; exact (q_add (by omega) (by omega)).trans (by rfl)
        have at_166 := mF_o44 hG h_85
        have b_167 : vp_in x_164 120 := (q_in (by omega) (by omega))
        refine va_iald hx hb hK (va_one at_166) 0 0 rfl rfl b_167 dX10_copies_72 ?_
        refine lv_topi (fun x_168 e_169 => ?_)
        have w_x_168 : x_168 = S1 (B + yk.toInt).toNat := by rw [e_169]; exact congrArg (fun q : Int => S1 q.toNat) (show x_164.toInt = B + yk.toInt by omega)
        have i_x_168 : x_168.toInt = (S1 (B + yk.toInt).toNat).toInt := by rw [w_x_168]
        have b_170 : vp_in x_160 120 := (q_in (by omega) (by omega))
        obtain ⟨q_171, eq_171⟩ : ∃ q : Nat → Int32, q = upd S1 x_160.toNatClampNeg x_168 := ⟨_, rfl⟩
        refine ty_iast (F2 := (mF cI cL cC gC gE gW gA gT gI gS gM q_139 q_155 q_171 N gH gJ ge gk gf gs gg gr RN)) hx hb hK hG hS 0 at_166 (by rw [h_85]; rfl) rfl b_170 (by rw [h_85]; show _ = _; rw [eq_171]) (fun hG b hb h0 => by obtain ⟨e, g1, g2⟩ := hG b h0; exact ⟨e, g1, mF_S (fun h => hb (uq b r_84 (h.trans h_85.symm) h0)) g2⟩) dX10_copies_73 (fun H locs hG hS at_172 o_173 => ?_)
        have at_125 := va_at.keptK at_125 o_173 h_85 k_a0 rfl
        obtain ⟨x_174, e_175⟩ : ∃ y : Int32, y = yk + Int32.ofInt 1 := ⟨_, rfl⟩
        have i_x_174 : x_174.toInt = yk.toInt + 1 := by rw [e_175, show Int32.ofInt 1 = 1 by decide]; exact (q_add (by rw [show (1 : Int32).toInt = 1 by decide]; omega) (by rw [show (1 : Int32).toInt = 1 by decide]; omega)).trans (by rw [show (1 : Int32).toInt = 1 by decide])
        refine lv_iinc (v := x_174) (lv' := [(3, .int x_174), (0, .ref a0), (1, .int a1), (2, .int a2)]) hx hb dX10_copies_74 hl (k := 0) rfl e_175.symm (by decide) rfl (fun ls hl => ?_)
        refine lv_goto (tgt := 2) hx hb dX10_copies_77 (by decide) ?_
        exact (hWW1 _ _ _).mp (ih1 x_174 q_139 q_155 q_171 H locs ls (by omega) (by omega) (by omega) (by rw [show x_174.toInt = yk.toInt + 1 by omega]; exact cpd.step (i := x_128.toInt) v1_2 (by omega) (by omega) (by omega) (by omega) w_x_136 (by omega) eq_139) (by rw [show x_174.toInt = yk.toInt + 1 by omega]; exact cpd.step (i := x_144.toInt) v1_3 (by omega) (by omega) (by omega) (by omega) w_x_152 (by omega) eq_155) (by rw [show x_174.toInt = yk.toInt + 1 by omega]; exact cpd.step (i := x_160.toInt) v1_4 (by omega) (by omega) (by omega) (by omega) w_x_168 (by omega) eq_171) hG hS (lv_sub hl [0, 1, 2, 3] rfl))
  have zi_0 : (0 : Int32).toInt = 0 := by decide
  exact lp1 (40 - (0 : Int32).toInt : Int).toNat 0 K F S H locs ls (by omega) (by omega) (by omega) (by rw [zi_0]; exact cpd.zero) (by rw [zi_0]; exact cpd.zero) (by rw [zi_0]; exact cpd.zero) hG hS (lv_sub hl [0, 1, 2, 3] rfl)

def uX10_storeAt : List Cond := .code yX10_storeAt cX10_storeAt 5 (some .int) :: ([.fieldLink RX10 163 "RiverModelModel" "items" "I", .fieldLink RX10 13 "RiverModelModel" "kind" "[I", .fieldLink RX10 16 "RiverModelModel" "first" "[I"] ++ wsX100)
set_option maxHeartbeats 4000000 in
set_option maxRecDepth 100000 in
theorem m_X10_storeAt (l : Launch) (D : va_G) (t : Nat → Nat) (cI cL cC : ClassId) (gC : Int32) (gE : Int32) (gW : Nat → Int32) (gA : Nat → Int32) (gT : Nat → Int32) (gI : Int32) (gS : Int32) (gM : Int32) (K : Nat → Int32) (F : Nat → Int32) (S : Nat → Int32) (N : Nat → Int32) (gH : Int) (gJ : Int) (ge : Int32) (gk : Int32) (gf : Int32) (gs : Int32) (gg : Int32) (gr : Int32) (RN : Nat → Int32) (a0 : Nat) (a1 : Int32) (a2 : Int32) (M : Int) (uq : ∀ b c : Nat, t b = t c → t b ≠ 0 → b = c) (hMb : 40 * a1.toInt = M) (hM0 : 0 ≤ a1.toInt) (hM2 : a1.toInt ≤ 2) (hI0 : 0 ≤ gI.toInt) (hI4 : gI.toInt ≤ 40) (k_a0 : t a0 = 40) : tM l yX10_storeAt uX10_storeAt 0 0 D (mF cI cL cC gC gE gW gA gT gI gS gM K F S N gH gJ ge gk gf gs gg gr RN) (mF cI cL cC gC gE gW gA gT gI gS gM K F S N gH gJ ge gk gf gs gg gr RN) t cI cL cC [.ref a0, .int a1, .int a2] wr0 (pI (fun r => -1 ≤ r.toInt ∧ r.toInt < gI.toInt ∧ hsI r (hasS K F M gI.toInt a2))) := by
  refine tM.ofW (cc := cX10_storeAt) (maxL := 5) (ret := (some .int)) (by decide) rfl (Nat.le_of_ble_eq_true rfl) ?_
  intro p e s m below meth c hx hb hr hml hown hts hlk H locs hG hK hE hS ls hl
  have hl : lv_has ls 5 [(0, .ref a0), (1, .int a1), (2, .int a2)] := hl
  have in10 : ∀ w ∈ wsX100, w ∈ uX10_storeAt := fun w h => List.mem_cons_of_mem _ (List.mem_append_right _ h)
  refine lv_iconst (v := (-1)) hx hb dX10_storeAt_0 (by decide) ?_
  refine lv_istore_n (lv' := [(3, .int (-1)), (0, .ref a0), (1, .int a1), (2, .int a2)]) hx hb dX10_storeAt_1 rfl hl (by decide) rfl (fun ls hl => ?_)
  refine lv_iconst (v := 0) hx hb dX10_storeAt_2 (by decide) ?_
  refine lv_istore (lv' := [(4, .int 0), (3, .int (-1)), (0, .ref a0), (1, .int a1), (2, .int a2)]) hx hb dX10_storeAt_3 hl (by decide) rfl (fun ls hl => ?_)
  refine lv_pc (pc2 := 5) rfl ?_
  refine lp_gen (fun WW1 hWW1 => ?_)
  have kx1 : ∀ (yi : Int32) (yf : Int32) (H1 : Heap) (locs1 : List Loc) (ls1 : Array Slot), (0 ≤ yi.toInt) → (yi.toInt ≤ gI.toInt) → (-1 ≤ yf.toInt) → (yf.toInt < yi.toInt) → (hsI yf (hasS K F M yi.toInt a2)) → (gI.toInt ≤ yi.toInt) → tG D (mF cI cL cC gC gE gW gA gT gI gS gM K F S N gH gJ ge gk gf gs gg gr RN) t H1 → tF t wr0 s.heap H1 locs1 → lv_has ls1 5 [(4, .int yi), (3, .int yf), (0, .ref a0), (1, .int a1), (2, .int a2)] → WW1 H1 locs1 (F0 m 60 ls1 []) := by
    intro yi yf H locs ls v1_0 v1_1 v1_2 v1_3 v1_4 xf1_0 hG hS hl
    refine (hWW1 _ _ _).mpr ?_
    refine lv_iload_n hx hb dX10_storeAt_60 rfl (lv_at hl 1 rfl) ?_
    exact ty_iret hx hb hr hlk hG hS ⟨(by show -1 ≤ yf.toInt; omega), (by show yf.toInt < gI.toInt; omega), (by rw [show gI.toInt = yi.toInt by omega]; exact v1_4)⟩ dX10_storeAt_61
  have lp1 : ∀ (kk1 : Nat) (yi : Int32) (yf : Int32) (H1 : Heap) (locs1 : List Loc) (ls1 : Array Slot), gI.toInt - yi.toInt ≤ (kk1 : Int) → (0 ≤ yi.toInt) → (yi.toInt ≤ gI.toInt) → (-1 ≤ yf.toInt) → (yf.toInt < yi.toInt) → (hsI yf (hasS K F M yi.toInt a2)) → tG D (mF cI cL cC gC gE gW gA gT gI gS gM K F S N gH gJ ge gk gf gs gg gr RN) t H1 → tF t wr0 s.heap H1 locs1 → lv_has ls1 5 [(4, .int yi), (3, .int yf), (0, .ref a0), (1, .int a1), (2, .int a2)] → WW1 H1 locs1 (F0 m 5 ls1 []) := by
    intro kk1
    induction kk1 with
    | zero =>
      intro yi yf H locs ls hk1 v1_0 v1_1 v1_2 v1_3 v1_4 hG hS hl
      refine (hWW1 _ _ _).mpr ?_
      refine lv_iload hx hb dX10_storeAt_5 (lv_at hl 0 rfl) ?_
      refine lv_pc (pc2 := 7) rfl ?_
      refine lv_aload_n hx hb dX10_storeAt_7 rfl (lv_at hl 2 rfl) ?_
      obtain ⟨r_2, v_4, r_5, r_7, r_9, r_11, r_13, r_15, r_17, r_19, r_21, r_23, r_25, r_27, r_29, r_31, r_33, r_35, r_37, r_39, r_41, r_43, r_45, v_47, r_48, at_50, h_3, h_6, h_8, h_10, h_12, h_14, h_16, h_18, h_20, h_22, h_24, h_26, h_28, h_30, h_32, h_34, h_36, h_38, h_40, h_42, h_44, h_46, h_49⟩ := mF_o40 hG k_a0
      refine va_get (D := D) (ci := 9) (v := .int gI) (C := RX10) (T := TX10) (N := 36) hx hb hts in10 hown hK (va_one at_50) 0 rfl rfl 3 (by decide) (hts (.fieldLink RX10 163 "RiverModelModel" "items" "I") (List.mem_of_getElem? (i := 1) rfl)) (fun _ h9 => h9) rfl dX10_storeAt_8 ?_
      refine lv_icmp_ge (tgt := 60) hx hb dX10_storeAt_11 (by decide) (fun c_51 => ?_) (fun c_51 => ?_)
      · skip
        have c_51 : gI.toInt ≤ yi.toInt := q_le c_51
        exact (hWW1 _ _ _).mp (kx1 yi yf H locs ls v1_0 v1_1 v1_2 v1_3 v1_4 (by omega) hG hS (lv_sub hl [0, 1, 2, 3, 4] rfl))
      · skip
        have c_51 : yi.toInt < gI.toInt := q_nle c_51
        exfalso; omega
    | succ kk1 ih1 =>
      intro yi yf H locs ls hk1 v1_0 v1_1 v1_2 v1_3 v1_4 hG hS hl
      refine (hWW1 _ _ _).mpr ?_
      refine lv_iload hx hb dX10_storeAt_5 (lv_at hl 0 rfl) ?_
      refine lv_aload_n hx hb dX10_storeAt_7 rfl (lv_at hl 2 rfl) ?_
      obtain ⟨r_52, v_54, r_55, r_57, r_59, r_61, r_63, r_65, r_67, r_69, r_71, r_73, r_75, r_77, r_79, r_81, r_83, r_85, r_87, r_89, r_91, r_93, r_95, v_97, r_98, at_100, h_53, h_56, h_58, h_60, h_62, h_64, h_66, h_68, h_70, h_72, h_74, h_76, h_78, h_80, h_82, h_84, h_86, h_88, h_90, h_92, h_94, h_96, h_99⟩ := mF_o40 hG k_a0
      refine va_get (D := D) (ci := 9) (v := .int gI) (C := RX10) (T := TX10) (N := 36) hx hb hts in10 hown hK (va_one at_100) 0 rfl rfl 3 (by decide) (hts (.fieldLink RX10 163 "RiverModelModel" "items" "I") (List.mem_of_getElem? (i := 1) rfl)) (fun _ h9 => h9) rfl dX10_storeAt_8 ?_
      refine lv_icmp_ge (tgt := 60) hx hb dX10_storeAt_11 (by decide) (fun c_101 => ?_) (fun c_101 => ?_)
      · skip
        have c_101 : gI.toInt ≤ yi.toInt := q_le c_101
        exact (hWW1 _ _ _).mp (kx1 yi yf H locs ls v1_0 v1_1 v1_2 v1_3 v1_4 (by omega) hG hS (lv_sub hl [0, 1, 2, 3, 4] rfl))
      · skip
        have c_101 : yi.toInt < gI.toInt := q_nle c_101
        refine lv_aload_n hx hb dX10_storeAt_14 rfl (lv_at hl 2 rfl) ?_
        refine lv_pc (pc2 := 15) rfl ?_
        refine va_get (D := D) (ci := 9) (v := .ref r_55) (C := RX10) (T := TX10) (N := 36) hx hb hts in10 hown hK (va_one at_100) 0 rfl rfl 4 (by decide) (hts (.fieldLink RX10 13 "RiverModelModel" "kind" "[I") (List.mem_of_getElem? (i := 2) rfl)) (fun _ h9 => h9) rfl dX10_storeAt_15 ?_
        refine lv_bipush (v := 40) hx hb dX10_storeAt_18 (by decide) ?_
        refine lv_iload_n hx hb dX10_storeAt_20 rfl (lv_at hl 3 rfl) ?_
        refine lv_imul hx hb dX10_storeAt_21 ?_
        refine lv_topi (fun x_102 e_103 => ?_)
        have i_x_102 : x_102.toInt = 40 * a1.toInt := by rw [e_103]; exact (q_mul (by rw [show (40 : Int32).toInt = 40 by decide]; omega) (by rw [show (40 : Int32).toInt = 40 by decide]; omega)).trans (by rw [show (40 : Int32).toInt = 40 by decide])
        refine lv_iload hx hb dX10_storeAt_22 (lv_at hl 0 rfl) ?_
        refine lv_iadd hx hb dX10_storeAt_24 ?_
        refine lv_topi (fun x_104 e_105 => ?_)
        have i_x_104 : x_104.toInt = x_102.toInt + yi.toInt := by rw [e_105]; exact (q_add (by omega) (by omega)).trans (by rfl)
        have at_106 := mF_o42 hG h_56
        have b_107 : vp_in x_104 120 := (q_in (by omega) (by omega))
        refine va_iald hx hb hK (va_one at_106) 0 0 rfl rfl b_107 dX10_storeAt_25 ?_
        refine lv_topi (fun x_108 e_109 => ?_)
        have w_x_108 : x_108 = K (M + yi.toInt).toNat := by rw [e_109]; exact congrArg (fun q : Int => K q.toNat) (show x_104.toInt = M + yi.toInt by omega)
        have i_x_108 : x_108.toInt = (K (M + yi.toInt).toNat).toInt := by rw [w_x_108]
        refine lv_bipush (v := 115) hx hb dX10_storeAt_26 (by decide) ?_
        refine lv_pc (pc2 := 28) rfl ?_
        refine lv_icmp_ne (tgt := 52) hx hb dX10_storeAt_28 (by decide) (fun c_110 => ?_) (fun c_110 => ?_)
        · skip
          have c_110 : x_108.toInt ≠ 115 := q_ne c_110
          refine lv_iload_n hx hb dX10_storeAt_52 rfl (lv_at hl 1 rfl) ?_
          refine lv_istore_n (lv' := [(3, .int yf), (4, .int yi), (0, .ref a0), (1, .int a1), (2, .int a2)]) hx hb dX10_storeAt_53 rfl hl (by decide) rfl (fun ls hl => ?_)
          obtain ⟨x_111, e_112⟩ : ∃ y : Int32, y = yi + Int32.ofInt 1 := ⟨_, rfl⟩
          have i_x_111 : x_111.toInt = yi.toInt + 1 := by rw [e_112, show Int32.ofInt 1 = 1 by decide]; exact (q_add (by rw [show (1 : Int32).toInt = 1 by decide]; omega) (by rw [show (1 : Int32).toInt = 1 by decide]; omega)).trans (by rw [show (1 : Int32).toInt = 1 by decide])
          refine lv_iinc (v := x_111) (lv' := [(4, .int x_111), (3, .int yf), (0, .ref a0), (1, .int a1), (2, .int a2)]) hx hb dX10_storeAt_54 hl (k := 1) rfl e_112.symm (by decide) rfl (fun ls hl => ?_)
          refine lv_goto (tgt := 5) hx hb dX10_storeAt_57 (by decide) ?_
          exact (hWW1 _ _ _).mp (ih1 x_111 yf H locs ls (by omega) (by omega) (by omega) (by omega) (by omega) (hs_miss v1_4 (by omega) (by omega)) hG hS (lv_sub hl [0, 1, 2, 3, 4] rfl))
        · skip
          have c_110 : x_108.toInt = 115 := q_eq c_110
          refine lv_aload_n hx hb dX10_storeAt_31 rfl (lv_at hl 2 rfl) ?_
          refine va_get (D := D) (ci := 9) (v := .ref r_57) (C := RX10) (T := TX10) (N := 36) hx hb hts in10 hown hK (va_one at_100) 0 rfl rfl 5 (by decide) (hts (.fieldLink RX10 16 "RiverModelModel" "first" "[I") (List.mem_of_getElem? (i := 3) rfl)) (fun _ h9 => h9) rfl dX10_storeAt_32 ?_
          refine lv_bipush (v := 40) hx hb dX10_storeAt_35 (by decide) ?_
          refine lv_pc (pc2 := 37) rfl ?_
          refine lv_iload_n hx hb dX10_storeAt_37 rfl (lv_at hl 3 rfl) ?_
          refine lv_imul hx hb dX10_storeAt_38 ?_
          refine lv_topi (fun x_113 e_114 => ?_)
          have i_x_113 : x_113.toInt = 40 * a1.toInt := by rw [e_114]; exact (q_mul (by rw [show (40 : Int32).toInt = 40 by decide]; omega) (by rw [show (40 : Int32).toInt = 40 by decide]; omega)).trans (by rw [show (40 : Int32).toInt = 40 by decide])
          refine lv_iload hx hb dX10_storeAt_39 (lv_at hl 0 rfl) ?_
          refine lv_iadd hx hb dX10_storeAt_41 ?_
          refine lv_topi (fun x_115 e_116 => ?_)
          have i_x_115 : x_115.toInt = x_113.toInt + yi.toInt := by rw [e_116]; exact (q_add (by omega) (by omega)).trans (by rfl)
          have at_117 := mF_o43 hG h_58
          have b_118 : vp_in x_115 120 := (q_in (by omega) (by omega))
          refine va_iald hx hb hK (va_one at_117) 0 0 rfl rfl b_118 dX10_storeAt_42 ?_
          refine lv_topi (fun x_119 e_120 => ?_)
          have w_x_119 : x_119 = F (M + yi.toInt).toNat := by rw [e_120]; exact congrArg (fun q : Int => F q.toNat) (show x_115.toInt = M + yi.toInt by omega)
          have i_x_119 : x_119.toInt = (F (M + yi.toInt).toNat).toInt := by rw [w_x_119]
          refine lv_iload_n hx hb dX10_storeAt_43 rfl (lv_at hl 4 rfl) ?_
          refine lv_icmp_ne (tgt := 52) hx hb dX10_storeAt_44 (by decide) (fun c_121 => ?_) (fun c_121 => ?_)
          · skip
            have c_121 : x_119.toInt ≠ a2.toInt := q_ne c_121
            refine lv_iload_n hx hb dX10_storeAt_52 rfl (lv_at hl 1 rfl) ?_
            refine lv_pc (pc2 := 53) rfl ?_
            refine lv_istore_n (lv' := [(3, .int yf), (4, .int yi), (0, .ref a0), (1, .int a1), (2, .int a2)]) hx hb dX10_storeAt_53 rfl hl (by decide) rfl (fun ls hl => ?_)
            obtain ⟨x_122, e_123⟩ : ∃ y : Int32, y = yi + Int32.ofInt 1 := ⟨_, rfl⟩
            have i_x_122 : x_122.toInt = yi.toInt + 1 := by rw [e_123, show Int32.ofInt 1 = 1 by decide]; exact (q_add (by rw [show (1 : Int32).toInt = 1 by decide]; omega) (by rw [show (1 : Int32).toInt = 1 by decide]; omega)).trans (by rw [show (1 : Int32).toInt = 1 by decide])
            refine lv_iinc (v := x_122) (lv' := [(4, .int x_122), (3, .int yf), (0, .ref a0), (1, .int a1), (2, .int a2)]) hx hb dX10_storeAt_54 hl (k := 1) rfl e_123.symm (by decide) rfl (fun ls hl => ?_)
            refine lv_goto (tgt := 5) hx hb dX10_storeAt_57 (by decide) ?_
            exact (hWW1 _ _ _).mp (ih1 x_122 yf H locs ls (by omega) (by omega) (by omega) (by omega) (by omega) (hs_miss v1_4 (by omega) (by omega)) hG hS (lv_sub hl [0, 1, 2, 3, 4] rfl))
          · skip
            have c_121 : x_119.toInt = a2.toInt := q_eq c_121
            refine lv_iload hx hb dX10_storeAt_47 (lv_at hl 0 rfl) ?_
            refine lv_goto (tgt := 53) hx hb dX10_storeAt_49 (by decide) ?_
            refine lv_istore_n (lv' := [(3, .int yi), (4, .int yi), (0, .ref a0), (1, .int a1), (2, .int a2)]) hx hb dX10_storeAt_53 rfl hl (by decide) rfl (fun ls hl => ?_)
            obtain ⟨x_124, e_125⟩ : ∃ y : Int32, y = yi + Int32.ofInt 1 := ⟨_, rfl⟩
            have i_x_124 : x_124.toInt = yi.toInt + 1 := by rw [e_125, show Int32.ofInt 1 = 1 by decide]; exact (q_add (by rw [show (1 : Int32).toInt = 1 by decide]; omega) (by rw [show (1 : Int32).toInt = 1 by decide]; omega)).trans (by rw [show (1 : Int32).toInt = 1 by decide])
            refine lv_iinc (v := x_124) (lv' := [(4, .int x_124), (3, .int yi), (0, .ref a0), (1, .int a1), (2, .int a2)]) hx hb dX10_storeAt_54 hl (k := 1) rfl e_125.symm (by decide) rfl (fun ls hl => ?_)
            refine lv_goto (tgt := 5) hx hb dX10_storeAt_57 (by decide) ?_
            exact (hWW1 _ _ _).mp (ih1 x_124 yi H locs ls (by omega) (by omega) (by omega) (by omega) (by omega) (hs_hit (by omega) (by omega) (by omega) (by omega)) hG hS (lv_sub hl [0, 1, 2, 3, 4] rfl))
  have zi_0 : (0 : Int32).toInt = 0 := by decide
  have zi_m1 : ((-1) : Int32).toInt = (-1) := by decide
  exact lp1 (gI.toInt - (0 : Int32).toInt : Int).toNat 0 (-1) H locs ls (by omega) (by omega) (by omega) (by omega) (by omega) (hs_init (by decide) (by omega)) hG hS (lv_sub hl [0, 1, 2, 3, 4] rfl)

def uX10_isStore : List Cond := .code yX10_isStore cX10_isStore 2 (some .boolean) :: ([.methodLink RX10 166 yX10_storeAt, .instanceMethod yX10_storeAt, .selects RX10 yX10_storeAt yX10_storeAt, .initialized RX10, .code yX10_storeAt cX10_storeAt 5 (some .int), .fieldLink RX10 163 "RiverModelModel" "items" "I", .fieldLink RX10 13 "RiverModelModel" "kind" "[I", .fieldLink RX10 16 "RiverModelModel" "first" "[I"] ++ wsX100)
set_option maxRecDepth 20000 in
theorem gu_X10_isStore_X10_storeAt_166 : GoodIn uX10_isStore (wsV RX10 166 RX10 yX10_storeAt uX10_storeAt) := goodIn_r _ [1, 2, 3, 4, 5, 6, 7, 8, 9, 10, 11, 12, 13, 14, 15, 16, 17, 18, 19, 20, 21, 22, 23, 24, 25, 26, 27, 28, 29, 30, 31, 32, 33, 34, 35, 36, 37, 38, 39, 40, 41, 42, 43, 44] rfl (by decide +kernel)
set_option maxHeartbeats 4000000 in
set_option maxRecDepth 100000 in
theorem m_X10_isStore (l : Launch) (D : va_G) (t : Nat → Nat) (cI cL cC : ClassId) (gC : Int32) (gE : Int32) (gW : Nat → Int32) (gA : Nat → Int32) (gT : Nat → Int32) (gI : Int32) (gS : Int32) (gM : Int32) (K : Nat → Int32) (F : Nat → Int32) (S : Nat → Int32) (N : Nat → Int32) (gH : Int) (gJ : Int) (ge : Int32) (gk : Int32) (gf : Int32) (gs : Int32) (gg : Int32) (gr : Int32) (RN : Nat → Int32) (a0 : Nat) (a1 : Int32) (uq : ∀ b c : Nat, t b = t c → t b ≠ 0 → b = c) (hI0 : 0 ≤ gI.toInt) (hI4 : gI.toInt ≤ 40) (k_a0 : t a0 = 40) : tM l yX10_isStore uX10_isStore 1 24 D (mF cI cL cC gC gE gW gA gT gI gS gM K F S N gH gJ ge gk gf gs gg gr RN) (mF cI cL cC gC gE gW gA gT gI gS gM K F S N gH gJ ge gk gf gs gg gr RN) t cI cL cC [.ref a0, .int a1] wr0 (pI (fun r => (r = 1 ∧ hasS K F 0 gI.toInt a1) ∨ (r = 0 ∧ ¬ hasS K F 0 gI.toInt a1))) := by
  refine tM.ofW (cc := cX10_isStore) (maxL := 2) (ret := (some .boolean)) (by decide) rfl (Nat.le_of_ble_eq_true rfl) ?_
  intro p e s m below meth c hx hb hr hml hown hts hlk H locs hG hK hE hS ls hl
  have hl : lv_has ls 2 [(0, .ref a0), (1, .int a1)] := hl
  skip
  refine lv_aload_n hx hb dX10_isStore_0 rfl (lv_at hl 0 rfl) ?_
  refine lv_iconst (v := 0) hx hb dX10_isStore_1 (by decide) ?_
  refine lv_iload_n hx hb dX10_isStore_2 rfl (lv_at hl 1 rfl) ?_
  have zi_0 : (0 : Int32).toInt = 0 := by decide
  obtain ⟨r_1, v_3, r_4, r_6, r_8, r_10, r_12, r_14, r_16, r_18, r_20, r_22, r_24, r_26, r_28, r_30, r_32, r_34, r_36, r_38, r_40, r_42, r_44, v_46, r_47, at_49, h_2, h_5, h_7, h_9, h_11, h_13, h_15, h_17, h_19, h_21, h_23, h_25, h_27, h_29, h_31, h_33, h_35, h_37, h_39, h_41, h_43, h_45, h_48⟩ := mF_o40 hG k_a0
  refine ty_calli (W.runV (As := [.int 0, .int a1]) (rest := []) ⟨hx, hb, hml, hown, hts⟩ (m_X10_storeAt l D t cI cL cC gC gE gW gA gT gI gS gM K F S N gH gJ ge gk gf gs gg gr RN a0 0 a1 0 uq (by omega) (by omega) (by omega) (by omega) (by omega) k_a0) (cwV 2 hts gu_X10_isStore_X10_storeAt_166 rfl rfl rfl (by decide +kernel) ⟨Nat.le_of_ble_eq_true rfl, Nat.le_of_ble_eq_true rfl⟩) (tP_V hG hE at_49 rfl) rfl rfl hl.1 rfl (lv_room (Nat.le_of_ble_eq_true rfl)) dX10_isStore_3 ⟨Nat.le_of_ble_eq_true rfl, Nat.le_of_ble_eq_true rfl⟩) hS (fun _ h => h) (fun r_50 H locs hp_51 hG hS o_52 => ?_)
  have at_49 := va_at.keptC at_49 o_52 k_a0 rfl
  have hp_51 : -1 ≤ r_50.toInt ∧ r_50.toInt < gI.toInt ∧ hsI r_50 (hasS K F 0 gI.toInt a1) := hp_51
  obtain ⟨p_54, p_55, p_56⟩ := hp_51
  refine lv_if_lt (tgt := 13) hx hb dX10_isStore_6 (by decide) (fun c_57 => ?_) (fun c_57 => ?_)
  · skip
    have c_57 : r_50.toInt < 0 := q_lt c_57
    refine lv_iconst (v := 0) hx hb dX10_isStore_13 (by decide) ?_
    exact ty_zret hx hb hr hlk rfl hG hS (Or.inr ⟨rfl, (fun q => absurd (p_56.mpr q) (by omega))⟩) dX10_isStore_14
  · skip
    have c_57 : 0 ≤ r_50.toInt := q_nlt c_57
    refine lv_pc (pc2 := 9) rfl ?_
    refine lv_iconst (v := 1) hx hb dX10_isStore_9 (by decide) ?_
    refine lv_goto (tgt := 14) hx hb dX10_isStore_10 (by decide) ?_
    have zi_1 : (1 : Int32).toInt = 1 := by decide
    exact ty_zret hx hb hr hlk rfl hG hS (Or.inl ⟨rfl, (p_56.mp (by omega))⟩) dX10_isStore_14

def uX10_startOf : List Cond := .code yX10_startOf cX10_startOf 4 (some .int) :: ([.methodLink RX10 166 yX10_storeAt, .instanceMethod yX10_storeAt, .selects RX10 yX10_storeAt yX10_storeAt, .initialized RX10, .fieldLink RX10 22 "RiverModelModel" "number" "[I", .code yX10_storeAt cX10_storeAt 5 (some .int), .fieldLink RX10 163 "RiverModelModel" "items" "I", .fieldLink RX10 13 "RiverModelModel" "kind" "[I", .fieldLink RX10 16 "RiverModelModel" "first" "[I"] ++ wsX100)
set_option maxRecDepth 20000 in
theorem gu_X10_startOf_X10_storeAt_166 : GoodIn uX10_startOf (wsV RX10 166 RX10 yX10_storeAt uX10_storeAt) := goodIn_r _ [1, 2, 3, 4, 6, 7, 8, 9, 10, 11, 12, 13, 14, 15, 16, 17, 18, 19, 20, 21, 22, 23, 24, 25, 26, 27, 28, 29, 30, 31, 32, 33, 34, 35, 36, 37, 38, 39, 40, 41, 42, 43, 44, 45] rfl (by decide +kernel)
set_option maxHeartbeats 4000000 in
set_option maxRecDepth 100000 in
theorem m_X10_startOf (l : Launch) (D : va_G) (t : Nat → Nat) (cI cL cC : ClassId) (gC : Int32) (gE : Int32) (gW : Nat → Int32) (gA : Nat → Int32) (gT : Nat → Int32) (gI : Int32) (gS : Int32) (gM : Int32) (K : Nat → Int32) (F : Nat → Int32) (S : Nat → Int32) (N : Nat → Int32) (gH : Int) (gJ : Int) (ge : Int32) (gk : Int32) (gf : Int32) (gs : Int32) (gg : Int32) (gr : Int32) (RN : Nat → Int32) (a0 : Nat) (a1 : Int32) (a2 : Int32) (M : Int) (uq : ∀ b c : Nat, t b = t c → t b ≠ 0 → b = c) (hMb : 40 * a1.toInt = M) (hM0 : 0 ≤ a1.toInt) (hM2 : a1.toInt ≤ 2) (hI0 : 0 ≤ gI.toInt) (hI4 : gI.toInt ≤ 40) (k_a0 : t a0 = 40) : tM l yX10_startOf uX10_startOf 1 24 D (mF cI cL cC gC gE gW gA gT gI gS gM K F S N gH gJ ge gk gf gs gg gr RN) (mF cI cL cC gC gE gW gA gT gI gS gM K F S N gH gJ ge gk gf gs gg gr RN) t cI cL cC [.ref a0, .int a1, .int a2] wr0 (pI (fun r => True)) := by
  refine tM.ofW (cc := cX10_startOf) (maxL := 4) (ret := (some .int)) (by decide) rfl (Nat.le_of_ble_eq_true rfl) ?_
  intro p e s m below meth c hx hb hr hml hown hts hlk H locs hG hK hE hS ls hl
  have hl : lv_has ls 4 [(0, .ref a0), (1, .int a1), (2, .int a2)] := hl
  have in10 : ∀ w ∈ wsX100, w ∈ uX10_startOf := fun w h => List.mem_cons_of_mem _ (List.mem_append_right _ h)
  refine lv_aload_n hx hb dX10_startOf_0 rfl (lv_at hl 0 rfl) ?_
  refine lv_iload_n hx hb dX10_startOf_1 rfl (lv_at hl 1 rfl) ?_
  refine lv_iload_n hx hb dX10_startOf_2 rfl (lv_at hl 2 rfl) ?_
  obtain ⟨r_1, v_3, r_4, r_6, r_8, r_10, r_12, r_14, r_16, r_18, r_20, r_22, r_24, r_26, r_28, r_30, r_32, r_34, r_36, r_38, r_40, r_42, r_44, v_46, r_47, at_49, h_2, h_5, h_7, h_9, h_11, h_13, h_15, h_17, h_19, h_21, h_23, h_25, h_27, h_29, h_31, h_33, h_35, h_37, h_39, h_41, h_43, h_45, h_48⟩ := mF_o40 hG k_a0
  refine ty_calli (W.runV (As := [.int a1, .int a2]) (rest := []) ⟨hx, hb, hml, hown, hts⟩ (m_X10_storeAt l D t cI cL cC gC gE gW gA gT gI gS gM K F S N gH gJ ge gk gf gs gg gr RN a0 a1 a2 M uq (by omega) (by omega) (by omega) (by omega) (by omega) k_a0) (cwV 2 hts gu_X10_startOf_X10_storeAt_166 rfl rfl rfl (by decide +kernel) ⟨Nat.le_of_ble_eq_true rfl, Nat.le_of_ble_eq_true rfl⟩) (tP_V hG hE at_49 rfl) rfl rfl hl.1 rfl (lv_room (Nat.le_of_ble_eq_true rfl)) dX10_startOf_3 ⟨Nat.le_of_ble_eq_true rfl, Nat.le_of_ble_eq_true rfl⟩) hS (fun _ h => h) (fun r_50 H locs hp_51 hG hS o_52 => ?_)
  have at_49 := va_at.keptC at_49 o_52 k_a0 rfl
  have hp_51 : -1 ≤ r_50.toInt ∧ r_50.toInt < gI.toInt ∧ hsI r_50 (hasS K F M gI.toInt a2) := hp_51
  obtain ⟨p_54, p_55, p_56⟩ := hp_51
  refine lv_istore_n (lv' := [(3, .int r_50), (0, .ref a0), (1, .int a1), (2, .int a2)]) hx hb dX10_startOf_6 rfl hl (by decide) rfl (fun ls hl => ?_)
  refine lv_iload_n hx hb dX10_startOf_7 rfl (lv_at hl 0 rfl) ?_
  refine lv_if_ge (tgt := 15) hx hb dX10_startOf_8 (by decide) (fun c_57 => ?_) (fun c_57 => ?_)
  · skip
    have c_57 : 0 ≤ r_50.toInt := q_le c_57
    refine lv_pc (pc2 := 15) rfl ?_
    refine lv_aload_n hx hb dX10_startOf_15 rfl (lv_at hl 1 rfl) ?_
    refine va_get (D := D) (ci := 9) (v := .ref r_10) (C := RX10) (T := TX10) (N := 36) hx hb hts in10 hown hK (va_one at_49) 0 rfl rfl 7 (by decide) (hts (.fieldLink RX10 22 "RiverModelModel" "number" "[I") (List.mem_of_getElem? (i := 5) rfl)) (fun _ h9 => h9) rfl dX10_startOf_16 ?_
    refine lv_bipush (v := 120) hx hb dX10_startOf_19 (by decide) ?_
    refine lv_iload_n hx hb dX10_startOf_21 rfl (lv_at hl 2 rfl) ?_
    refine lv_imul hx hb dX10_startOf_22 ?_
    refine lv_topi (fun x_58 e_59 => ?_)
    have i_x_58 : x_58.toInt = 120 * a1.toInt := by rw [e_59]; exact (q_mul (by rw [show (120 : Int32).toInt = 120 by decide]; omega) (by rw [show (120 : Int32).toInt = 120 by decide]; omega)).trans (by rw [show (120 : Int32).toInt = 120 by decide])
    refine lv_iconst (v := 3) hx hb dX10_startOf_23 (by decide) ?_
    refine lv_iload_n hx hb dX10_startOf_24 rfl (lv_at hl 0 rfl) ?_
    refine lv_imul hx hb dX10_startOf_25 ?_
    refine lv_topi (fun x_60 e_61 => ?_)
    have i_x_60 : x_60.toInt = 3 * r_50.toInt := by rw [e_61]; exact (q_mul (by rw [show (3 : Int32).toInt = 3 by decide]; omega) (by rw [show (3 : Int32).toInt = 3 by decide]; omega)).trans (by rw [show (3 : Int32).toInt = 3 by decide])
    refine lv_pc (pc2 := 26) rfl ?_
    refine lv_iadd hx hb dX10_startOf_26 ?_
    refine lv_topi (fun x_62 e_63 => ?_)
    have i_x_62 : x_62.toInt = x_58.toInt + x_60.toInt := by rw [e_63]; exact (q_add (by omega) (by omega)).trans (by rfl)
    refine lv_iconst (v := 1) hx hb dX10_startOf_27 (by decide) ?_
    refine lv_iadd hx hb dX10_startOf_28 ?_
    refine lv_topi (fun x_64 e_65 => ?_)
    have i_x_64 : x_64.toInt = x_62.toInt + 1 := by rw [e_65]; exact (q_add (by rw [show (1 : Int32).toInt = 1 by decide]; omega) (by rw [show (1 : Int32).toInt = 1 by decide]; omega)).trans (by rw [show (1 : Int32).toInt = 1 by decide])
    have at_66 := mF_o45 hG h_11
    have b_67 : vp_in x_64 360 := (q_in (by omega) (by omega))
    refine va_iald hx hb hK (va_one at_66) 0 0 rfl rfl b_67 dX10_startOf_29 ?_
    refine lv_topi (fun x_68 e_69 => ?_)
    have w_x_68 : x_68 = N (x_64.toInt).toNat := by rw [e_69]; exact congrArg (fun q : Int => N q.toNat) (show x_64.toInt = x_64.toInt by omega)
    have i_x_68 : x_68.toInt = (N (x_64.toInt).toNat).toInt := by rw [w_x_68]
    exact ty_iret hx hb hr hlk hG hS True.intro dX10_startOf_30
  · skip
    have c_57 : r_50.toInt < 0 := q_nle c_57
    refine lv_iconst (v := 0) hx hb dX10_startOf_11 (by decide) ?_
    refine lv_goto (tgt := 30) hx hb dX10_startOf_12 (by decide) ?_
    have zi_0 : (0 : Int32).toInt = 0 := by decide
    exact ty_iret hx hb hr hlk hG hS True.intro dX10_startOf_30

def uX10_wayTo : List Cond := .code yX10_wayTo cX10_wayTo 5 (some .long) :: ([.fieldLink RX10 28 "RiverModelModel" "m" "[J"] ++ wsX100)
set_option maxHeartbeats 4000000 in
set_option maxRecDepth 100000 in
theorem m_X10_wayTo (l : Launch) (D : va_G) (t : Nat → Nat) (cI cL cC : ClassId) (gC : Int32) (gE : Int32) (gW : Nat → Int32) (gA : Nat → Int32) (gT : Nat → Int32) (gI : Int32) (gS : Int32) (gM : Int32) (K : Nat → Int32) (F : Nat → Int32) (S : Nat → Int32) (N : Nat → Int32) (gH : Int) (gJ : Int) (ge : Int32) (gk : Int32) (gf : Int32) (gs : Int32) (gg : Int32) (gr : Int32) (RN : Nat → Int32) (a0 : Nat) (a1 : Int32) (uq : ∀ b c : Nat, t b = t c → t b ≠ 0 → b = c) (h0 : 0 ≤ a1.toInt) (h15 : a1.toInt ≤ 15) (k_a0 : t a0 = 40) : tM l yX10_wayTo uX10_wayTo 0 0 D (mF cI cL cC gC gE gW gA gT gI gS gM K F S N gH gJ ge gk gf gs gg gr RN) (mF cI cL cC gC gE gW gA gT gI gS gM K F S N gH gJ ge gk gf gs gg gr RN) t cI cL cC [.ref a0, .int a1] wr0 (pL (fun r => True)) := by
  refine tM.ofW (cc := cX10_wayTo) (maxL := 5) (ret := (some .long)) (by decide) rfl (Nat.le_of_ble_eq_true rfl) ?_
  intro p e s m below meth c hx hb hr hml hown hts hlk H locs hG hK hE hS ls hl
  have hl : lv_has ls 5 [(0, .ref a0), (1, .int a1)] := hl
  have in10 : ∀ w ∈ wsX100, w ∈ uX10_wayTo := fun w h => List.mem_cons_of_mem _ (List.mem_append_right _ h)
  refine lv_lconst (v := 0) hx hb dX10_wayTo_0 (by decide) ?_
  refine lv_lstore_n (lv' := [(2, .long 0), (0, .ref a0), (1, .int a1)]) hx hb dX10_wayTo_1 rfl hl (by decide) rfl (fun ls hl => ?_)
  refine lv_iconst (v := 0) hx hb dX10_wayTo_2 (by decide) ?_
  refine lv_istore (lv' := [(4, .int 0), (2, .long 0), (0, .ref a0), (1, .int a1)]) hx hb dX10_wayTo_3 hl (by decide) rfl (fun ls hl => ?_)
  refine lv_pc (pc2 := 5) rfl ?_
  refine lp_gen (fun WW1 hWW1 => ?_)
  have kx1 : ∀ (yk : Int32) (ys : Int64) (H1 : Heap) (locs1 : List Loc) (ls1 : Array Slot), (0 ≤ yk.toInt) → (yk.toInt ≤ 13) → tG D (mF cI cL cC gC gE gW gA gT gI gS gM K F S N gH gJ ge gk gf gs gg gr RN) t H1 → tF t wr0 s.heap H1 locs1 → lv_has ls1 5 [(4, .int yk), (2, .long ys), (0, .ref a0), (1, .int a1)] → WW1 H1 locs1 (F0 m 36 ls1 []) := by
    intro yk ys H locs ls v1_0 v1_1 hG hS hl
    refine (hWW1 _ _ _).mpr ?_
    refine lv_lload_n hx hb dX10_wayTo_36 rfl (lv_at hl 1 rfl) ?_
    exact ty_lret hx hb hr hlk hG hS True.intro dX10_wayTo_37
  have lp1 : ∀ (kk1 : Nat) (yk : Int32) (ys : Int64) (H1 : Heap) (locs1 : List Loc) (ls1 : Array Slot), 13 - yk.toInt ≤ (kk1 : Int) → (0 ≤ yk.toInt) → (yk.toInt ≤ 13) → tG D (mF cI cL cC gC gE gW gA gT gI gS gM K F S N gH gJ ge gk gf gs gg gr RN) t H1 → tF t wr0 s.heap H1 locs1 → lv_has ls1 5 [(4, .int yk), (2, .long ys), (0, .ref a0), (1, .int a1)] → WW1 H1 locs1 (F0 m 5 ls1 []) := by
    intro kk1
    induction kk1 with
    | zero =>
      intro yk ys H locs ls hk1 v1_0 v1_1 hG hS hl
      refine (hWW1 _ _ _).mpr ?_
      refine lv_iload hx hb dX10_wayTo_5 (lv_at hl 0 rfl) ?_
      refine lv_pc (pc2 := 7) rfl ?_
      refine lv_bipush (v := 13) hx hb dX10_wayTo_7 (by decide) ?_
      refine lv_icmp_ge (tgt := 36) hx hb dX10_wayTo_9 (by decide) (fun c_2 => ?_) (fun c_2 => ?_)
      · skip
        have c_2 : 13 ≤ yk.toInt := q_le c_2
        exact (hWW1 _ _ _).mp (kx1 yk ys H locs ls v1_0 v1_1 hG hS (lv_sub hl [0, 1, 2, 3] rfl))
      · skip
        have c_2 : yk.toInt < 13 := q_nle c_2
        exfalso; omega
    | succ kk1 ih1 =>
      intro yk ys H locs ls hk1 v1_0 v1_1 hG hS hl
      refine (hWW1 _ _ _).mpr ?_
      refine lv_iload hx hb dX10_wayTo_5 (lv_at hl 0 rfl) ?_
      refine lv_bipush (v := 13) hx hb dX10_wayTo_7 (by decide) ?_
      refine lv_icmp_ge (tgt := 36) hx hb dX10_wayTo_9 (by decide) (fun c_3 => ?_) (fun c_3 => ?_)
      · skip
        have c_3 : 13 ≤ yk.toInt := q_le c_3
        exact (hWW1 _ _ _).mp (kx1 yk ys H locs ls v1_0 v1_1 hG hS (lv_sub hl [0, 1, 2, 3] rfl))
      · skip
        have c_3 : yk.toInt < 13 := q_nle c_3
        refine lv_lload_n hx hb dX10_wayTo_12 rfl (lv_at hl 1 rfl) ?_
        refine lv_aload_n hx hb dX10_wayTo_13 rfl (lv_at hl 2 rfl) ?_
        obtain ⟨r_4, v_6, r_7, r_9, r_11, r_13, r_15, r_17, r_19, r_21, r_23, r_25, r_27, r_29, r_31, r_33, r_35, r_37, r_39, r_41, r_43, r_45, r_47, v_49, r_50, at_52, h_5, h_8, h_10, h_12, h_14, h_16, h_18, h_20, h_22, h_24, h_26, h_28, h_30, h_32, h_34, h_36, h_38, h_40, h_42, h_44, h_46, h_48, h_51⟩ := mF_o40 hG k_a0
        refine va_get (D := D) (ci := 9) (v := .ref r_17) (C := RX10) (T := TX10) (N := 36) hx hb hts in10 hown hK (va_one at_52) 0 rfl rfl 10 (by decide) (hts (.fieldLink RX10 28 "RiverModelModel" "m" "[J") (List.mem_of_getElem? (i := 1) rfl)) (fun _ h9 => h9) rfl dX10_wayTo_14 ?_
        refine lv_pc (pc2 := 17) rfl ?_
        refine lv_bipush (v := 16) hx hb dX10_wayTo_17 (by decide) ?_
        refine lv_bipush (v := 13) hx hb dX10_wayTo_19 (by decide) ?_
        refine lv_iload_n hx hb dX10_wayTo_21 rfl (lv_at hl 3 rfl) ?_
        refine lv_imul hx hb dX10_wayTo_22 ?_
        refine lv_topi (fun x_53 e_54 => ?_)
        have i_x_53 : x_53.toInt = 13 * a1.toInt := by rw [e_54]; exact (q_mul (by rw [show (13 : Int32).toInt = 13 by decide]; omega) (by rw [show (13 : Int32).toInt = 13 by decide]; omega)).trans (by rw [show (13 : Int32).toInt = 13 by decide])
        refine lv_iadd hx hb dX10_wayTo_23 ?_
        refine lv_topi (fun x_55 e_56 => ?_)
        have i_x_55 : x_55.toInt = 16 + x_53.toInt := by rw [e_56]; exact (q_add (by rw [show (16 : Int32).toInt = 16 by decide]; omega) (by rw [show (16 : Int32).toInt = 16 by decide]; omega)).trans (by rw [show (16 : Int32).toInt = 16 by decide])
        refine lv_iload hx hb dX10_wayTo_24 (lv_at hl 0 rfl) ?_
        refine lv_iadd hx hb dX10_wayTo_26 ?_
        refine lv_topi (fun x_57 e_58 => ?_)
        have i_x_57 : x_57.toInt = x_55.toInt + yk.toInt := by rw [e_58]; exact (q_add (by omega) (by omega)).trans (by rfl)
        obtain ⟨f_59, at_60, h_61⟩ := mF_o47 hG h_18
        have b_62 : vp_in x_57 280 := (q_in (by omega) (by omega))
        refine va_lald hx hb hK (va_one at_60) 0 1 rfl rfl b_62 dX10_wayTo_27 ?_
        refine lv_topl (fun z_63 e_64 => ?_)
        refine lv_pc (pc2 := 28) rfl ?_
        refine lv_ladd hx hb dX10_wayTo_28 ?_
        refine lv_topl (fun z_65 e_66 => ?_)
        refine lv_lstore_n (lv' := [(2, .long z_65), (4, .int yk), (0, .ref a0), (1, .int a1)]) hx hb dX10_wayTo_29 rfl hl (by decide) rfl (fun ls hl => ?_)
        obtain ⟨x_67, e_68⟩ : ∃ y : Int32, y = yk + Int32.ofInt 1 := ⟨_, rfl⟩
        have i_x_67 : x_67.toInt = yk.toInt + 1 := by rw [e_68, show Int32.ofInt 1 = 1 by decide]; exact (q_add (by rw [show (1 : Int32).toInt = 1 by decide]; omega) (by rw [show (1 : Int32).toInt = 1 by decide]; omega)).trans (by rw [show (1 : Int32).toInt = 1 by decide])
        refine lv_iinc (v := x_67) (lv' := [(4, .int x_67), (2, .long z_65), (0, .ref a0), (1, .int a1)]) hx hb dX10_wayTo_30 hl (k := 1) rfl e_68.symm (by decide) rfl (fun ls hl => ?_)
        refine lv_goto (tgt := 5) hx hb dX10_wayTo_33 (by decide) ?_
        exact (hWW1 _ _ _).mp (ih1 x_67 z_65 H locs ls (by omega) (by omega) (by omega) hG hS (lv_sub hl [0, 1, 2, 3] rfl))
  have zi_0 : (0 : Int32).toInt = 0 := by decide
  have zl_0 : (0 : Int64).toInt = 0 := by decide
  exact lp1 (13 - (0 : Int32).toInt : Int).toNat 0 0 H locs ls (by omega) (by omega) (by omega) hG hS (lv_sub hl [0, 1, 2, 3] rfl)

def uX10_most : List Cond := .code yX10_most cX10_most 4 (some .long) :: ([.fieldLink RX10 28 "RiverModelModel" "m" "[J"] ++ wsX100)
set_option maxHeartbeats 4000000 in
set_option maxRecDepth 100000 in
theorem m_X10_most (l : Launch) (D : va_G) (t : Nat → Nat) (cI cL cC : ClassId) (gC : Int32) (gE : Int32) (gW : Nat → Int32) (gA : Nat → Int32) (gT : Nat → Int32) (gI : Int32) (gS : Int32) (gM : Int32) (K : Nat → Int32) (F : Nat → Int32) (S : Nat → Int32) (N : Nat → Int32) (gH : Int) (gJ : Int) (ge : Int32) (gk : Int32) (gf : Int32) (gs : Int32) (gg : Int32) (gr : Int32) (RN : Nat → Int32) (a0 : Nat) (a1 : Int32) (a2 : Int64) (uq : ∀ b c : Nat, t b = t c → t b ≠ 0 → b = c) (h0 : 0 ≤ a1.toInt) (h15 : a1.toInt ≤ 15) (k_a0 : t a0 = 40) : tM l yX10_most uX10_most 0 0 D (mF cI cL cC gC gE gW gA gT gI gS gM K F S N gH gJ ge gk gf gs gg gr RN) (mF cI cL cC gC gE gW gA gT gI gS gM K F S N gH gJ ge gk gf gs gg gr RN) t cI cL cC [.ref a0, .int a1, .long a2] wr0 (pL (fun r => True)) := by
  refine tM.ofW (cc := cX10_most) (maxL := 4) (ret := (some .long)) (by decide) rfl (Nat.le_of_ble_eq_true rfl) ?_
  intro p e s m below meth c hx hb hr hml hown hts hlk H locs hG hK hE hS ls hl
  have hl : lv_has ls 4 [(0, .ref a0), (1, .int a1), (2, .long a2)] := hl
  have in10 : ∀ w ∈ wsX100, w ∈ uX10_most := fun w h => List.mem_cons_of_mem _ (List.mem_append_right _ h)
  refine lv_lload_n hx hb dX10_most_0 rfl (lv_at hl 2 rfl) ?_
  refine lv_aload_n hx hb dX10_most_1 rfl (lv_at hl 0 rfl) ?_
  obtain ⟨r_1, v_3, r_4, r_6, r_8, r_10, r_12, r_14, r_16, r_18, r_20, r_22, r_24, r_26, r_28, r_30, r_32, r_34, r_36, r_38, r_40, r_42, r_44, v_46, r_47, at_49, h_2, h_5, h_7, h_9, h_11, h_13, h_15, h_17, h_19, h_21, h_23, h_25, h_27, h_29, h_31, h_33, h_35, h_37, h_39, h_41, h_43, h_45, h_48⟩ := mF_o40 hG k_a0
  refine va_get (D := D) (ci := 9) (v := .ref r_14) (C := RX10) (T := TX10) (N := 36) hx hb hts in10 hown hK (va_one at_49) 0 rfl rfl 10 (by decide) (hts (.fieldLink RX10 28 "RiverModelModel" "m" "[J") (List.mem_of_getElem? (i := 1) rfl)) (fun _ h9 => h9) rfl dX10_most_2 ?_
  refine lv_iload_n hx hb dX10_most_5 rfl (lv_at hl 1 rfl) ?_
  obtain ⟨f_50, at_51, h_52⟩ := mF_o47 hG h_15
  have b_53 : vp_in a1 280 := (q_in (by omega) (by omega))
  refine va_lald hx hb hK (va_one at_51) 0 1 rfl rfl b_53 dX10_most_6 ?_
  refine lv_topl (fun z_54 e_55 => ?_)
  refine W.lcmp hx hb dX10_most_7 ?_
  refine lv_if_ge (tgt := 15) hx hb dX10_most_8 (by decide) (fun c_56 => ?_) (fun c_56 => ?_)
  · skip
    have c_56 : z_54.toInt ≤ a2.toInt := q_cmp_ge c_56
    refine lv_pc (pc2 := 15) rfl ?_
    refine lv_aload_n hx hb dX10_most_15 rfl (lv_at hl 0 rfl) ?_
    refine va_get (D := D) (ci := 9) (v := .ref r_14) (C := RX10) (T := TX10) (N := 36) hx hb hts in10 hown hK (va_one at_49) 0 rfl rfl 10 (by decide) (hts (.fieldLink RX10 28 "RiverModelModel" "m" "[J") (List.mem_of_getElem? (i := 1) rfl)) (fun _ h9 => h9) rfl dX10_most_16 ?_
    refine lv_iload_n hx hb dX10_most_19 rfl (lv_at hl 1 rfl) ?_
    have b_57 : vp_in a1 280 := (q_in (by omega) (by omega))
    refine va_lald hx hb hK (va_one at_51) 0 1 rfl rfl b_57 dX10_most_20 ?_
    refine lv_setl (y := z_54) e_55.symm ?_
    exact ty_lret hx hb hr hlk hG hS True.intro dX10_most_21
  · skip
    have c_56 : a2.toInt < z_54.toInt := q_cmp_nge c_56
    refine lv_lload_n hx hb dX10_most_11 rfl (lv_at hl 2 rfl) ?_
    refine lv_goto (tgt := 21) hx hb dX10_most_12 (by decide) ?_
    exact ty_lret hx hb hr hlk hG hS True.intro dX10_most_21

def uX10_capacity : List Cond := .code yX10_capacity cX10_capacity 3 (some .long) :: ([.fieldLink RX10 22 "RiverModelModel" "number" "[I", .fieldLink RX10 16 "RiverModelModel" "first" "[I", .methodLink RX10 166 yX10_storeAt, .instanceMethod yX10_storeAt, .selects RX10 yX10_storeAt yX10_storeAt, .initialized RX10, .code yX10_storeAt cX10_storeAt 5 (some .int), .fieldLink RX10 163 "RiverModelModel" "items" "I", .fieldLink RX10 13 "RiverModelModel" "kind" "[I"] ++ wsX100)
set_option maxRecDepth 20000 in
theorem gu_X10_capacity_X10_storeAt_166 : GoodIn uX10_capacity (wsV RX10 166 RX10 yX10_storeAt uX10_storeAt) := goodIn_r _ [3, 4, 5, 6, 7, 8, 9, 2, 10, 11, 12, 13, 14, 15, 16, 17, 18, 19, 20, 21, 22, 23, 24, 25, 26, 27, 28, 29, 30, 31, 32, 33, 34, 35, 36, 37, 38, 39, 40, 41, 42, 43, 44, 45] rfl (by decide +kernel)
set_option maxHeartbeats 4000000 in
set_option maxRecDepth 100000 in
theorem m_X10_capacity (l : Launch) (D : va_G) (t : Nat → Nat) (cI cL cC : ClassId) (gC : Int32) (gE : Int32) (gW : Nat → Int32) (gA : Nat → Int32) (gT : Nat → Int32) (gI : Int32) (gS : Int32) (gM : Int32) (K : Nat → Int32) (F : Nat → Int32) (S : Nat → Int32) (N : Nat → Int32) (gH : Int) (gJ : Int) (ge : Int32) (gk : Int32) (gf : Int32) (gs : Int32) (gg : Int32) (gr : Int32) (RN : Nat → Int32) (a0 : Nat) (a1 : Int32) (M : Int) (B : Int) (J : Int) (uq : ∀ b c : Nat, t b = t c → t b ≠ 0 → b = c) (hMB : M = 40 * B) (hB0 : 0 ≤ B) (hB2 : B ≤ 2) (hJ0 : 0 ≤ J) (hJ4 : J < 40) (hat : a1.toInt = M + J) (hI0 : 0 ≤ gI.toInt) (hI4 : gI.toInt ≤ 40) (hs : hasS K F M gI.toInt (F (M + J).toNat)) (k_a0 : t a0 = 40) : tM l yX10_capacity uX10_capacity 1 24 D (mF cI cL cC gC gE gW gA gT gI gS gM K F S N gH gJ ge gk gf gs gg gr RN) (mF cI cL cC gC gE gW gA gT gI gS gM K F S N gH gJ ge gk gf gs gg gr RN) t cI cL cC [.ref a0, .int a1] wr0 (pL (fun r => True)) := by
  refine tM.ofW (cc := cX10_capacity) (maxL := 3) (ret := (some .long)) (by decide) rfl (Nat.le_of_ble_eq_true rfl) ?_
  intro p e s m below meth c hx hb hr hml hown hts hlk H locs hG hK hE hS ls hl
  have hl : lv_has ls 3 [(0, .ref a0), (1, .int a1)] := hl
  have in10 : ∀ w ∈ wsX100, w ∈ uX10_capacity := fun w h => List.mem_cons_of_mem _ (List.mem_append_right _ h)
  refine lv_iload_n hx hb dX10_capacity_0 rfl (lv_at hl 1 rfl) ?_
  refine lv_bipush (v := 40) hx hb dX10_capacity_1 (by decide) ?_
  refine lv_idiv hx hb dX10_capacity_3 (by decide) ?_
  refine lv_topi (fun x_1 e_2 => ?_)
  have i_x_1 : x_1.toInt = a1.toInt / 40 := by rw [e_2]; exact q_divE (n := 40) rfl (by decide) (by omega)
  refine lv_istore_n (lv' := [(2, .int x_1), (0, .ref a0), (1, .int a1)]) hx hb dX10_capacity_4 rfl hl (by decide) rfl (fun ls hl => ?_)
  refine lv_aload_n hx hb dX10_capacity_5 rfl (lv_at hl 1 rfl) ?_
  obtain ⟨r_3, v_5, r_6, r_8, r_10, r_12, r_14, r_16, r_18, r_20, r_22, r_24, r_26, r_28, r_30, r_32, r_34, r_36, r_38, r_40, r_42, r_44, r_46, v_48, r_49, at_51, h_4, h_7, h_9, h_11, h_13, h_15, h_17, h_19, h_21, h_23, h_25, h_27, h_29, h_31, h_33, h_35, h_37, h_39, h_41, h_43, h_45, h_47, h_50⟩ := mF_o40 hG k_a0
  refine va_get (D := D) (ci := 9) (v := .ref r_12) (C := RX10) (T := TX10) (N := 36) hx hb hts in10 hown hK (va_one at_51) 0 rfl rfl 7 (by decide) (hts (.fieldLink RX10 22 "RiverModelModel" "number" "[I") (List.mem_of_getElem? (i := 1) rfl)) (fun _ h9 => h9) rfl dX10_capacity_6 ?_
  refine lv_bipush (v := 120) hx hb dX10_capacity_9 (by decide) ?_
  refine lv_pc (pc2 := 11) rfl ?_
  refine lv_iload_n hx hb dX10_capacity_11 rfl (lv_at hl 0 rfl) ?_
  refine lv_imul hx hb dX10_capacity_12 ?_
  refine lv_topi (fun x_52 e_53 => ?_)
  have i_x_52 : x_52.toInt = 120 * x_1.toInt := by rw [e_53]; exact (q_mul (by rw [show (120 : Int32).toInt = 120 by decide]; omega) (by rw [show (120 : Int32).toInt = 120 by decide]; omega)).trans (by rw [show (120 : Int32).toInt = 120 by decide])
  refine lv_iconst (v := 3) hx hb dX10_capacity_13 (by decide) ?_
  refine lv_aload_n hx hb dX10_capacity_14 rfl (lv_at hl 1 rfl) ?_
  refine lv_iload_n hx hb dX10_capacity_15 rfl (lv_at hl 0 rfl) ?_
  refine lv_aload_n hx hb dX10_capacity_16 rfl (lv_at hl 1 rfl) ?_
  refine va_get (D := D) (ci := 9) (v := .ref r_8) (C := RX10) (T := TX10) (N := 36) hx hb hts in10 hown hK (va_one at_51) 0 rfl rfl 5 (by decide) (hts (.fieldLink RX10 16 "RiverModelModel" "first" "[I") (List.mem_of_getElem? (i := 2) rfl)) (fun _ h9 => h9) rfl dX10_capacity_17 ?_
  refine lv_iload_n hx hb dX10_capacity_20 rfl (lv_at hl 2 rfl) ?_
  refine lv_pc (pc2 := 21) rfl ?_
  have at_54 := mF_o43 hG h_9
  have b_55 : vp_in a1 120 := (q_in (by omega) (by omega))
  refine va_iald hx hb hK (va_one at_54) 0 0 rfl rfl b_55 dX10_capacity_21 ?_
  refine lv_topi (fun x_56 e_57 => ?_)
  have w_x_56 : x_56 = F (M + J).toNat := by rw [e_57]; exact congrArg (fun q : Int => F q.toNat) (show a1.toInt = M + J by omega)
  have i_x_56 : x_56.toInt = (F (M + J).toNat).toInt := by rw [w_x_56]
  refine ty_calli (W.runV (As := [.int x_1, .int x_56]) (rest := [.int 3, .int x_52, .ref r_12]) ⟨hx, hb, hml, hown, hts⟩ (m_X10_storeAt l D t cI cL cC gC gE gW gA gT gI gS gM K F S N gH gJ ge gk gf gs gg gr RN a0 x_1 x_56 M uq (by omega) (by omega) (by omega) (by omega) (by omega) k_a0) (cwV 2 hts gu_X10_capacity_X10_storeAt_166 rfl rfl rfl (by decide +kernel) ⟨Nat.le_of_ble_eq_true rfl, Nat.le_of_ble_eq_true rfl⟩) (tP_V hG hE at_51 rfl) rfl rfl hl.1 rfl (lv_room (Nat.le_of_ble_eq_true rfl)) dX10_capacity_22 ⟨Nat.le_of_ble_eq_true rfl, Nat.le_of_ble_eq_true rfl⟩) hS (fun _ h => h) (fun r_58 H locs hp_59 hG hS o_60 => ?_)
  have at_51 := va_at.keptC at_51 o_60 k_a0 rfl
  have at_54 := va_at.keptC at_54 o_60 h_9 rfl
  have hp_59 : -1 ≤ r_58.toInt ∧ r_58.toInt < gI.toInt ∧ hsI r_58 (hasS K F M gI.toInt x_56) := hp_59
  obtain ⟨p_62, p_63, p_64⟩ := hp_59
  have hs0 := p_64.mpr (by rw [w_x_56]; exact hs)
  refine lv_imul hx hb dX10_capacity_25 ?_
  refine lv_topi (fun x_65 e_66 => ?_)
  have i_x_65 : x_65.toInt = 3 * r_58.toInt := by rw [e_66]; exact (q_mul (by rw [show (3 : Int32).toInt = 3 by decide]; omega) (by rw [show (3 : Int32).toInt = 3 by decide]; omega)).trans (by rw [show (3 : Int32).toInt = 3 by decide])
  refine lv_iadd hx hb dX10_capacity_26 ?_
  refine lv_topi (fun x_67 e_68 => ?_)
  have i_x_67 : x_67.toInt = x_52.toInt + x_65.toInt := by rw [e_68]; exact (q_add (by omega) (by omega)).trans (by rfl)
  have at_69 := mF_o45 hG h_13
  have b_70 : vp_in x_67 360 := (q_in (by omega) (by omega))
  refine va_iald hx hb hK (va_one at_69) 0 0 rfl rfl b_70 dX10_capacity_27 ?_
  refine lv_topi (fun x_71 e_72 => ?_)
  have w_x_71 : x_71 = N (x_67.toInt).toNat := by rw [e_72]; exact congrArg (fun q : Int => N q.toNat) (show x_67.toInt = x_67.toInt by omega)
  have i_x_71 : x_71.toInt = (N (x_67.toInt).toNat).toInt := by rw [w_x_71]
  refine lv_i2l (v := x_71.toInt64) hx hb dX10_capacity_28 rfl ?_
  exact ty_lret hx hb hr hlk hG hS True.intro dX10_capacity_29

def uX10_moves : List Cond := .code yX10_moves cX10_moves 8 (some .long) :: ([.fieldLink RX10 16 "RiverModelModel" "first" "[I", .fieldLink RX10 22 "RiverModelModel" "number" "[I", .fieldLink RX10 13 "RiverModelModel" "kind" "[I", .constantLong RX10 219 (10), .methodLink RX10 215 yX10_most, .instanceMethod yX10_most, .selects RX10 yX10_most yX10_most, .initialized RX10, .fieldLink RX10 28 "RiverModelModel" "m" "[J", .constantLong RX10 107 (100), .methodLink RX10 211 yX10_capacity, .instanceMethod yX10_capacity, .selects RX10 yX10_capacity yX10_capacity, .code yX10_most cX10_most 4 (some .long), .code yX10_capacity cX10_capacity 3 (some .long), .methodLink RX10 166 yX10_storeAt, .instanceMethod yX10_storeAt, .selects RX10 yX10_storeAt yX10_storeAt, .code yX10_storeAt cX10_storeAt 5 (some .int), .fieldLink RX10 163 "RiverModelModel" "items" "I"] ++ wsX100)
set_option maxRecDepth 20000 in
theorem gu_X10_moves_X10_most_215 : GoodIn uX10_moves (wsV RX10 215 RX10 yX10_most uX10_most) := goodIn_r _ [5, 6, 7, 8, 14, 9, 21, 22, 23, 24, 25, 26, 27, 28, 29, 30, 31, 32, 33, 34, 35, 36, 37, 38, 39, 40, 41, 42, 43, 44, 45, 46, 47, 48, 49, 50, 51, 52, 53, 54, 55, 56] rfl (by decide +kernel)
set_option maxRecDepth 20000 in
theorem gu_X10_moves_X10_capacity_211 : GoodIn uX10_moves (wsV RX10 211 RX10 yX10_capacity uX10_capacity) := goodIn_r _ [11, 12, 13, 8, 15, 2, 1, 16, 17, 18, 8, 19, 20, 3, 21, 22, 23, 24, 25, 26, 27, 28, 29, 30, 31, 32, 33, 34, 35, 36, 37, 38, 39, 40, 41, 42, 43, 44, 45, 46, 47, 48, 49, 50, 51, 52, 53, 54, 55, 56] rfl (by decide +kernel)
set_option maxHeartbeats 4000000 in
set_option maxRecDepth 100000 in
theorem m_X10_moves (l : Launch) (D : va_G) (t : Nat → Nat) (cI cL cC : ClassId) (gC : Int32) (gE : Int32) (gW : Nat → Int32) (gA : Nat → Int32) (gT : Nat → Int32) (gI : Int32) (gS : Int32) (gM : Int32) (K : Nat → Int32) (F : Nat → Int32) (S : Nat → Int32) (N : Nat → Int32) (gH : Int) (gJ : Int) (ge : Int32) (gk : Int32) (gf : Int32) (gs : Int32) (gg : Int32) (gr : Int32) (RN : Nat → Int32) (a0 : Nat) (a1 : Int32) (a2 : Int32) (a3 : Int32) (a4 : Int32) (M : Int) (B : Int) (J : Int) (uq : ∀ b c : Nat, t b = t c → t b ≠ 0 → b = c) (hMB : M = 40 * B) (hB0 : 0 ≤ B) (hB2 : B ≤ 2) (hJ0 : 0 ≤ J) (hJ4 : J < 40) (hat : a1.toInt = M + J) (hI0 : 0 ≤ gI.toInt) (hI4 : gI.toInt ≤ 40) (hok : okI K F S N M gI.toInt J) (hg0 : 0 ≤ a2.toInt) (hg4 : a2.toInt ≤ 40) (k_a0 : t a0 = 40) : tM l yX10_moves uX10_moves 2 46 D (mF cI cL cC gC gE gW gA gT gI gS gM K F S N gH gJ ge gk gf gs gg gr RN) (mF cI cL cC gC gE gW gA gT gI gS gM K F S N gH gJ ge gk gf gs gg gr RN) t cI cL cC [.ref a0, .int a1, .int a2, .int a3, .int a4] wr0 (pL (fun r => True)) := by
  refine tM.ofW (cc := cX10_moves) (maxL := 8) (ret := (some .long)) (by decide) rfl (Nat.le_of_ble_eq_true rfl) ?_
  intro p e s m below meth c hx hb hr hml hown hts hlk H locs hG hK hE hS ls hl
  have hl : lv_has ls 8 [(0, .ref a0), (1, .int a1), (2, .int a2), (3, .int a3), (4, .int a4)] := hl
  have in10 : ∀ w ∈ wsX100, w ∈ uX10_moves := fun w h => List.mem_cons_of_mem _ (List.mem_append_right _ h)
  have o1 := hok.1
  have o2 := hok.2.1
  refine lv_aload_n hx hb dX10_moves_0 rfl (lv_at hl 0 rfl) ?_
  obtain ⟨r_1, v_3, r_4, r_6, r_8, r_10, r_12, r_14, r_16, r_18, r_20, r_22, r_24, r_26, r_28, r_30, r_32, r_34, r_36, r_38, r_40, r_42, r_44, v_46, r_47, at_49, h_2, h_5, h_7, h_9, h_11, h_13, h_15, h_17, h_19, h_21, h_23, h_25, h_27, h_29, h_31, h_33, h_35, h_37, h_39, h_41, h_43, h_45, h_48⟩ := mF_o40 hG k_a0
  refine va_get (D := D) (ci := 9) (v := .ref r_6) (C := RX10) (T := TX10) (N := 36) hx hb hts in10 hown hK (va_one at_49) 0 rfl rfl 5 (by decide) (hts (.fieldLink RX10 16 "RiverModelModel" "first" "[I") (List.mem_of_getElem? (i := 1) rfl)) (fun _ h9 => h9) rfl dX10_moves_1 ?_
  refine lv_iload_n hx hb dX10_moves_4 rfl (lv_at hl 1 rfl) ?_
  have at_50 := mF_o43 hG h_7
  have b_51 : vp_in a1 120 := (q_in (by omega) (by omega))
  refine va_iald hx hb hK (va_one at_50) 0 0 rfl rfl b_51 dX10_moves_5 ?_
  refine lv_topi (fun x_52 e_53 => ?_)
  have w_x_52 : x_52 = F (M + J).toNat := by rw [e_53]; exact congrArg (fun q : Int => F q.toNat) (show a1.toInt = M + J by omega)
  have i_x_52 : x_52.toInt = (F (M + J).toNat).toInt := by rw [w_x_52]
  refine lv_istore (lv' := [(5, .int x_52), (0, .ref a0), (1, .int a1), (2, .int a2), (3, .int a3), (4, .int a4)]) hx hb dX10_moves_6 hl (by decide) rfl (fun ls hl => ?_)
  refine lv_aload_n hx hb dX10_moves_8 rfl (lv_at hl 1 rfl) ?_
  refine va_get (D := D) (ci := 9) (v := .ref r_10) (C := RX10) (T := TX10) (N := 36) hx hb hts in10 hown hK (va_one at_49) 0 rfl rfl 7 (by decide) (hts (.fieldLink RX10 22 "RiverModelModel" "number" "[I") (List.mem_of_getElem? (i := 2) rfl)) (fun _ h9 => h9) rfl dX10_moves_9 ?_
  refine lv_pc (pc2 := 12) rfl ?_
  refine lv_iconst (v := 3) hx hb dX10_moves_12 (by decide) ?_
  refine lv_iload_n hx hb dX10_moves_13 rfl (lv_at hl 2 rfl) ?_
  refine lv_imul hx hb dX10_moves_14 ?_
  refine lv_topi (fun x_54 e_55 => ?_)
  have i_x_54 : x_54.toInt = 3 * a1.toInt := by rw [e_55]; exact (q_mul (by rw [show (3 : Int32).toInt = 3 by decide]; omega) (by rw [show (3 : Int32).toInt = 3 by decide]; omega)).trans (by rw [show (3 : Int32).toInt = 3 by decide])
  have at_56 := mF_o45 hG h_11
  have b_57 : vp_in x_54 360 := (q_in (by omega) (by omega))
  refine va_iald hx hb hK (va_one at_56) 0 0 rfl rfl b_57 dX10_moves_15 ?_
  refine lv_topi (fun x_58 e_59 => ?_)
  have w_x_58 : x_58 = N (3 * (M + J)).toNat := by rw [e_59]; exact congrArg (fun q : Int => N q.toNat) (show x_54.toInt = 3 * (M + J) by omega)
  have i_x_58 : x_58.toInt = (N (3 * (M + J)).toNat).toInt := by rw [w_x_58]
  refine lv_i2l (v := x_58.toInt64) hx hb dX10_moves_16 rfl ?_
  refine lv_lstore (lv' := [(6, .long x_58.toInt64), (5, .int x_52), (0, .ref a0), (1, .int a1), (2, .int a2), (3, .int a3), (4, .int a4)]) hx hb dX10_moves_17 hl (by decide) rfl (fun ls hl => ?_)
  refine lv_aload_n hx hb dX10_moves_19 rfl (lv_at hl 2 rfl) ?_
  refine va_get (D := D) (ci := 9) (v := .ref r_4) (C := RX10) (T := TX10) (N := 36) hx hb hts in10 hown hK (va_one at_49) 0 rfl rfl 4 (by decide) (hts (.fieldLink RX10 13 "RiverModelModel" "kind" "[I") (List.mem_of_getElem? (i := 3) rfl)) (fun _ h9 => h9) rfl dX10_moves_20 ?_
  refine lv_pc (pc2 := 23) rfl ?_
  refine lv_iload_n hx hb dX10_moves_23 rfl (lv_at hl 3 rfl) ?_
  have at_60 := mF_o42 hG h_5
  have b_61 : vp_in a1 120 := (q_in (by omega) (by omega))
  refine va_iald hx hb hK (va_one at_60) 0 0 rfl rfl b_61 dX10_moves_24 ?_
  refine lv_topi (fun x_62 e_63 => ?_)
  have w_x_62 : x_62 = K (M + J).toNat := by rw [e_63]; exact congrArg (fun q : Int => K q.toNat) (show a1.toInt = M + J by omega)
  have i_x_62 : x_62.toInt = (K (M + J).toNat).toInt := by rw [w_x_62]
  by_cases k_64 : x_62.toInt = 101
  · refine lv_tableIn (tgt := 303) hx hb dX10_moves_25 (by rw [k_64]; decide) (by rw [k_64]; decide) (by rw [k_64]; rfl) (by decide) ?_
    refine lv_iload hx hb dX10_moves_303 (lv_at hl 6 rfl) ?_
    refine lv_if_le (tgt := 327) hx hb dX10_moves_305 (by decide) (fun c_65 => ?_) (fun c_65 => ?_)
    · skip
      have c_65 : a4.toInt ≤ 0 := q_le c_65
      refine lv_lconst (v := 0) hx hb dX10_moves_327 (by decide) ?_
      have zl_0 : (0 : Int64).toInt = 0 := by decide
      exact ty_lret hx hb hr hlk hG hS True.intro dX10_moves_328
    · skip
      have c_65 : 0 < a4.toInt := q_nle c_65
      refine lv_aload_n hx hb dX10_moves_308 rfl (lv_at hl 2 rfl) ?_
      refine lv_pc (pc2 := 309) rfl ?_
      refine lv_iload hx hb dX10_moves_309 (lv_at hl 1 rfl) ?_
      refine lv_iload hx hb dX10_moves_311 (lv_at hl 6 rfl) ?_
      refine lv_i2l (v := a4.toInt64) hx hb dX10_moves_313 rfl ?_
      refine lv_lload hx hb dX10_moves_314 (lv_at hl 0 rfl) ?_
      refine lv_lmul hx hb dX10_moves_316 ?_
      refine lv_topl (fun z_66 e_67 => ?_)
      refine lv_ldc2 hx hb hown (hts (.constantLong RX10 219 (10)) (List.mem_of_getElem? (i := 4) rfl)) dX10_moves_317 ?_
      refine lv_ldiv hx hb dX10_moves_320 (by decide) ?_
      refine lv_topl (fun z_68 e_69 => ?_)
      refine ty_calll (W.runV (As := [.int x_52, .long z_68]) (rest := []) ⟨hx, hb, hml, hown, hts⟩ (m_X10_most l D t cI cL cC gC gE gW gA gT gI gS gM K F S N gH gJ ge gk gf gs gg gr RN a0 x_52 z_68  uq (by omega) (by omega) k_a0) (cwV 2 hts gu_X10_moves_X10_most_215 rfl rfl rfl (by decide +kernel) ⟨Nat.le_of_ble_eq_true rfl, Nat.le_of_ble_eq_true rfl⟩) (tP_V hG hE at_49 rfl) rfl rfl hl.1 rfl (lv_room (Nat.le_of_ble_eq_true rfl)) dX10_moves_321 ⟨Nat.le_of_ble_eq_true rfl, Nat.le_of_ble_eq_true rfl⟩) hS (fun _ h => h) (fun z_70 H locs hp_71 hG hS o_72 => ?_)
      have at_49 := va_at.keptC at_49 o_72 k_a0 rfl
      have at_50 := va_at.keptC at_50 o_72 h_7 rfl
      have at_56 := va_at.keptC at_56 o_72 h_11 rfl
      have at_60 := va_at.keptC at_60 o_72 h_5 rfl
      refine lv_pc (pc2 := 324) rfl ?_
      refine lv_goto (tgt := 328) hx hb dX10_moves_324 (by decide) ?_
      exact ty_lret hx hb hr hlk hG hS True.intro dX10_moves_328
  by_cases k_74 : x_62.toInt = 102
  · refine lv_tableIn (tgt := 337) hx hb dX10_moves_25 (by rw [k_74]; decide) (by rw [k_74]; decide) (by rw [k_74]; rfl) (by decide) ?_
    refine lv_lconst (v := 0) hx hb dX10_moves_337 (by decide) ?_
    have zl_0 : (0 : Int64).toInt = 0 := by decide
    exact ty_lret hx hb hr hlk hG hS True.intro dX10_moves_338
  by_cases k_75 : x_62.toInt = 103
  · refine lv_tableIn (tgt := 245) hx hb dX10_moves_25 (by rw [k_75]; decide) (by rw [k_75]; decide) (by rw [k_75]; rfl) (by decide) ?_
    refine lv_aload_n hx hb dX10_moves_245 rfl (lv_at hl 2 rfl) ?_
    refine lv_iload hx hb dX10_moves_246 (lv_at hl 1 rfl) ?_
    refine lv_aload_n hx hb dX10_moves_248 rfl (lv_at hl 2 rfl) ?_
    refine va_get (D := D) (ci := 9) (v := .ref r_14) (C := RX10) (T := TX10) (N := 36) hx hb hts in10 hown hK (va_one at_49) 0 rfl rfl 10 (by decide) (hts (.fieldLink RX10 28 "RiverModelModel" "m" "[J") (List.mem_of_getElem? (i := 9) rfl)) (fun _ h9 => h9) rfl dX10_moves_249 ?_
    refine lv_pc (pc2 := 252) rfl ?_
    refine lv_sipush (v := 224) hx hb dX10_moves_252 (by decide) ?_
    refine lv_iload_n hx hb dX10_moves_255 rfl (lv_at hl 4 rfl) ?_
    refine lv_iadd hx hb dX10_moves_256 ?_
    refine lv_topi (fun x_76 e_77 => ?_)
    have i_x_76 : x_76.toInt = 224 + a2.toInt := by rw [e_77]; exact (q_add (by rw [show (224 : Int32).toInt = 224 by decide]; omega) (by rw [show (224 : Int32).toInt = 224 by decide]; omega)).trans (by rw [show (224 : Int32).toInt = 224 by decide])
    obtain ⟨f_78, at_79, h_80⟩ := mF_o47 hG h_15
    have b_81 : vp_in x_76 280 := (q_in (by omega) (by omega))
    refine va_lald hx hb hK (va_one at_79) 0 1 rfl rfl b_81 dX10_moves_257 ?_
    refine lv_topl (fun z_82 e_83 => ?_)
    refine lv_lload hx hb dX10_moves_258 (lv_at hl 0 rfl) ?_
    refine lv_lmul hx hb dX10_moves_260 ?_
    refine lv_topl (fun z_84 e_85 => ?_)
    refine ty_calll (W.runV (As := [.int x_52, .long z_84]) (rest := []) ⟨hx, hb, hml, hown, hts⟩ (m_X10_most l D t cI cL cC gC gE gW gA gT gI gS gM K F S N gH gJ ge gk gf gs gg gr RN a0 x_52 z_84  uq (by omega) (by omega) k_a0) (cwV 2 hts gu_X10_moves_X10_most_215 rfl rfl rfl (by decide +kernel) ⟨Nat.le_of_ble_eq_true rfl, Nat.le_of_ble_eq_true rfl⟩) (tP_V hG hE at_49 rfl) rfl rfl hl.1 rfl (lv_room (Nat.le_of_ble_eq_true rfl)) dX10_moves_261 ⟨Nat.le_of_ble_eq_true rfl, Nat.le_of_ble_eq_true rfl⟩) hS (fun _ h => h) (fun z_86 H locs hp_87 hG hS o_88 => ?_)
    have at_49 := va_at.keptC at_49 o_88 k_a0 rfl
    have at_50 := va_at.keptC at_50 o_88 h_7 rfl
    have at_56 := va_at.keptC at_56 o_88 h_11 rfl
    have at_60 := va_at.keptC at_60 o_88 h_5 rfl
    have at_79 := va_at.keptC at_79 o_88 h_15 rfl
    exact ty_lret hx hb hr hlk hG hS True.intro dX10_moves_264
  by_cases k_90 : x_62.toInt = 104
  · refine lv_tableIn (tgt := 337) hx hb dX10_moves_25 (by rw [k_90]; decide) (by rw [k_90]; decide) (by rw [k_90]; rfl) (by decide) ?_
    refine lv_pc (pc2 := 337) rfl ?_
    refine lv_lconst (v := 0) hx hb dX10_moves_337 (by decide) ?_
    have zl_0 : (0 : Int64).toInt = 0 := by decide
    exact ty_lret hx hb hr hlk hG hS True.intro dX10_moves_338
  by_cases k_91 : x_62.toInt = 105
  · refine lv_tableIn (tgt := 337) hx hb dX10_moves_25 (by rw [k_91]; decide) (by rw [k_91]; decide) (by rw [k_91]; rfl) (by decide) ?_
    refine lv_lconst (v := 0) hx hb dX10_moves_337 (by decide) ?_
    have zl_0 : (0 : Int64).toInt = 0 := by decide
    exact ty_lret hx hb hr hlk hG hS True.intro dX10_moves_338
  by_cases k_92 : x_62.toInt = 106
  · refine lv_tableIn (tgt := 337) hx hb dX10_moves_25 (by rw [k_92]; decide) (by rw [k_92]; decide) (by rw [k_92]; rfl) (by decide) ?_
    refine lv_lconst (v := 0) hx hb dX10_moves_337 (by decide) ?_
    have zl_0 : (0 : Int64).toInt = 0 := by decide
    exact ty_lret hx hb hr hlk hG hS True.intro dX10_moves_338
  by_cases k_93 : x_62.toInt = 107
  · refine lv_tableIn (tgt := 337) hx hb dX10_moves_25 (by rw [k_93]; decide) (by rw [k_93]; decide) (by rw [k_93]; rfl) (by decide) ?_
    refine lv_lconst (v := 0) hx hb dX10_moves_337 (by decide) ?_
    have zl_0 : (0 : Int64).toInt = 0 := by decide
    exact ty_lret hx hb hr hlk hG hS True.intro dX10_moves_338
  by_cases k_94 : x_62.toInt = 108
  · refine lv_tableIn (tgt := 128) hx hb dX10_moves_25 (by rw [k_94]; decide) (by rw [k_94]; decide) (by rw [k_94]; rfl) (by decide) ?_
    refine lv_pc (pc2 := 128) rfl ?_
    refine lv_aload_n hx hb dX10_moves_128 rfl (lv_at hl 2 rfl) ?_
    refine va_get (D := D) (ci := 9) (v := .ref r_14) (C := RX10) (T := TX10) (N := 36) hx hb hts in10 hown hK (va_one at_49) 0 rfl rfl 10 (by decide) (hts (.fieldLink RX10 28 "RiverModelModel" "m" "[J") (List.mem_of_getElem? (i := 9) rfl)) (fun _ h9 => h9) rfl dX10_moves_129 ?_
    refine lv_iload hx hb dX10_moves_132 (lv_at hl 1 rfl) ?_
    obtain ⟨f_95, at_96, h_97⟩ := mF_o47 hG h_15
    have b_98 : vp_in x_52 280 := (q_in (by omega) (by omega))
    refine va_lald hx hb hK (va_one at_96) 0 1 rfl rfl b_98 dX10_moves_134 ?_
    refine lv_topl (fun z_99 e_100 => ?_)
    refine lv_aload_n hx hb dX10_moves_135 rfl (lv_at hl 2 rfl) ?_
    refine va_get (D := D) (ci := 9) (v := .ref r_10) (C := RX10) (T := TX10) (N := 36) hx hb hts in10 hown hK (va_one at_49) 0 rfl rfl 7 (by decide) (hts (.fieldLink RX10 22 "RiverModelModel" "number" "[I") (List.mem_of_getElem? (i := 2) rfl)) (fun _ h9 => h9) rfl dX10_moves_136 ?_
    refine lv_iconst (v := 3) hx hb dX10_moves_139 (by decide) ?_
    refine lv_iload_n hx hb dX10_moves_140 rfl (lv_at hl 3 rfl) ?_
    refine lv_pc (pc2 := 141) rfl ?_
    refine lv_imul hx hb dX10_moves_141 ?_
    refine lv_topi (fun x_101 e_102 => ?_)
    have i_x_101 : x_101.toInt = 3 * a1.toInt := by rw [e_102]; exact (q_mul (by rw [show (3 : Int32).toInt = 3 by decide]; omega) (by rw [show (3 : Int32).toInt = 3 by decide]; omega)).trans (by rw [show (3 : Int32).toInt = 3 by decide])
    refine lv_iconst (v := 2) hx hb dX10_moves_142 (by decide) ?_
    refine lv_iadd hx hb dX10_moves_143 ?_
    refine lv_topi (fun x_103 e_104 => ?_)
    have i_x_103 : x_103.toInt = x_101.toInt + 2 := by rw [e_104]; exact (q_add (by rw [show (2 : Int32).toInt = 2 by decide]; omega) (by rw [show (2 : Int32).toInt = 2 by decide]; omega)).trans (by rw [show (2 : Int32).toInt = 2 by decide])
    have b_105 : vp_in x_103 360 := (q_in (by omega) (by omega))
    refine va_iald hx hb hK (va_one at_56) 0 0 rfl rfl b_105 dX10_moves_144 ?_
    refine lv_topi (fun x_106 e_107 => ?_)
    have w_x_106 : x_106 = N (3 * (M + J) + 2).toNat := by rw [e_107]; exact congrArg (fun q : Int => N q.toNat) (show x_103.toInt = 3 * (M + J) + 2 by omega)
    have i_x_106 : x_106.toInt = (N (3 * (M + J) + 2).toNat).toInt := by rw [w_x_106]
    refine lv_i2l (v := x_106.toInt64) hx hb dX10_moves_145 rfl ?_
    refine W.lcmp hx hb dX10_moves_146 ?_
    refine lv_if_le (tgt := 187) hx hb dX10_moves_147 (by decide) (fun c_108 => ?_) (fun c_108 => ?_)
    · skip
      have c_108 : z_99.toInt ≤ x_106.toInt := by rw [← q_i2l x_106]; exact q_cmp_le c_108
      refine lv_lconst (v := 0) hx hb dX10_moves_187 (by decide) ?_
      refine lv_pc (pc2 := 188) rfl ?_
      have zl_0 : (0 : Int64).toInt = 0 := by decide
      exact ty_lret hx hb hr hlk hG hS True.intro dX10_moves_188
    · skip
      have c_108 : x_106.toInt < z_99.toInt := by rw [← q_i2l x_106]; exact q_cmp_nle c_108
      refine lv_aload_n hx hb dX10_moves_150 rfl (lv_at hl 2 rfl) ?_
      refine va_get (D := D) (ci := 9) (v := .ref r_14) (C := RX10) (T := TX10) (N := 36) hx hb hts in10 hown hK (va_one at_49) 0 rfl rfl 10 (by decide) (hts (.fieldLink RX10 28 "RiverModelModel" "m" "[J") (List.mem_of_getElem? (i := 9) rfl)) (fun _ h9 => h9) rfl dX10_moves_151 ?_
      refine lv_iload hx hb dX10_moves_154 (lv_at hl 1 rfl) ?_
      have b_109 : vp_in x_52 280 := (q_in (by omega) (by omega))
      refine va_lald hx hb hK (va_one at_96) 0 1 rfl rfl b_109 dX10_moves_156 ?_
      refine lv_setl (y := z_99) e_100.symm ?_
      refine lv_aload_n hx hb dX10_moves_157 rfl (lv_at hl 2 rfl) ?_
      refine va_get (D := D) (ci := 9) (v := .ref r_10) (C := RX10) (T := TX10) (N := 36) hx hb hts in10 hown hK (va_one at_49) 0 rfl rfl 7 (by decide) (hts (.fieldLink RX10 22 "RiverModelModel" "number" "[I") (List.mem_of_getElem? (i := 2) rfl)) (fun _ h9 => h9) rfl dX10_moves_158 ?_
      refine lv_iconst (v := 3) hx hb dX10_moves_161 (by decide) ?_
      refine lv_pc (pc2 := 162) rfl ?_
      refine lv_iload_n hx hb dX10_moves_162 rfl (lv_at hl 3 rfl) ?_
      refine lv_imul hx hb dX10_moves_163 ?_
      refine lv_topi (fun x_110 e_111 => ?_)
      have i_x_110 : x_110.toInt = 3 * a1.toInt := by rw [e_111]; exact (q_mul (by rw [show (3 : Int32).toInt = 3 by decide]; omega) (by rw [show (3 : Int32).toInt = 3 by decide]; omega)).trans (by rw [show (3 : Int32).toInt = 3 by decide])
      refine lv_iconst (v := 2) hx hb dX10_moves_164 (by decide) ?_
      refine lv_iadd hx hb dX10_moves_165 ?_
      refine lv_topi (fun x_112 e_113 => ?_)
      have i_x_112 : x_112.toInt = x_110.toInt + 2 := by rw [e_113]; exact (q_add (by rw [show (2 : Int32).toInt = 2 by decide]; omega) (by rw [show (2 : Int32).toInt = 2 by decide]; omega)).trans (by rw [show (2 : Int32).toInt = 2 by decide])
      have b_114 : vp_in x_112 360 := (q_in (by omega) (by omega))
      refine va_iald hx hb hK (va_one at_56) 0 0 rfl rfl b_114 dX10_moves_166 ?_
      refine lv_topi (fun x_115 e_116 => ?_)
      have w_x_115 : x_115 = N (x_112.toInt).toNat := by rw [e_116]; exact congrArg (fun q : Int => N q.toNat) (show x_112.toInt = x_112.toInt by omega)
      have i_x_115 : x_115.toInt = (N (x_112.toInt).toNat).toInt := by rw [w_x_115]
      refine lv_i2l (v := x_115.toInt64) hx hb dX10_moves_167 rfl ?_
      refine lv_lsub hx hb dX10_moves_168 ?_
      refine lv_topl (fun z_117 e_118 => ?_)
      refine lv_lload hx hb dX10_moves_169 (lv_at hl 0 rfl) ?_
      refine lv_pc (pc2 := 171) rfl ?_
      refine lv_lmul hx hb dX10_moves_171 ?_
      refine lv_topl (fun z_119 e_120 => ?_)
      have o5 := hok.2.2.2.2.1 (by omega)
      refine lv_aload_n hx hb dX10_moves_172 rfl (lv_at hl 2 rfl) ?_
      refine va_get (D := D) (ci := 9) (v := .ref r_10) (C := RX10) (T := TX10) (N := 36) hx hb hts in10 hown hK (va_one at_49) 0 rfl rfl 7 (by decide) (hts (.fieldLink RX10 22 "RiverModelModel" "number" "[I") (List.mem_of_getElem? (i := 2) rfl)) (fun _ h9 => h9) rfl dX10_moves_173 ?_
      refine lv_iconst (v := 3) hx hb dX10_moves_176 (by decide) ?_
      refine lv_iload_n hx hb dX10_moves_177 rfl (lv_at hl 3 rfl) ?_
      refine lv_imul hx hb dX10_moves_178 ?_
      refine lv_topi (fun x_121 e_122 => ?_)
      have i_x_121 : x_121.toInt = 3 * a1.toInt := by rw [e_122]; exact (q_mul (by rw [show (3 : Int32).toInt = 3 by decide]; omega) (by rw [show (3 : Int32).toInt = 3 by decide]; omega)).trans (by rw [show (3 : Int32).toInt = 3 by decide])
      refine lv_iconst (v := 1) hx hb dX10_moves_179 (by decide) ?_
      refine lv_iadd hx hb dX10_moves_180 ?_
      refine lv_topi (fun x_123 e_124 => ?_)
      have i_x_123 : x_123.toInt = x_121.toInt + 1 := by rw [e_124]; exact (q_add (by rw [show (1 : Int32).toInt = 1 by decide]; omega) (by rw [show (1 : Int32).toInt = 1 by decide]; omega)).trans (by rw [show (1 : Int32).toInt = 1 by decide])
      refine lv_pc (pc2 := 181) rfl ?_
      have b_125 : vp_in x_123 360 := (q_in (by omega) (by omega))
      refine va_iald hx hb hK (va_one at_56) 0 0 rfl rfl b_125 dX10_moves_181 ?_
      refine lv_topi (fun x_126 e_127 => ?_)
      have w_x_126 : x_126 = N (3 * (M + J) + 1).toNat := by rw [e_127]; exact congrArg (fun q : Int => N q.toNat) (show x_123.toInt = 3 * (M + J) + 1 by omega)
      have i_x_126 : x_126.toInt = (N (3 * (M + J) + 1).toNat).toInt := by rw [w_x_126]
      refine lv_i2l (v := x_126.toInt64) hx hb dX10_moves_182 rfl ?_
      refine lv_ldiv hx hb dX10_moves_183 (qL_nz (by rw [q_i2l]; omega)) ?_
      refine lv_topl (fun z_128 e_129 => ?_)
      refine lv_goto (tgt := 188) hx hb dX10_moves_184 (by decide) ?_
      exact ty_lret hx hb hr hlk hG hS True.intro dX10_moves_188
  by_cases k_130 : x_62.toInt = 109
  · refine lv_tableIn (tgt := 223) hx hb dX10_moves_25 (by rw [k_130]; decide) (by rw [k_130]; decide) (by rw [k_130]; rfl) (by decide) ?_
    refine lv_iload hx hb dX10_moves_223 (lv_at hl 6 rfl) ?_
    refine lv_if_le (tgt := 243) hx hb dX10_moves_225 (by decide) (fun c_131 => ?_) (fun c_131 => ?_)
    · skip
      have c_131 : a4.toInt ≤ 0 := q_le c_131
      refine lv_lconst (v := 0) hx hb dX10_moves_243 (by decide) ?_
      refine lv_pc (pc2 := 244) rfl ?_
      have zl_0 : (0 : Int64).toInt = 0 := by decide
      exact ty_lret hx hb hr hlk hG hS True.intro dX10_moves_244
    · skip
      have c_131 : 0 < a4.toInt := q_nle c_131
      refine lv_aload_n hx hb dX10_moves_228 rfl (lv_at hl 2 rfl) ?_
      refine lv_iload hx hb dX10_moves_229 (lv_at hl 1 rfl) ?_
      refine lv_iload hx hb dX10_moves_231 (lv_at hl 6 rfl) ?_
      refine lv_i2l (v := a4.toInt64) hx hb dX10_moves_233 rfl ?_
      refine lv_lload hx hb dX10_moves_234 (lv_at hl 0 rfl) ?_
      refine lv_lmul hx hb dX10_moves_236 ?_
      refine lv_topl (fun z_132 e_133 => ?_)
      refine ty_calll (W.runV (As := [.int x_52, .long z_132]) (rest := []) ⟨hx, hb, hml, hown, hts⟩ (m_X10_most l D t cI cL cC gC gE gW gA gT gI gS gM K F S N gH gJ ge gk gf gs gg gr RN a0 x_52 z_132  uq (by omega) (by omega) k_a0) (cwV 2 hts gu_X10_moves_X10_most_215 rfl rfl rfl (by decide +kernel) ⟨Nat.le_of_ble_eq_true rfl, Nat.le_of_ble_eq_true rfl⟩) (tP_V hG hE at_49 rfl) rfl rfl hl.1 rfl (lv_room (Nat.le_of_ble_eq_true rfl)) dX10_moves_237 ⟨Nat.le_of_ble_eq_true rfl, Nat.le_of_ble_eq_true rfl⟩) hS (fun _ h => h) (fun z_134 H locs hp_135 hG hS o_136 => ?_)
      have at_49 := va_at.keptC at_49 o_136 k_a0 rfl
      have at_50 := va_at.keptC at_50 o_136 h_7 rfl
      have at_56 := va_at.keptC at_56 o_136 h_11 rfl
      have at_60 := va_at.keptC at_60 o_136 h_5 rfl
      refine lv_pc (pc2 := 240) rfl ?_
      refine lv_goto (tgt := 244) hx hb dX10_moves_240 (by decide) ?_
      exact ty_lret hx hb hr hlk hG hS True.intro dX10_moves_244
  by_cases k_138 : x_62.toInt = 110
  · refine lv_tableIn (tgt := 284) hx hb dX10_moves_25 (by rw [k_138]; decide) (by rw [k_138]; decide) (by rw [k_138]; rfl) (by decide) ?_
    refine lv_iload hx hb dX10_moves_284 (lv_at hl 6 rfl) ?_
    refine lv_if_le (tgt := 293) hx hb dX10_moves_286 (by decide) (fun c_139 => ?_) (fun c_139 => ?_)
    · skip
      have c_139 : a4.toInt ≤ 0 := q_le c_139
      refine lv_iload_n hx hb dX10_moves_293 rfl (lv_at hl 5 rfl) ?_
      refine lv_i2l (v := a3.toInt64) hx hb dX10_moves_294 rfl ?_
      refine lv_lload hx hb dX10_moves_295 (lv_at hl 0 rfl) ?_
      refine lv_lmul hx hb dX10_moves_297 ?_
      refine lv_topl (fun z_140 e_141 => ?_)
      refine lv_pc (pc2 := 298) rfl ?_
      refine lv_ldc2 hx hb hown (hts (.constantLong RX10 107 (100)) (List.mem_of_getElem? (i := 10) rfl)) dX10_moves_298 ?_
      refine lv_ldiv hx hb dX10_moves_301 (by decide) ?_
      refine lv_topl (fun z_142 e_143 => ?_)
      exact ty_lret hx hb hr hlk hG hS True.intro dX10_moves_302
    · skip
      have c_139 : 0 < a4.toInt := q_nle c_139
      refine lv_lconst (v := 0) hx hb dX10_moves_289 (by decide) ?_
      refine lv_goto (tgt := 302) hx hb dX10_moves_290 (by decide) ?_
      have zl_0 : (0 : Int64).toInt = 0 := by decide
      exact ty_lret hx hb hr hlk hG hS True.intro dX10_moves_302
  by_cases k_144 : x_62.toInt = 111
  · refine lv_tableIn (tgt := 189) hx hb dX10_moves_25 (by rw [k_144]; decide) (by rw [k_144]; decide) (by rw [k_144]; rfl) (by decide) ?_
    have o7 := hok.2.2.2.2.2.2 (by omega)
    refine lv_aload_n hx hb dX10_moves_189 rfl (lv_at hl 2 rfl) ?_
    refine va_get (D := D) (ci := 9) (v := .ref r_14) (C := RX10) (T := TX10) (N := 36) hx hb hts in10 hown hK (va_one at_49) 0 rfl rfl 10 (by decide) (hts (.fieldLink RX10 28 "RiverModelModel" "m" "[J") (List.mem_of_getElem? (i := 9) rfl)) (fun _ h9 => h9) rfl dX10_moves_190 ?_
    refine lv_pc (pc2 := 193) rfl ?_
    refine lv_iload hx hb dX10_moves_193 (lv_at hl 1 rfl) ?_
    obtain ⟨f_145, at_146, h_147⟩ := mF_o47 hG h_15
    have b_148 : vp_in x_52 280 := (q_in (by omega) (by omega))
    refine va_lald hx hb hK (va_one at_146) 0 1 rfl rfl b_148 dX10_moves_195 ?_
    refine lv_topl (fun z_149 e_150 => ?_)
    refine lv_aload_n hx hb dX10_moves_196 rfl (lv_at hl 2 rfl) ?_
    refine lv_iload_n hx hb dX10_moves_197 rfl (lv_at hl 3 rfl) ?_
    refine ty_calll (W.runV (As := [.int a1]) (rest := [.long z_149]) ⟨hx, hb, hml, hown, hts⟩ (m_X10_capacity l D t cI cL cC gC gE gW gA gT gI gS gM K F S N gH gJ ge gk gf gs gg gr RN a0 a1 M B J uq (by omega) (by omega) (by omega) (by omega) (by omega) (by omega) (by omega) (by omega) o7 k_a0) (cwV 1 hts gu_X10_moves_X10_capacity_211 rfl rfl rfl (by decide +kernel) ⟨Nat.le_of_ble_eq_true rfl, Nat.le_of_ble_eq_true rfl⟩) (tP_V hG hE at_49 rfl) rfl rfl hl.1 rfl (lv_room (Nat.le_of_ble_eq_true rfl)) dX10_moves_198 ⟨Nat.le_of_ble_eq_true rfl, Nat.le_of_ble_eq_true rfl⟩) hS (fun _ h => h) (fun z_151 H locs hp_152 hG hS o_153 => ?_)
    have at_49 := va_at.keptC at_49 o_153 k_a0 rfl
    have at_50 := va_at.keptC at_50 o_153 h_7 rfl
    have at_56 := va_at.keptC at_56 o_153 h_11 rfl
    have at_60 := va_at.keptC at_60 o_153 h_5 rfl
    have at_146 := va_at.keptC at_146 o_153 h_15 rfl
    refine W.lcmp hx hb dX10_moves_201 ?_
    refine lv_if_le (tgt := 221) hx hb dX10_moves_202 (by decide) (fun c_155 => ?_) (fun c_155 => ?_)
    · skip
      have c_155 : z_149.toInt ≤ z_151.toInt := q_cmp_le c_155
      refine lv_lconst (v := 0) hx hb dX10_moves_221 (by decide) ?_
      refine lv_pc (pc2 := 222) rfl ?_
      have zl_0 : (0 : Int64).toInt = 0 := by decide
      exact ty_lret hx hb hr hlk hG hS True.intro dX10_moves_222
    · skip
      have c_155 : z_151.toInt < z_149.toInt := q_cmp_nle c_155
      refine lv_aload_n hx hb dX10_moves_205 rfl (lv_at hl 2 rfl) ?_
      refine va_get (D := D) (ci := 9) (v := .ref r_14) (C := RX10) (T := TX10) (N := 36) hx hb hts in10 hown hK (va_one at_49) 0 rfl rfl 10 (by decide) (hts (.fieldLink RX10 28 "RiverModelModel" "m" "[J") (List.mem_of_getElem? (i := 9) rfl)) (fun _ h9 => h9) rfl dX10_moves_206 ?_
      refine lv_iload hx hb dX10_moves_209 (lv_at hl 1 rfl) ?_
      have b_156 : vp_in x_52 280 := (q_in (by omega) (by omega))
      refine va_lald hx hb hK (va_one at_146) 0 1 rfl rfl b_156 dX10_moves_211 ?_
      refine lv_setl (y := z_149) e_150.symm ?_
      refine lv_aload_n hx hb dX10_moves_212 rfl (lv_at hl 2 rfl) ?_
      refine lv_iload_n hx hb dX10_moves_213 rfl (lv_at hl 3 rfl) ?_
      refine ty_calll (W.runV (As := [.int a1]) (rest := [.long z_149]) ⟨hx, hb, hml, hown, hts⟩ (m_X10_capacity l D t cI cL cC gC gE gW gA gT gI gS gM K F S N gH gJ ge gk gf gs gg gr RN a0 a1 M B J uq (by omega) (by omega) (by omega) (by omega) (by omega) (by omega) (by omega) (by omega) o7 k_a0) (cwV 1 hts gu_X10_moves_X10_capacity_211 rfl rfl rfl (by decide +kernel) ⟨Nat.le_of_ble_eq_true rfl, Nat.le_of_ble_eq_true rfl⟩) (tP_V hG hE at_49 rfl) rfl rfl hl.1 rfl (lv_room (Nat.le_of_ble_eq_true rfl)) dX10_moves_214 ⟨Nat.le_of_ble_eq_true rfl, Nat.le_of_ble_eq_true rfl⟩) hS (fun _ h => h) (fun z_157 H locs hp_158 hG hS o_159 => ?_)
      have at_49 := va_at.keptC at_49 o_159 k_a0 rfl
      have at_50 := va_at.keptC at_50 o_159 h_7 rfl
      have at_56 := va_at.keptC at_56 o_159 h_11 rfl
      have at_60 := va_at.keptC at_60 o_159 h_5 rfl
      have at_146 := va_at.keptC at_146 o_159 h_15 rfl
      refine lv_pc (pc2 := 217) rfl ?_
      refine lv_lsub hx hb dX10_moves_217 ?_
      refine lv_topl (fun z_161 e_162 => ?_)
      refine lv_goto (tgt := 222) hx hb dX10_moves_218 (by decide) ?_
      exact ty_lret hx hb hr hlk hG hS True.intro dX10_moves_222
  by_cases k_163 : x_62.toInt = 112
  · refine lv_tableIn (tgt := 337) hx hb dX10_moves_25 (by rw [k_163]; decide) (by rw [k_163]; decide) (by rw [k_163]; rfl) (by decide) ?_
    refine lv_lconst (v := 0) hx hb dX10_moves_337 (by decide) ?_
    have zl_0 : (0 : Int64).toInt = 0 := by decide
    exact ty_lret hx hb hr hlk hG hS True.intro dX10_moves_338
  by_cases k_164 : x_62.toInt = 113
  · refine lv_tableIn (tgt := 337) hx hb dX10_moves_25 (by rw [k_164]; decide) (by rw [k_164]; decide) (by rw [k_164]; rfl) (by decide) ?_
    refine lv_lconst (v := 0) hx hb dX10_moves_337 (by decide) ?_
    have zl_0 : (0 : Int64).toInt = 0 := by decide
    exact ty_lret hx hb hr hlk hG hS True.intro dX10_moves_338
  by_cases k_165 : x_62.toInt = 114
  · refine lv_tableIn (tgt := 265) hx hb dX10_moves_25 (by rw [k_165]; decide) (by rw [k_165]; decide) (by rw [k_165]; rfl) (by decide) ?_
    refine lv_iload hx hb dX10_moves_265 (lv_at hl 6 rfl) ?_
    refine lv_pc (pc2 := 267) rfl ?_
    refine lv_if_le (tgt := 282) hx hb dX10_moves_267 (by decide) (fun c_166 => ?_) (fun c_166 => ?_)
    · skip
      have c_166 : a4.toInt ≤ 0 := q_le c_166
      refine lv_lconst (v := 0) hx hb dX10_moves_282 (by decide) ?_
      have zl_0 : (0 : Int64).toInt = 0 := by decide
      exact ty_lret hx hb hr hlk hG hS True.intro dX10_moves_283
    · skip
      have c_166 : 0 < a4.toInt := q_nle c_166
      refine lv_iload_n hx hb dX10_moves_270 rfl (lv_at hl 5 rfl) ?_
      refine lv_i2l (v := a3.toInt64) hx hb dX10_moves_271 rfl ?_
      refine lv_lload hx hb dX10_moves_272 (lv_at hl 0 rfl) ?_
      refine lv_lmul hx hb dX10_moves_274 ?_
      refine lv_topl (fun z_167 e_168 => ?_)
      refine lv_ldc2 hx hb hown (hts (.constantLong RX10 107 (100)) (List.mem_of_getElem? (i := 10) rfl)) dX10_moves_275 ?_
      refine lv_pc (pc2 := 278) rfl ?_
      refine lv_ldiv hx hb dX10_moves_278 (by decide) ?_
      refine lv_topl (fun z_169 e_170 => ?_)
      refine lv_goto (tgt := 283) hx hb dX10_moves_279 (by decide) ?_
      exact ty_lret hx hb hr hlk hG hS True.intro dX10_moves_283
  by_cases k_171 : x_62.toInt = 115
  · refine lv_tableIn (tgt := 337) hx hb dX10_moves_25 (by rw [k_171]; decide) (by rw [k_171]; decide) (by rw [k_171]; rfl) (by decide) ?_
    refine lv_lconst (v := 0) hx hb dX10_moves_337 (by decide) ?_
    have zl_0 : (0 : Int64).toInt = 0 := by decide
    exact ty_lret hx hb hr hlk hG hS True.intro dX10_moves_338
  by_cases k_172 : x_62.toInt = 116
  · refine lv_tableIn (tgt := 329) hx hb dX10_moves_25 (by rw [k_172]; decide) (by rw [k_172]; decide) (by rw [k_172]; rfl) (by decide) ?_
    refine lv_aload_n hx hb dX10_moves_329 rfl (lv_at hl 2 rfl) ?_
    refine va_get (D := D) (ci := 9) (v := .ref r_14) (C := RX10) (T := TX10) (N := 36) hx hb hts in10 hown hK (va_one at_49) 0 rfl rfl 10 (by decide) (hts (.fieldLink RX10 28 "RiverModelModel" "m" "[J") (List.mem_of_getElem? (i := 9) rfl)) (fun _ h9 => h9) rfl dX10_moves_330 ?_
    refine lv_iload hx hb dX10_moves_333 (lv_at hl 1 rfl) ?_
    refine lv_pc (pc2 := 335) rfl ?_
    obtain ⟨f_173, at_174, h_175⟩ := mF_o47 hG h_15
    have b_176 : vp_in x_52 280 := (q_in (by omega) (by omega))
    refine va_lald hx hb hK (va_one at_174) 0 1 rfl rfl b_176 dX10_moves_335 ?_
    refine lv_topl (fun z_177 e_178 => ?_)
    exact ty_lret hx hb hr hlk hG hS True.intro dX10_moves_336
  by_cases k_179 : x_62.toInt = 117
  · refine lv_tableIn (tgt := 337) hx hb dX10_moves_25 (by rw [k_179]; decide) (by rw [k_179]; decide) (by rw [k_179]; rfl) (by decide) ?_
    refine lv_lconst (v := 0) hx hb dX10_moves_337 (by decide) ?_
    have zl_0 : (0 : Int64).toInt = 0 := by decide
    exact ty_lret hx hb hr hlk hG hS True.intro dX10_moves_338
  by_cases k_180 : x_62.toInt = 118
  · refine lv_tableIn (tgt := 337) hx hb dX10_moves_25 (by rw [k_180]; decide) (by rw [k_180]; decide) (by rw [k_180]; rfl) (by decide) ?_
    refine lv_lconst (v := 0) hx hb dX10_moves_337 (by decide) ?_
    have zl_0 : (0 : Int64).toInt = 0 := by decide
    exact ty_lret hx hb hr hlk hG hS True.intro dX10_moves_338
  by_cases k_181 : x_62.toInt = 119
  · refine lv_tableIn (tgt := 337) hx hb dX10_moves_25 (by rw [k_181]; decide) (by rw [k_181]; decide) (by rw [k_181]; rfl) (by decide) ?_
    refine lv_lconst (v := 0) hx hb dX10_moves_337 (by decide) ?_
    have zl_0 : (0 : Int64).toInt = 0 := by decide
    exact ty_lret hx hb hr hlk hG hS True.intro dX10_moves_338
  by_cases k_182 : x_62.toInt = 120
  · refine lv_tableIn (tgt := 337) hx hb dX10_moves_25 (by rw [k_182]; decide) (by rw [k_182]; decide) (by rw [k_182]; rfl) (by decide) ?_
    refine lv_pc (pc2 := 337) rfl ?_
    refine lv_lconst (v := 0) hx hb dX10_moves_337 (by decide) ?_
    have zl_0 : (0 : Int64).toInt = 0 := by decide
    exact ty_lret hx hb hr hlk hG hS True.intro dX10_moves_338
  by_cases k_183 : x_62.toInt = 121
  · refine lv_tableIn (tgt := 337) hx hb dX10_moves_25 (by rw [k_183]; decide) (by rw [k_183]; decide) (by rw [k_183]; rfl) (by decide) ?_
    refine lv_lconst (v := 0) hx hb dX10_moves_337 (by decide) ?_
    have zl_0 : (0 : Int64).toInt = 0 := by decide
    exact ty_lret hx hb hr hlk hG hS True.intro dX10_moves_338
  by_cases k_184 : x_62.toInt = 122
  · refine lv_tableIn (tgt := 329) hx hb dX10_moves_25 (by rw [k_184]; decide) (by rw [k_184]; decide) (by rw [k_184]; rfl) (by decide) ?_
    refine lv_aload_n hx hb dX10_moves_329 rfl (lv_at hl 2 rfl) ?_
    refine va_get (D := D) (ci := 9) (v := .ref r_14) (C := RX10) (T := TX10) (N := 36) hx hb hts in10 hown hK (va_one at_49) 0 rfl rfl 10 (by decide) (hts (.fieldLink RX10 28 "RiverModelModel" "m" "[J") (List.mem_of_getElem? (i := 9) rfl)) (fun _ h9 => h9) rfl dX10_moves_330 ?_
    refine lv_iload hx hb dX10_moves_333 (lv_at hl 1 rfl) ?_
    obtain ⟨f_185, at_186, h_187⟩ := mF_o47 hG h_15
    have b_188 : vp_in x_52 280 := (q_in (by omega) (by omega))
    refine va_lald hx hb hK (va_one at_186) 0 1 rfl rfl b_188 dX10_moves_335 ?_
    refine lv_topl (fun z_189 e_190 => ?_)
    refine lv_pc (pc2 := 336) rfl ?_
    exact ty_lret hx hb hr hlk hG hS True.intro dX10_moves_336
  refine lv_tableOut (tgt := 337) hx hb dX10_moves_25 (by omega) (by decide) ?_
  refine lv_lconst (v := 0) hx hb dX10_moves_337 (by decide) ?_
  have zl_0 : (0 : Int64).toInt = 0 := by decide
  exact ty_lret hx hb hr hlk hG hS True.intro dX10_moves_338
