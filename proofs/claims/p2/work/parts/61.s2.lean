theorem dX0_begin_0 : decode cX0_begin 0 = .ok (.iconst 0, 1) := by decide +kernel
theorem dX0_begin_1 : decode cX0_begin 1 = .ok (.istore_n 2, 1) := by decide +kernel
theorem dX0_begin_2 : decode cX0_begin 2 = .ok (.iload_n 2, 1) := by decide +kernel
theorem dX0_begin_3 : decode cX0_begin 3 = .ok (.bipush 16, 2) := by decide +kernel
theorem dX0_begin_5 : decode cX0_begin 5 = .ok (.if_icmp .ge 21, 3) := by decide +kernel
theorem dX0_begin_8 : decode cX0_begin 8 = .ok (.aload_n 0, 1) := by decide +kernel
theorem dX0_begin_9 : decode cX0_begin 9 = .ok (.getfield 9, 3) := by decide +kernel
theorem dX0_begin_12 : decode cX0_begin 12 = .ok (.iload_n 2, 1) := by decide +kernel
theorem dX0_begin_13 : decode cX0_begin 13 = .ok (.aload_n 1, 1) := by decide +kernel
theorem dX0_begin_14 : decode cX0_begin 14 = .ok (.iload_n 2, 1) := by decide +kernel
theorem dX0_begin_15 : decode cX0_begin 15 = .ok (.invokevirtual 39, 3) := by decide +kernel
theorem dX0_begin_18 : decode cX0_begin 18 = .ok (.i2l, 1) := by decide +kernel
theorem dX0_begin_19 : decode cX0_begin 19 = .ok (.lastore, 1) := by decide +kernel
theorem dX0_begin_20 : decode cX0_begin 20 = .ok (.iinc 2 1, 3) := by decide +kernel
theorem dX0_begin_23 : decode cX0_begin 23 = .ok (.goto (-21), 3) := by decide +kernel
theorem dX0_begin_26 : decode cX0_begin 26 = .ok (.aload_n 0, 1) := by decide +kernel
theorem dX0_begin_27 : decode cX0_begin 27 = .ok (.getfield 15, 3) := by decide +kernel
theorem dX0_begin_30 : decode cX0_begin 30 = .ok (.lconst 0, 1) := by decide +kernel
theorem dX0_begin_31 : decode cX0_begin 31 = .ok (.invokestatic 45, 3) := by decide +kernel
theorem dX0_begin_34 : decode cX0_begin 34 = .ok (.aload_n 0, 1) := by decide +kernel
theorem dX0_begin_35 : decode cX0_begin 35 = .ok (.getfield 18, 3) := by decide +kernel
theorem dX0_begin_38 : decode cX0_begin 38 = .ok (.iconst 5, 1) := by decide +kernel
theorem dX0_begin_39 : decode cX0_begin 39 = .ok (.invokestatic 51, 3) := by decide +kernel
theorem dX0_begin_42 : decode cX0_begin 42 = .ok (.aload_n 0, 1) := by decide +kernel
theorem dX0_begin_43 : decode cX0_begin 43 = .ok (.getfield 22, 3) := by decide +kernel
theorem dX0_begin_46 : decode cX0_begin 46 = .ok (.lconst 0, 1) := by decide +kernel
theorem dX0_begin_47 : decode cX0_begin 47 = .ok (.invokestatic 45, 3) := by decide +kernel
theorem dX0_begin_50 : decode cX0_begin 50 = .ok (.aload_n 0, 1) := by decide +kernel
theorem dX0_begin_51 : decode cX0_begin 51 = .ok (.lconst 0, 1) := by decide +kernel
theorem dX0_begin_52 : decode cX0_begin 52 = .ok (.putfield 25, 3) := by decide +kernel
theorem dX0_begin_55 : decode cX0_begin 55 = .ok (.aload_n 0, 1) := by decide +kernel
theorem dX0_begin_56 : decode cX0_begin 56 = .ok (.lconst 0, 1) := by decide +kernel
theorem dX0_begin_57 : decode cX0_begin 57 = .ok (.putfield 29, 3) := by decide +kernel
theorem dX0_begin_60 : decode cX0_begin 60 = .ok (.aload_n 0, 1) := by decide +kernel
theorem dX0_begin_61 : decode cX0_begin 61 = .ok (.lconst 0, 1) := by decide +kernel
theorem dX0_begin_62 : decode cX0_begin 62 = .ok (.putfield 32, 3) := by decide +kernel
theorem dX0_begin_65 : decode cX0_begin 65 = .ok (.aload_n 0, 1) := by decide +kernel
theorem dX0_begin_66 : decode cX0_begin 66 = .ok (.iconst 0, 1) := by decide +kernel
theorem dX0_begin_67 : decode cX0_begin 67 = .ok (.putfield 35, 3) := by decide +kernel
theorem dX0_begin_70 : decode cX0_begin 70 = .ok (.return_, 1) := by decide +kernel
theorem dX0_startFrom_0 : decode cX0_startFrom 0 = .ok (.iconst 0, 1) := by decide +kernel
theorem dX0_startFrom_1 : decode cX0_startFrom 1 = .ok (.istore_n 2, 1) := by decide +kernel
theorem dX0_startFrom_2 : decode cX0_startFrom 2 = .ok (.iload_n 2, 1) := by decide +kernel
theorem dX0_startFrom_3 : decode cX0_startFrom 3 = .ok (.bipush 16, 2) := by decide +kernel
theorem dX0_startFrom_5 : decode cX0_startFrom 5 = .ok (.if_icmp .ge 25, 3) := by decide +kernel
theorem dX0_startFrom_8 : decode cX0_startFrom 8 = .ok (.iload_n 2, 1) := by decide +kernel
theorem dX0_startFrom_9 : decode cX0_startFrom 9 = .ok (.aload_n 1, 1) := by decide +kernel
theorem dX0_startFrom_10 : decode cX0_startFrom 10 = .ok (.arraylength, 1) := by decide +kernel
theorem dX0_startFrom_11 : decode cX0_startFrom 11 = .ok (.if_icmp .ge 19, 3) := by decide +kernel
theorem dX0_startFrom_14 : decode cX0_startFrom 14 = .ok (.aload_n 0, 1) := by decide +kernel
theorem dX0_startFrom_15 : decode cX0_startFrom 15 = .ok (.getfield 9, 3) := by decide +kernel
theorem dX0_startFrom_18 : decode cX0_startFrom 18 = .ok (.iload_n 2, 1) := by decide +kernel
theorem dX0_startFrom_19 : decode cX0_startFrom 19 = .ok (.aload_n 1, 1) := by decide +kernel
theorem dX0_startFrom_20 : decode cX0_startFrom 20 = .ok (.iload_n 2, 1) := by decide +kernel
theorem dX0_startFrom_21 : decode cX0_startFrom 21 = .ok (.iaload, 1) := by decide +kernel
theorem dX0_startFrom_22 : decode cX0_startFrom 22 = .ok (.i2l, 1) := by decide +kernel
theorem dX0_startFrom_23 : decode cX0_startFrom 23 = .ok (.lastore, 1) := by decide +kernel
theorem dX0_startFrom_24 : decode cX0_startFrom 24 = .ok (.iinc 2 1, 3) := by decide +kernel
theorem dX0_startFrom_27 : decode cX0_startFrom 27 = .ok (.goto (-25), 3) := by decide +kernel
theorem dX0_startFrom_30 : decode cX0_startFrom 30 = .ok (.return_, 1) := by decide +kernel
theorem dX0_copyFrom_0 : decode cX0_copyFrom 0 = .ok (.aload_n 1, 1) := by decide +kernel
theorem dX0_copyFrom_1 : decode cX0_copyFrom 1 = .ok (.getfield 9, 3) := by decide +kernel
theorem dX0_copyFrom_4 : decode cX0_copyFrom 4 = .ok (.iconst 0, 1) := by decide +kernel
theorem dX0_copyFrom_5 : decode cX0_copyFrom 5 = .ok (.aload_n 0, 1) := by decide +kernel
theorem dX0_copyFrom_6 : decode cX0_copyFrom 6 = .ok (.getfield 9, 3) := by decide +kernel
theorem dX0_copyFrom_9 : decode cX0_copyFrom 9 = .ok (.iconst 0, 1) := by decide +kernel
theorem dX0_copyFrom_10 : decode cX0_copyFrom 10 = .ok (.bipush 16, 2) := by decide +kernel
theorem dX0_copyFrom_12 : decode cX0_copyFrom 12 = .ok (.invokestatic 54, 3) := by decide +kernel
theorem dX0_copyFrom_15 : decode cX0_copyFrom 15 = .ok (.aload_n 1, 1) := by decide +kernel
theorem dX0_copyFrom_16 : decode cX0_copyFrom 16 = .ok (.getfield 15, 3) := by decide +kernel
theorem dX0_copyFrom_19 : decode cX0_copyFrom 19 = .ok (.iconst 0, 1) := by decide +kernel
theorem dX0_copyFrom_20 : decode cX0_copyFrom 20 = .ok (.aload_n 0, 1) := by decide +kernel
theorem dX0_copyFrom_21 : decode cX0_copyFrom 21 = .ok (.getfield 15, 3) := by decide +kernel
theorem dX0_copyFrom_24 : decode cX0_copyFrom 24 = .ok (.iconst 0, 1) := by decide +kernel
theorem dX0_copyFrom_25 : decode cX0_copyFrom 25 = .ok (.bipush 40, 2) := by decide +kernel
theorem dX0_copyFrom_27 : decode cX0_copyFrom 27 = .ok (.invokestatic 54, 3) := by decide +kernel
theorem dX0_copyFrom_30 : decode cX0_copyFrom 30 = .ok (.aload_n 1, 1) := by decide +kernel
theorem dX0_copyFrom_31 : decode cX0_copyFrom 31 = .ok (.getfield 18, 3) := by decide +kernel
theorem dX0_copyFrom_34 : decode cX0_copyFrom 34 = .ok (.iconst 0, 1) := by decide +kernel
theorem dX0_copyFrom_35 : decode cX0_copyFrom 35 = .ok (.aload_n 0, 1) := by decide +kernel
theorem dX0_copyFrom_36 : decode cX0_copyFrom 36 = .ok (.getfield 18, 3) := by decide +kernel
theorem dX0_copyFrom_39 : decode cX0_copyFrom 39 = .ok (.iconst 0, 1) := by decide +kernel
theorem dX0_copyFrom_40 : decode cX0_copyFrom 40 = .ok (.iconst 4, 1) := by decide +kernel
theorem dX0_copyFrom_41 : decode cX0_copyFrom 41 = .ok (.invokestatic 54, 3) := by decide +kernel
theorem dX0_copyFrom_44 : decode cX0_copyFrom 44 = .ok (.aload_n 1, 1) := by decide +kernel
theorem dX0_copyFrom_45 : decode cX0_copyFrom 45 = .ok (.getfield 22, 3) := by decide +kernel
theorem dX0_copyFrom_48 : decode cX0_copyFrom 48 = .ok (.iconst 0, 1) := by decide +kernel
theorem dX0_copyFrom_49 : decode cX0_copyFrom 49 = .ok (.aload_n 0, 1) := by decide +kernel
theorem dX0_copyFrom_50 : decode cX0_copyFrom 50 = .ok (.getfield 22, 3) := by decide +kernel
theorem dX0_copyFrom_53 : decode cX0_copyFrom 53 = .ok (.iconst 0, 1) := by decide +kernel
theorem dX0_copyFrom_54 : decode cX0_copyFrom 54 = .ok (.aload_n 0, 1) := by decide +kernel
theorem dX0_copyFrom_55 : decode cX0_copyFrom 55 = .ok (.getfield 22, 3) := by decide +kernel
theorem dX0_copyFrom_58 : decode cX0_copyFrom 58 = .ok (.arraylength, 1) := by decide +kernel
theorem dX0_copyFrom_59 : decode cX0_copyFrom 59 = .ok (.invokestatic 54, 3) := by decide +kernel
theorem dX0_copyFrom_62 : decode cX0_copyFrom 62 = .ok (.aload_n 0, 1) := by decide +kernel
theorem dX0_copyFrom_63 : decode cX0_copyFrom 63 = .ok (.aload_n 1, 1) := by decide +kernel
theorem dX0_copyFrom_64 : decode cX0_copyFrom 64 = .ok (.getfield 25, 3) := by decide +kernel
theorem dX0_copyFrom_67 : decode cX0_copyFrom 67 = .ok (.putfield 25, 3) := by decide +kernel
theorem dX0_copyFrom_70 : decode cX0_copyFrom 70 = .ok (.aload_n 0, 1) := by decide +kernel
theorem dX0_copyFrom_71 : decode cX0_copyFrom 71 = .ok (.aload_n 1, 1) := by decide +kernel
theorem dX0_copyFrom_72 : decode cX0_copyFrom 72 = .ok (.getfield 29, 3) := by decide +kernel
theorem dX0_copyFrom_75 : decode cX0_copyFrom 75 = .ok (.putfield 29, 3) := by decide +kernel
theorem dX0_copyFrom_78 : decode cX0_copyFrom 78 = .ok (.aload_n 0, 1) := by decide +kernel
theorem dX0_copyFrom_79 : decode cX0_copyFrom 79 = .ok (.aload_n 1, 1) := by decide +kernel
theorem dX0_copyFrom_80 : decode cX0_copyFrom 80 = .ok (.getfield 32, 3) := by decide +kernel
theorem dX0_copyFrom_83 : decode cX0_copyFrom 83 = .ok (.putfield 32, 3) := by decide +kernel
theorem dX0_copyFrom_86 : decode cX0_copyFrom 86 = .ok (.aload_n 0, 1) := by decide +kernel
theorem dX0_copyFrom_87 : decode cX0_copyFrom 87 = .ok (.aload_n 1, 1) := by decide +kernel
theorem dX0_copyFrom_88 : decode cX0_copyFrom 88 = .ok (.getfield 35, 3) := by decide +kernel
theorem dX0_copyFrom_91 : decode cX0_copyFrom 91 = .ok (.putfield 35, 3) := by decide +kernel
theorem dX0_copyFrom_94 : decode cX0_copyFrom 94 = .ok (.return_, 1) := by decide +kernel
theorem dX0_bringDue_0 : decode cX0_bringDue 0 = .ok (.aload_n 0, 1) := by decide +kernel
theorem dX0_bringDue_1 : decode cX0_bringDue 1 = .ok (.getfield 35, 3) := by decide +kernel
theorem dX0_bringDue_4 : decode cX0_bringDue 4 = .ok (.bipush 13, 2) := by decide +kernel
theorem dX0_bringDue_6 : decode cX0_bringDue 6 = .ok (.irem, 1) := by decide +kernel
theorem dX0_bringDue_7 : decode cX0_bringDue 7 = .ok (.bipush 16, 2) := by decide +kernel
theorem dX0_bringDue_9 : decode cX0_bringDue 9 = .ok (.imul, 1) := by decide +kernel
theorem dX0_bringDue_10 : decode cX0_bringDue 10 = .ok (.istore_n 1, 1) := by decide +kernel
theorem dX0_bringDue_11 : decode cX0_bringDue 11 = .ok (.iconst 0, 1) := by decide +kernel
theorem dX0_bringDue_12 : decode cX0_bringDue 12 = .ok (.istore_n 2, 1) := by decide +kernel
theorem dX0_bringDue_13 : decode cX0_bringDue 13 = .ok (.iload_n 2, 1) := by decide +kernel
theorem dX0_bringDue_14 : decode cX0_bringDue 14 = .ok (.bipush 16, 2) := by decide +kernel
theorem dX0_bringDue_16 : decode cX0_bringDue 16 = .ok (.if_icmp .ge 35, 3) := by decide +kernel
theorem dX0_bringDue_19 : decode cX0_bringDue 19 = .ok (.aload_n 0, 1) := by decide +kernel
theorem dX0_bringDue_20 : decode cX0_bringDue 20 = .ok (.getfield 9, 3) := by decide +kernel
theorem dX0_bringDue_23 : decode cX0_bringDue 23 = .ok (.iload_n 2, 1) := by decide +kernel
theorem dX0_bringDue_24 : decode cX0_bringDue 24 = .ok (.dup2, 1) := by decide +kernel
theorem dX0_bringDue_25 : decode cX0_bringDue 25 = .ok (.laload, 1) := by decide +kernel
theorem dX0_bringDue_26 : decode cX0_bringDue 26 = .ok (.aload_n 0, 1) := by decide +kernel
theorem dX0_bringDue_27 : decode cX0_bringDue 27 = .ok (.getfield 22, 3) := by decide +kernel
theorem dX0_bringDue_30 : decode cX0_bringDue 30 = .ok (.iload_n 1, 1) := by decide +kernel
theorem dX0_bringDue_31 : decode cX0_bringDue 31 = .ok (.iload_n 2, 1) := by decide +kernel
theorem dX0_bringDue_32 : decode cX0_bringDue 32 = .ok (.iadd, 1) := by decide +kernel
theorem dX0_bringDue_33 : decode cX0_bringDue 33 = .ok (.laload, 1) := by decide +kernel
theorem dX0_bringDue_34 : decode cX0_bringDue 34 = .ok (.ladd, 1) := by decide +kernel
theorem dX0_bringDue_35 : decode cX0_bringDue 35 = .ok (.lastore, 1) := by decide +kernel
theorem dX0_bringDue_36 : decode cX0_bringDue 36 = .ok (.aload_n 0, 1) := by decide +kernel
theorem dX0_bringDue_37 : decode cX0_bringDue 37 = .ok (.getfield 22, 3) := by decide +kernel
theorem dX0_bringDue_40 : decode cX0_bringDue 40 = .ok (.iload_n 1, 1) := by decide +kernel
theorem dX0_bringDue_41 : decode cX0_bringDue 41 = .ok (.iload_n 2, 1) := by decide +kernel
theorem dX0_bringDue_42 : decode cX0_bringDue 42 = .ok (.iadd, 1) := by decide +kernel
theorem dX0_bringDue_43 : decode cX0_bringDue 43 = .ok (.lconst 0, 1) := by decide +kernel
theorem dX0_bringDue_44 : decode cX0_bringDue 44 = .ok (.lastore, 1) := by decide +kernel
theorem dX0_bringDue_45 : decode cX0_bringDue 45 = .ok (.iinc 2 1, 3) := by decide +kernel
theorem dX0_bringDue_48 : decode cX0_bringDue 48 = .ok (.goto (-35), 3) := by decide +kernel
theorem dX0_bringDue_51 : decode cX0_bringDue 51 = .ok (.return_, 1) := by decide +kernel
theorem dX0_amountOf_0 : decode cX0_amountOf 0 = .ok (.aload_n 1, 1) := by decide +kernel
theorem dX0_amountOf_1 : decode cX0_amountOf 1 = .ok (.iload_n 2, 1) := by decide +kernel
theorem dX0_amountOf_2 : decode cX0_amountOf 2 = .ok (.iconst 1, 1) := by decide +kernel
theorem dX0_amountOf_3 : decode cX0_amountOf 3 = .ok (.invokevirtual 86, 3) := by decide +kernel
theorem dX0_amountOf_6 : decode cX0_amountOf 6 = .ok (.istore 5, 2) := by decide +kernel
theorem dX0_amountOf_8 : decode cX0_amountOf 8 = .ok (.iload 5, 2) := by decide +kernel
theorem dX0_amountOf_10 : decode cX0_amountOf 10 = .ok (.invokestatic 90, 3) := by decide +kernel
theorem dX0_amountOf_13 : decode cX0_amountOf 13 = .ok (.ifCond .eq 5, 3) := by decide +kernel
theorem dX0_amountOf_16 : decode cX0_amountOf 16 = .ok (.lconst 0, 1) := by decide +kernel
theorem dX0_amountOf_17 : decode cX0_amountOf 17 = .ok (.lreturn, 1) := by decide +kernel
theorem dX0_amountOf_18 : decode cX0_amountOf 18 = .ok (.aload_n 0, 1) := by decide +kernel
theorem dX0_amountOf_19 : decode cX0_amountOf 19 = .ok (.getfield 9, 3) := by decide +kernel
theorem dX0_amountOf_22 : decode cX0_amountOf 22 = .ok (.iload 5, 2) := by decide +kernel
theorem dX0_amountOf_24 : decode cX0_amountOf 24 = .ok (.laload, 1) := by decide +kernel
theorem dX0_amountOf_25 : decode cX0_amountOf 25 = .ok (.lstore 6, 2) := by decide +kernel
theorem dX0_amountOf_27 : decode cX0_amountOf 27 = .ok (.aload_n 1, 1) := by decide +kernel
theorem dX0_amountOf_28 : decode cX0_amountOf 28 = .ok (.iload_n 2, 1) := by decide +kernel
theorem dX0_amountOf_29 : decode cX0_amountOf 29 = .ok (.iconst 3, 1) := by decide +kernel
theorem dX0_amountOf_30 : decode cX0_amountOf 30 = .ok (.invokevirtual 86, 3) := by decide +kernel
theorem dX0_amountOf_33 : decode cX0_amountOf 33 = .ok (.i2l, 1) := by decide +kernel
theorem dX0_amountOf_34 : decode cX0_amountOf 34 = .ok (.lstore 8, 2) := by decide +kernel
theorem dX0_amountOf_36 : decode cX0_amountOf 36 = .ok (.iload 4, 2) := by decide +kernel
theorem dX0_amountOf_38 : decode cX0_amountOf 38 = .ok (.ifCond .le 7, 3) := by decide +kernel
theorem dX0_amountOf_41 : decode cX0_amountOf 41 = .ok (.iconst 1, 1) := by decide +kernel
theorem dX0_amountOf_42 : decode cX0_amountOf 42 = .ok (.goto 4, 3) := by decide +kernel
theorem dX0_amountOf_45 : decode cX0_amountOf 45 = .ok (.iconst 0, 1) := by decide +kernel
theorem dX0_amountOf_46 : decode cX0_amountOf 46 = .ok (.istore 10, 2) := by decide +kernel
theorem dX0_amountOf_48 : decode cX0_amountOf 48 = .ok (.aload_n 1, 1) := by decide +kernel
theorem dX0_amountOf_49 : decode cX0_amountOf 49 = .ok (.iload_n 2, 1) := by decide +kernel
theorem dX0_amountOf_50 : decode cX0_amountOf 50 = .ok (.iconst 0, 1) := by decide +kernel
theorem dX0_amountOf_51 : decode cX0_amountOf 51 = .ok (.invokevirtual 86, 3) := by decide +kernel
theorem dX0_amountOf_54 : decode cX0_amountOf 54 = .ok (.tableswitch 244 101 122 #[219, 244, 160, 244, 244, 244, 244, 102, 139, 200, 124, 244, 244, 181, 244, 178, 244, 244, 244, 244, 244, 178], 102) := by decide +kernel
theorem dX0_amountOf_156 : decode cX0_amountOf 156 = .ok (.lload 6, 2) := by decide +kernel
theorem dX0_amountOf_158 : decode cX0_amountOf 158 = .ok (.lload 8, 2) := by decide +kernel
theorem dX0_amountOf_160 : decode cX0_amountOf 160 = .ok (.aload_n 1, 1) := by decide +kernel
theorem dX0_amountOf_161 : decode cX0_amountOf 161 = .ok (.iload_n 2, 1) := by decide +kernel
theorem dX0_amountOf_162 : decode cX0_amountOf 162 = .ok (.iconst 4, 1) := by decide +kernel
theorem dX0_amountOf_163 : decode cX0_amountOf 163 = .ok (.invokevirtual 86, 3) := by decide +kernel
theorem dX0_amountOf_166 : decode cX0_amountOf 166 = .ok (.i2l, 1) := by decide +kernel
theorem dX0_amountOf_167 : decode cX0_amountOf 167 = .ok (.aload_n 1, 1) := by decide +kernel
theorem dX0_amountOf_168 : decode cX0_amountOf 168 = .ok (.iload_n 2, 1) := by decide +kernel
theorem dX0_amountOf_169 : decode cX0_amountOf 169 = .ok (.iconst 5, 1) := by decide +kernel
theorem dX0_amountOf_170 : decode cX0_amountOf 170 = .ok (.invokevirtual 86, 3) := by decide +kernel
theorem dX0_amountOf_173 : decode cX0_amountOf 173 = .ok (.i2l, 1) := by decide +kernel
theorem dX0_amountOf_174 : decode cX0_amountOf 174 = .ok (.invokestatic 94, 3) := by decide +kernel
theorem dX0_amountOf_177 : decode cX0_amountOf 177 = .ok (.lreturn, 1) := by decide +kernel
theorem dX0_amountOf_178 : decode cX0_amountOf 178 = .ok (.lconst 0, 1) := by decide +kernel
theorem dX0_amountOf_179 : decode cX0_amountOf 179 = .ok (.lload 6, 2) := by decide +kernel
theorem dX0_amountOf_181 : decode cX0_amountOf 181 = .ok (.aload_n 1, 1) := by decide +kernel
theorem dX0_amountOf_182 : decode cX0_amountOf 182 = .ok (.iload 5, 2) := by decide +kernel
theorem dX0_amountOf_184 : decode cX0_amountOf 184 = .ok (.invokevirtual 98, 3) := by decide +kernel
theorem dX0_amountOf_187 : decode cX0_amountOf 187 = .ok (.i2l, 1) := by decide +kernel
theorem dX0_amountOf_188 : decode cX0_amountOf 188 = .ok (.lsub, 1) := by decide +kernel
theorem dX0_amountOf_189 : decode cX0_amountOf 189 = .ok (.invokestatic 101, 3) := by decide +kernel
theorem dX0_amountOf_192 : decode cX0_amountOf 192 = .ok (.lreturn, 1) := by decide +kernel
theorem dX0_amountOf_193 : decode cX0_amountOf 193 = .ok (.iload 10, 2) := by decide +kernel
theorem dX0_amountOf_195 : decode cX0_amountOf 195 = .ok (.ifCond .eq 17, 3) := by decide +kernel
theorem dX0_amountOf_198 : decode cX0_amountOf 198 = .ok (.lload 6, 2) := by decide +kernel
theorem dX0_amountOf_200 : decode cX0_amountOf 200 = .ok (.iload 4, 2) := by decide +kernel
theorem dX0_amountOf_202 : decode cX0_amountOf 202 = .ok (.i2l, 1) := by decide +kernel
theorem dX0_amountOf_203 : decode cX0_amountOf 203 = .ok (.lload 8, 2) := by decide +kernel
theorem dX0_amountOf_205 : decode cX0_amountOf 205 = .ok (.lmul, 1) := by decide +kernel
theorem dX0_amountOf_206 : decode cX0_amountOf 206 = .ok (.invokestatic 107, 3) := by decide +kernel
theorem dX0_amountOf_209 : decode cX0_amountOf 209 = .ok (.goto 4, 3) := by decide +kernel
theorem dX0_amountOf_212 : decode cX0_amountOf 212 = .ok (.lconst 0, 1) := by decide +kernel
theorem dX0_amountOf_213 : decode cX0_amountOf 213 = .ok (.lreturn, 1) := by decide +kernel
theorem dX0_amountOf_214 : decode cX0_amountOf 214 = .ok (.lload 6, 2) := by decide +kernel
theorem dX0_amountOf_216 : decode cX0_amountOf 216 = .ok (.aload_n 0, 1) := by decide +kernel
theorem dX0_amountOf_217 : decode cX0_amountOf 217 = .ok (.aload_n 1, 1) := by decide +kernel
theorem dX0_amountOf_218 : decode cX0_amountOf 218 = .ok (.iload_n 2, 1) := by decide +kernel
theorem dX0_amountOf_219 : decode cX0_amountOf 219 = .ok (.invokevirtual 110, 3) := by decide +kernel
theorem dX0_amountOf_222 : decode cX0_amountOf 222 = .ok (.invokevirtual 113, 3) := by decide +kernel
theorem dX0_amountOf_225 : decode cX0_amountOf 225 = .ok (.lload 8, 2) := by decide +kernel
theorem dX0_amountOf_227 : decode cX0_amountOf 227 = .ok (.lmul, 1) := by decide +kernel
theorem dX0_amountOf_228 : decode cX0_amountOf 228 = .ok (.invokestatic 107, 3) := by decide +kernel
theorem dX0_amountOf_231 : decode cX0_amountOf 231 = .ok (.lreturn, 1) := by decide +kernel
theorem dX0_amountOf_232 : decode cX0_amountOf 232 = .ok (.lload 6, 2) := by decide +kernel
theorem dX0_amountOf_234 : decode cX0_amountOf 234 = .ok (.lreturn, 1) := by decide +kernel
theorem dX0_amountOf_235 : decode cX0_amountOf 235 = .ok (.iload 10, 2) := by decide +kernel
theorem dX0_amountOf_237 : decode cX0_amountOf 237 = .ok (.ifCond .eq 15, 3) := by decide +kernel
theorem dX0_amountOf_240 : decode cX0_amountOf 240 = .ok (.iload_n 3, 1) := by decide +kernel
theorem dX0_amountOf_241 : decode cX0_amountOf 241 = .ok (.i2l, 1) := by decide +kernel
theorem dX0_amountOf_242 : decode cX0_amountOf 242 = .ok (.lload 8, 2) := by decide +kernel
theorem dX0_amountOf_244 : decode cX0_amountOf 244 = .ok (.lmul, 1) := by decide +kernel
theorem dX0_amountOf_245 : decode cX0_amountOf 245 = .ok (.ldc2_w 117, 3) := by decide +kernel
theorem dX0_amountOf_248 : decode cX0_amountOf 248 = .ok (.ldiv, 1) := by decide +kernel
theorem dX0_amountOf_249 : decode cX0_amountOf 249 = .ok (.goto 4, 3) := by decide +kernel
theorem dX0_amountOf_252 : decode cX0_amountOf 252 = .ok (.lconst 0, 1) := by decide +kernel
theorem dX0_amountOf_253 : decode cX0_amountOf 253 = .ok (.lreturn, 1) := by decide +kernel
theorem dX0_amountOf_254 : decode cX0_amountOf 254 = .ok (.iload 10, 2) := by decide +kernel
theorem dX0_amountOf_256 : decode cX0_amountOf 256 = .ok (.ifCond .eq 7, 3) := by decide +kernel
theorem dX0_amountOf_259 : decode cX0_amountOf 259 = .ok (.lconst 0, 1) := by decide +kernel
theorem dX0_amountOf_260 : decode cX0_amountOf 260 = .ok (.goto 12, 3) := by decide +kernel
theorem dX0_amountOf_263 : decode cX0_amountOf 263 = .ok (.iload_n 3, 1) := by decide +kernel
theorem dX0_amountOf_264 : decode cX0_amountOf 264 = .ok (.i2l, 1) := by decide +kernel
theorem dX0_amountOf_265 : decode cX0_amountOf 265 = .ok (.lload 8, 2) := by decide +kernel
theorem dX0_amountOf_267 : decode cX0_amountOf 267 = .ok (.lmul, 1) := by decide +kernel
theorem dX0_amountOf_268 : decode cX0_amountOf 268 = .ok (.ldc2_w 117, 3) := by decide +kernel
theorem dX0_amountOf_271 : decode cX0_amountOf 271 = .ok (.ldiv, 1) := by decide +kernel
theorem dX0_amountOf_272 : decode cX0_amountOf 272 = .ok (.lreturn, 1) := by decide +kernel
theorem dX0_amountOf_273 : decode cX0_amountOf 273 = .ok (.iload 10, 2) := by decide +kernel
theorem dX0_amountOf_275 : decode cX0_amountOf 275 = .ok (.ifCond .eq 21, 3) := by decide +kernel
theorem dX0_amountOf_278 : decode cX0_amountOf 278 = .ok (.lload 6, 2) := by decide +kernel
theorem dX0_amountOf_280 : decode cX0_amountOf 280 = .ok (.iload 4, 2) := by decide +kernel
theorem dX0_amountOf_282 : decode cX0_amountOf 282 = .ok (.i2l, 1) := by decide +kernel
theorem dX0_amountOf_283 : decode cX0_amountOf 283 = .ok (.lload 8, 2) := by decide +kernel
theorem dX0_amountOf_285 : decode cX0_amountOf 285 = .ok (.lmul, 1) := by decide +kernel
theorem dX0_amountOf_286 : decode cX0_amountOf 286 = .ok (.ldc2_w 119, 3) := by decide +kernel
theorem dX0_amountOf_289 : decode cX0_amountOf 289 = .ok (.ldiv, 1) := by decide +kernel
theorem dX0_amountOf_290 : decode cX0_amountOf 290 = .ok (.invokestatic 107, 3) := by decide +kernel
theorem dX0_amountOf_293 : decode cX0_amountOf 293 = .ok (.goto 4, 3) := by decide +kernel
theorem dX0_amountOf_296 : decode cX0_amountOf 296 = .ok (.lconst 0, 1) := by decide +kernel
theorem dX0_amountOf_297 : decode cX0_amountOf 297 = .ok (.lreturn, 1) := by decide +kernel
theorem dX0_amountOf_298 : decode cX0_amountOf 298 = .ok (.lconst 0, 1) := by decide +kernel
theorem dX0_amountOf_299 : decode cX0_amountOf 299 = .ok (.lreturn, 1) := by decide +kernel
theorem dX0_leakOf_0 : decode cX0_leakOf 0 = .ok (.lload_n 0, 1) := by decide +kernel
theorem dX0_leakOf_1 : decode cX0_leakOf 1 = .ok (.lload 6, 2) := by decide +kernel
theorem dX0_leakOf_3 : decode cX0_leakOf 3 = .ok (.lcmp, 1) := by decide +kernel
theorem dX0_leakOf_4 : decode cX0_leakOf 4 = .ok (.ifCond .le 22, 3) := by decide +kernel
theorem dX0_leakOf_7 : decode cX0_leakOf 7 = .ok (.lload 4, 2) := by decide +kernel
theorem dX0_leakOf_9 : decode cX0_leakOf 9 = .ok (.lconst 0, 1) := by decide +kernel
theorem dX0_leakOf_10 : decode cX0_leakOf 10 = .ok (.lcmp, 1) := by decide +kernel
theorem dX0_leakOf_11 : decode cX0_leakOf 11 = .ok (.ifCond .le 15, 3) := by decide +kernel
theorem dX0_leakOf_14 : decode cX0_leakOf 14 = .ok (.lload_n 0, 1) := by decide +kernel
theorem dX0_leakOf_15 : decode cX0_leakOf 15 = .ok (.lload 6, 2) := by decide +kernel
theorem dX0_leakOf_17 : decode cX0_leakOf 17 = .ok (.lsub, 1) := by decide +kernel
theorem dX0_leakOf_18 : decode cX0_leakOf 18 = .ok (.lload_n 2, 1) := by decide +kernel
theorem dX0_leakOf_19 : decode cX0_leakOf 19 = .ok (.lmul, 1) := by decide +kernel
theorem dX0_leakOf_20 : decode cX0_leakOf 20 = .ok (.lload 4, 2) := by decide +kernel
theorem dX0_leakOf_22 : decode cX0_leakOf 22 = .ok (.ldiv, 1) := by decide +kernel
theorem dX0_leakOf_23 : decode cX0_leakOf 23 = .ok (.goto 4, 3) := by decide +kernel
theorem dX0_leakOf_26 : decode cX0_leakOf 26 = .ok (.lconst 0, 1) := by decide +kernel
theorem dX0_leakOf_27 : decode cX0_leakOf 27 = .ok (.lreturn, 1) := by decide +kernel
theorem dX0_openingOf_0 : decode cX0_openingOf 0 = .ok (.iload_n 1, 1) := by decide +kernel
theorem dX0_openingOf_1 : decode cX0_openingOf 1 = .ok (.invokestatic 121, 3) := by decide +kernel
theorem dX0_openingOf_4 : decode cX0_openingOf 4 = .ok (.ifCond .eq 7, 3) := by decide +kernel
theorem dX0_openingOf_7 : decode cX0_openingOf 7 = .ok (.lconst 0, 1) := by decide +kernel
theorem dX0_openingOf_8 : decode cX0_openingOf 8 = .ok (.goto 10, 3) := by decide +kernel
theorem dX0_openingOf_11 : decode cX0_openingOf 11 = .ok (.aload_n 0, 1) := by decide +kernel
theorem dX0_openingOf_12 : decode cX0_openingOf 12 = .ok (.getfield 18, 3) := by decide +kernel
theorem dX0_openingOf_15 : decode cX0_openingOf 15 = .ok (.iload_n 1, 1) := by decide +kernel
theorem dX0_openingOf_16 : decode cX0_openingOf 16 = .ok (.iaload, 1) := by decide +kernel
theorem dX0_openingOf_17 : decode cX0_openingOf 17 = .ok (.i2l, 1) := by decide +kernel
theorem dX0_openingOf_18 : decode cX0_openingOf 18 = .ok (.lreturn, 1) := by decide +kernel
theorem dX0_move_0 : decode cX0_move 0 = .ok (.aload_n 1, 1) := by decide +kernel
theorem dX0_move_1 : decode cX0_move 1 = .ok (.iload_n 2, 1) := by decide +kernel
theorem dX0_move_2 : decode cX0_move 2 = .ok (.iconst 1, 1) := by decide +kernel
theorem dX0_move_3 : decode cX0_move 3 = .ok (.invokevirtual 86, 3) := by decide +kernel
theorem dX0_move_6 : decode cX0_move 6 = .ok (.istore 5, 2) := by decide +kernel
theorem dX0_move_8 : decode cX0_move 8 = .ok (.aload_n 1, 1) := by decide +kernel
theorem dX0_move_9 : decode cX0_move 9 = .ok (.iload_n 2, 1) := by decide +kernel
theorem dX0_move_10 : decode cX0_move 10 = .ok (.iconst 2, 1) := by decide +kernel
theorem dX0_move_11 : decode cX0_move 11 = .ok (.invokevirtual 86, 3) := by decide +kernel
theorem dX0_move_14 : decode cX0_move 14 = .ok (.istore 6, 2) := by decide +kernel
theorem dX0_move_16 : decode cX0_move 16 = .ok (.aload_n 1, 1) := by decide +kernel
theorem dX0_move_17 : decode cX0_move 17 = .ok (.iload_n 2, 1) := by decide +kernel
theorem dX0_move_18 : decode cX0_move 18 = .ok (.iconst 0, 1) := by decide +kernel
theorem dX0_move_19 : decode cX0_move 19 = .ok (.invokevirtual 86, 3) := by decide +kernel
theorem dX0_move_22 : decode cX0_move 22 = .ok (.istore 7, 2) := by decide +kernel
theorem dX0_move_24 : decode cX0_move 24 = .ok (.iload 7, 2) := by decide +kernel
theorem dX0_move_26 : decode cX0_move 26 = .ok (.bipush 115, 2) := by decide +kernel
theorem dX0_move_28 : decode cX0_move 28 = .ok (.if_icmp .eq 11, 3) := by decide +kernel
theorem dX0_move_31 : decode cX0_move 31 = .ok (.iload 5, 2) := by decide +kernel
theorem dX0_move_33 : decode cX0_move 33 = .ok (.invokestatic 90, 3) := by decide +kernel
theorem dX0_move_36 : decode cX0_move 36 = .ok (.ifCond .eq 4, 3) := by decide +kernel
theorem dX0_move_39 : decode cX0_move 39 = .ok (.return_, 1) := by decide +kernel
theorem dX0_move_40 : decode cX0_move 40 = .ok (.iload 7, 2) := by decide +kernel
theorem dX0_move_42 : decode cX0_move 42 = .ok (.bipush 114, 2) := by decide +kernel
theorem dX0_move_44 : decode cX0_move 44 = .ok (.if_icmp .eq 10, 3) := by decide +kernel
theorem dX0_move_47 : decode cX0_move 47 = .ok (.iload 7, 2) := by decide +kernel
theorem dX0_move_49 : decode cX0_move 49 = .ok (.bipush 110, 2) := by decide +kernel
theorem dX0_move_51 : decode cX0_move 51 = .ok (.if_icmp .ne 25, 3) := by decide +kernel
theorem dX0_move_54 : decode cX0_move 54 = .ok (.aload_n 0, 1) := by decide +kernel
theorem dX0_move_55 : decode cX0_move 55 = .ok (.getfield 9, 3) := by decide +kernel
theorem dX0_move_58 : decode cX0_move 58 = .ok (.iload 5, 2) := by decide +kernel
theorem dX0_move_60 : decode cX0_move 60 = .ok (.dup2, 1) := by decide +kernel
theorem dX0_move_61 : decode cX0_move 61 = .ok (.laload, 1) := by decide +kernel
theorem dX0_move_62 : decode cX0_move 62 = .ok (.lload_n 3, 1) := by decide +kernel
theorem dX0_move_63 : decode cX0_move 63 = .ok (.ladd, 1) := by decide +kernel
theorem dX0_move_64 : decode cX0_move 64 = .ok (.lastore, 1) := by decide +kernel
theorem dX0_move_65 : decode cX0_move 65 = .ok (.aload_n 0, 1) := by decide +kernel
theorem dX0_move_66 : decode cX0_move 66 = .ok (.dup, 1) := by decide +kernel
theorem dX0_move_67 : decode cX0_move 67 = .ok (.getfield 25, 3) := by decide +kernel
theorem dX0_move_70 : decode cX0_move 70 = .ok (.lload_n 3, 1) := by decide +kernel
theorem dX0_move_71 : decode cX0_move 71 = .ok (.ladd, 1) := by decide +kernel
theorem dX0_move_72 : decode cX0_move 72 = .ok (.putfield 25, 3) := by decide +kernel
theorem dX0_move_75 : decode cX0_move 75 = .ok (.return_, 1) := by decide +kernel
theorem dX0_move_76 : decode cX0_move 76 = .ok (.aload_n 0, 1) := by decide +kernel
theorem dX0_move_77 : decode cX0_move 77 = .ok (.getfield 9, 3) := by decide +kernel
theorem dX0_move_80 : decode cX0_move 80 = .ok (.iload 5, 2) := by decide +kernel
theorem dX0_move_82 : decode cX0_move 82 = .ok (.dup2, 1) := by decide +kernel
theorem dX0_move_83 : decode cX0_move 83 = .ok (.laload, 1) := by decide +kernel
theorem dX0_move_84 : decode cX0_move 84 = .ok (.lload_n 3, 1) := by decide +kernel
theorem dX0_move_85 : decode cX0_move 85 = .ok (.lsub, 1) := by decide +kernel
theorem dX0_move_86 : decode cX0_move 86 = .ok (.lastore, 1) := by decide +kernel
theorem dX0_move_87 : decode cX0_move 87 = .ok (.iload 7, 2) := by decide +kernel
theorem dX0_move_89 : decode cX0_move 89 = .ok (.bipush 101, 2) := by decide +kernel
theorem dX0_move_91 : decode cX0_move 91 = .ok (.if_icmp .ne 16, 3) := by decide +kernel
theorem dX0_move_94 : decode cX0_move 94 = .ok (.aload_n 0, 1) := by decide +kernel
theorem dX0_move_95 : decode cX0_move 95 = .ok (.dup, 1) := by decide +kernel
theorem dX0_move_96 : decode cX0_move 96 = .ok (.getfield 29, 3) := by decide +kernel
theorem dX0_move_99 : decode cX0_move 99 = .ok (.lload_n 3, 1) := by decide +kernel
theorem dX0_move_100 : decode cX0_move 100 = .ok (.ladd, 1) := by decide +kernel
theorem dX0_move_101 : decode cX0_move 101 = .ok (.putfield 29, 3) := by decide +kernel
theorem dX0_move_104 : decode cX0_move 104 = .ok (.goto 65, 3) := by decide +kernel
theorem dX0_move_107 : decode cX0_move 107 = .ok (.iload 7, 2) := by decide +kernel
theorem dX0_move_109 : decode cX0_move 109 = .ok (.bipush 122, 2) := by decide +kernel
theorem dX0_move_111 : decode cX0_move 111 = .ok (.if_icmp .ne 16, 3) := by decide +kernel
theorem dX0_move_114 : decode cX0_move 114 = .ok (.aload_n 0, 1) := by decide +kernel
theorem dX0_move_115 : decode cX0_move 115 = .ok (.dup, 1) := by decide +kernel
theorem dX0_move_116 : decode cX0_move 116 = .ok (.getfield 32, 3) := by decide +kernel
theorem dX0_move_119 : decode cX0_move 119 = .ok (.lload_n 3, 1) := by decide +kernel
theorem dX0_move_120 : decode cX0_move 120 = .ok (.ladd, 1) := by decide +kernel
theorem dX0_move_121 : decode cX0_move 121 = .ok (.putfield 32, 3) := by decide +kernel
theorem dX0_move_124 : decode cX0_move 124 = .ok (.goto 45, 3) := by decide +kernel
theorem dX0_move_127 : decode cX0_move 127 = .ok (.iload 7, 2) := by decide +kernel
theorem dX0_move_129 : decode cX0_move 129 = .ok (.bipush 116, 2) := by decide +kernel
theorem dX0_move_131 : decode cX0_move 131 = .ok (.if_icmp .ne 19, 3) := by decide +kernel
theorem dX0_move_134 : decode cX0_move 134 = .ok (.aload_n 0, 1) := by decide +kernel
theorem dX0_move_135 : decode cX0_move 135 = .ok (.iload 6, 2) := by decide +kernel
theorem dX0_move_137 : decode cX0_move 137 = .ok (.aload_n 1, 1) := by decide +kernel
theorem dX0_move_138 : decode cX0_move 138 = .ok (.iload_n 2, 1) := by decide +kernel
theorem dX0_move_139 : decode cX0_move 139 = .ok (.iconst 3, 1) := by decide +kernel
theorem dX0_move_140 : decode cX0_move 140 = .ok (.invokevirtual 86, 3) := by decide +kernel
theorem dX0_move_143 : decode cX0_move 143 = .ok (.lload_n 3, 1) := by decide +kernel
theorem dX0_move_144 : decode cX0_move 144 = .ok (.invokevirtual 124, 3) := by decide +kernel
theorem dX0_move_147 : decode cX0_move 147 = .ok (.goto 22, 3) := by decide +kernel
theorem dX0_move_150 : decode cX0_move 150 = .ok (.iload 6, 2) := by decide +kernel
theorem dX0_move_152 : decode cX0_move 152 = .ok (.invokestatic 90, 3) := by decide +kernel
theorem dX0_move_155 : decode cX0_move 155 = .ok (.ifCond .ne 14, 3) := by decide +kernel
theorem dX0_move_158 : decode cX0_move 158 = .ok (.aload_n 0, 1) := by decide +kernel
theorem dX0_move_159 : decode cX0_move 159 = .ok (.getfield 9, 3) := by decide +kernel
theorem dX0_move_162 : decode cX0_move 162 = .ok (.iload 6, 2) := by decide +kernel
theorem dX0_move_164 : decode cX0_move 164 = .ok (.dup2, 1) := by decide +kernel
theorem dX0_move_165 : decode cX0_move 165 = .ok (.laload, 1) := by decide +kernel
theorem dX0_move_166 : decode cX0_move 166 = .ok (.lload_n 3, 1) := by decide +kernel
theorem dX0_move_167 : decode cX0_move 167 = .ok (.ladd, 1) := by decide +kernel
theorem dX0_move_168 : decode cX0_move 168 = .ok (.lastore, 1) := by decide +kernel
theorem dX0_move_169 : decode cX0_move 169 = .ok (.return_, 1) := by decide +kernel
theorem dX0_send_0 : decode cX0_send 0 = .ok (.iload_n 1, 1) := by decide +kernel
theorem dX0_send_1 : decode cX0_send 1 = .ok (.invokestatic 90, 3) := by decide +kernel
theorem dX0_send_4 : decode cX0_send 4 = .ok (.ifCond .ne 36, 3) := by decide +kernel
theorem dX0_send_7 : decode cX0_send 7 = .ok (.iload_n 2, 1) := by decide +kernel
theorem dX0_send_8 : decode cX0_send 8 = .ok (.iconst 1, 1) := by decide +kernel
theorem dX0_send_9 : decode cX0_send 9 = .ok (.bipush 12, 2) := by decide +kernel
theorem dX0_send_11 : decode cX0_send 11 = .ok (.invokestatic 128, 3) := by decide +kernel
theorem dX0_send_14 : decode cX0_send 14 = .ok (.ifCond .ne 26, 3) := by decide +kernel
theorem dX0_send_17 : decode cX0_send 17 = .ok (.aload_n 0, 1) := by decide +kernel
theorem dX0_send_18 : decode cX0_send 18 = .ok (.getfield 22, 3) := by decide +kernel
theorem dX0_send_21 : decode cX0_send 21 = .ok (.aload_n 0, 1) := by decide +kernel
theorem dX0_send_22 : decode cX0_send 22 = .ok (.getfield 35, 3) := by decide +kernel
theorem dX0_send_25 : decode cX0_send 25 = .ok (.iload_n 2, 1) := by decide +kernel
theorem dX0_send_26 : decode cX0_send 26 = .ok (.iadd, 1) := by decide +kernel
theorem dX0_send_27 : decode cX0_send 27 = .ok (.bipush 13, 2) := by decide +kernel
theorem dX0_send_29 : decode cX0_send 29 = .ok (.irem, 1) := by decide +kernel
theorem dX0_send_30 : decode cX0_send 30 = .ok (.bipush 16, 2) := by decide +kernel
theorem dX0_send_32 : decode cX0_send 32 = .ok (.imul, 1) := by decide +kernel
theorem dX0_send_33 : decode cX0_send 33 = .ok (.iload_n 1, 1) := by decide +kernel
theorem dX0_send_34 : decode cX0_send 34 = .ok (.iadd, 1) := by decide +kernel
theorem dX0_send_35 : decode cX0_send 35 = .ok (.dup2, 1) := by decide +kernel
theorem dX0_send_36 : decode cX0_send 36 = .ok (.laload, 1) := by decide +kernel
theorem dX0_send_37 : decode cX0_send 37 = .ok (.lload_n 3, 1) := by decide +kernel
theorem dX0_send_38 : decode cX0_send 38 = .ok (.ladd, 1) := by decide +kernel
theorem dX0_send_39 : decode cX0_send 39 = .ok (.lastore, 1) := by decide +kernel
theorem dX0_send_40 : decode cX0_send 40 = .ok (.return_, 1) := by decide +kernel
theorem dX4_empty_0 : decode cX4_empty 0 = .ok (.aload_n 0, 1) := by decide +kernel
theorem dX4_empty_1 : decode cX4_empty 1 = .ok (.iconst 0, 1) := by decide +kernel
theorem dX4_empty_2 : decode cX4_empty 2 = .ok (.putfield 21, 3) := by decide +kernel
theorem dX4_empty_5 : decode cX4_empty 5 = .ok (.aload_n 0, 1) := by decide +kernel
theorem dX4_empty_6 : decode cX4_empty 6 = .ok (.iconst 0, 1) := by decide +kernel
theorem dX4_empty_7 : decode cX4_empty 7 = .ok (.putfield 25, 3) := by decide +kernel
theorem dX4_empty_10 : decode cX4_empty 10 = .ok (.aload_n 0, 1) := by decide +kernel
theorem dX4_empty_11 : decode cX4_empty 11 = .ok (.iconst 0, 1) := by decide +kernel
theorem dX4_empty_12 : decode cX4_empty 12 = .ok (.putfield 28, 3) := by decide +kernel
theorem dX4_empty_15 : decode cX4_empty 15 = .ok (.aload_n 0, 1) := by decide +kernel
theorem dX4_empty_16 : decode cX4_empty 16 = .ok (.getfield 15, 3) := by decide +kernel
theorem dX4_empty_19 : decode cX4_empty 19 = .ok (.bipush (-4), 2) := by decide +kernel
theorem dX4_empty_21 : decode cX4_empty 21 = .ok (.invokestatic 31, 3) := by decide +kernel
theorem dX4_empty_24 : decode cX4_empty 24 = .ok (.aload_n 0, 1) := by decide +kernel
theorem dX4_empty_25 : decode cX4_empty 25 = .ok (.getfield 18, 3) := by decide +kernel
theorem dX4_empty_28 : decode cX4_empty 28 = .ok (.bipush (-4), 2) := by decide +kernel
theorem dX4_empty_30 : decode cX4_empty 30 = .ok (.invokestatic 31, 3) := by decide +kernel
theorem dX4_empty_33 : decode cX4_empty 33 = .ok (.return_, 1) := by decide +kernel
theorem dX4_copyFrom_0 : decode cX4_copyFrom 0 = .ok (.aload_n 1, 1) := by decide +kernel
theorem dX4_copyFrom_1 : decode cX4_copyFrom 1 = .ok (.getfield 9, 3) := by decide +kernel
theorem dX4_copyFrom_4 : decode cX4_copyFrom 4 = .ok (.iconst 0, 1) := by decide +kernel
theorem dX4_copyFrom_5 : decode cX4_copyFrom 5 = .ok (.aload_n 0, 1) := by decide +kernel
theorem dX4_copyFrom_6 : decode cX4_copyFrom 6 = .ok (.getfield 9, 3) := by decide +kernel
theorem dX4_copyFrom_9 : decode cX4_copyFrom 9 = .ok (.iconst 0, 1) := by decide +kernel
theorem dX4_copyFrom_10 : decode cX4_copyFrom 10 = .ok (.aload_n 0, 1) := by decide +kernel
theorem dX4_copyFrom_11 : decode cX4_copyFrom 11 = .ok (.getfield 9, 3) := by decide +kernel
theorem dX4_copyFrom_14 : decode cX4_copyFrom 14 = .ok (.arraylength, 1) := by decide +kernel
theorem dX4_copyFrom_15 : decode cX4_copyFrom 15 = .ok (.invokestatic 37, 3) := by decide +kernel
theorem dX4_copyFrom_18 : decode cX4_copyFrom 18 = .ok (.aload_n 1, 1) := by decide +kernel
theorem dX4_copyFrom_19 : decode cX4_copyFrom 19 = .ok (.getfield 15, 3) := by decide +kernel
theorem dX4_copyFrom_22 : decode cX4_copyFrom 22 = .ok (.iconst 0, 1) := by decide +kernel
theorem dX4_copyFrom_23 : decode cX4_copyFrom 23 = .ok (.aload_n 0, 1) := by decide +kernel
theorem dX4_copyFrom_24 : decode cX4_copyFrom 24 = .ok (.getfield 15, 3) := by decide +kernel
theorem dX4_copyFrom_27 : decode cX4_copyFrom 27 = .ok (.iconst 0, 1) := by decide +kernel
theorem dX4_copyFrom_28 : decode cX4_copyFrom 28 = .ok (.bipush 16, 2) := by decide +kernel
theorem dX4_copyFrom_30 : decode cX4_copyFrom 30 = .ok (.invokestatic 37, 3) := by decide +kernel
theorem dX4_copyFrom_33 : decode cX4_copyFrom 33 = .ok (.aload_n 1, 1) := by decide +kernel
theorem dX4_copyFrom_34 : decode cX4_copyFrom 34 = .ok (.getfield 18, 3) := by decide +kernel
theorem dX4_copyFrom_37 : decode cX4_copyFrom 37 = .ok (.iconst 0, 1) := by decide +kernel
theorem dX4_copyFrom_38 : decode cX4_copyFrom 38 = .ok (.aload_n 0, 1) := by decide +kernel
theorem dX4_copyFrom_39 : decode cX4_copyFrom 39 = .ok (.getfield 18, 3) := by decide +kernel
theorem dX4_copyFrom_42 : decode cX4_copyFrom 42 = .ok (.iconst 0, 1) := by decide +kernel
theorem dX4_copyFrom_43 : decode cX4_copyFrom 43 = .ok (.iconst 4, 1) := by decide +kernel
theorem dX4_copyFrom_44 : decode cX4_copyFrom 44 = .ok (.invokestatic 37, 3) := by decide +kernel
theorem dX4_copyFrom_47 : decode cX4_copyFrom 47 = .ok (.aload_n 0, 1) := by decide +kernel
theorem dX4_copyFrom_48 : decode cX4_copyFrom 48 = .ok (.aload_n 1, 1) := by decide +kernel
theorem dX4_copyFrom_49 : decode cX4_copyFrom 49 = .ok (.getfield 21, 3) := by decide +kernel
theorem dX4_copyFrom_52 : decode cX4_copyFrom 52 = .ok (.putfield 21, 3) := by decide +kernel
theorem dX4_copyFrom_55 : decode cX4_copyFrom 55 = .ok (.aload_n 0, 1) := by decide +kernel
theorem dX4_copyFrom_56 : decode cX4_copyFrom 56 = .ok (.aload_n 1, 1) := by decide +kernel
theorem dX4_copyFrom_57 : decode cX4_copyFrom 57 = .ok (.getfield 25, 3) := by decide +kernel
theorem dX4_copyFrom_60 : decode cX4_copyFrom 60 = .ok (.putfield 25, 3) := by decide +kernel
theorem dX4_copyFrom_63 : decode cX4_copyFrom 63 = .ok (.aload_n 0, 1) := by decide +kernel
theorem dX4_copyFrom_64 : decode cX4_copyFrom 64 = .ok (.aload_n 1, 1) := by decide +kernel
theorem dX4_copyFrom_65 : decode cX4_copyFrom 65 = .ok (.getfield 28, 3) := by decide +kernel
theorem dX4_copyFrom_68 : decode cX4_copyFrom 68 = .ok (.putfield 28, 3) := by decide +kernel
theorem dX4_copyFrom_71 : decode cX4_copyFrom 71 = .ok (.return_, 1) := by decide +kernel
theorem dX4_hasNumber_0 : decode cX4_hasNumber 0 = .ok (.iload_n 2, 1) := by decide +kernel
theorem dX4_hasNumber_1 : decode cX4_hasNumber 1 = .ok (.ifCond .lt 20, 3) := by decide +kernel
theorem dX4_hasNumber_4 : decode cX4_hasNumber 4 = .ok (.iload_n 2, 1) := by decide +kernel
theorem dX4_hasNumber_5 : decode cX4_hasNumber 5 = .ok (.aload_n 0, 1) := by decide +kernel
theorem dX4_hasNumber_6 : decode cX4_hasNumber 6 = .ok (.iload_n 1, 1) := by decide +kernel
theorem dX4_hasNumber_7 : decode cX4_hasNumber 7 = .ok (.iconst 0, 1) := by decide +kernel
theorem dX4_hasNumber_8 : decode cX4_hasNumber 8 = .ok (.invokevirtual 73, 3) := by decide +kernel
theorem dX4_hasNumber_11 : decode cX4_hasNumber 11 = .ok (.invokestatic 86, 3) := by decide +kernel
theorem dX4_hasNumber_14 : decode cX4_hasNumber 14 = .ok (.if_icmp .ge 7, 3) := by decide +kernel
theorem dX4_hasNumber_17 : decode cX4_hasNumber 17 = .ok (.iconst 1, 1) := by decide +kernel
theorem dX4_hasNumber_18 : decode cX4_hasNumber 18 = .ok (.goto 4, 3) := by decide +kernel
theorem dX4_hasNumber_21 : decode cX4_hasNumber 21 = .ok (.iconst 0, 1) := by decide +kernel
theorem dX4_hasNumber_22 : decode cX4_hasNumber 22 = .ok (.ireturn, 1) := by decide +kernel
theorem dX4_isItemAsTold_0 : decode cX4_isItemAsTold 0 = .ok (.aload_n 0, 1) := by decide +kernel
theorem dX4_isItemAsTold_1 : decode cX4_isItemAsTold 1 = .ok (.iload_n 1, 1) := by decide +kernel
theorem dX4_isItemAsTold_2 : decode cX4_isItemAsTold 2 = .ok (.iconst 0, 1) := by decide +kernel
theorem dX4_isItemAsTold_3 : decode cX4_isItemAsTold 3 = .ok (.invokevirtual 73, 3) := by decide +kernel
theorem dX4_isItemAsTold_6 : decode cX4_isItemAsTold 6 = .ok (.aload_n 0, 1) := by decide +kernel
theorem dX4_isItemAsTold_7 : decode cX4_isItemAsTold 7 = .ok (.iload_n 1, 1) := by decide +kernel
theorem dX4_isItemAsTold_8 : decode cX4_isItemAsTold 8 = .ok (.iconst 3, 1) := by decide +kernel
theorem dX4_isItemAsTold_9 : decode cX4_isItemAsTold 9 = .ok (.invokevirtual 73, 3) := by decide +kernel
theorem dX4_isItemAsTold_12 : decode cX4_isItemAsTold 12 = .ok (.aload_n 0, 1) := by decide +kernel
theorem dX4_isItemAsTold_13 : decode cX4_isItemAsTold 13 = .ok (.iload_n 1, 1) := by decide +kernel
theorem dX4_isItemAsTold_14 : decode cX4_isItemAsTold 14 = .ok (.iconst 4, 1) := by decide +kernel
theorem dX4_isItemAsTold_15 : decode cX4_isItemAsTold 15 = .ok (.invokevirtual 73, 3) := by decide +kernel
theorem dX4_isItemAsTold_18 : decode cX4_isItemAsTold 18 = .ok (.aload_n 0, 1) := by decide +kernel
theorem dX4_isItemAsTold_19 : decode cX4_isItemAsTold 19 = .ok (.iload_n 1, 1) := by decide +kernel
theorem dX4_isItemAsTold_20 : decode cX4_isItemAsTold 20 = .ok (.iconst 5, 1) := by decide +kernel
theorem dX4_isItemAsTold_21 : decode cX4_isItemAsTold 21 = .ok (.invokevirtual 73, 3) := by decide +kernel
theorem dX4_isItemAsTold_24 : decode cX4_isItemAsTold 24 = .ok (.invokestatic 77, 3) := by decide +kernel
theorem dX4_isItemAsTold_27 : decode cX4_isItemAsTold 27 = .ok (.ireturn, 1) := by decide +kernel
theorem dX4_capacityOf_0 : decode cX4_capacityOf 0 = .ok (.aload_n 0, 1) := by decide +kernel
theorem dX4_capacityOf_1 : decode cX4_capacityOf 1 = .ok (.iload_n 1, 1) := by decide +kernel
theorem dX4_capacityOf_2 : decode cX4_capacityOf 2 = .ok (.invokevirtual 66, 3) := by decide +kernel
theorem dX4_capacityOf_5 : decode cX4_capacityOf 5 = .ok (.ifCond .eq 17, 3) := by decide +kernel
theorem dX4_capacityOf_8 : decode cX4_capacityOf 8 = .ok (.aload_n 0, 1) := by decide +kernel
theorem dX4_capacityOf_9 : decode cX4_capacityOf 9 = .ok (.aload_n 0, 1) := by decide +kernel
theorem dX4_capacityOf_10 : decode cX4_capacityOf 10 = .ok (.getfield 15, 3) := by decide +kernel
theorem dX4_capacityOf_13 : decode cX4_capacityOf 13 = .ok (.iload_n 1, 1) := by decide +kernel
theorem dX4_capacityOf_14 : decode cX4_capacityOf 14 = .ok (.iaload, 1) := by decide +kernel
theorem dX4_capacityOf_15 : decode cX4_capacityOf 15 = .ok (.iconst 3, 1) := by decide +kernel
theorem dX4_capacityOf_16 : decode cX4_capacityOf 16 = .ok (.invokevirtual 73, 3) := by decide +kernel
theorem dX4_capacityOf_19 : decode cX4_capacityOf 19 = .ok (.goto 4, 3) := by decide +kernel
theorem dX4_capacityOf_22 : decode cX4_capacityOf 22 = .ok (.iconst 0, 1) := by decide +kernel
theorem dX4_capacityOf_23 : decode cX4_capacityOf 23 = .ok (.ireturn, 1) := by decide +kernel
theorem dX4_startOf_0 : decode cX4_startOf 0 = .ok (.aload_n 0, 1) := by decide +kernel
theorem dX4_startOf_1 : decode cX4_startOf 1 = .ok (.iload_n 1, 1) := by decide +kernel
theorem dX4_startOf_2 : decode cX4_startOf 2 = .ok (.invokevirtual 66, 3) := by decide +kernel
theorem dX4_startOf_5 : decode cX4_startOf 5 = .ok (.ifCond .eq 17, 3) := by decide +kernel
theorem dX4_startOf_8 : decode cX4_startOf 8 = .ok (.aload_n 0, 1) := by decide +kernel
theorem dX4_startOf_9 : decode cX4_startOf 9 = .ok (.aload_n 0, 1) := by decide +kernel
theorem dX4_startOf_10 : decode cX4_startOf 10 = .ok (.getfield 15, 3) := by decide +kernel
theorem dX4_startOf_13 : decode cX4_startOf 13 = .ok (.iload_n 1, 1) := by decide +kernel
theorem dX4_startOf_14 : decode cX4_startOf 14 = .ok (.iaload, 1) := by decide +kernel
theorem dX4_startOf_15 : decode cX4_startOf 15 = .ok (.iconst 4, 1) := by decide +kernel
theorem dX4_startOf_16 : decode cX4_startOf 16 = .ok (.invokevirtual 73, 3) := by decide +kernel
theorem dX4_startOf_19 : decode cX4_startOf 19 = .ok (.goto 4, 3) := by decide +kernel
theorem dX4_startOf_22 : decode cX4_startOf 22 = .ok (.iconst 0, 1) := by decide +kernel
theorem dX4_startOf_23 : decode cX4_startOf 23 = .ok (.ireturn, 1) := by decide +kernel
theorem dX4_startOfAll_0 : decode cX4_startOfAll 0 = .ok (.lconst 0, 1) := by decide +kernel
theorem dX4_startOfAll_1 : decode cX4_startOfAll 1 = .ok (.lstore_n 1, 1) := by decide +kernel
theorem dX4_startOfAll_2 : decode cX4_startOfAll 2 = .ok (.iconst 0, 1) := by decide +kernel
theorem dX4_startOfAll_3 : decode cX4_startOfAll 3 = .ok (.istore_n 3, 1) := by decide +kernel
theorem dX4_startOfAll_4 : decode cX4_startOfAll 4 = .ok (.iload_n 3, 1) := by decide +kernel
theorem dX4_startOfAll_5 : decode cX4_startOfAll 5 = .ok (.bipush 16, 2) := by decide +kernel
theorem dX4_startOfAll_7 : decode cX4_startOfAll 7 = .ok (.if_icmp .ge 18, 3) := by decide +kernel
theorem dX4_startOfAll_10 : decode cX4_startOfAll 10 = .ok (.lload_n 1, 1) := by decide +kernel
theorem dX4_startOfAll_11 : decode cX4_startOfAll 11 = .ok (.aload_n 0, 1) := by decide +kernel
theorem dX4_startOfAll_12 : decode cX4_startOfAll 12 = .ok (.iload_n 3, 1) := by decide +kernel
theorem dX4_startOfAll_13 : decode cX4_startOfAll 13 = .ok (.invokevirtual 90, 3) := by decide +kernel
theorem dX4_startOfAll_16 : decode cX4_startOfAll 16 = .ok (.i2l, 1) := by decide +kernel
theorem dX4_startOfAll_17 : decode cX4_startOfAll 17 = .ok (.ladd, 1) := by decide +kernel
theorem dX4_startOfAll_18 : decode cX4_startOfAll 18 = .ok (.lstore_n 1, 1) := by decide +kernel
theorem dX4_startOfAll_19 : decode cX4_startOfAll 19 = .ok (.iinc 3 1, 3) := by decide +kernel
theorem dX4_startOfAll_22 : decode cX4_startOfAll 22 = .ok (.goto (-18), 3) := by decide +kernel
theorem dX4_startOfAll_25 : decode cX4_startOfAll 25 = .ok (.lload_n 1, 1) := by decide +kernel
theorem dX4_startOfAll_26 : decode cX4_startOfAll 26 = .ok (.lreturn, 1) := by decide +kernel
theorem dX4_gateOf_0 : decode cX4_gateOf 0 = .ok (.iconst 0, 1) := by decide +kernel
theorem dX4_gateOf_1 : decode cX4_gateOf 1 = .ok (.istore_n 2, 1) := by decide +kernel
theorem dX4_gateOf_2 : decode cX4_gateOf 2 = .ok (.iload_n 2, 1) := by decide +kernel
theorem dX4_gateOf_3 : decode cX4_gateOf 3 = .ok (.aload_n 0, 1) := by decide +kernel
theorem dX4_gateOf_4 : decode cX4_gateOf 4 = .ok (.getfield 28, 3) := by decide +kernel
theorem dX4_gateOf_7 : decode cX4_gateOf 7 = .ok (.if_icmp .ge 21, 3) := by decide +kernel
theorem dX4_gateOf_10 : decode cX4_gateOf 10 = .ok (.aload_n 0, 1) := by decide +kernel
theorem dX4_gateOf_11 : decode cX4_gateOf 11 = .ok (.getfield 18, 3) := by decide +kernel
theorem dX4_gateOf_14 : decode cX4_gateOf 14 = .ok (.iload_n 2, 1) := by decide +kernel
theorem dX4_gateOf_15 : decode cX4_gateOf 15 = .ok (.iaload, 1) := by decide +kernel
theorem dX4_gateOf_16 : decode cX4_gateOf 16 = .ok (.iload_n 1, 1) := by decide +kernel
theorem dX4_gateOf_17 : decode cX4_gateOf 17 = .ok (.if_icmp .ne 5, 3) := by decide +kernel
theorem dX4_gateOf_20 : decode cX4_gateOf 20 = .ok (.iload_n 2, 1) := by decide +kernel
theorem dX4_gateOf_21 : decode cX4_gateOf 21 = .ok (.ireturn, 1) := by decide +kernel
theorem dX4_gateOf_22 : decode cX4_gateOf 22 = .ok (.iinc 2 1, 3) := by decide +kernel
theorem dX4_gateOf_25 : decode cX4_gateOf 25 = .ok (.goto (-23), 3) := by decide +kernel
theorem dX4_gateOf_28 : decode cX4_gateOf 28 = .ok (.bipush (-4), 2) := by decide +kernel
theorem dX4_gateOf_30 : decode cX4_gateOf 30 = .ok (.ireturn, 1) := by decide +kernel
theorem dX7_readInto_0 : decode cX7_readInto 0 = .ok (.aload_n 1, 1) := by decide +kernel
theorem dX7_readInto_1 : decode cX7_readInto 1 = .ok (.invokevirtual 25, 3) := by decide +kernel
theorem dX7_readInto_4 : decode cX7_readInto 4 = .ok (.aload_n 0, 1) := by decide +kernel
theorem dX7_readInto_5 : decode cX7_readInto 5 = .ok (.iconst 0, 1) := by decide +kernel
theorem dX7_readInto_6 : decode cX7_readInto 6 = .ok (.putfield 22, 3) := by decide +kernel
theorem dX7_readInto_9 : decode cX7_readInto 9 = .ok (.iconst 0, 1) := by decide +kernel
theorem dX7_readInto_10 : decode cX7_readInto 10 = .ok (.istore_n 2, 1) := by decide +kernel
theorem dX7_readInto_11 : decode cX7_readInto 11 = .ok (.iload_n 2, 1) := by decide +kernel
theorem dX7_readInto_12 : decode cX7_readInto 12 = .ok (.bipush 40, 2) := by decide +kernel
theorem dX7_readInto_14 : decode cX7_readInto 14 = .ok (.if_icmp .gt 59, 3) := by decide +kernel
theorem dX7_readInto_17 : decode cX7_readInto 17 = .ok (.aload_n 0, 1) := by decide +kernel
theorem dX7_readInto_18 : decode cX7_readInto 18 = .ok (.getfield 22, 3) := by decide +kernel
theorem dX7_readInto_21 : decode cX7_readInto 21 = .ok (.aload_n 0, 1) := by decide +kernel
theorem dX7_readInto_22 : decode cX7_readInto 22 = .ok (.getfield 18, 3) := by decide +kernel
theorem dX7_readInto_25 : decode cX7_readInto 25 = .ok (.if_icmp .ge 48, 3) := by decide +kernel
theorem dX7_readInto_28 : decode cX7_readInto 28 = .ok (.aload_n 0, 1) := by decide +kernel
theorem dX7_readInto_29 : decode cX7_readInto 29 = .ok (.getfield 22, 3) := by decide +kernel
theorem dX7_readInto_32 : decode cX7_readInto 32 = .ok (.istore_n 3, 1) := by decide +kernel
theorem dX7_readInto_33 : decode cX7_readInto 33 = .ok (.iload_n 2, 1) := by decide +kernel
theorem dX7_readInto_34 : decode cX7_readInto 34 = .ok (.bipush 40, 2) := by decide +kernel
theorem dX7_readInto_36 : decode cX7_readInto 36 = .ok (.if_icmp .eq 21, 3) := by decide +kernel
theorem dX7_readInto_39 : decode cX7_readInto 39 = .ok (.aload_n 0, 1) := by decide +kernel
theorem dX7_readInto_40 : decode cX7_readInto 40 = .ok (.invokevirtual 30, 3) := by decide +kernel
theorem dX7_readInto_43 : decode cX7_readInto 43 = .ok (.ifCond .eq 14, 3) := by decide +kernel
theorem dX7_readInto_46 : decode cX7_readInto 46 = .ok (.aload_n 1, 1) := by decide +kernel
theorem dX7_readInto_47 : decode cX7_readInto 47 = .ok (.aload_n 0, 1) := by decide +kernel
theorem dX7_readInto_48 : decode cX7_readInto 48 = .ok (.getfield 15, 3) := by decide +kernel
theorem dX7_readInto_51 : decode cX7_readInto 51 = .ok (.invokevirtual 34, 3) := by decide +kernel
theorem dX7_readInto_54 : decode cX7_readInto 54 = .ok (.ifCond .ne 5, 3) := by decide +kernel
theorem dX7_readInto_57 : decode cX7_readInto 57 = .ok (.iload_n 3, 1) := by decide +kernel
theorem dX7_readInto_58 : decode cX7_readInto 58 = .ok (.ireturn, 1) := by decide +kernel
theorem dX7_readInto_59 : decode cX7_readInto 59 = .ok (.aload_n 1, 1) := by decide +kernel
theorem dX7_readInto_60 : decode cX7_readInto 60 = .ok (.aload_n 0, 1) := by decide +kernel
theorem dX7_readInto_61 : decode cX7_readInto 61 = .ok (.getfield 15, 3) := by decide +kernel
theorem dX7_readInto_64 : decode cX7_readInto 64 = .ok (.invokevirtual 38, 3) := by decide +kernel
theorem dX7_readInto_67 : decode cX7_readInto 67 = .ok (.iinc 2 1, 3) := by decide +kernel
theorem dX7_readInto_70 : decode cX7_readInto 70 = .ok (.goto (-59), 3) := by decide +kernel
theorem dX7_readInto_73 : decode cX7_readInto 73 = .ok (.bipush (-4), 2) := by decide +kernel
theorem dX7_readInto_75 : decode cX7_readInto 75 = .ok (.ireturn, 1) := by decide +kernel
def uX4_hasNumber : List Cond := .code yX4_hasNumber cX4_hasNumber 3 (some .boolean) :: ([.methodLink RX4 73 yX4_cell, .instanceMethod yX4_cell, .selects RX4 yX4_cell yX4_cell, .initialized RX4, .methodLink RX4 86 yX2_numbersOf, .static yX2_numbersOf, .initialized RX2, .code yX4_cell cX4_cell 3 (some .int), .fieldLink RX4 9 "RiverModel$Model" "cells" "[I", .code yX2_numbersOf cX2_numbersOf 1 (some .int)] ++ wsX40)
set_option maxRecDepth 20000 in
theorem gu_X4_hasNumber_X4_cell_73 : GoodIn uX4_hasNumber (wsV RX4 73 RX4 yX4_cell uX4_cell) := goodIn_r _ [1, 2, 3, 4, 8, 9, 11, 12, 13, 14, 15, 16] rfl (by decide +kernel)
set_option maxRecDepth 20000 in
theorem gu_X4_hasNumber_X2_numbersOf_86 : GoodIn uX4_hasNumber (va_wsS RX4 86 yX2_numbersOf uX2_numbersOf) := goodIn_r _ [5, 6, 7, 10] rfl (by decide +kernel)
set_option maxHeartbeats 4000000 in
set_option maxRecDepth 100000 in
theorem s_X4_hasNumber (l : Launch) (D : va_G) (t : Nat → Nat) (cI cL cC : ClassId) (gC : Int32) (gE : Int32) (G : Nat) (gW : Nat → Int32) (gA : Nat → Int32) (a0 : Nat) (a1 : Int32) (a2 : Int32) (k_a0 : t a0 = 3) : tM l yX4_hasNumber uX4_hasNumber 1 22 D (gF cI cL cC gC gE G gW gA) (gF cI cL cC gC gE G gW gA) t cI cL cC [.ref a0, .int a1, .int a2] wr0 (pI (fun r => r = 0 ∨ r = 1)) := by
  refine tM.ofW (cc := cX4_hasNumber) (maxL := 3) (ret := (some .boolean)) (by decide) rfl (Nat.le_of_ble_eq_true rfl) ?_
  intro p e s m below meth c hx hb hr hml hown hts hlk H locs hG hK hE hS ls hl
  have hl : lv_has ls 3 [(0, .ref a0), (1, .int a1), (2, .int a2)] := hl
  skip
  refine lv_iload_n hx hb dX4_hasNumber_0 rfl (lv_at hl 2 rfl) ?_
  refine lv_if_lt (tgt := 21) hx hb dX4_hasNumber_1 (by decide) (fun c_1 => ?_) (fun c_1 => ?_)
  · skip
    have c_1 : a2.toInt < 0 := q_lt c_1
    refine lv_iconst (v := 0) hx hb dX4_hasNumber_21 (by decide) ?_
    exact ty_zret hx hb hr hlk rfl hG hS (by decide) dX4_hasNumber_22
  · skip
    have c_1 : 0 ≤ a2.toInt := q_nlt c_1
    refine lv_iload_n hx hb dX4_hasNumber_4 rfl (lv_at hl 2 rfl) ?_
    refine lv_aload_n hx hb dX4_hasNumber_5 rfl (lv_at hl 0 rfl) ?_
    refine lv_iload_n hx hb dX4_hasNumber_6 rfl (lv_at hl 1 rfl) ?_
    refine lv_pc (pc2 := 7) rfl ?_
    refine lv_iconst (v := 0) hx hb dX4_hasNumber_7 (by decide) ?_
    obtain ⟨r_2, r_4, r_6, v_8, v_9, v_10, at_12, h_3, h_5, h_7, h_11⟩ := gF_o3 hG k_a0
    refine ty_calli ((W.runV (As := [.int a1, .int 0]) (rest := [.int a2]) ⟨hx, hb, hml, hown, hts⟩ (s_X4_cell l D t cI cL cC gC gE G gW gA a0 a1 0 k_a0) (cwV 2 hts gu_X4_hasNumber_X4_cell_73 rfl rfl rfl (by decide +kernel) ⟨Nat.le_of_ble_eq_true rfl, Nat.le_of_ble_eq_true rfl⟩) (tP_V hG hE at_12 rfl) rfl rfl hl.1 rfl (lv_room (Nat.le_of_ble_eq_true rfl)) dX4_hasNumber_8 ⟨Nat.le_of_ble_eq_true rfl, Nat.le_of_ble_eq_true rfl⟩)) hS (fun _ h => h) (fun r_13 H locs hp_14 hG hS o_15 => ?_)
    have at_12 := va_at.keptC at_12 o_15 k_a0 rfl
    refine ty_calli ((W.runS (As := [.int r_13]) (rest := [.int a2]) ⟨hx, hb, hml, hown, hts⟩ (s_X2_numbersOf l D t cI cL cC gC gE G gW gA r_13 ) (va_cwS 1 hts gu_X4_hasNumber_X2_numbersOf_86 rfl rfl rfl (by decide +kernel) ⟨Nat.le_of_ble_eq_true rfl, Nat.le_of_ble_eq_true rfl⟩) (tP_S hG hE) rfl rfl hl.1 rfl (lv_room (Nat.le_of_ble_eq_true rfl)) dX4_hasNumber_11 ⟨Nat.le_of_ble_eq_true rfl, Nat.le_of_ble_eq_true rfl⟩)) hS (fun _ h => h) (fun r_16 H locs hp_17 hG hS o_18 => ?_)
    have at_12 := va_at.keptC at_12 o_18 k_a0 rfl
    have hp_17 := hp_17
    refine lv_icmp_ge (tgt := 21) hx hb dX4_hasNumber_14 (by decide) (fun c_19 => ?_) (fun c_19 => ?_)
    · skip
      have c_19 : r_16.toInt ≤ a2.toInt := q_le c_19
      refine lv_iconst (v := 0) hx hb dX4_hasNumber_21 (by decide) ?_
      exact ty_zret hx hb hr hlk rfl hG hS (by decide) dX4_hasNumber_22
    · skip
      have c_19 : a2.toInt < r_16.toInt := q_nle c_19
      refine lv_iconst (v := 1) hx hb dX4_hasNumber_17 (by decide) ?_
      refine lv_goto (tgt := 22) hx hb dX4_hasNumber_18 (by decide) ?_
      refine lv_pc (pc2 := 22) rfl ?_
      exact ty_zret hx hb hr hlk rfl hG hS (by decide) dX4_hasNumber_22

def uX4_isItemAsTold : List Cond := .code yX4_isItemAsTold cX4_isItemAsTold 2 (some .boolean) :: ([.methodLink RX4 73 yX4_cell, .instanceMethod yX4_cell, .selects RX4 yX4_cell yX4_cell, .initialized RX4, .methodLink RX4 77 yX2_areNumbersAsTold, .static yX2_areNumbersAsTold, .initialized RX2, .code yX4_cell cX4_cell 3 (some .int), .fieldLink RX4 9 "RiverModel$Model" "cells" "[I", .code yX2_areNumbersAsTold cX2_areNumbersAsTold 4 (some .boolean), .methodLink RX2 10 yX2_isUpTo, .static yX2_isUpTo, .constant RX2 9 (1000000), .code yX2_isUpTo cX2_isUpTo 2 (some .boolean)] ++ wsX40)
set_option maxRecDepth 20000 in
theorem gu_X4_isItemAsTold_X4_cell_73 : GoodIn uX4_isItemAsTold (wsV RX4 73 RX4 yX4_cell uX4_cell) := goodIn_r _ [1, 2, 3, 4, 8, 9, 15, 16, 17, 18, 19, 20] rfl (by decide +kernel)
set_option maxRecDepth 20000 in
theorem gu_X4_isItemAsTold_X2_areNumbersAsTold_77 : GoodIn uX4_isItemAsTold (va_wsS RX4 77 yX2_areNumbersAsTold uX2_areNumbersAsTold) := goodIn_r _ [5, 6, 7, 10, 11, 12, 7, 13, 14] rfl (by decide +kernel)
set_option maxHeartbeats 4000000 in
set_option maxRecDepth 100000 in
theorem s_X4_isItemAsTold (l : Launch) (D : va_G) (t : Nat → Nat) (cI cL cC : ClassId) (gC : Int32) (gE : Int32) (G : Nat) (gW : Nat → Int32) (gA : Nat → Int32) (a0 : Nat) (a1 : Int32) (k_a0 : t a0 = 3) : tM l yX4_isItemAsTold uX4_isItemAsTold 2 44 D (gF cI cL cC gC gE G gW gA) (gF cI cL cC gC gE G gW gA) t cI cL cC [.ref a0, .int a1] wr0 (pI (fun r => r = 0 ∨ r = 1)) := by
  refine tM.ofW (cc := cX4_isItemAsTold) (maxL := 2) (ret := (some .boolean)) (by decide) rfl (Nat.le_of_ble_eq_true rfl) ?_
  intro p e s m below meth c hx hb hr hml hown hts hlk H locs hG hK hE hS ls hl
  have hl : lv_has ls 2 [(0, .ref a0), (1, .int a1)] := hl
  skip
  refine lv_aload_n hx hb dX4_isItemAsTold_0 rfl (lv_at hl 0 rfl) ?_
  refine lv_iload_n hx hb dX4_isItemAsTold_1 rfl (lv_at hl 1 rfl) ?_
  refine lv_iconst (v := 0) hx hb dX4_isItemAsTold_2 (by decide) ?_
  obtain ⟨r_1, r_3, r_5, v_7, v_8, v_9, at_11, h_2, h_4, h_6, h_10⟩ := gF_o3 hG k_a0
  refine ty_calli ((W.runV (As := [.int a1, .int 0]) (rest := []) ⟨hx, hb, hml, hown, hts⟩ (s_X4_cell l D t cI cL cC gC gE G gW gA a0 a1 0 k_a0) (cwV 2 hts gu_X4_isItemAsTold_X4_cell_73 rfl rfl rfl (by decide +kernel) ⟨Nat.le_of_ble_eq_true rfl, Nat.le_of_ble_eq_true rfl⟩) (tP_V hG hE at_11 rfl) rfl rfl hl.1 rfl (lv_room (Nat.le_of_ble_eq_true rfl)) dX4_isItemAsTold_3 ⟨Nat.le_of_ble_eq_true rfl, Nat.le_of_ble_eq_true rfl⟩)) hS (fun _ h => h) (fun r_12 H locs hp_13 hG hS o_14 => ?_)
  have at_11 := va_at.keptC at_11 o_14 k_a0 rfl
  refine lv_aload_n hx hb dX4_isItemAsTold_6 rfl (lv_at hl 0 rfl) ?_
  refine lv_iload_n hx hb dX4_isItemAsTold_7 rfl (lv_at hl 1 rfl) ?_
  refine lv_iconst (v := 3) hx hb dX4_isItemAsTold_8 (by decide) ?_
  refine lv_pc (pc2 := 9) rfl ?_
  refine ty_calli ((W.runV (As := [.int a1, .int 3]) (rest := [.int r_12]) ⟨hx, hb, hml, hown, hts⟩ (s_X4_cell l D t cI cL cC gC gE G gW gA a0 a1 3 k_a0) (cwV 2 hts gu_X4_isItemAsTold_X4_cell_73 rfl rfl rfl (by decide +kernel) ⟨Nat.le_of_ble_eq_true rfl, Nat.le_of_ble_eq_true rfl⟩) (tP_V hG hE at_11 rfl) rfl rfl hl.1 rfl (lv_room (Nat.le_of_ble_eq_true rfl)) dX4_isItemAsTold_9 ⟨Nat.le_of_ble_eq_true rfl, Nat.le_of_ble_eq_true rfl⟩)) hS (fun _ h => h) (fun r_15 H locs hp_16 hG hS o_17 => ?_)
  have at_11 := va_at.keptC at_11 o_17 k_a0 rfl
  refine lv_aload_n hx hb dX4_isItemAsTold_12 rfl (lv_at hl 0 rfl) ?_
  refine lv_iload_n hx hb dX4_isItemAsTold_13 rfl (lv_at hl 1 rfl) ?_
  refine lv_iconst (v := 4) hx hb dX4_isItemAsTold_14 (by decide) ?_
  refine ty_calli ((W.runV (As := [.int a1, .int 4]) (rest := [.int r_15, .int r_12]) ⟨hx, hb, hml, hown, hts⟩ (s_X4_cell l D t cI cL cC gC gE G gW gA a0 a1 4 k_a0) (cwV 2 hts gu_X4_isItemAsTold_X4_cell_73 rfl rfl rfl (by decide +kernel) ⟨Nat.le_of_ble_eq_true rfl, Nat.le_of_ble_eq_true rfl⟩) (tP_V hG hE at_11 rfl) rfl rfl hl.1 rfl (lv_room (Nat.le_of_ble_eq_true rfl)) dX4_isItemAsTold_15 ⟨Nat.le_of_ble_eq_true rfl, Nat.le_of_ble_eq_true rfl⟩)) hS (fun _ h => h) (fun r_18 H locs hp_19 hG hS o_20 => ?_)
  have at_11 := va_at.keptC at_11 o_20 k_a0 rfl
  refine lv_aload_n hx hb dX4_isItemAsTold_18 rfl (lv_at hl 0 rfl) ?_
  refine lv_iload_n hx hb dX4_isItemAsTold_19 rfl (lv_at hl 1 rfl) ?_
  refine lv_iconst (v := 5) hx hb dX4_isItemAsTold_20 (by decide) ?_
  refine lv_pc (pc2 := 21) rfl ?_
  refine ty_calli ((W.runV (As := [.int a1, .int 5]) (rest := [.int r_18, .int r_15, .int r_12]) ⟨hx, hb, hml, hown, hts⟩ (s_X4_cell l D t cI cL cC gC gE G gW gA a0 a1 5 k_a0) (cwV 2 hts gu_X4_isItemAsTold_X4_cell_73 rfl rfl rfl (by decide +kernel) ⟨Nat.le_of_ble_eq_true rfl, Nat.le_of_ble_eq_true rfl⟩) (tP_V hG hE at_11 rfl) rfl rfl hl.1 rfl (lv_room (Nat.le_of_ble_eq_true rfl)) dX4_isItemAsTold_21 ⟨Nat.le_of_ble_eq_true rfl, Nat.le_of_ble_eq_true rfl⟩)) hS (fun _ h => h) (fun r_21 H locs hp_22 hG hS o_23 => ?_)
  have at_11 := va_at.keptC at_11 o_23 k_a0 rfl
  refine ty_calli ((W.runS (As := [.int r_12, .int r_15, .int r_18, .int r_21]) (rest := []) ⟨hx, hb, hml, hown, hts⟩ (s_X2_areNumbersAsTold l D t cI cL cC gC gE G gW gA r_12 r_15 r_18 r_21 ) (va_cwS 4 hts gu_X4_isItemAsTold_X2_areNumbersAsTold_77 rfl rfl rfl (by decide +kernel) ⟨Nat.le_of_ble_eq_true rfl, Nat.le_of_ble_eq_true rfl⟩) (tP_S hG hE) rfl rfl hl.1 rfl (lv_room (Nat.le_of_ble_eq_true rfl)) dX4_isItemAsTold_24 ⟨Nat.le_of_ble_eq_true rfl, Nat.le_of_ble_eq_true rfl⟩)) hS (fun _ h => h) (fun r_24 H locs hp_25 hG hS o_26 => ?_)
  have at_11 := va_at.keptC at_11 o_26 k_a0 rfl
  rcases hp_25 with rfl | rfl
  · skip
    exact ty_zret hx hb hr hlk rfl hG hS (by decide) dX4_isItemAsTold_27
  · skip
    exact ty_zret hx hb hr hlk rfl hG hS (by decide) dX4_isItemAsTold_27

def uX4_capacityOf : List Cond := .code yX4_capacityOf cX4_capacityOf 2 (some .int) :: ([.methodLink RX4 66 yX4_hasStore, .instanceMethod yX4_hasStore, .selects RX4 yX4_hasStore yX4_hasStore, .initialized RX4, .fieldLink RX4 15 "RiverModel$Model" "storeItems" "[I", .methodLink RX4 73 yX4_cell, .instanceMethod yX4_cell, .selects RX4 yX4_cell yX4_cell, .code yX4_hasStore cX4_hasStore 2 (some .boolean), .code yX4_cell cX4_cell 3 (some .int), .fieldLink RX4 9 "RiverModel$Model" "cells" "[I"] ++ wsX40)
set_option maxRecDepth 20000 in
theorem gu_X4_capacityOf_X4_hasStore_66 : GoodIn uX4_capacityOf (wsV RX4 66 RX4 yX4_hasStore uX4_hasStore) := goodIn_r _ [1, 2, 3, 4, 9, 5, 12, 13, 14, 15, 16, 17] rfl (by decide +kernel)
set_option maxRecDepth 20000 in
theorem gu_X4_capacityOf_X4_cell_73 : GoodIn uX4_capacityOf (wsV RX4 73 RX4 yX4_cell uX4_cell) := goodIn_r _ [6, 7, 8, 4, 10, 11, 12, 13, 14, 15, 16, 17] rfl (by decide +kernel)
set_option maxHeartbeats 4000000 in
set_option maxRecDepth 100000 in
theorem s_X4_capacityOf (l : Launch) (D : va_G) (t : Nat → Nat) (cI cL cC : ClassId) (gC : Int32) (gE : Int32) (G : Nat) (gW : Nat → Int32) (gA : Nat → Int32) (a0 : Nat) (a1 : Int32) (k_a0 : t a0 = 3) : tM l yX4_capacityOf uX4_capacityOf 1 22 D (gF cI cL cC gC gE G gW gA) (gF cI cL cC gC gE G gW gA) t cI cL cC [.ref a0, .int a1] wr0 (pI (fun r => True)) := by
  refine tM.ofW (cc := cX4_capacityOf) (maxL := 2) (ret := (some .int)) (by decide) rfl (Nat.le_of_ble_eq_true rfl) ?_
  intro p e s m below meth c hx hb hr hml hown hts hlk H locs hG hK hE hS ls hl
  have hl : lv_has ls 2 [(0, .ref a0), (1, .int a1)] := hl
  have in4 : ∀ w ∈ wsX40, w ∈ uX4_capacityOf := fun w h => List.mem_cons_of_mem _ (List.mem_append_right _ h)
  refine lv_aload_n hx hb dX4_capacityOf_0 rfl (lv_at hl 0 rfl) ?_
  refine lv_iload_n hx hb dX4_capacityOf_1 rfl (lv_at hl 1 rfl) ?_
  obtain ⟨r_1, r_3, r_5, v_7, v_8, v_9, at_11, h_2, h_4, h_6, h_10⟩ := gF_o3 hG k_a0
  refine ty_calli ((W.runV (As := [.int a1]) (rest := []) ⟨hx, hb, hml, hown, hts⟩ (s_X4_hasStore l D t cI cL cC gC gE G gW gA a0 a1 k_a0) (cwV 1 hts gu_X4_capacityOf_X4_hasStore_66 rfl rfl rfl (by decide +kernel) ⟨Nat.le_of_ble_eq_true rfl, Nat.le_of_ble_eq_true rfl⟩) (tP_V hG hE at_11 rfl) rfl rfl hl.1 rfl (lv_room (Nat.le_of_ble_eq_true rfl)) dX4_capacityOf_2 ⟨Nat.le_of_ble_eq_true rfl, Nat.le_of_ble_eq_true rfl⟩)) hS (fun _ h => h) (fun r_12 H locs hp_13 hG hS o_14 => ?_)
  have at_11 := va_at.keptC at_11 o_14 k_a0 rfl
  rcases hp_13 with ⟨rfl, hc_26, hc_27⟩ | ⟨rfl, _⟩
  · skip
    refine lv_if_eq (tgt := 22) hx hb dX4_capacityOf_5 (by decide) (fun q => absurd q (by decide)) (fun _ => ?_)
    refine lv_aload_n hx hb dX4_capacityOf_8 rfl (lv_at hl 0 rfl) ?_
    refine lv_aload_n hx hb dX4_capacityOf_9 rfl (lv_at hl 0 rfl) ?_
    refine va_get (D := D) (ci := 3) (v := .ref r_3) (C := RX4) (T := TX4) (N := 6) hx hb hts in4 hown hK (va_one at_11) 0 rfl rfl 1 (by decide) (hts (.fieldLink RX4 15 "RiverModel$Model" "storeItems" "[I") (List.mem_of_getElem? (i := 5) rfl)) (fun _ h9 => h9) rfl dX4_capacityOf_10 ?_
    refine lv_pc (pc2 := 13) rfl ?_
    refine lv_iload_n hx hb dX4_capacityOf_13 rfl (lv_at hl 1 rfl) ?_
    obtain ⟨f_15, at_16⟩ := gF_o13 hG h_4
    have b_17 : vp_in a1 16 := (q_in (by omega) (by omega))
    refine va_iald hx hb hK (va_one at_16) 0 0 rfl rfl b_17 dX4_capacityOf_14 ?_
    refine lv_topi (fun x_18 e_19 => ?_)
    refine lv_iconst (v := 3) hx hb dX4_capacityOf_15 (by decide) ?_
    refine ty_calli ((W.runV (As := [.int x_18, .int 3]) (rest := []) ⟨hx, hb, hml, hown, hts⟩ (s_X4_cell l D t cI cL cC gC gE G gW gA a0 x_18 3 k_a0) (cwV 2 hts gu_X4_capacityOf_X4_cell_73 rfl rfl rfl (by decide +kernel) ⟨Nat.le_of_ble_eq_true rfl, Nat.le_of_ble_eq_true rfl⟩) (tP_V hG hE at_11 rfl) rfl rfl hl.1 rfl (lv_room (Nat.le_of_ble_eq_true rfl)) dX4_capacityOf_16 ⟨Nat.le_of_ble_eq_true rfl, Nat.le_of_ble_eq_true rfl⟩)) hS (fun _ h => h) (fun r_20 H locs hp_21 hG hS o_22 => ?_)
    have at_11 := va_at.keptC at_11 o_22 k_a0 rfl
    have at_16 := va_at.keptC at_16 o_22 h_4 rfl
    refine lv_goto (tgt := 23) hx hb dX4_capacityOf_19 (by decide) ?_
    exact ty_iret hx hb hr hlk hG hS True.intro dX4_capacityOf_23
  · skip
    refine lv_if_eq (tgt := 22) hx hb dX4_capacityOf_5 (by decide) (fun _ => ?_) (fun q => absurd (by decide) q)
    refine lv_iconst (v := 0) hx hb dX4_capacityOf_22 (by decide) ?_
    refine lv_pc (pc2 := 23) rfl ?_
    exact ty_iret hx hb hr hlk hG hS True.intro dX4_capacityOf_23

def uX4_startOf : List Cond := .code yX4_startOf cX4_startOf 2 (some .int) :: ([.methodLink RX4 66 yX4_hasStore, .instanceMethod yX4_hasStore, .selects RX4 yX4_hasStore yX4_hasStore, .initialized RX4, .fieldLink RX4 15 "RiverModel$Model" "storeItems" "[I", .methodLink RX4 73 yX4_cell, .instanceMethod yX4_cell, .selects RX4 yX4_cell yX4_cell, .code yX4_hasStore cX4_hasStore 2 (some .boolean), .code yX4_cell cX4_cell 3 (some .int), .fieldLink RX4 9 "RiverModel$Model" "cells" "[I"] ++ wsX40)
set_option maxRecDepth 20000 in
theorem gu_X4_startOf_X4_hasStore_66 : GoodIn uX4_startOf (wsV RX4 66 RX4 yX4_hasStore uX4_hasStore) := goodIn_r _ [1, 2, 3, 4, 9, 5, 12, 13, 14, 15, 16, 17] rfl (by decide +kernel)
set_option maxRecDepth 20000 in
theorem gu_X4_startOf_X4_cell_73 : GoodIn uX4_startOf (wsV RX4 73 RX4 yX4_cell uX4_cell) := goodIn_r _ [6, 7, 8, 4, 10, 11, 12, 13, 14, 15, 16, 17] rfl (by decide +kernel)
set_option maxHeartbeats 4000000 in
set_option maxRecDepth 100000 in
theorem s_X4_startOf (l : Launch) (D : va_G) (t : Nat → Nat) (cI cL cC : ClassId) (gC : Int32) (gE : Int32) (G : Nat) (gW : Nat → Int32) (gA : Nat → Int32) (a0 : Nat) (a1 : Int32) (k_a0 : t a0 = 3) : tM l yX4_startOf uX4_startOf 1 22 D (gF cI cL cC gC gE G gW gA) (gF cI cL cC gC gE G gW gA) t cI cL cC [.ref a0, .int a1] wr0 (pI (fun r => True)) := by
  refine tM.ofW (cc := cX4_startOf) (maxL := 2) (ret := (some .int)) (by decide) rfl (Nat.le_of_ble_eq_true rfl) ?_
  intro p e s m below meth c hx hb hr hml hown hts hlk H locs hG hK hE hS ls hl
  have hl : lv_has ls 2 [(0, .ref a0), (1, .int a1)] := hl
  have in4 : ∀ w ∈ wsX40, w ∈ uX4_startOf := fun w h => List.mem_cons_of_mem _ (List.mem_append_right _ h)
  refine lv_aload_n hx hb dX4_startOf_0 rfl (lv_at hl 0 rfl) ?_
  refine lv_iload_n hx hb dX4_startOf_1 rfl (lv_at hl 1 rfl) ?_
  obtain ⟨r_1, r_3, r_5, v_7, v_8, v_9, at_11, h_2, h_4, h_6, h_10⟩ := gF_o3 hG k_a0
  refine ty_calli ((W.runV (As := [.int a1]) (rest := []) ⟨hx, hb, hml, hown, hts⟩ (s_X4_hasStore l D t cI cL cC gC gE G gW gA a0 a1 k_a0) (cwV 1 hts gu_X4_startOf_X4_hasStore_66 rfl rfl rfl (by decide +kernel) ⟨Nat.le_of_ble_eq_true rfl, Nat.le_of_ble_eq_true rfl⟩) (tP_V hG hE at_11 rfl) rfl rfl hl.1 rfl (lv_room (Nat.le_of_ble_eq_true rfl)) dX4_startOf_2 ⟨Nat.le_of_ble_eq_true rfl, Nat.le_of_ble_eq_true rfl⟩)) hS (fun _ h => h) (fun r_12 H locs hp_13 hG hS o_14 => ?_)
  have at_11 := va_at.keptC at_11 o_14 k_a0 rfl
  rcases hp_13 with ⟨rfl, hc_28, hc_29⟩ | ⟨rfl, _⟩
  · skip
    refine lv_if_eq (tgt := 22) hx hb dX4_startOf_5 (by decide) (fun q => absurd q (by decide)) (fun _ => ?_)
    refine lv_aload_n hx hb dX4_startOf_8 rfl (lv_at hl 0 rfl) ?_
    refine lv_aload_n hx hb dX4_startOf_9 rfl (lv_at hl 0 rfl) ?_
    refine va_get (D := D) (ci := 3) (v := .ref r_3) (C := RX4) (T := TX4) (N := 6) hx hb hts in4 hown hK (va_one at_11) 0 rfl rfl 1 (by decide) (hts (.fieldLink RX4 15 "RiverModel$Model" "storeItems" "[I") (List.mem_of_getElem? (i := 5) rfl)) (fun _ h9 => h9) rfl dX4_startOf_10 ?_
    refine lv_pc (pc2 := 13) rfl ?_
    refine lv_iload_n hx hb dX4_startOf_13 rfl (lv_at hl 1 rfl) ?_
    obtain ⟨f_15, at_16⟩ := gF_o13 hG h_4
    have b_17 : vp_in a1 16 := (q_in (by omega) (by omega))
    refine va_iald hx hb hK (va_one at_16) 0 0 rfl rfl b_17 dX4_startOf_14 ?_
    refine lv_topi (fun x_18 e_19 => ?_)
    refine lv_iconst (v := 4) hx hb dX4_startOf_15 (by decide) ?_
    refine ty_calli ((W.runV (As := [.int x_18, .int 4]) (rest := []) ⟨hx, hb, hml, hown, hts⟩ (s_X4_cell l D t cI cL cC gC gE G gW gA a0 x_18 4 k_a0) (cwV 2 hts gu_X4_startOf_X4_cell_73 rfl rfl rfl (by decide +kernel) ⟨Nat.le_of_ble_eq_true rfl, Nat.le_of_ble_eq_true rfl⟩) (tP_V hG hE at_11 rfl) rfl rfl hl.1 rfl (lv_room (Nat.le_of_ble_eq_true rfl)) dX4_startOf_16 ⟨Nat.le_of_ble_eq_true rfl, Nat.le_of_ble_eq_true rfl⟩)) hS (fun _ h => h) (fun r_20 H locs hp_21 hG hS o_22 => ?_)
    have at_11 := va_at.keptC at_11 o_22 k_a0 rfl
    have at_16 := va_at.keptC at_16 o_22 h_4 rfl
    refine lv_goto (tgt := 23) hx hb dX4_startOf_19 (by decide) ?_
    exact ty_iret hx hb hr hlk hG hS True.intro dX4_startOf_23
  · skip
    refine lv_if_eq (tgt := 22) hx hb dX4_startOf_5 (by decide) (fun _ => ?_) (fun q => absurd (by decide) q)
    refine lv_iconst (v := 0) hx hb dX4_startOf_22 (by decide) ?_
    refine lv_pc (pc2 := 23) rfl ?_
    exact ty_iret hx hb hr hlk hG hS True.intro dX4_startOf_23

def uX4_startOfAll : List Cond := .code yX4_startOfAll cX4_startOfAll 4 (some .long) :: ([.methodLink RX4 90 yX4_startOf, .instanceMethod yX4_startOf, .selects RX4 yX4_startOf yX4_startOf, .initialized RX4, .code yX4_startOf cX4_startOf 2 (some .int), .methodLink RX4 66 yX4_hasStore, .instanceMethod yX4_hasStore, .selects RX4 yX4_hasStore yX4_hasStore, .fieldLink RX4 15 "RiverModel$Model" "storeItems" "[I", .methodLink RX4 73 yX4_cell, .instanceMethod yX4_cell, .selects RX4 yX4_cell yX4_cell, .code yX4_hasStore cX4_hasStore 2 (some .boolean), .code yX4_cell cX4_cell 3 (some .int), .fieldLink RX4 9 "RiverModel$Model" "cells" "[I"] ++ wsX40)
set_option maxRecDepth 20000 in
theorem gu_X4_startOfAll_X4_startOf_90 : GoodIn uX4_startOfAll (wsV RX4 90 RX4 yX4_startOf uX4_startOf) := goodIn_r _ [1, 2, 3, 4, 5, 6, 7, 8, 4, 9, 10, 11, 12, 13, 14, 15, 16, 17, 18, 19, 20, 21] rfl (by decide +kernel)
set_option maxHeartbeats 4000000 in
set_option maxRecDepth 100000 in
theorem s_X4_startOfAll (l : Launch) (D : va_G) (t : Nat → Nat) (cI cL cC : ClassId) (gC : Int32) (gE : Int32) (G : Nat) (gW : Nat → Int32) (gA : Nat → Int32) (a0 : Nat) (k_a0 : t a0 = 3) : tM l yX4_startOfAll uX4_startOfAll 2 43 D (gF cI cL cC gC gE G gW gA) (gF cI cL cC gC gE G gW gA) t cI cL cC [.ref a0] wr0 (pL (fun r => True)) := by
  refine tM.ofW (cc := cX4_startOfAll) (maxL := 4) (ret := (some .long)) (by decide) rfl (Nat.le_of_ble_eq_true rfl) ?_
  intro p e s m below meth c hx hb hr hml hown hts hlk H locs hG hK hE hS ls hl
  have hl : lv_has ls 4 [(0, .ref a0)] := hl
  skip
  refine lv_lconst (v := 0) hx hb dX4_startOfAll_0 (by decide) ?_
  refine lv_lstore_n (lv' := [(1, .long 0), (0, .ref a0)]) hx hb dX4_startOfAll_1 rfl hl (by decide) rfl (fun ls hl => ?_)
  refine lv_iconst (v := 0) hx hb dX4_startOfAll_2 (by decide) ?_
  refine lv_istore_n (lv' := [(3, .int 0), (1, .long 0), (0, .ref a0)]) hx hb dX4_startOfAll_3 rfl hl (by decide) rfl (fun ls hl => ?_)
  refine lv_pc (pc2 := 4) rfl ?_
  refine lp_gen (fun WW hWW => ?_)
  have kx : ∀ (yk : Int32) (ys : Int64) (H1 : Heap) (locs1 : List Loc) (ls1 : Array Slot), 0 ≤ yk.toInt → yk.toInt ≤ 16 → tG D (gF cI cL cC gC gE G gW gA) t H1 → tF t wr0 s.heap H1 locs1 → lv_has ls1 4 [(3, .int yk), (1, .long ys), (0, .ref a0)] → WW H1 locs1 (F0 m 25 ls1 []) := by
    intro yk ys H locs ls v0 v1 hG hS hl
    refine (hWW _ _ _).mpr ?_
    refine lv_lload_n hx hb dX4_startOfAll_25 rfl (lv_at hl 1 rfl) ?_
    exact ty_lret hx hb hr hlk hG hS True.intro dX4_startOfAll_26
  have loop : ∀ (k : Nat) (yk : Int32) (ys : Int64) (H1 : Heap) (locs1 : List Loc) (ls1 : Array Slot), 16 - yk.toInt ≤ (k : Int) → 0 ≤ yk.toInt → yk.toInt ≤ 16 → tG D (gF cI cL cC gC gE G gW gA) t H1 → tF t wr0 s.heap H1 locs1 → lv_has ls1 4 [(3, .int yk), (1, .long ys), (0, .ref a0)] → WW H1 locs1 (F0 m 4 ls1 []) := by
    intro k
    induction k with
    | zero =>
      intro yk ys H locs ls hk v0 v1 hG hS hl
      refine (hWW _ _ _).mpr ?_
      refine lv_iload_n hx hb dX4_startOfAll_4 rfl (lv_at hl 0 rfl) ?_
      refine lv_pc (pc2 := 5) rfl ?_
      refine lv_bipush (v := 16) hx hb dX4_startOfAll_5 (by decide) ?_
      refine lv_icmp_ge (tgt := 25) hx hb dX4_startOfAll_7 (by decide) (fun c_1 => ?_) (fun c_1 => ?_)
      · skip
        have c_1 : 16 ≤ yk.toInt := q_le c_1
        exact (hWW _ _ _).mp (kx yk ys H locs ls (by omega) (by omega) hG hS (lv_sub hl [0, 1, 2] rfl))
      · skip
        have c_1 : yk.toInt < 16 := q_nle c_1
        refine lv_lload_n hx hb dX4_startOfAll_10 rfl (lv_at hl 1 rfl) ?_
        refine lv_aload_n hx hb dX4_startOfAll_11 rfl (lv_at hl 2 rfl) ?_
        refine lv_iload_n hx hb dX4_startOfAll_12 rfl (lv_at hl 0 rfl) ?_
        obtain ⟨r_2, r_4, r_6, v_8, v_9, v_10, at_12, h_3, h_5, h_7, h_11⟩ := gF_o3 hG k_a0
        refine ty_calli ((W.runV (As := [.int yk]) (rest := [.long ys]) ⟨hx, hb, hml, hown, hts⟩ (s_X4_startOf l D t cI cL cC gC gE G gW gA a0 yk k_a0) (cwV 1 hts gu_X4_startOfAll_X4_startOf_90 rfl rfl rfl (by decide +kernel) ⟨Nat.le_of_ble_eq_true rfl, Nat.le_of_ble_eq_true rfl⟩) (tP_V hG hE at_12 rfl) rfl rfl hl.1 rfl (lv_room (Nat.le_of_ble_eq_true rfl)) dX4_startOfAll_13 ⟨Nat.le_of_ble_eq_true rfl, Nat.le_of_ble_eq_true rfl⟩)) hS (fun _ h => h) (fun r_13 H locs hp_14 hG hS o_15 => ?_)
        have at_12 := va_at.keptC at_12 o_15 k_a0 rfl
        refine lv_i2l (v := r_13.toInt64) hx hb dX4_startOfAll_16 rfl ?_
        refine lv_ladd hx hb dX4_startOfAll_17 ?_
        refine lv_topl (fun z_16 e_17 => ?_)
        refine lv_pc (pc2 := 18) rfl ?_
        refine lv_lstore_n (lv' := [(1, .long z_16), (3, .int yk), (0, .ref a0)]) hx hb dX4_startOfAll_18 rfl hl (by decide) rfl (fun ls hl => ?_)
        obtain ⟨x_18, e_19⟩ : ∃ y : Int32, y = yk + Int32.ofInt 1 := ⟨_, rfl⟩
        have i_x_18 : x_18.toInt = yk.toInt + 1 := by rw [e_19, show Int32.ofInt 1 = 1 by decide]; exact (q_add (by rw [show (1 : Int32).toInt = 1 by decide]; omega) (by rw [show (1 : Int32).toInt = 1 by decide]; omega)).trans (by rw [show (1 : Int32).toInt = 1 by decide])
        refine lv_iinc (v := x_18) (lv' := [(3, .int x_18), (1, .long z_16), (0, .ref a0)]) hx hb dX4_startOfAll_19 hl (k := 1) rfl e_19.symm (by decide) rfl (fun ls hl => ?_)
        refine lv_goto (tgt := 4) hx hb dX4_startOfAll_22 (by decide) ?_
        exfalso; omega
    | succ k ih =>
      intro yk ys H locs ls hk v0 v1 hG hS hl
      refine (hWW _ _ _).mpr ?_
      refine lv_iload_n hx hb dX4_startOfAll_4 rfl (lv_at hl 0 rfl) ?_
      refine lv_bipush (v := 16) hx hb dX4_startOfAll_5 (by decide) ?_
      refine lv_icmp_ge (tgt := 25) hx hb dX4_startOfAll_7 (by decide) (fun c_20 => ?_) (fun c_20 => ?_)
      · skip
        have c_20 : 16 ≤ yk.toInt := q_le c_20
        exact (hWW _ _ _).mp (kx yk ys H locs ls (by omega) (by omega) hG hS (lv_sub hl [0, 1, 2] rfl))
      · skip
        have c_20 : yk.toInt < 16 := q_nle c_20
        refine lv_lload_n hx hb dX4_startOfAll_10 rfl (lv_at hl 1 rfl) ?_
        refine lv_aload_n hx hb dX4_startOfAll_11 rfl (lv_at hl 2 rfl) ?_
        refine lv_pc (pc2 := 12) rfl ?_
        refine lv_iload_n hx hb dX4_startOfAll_12 rfl (lv_at hl 0 rfl) ?_
        obtain ⟨r_21, r_23, r_25, v_27, v_28, v_29, at_31, h_22, h_24, h_26, h_30⟩ := gF_o3 hG k_a0
        refine ty_calli ((W.runV (As := [.int yk]) (rest := [.long ys]) ⟨hx, hb, hml, hown, hts⟩ (s_X4_startOf l D t cI cL cC gC gE G gW gA a0 yk k_a0) (cwV 1 hts gu_X4_startOfAll_X4_startOf_90 rfl rfl rfl (by decide +kernel) ⟨Nat.le_of_ble_eq_true rfl, Nat.le_of_ble_eq_true rfl⟩) (tP_V hG hE at_31 rfl) rfl rfl hl.1 rfl (lv_room (Nat.le_of_ble_eq_true rfl)) dX4_startOfAll_13 ⟨Nat.le_of_ble_eq_true rfl, Nat.le_of_ble_eq_true rfl⟩)) hS (fun _ h => h) (fun r_32 H locs hp_33 hG hS o_34 => ?_)
        have at_31 := va_at.keptC at_31 o_34 k_a0 rfl
        refine lv_i2l (v := r_32.toInt64) hx hb dX4_startOfAll_16 rfl ?_
        refine lv_ladd hx hb dX4_startOfAll_17 ?_
        refine lv_topl (fun z_35 e_36 => ?_)
        refine lv_lstore_n (lv' := [(1, .long z_35), (3, .int yk), (0, .ref a0)]) hx hb dX4_startOfAll_18 rfl hl (by decide) rfl (fun ls hl => ?_)
        obtain ⟨x_37, e_38⟩ : ∃ y : Int32, y = yk + Int32.ofInt 1 := ⟨_, rfl⟩
        have i_x_37 : x_37.toInt = yk.toInt + 1 := by rw [e_38, show Int32.ofInt 1 = 1 by decide]; exact (q_add (by rw [show (1 : Int32).toInt = 1 by decide]; omega) (by rw [show (1 : Int32).toInt = 1 by decide]; omega)).trans (by rw [show (1 : Int32).toInt = 1 by decide])
        refine lv_iinc (v := x_37) (lv' := [(3, .int x_37), (1, .long z_35), (0, .ref a0)]) hx hb dX4_startOfAll_19 hl (k := 1) rfl e_38.symm (by decide) rfl (fun ls hl => ?_)
        refine lv_goto (tgt := 4) hx hb dX4_startOfAll_22 (by decide) ?_
        exact (hWW _ _ _).mp (ih x_37 z_35 H locs ls (by omega) (by omega) (by omega) hG hS (lv_sub hl [0, 1, 2] rfl))
  have hz_yk : (0 : Int32).toInt = 0 := by decide
  exact loop (16 - 0 : Int).toNat 0 0 H locs ls (by omega) (by omega) (by omega) hG hS (lv_sub hl [0, 1, 2] rfl)

def uX4_gateOf : List Cond := .code yX4_gateOf cX4_gateOf 3 (some .int) :: ([.fieldLink RX4 28 "RiverModel$Model" "gates" "I", .fieldLink RX4 18 "RiverModel$Model" "gateItems" "[I"] ++ wsX40)
set_option maxHeartbeats 4000000 in
set_option maxRecDepth 100000 in
theorem s_X4_gateOf (l : Launch) (D : va_G) (t : Nat → Nat) (cI cL cC : ClassId) (gC : Int32) (gE : Int32) (G : Nat) (gW : Nat → Int32) (gA : Nat → Int32) (a0 : Nat) (a1 : Int32) (k_a0 : t a0 = 3) : tM l yX4_gateOf uX4_gateOf 0 0 D (gF cI cL cC gC gE G gW gA) (gF cI cL cC gC gE G gW gA) t cI cL cC [.ref a0, .int a1] wr0 (pI (fun r => True)) := by
  refine tM.ofW (cc := cX4_gateOf) (maxL := 3) (ret := (some .int)) (by decide) rfl (Nat.le_of_ble_eq_true rfl) ?_
  intro p e s m below meth c hx hb hr hml hown hts hlk H locs hG hK hE hS ls hl
  have hl : lv_has ls 3 [(0, .ref a0), (1, .int a1)] := hl
  have in4 : ∀ w ∈ wsX40, w ∈ uX4_gateOf := fun w h => List.mem_cons_of_mem _ (List.mem_append_right _ h)
  refine lv_iconst (v := 0) hx hb dX4_gateOf_0 (by decide) ?_
  refine lv_istore_n (lv' := [(2, .int 0), (0, .ref a0), (1, .int a1)]) hx hb dX4_gateOf_1 rfl hl (by decide) rfl (fun ls hl => ?_)
  refine lv_pc (pc2 := 2) rfl ?_
  refine lp_gen (fun WW hWW => ?_)
  have kx : ∀ (yk : Int32) (H1 : Heap) (locs1 : List Loc) (ls1 : Array Slot), 0 ≤ yk.toInt → yk.toInt ≤ 4 → tG D (gF cI cL cC gC gE G gW gA) t H1 → tF t wr0 s.heap H1 locs1 → lv_has ls1 3 [(2, .int yk), (0, .ref a0), (1, .int a1)] → WW H1 locs1 (F0 m 28 ls1 []) := by
    intro yk H locs ls v0 v1 hG hS hl
    refine (hWW _ _ _).mpr ?_
    refine lv_bipush (v := (-4)) hx hb dX4_gateOf_28 (by decide) ?_
    exact ty_iret hx hb hr hlk hG hS True.intro dX4_gateOf_30
  have loop : ∀ (k : Nat) (yk : Int32) (H1 : Heap) (locs1 : List Loc) (ls1 : Array Slot), 4 - yk.toInt ≤ (k : Int) → 0 ≤ yk.toInt → yk.toInt ≤ 4 → tG D (gF cI cL cC gC gE G gW gA) t H1 → tF t wr0 s.heap H1 locs1 → lv_has ls1 3 [(2, .int yk), (0, .ref a0), (1, .int a1)] → WW H1 locs1 (F0 m 2 ls1 []) := by
    intro k
    induction k with
    | zero =>
      intro yk H locs ls hk v0 v1 hG hS hl
      refine (hWW _ _ _).mpr ?_
      refine lv_iload_n hx hb dX4_gateOf_2 rfl (lv_at hl 0 rfl) ?_
      refine lv_aload_n hx hb dX4_gateOf_3 rfl (lv_at hl 1 rfl) ?_
      obtain ⟨r_1, r_3, r_5, v_7, v_8, v_9, at_11, h_2, h_4, h_6, h_10⟩ := gF_o3 hG k_a0
      refine va_get (D := D) (ci := 3) (v := .int v_9) (C := RX4) (T := TX4) (N := 6) hx hb hts in4 hown hK (va_one at_11) 0 rfl rfl 5 (by decide) (hts (.fieldLink RX4 28 "RiverModel$Model" "gates" "I") (List.mem_of_getElem? (i := 1) rfl)) (fun _ h9 => h9) rfl dX4_gateOf_4 ?_
      refine lv_pc (pc2 := 7) rfl ?_
      refine lv_icmp_ge (tgt := 28) hx hb dX4_gateOf_7 (by decide) (fun c_12 => ?_) (fun c_12 => ?_)
      · skip
        have c_12 : v_9.toInt ≤ yk.toInt := q_le c_12
        exact (hWW _ _ _).mp (kx yk H locs ls (by omega) (by omega) hG hS (lv_sub hl [0, 1, 2] rfl))
      · skip
        have c_12 : yk.toInt < v_9.toInt := q_nle c_12
        refine lv_aload_n hx hb dX4_gateOf_10 rfl (lv_at hl 1 rfl) ?_
        refine va_get (D := D) (ci := 3) (v := .ref r_5) (C := RX4) (T := TX4) (N := 6) hx hb hts in4 hown hK (va_one at_11) 0 rfl rfl 2 (by decide) (hts (.fieldLink RX4 18 "RiverModel$Model" "gateItems" "[I") (List.mem_of_getElem? (i := 2) rfl)) (fun _ h9 => h9) rfl dX4_gateOf_11 ?_
        refine lv_iload_n hx hb dX4_gateOf_14 rfl (lv_at hl 0 rfl) ?_
        obtain ⟨f_13, at_14⟩ := gF_o14 hG h_6
        have b_15 : vp_in yk 4 := (q_in (by omega) (by omega))
        refine va_iald hx hb hK (va_one at_14) 0 0 rfl rfl b_15 dX4_gateOf_15 ?_
        refine lv_topi (fun x_16 e_17 => ?_)
        refine lv_iload_n hx hb dX4_gateOf_16 rfl (lv_at hl 2 rfl) ?_
        refine lv_icmp_ne (tgt := 22) hx hb dX4_gateOf_17 (by decide) (fun c_18 => ?_) (fun c_18 => ?_)
        · skip
          have c_18 : x_16.toInt ≠ a1.toInt := q_ne c_18
          obtain ⟨x_19, e_20⟩ : ∃ y : Int32, y = yk + Int32.ofInt 1 := ⟨_, rfl⟩
          have i_x_19 : x_19.toInt = yk.toInt + 1 := by rw [e_20, show Int32.ofInt 1 = 1 by decide]; exact (q_add (by rw [show (1 : Int32).toInt = 1 by decide]; omega) (by rw [show (1 : Int32).toInt = 1 by decide]; omega)).trans (by rw [show (1 : Int32).toInt = 1 by decide])
          refine lv_iinc (v := x_19) (lv' := [(2, .int x_19), (0, .ref a0), (1, .int a1)]) hx hb dX4_gateOf_22 hl (k := 0) rfl e_20.symm (by decide) rfl (fun ls hl => ?_)
          refine lv_pc (pc2 := 25) rfl ?_
          refine lv_goto (tgt := 2) hx hb dX4_gateOf_25 (by decide) ?_
          exfalso; omega
        · skip
          have c_18 : x_16.toInt = a1.toInt := q_eq c_18
          refine lv_iload_n hx hb dX4_gateOf_20 rfl (lv_at hl 0 rfl) ?_
          exact ty_iret hx hb hr hlk hG hS True.intro dX4_gateOf_21
    | succ k ih =>
      intro yk H locs ls hk v0 v1 hG hS hl
      refine (hWW _ _ _).mpr ?_
      refine lv_iload_n hx hb dX4_gateOf_2 rfl (lv_at hl 0 rfl) ?_
      refine lv_aload_n hx hb dX4_gateOf_3 rfl (lv_at hl 1 rfl) ?_
      obtain ⟨r_21, r_23, r_25, v_27, v_28, v_29, at_31, h_22, h_24, h_26, h_30⟩ := gF_o3 hG k_a0
      refine va_get (D := D) (ci := 3) (v := .int v_29) (C := RX4) (T := TX4) (N := 6) hx hb hts in4 hown hK (va_one at_31) 0 rfl rfl 5 (by decide) (hts (.fieldLink RX4 28 "RiverModel$Model" "gates" "I") (List.mem_of_getElem? (i := 1) rfl)) (fun _ h9 => h9) rfl dX4_gateOf_4 ?_
      refine lv_icmp_ge (tgt := 28) hx hb dX4_gateOf_7 (by decide) (fun c_32 => ?_) (fun c_32 => ?_)
      · skip
        have c_32 : v_29.toInt ≤ yk.toInt := q_le c_32
        exact (hWW _ _ _).mp (kx yk H locs ls (by omega) (by omega) hG hS (lv_sub hl [0, 1, 2] rfl))
      · skip
        have c_32 : yk.toInt < v_29.toInt := q_nle c_32
        refine lv_aload_n hx hb dX4_gateOf_10 rfl (lv_at hl 1 rfl) ?_
        refine lv_pc (pc2 := 11) rfl ?_
        refine va_get (D := D) (ci := 3) (v := .ref r_25) (C := RX4) (T := TX4) (N := 6) hx hb hts in4 hown hK (va_one at_31) 0 rfl rfl 2 (by decide) (hts (.fieldLink RX4 18 "RiverModel$Model" "gateItems" "[I") (List.mem_of_getElem? (i := 2) rfl)) (fun _ h9 => h9) rfl dX4_gateOf_11 ?_
        refine lv_iload_n hx hb dX4_gateOf_14 rfl (lv_at hl 0 rfl) ?_
        obtain ⟨f_33, at_34⟩ := gF_o14 hG h_26
        have b_35 : vp_in yk 4 := (q_in (by omega) (by omega))
        refine va_iald hx hb hK (va_one at_34) 0 0 rfl rfl b_35 dX4_gateOf_15 ?_
        refine lv_topi (fun x_36 e_37 => ?_)
        refine lv_iload_n hx hb dX4_gateOf_16 rfl (lv_at hl 2 rfl) ?_
        refine lv_icmp_ne (tgt := 22) hx hb dX4_gateOf_17 (by decide) (fun c_38 => ?_) (fun c_38 => ?_)
        · skip
          have c_38 : x_36.toInt ≠ a1.toInt := q_ne c_38
          obtain ⟨x_39, e_40⟩ : ∃ y : Int32, y = yk + Int32.ofInt 1 := ⟨_, rfl⟩
          have i_x_39 : x_39.toInt = yk.toInt + 1 := by rw [e_40, show Int32.ofInt 1 = 1 by decide]; exact (q_add (by rw [show (1 : Int32).toInt = 1 by decide]; omega) (by rw [show (1 : Int32).toInt = 1 by decide]; omega)).trans (by rw [show (1 : Int32).toInt = 1 by decide])
          refine lv_iinc (v := x_39) (lv' := [(2, .int x_39), (0, .ref a0), (1, .int a1)]) hx hb dX4_gateOf_22 hl (k := 0) rfl e_40.symm (by decide) rfl (fun ls hl => ?_)
          refine lv_goto (tgt := 2) hx hb dX4_gateOf_25 (by decide) ?_
          exact (hWW _ _ _).mp (ih x_39 H locs ls (by omega) (by omega) (by omega) hG hS (lv_sub hl [0, 1, 2] rfl))
        · skip
          have c_38 : x_36.toInt = a1.toInt := q_eq c_38
          refine lv_iload_n hx hb dX4_gateOf_20 rfl (lv_at hl 0 rfl) ?_
          refine lv_pc (pc2 := 21) rfl ?_
          exact ty_iret hx hb hr hlk hG hS True.intro dX4_gateOf_21
  have hz_yk : (0 : Int32).toInt = 0 := by decide
  exact loop (4 - 0 : Int).toNat 0 H locs ls (by omega) (by omega) (by omega) hG hS (lv_sub hl [0, 1, 2] rfl)

def uX4_empty : List Cond := .code yX4_empty cX4_empty 1 none :: ([.fieldLink RX4 21 "RiverModel$Model" "many" "I", .fieldLink RX4 25 "RiverModel$Model" "stores" "I", .fieldLink RX4 28 "RiverModel$Model" "gates" "I", .fieldLink RX4 15 "RiverModel$Model" "storeItems" "[I", .methodLink RX4 31 yJ7_fill_53178, .static yJ7_fill_53178, .initialized RJ7, .fieldLink RX4 18 "RiverModel$Model" "gateItems" "[I", .code yJ7_fill_53178 cJ7_fill_53178 4 none] ++ wsX40)
set_option maxRecDepth 20000 in
theorem gu_X4_empty_J7_fill_53178_31 : GoodIn uX4_empty (va_wsS RX4 31 yJ7_fill_53178 wsJ7_fill_53178) := goodIn_r _ [5, 6, 7, 9] rfl (by decide +kernel)
set_option maxHeartbeats 4000000 in
set_option maxRecDepth 100000 in
theorem s_X4_empty (l : Launch) (D : va_G) (t : Nat → Nat) (cI cL cC : ClassId) (gC : Int32) (gE : Int32) (G : Nat) (gW : Nat → Int32) (gA : Nat → Int32) (a0 : Nat) (k_a0 : t a0 = 3) : tM l yX4_empty uX4_empty 1 23 D (gF cI cL cC gC gE G gW gA) (gF cI cL cC gC gE G gW gA) t cI cL cC [.ref a0] wrMo (pV (True)) := by
  refine tM.ofW (cc := cX4_empty) (maxL := 1) (ret := none) (by decide) rfl (Nat.le_of_ble_eq_true rfl) ?_
  intro p e s m below meth c hx hb hr hml hown hts hlk H locs hG hK hE hS ls hl
  have hl : lv_has ls 1 [(0, .ref a0)] := hl
  have in4 : ∀ w ∈ wsX40, w ∈ uX4_empty := fun w h => List.mem_cons_of_mem _ (List.mem_append_right _ h)
  refine lv_aload_n hx hb dX4_empty_0 rfl (lv_at hl 0 rfl) ?_
  refine lv_iconst (v := 0) hx hb dX4_empty_1 (by decide) ?_
  obtain ⟨r_1, r_3, r_5, v_7, v_8, v_9, at_11, h_2, h_4, h_6, h_10⟩ := gF_o3 hG k_a0
  refine ty_put (D := D) (ci := 3) (v := .int 0) (ty := .int) (C := RX4) (T := TX4) (N := 6) (F2 := (gF cI cL cC gC gE G gW gA)) hx hb hts in4 tyX4 tyX4_ok nmX4 hown hK hG hS at_11 (by rw [k_a0]; rfl) rfl 3 (by decide) (hts (.fieldLink RX4 21 "RiverModel$Model" "many" "I") (List.mem_of_getElem? (i := 1) rfl)) (fun _ h9 => h9) rfl (by decide +kernel) rfl rfl (Nat.le_of_ble_eq_true rfl) (by rw [k_a0]; exact ⟨r_1, r_3, r_5, 0, v_8, v_9, rfl, h_2, h_4, h_6, (by omega)⟩) tFF dX4_empty_2 (fun H locs hG hS at_12 o_13 => ?_)
  have at_12 : va_at D vwCl (a0, .inr (3, [.ref r_1, .ref r_3, .ref r_5, .int 0, .int v_8, .int v_9])) H := at_12
  refine lv_aload_n hx hb dX4_empty_5 rfl (lv_at hl 0 rfl) ?_
  refine lv_iconst (v := 0) hx hb dX4_empty_6 (by decide) ?_
  refine ty_put (D := D) (ci := 3) (v := .int 0) (ty := .int) (C := RX4) (T := TX4) (N := 6) (F2 := (gF cI cL cC gC gE G gW gA)) hx hb hts in4 tyX4 tyX4_ok nmX4 hown hK hG hS at_12 (by rw [k_a0]; rfl) rfl 4 (by decide) (hts (.fieldLink RX4 25 "RiverModel$Model" "stores" "I") (List.mem_of_getElem? (i := 2) rfl)) (fun _ h9 => h9) rfl (by decide +kernel) rfl rfl (Nat.le_of_ble_eq_true rfl) (by rw [k_a0]; exact ⟨r_1, r_3, r_5, 0, 0, v_9, rfl, h_2, h_4, h_6, (by omega)⟩) tFF dX4_empty_7 (fun H locs hG hS at_14 o_15 => ?_)
  have at_14 : va_at D vwCl (a0, .inr (3, [.ref r_1, .ref r_3, .ref r_5, .int 0, .int 0, .int v_9])) H := at_14
  refine lv_aload_n hx hb dX4_empty_10 rfl (lv_at hl 0 rfl) ?_
  refine lv_pc (pc2 := 11) rfl ?_
  refine lv_iconst (v := 0) hx hb dX4_empty_11 (by decide) ?_
  refine ty_put (D := D) (ci := 3) (v := .int 0) (ty := .int) (C := RX4) (T := TX4) (N := 6) (F2 := (gF cI cL cC gC gE G gW gA)) hx hb hts in4 tyX4 tyX4_ok nmX4 hown hK hG hS at_14 (by rw [k_a0]; rfl) rfl 5 (by decide) (hts (.fieldLink RX4 28 "RiverModel$Model" "gates" "I") (List.mem_of_getElem? (i := 3) rfl)) (fun _ h9 => h9) rfl (by decide +kernel) rfl rfl (Nat.le_of_ble_eq_true rfl) (by rw [k_a0]; exact ⟨r_1, r_3, r_5, 0, 0, 0, rfl, h_2, h_4, h_6, (by rw [show (0 : Int32).toInt = 0 by decide]; omega)⟩) tFF dX4_empty_12 (fun H locs hG hS at_16 o_17 => ?_)
  have at_16 : va_at D vwCl (a0, .inr (3, [.ref r_1, .ref r_3, .ref r_5, .int 0, .int 0, .int 0])) H := at_16
  refine lv_aload_n hx hb dX4_empty_15 rfl (lv_at hl 0 rfl) ?_
  refine va_get (D := D) (ci := 3) (v := .ref r_3) (C := RX4) (T := TX4) (N := 6) hx hb hts in4 hown hK (va_one at_16) 0 rfl rfl 1 (by decide) (hts (.fieldLink RX4 15 "RiverModel$Model" "storeItems" "[I") (List.mem_of_getElem? (i := 4) rfl)) (fun _ h9 => h9) rfl dX4_empty_16 ?_
  refine lv_bipush (v := (-4)) hx hb dX4_empty_19 (by decide) ?_
  obtain ⟨f_18, at_19⟩ := gF_o13 hG h_4
  refine nw_row (W.runS (As := [.ref r_3, .int (-4)]) (rest := []) ⟨hx, hb, hml, hown, hts⟩ (c_fillI l D cI cL cC r_3 16 f_18 (-4) (by decide)) (va_cwS 2 hts gu_X4_empty_J7_fill_53178_31 rfl rfl rfl (by decide +kernel) ⟨Nat.le_of_ble_eq_true rfl, Nat.le_of_ble_eq_true rfl⟩) (rP_S at_19 hE) rfl rfl hl.1 rfl (lv_room (Nat.le_of_ble_eq_true rfl)) dX4_empty_21 ⟨Nat.le_of_ble_eq_true rfl, Nat.le_of_ble_eq_true rfl⟩) (fun H L ee hp at_25 hz_23 o_21 hL_24 => ?_)
  obtain ⟨g_20, rfl, hg_22⟩ := hp
  replace hG : tG D (gF cI cL cC gC gE G gW gA) t H := tG.set hG at_25 (by rw [h_4]; exact ⟨_, rfl⟩) o_21
  replace hS := tF.row hS hz_23 o_21 hL_24 (by rw [h_4]; rfl)
  generalize _ ++ L = locs at hS ⊢
  have at_16 := va_at.keptK at_16 o_21 h_4 k_a0 rfl
  refine lv_aload_n hx hb dX4_empty_24 rfl (lv_at hl 0 rfl) ?_
  refine va_get (D := D) (ci := 3) (v := .ref r_5) (C := RX4) (T := TX4) (N := 6) hx hb hts in4 hown hK (va_one at_16) 0 rfl rfl 2 (by decide) (hts (.fieldLink RX4 18 "RiverModel$Model" "gateItems" "[I") (List.mem_of_getElem? (i := 8) rfl)) (fun _ h9 => h9) rfl dX4_empty_25 ?_
  refine lv_pc (pc2 := 28) rfl ?_
  refine lv_bipush (v := (-4)) hx hb dX4_empty_28 (by decide) ?_
  obtain ⟨f_26, at_27⟩ := gF_o14 hG h_6
  refine nw_row (W.runS (As := [.ref r_5, .int (-4)]) (rest := []) ⟨hx, hb, hml, hown, hts⟩ (c_fillI l D cI cL cC r_5 4 f_26 (-4) (by decide)) (va_cwS 2 hts gu_X4_empty_J7_fill_53178_31 rfl rfl rfl (by decide +kernel) ⟨Nat.le_of_ble_eq_true rfl, Nat.le_of_ble_eq_true rfl⟩) (rP_S at_27 hE) rfl rfl hl.1 rfl (lv_room (Nat.le_of_ble_eq_true rfl)) dX4_empty_30 ⟨Nat.le_of_ble_eq_true rfl, Nat.le_of_ble_eq_true rfl⟩) (fun H L ee hp at_33 hz_31 o_29 hL_32 => ?_)
  obtain ⟨g_28, rfl, hg_30⟩ := hp
  replace hG : tG D (gF cI cL cC gC gE G gW gA) t H := tG.set hG at_33 (by rw [h_6]; exact ⟨_, rfl⟩) o_29
  replace hS := tF.row hS hz_31 o_29 hL_32 (by rw [h_6]; rfl)
  generalize _ ++ L = locs at hS ⊢
  have at_16 := va_at.keptK at_16 o_29 h_6 k_a0 rfl
  exact ty_vret hx hb hr hlk hG hS True.intro dX4_empty_33

def uX4_copyFrom : List Cond := .code yX4_copyFrom cX4_copyFrom 2 none :: ([.fieldLink RX4 9 "RiverModel$Model" "cells" "[I", .methodLink RX4 37 arraycopyName, .native arraycopyName, .static arraycopyName, .initialized "java/lang/System", .fieldLink RX4 15 "RiverModel$Model" "storeItems" "[I", .fieldLink RX4 18 "RiverModel$Model" "gateItems" "[I", .fieldLink RX4 21 "RiverModel$Model" "many" "I", .fieldLink RX4 25 "RiverModel$Model" "stores" "I", .fieldLink RX4 28 "RiverModel$Model" "gates" "I"] ++ wsX40)
set_option maxHeartbeats 4000000 in
set_option maxRecDepth 100000 in
theorem s_X4_copyFrom (l : Launch) (D : va_G) (t : Nat → Nat) (cI cL cC : ClassId) (gC : Int32) (gE : Int32) (G : Nat) (gW : Nat → Int32) (gA : Nat → Int32) (a0 : Nat) (a1 : Nat) (k_a0 : t a0 = 3) (k_a1 : t a1 = 3) : tM l yX4_copyFrom uX4_copyFrom 1 60 D (gF cI cL cC gC gE G gW gA) (gF cI cL cC gC gE G gW gA) t cI cL cC [.ref a0, .ref a1] wrMo (pV (True)) := by
  refine tM.ofW (cc := cX4_copyFrom) (maxL := 2) (ret := none) (by decide) rfl (Nat.le_of_ble_eq_true rfl) ?_
  intro p e s m below meth c hx hb hr hml hown hts hlk H locs hG hK hE hS ls hl
  have hl : lv_has ls 2 [(0, .ref a0), (1, .ref a1)] := hl
  have in4 : ∀ w ∈ wsX40, w ∈ uX4_copyFrom := fun w h => List.mem_cons_of_mem _ (List.mem_append_right _ h)
  refine lv_aload_n hx hb dX4_copyFrom_0 rfl (lv_at hl 1 rfl) ?_
  obtain ⟨r_1, r_3, r_5, v_7, v_8, v_9, at_11, h_2, h_4, h_6, h_10⟩ := gF_o3 hG k_a1
  refine va_get (D := D) (ci := 3) (v := .ref r_1) (C := RX4) (T := TX4) (N := 6) hx hb hts in4 hown hK (va_one at_11) 0 rfl rfl 0 (by decide) (hts (.fieldLink RX4 9 "RiverModel$Model" "cells" "[I") (List.mem_of_getElem? (i := 1) rfl)) (fun _ h9 => h9) rfl dX4_copyFrom_1 ?_
  refine lv_iconst (v := 0) hx hb dX4_copyFrom_4 (by decide) ?_
  refine lv_aload_n hx hb dX4_copyFrom_5 rfl (lv_at hl 0 rfl) ?_
  obtain ⟨r_12, r_14, r_16, v_18, v_19, v_20, at_22, h_13, h_15, h_17, h_21⟩ := gF_o3 hG k_a0
  refine va_get (D := D) (ci := 3) (v := .ref r_12) (C := RX4) (T := TX4) (N := 6) hx hb hts in4 hown hK (va_one at_22) 0 rfl rfl 0 (by decide) (hts (.fieldLink RX4 9 "RiverModel$Model" "cells" "[I") (List.mem_of_getElem? (i := 1) rfl)) (fun _ h9 => h9) rfl dX4_copyFrom_6 ?_
  refine lv_iconst (v := 0) hx hb dX4_copyFrom_9 (by decide) ?_
  refine lv_aload_n hx hb dX4_copyFrom_10 rfl (lv_at hl 0 rfl) ?_
  refine lv_pc (pc2 := 11) rfl ?_
  refine va_get (D := D) (ci := 3) (v := .ref r_12) (C := RX4) (T := TX4) (N := 6) hx hb hts in4 hown hK (va_one at_22) 0 rfl rfl 0 (by decide) (hts (.fieldLink RX4 9 "RiverModel$Model" "cells" "[I") (List.mem_of_getElem? (i := 1) rfl)) (fun _ h9 => h9) rfl dX4_copyFrom_11 ?_
  obtain ⟨f_23, at_24⟩ := gF_o12 hG h_13
  refine va_alen (v := 240) hx hb hK (va_one at_24) 0 0 rfl rfl rfl dX4_copyFrom_14 ?_
  obtain ⟨f_25, at_26⟩ := gF_o12 hG h_2
  refine ty_copyi hx hb (by rw [hml]; exact hl.1.symm) hown (hts (.methodLink RX4 37 arraycopyName) (List.mem_of_getElem? (i := 2) rfl)) (hts (.native arraycopyName) (List.mem_of_getElem? (i := 3) rfl)) (hts (.static arraycopyName) (List.mem_of_getElem? (i := 4) rfl)) (hts (.initialized "java/lang/System") (List.mem_of_getElem? (i := 5) rfl)) hK at_26 at_24 (by decide) (by decide) (by decide) (by decide) (by decide) (Nat.le_of_ble_eq_true rfl) (Nat.le_of_ble_eq_true rfl) dX4_copyFrom_15 (fun H L at_27 hz_29 o_28 hL_30 => ?_)
  replace hG : tG D (gF cI cL cC gC gE G gW gA) t H := tG.set hG at_27 (by rw [h_13]; exact ⟨_, rfl⟩) o_28
  replace hS := tF.row hS hz_29 o_28 hL_30 (by rw [h_13]; rfl)
  generalize _ ++ L = locs at hS ⊢
  have at_11 := va_at.keptK at_11 o_28 h_13 k_a1 rfl
  have at_22 := va_at.keptK at_22 o_28 h_13 k_a0 rfl
  refine lv_aload_n hx hb dX4_copyFrom_18 rfl (lv_at hl 1 rfl) ?_
  refine va_get (D := D) (ci := 3) (v := .ref r_3) (C := RX4) (T := TX4) (N := 6) hx hb hts in4 hown hK (va_one at_11) 0 rfl rfl 1 (by decide) (hts (.fieldLink RX4 15 "RiverModel$Model" "storeItems" "[I") (List.mem_of_getElem? (i := 6) rfl)) (fun _ h9 => h9) rfl dX4_copyFrom_19 ?_
  refine lv_iconst (v := 0) hx hb dX4_copyFrom_22 (by decide) ?_
  refine lv_aload_n hx hb dX4_copyFrom_23 rfl (lv_at hl 0 rfl) ?_
  refine va_get (D := D) (ci := 3) (v := .ref r_14) (C := RX4) (T := TX4) (N := 6) hx hb hts in4 hown hK (va_one at_22) 0 rfl rfl 1 (by decide) (hts (.fieldLink RX4 15 "RiverModel$Model" "storeItems" "[I") (List.mem_of_getElem? (i := 6) rfl)) (fun _ h9 => h9) rfl dX4_copyFrom_24 ?_
  refine lv_pc (pc2 := 27) rfl ?_
  refine lv_iconst (v := 0) hx hb dX4_copyFrom_27 (by decide) ?_
  refine lv_bipush (v := 16) hx hb dX4_copyFrom_28 (by decide) ?_
  obtain ⟨f_31, at_32⟩ := gF_o13 hG h_4
  obtain ⟨f_33, at_34⟩ := gF_o13 hG h_15
  refine ty_copyi hx hb (by rw [hml]; exact hl.1.symm) hown (hts (.methodLink RX4 37 arraycopyName) (List.mem_of_getElem? (i := 2) rfl)) (hts (.native arraycopyName) (List.mem_of_getElem? (i := 3) rfl)) (hts (.static arraycopyName) (List.mem_of_getElem? (i := 4) rfl)) (hts (.initialized "java/lang/System") (List.mem_of_getElem? (i := 5) rfl)) hK at_32 at_34 (by decide) (by decide) (by decide) (by decide) (by decide) (Nat.le_of_ble_eq_true rfl) (Nat.le_of_ble_eq_true rfl) dX4_copyFrom_30 (fun H L at_35 hz_37 o_36 hL_38 => ?_)
  replace hG : tG D (gF cI cL cC gC gE G gW gA) t H := tG.set hG at_35 (by rw [h_15]; exact ⟨_, rfl⟩) o_36
  replace hS := tF.row hS hz_37 o_36 hL_38 (by rw [h_15]; rfl)
  generalize _ ++ L = locs at hS ⊢
  have at_11 := va_at.keptK at_11 o_36 h_15 k_a1 rfl
  have at_22 := va_at.keptK at_22 o_36 h_15 k_a0 rfl
  refine lv_aload_n hx hb dX4_copyFrom_33 rfl (lv_at hl 1 rfl) ?_
  refine va_get (D := D) (ci := 3) (v := .ref r_5) (C := RX4) (T := TX4) (N := 6) hx hb hts in4 hown hK (va_one at_11) 0 rfl rfl 2 (by decide) (hts (.fieldLink RX4 18 "RiverModel$Model" "gateItems" "[I") (List.mem_of_getElem? (i := 7) rfl)) (fun _ h9 => h9) rfl dX4_copyFrom_34 ?_
  refine lv_iconst (v := 0) hx hb dX4_copyFrom_37 (by decide) ?_
  refine lv_aload_n hx hb dX4_copyFrom_38 rfl (lv_at hl 0 rfl) ?_
  refine va_get (D := D) (ci := 3) (v := .ref r_16) (C := RX4) (T := TX4) (N := 6) hx hb hts in4 hown hK (va_one at_22) 0 rfl rfl 2 (by decide) (hts (.fieldLink RX4 18 "RiverModel$Model" "gateItems" "[I") (List.mem_of_getElem? (i := 7) rfl)) (fun _ h9 => h9) rfl dX4_copyFrom_39 ?_
  refine lv_pc (pc2 := 42) rfl ?_
  refine lv_iconst (v := 0) hx hb dX4_copyFrom_42 (by decide) ?_
  refine lv_iconst (v := 4) hx hb dX4_copyFrom_43 (by decide) ?_
  obtain ⟨f_39, at_40⟩ := gF_o14 hG h_6
  obtain ⟨f_41, at_42⟩ := gF_o14 hG h_17
  refine ty_copyi hx hb (by rw [hml]; exact hl.1.symm) hown (hts (.methodLink RX4 37 arraycopyName) (List.mem_of_getElem? (i := 2) rfl)) (hts (.native arraycopyName) (List.mem_of_getElem? (i := 3) rfl)) (hts (.static arraycopyName) (List.mem_of_getElem? (i := 4) rfl)) (hts (.initialized "java/lang/System") (List.mem_of_getElem? (i := 5) rfl)) hK at_40 at_42 (by decide) (by decide) (by decide) (by decide) (by decide) (Nat.le_of_ble_eq_true rfl) (Nat.le_of_ble_eq_true rfl) dX4_copyFrom_44 (fun H L at_43 hz_45 o_44 hL_46 => ?_)
  replace hG : tG D (gF cI cL cC gC gE G gW gA) t H := tG.set hG at_43 (by rw [h_17]; exact ⟨_, rfl⟩) o_44
  replace hS := tF.row hS hz_45 o_44 hL_46 (by rw [h_17]; rfl)
  generalize _ ++ L = locs at hS ⊢
  have at_11 := va_at.keptK at_11 o_44 h_17 k_a1 rfl
  have at_22 := va_at.keptK at_22 o_44 h_17 k_a0 rfl
  refine lv_aload_n hx hb dX4_copyFrom_47 rfl (lv_at hl 0 rfl) ?_
  refine lv_aload_n hx hb dX4_copyFrom_48 rfl (lv_at hl 1 rfl) ?_
  refine va_get (D := D) (ci := 3) (v := .int v_7) (C := RX4) (T := TX4) (N := 6) hx hb hts in4 hown hK (va_one at_11) 0 rfl rfl 3 (by decide) (hts (.fieldLink RX4 21 "RiverModel$Model" "many" "I") (List.mem_of_getElem? (i := 8) rfl)) (fun _ h9 => h9) rfl dX4_copyFrom_49 ?_
  refine ty_put (D := D) (ci := 3) (v := .int v_7) (ty := .int) (C := RX4) (T := TX4) (N := 6) (F2 := (gF cI cL cC gC gE G gW gA)) hx hb hts in4 tyX4 tyX4_ok nmX4 hown hK hG hS at_22 (by rw [k_a0]; rfl) rfl 3 (by decide) (hts (.fieldLink RX4 21 "RiverModel$Model" "many" "I") (List.mem_of_getElem? (i := 8) rfl)) (fun _ h9 => h9) rfl (by decide +kernel) rfl rfl (Nat.le_of_ble_eq_true rfl) (by rw [k_a0]; exact ⟨r_12, r_14, r_16, v_7, v_19, v_20, rfl, h_13, h_15, h_17, (by omega)⟩) tFF dX4_copyFrom_52 (fun H locs hG hS at_47 o_48 => ?_)
  have at_47 : va_at D vwCl (a0, .inr (3, [.ref r_12, .ref r_14, .ref r_16, .int v_7, .int v_19, .int v_20])) H := at_47
  refine lv_aload_n hx hb dX4_copyFrom_55 rfl (lv_at hl 0 rfl) ?_
  refine lv_pc (pc2 := 56) rfl ?_
  refine lv_aload_n hx hb dX4_copyFrom_56 rfl (lv_at hl 1 rfl) ?_
  obtain ⟨r_49, r_51, r_53, v_55, v_56, v_57, at_59, h_50, h_52, h_54, h_58⟩ := gF_o3 hG k_a1
  refine va_get (D := D) (ci := 3) (v := .int v_56) (C := RX4) (T := TX4) (N := 6) hx hb hts in4 hown hK (va_one at_59) 0 rfl rfl 4 (by decide) (hts (.fieldLink RX4 25 "RiverModel$Model" "stores" "I") (List.mem_of_getElem? (i := 9) rfl)) (fun _ h9 => h9) rfl dX4_copyFrom_57 ?_
  refine ty_put (D := D) (ci := 3) (v := .int v_56) (ty := .int) (C := RX4) (T := TX4) (N := 6) (F2 := (gF cI cL cC gC gE G gW gA)) hx hb hts in4 tyX4 tyX4_ok nmX4 hown hK hG hS at_47 (by rw [k_a0]; rfl) rfl 4 (by decide) (hts (.fieldLink RX4 25 "RiverModel$Model" "stores" "I") (List.mem_of_getElem? (i := 9) rfl)) (fun _ h9 => h9) rfl (by decide +kernel) rfl rfl (Nat.le_of_ble_eq_true rfl) (by rw [k_a0]; exact ⟨r_12, r_14, r_16, v_7, v_56, v_20, rfl, h_13, h_15, h_17, (by omega)⟩) tFF dX4_copyFrom_60 (fun H locs hG hS at_60 o_61 => ?_)
  have at_60 : va_at D vwCl (a0, .inr (3, [.ref r_12, .ref r_14, .ref r_16, .int v_7, .int v_56, .int v_20])) H := at_60
  refine lv_aload_n hx hb dX4_copyFrom_63 rfl (lv_at hl 0 rfl) ?_
  refine lv_aload_n hx hb dX4_copyFrom_64 rfl (lv_at hl 1 rfl) ?_
  obtain ⟨r_62, r_64, r_66, v_68, v_69, v_70, at_72, h_63, h_65, h_67, h_71⟩ := gF_o3 hG k_a1
  refine va_get (D := D) (ci := 3) (v := .int v_70) (C := RX4) (T := TX4) (N := 6) hx hb hts in4 hown hK (va_one at_72) 0 rfl rfl 5 (by decide) (hts (.fieldLink RX4 28 "RiverModel$Model" "gates" "I") (List.mem_of_getElem? (i := 10) rfl)) (fun _ h9 => h9) rfl dX4_copyFrom_65 ?_
  refine ty_put (D := D) (ci := 3) (v := .int v_70) (ty := .int) (C := RX4) (T := TX4) (N := 6) (F2 := (gF cI cL cC gC gE G gW gA)) hx hb hts in4 tyX4 tyX4_ok nmX4 hown hK hG hS at_60 (by rw [k_a0]; rfl) rfl 5 (by decide) (hts (.fieldLink RX4 28 "RiverModel$Model" "gates" "I") (List.mem_of_getElem? (i := 10) rfl)) (fun _ h9 => h9) rfl (by decide +kernel) rfl rfl (Nat.le_of_ble_eq_true rfl) (by rw [k_a0]; exact ⟨r_12, r_14, r_16, v_7, v_56, v_70, rfl, h_13, h_15, h_17, (by omega)⟩) tFF dX4_copyFrom_68 (fun H locs hG hS at_73 o_74 => ?_)
  have at_73 : va_at D vwCl (a0, .inr (3, [.ref r_12, .ref r_14, .ref r_16, .int v_7, .int v_56, .int v_70])) H := at_73
  exact ty_vret hx hb hr hlk hG hS True.intro dX4_copyFrom_71

def uX7_readInto : List Cond := .code yX7_readInto cX7_readInto 4 (some .int) :: ([.methodLink RX7 25 yX4_empty, .instanceMethod yX4_empty, .selects RX4 yX4_empty yX4_empty, .initialized RX4, .fieldLink RX7 22 "RiverModel$Text" "at" "I", .fieldLink RX7 18 "RiverModel$Text" "length" "I", .methodLink RX7 30 yX7_readItem, .instanceMethod yX7_readItem, .selects RX7 yX7_readItem yX7_readItem, .initialized RX7, .fieldLink RX7 15 "RiverModel$Text" "row" "[I", .methodLink RX7 34 yX4_mayFollow, .instanceMethod yX4_mayFollow, .selects RX4 yX4_mayFollow yX4_mayFollow, .methodLink RX7 38 yX4_add, .instanceMethod yX4_add, .selects RX4 yX4_add yX4_add, .code yX4_empty cX4_empty 1 none, .fieldLink RX4 21 "RiverModel$Model" "many" "I", .fieldLink RX4 25 "RiverModel$Model" "stores" "I", .fieldLink RX4 28 "RiverModel$Model" "gates" "I", .fieldLink RX4 15 "RiverModel$Model" "storeItems" "[I", .methodLink RX4 31 yJ7_fill_53178, .static yJ7_fill_53178, .initialized RJ7, .fieldLink RX4 18 "RiverModel$Model" "gateItems" "[I", .code yJ7_fill_53178 cJ7_fill_53178 4 none, .code yX7_readItem cX7_readItem 5 (some .boolean), .methodLink RX7 42 yJ7_fill_53178, .methodLink RX7 48 yX7_nextByte, .instanceMethod yX7_nextByte, .selects RX7 yX7_nextByte yX7_nextByte, .methodLink RX7 52 yX2_namesOf, .static yX2_namesOf, .initialized RX2, .methodLink RX7 62 yX2_numbersOf, .static yX2_numbersOf, .methodLink RX7 65 yX7_readNumber, .instanceMethod yX7_readNumber, .selects RX7 yX7_readNumber yX7_readNumber, .methodLink RX7 58 yX7_readName, .instanceMethod yX7_readName, .selects RX7 yX7_readName yX7_readName, .code yX7_nextByte cX7_nextByte 1 (some .int), .fieldLink RX7 9 "RiverModel$Text" "bytes" "[I", .code yX2_namesOf cX2_namesOf 1 (some .int), .code yX2_numbersOf cX2_numbersOf 1 (some .int), .code yX7_readNumber cX7_readNumber 4 (some .boolean), .methodLink RX7 71 yX7_isAtFigure, .instanceMethod yX7_isAtFigure, .selects RX7 yX7_isAtFigure yX7_isAtFigure, .code yX7_isAtFigure cX7_isAtFigure 1 (some .boolean), .initialized RX9, .static yX9_isOutside, .code yX9_isOutside cX9_isOutside 3 (some .boolean), .code yX7_readName cX7_readName 3 (some .boolean), .static yX9_isNoStore, .code yX9_isNoStore cX9_isNoStore 1 (some .boolean), .code yX4_mayFollow cX4_mayFollow 2 (some .boolean), .methodLink RX4 62 yX4_areNumbersAsTold, .static yX4_areNumbersAsTold, .methodLink RX4 69 yX4_areNamesAhead, .instanceMethod yX4_areNamesAhead, .selects RX4 yX4_areNamesAhead yX4_areNamesAhead, .methodLink RX4 66 yX4_hasStore, .instanceMethod yX4_hasStore, .selects RX4 yX4_hasStore yX4_hasStore, .code yX4_areNumbersAsTold cX4_areNumbersAsTold 1 (some .boolean), .methodLink RX4 77 yX2_areNumbersAsTold, .static yX2_areNumbersAsTold, .code yX2_areNumbersAsTold cX2_areNumbersAsTold 4 (some .boolean), .methodLink RX2 10 yX2_isUpTo, .static yX2_isUpTo, .constant RX2 9 (1000000), .code yX2_isUpTo cX2_isUpTo 2 (some .boolean), .code yX4_areNamesAhead cX4_areNamesAhead 5 (some .boolean), .methodLink RX4 82 yX4_isStoreAhead, .instanceMethod yX4_isStoreAhead, .selects RX4 yX4_isStoreAhead yX4_isStoreAhead, .code yX4_isStoreAhead cX4_isStoreAhead 3 (some .boolean), .code yX4_hasStore cX4_hasStore 2 (some .boolean), .code yX4_add cX4_add 2 none, .methodLink RX4 55 yX4_put, .instanceMethod yX4_put, .selects RX4 yX4_put yX4_put, .code yX4_put cX4_put 4 none, .methodLink RX4 51 yX4_putCell, .instanceMethod yX4_putCell, .selects RX4 yX4_putCell yX4_putCell, .code yX4_putCell cX4_putCell 4 none, .static yX9_isNoItem, .fieldLink RX4 9 "RiverModel$Model" "cells" "[I", .code yX9_isNoItem cX9_isNoItem 1 (some .boolean)] ++ wsX70 ++ wsX40)
set_option maxRecDepth 20000 in
theorem gu_X7_readInto_X4_empty_25 : GoodIn uX7_readInto (wsV RX7 25 RX4 yX4_empty uX4_empty) := goodIn_r _ [1, 2, 3, 4, 18, 19, 20, 21, 22, 23, 24, 25, 26, 27, 98, 99, 100, 101, 102, 103] rfl (by decide +kernel)
set_option maxRecDepth 20000 in
theorem gu_X7_readInto_X7_readItem_30 : GoodIn uX7_readInto (wsV RX7 30 RX7 yX7_readItem uX7_readItem) := goodIn_r _ [7, 8, 9, 10, 28, 11, 29, 24, 25, 30, 31, 32, 10, 33, 34, 35, 36, 37, 38, 39, 40, 41, 42, 43, 27, 44, 5, 6, 45, 46, 47, 48, 49, 50, 51, 52, 53, 54, 55, 56, 57, 58, 94, 95, 96, 97] rfl (by decide +kernel)
set_option maxRecDepth 20000 in
theorem gu_X7_readInto_X4_mayFollow_34 : GoodIn uX7_readInto (wsV RX7 34 RX4 yX4_mayFollow uX4_mayFollow) := goodIn_r _ [12, 13, 14, 4, 59, 60, 61, 4, 19, 62, 63, 64, 21, 65, 66, 67, 68, 69, 70, 35, 71, 72, 73, 74, 75, 76, 77, 78, 79, 80, 22, 81, 98, 99, 100, 101, 102, 103] rfl (by decide +kernel)
set_option maxRecDepth 20000 in
theorem gu_X7_readInto_X4_add_38 : GoodIn uX7_readInto (wsV RX7 38 RX4 yX4_add uX4_add) := goodIn_r _ [15, 16, 17, 4, 82, 19, 83, 84, 85, 4, 21, 26, 53, 57, 22, 20, 86, 87, 88, 89, 90, 91, 54, 92, 93, 55, 58, 98, 99, 100, 101, 102, 103] rfl (by decide +kernel)
set_option maxHeartbeats 4000000 in
set_option maxRecDepth 100000 in
theorem s_X7_readInto (l : Launch) (D : va_G) (t : Nat → Nat) (cI cL cC : ClassId) (gC : Int32) (gE : Int32) (G : Nat) (gW : Nat → Int32) (gA : Nat → Int32) (a0 : Nat) (a1 : Nat) (k_a0 : t a0 = 2) (k_a1 : t a1 = 3) : tM l yX7_readInto uX7_readInto 4 89 D (gF cI cL cC gC gE G gW gA) (gF cI cL cC gC gE G gW gA) t cI cL cC [.ref a0, .ref a1] wrTM (pI (fun r => True)) := by
  refine tM.ofW (cc := cX7_readInto) (maxL := 4) (ret := (some .int)) (by decide) rfl (Nat.le_of_ble_eq_true rfl) ?_
  intro p e s m below meth c hx hb hr hml hown hts hlk H locs hG hK hE hS ls hl
  have hl : lv_has ls 4 [(0, .ref a0), (1, .ref a1)] := hl
  have in7 : ∀ w ∈ wsX70, w ∈ uX7_readInto := fun w h => List.mem_cons_of_mem _ (List.mem_append_left _ (List.mem_append_right _ h))
  refine lv_aload_n hx hb dX7_readInto_0 rfl (lv_at hl 1 rfl) ?_
  obtain ⟨r_1, r_3, r_5, v_7, v_8, v_9, at_11, h_2, h_4, h_6, h_10⟩ := gF_o3 hG k_a1
  refine ty_callv ((W.runV (As := []) (rest := []) ⟨hx, hb, hml, hown, hts⟩ (s_X4_empty l D t cI cL cC gC gE G gW gA a1 k_a1) (cwV 0 hts gu_X7_readInto_X4_empty_25 rfl rfl rfl (by decide +kernel) ⟨Nat.le_of_ble_eq_true rfl, Nat.le_of_ble_eq_true rfl⟩) (tP_V hG hE at_11 rfl) rfl rfl hl.1 rfl (lv_room (Nat.le_of_ble_eq_true rfl)) dX7_readInto_1 ⟨Nat.le_of_ble_eq_true rfl, Nat.le_of_ble_eq_true rfl⟩)) hS (wrL_sub (by decide)) (fun H locs hp_13 hG hS o_14 => ?_)
  refine lv_aload_n hx hb dX7_readInto_4 rfl (lv_at hl 0 rfl) ?_
  refine lv_iconst (v := 0) hx hb dX7_readInto_5 (by decide) ?_
  obtain ⟨r_15, r_17, v_19, at_21, h_16, h_18, h_20⟩ := gF_o2 hG k_a0
  refine ty_put (D := D) (ci := 6) (v := .int 0) (ty := .int) (C := RX7) (T := TX7) (N := 4) (F2 := (gF cI cL cC gC gE G gW gA)) hx hb hts in7 tyX7 tyX7_ok nmX7 hown hK hG hS at_21 (by rw [k_a0]; rfl) rfl 3 (by decide) (hts (.fieldLink RX7 22 "RiverModel$Text" "at" "I") (List.mem_of_getElem? (i := 5) rfl)) (fun _ h9 => h9) rfl (by decide +kernel) rfl rfl (Nat.le_of_ble_eq_true rfl) (by rw [k_a0]; exact ⟨r_15, r_17, 0, rfl, h_16, h_18, (by rw [show (0 : Int32).toInt = 0 by decide]; omega)⟩) tFF dX7_readInto_6 (fun H locs hG hS at_22 o_23 => ?_)
  have at_22 : va_at D vwCl (a0, .inr (6, [.ref r_15, .ref r_17, .int gC, .int 0])) H := at_22
  refine lv_iconst (v := 0) hx hb dX7_readInto_9 (by decide) ?_
  refine lv_istore_n (lv' := [(2, .int 0), (0, .ref a0), (1, .ref a1)]) hx hb dX7_readInto_10 rfl hl (by decide) rfl (fun ls hl => ?_)
  refine lv_pc (pc2 := 11) rfl ?_
  refine lp_gen (fun WW hWW => ?_)
  have kx : ∀ (yk : Int32) (H1 : Heap) (locs1 : List Loc) (ls1 : Array Slot), 0 ≤ yk.toInt → yk.toInt ≤ 41 → tG D (gF cI cL cC gC gE G gW gA) t H1 → tF t wrTM s.heap H1 locs1 → lv_has ls1 4 [(2, .int yk), (0, .ref a0), (1, .ref a1)] → WW H1 locs1 (F0 m 73 ls1 []) := by
    intro yk H locs ls v0 v1 hG hS hl
    refine (hWW _ _ _).mpr ?_
    refine lv_pc (pc2 := 73) rfl ?_
    refine lv_bipush (v := (-4)) hx hb dX7_readInto_73 (by decide) ?_
    exact ty_iret hx hb hr hlk hG hS True.intro dX7_readInto_75
  have loop : ∀ (k : Nat) (yk : Int32) (H1 : Heap) (locs1 : List Loc) (ls1 : Array Slot), 41 - yk.toInt ≤ (k : Int) → 0 ≤ yk.toInt → yk.toInt ≤ 41 → tG D (gF cI cL cC gC gE G gW gA) t H1 → tF t wrTM s.heap H1 locs1 → lv_has ls1 4 [(2, .int yk), (0, .ref a0), (1, .ref a1)] → WW H1 locs1 (F0 m 11 ls1 []) := by
    intro k
    induction k with
    | zero =>
      intro yk H locs ls hk v0 v1 hG hS hl
      refine (hWW _ _ _).mpr ?_
      refine lv_iload_n hx hb dX7_readInto_11 rfl (lv_at hl 0 rfl) ?_
      refine lv_bipush (v := 40) hx hb dX7_readInto_12 (by decide) ?_
      refine lv_icmp_gt (tgt := 73) hx hb dX7_readInto_14 (by decide) (fun c_24 => ?_) (fun c_24 => ?_)
      · skip
        have c_24 : 40 < yk.toInt := q_lt c_24
        exact (hWW _ _ _).mp (kx yk H locs ls (by omega) (by omega) hG hS (lv_sub hl [0, 1, 2] rfl))
      · skip
        have c_24 : yk.toInt ≤ 40 := q_nlt c_24
        refine lv_aload_n hx hb dX7_readInto_17 rfl (lv_at hl 1 rfl) ?_
        obtain ⟨r_25, r_27, v_29, at_31, h_26, h_28, h_30⟩ := gF_o2 hG k_a0
        refine va_get (D := D) (ci := 6) (v := .int v_29) (C := RX7) (T := TX7) (N := 4) hx hb hts in7 hown hK (va_one at_31) 0 rfl rfl 3 (by decide) (hts (.fieldLink RX7 22 "RiverModel$Text" "at" "I") (List.mem_of_getElem? (i := 5) rfl)) (fun _ h9 => h9) rfl dX7_readInto_18 ?_
        refine lv_aload_n hx hb dX7_readInto_21 rfl (lv_at hl 1 rfl) ?_
        refine lv_pc (pc2 := 22) rfl ?_
        refine va_get (D := D) (ci := 6) (v := .int gC) (C := RX7) (T := TX7) (N := 4) hx hb hts in7 hown hK (va_one at_31) 0 rfl rfl 2 (by decide) (hts (.fieldLink RX7 18 "RiverModel$Text" "length" "I") (List.mem_of_getElem? (i := 6) rfl)) (fun _ h9 => h9) rfl dX7_readInto_22 ?_
        refine lv_icmp_ge (tgt := 73) hx hb dX7_readInto_25 (by decide) (fun c_32 => ?_) (fun c_32 => ?_)
        · skip
          have c_32 : gC.toInt ≤ v_29.toInt := q_le c_32
          exact (hWW _ _ _).mp (kx yk H locs ls (by omega) (by omega) hG hS (lv_sub hl [0, 1, 2] rfl))
        · skip
          have c_32 : v_29.toInt < gC.toInt := q_nle c_32
          refine lv_aload_n hx hb dX7_readInto_28 rfl (lv_at hl 1 rfl) ?_
          refine va_get (D := D) (ci := 6) (v := .int v_29) (C := RX7) (T := TX7) (N := 4) hx hb hts in7 hown hK (va_one at_31) 0 rfl rfl 3 (by decide) (hts (.fieldLink RX7 22 "RiverModel$Text" "at" "I") (List.mem_of_getElem? (i := 5) rfl)) (fun _ h9 => h9) rfl dX7_readInto_29 ?_
          refine lv_istore_n (lv' := [(3, .int v_29), (2, .int yk), (0, .ref a0), (1, .ref a1)]) hx hb dX7_readInto_32 rfl hl (by decide) rfl (fun ls hl => ?_)
          refine lv_iload_n hx hb dX7_readInto_33 rfl (lv_at hl 1 rfl) ?_
          refine lv_bipush (v := 40) hx hb dX7_readInto_34 (by decide) ?_
          refine lv_icmp_eq (tgt := 57) hx hb dX7_readInto_36 (by decide) (fun c_33 => ?_) (fun c_33 => ?_)
          · skip
            have c_33 : yk.toInt = 40 := q_eq c_33
            refine lv_pc (pc2 := 57) rfl ?_
            refine lv_iload_n hx hb dX7_readInto_57 rfl (lv_at hl 0 rfl) ?_
            exact ty_iret hx hb hr hlk hG hS True.intro dX7_readInto_58
          · skip
            have c_33 : yk.toInt ≠ 40 := q_ne c_33
            refine lv_aload_n hx hb dX7_readInto_39 rfl (lv_at hl 2 rfl) ?_
            refine ty_calli ((W.runV (As := []) (rest := []) ⟨hx, hb, hml, hown, hts⟩ (s_X7_readItem l D t cI cL cC gC gE G gW gA a0 k_a0) (cwV 0 hts gu_X7_readInto_X7_readItem_30 rfl rfl rfl (by decide +kernel) ⟨Nat.le_of_ble_eq_true rfl, Nat.le_of_ble_eq_true rfl⟩) (tP_V hG hE at_31 rfl) rfl rfl hl.1 rfl (lv_room (Nat.le_of_ble_eq_true rfl)) dX7_readInto_40 ⟨Nat.le_of_ble_eq_true rfl, Nat.le_of_ble_eq_true rfl⟩)) hS (wrL_sub (by decide)) (fun r_34 H locs hp_35 hG hS o_36 => ?_)
            rcases hp_35 with rfl | rfl
            · skip
              refine lv_if_eq (tgt := 57) hx hb dX7_readInto_43 (by decide) (fun _ => ?_) (fun q => absurd (by decide) q)
              refine lv_iload_n hx hb dX7_readInto_57 rfl (lv_at hl 0 rfl) ?_
              exact ty_iret hx hb hr hlk hG hS True.intro dX7_readInto_58
            · skip
              refine lv_if_eq (tgt := 57) hx hb dX7_readInto_43 (by decide) (fun q => absurd q (by decide)) (fun _ => ?_)
              refine lv_pc (pc2 := 46) rfl ?_
              refine lv_aload_n hx hb dX7_readInto_46 rfl (lv_at hl 3 rfl) ?_
              refine lv_aload_n hx hb dX7_readInto_47 rfl (lv_at hl 2 rfl) ?_
              obtain ⟨r_37, r_39, v_41, at_43, h_38, h_40, h_42⟩ := gF_o2 hG k_a0
              refine va_get (D := D) (ci := 6) (v := .ref r_39) (C := RX7) (T := TX7) (N := 4) hx hb hts in7 hown hK (va_one at_43) 0 rfl rfl 1 (by decide) (hts (.fieldLink RX7 15 "RiverModel$Text" "row" "[I") (List.mem_of_getElem? (i := 11) rfl)) (fun _ h9 => h9) rfl dX7_readInto_48 ?_
              obtain ⟨r_44, r_46, r_48, v_50, v_51, v_52, at_54, h_45, h_47, h_49, h_53⟩ := gF_o3 hG k_a1
              refine ty_calli ((W.runV (As := [.ref r_39]) (rest := []) ⟨hx, hb, hml, hown, hts⟩ (s_X4_mayFollow l D t cI cL cC gC gE G gW gA a1 r_39 k_a1 h_40) (cwV 1 hts gu_X7_readInto_X4_mayFollow_34 rfl rfl rfl (by decide +kernel) ⟨Nat.le_of_ble_eq_true rfl, Nat.le_of_ble_eq_true rfl⟩) (tP_V hG hE at_54 rfl) rfl rfl hl.1 rfl (lv_room (Nat.le_of_ble_eq_true rfl)) dX7_readInto_51 ⟨Nat.le_of_ble_eq_true rfl, Nat.le_of_ble_eq_true rfl⟩)) hS (fun k h => by simp [wr0] at h) (fun r_55 H locs hp_56 hG hS o_57 => ?_)
              have at_43 := va_at.keptC at_43 o_57 k_a0 rfl
              have at_54 := va_at.keptC at_54 o_57 k_a1 rfl
              rcases hp_56 with rfl | rfl
              · skip
                refine lv_if_ne (tgt := 59) hx hb dX7_readInto_54 (by decide) (fun q => absurd rfl q) (fun _ => ?_)
                refine lv_iload_n hx hb dX7_readInto_57 rfl (lv_at hl 0 rfl) ?_
                exact ty_iret hx hb hr hlk hG hS True.intro dX7_readInto_58
              · skip
                refine lv_if_ne (tgt := 59) hx hb dX7_readInto_54 (by decide) (fun _ => ?_) (fun q => absurd q (by decide))
                refine lv_pc (pc2 := 59) rfl ?_
                refine lv_aload_n hx hb dX7_readInto_59 rfl (lv_at hl 3 rfl) ?_
                refine lv_aload_n hx hb dX7_readInto_60 rfl (lv_at hl 2 rfl) ?_
                refine va_get (D := D) (ci := 6) (v := .ref r_39) (C := RX7) (T := TX7) (N := 4) hx hb hts in7 hown hK (va_one at_43) 0 rfl rfl 1 (by decide) (hts (.fieldLink RX7 15 "RiverModel$Text" "row" "[I") (List.mem_of_getElem? (i := 11) rfl)) (fun _ h9 => h9) rfl dX7_readInto_61 ?_
                refine ty_callv ((W.runV (As := [.ref r_39]) (rest := []) ⟨hx, hb, hml, hown, hts⟩ (s_X4_add l D t cI cL cC gC gE G gW gA a1 r_39 k_a1 h_40) (cwV 1 hts gu_X7_readInto_X4_add_38 rfl rfl rfl (by decide +kernel) ⟨Nat.le_of_ble_eq_true rfl, Nat.le_of_ble_eq_true rfl⟩) (tP_V hG hE at_54 rfl) rfl rfl hl.1 rfl (lv_room (Nat.le_of_ble_eq_true rfl)) dX7_readInto_64 ⟨Nat.le_of_ble_eq_true rfl, Nat.le_of_ble_eq_true rfl⟩)) hS (wrL_sub (by decide)) (fun H locs hp_59 hG hS o_60 => ?_)
                have at_43 := va_at.keptC at_43 o_60 k_a0 rfl
                obtain ⟨x_61, e_62⟩ : ∃ y : Int32, y = yk + Int32.ofInt 1 := ⟨_, rfl⟩
                have i_x_61 : x_61.toInt = yk.toInt + 1 := by rw [e_62, show Int32.ofInt 1 = 1 by decide]; exact (q_add (by rw [show (1 : Int32).toInt = 1 by decide]; omega) (by rw [show (1 : Int32).toInt = 1 by decide]; omega)).trans (by rw [show (1 : Int32).toInt = 1 by decide])
                refine lv_iinc (v := x_61) (lv' := [(2, .int x_61), (3, .int v_29), (0, .ref a0), (1, .ref a1)]) hx hb dX7_readInto_67 hl (k := 1) rfl e_62.symm (by decide) rfl (fun ls hl => ?_)
                refine lv_goto (tgt := 11) hx hb dX7_readInto_70 (by decide) ?_
                exfalso; omega
    | succ k ih =>
      intro yk H locs ls hk v0 v1 hG hS hl
      refine (hWW _ _ _).mpr ?_
      refine lv_iload_n hx hb dX7_readInto_11 rfl (lv_at hl 0 rfl) ?_
      refine lv_bipush (v := 40) hx hb dX7_readInto_12 (by decide) ?_
      refine lv_pc (pc2 := 14) rfl ?_
      refine lv_icmp_gt (tgt := 73) hx hb dX7_readInto_14 (by decide) (fun c_63 => ?_) (fun c_63 => ?_)
      · skip
        have c_63 : 40 < yk.toInt := q_lt c_63
        exact (hWW _ _ _).mp (kx yk H locs ls (by omega) (by omega) hG hS (lv_sub hl [0, 1, 2] rfl))
      · skip
        have c_63 : yk.toInt ≤ 40 := q_nlt c_63
        refine lv_aload_n hx hb dX7_readInto_17 rfl (lv_at hl 1 rfl) ?_
        obtain ⟨r_64, r_66, v_68, at_70, h_65, h_67, h_69⟩ := gF_o2 hG k_a0
        refine va_get (D := D) (ci := 6) (v := .int v_68) (C := RX7) (T := TX7) (N := 4) hx hb hts in7 hown hK (va_one at_70) 0 rfl rfl 3 (by decide) (hts (.fieldLink RX7 22 "RiverModel$Text" "at" "I") (List.mem_of_getElem? (i := 5) rfl)) (fun _ h9 => h9) rfl dX7_readInto_18 ?_
        refine lv_aload_n hx hb dX7_readInto_21 rfl (lv_at hl 1 rfl) ?_
        refine va_get (D := D) (ci := 6) (v := .int gC) (C := RX7) (T := TX7) (N := 4) hx hb hts in7 hown hK (va_one at_70) 0 rfl rfl 2 (by decide) (hts (.fieldLink RX7 18 "RiverModel$Text" "length" "I") (List.mem_of_getElem? (i := 6) rfl)) (fun _ h9 => h9) rfl dX7_readInto_22 ?_
        refine lv_icmp_ge (tgt := 73) hx hb dX7_readInto_25 (by decide) (fun c_71 => ?_) (fun c_71 => ?_)
        · skip
          have c_71 : gC.toInt ≤ v_68.toInt := q_le c_71
          exact (hWW _ _ _).mp (kx yk H locs ls (by omega) (by omega) hG hS (lv_sub hl [0, 1, 2] rfl))
        · skip
          have c_71 : v_68.toInt < gC.toInt := q_nle c_71
          refine lv_aload_n hx hb dX7_readInto_28 rfl (lv_at hl 1 rfl) ?_
          refine va_get (D := D) (ci := 6) (v := .int v_68) (C := RX7) (T := TX7) (N := 4) hx hb hts in7 hown hK (va_one at_70) 0 rfl rfl 3 (by decide) (hts (.fieldLink RX7 22 "RiverModel$Text" "at" "I") (List.mem_of_getElem? (i := 5) rfl)) (fun _ h9 => h9) rfl dX7_readInto_29 ?_
          refine lv_pc (pc2 := 32) rfl ?_
          refine lv_istore_n (lv' := [(3, .int v_68), (2, .int yk), (0, .ref a0), (1, .ref a1)]) hx hb dX7_readInto_32 rfl hl (by decide) rfl (fun ls hl => ?_)
          refine lv_iload_n hx hb dX7_readInto_33 rfl (lv_at hl 1 rfl) ?_
          refine lv_bipush (v := 40) hx hb dX7_readInto_34 (by decide) ?_
          refine lv_icmp_eq (tgt := 57) hx hb dX7_readInto_36 (by decide) (fun c_72 => ?_) (fun c_72 => ?_)
          · skip
            have c_72 : yk.toInt = 40 := q_eq c_72
            refine lv_iload_n hx hb dX7_readInto_57 rfl (lv_at hl 0 rfl) ?_
            exact ty_iret hx hb hr hlk hG hS True.intro dX7_readInto_58
          · skip
            have c_72 : yk.toInt ≠ 40 := q_ne c_72
            refine lv_aload_n hx hb dX7_readInto_39 rfl (lv_at hl 2 rfl) ?_
            refine ty_calli ((W.runV (As := []) (rest := []) ⟨hx, hb, hml, hown, hts⟩ (s_X7_readItem l D t cI cL cC gC gE G gW gA a0 k_a0) (cwV 0 hts gu_X7_readInto_X7_readItem_30 rfl rfl rfl (by decide +kernel) ⟨Nat.le_of_ble_eq_true rfl, Nat.le_of_ble_eq_true rfl⟩) (tP_V hG hE at_70 rfl) rfl rfl hl.1 rfl (lv_room (Nat.le_of_ble_eq_true rfl)) dX7_readInto_40 ⟨Nat.le_of_ble_eq_true rfl, Nat.le_of_ble_eq_true rfl⟩)) hS (wrL_sub (by decide)) (fun r_73 H locs hp_74 hG hS o_75 => ?_)
            rcases hp_74 with rfl | rfl
            · skip
              refine lv_pc (pc2 := 43) rfl ?_
              refine lv_if_eq (tgt := 57) hx hb dX7_readInto_43 (by decide) (fun _ => ?_) (fun q => absurd (by decide) q)
              refine lv_iload_n hx hb dX7_readInto_57 rfl (lv_at hl 0 rfl) ?_
              exact ty_iret hx hb hr hlk hG hS True.intro dX7_readInto_58
            · skip
              refine lv_if_eq (tgt := 57) hx hb dX7_readInto_43 (by decide) (fun q => absurd q (by decide)) (fun _ => ?_)
              refine lv_aload_n hx hb dX7_readInto_46 rfl (lv_at hl 3 rfl) ?_
              refine lv_aload_n hx hb dX7_readInto_47 rfl (lv_at hl 2 rfl) ?_
              obtain ⟨r_76, r_78, v_80, at_82, h_77, h_79, h_81⟩ := gF_o2 hG k_a0
              refine va_get (D := D) (ci := 6) (v := .ref r_78) (C := RX7) (T := TX7) (N := 4) hx hb hts in7 hown hK (va_one at_82) 0 rfl rfl 1 (by decide) (hts (.fieldLink RX7 15 "RiverModel$Text" "row" "[I") (List.mem_of_getElem? (i := 11) rfl)) (fun _ h9 => h9) rfl dX7_readInto_48 ?_
              obtain ⟨r_83, r_85, r_87, v_89, v_90, v_91, at_93, h_84, h_86, h_88, h_92⟩ := gF_o3 hG k_a1
              refine ty_calli ((W.runV (As := [.ref r_78]) (rest := []) ⟨hx, hb, hml, hown, hts⟩ (s_X4_mayFollow l D t cI cL cC gC gE G gW gA a1 r_78 k_a1 h_79) (cwV 1 hts gu_X7_readInto_X4_mayFollow_34 rfl rfl rfl (by decide +kernel) ⟨Nat.le_of_ble_eq_true rfl, Nat.le_of_ble_eq_true rfl⟩) (tP_V hG hE at_93 rfl) rfl rfl hl.1 rfl (lv_room (Nat.le_of_ble_eq_true rfl)) dX7_readInto_51 ⟨Nat.le_of_ble_eq_true rfl, Nat.le_of_ble_eq_true rfl⟩)) hS (fun k h => by simp [wr0] at h) (fun r_94 H locs hp_95 hG hS o_96 => ?_)
              have at_82 := va_at.keptC at_82 o_96 k_a0 rfl
              have at_93 := va_at.keptC at_93 o_96 k_a1 rfl
              rcases hp_95 with rfl | rfl
              · skip
                refine lv_pc (pc2 := 54) rfl ?_
                refine lv_if_ne (tgt := 59) hx hb dX7_readInto_54 (by decide) (fun q => absurd rfl q) (fun _ => ?_)
                refine lv_iload_n hx hb dX7_readInto_57 rfl (lv_at hl 0 rfl) ?_
                exact ty_iret hx hb hr hlk hG hS True.intro dX7_readInto_58
              · skip
                refine lv_if_ne (tgt := 59) hx hb dX7_readInto_54 (by decide) (fun _ => ?_) (fun q => absurd q (by decide))
                refine lv_aload_n hx hb dX7_readInto_59 rfl (lv_at hl 3 rfl) ?_
                refine lv_aload_n hx hb dX7_readInto_60 rfl (lv_at hl 2 rfl) ?_
                refine va_get (D := D) (ci := 6) (v := .ref r_78) (C := RX7) (T := TX7) (N := 4) hx hb hts in7 hown hK (va_one at_82) 0 rfl rfl 1 (by decide) (hts (.fieldLink RX7 15 "RiverModel$Text" "row" "[I") (List.mem_of_getElem? (i := 11) rfl)) (fun _ h9 => h9) rfl dX7_readInto_61 ?_
                refine ty_callv ((W.runV (As := [.ref r_78]) (rest := []) ⟨hx, hb, hml, hown, hts⟩ (s_X4_add l D t cI cL cC gC gE G gW gA a1 r_78 k_a1 h_79) (cwV 1 hts gu_X7_readInto_X4_add_38 rfl rfl rfl (by decide +kernel) ⟨Nat.le_of_ble_eq_true rfl, Nat.le_of_ble_eq_true rfl⟩) (tP_V hG hE at_93 rfl) rfl rfl hl.1 rfl (lv_room (Nat.le_of_ble_eq_true rfl)) dX7_readInto_64 ⟨Nat.le_of_ble_eq_true rfl, Nat.le_of_ble_eq_true rfl⟩)) hS (wrL_sub (by decide)) (fun H locs hp_98 hG hS o_99 => ?_)
                have at_82 := va_at.keptC at_82 o_99 k_a0 rfl
                refine lv_pc (pc2 := 67) rfl ?_
                obtain ⟨x_100, e_101⟩ : ∃ y : Int32, y = yk + Int32.ofInt 1 := ⟨_, rfl⟩
                have i_x_100 : x_100.toInt = yk.toInt + 1 := by rw [e_101, show Int32.ofInt 1 = 1 by decide]; exact (q_add (by rw [show (1 : Int32).toInt = 1 by decide]; omega) (by rw [show (1 : Int32).toInt = 1 by decide]; omega)).trans (by rw [show (1 : Int32).toInt = 1 by decide])
                refine lv_iinc (v := x_100) (lv' := [(2, .int x_100), (3, .int v_68), (0, .ref a0), (1, .ref a1)]) hx hb dX7_readInto_67 hl (k := 1) rfl e_101.symm (by decide) rfl (fun ls hl => ?_)
                refine lv_goto (tgt := 11) hx hb dX7_readInto_70 (by decide) ?_
                exact (hWW _ _ _).mp (ih x_100 H locs ls (by omega) (by omega) (by omega) hG hS (lv_sub hl [0, 2, 3] rfl))
  have hz_yk : (0 : Int32).toInt = 0 := by decide
  exact loop (41 - 0 : Int).toNat 0 H locs ls (by omega) (by omega) (by omega) hG hS (lv_sub hl [0, 1, 2] rfl)

def uX0_begin : List Cond := .code yX0_begin cX0_begin 3 none :: ([.fieldLink RX0 15 "RiverModel$Course" "moved" "[J", .methodLink RX0 45 yJ7_fill_d0a16, .static yJ7_fill_d0a16, .initialized RJ7, .fieldLink RX0 18 "RiverModel$Course" "openings" "[I", .methodLink RX0 51 yJ7_fill_53178, .static yJ7_fill_53178, .fieldLink RX0 22 "RiverModel$Course" "due" "[J", .fieldLink RX0 25 "RiverModel$Course" "rained" "J", .fieldLink RX0 29 "RiverModel$Course" "air" "J", .fieldLink RX0 32 "RiverModel$Course" "sea" "J", .fieldLink RX0 35 "RiverModel$Course" "hours" "I", .fieldLink RX0 9 "RiverModel$Course" "held" "[J", .methodLink RX0 39 yX4_startOf, .instanceMethod yX4_startOf, .selects RX4 yX4_startOf yX4_startOf, .initialized RX4, .code yJ7_fill_d0a16 cJ7_fill_d0a16 5 none, .code yJ7_fill_53178 cJ7_fill_53178 4 none, .code yX4_startOf cX4_startOf 2 (some .int), .methodLink RX4 66 yX4_hasStore, .instanceMethod yX4_hasStore, .selects RX4 yX4_hasStore yX4_hasStore, .fieldLink RX4 15 "RiverModel$Model" "storeItems" "[I", .methodLink RX4 73 yX4_cell, .instanceMethod yX4_cell, .selects RX4 yX4_cell yX4_cell, .code yX4_hasStore cX4_hasStore 2 (some .boolean), .code yX4_cell cX4_cell 3 (some .int), .fieldLink RX4 9 "RiverModel$Model" "cells" "[I"] ++ wsX00 ++ wsX40)
set_option maxRecDepth 20000 in
theorem gu_X0_begin_J7_fill_d0a16_45 : GoodIn uX0_begin (va_wsS RX0 45 yJ7_fill_d0a16 wsJ7_fill_d0a16) := goodIn_r _ [2, 3, 4, 18] rfl (by decide +kernel)
set_option maxRecDepth 20000 in
theorem gu_X0_begin_J7_fill_53178_51 : GoodIn uX0_begin (va_wsS RX0 51 yJ7_fill_53178 wsJ7_fill_53178) := goodIn_r _ [6, 7, 4, 19] rfl (by decide +kernel)
set_option maxRecDepth 20000 in
theorem gu_X0_begin_X4_startOf_39 : GoodIn uX0_begin (wsV RX0 39 RX4 yX4_startOf uX4_startOf) := goodIn_r _ [14, 15, 16, 17, 20, 21, 22, 23, 17, 24, 25, 26, 27, 28, 29, 30, 39, 40, 41, 42, 43, 44] rfl (by decide +kernel)
set_option maxHeartbeats 4000000 in
set_option maxRecDepth 100000 in
theorem s_X0_begin (l : Launch) (D : va_G) (t : Nat → Nat) (cI cL cC : ClassId) (gC : Int32) (gE : Int32) (G : Nat) (gW : Nat → Int32) (gA : Nat → Int32) (a0 : Nat) (a1 : Nat) (k_a0 : t a0 = 5) (k_a1 : t a1 = 3) : tM l yX0_begin uX0_begin 2 43 D (gF cI cL cC gC gE G gW gA) (gF cI cL cC gC gE G gW gA) t cI cL cC [.ref a0, .ref a1] wrC (pV (True)) := by
  refine tM.ofW (cc := cX0_begin) (maxL := 3) (ret := none) (by decide) rfl (Nat.le_of_ble_eq_true rfl) ?_
  intro p e s m below meth c hx hb hr hml hown hts hlk H locs hG hK hE hS ls hl
  have hl : lv_has ls 3 [(0, .ref a0), (1, .ref a1)] := hl
  have in0 : ∀ w ∈ wsX00, w ∈ uX0_begin := fun w h => List.mem_cons_of_mem _ (List.mem_append_left _ (List.mem_append_right _ h))
  refine lv_iconst (v := 0) hx hb dX0_begin_0 (by decide) ?_
  refine lv_istore_n (lv' := [(2, .int 0), (0, .ref a0), (1, .ref a1)]) hx hb dX0_begin_1 rfl hl (by decide) rfl (fun ls hl => ?_)
  refine lv_pc (pc2 := 2) rfl ?_
  refine lp_gen (fun WW hWW => ?_)
  have kx : ∀ (yk : Int32) (H1 : Heap) (locs1 : List Loc) (ls1 : Array Slot), 0 ≤ yk.toInt → yk.toInt ≤ 16 → tG D (gF cI cL cC gC gE G gW gA) t H1 → tF t wrC s.heap H1 locs1 → lv_has ls1 3 [(2, .int yk), (0, .ref a0), (1, .ref a1)] → WW H1 locs1 (F0 m 26 ls1 []) := by
    intro yk H locs ls v0 v1 hG hS hl
    refine (hWW _ _ _).mpr ?_
    refine lv_aload_n hx hb dX0_begin_26 rfl (lv_at hl 1 rfl) ?_
    obtain ⟨r_1, r_3, r_5, r_7, v_9, v_10, v_11, v_12, at_14, h_2, h_4, h_6, h_8, h_13⟩ := gF_o5 hG k_a0
    refine va_get (D := D) (ci := 0) (v := .ref r_3) (C := RX0) (T := TX0) (N := 8) hx hb hts in0 hown hK (va_one at_14) 0 rfl rfl 1 (by decide) (hts (.fieldLink RX0 15 "RiverModel$Course" "moved" "[J") (List.mem_of_getElem? (i := 1) rfl)) (fun _ h9 => h9) rfl dX0_begin_27 ?_
    refine lv_lconst (v := 0) hx hb dX0_begin_30 (by decide) ?_
    obtain ⟨f_15, at_16⟩ := gF_o18 hG h_4
    refine nw_row (W.runS (As := [.ref r_3, .long 0]) (rest := []) ⟨hx, hb, hml, hown, hts⟩ (c_fillL l D cI cL cC r_3 40 f_15 0 (by decide)) (va_cwS 2 hts gu_X0_begin_J7_fill_d0a16_45 rfl rfl rfl (by decide +kernel) ⟨Nat.le_of_ble_eq_true rfl, Nat.le_of_ble_eq_true rfl⟩) (rP_S at_16 hE) rfl rfl hl.1 rfl (lv_room (Nat.le_of_ble_eq_true rfl)) dX0_begin_31 ⟨Nat.le_of_ble_eq_true rfl, Nat.le_of_ble_eq_true rfl⟩) (fun H L ee hp at_22 hz_20 o_18 hL_21 => ?_)
    obtain ⟨g_17, rfl, hg_19⟩ := hp
    replace hG : tG D (gF cI cL cC gC gE G gW gA) t H := tG.set hG at_22 (by rw [h_4]; exact ⟨_, rfl⟩) o_18
    replace hS := tF.row hS hz_20 o_18 hL_21 (by rw [h_4]; rfl)
    generalize _ ++ L = locs at hS ⊢
    have at_14 := va_at.keptK at_14 o_18 h_4 k_a0 rfl
    refine lv_aload_n hx hb dX0_begin_34 rfl (lv_at hl 1 rfl) ?_
    refine lv_pc (pc2 := 35) rfl ?_
    refine va_get (D := D) (ci := 0) (v := .ref r_5) (C := RX0) (T := TX0) (N := 8) hx hb hts in0 hown hK (va_one at_14) 0 rfl rfl 2 (by decide) (hts (.fieldLink RX0 18 "RiverModel$Course" "openings" "[I") (List.mem_of_getElem? (i := 5) rfl)) (fun _ h9 => h9) rfl dX0_begin_35 ?_
    refine lv_iconst (v := 5) hx hb dX0_begin_38 (by decide) ?_
    obtain ⟨f_23, at_24⟩ := gF_o19 hG h_6
    refine nw_row (W.runS (As := [.ref r_5, .int 5]) (rest := []) ⟨hx, hb, hml, hown, hts⟩ (c_fillI l D cI cL cC r_5 4 f_23 5 (by decide)) (va_cwS 2 hts gu_X0_begin_J7_fill_53178_51 rfl rfl rfl (by decide +kernel) ⟨Nat.le_of_ble_eq_true rfl, Nat.le_of_ble_eq_true rfl⟩) (rP_S at_24 hE) rfl rfl hl.1 rfl (lv_room (Nat.le_of_ble_eq_true rfl)) dX0_begin_39 ⟨Nat.le_of_ble_eq_true rfl, Nat.le_of_ble_eq_true rfl⟩) (fun H L ee hp at_30 hz_28 o_26 hL_29 => ?_)
    obtain ⟨g_25, rfl, hg_27⟩ := hp
    replace hG : tG D (gF cI cL cC gC gE G gW gA) t H := tG.set hG at_30 (by rw [h_6]; exact ⟨_, rfl⟩) o_26
    replace hS := tF.row hS hz_28 o_26 hL_29 (by rw [h_6]; rfl)
    generalize _ ++ L = locs at hS ⊢
    have at_14 := va_at.keptK at_14 o_26 h_6 k_a0 rfl
    refine lv_aload_n hx hb dX0_begin_42 rfl (lv_at hl 1 rfl) ?_
    refine va_get (D := D) (ci := 0) (v := .ref r_7) (C := RX0) (T := TX0) (N := 8) hx hb hts in0 hown hK (va_one at_14) 0 rfl rfl 3 (by decide) (hts (.fieldLink RX0 22 "RiverModel$Course" "due" "[J") (List.mem_of_getElem? (i := 8) rfl)) (fun _ h9 => h9) rfl dX0_begin_43 ?_
    refine lv_lconst (v := 0) hx hb dX0_begin_46 (by decide) ?_
    obtain ⟨f_31, at_32⟩ := gF_o20 hG h_8
    refine nw_row (W.runS (As := [.ref r_7, .long 0]) (rest := []) ⟨hx, hb, hml, hown, hts⟩ (c_fillL l D cI cL cC r_7 208 f_31 0 (by decide)) (va_cwS 2 hts gu_X0_begin_J7_fill_d0a16_45 rfl rfl rfl (by decide +kernel) ⟨Nat.le_of_ble_eq_true rfl, Nat.le_of_ble_eq_true rfl⟩) (rP_S at_32 hE) rfl rfl hl.1 rfl (lv_room (Nat.le_of_ble_eq_true rfl)) dX0_begin_47 ⟨Nat.le_of_ble_eq_true rfl, Nat.le_of_ble_eq_true rfl⟩) (fun H L ee hp at_38 hz_36 o_34 hL_37 => ?_)
    obtain ⟨g_33, rfl, hg_35⟩ := hp
    replace hG : tG D (gF cI cL cC gC gE G gW gA) t H := tG.set hG at_38 (by rw [h_8]; exact ⟨_, rfl⟩) o_34
    replace hS := tF.row hS hz_36 o_34 hL_37 (by rw [h_8]; rfl)
    generalize _ ++ L = locs at hS ⊢
    have at_14 := va_at.keptK at_14 o_34 h_8 k_a0 rfl
    refine lv_aload_n hx hb dX0_begin_50 rfl (lv_at hl 1 rfl) ?_
    refine lv_pc (pc2 := 51) rfl ?_
    refine lv_lconst (v := 0) hx hb dX0_begin_51 (by decide) ?_
    refine ty_put (D := D) (ci := 0) (v := .long 0) (ty := .long) (C := RX0) (T := TX0) (N := 8) (F2 := (gF cI cL cC gC gE G gW gA)) hx hb hts in0 tyX0 tyX0_ok nmX0 hown hK hG hS at_14 (by rw [k_a0]; rfl) rfl 4 (by decide) (hts (.fieldLink RX0 25 "RiverModel$Course" "rained" "J") (List.mem_of_getElem? (i := 9) rfl)) (fun _ h9 => h9) rfl (by decide +kernel) rfl rfl (Nat.le_of_ble_eq_true rfl) (by rw [k_a0]; exact ⟨r_1, r_3, r_5, r_7, 0, v_10, v_11, v_12, rfl, h_2, h_4, h_6, h_8, (by omega)⟩) tFF dX0_begin_52 (fun H locs hG hS at_39 o_40 => ?_)
    have at_39 : va_at D vwCl (a0, .inr (0, [.ref r_1, .ref r_3, .ref r_5, .ref r_7, .long 0, .long v_10, .long v_11, .int v_12])) H := at_39
    refine lv_aload_n hx hb dX0_begin_55 rfl (lv_at hl 1 rfl) ?_
    refine lv_lconst (v := 0) hx hb dX0_begin_56 (by decide) ?_
    refine ty_put (D := D) (ci := 0) (v := .long 0) (ty := .long) (C := RX0) (T := TX0) (N := 8) (F2 := (gF cI cL cC gC gE G gW gA)) hx hb hts in0 tyX0 tyX0_ok nmX0 hown hK hG hS at_39 (by rw [k_a0]; rfl) rfl 5 (by decide) (hts (.fieldLink RX0 29 "RiverModel$Course" "air" "J") (List.mem_of_getElem? (i := 10) rfl)) (fun _ h9 => h9) rfl (by decide +kernel) rfl rfl (Nat.le_of_ble_eq_true rfl) (by rw [k_a0]; exact ⟨r_1, r_3, r_5, r_7, 0, 0, v_11, v_12, rfl, h_2, h_4, h_6, h_8, (by omega)⟩) tFF dX0_begin_57 (fun H locs hG hS at_41 o_42 => ?_)
    have at_41 : va_at D vwCl (a0, .inr (0, [.ref r_1, .ref r_3, .ref r_5, .ref r_7, .long 0, .long 0, .long v_11, .int v_12])) H := at_41
    refine lv_aload_n hx hb dX0_begin_60 rfl (lv_at hl 1 rfl) ?_
    refine lv_lconst (v := 0) hx hb dX0_begin_61 (by decide) ?_
    refine ty_put (D := D) (ci := 0) (v := .long 0) (ty := .long) (C := RX0) (T := TX0) (N := 8) (F2 := (gF cI cL cC gC gE G gW gA)) hx hb hts in0 tyX0 tyX0_ok nmX0 hown hK hG hS at_41 (by rw [k_a0]; rfl) rfl 6 (by decide) (hts (.fieldLink RX0 32 "RiverModel$Course" "sea" "J") (List.mem_of_getElem? (i := 11) rfl)) (fun _ h9 => h9) rfl (by decide +kernel) rfl rfl (Nat.le_of_ble_eq_true rfl) (by rw [k_a0]; exact ⟨r_1, r_3, r_5, r_7, 0, 0, 0, v_12, rfl, h_2, h_4, h_6, h_8, (by omega)⟩) tFF dX0_begin_62 (fun H locs hG hS at_43 o_44 => ?_)
    have at_43 : va_at D vwCl (a0, .inr (0, [.ref r_1, .ref r_3, .ref r_5, .ref r_7, .long 0, .long 0, .long 0, .int v_12])) H := at_43
    refine lv_pc (pc2 := 65) rfl ?_
    refine lv_aload_n hx hb dX0_begin_65 rfl (lv_at hl 1 rfl) ?_
    refine lv_iconst (v := 0) hx hb dX0_begin_66 (by decide) ?_
    refine ty_put (D := D) (ci := 0) (v := .int 0) (ty := .int) (C := RX0) (T := TX0) (N := 8) (F2 := (gF cI cL cC gC gE G gW gA)) hx hb hts in0 tyX0 tyX0_ok nmX0 hown hK hG hS at_43 (by rw [k_a0]; rfl) rfl 7 (by decide) (hts (.fieldLink RX0 35 "RiverModel$Course" "hours" "I") (List.mem_of_getElem? (i := 12) rfl)) (fun _ h9 => h9) rfl (by decide +kernel) rfl rfl (Nat.le_of_ble_eq_true rfl) (by rw [k_a0]; exact ⟨r_1, r_3, r_5, r_7, 0, 0, 0, 0, rfl, h_2, h_4, h_6, h_8, (by rw [show (0 : Int32).toInt = 0 by decide]; omega)⟩) tFF dX0_begin_67 (fun H locs hG hS at_45 o_46 => ?_)
    have at_45 : va_at D vwCl (a0, .inr (0, [.ref r_1, .ref r_3, .ref r_5, .ref r_7, .long 0, .long 0, .long 0, .int 0])) H := at_45
    exact ty_vret hx hb hr hlk hG hS True.intro dX0_begin_70
  have loop : ∀ (k : Nat) (yk : Int32) (H1 : Heap) (locs1 : List Loc) (ls1 : Array Slot), 16 - yk.toInt ≤ (k : Int) → 0 ≤ yk.toInt → yk.toInt ≤ 16 → tG D (gF cI cL cC gC gE G gW gA) t H1 → tF t wrC s.heap H1 locs1 → lv_has ls1 3 [(2, .int yk), (0, .ref a0), (1, .ref a1)] → WW H1 locs1 (F0 m 2 ls1 []) := by
    intro k
    induction k with
    | zero =>
      intro yk H locs ls hk v0 v1 hG hS hl
      refine (hWW _ _ _).mpr ?_
      refine lv_iload_n hx hb dX0_begin_2 rfl (lv_at hl 0 rfl) ?_
      refine lv_bipush (v := 16) hx hb dX0_begin_3 (by decide) ?_
      refine lv_icmp_ge (tgt := 26) hx hb dX0_begin_5 (by decide) (fun c_47 => ?_) (fun c_47 => ?_)
      · skip
        have c_47 : 16 ≤ yk.toInt := q_le c_47
        exact (hWW _ _ _).mp (kx yk H locs ls (by omega) (by omega) hG hS (lv_sub hl [0, 1, 2] rfl))
      · skip
        have c_47 : yk.toInt < 16 := q_nle c_47
        refine lv_aload_n hx hb dX0_begin_8 rfl (lv_at hl 1 rfl) ?_
        refine lv_pc (pc2 := 9) rfl ?_
        obtain ⟨r_48, r_50, r_52, r_54, v_56, v_57, v_58, v_59, at_61, h_49, h_51, h_53, h_55, h_60⟩ := gF_o5 hG k_a0
        refine va_get (D := D) (ci := 0) (v := .ref r_48) (C := RX0) (T := TX0) (N := 8) hx hb hts in0 hown hK (va_one at_61) 0 rfl rfl 0 (by decide) (hts (.fieldLink RX0 9 "RiverModel$Course" "held" "[J") (List.mem_of_getElem? (i := 13) rfl)) (fun _ h9 => h9) rfl dX0_begin_9 ?_
        refine lv_iload_n hx hb dX0_begin_12 rfl (lv_at hl 0 rfl) ?_
        refine lv_aload_n hx hb dX0_begin_13 rfl (lv_at hl 2 rfl) ?_
        refine lv_iload_n hx hb dX0_begin_14 rfl (lv_at hl 0 rfl) ?_
        obtain ⟨r_62, r_64, r_66, v_68, v_69, v_70, at_72, h_63, h_65, h_67, h_71⟩ := gF_o3 hG k_a1
        refine ty_calli ((W.runV (As := [.int yk]) (rest := [.int yk, .ref r_48]) ⟨hx, hb, hml, hown, hts⟩ (s_X4_startOf l D t cI cL cC gC gE G gW gA a1 yk k_a1) (cwV 1 hts gu_X0_begin_X4_startOf_39 rfl rfl rfl (by decide +kernel) ⟨Nat.le_of_ble_eq_true rfl, Nat.le_of_ble_eq_true rfl⟩) (tP_V hG hE at_72 rfl) rfl rfl hl.1 rfl (lv_room (Nat.le_of_ble_eq_true rfl)) dX0_begin_15 ⟨Nat.le_of_ble_eq_true rfl, Nat.le_of_ble_eq_true rfl⟩)) hS (fun k h => by simp [wr0] at h) (fun r_73 H locs hp_74 hG hS o_75 => ?_)
        have at_61 := va_at.keptC at_61 o_75 k_a0 rfl
        have at_72 := va_at.keptC at_72 o_75 k_a1 rfl
        refine lv_i2l (v := r_73.toInt64) hx hb dX0_begin_18 rfl ?_
        obtain ⟨f_76, at_77⟩ := gF_o17 hG h_49
        have b_78 : vp_in yk 16 := (q_in (by omega) (by omega))
        refine ty_last (F2 := (gF cI cL cC gC gE G gW gA)) hx hb hK hG hS 1 at_77 (by rw [h_49]; rfl) rfl b_78 (by rw [h_49]; exact ⟨_, rfl⟩) tFF dX0_begin_19 (fun H locs hG hS at_79 o_80 => ?_)
        have at_61 := va_at.keptK at_61 o_80 h_49 k_a0 rfl
        have at_72 := va_at.keptK at_72 o_80 h_49 k_a1 rfl
        obtain ⟨x_81, e_82⟩ : ∃ y : Int32, y = yk + Int32.ofInt 1 := ⟨_, rfl⟩
        have i_x_81 : x_81.toInt = yk.toInt + 1 := by rw [e_82, show Int32.ofInt 1 = 1 by decide]; exact (q_add (by rw [show (1 : Int32).toInt = 1 by decide]; omega) (by rw [show (1 : Int32).toInt = 1 by decide]; omega)).trans (by rw [show (1 : Int32).toInt = 1 by decide])
        refine lv_iinc (v := x_81) (lv' := [(2, .int x_81), (0, .ref a0), (1, .ref a1)]) hx hb dX0_begin_20 hl (k := 0) rfl e_82.symm (by decide) rfl (fun ls hl => ?_)
        refine lv_pc (pc2 := 23) rfl ?_
        refine lv_goto (tgt := 2) hx hb dX0_begin_23 (by decide) ?_
        exfalso; omega
    | succ k ih =>
      intro yk H locs ls hk v0 v1 hG hS hl
      refine (hWW _ _ _).mpr ?_
      refine lv_iload_n hx hb dX0_begin_2 rfl (lv_at hl 0 rfl) ?_
      refine lv_bipush (v := 16) hx hb dX0_begin_3 (by decide) ?_
      refine lv_icmp_ge (tgt := 26) hx hb dX0_begin_5 (by decide) (fun c_83 => ?_) (fun c_83 => ?_)
      · skip
        have c_83 : 16 ≤ yk.toInt := q_le c_83
        exact (hWW _ _ _).mp (kx yk H locs ls (by omega) (by omega) hG hS (lv_sub hl [0, 1, 2] rfl))
      · skip
        have c_83 : yk.toInt < 16 := q_nle c_83
        refine lv_aload_n hx hb dX0_begin_8 rfl (lv_at hl 1 rfl) ?_
        obtain ⟨r_84, r_86, r_88, r_90, v_92, v_93, v_94, v_95, at_97, h_85, h_87, h_89, h_91, h_96⟩ := gF_o5 hG k_a0
        refine va_get (D := D) (ci := 0) (v := .ref r_84) (C := RX0) (T := TX0) (N := 8) hx hb hts in0 hown hK (va_one at_97) 0 rfl rfl 0 (by decide) (hts (.fieldLink RX0 9 "RiverModel$Course" "held" "[J") (List.mem_of_getElem? (i := 13) rfl)) (fun _ h9 => h9) rfl dX0_begin_9 ?_
        refine lv_iload_n hx hb dX0_begin_12 rfl (lv_at hl 0 rfl) ?_
        refine lv_aload_n hx hb dX0_begin_13 rfl (lv_at hl 2 rfl) ?_
        refine lv_pc (pc2 := 14) rfl ?_
        refine lv_iload_n hx hb dX0_begin_14 rfl (lv_at hl 0 rfl) ?_
        obtain ⟨r_98, r_100, r_102, v_104, v_105, v_106, at_108, h_99, h_101, h_103, h_107⟩ := gF_o3 hG k_a1
        refine ty_calli ((W.runV (As := [.int yk]) (rest := [.int yk, .ref r_84]) ⟨hx, hb, hml, hown, hts⟩ (s_X4_startOf l D t cI cL cC gC gE G gW gA a1 yk k_a1) (cwV 1 hts gu_X0_begin_X4_startOf_39 rfl rfl rfl (by decide +kernel) ⟨Nat.le_of_ble_eq_true rfl, Nat.le_of_ble_eq_true rfl⟩) (tP_V hG hE at_108 rfl) rfl rfl hl.1 rfl (lv_room (Nat.le_of_ble_eq_true rfl)) dX0_begin_15 ⟨Nat.le_of_ble_eq_true rfl, Nat.le_of_ble_eq_true rfl⟩)) hS (fun k h => by simp [wr0] at h) (fun r_109 H locs hp_110 hG hS o_111 => ?_)
        have at_97 := va_at.keptC at_97 o_111 k_a0 rfl
        have at_108 := va_at.keptC at_108 o_111 k_a1 rfl
        refine lv_i2l (v := r_109.toInt64) hx hb dX0_begin_18 rfl ?_
        obtain ⟨f_112, at_113⟩ := gF_o17 hG h_85
        have b_114 : vp_in yk 16 := (q_in (by omega) (by omega))
        refine ty_last (F2 := (gF cI cL cC gC gE G gW gA)) hx hb hK hG hS 1 at_113 (by rw [h_85]; rfl) rfl b_114 (by rw [h_85]; exact ⟨_, rfl⟩) tFF dX0_begin_19 (fun H locs hG hS at_115 o_116 => ?_)
        have at_97 := va_at.keptK at_97 o_116 h_85 k_a0 rfl
        have at_108 := va_at.keptK at_108 o_116 h_85 k_a1 rfl
        obtain ⟨x_117, e_118⟩ : ∃ y : Int32, y = yk + Int32.ofInt 1 := ⟨_, rfl⟩
        have i_x_117 : x_117.toInt = yk.toInt + 1 := by rw [e_118, show Int32.ofInt 1 = 1 by decide]; exact (q_add (by rw [show (1 : Int32).toInt = 1 by decide]; omega) (by rw [show (1 : Int32).toInt = 1 by decide]; omega)).trans (by rw [show (1 : Int32).toInt = 1 by decide])
        refine lv_iinc (v := x_117) (lv' := [(2, .int x_117), (0, .ref a0), (1, .ref a1)]) hx hb dX0_begin_20 hl (k := 0) rfl e_118.symm (by decide) rfl (fun ls hl => ?_)
        refine lv_goto (tgt := 2) hx hb dX0_begin_23 (by decide) ?_
        exact (hWW _ _ _).mp (ih x_117 H locs ls (by omega) (by omega) (by omega) hG hS (lv_sub hl [0, 1, 2] rfl))
  have hz_yk : (0 : Int32).toInt = 0 := by decide
  exact loop (16 - 0 : Int).toNat 0 H locs ls (by omega) (by omega) (by omega) hG hS (lv_sub hl [0, 1, 2] rfl)

def uX0_startFrom : List Cond := .code yX0_startFrom cX0_startFrom 3 none :: ([.fieldLink RX0 9 "RiverModel$Course" "held" "[J"] ++ wsX00)
set_option maxHeartbeats 4000000 in
set_option maxRecDepth 100000 in
theorem s_X0_startFrom (l : Launch) (D : va_G) (t : Nat → Nat) (cI cL cC : ClassId) (gC : Int32) (gE : Int32) (G : Nat) (gW : Nat → Int32) (gA : Nat → Int32) (a0 : Nat) (a1 : Nat) (k_a0 : t a0 = 5) (k_a1 : t a1 = 35) : tM l yX0_startFrom uX0_startFrom 0 0 D (gF cI cL cC gC gE G gW gA) (gF cI cL cC gC gE G gW gA) t cI cL cC [.ref a0, .ref a1] wrC (pV (True)) := by
  refine tM.ofW (cc := cX0_startFrom) (maxL := 3) (ret := none) (by decide) rfl (Nat.le_of_ble_eq_true rfl) ?_
  intro p e s m below meth c hx hb hr hml hown hts hlk H locs hG hK hE hS ls hl
  have hl : lv_has ls 3 [(0, .ref a0), (1, .ref a1)] := hl
  have in0 : ∀ w ∈ wsX00, w ∈ uX0_startFrom := fun w h => List.mem_cons_of_mem _ (List.mem_append_right _ h)
  refine lv_iconst (v := 0) hx hb dX0_startFrom_0 (by decide) ?_
  refine lv_istore_n (lv' := [(2, .int 0), (0, .ref a0), (1, .ref a1)]) hx hb dX0_startFrom_1 rfl hl (by decide) rfl (fun ls hl => ?_)
  refine lv_pc (pc2 := 2) rfl ?_
  refine lp_gen (fun WW hWW => ?_)
  have kx : ∀ (yk : Int32) (H1 : Heap) (locs1 : List Loc) (ls1 : Array Slot), 0 ≤ yk.toInt → yk.toInt ≤ 16 → tG D (gF cI cL cC gC gE G gW gA) t H1 → tF t wrC s.heap H1 locs1 → lv_has ls1 3 [(2, .int yk), (0, .ref a0), (1, .ref a1)] → WW H1 locs1 (F0 m 30 ls1 []) := by
    intro yk H locs ls v0 v1 hG hS hl
    refine (hWW _ _ _).mpr ?_
    exact ty_vret hx hb hr hlk hG hS True.intro dX0_startFrom_30
  have loop : ∀ (k : Nat) (yk : Int32) (H1 : Heap) (locs1 : List Loc) (ls1 : Array Slot), 16 - yk.toInt ≤ (k : Int) → 0 ≤ yk.toInt → yk.toInt ≤ 16 → tG D (gF cI cL cC gC gE G gW gA) t H1 → tF t wrC s.heap H1 locs1 → lv_has ls1 3 [(2, .int yk), (0, .ref a0), (1, .ref a1)] → WW H1 locs1 (F0 m 2 ls1 []) := by
    intro k
    induction k with
    | zero =>
      intro yk H locs ls hk v0 v1 hG hS hl
      refine (hWW _ _ _).mpr ?_
      refine lv_iload_n hx hb dX0_startFrom_2 rfl (lv_at hl 0 rfl) ?_
      refine lv_bipush (v := 16) hx hb dX0_startFrom_3 (by decide) ?_
      refine lv_icmp_ge (tgt := 30) hx hb dX0_startFrom_5 (by decide) (fun c_1 => ?_) (fun c_1 => ?_)
      · skip
        have c_1 : 16 ≤ yk.toInt := q_le c_1
        exact (hWW _ _ _).mp (kx yk H locs ls (by omega) (by omega) hG hS (lv_sub hl [0, 1, 2] rfl))
      · skip
        have c_1 : yk.toInt < 16 := q_nle c_1
        refine lv_iload_n hx hb dX0_startFrom_8 rfl (lv_at hl 0 rfl) ?_
        refine lv_pc (pc2 := 9) rfl ?_
        refine lv_aload_n hx hb dX0_startFrom_9 rfl (lv_at hl 2 rfl) ?_
        obtain ⟨f_2, at_3⟩ := gF_o35 hG k_a1
        refine va_alen (v := 16) hx hb hK (va_one at_3) 0 0 rfl rfl rfl dX0_startFrom_10 ?_
        refine lv_icmp_ge (tgt := 30) hx hb dX0_startFrom_11 (by decide) (fun c_4 => ?_) (fun c_4 => ?_)
        · skip
          have c_4 : 16 ≤ yk.toInt := q_le c_4
          exact (hWW _ _ _).mp (kx yk H locs ls (by omega) (by omega) hG hS (lv_sub hl [0, 1, 2] rfl))
        · skip
          have c_4 : yk.toInt < 16 := q_nle c_4
          refine lv_aload_n hx hb dX0_startFrom_14 rfl (lv_at hl 1 rfl) ?_
          obtain ⟨r_5, r_7, r_9, r_11, v_13, v_14, v_15, v_16, at_18, h_6, h_8, h_10, h_12, h_17⟩ := gF_o5 hG k_a0
          refine va_get (D := D) (ci := 0) (v := .ref r_5) (C := RX0) (T := TX0) (N := 8) hx hb hts in0 hown hK (va_one at_18) 0 rfl rfl 0 (by decide) (hts (.fieldLink RX0 9 "RiverModel$Course" "held" "[J") (List.mem_of_getElem? (i := 1) rfl)) (fun _ h9 => h9) rfl dX0_startFrom_15 ?_
          refine lv_iload_n hx hb dX0_startFrom_18 rfl (lv_at hl 0 rfl) ?_
          refine lv_aload_n hx hb dX0_startFrom_19 rfl (lv_at hl 2 rfl) ?_
          refine lv_iload_n hx hb dX0_startFrom_20 rfl (lv_at hl 0 rfl) ?_
          refine lv_pc (pc2 := 21) rfl ?_
          have b_19 : vp_in yk 16 := (q_in (by omega) (by omega))
          refine va_iald hx hb hK (va_one at_3) 0 0 rfl rfl b_19 dX0_startFrom_21 ?_
          refine lv_topi (fun x_20 e_21 => ?_)
          refine lv_i2l (v := x_20.toInt64) hx hb dX0_startFrom_22 rfl ?_
          obtain ⟨f_22, at_23⟩ := gF_o17 hG h_6
          have b_24 : vp_in yk 16 := (q_in (by omega) (by omega))
          refine ty_last (F2 := (gF cI cL cC gC gE G gW gA)) hx hb hK hG hS 1 at_23 (by rw [h_6]; rfl) rfl b_24 (by rw [h_6]; exact ⟨_, rfl⟩) tFF dX0_startFrom_23 (fun H locs hG hS at_25 o_26 => ?_)
          have at_3 := va_at.keptK at_3 o_26 h_6 k_a1 rfl
          have at_18 := va_at.keptK at_18 o_26 h_6 k_a0 rfl
          obtain ⟨x_27, e_28⟩ : ∃ y : Int32, y = yk + Int32.ofInt 1 := ⟨_, rfl⟩
          have i_x_27 : x_27.toInt = yk.toInt + 1 := by rw [e_28, show Int32.ofInt 1 = 1 by decide]; exact (q_add (by rw [show (1 : Int32).toInt = 1 by decide]; omega) (by rw [show (1 : Int32).toInt = 1 by decide]; omega)).trans (by rw [show (1 : Int32).toInt = 1 by decide])
          refine lv_iinc (v := x_27) (lv' := [(2, .int x_27), (0, .ref a0), (1, .ref a1)]) hx hb dX0_startFrom_24 hl (k := 0) rfl e_28.symm (by decide) rfl (fun ls hl => ?_)
          refine lv_goto (tgt := 2) hx hb dX0_startFrom_27 (by decide) ?_
          exfalso; omega
    | succ k ih =>
      intro yk H locs ls hk v0 v1 hG hS hl
      refine (hWW _ _ _).mpr ?_
      refine lv_iload_n hx hb dX0_startFrom_2 rfl (lv_at hl 0 rfl) ?_
      refine lv_bipush (v := 16) hx hb dX0_startFrom_3 (by decide) ?_
      refine lv_icmp_ge (tgt := 30) hx hb dX0_startFrom_5 (by decide) (fun c_29 => ?_) (fun c_29 => ?_)
      · skip
        have c_29 : 16 ≤ yk.toInt := q_le c_29
        exact (hWW _ _ _).mp (kx yk H locs ls (by omega) (by omega) hG hS (lv_sub hl [0, 1, 2] rfl))
      · skip
        have c_29 : yk.toInt < 16 := q_nle c_29
        refine lv_pc (pc2 := 8) rfl ?_
        refine lv_iload_n hx hb dX0_startFrom_8 rfl (lv_at hl 0 rfl) ?_
        refine lv_aload_n hx hb dX0_startFrom_9 rfl (lv_at hl 2 rfl) ?_
        obtain ⟨f_30, at_31⟩ := gF_o35 hG k_a1
        refine va_alen (v := 16) hx hb hK (va_one at_31) 0 0 rfl rfl rfl dX0_startFrom_10 ?_
        refine lv_icmp_ge (tgt := 30) hx hb dX0_startFrom_11 (by decide) (fun c_32 => ?_) (fun c_32 => ?_)
        · skip
          have c_32 : 16 ≤ yk.toInt := q_le c_32
          exact (hWW _ _ _).mp (kx yk H locs ls (by omega) (by omega) hG hS (lv_sub hl [0, 1, 2] rfl))
        · skip
          have c_32 : yk.toInt < 16 := q_nle c_32
          refine lv_aload_n hx hb dX0_startFrom_14 rfl (lv_at hl 1 rfl) ?_
          obtain ⟨r_33, r_35, r_37, r_39, v_41, v_42, v_43, v_44, at_46, h_34, h_36, h_38, h_40, h_45⟩ := gF_o5 hG k_a0
          refine va_get (D := D) (ci := 0) (v := .ref r_33) (C := RX0) (T := TX0) (N := 8) hx hb hts in0 hown hK (va_one at_46) 0 rfl rfl 0 (by decide) (hts (.fieldLink RX0 9 "RiverModel$Course" "held" "[J") (List.mem_of_getElem? (i := 1) rfl)) (fun _ h9 => h9) rfl dX0_startFrom_15 ?_
          refine lv_iload_n hx hb dX0_startFrom_18 rfl (lv_at hl 0 rfl) ?_
          refine lv_aload_n hx hb dX0_startFrom_19 rfl (lv_at hl 2 rfl) ?_
          refine lv_pc (pc2 := 20) rfl ?_
          refine lv_iload_n hx hb dX0_startFrom_20 rfl (lv_at hl 0 rfl) ?_
          have b_47 : vp_in yk 16 := (q_in (by omega) (by omega))
          refine va_iald hx hb hK (va_one at_31) 0 0 rfl rfl b_47 dX0_startFrom_21 ?_
          refine lv_topi (fun x_48 e_49 => ?_)
          refine lv_i2l (v := x_48.toInt64) hx hb dX0_startFrom_22 rfl ?_
          obtain ⟨f_50, at_51⟩ := gF_o17 hG h_34
          have b_52 : vp_in yk 16 := (q_in (by omega) (by omega))
          refine ty_last (F2 := (gF cI cL cC gC gE G gW gA)) hx hb hK hG hS 1 at_51 (by rw [h_34]; rfl) rfl b_52 (by rw [h_34]; exact ⟨_, rfl⟩) tFF dX0_startFrom_23 (fun H locs hG hS at_53 o_54 => ?_)
          have at_31 := va_at.keptK at_31 o_54 h_34 k_a1 rfl
          have at_46 := va_at.keptK at_46 o_54 h_34 k_a0 rfl
          obtain ⟨x_55, e_56⟩ : ∃ y : Int32, y = yk + Int32.ofInt 1 := ⟨_, rfl⟩
          have i_x_55 : x_55.toInt = yk.toInt + 1 := by rw [e_56, show Int32.ofInt 1 = 1 by decide]; exact (q_add (by rw [show (1 : Int32).toInt = 1 by decide]; omega) (by rw [show (1 : Int32).toInt = 1 by decide]; omega)).trans (by rw [show (1 : Int32).toInt = 1 by decide])
          refine lv_iinc (v := x_55) (lv' := [(2, .int x_55), (0, .ref a0), (1, .ref a1)]) hx hb dX0_startFrom_24 hl (k := 0) rfl e_56.symm (by decide) rfl (fun ls hl => ?_)
          refine lv_goto (tgt := 2) hx hb dX0_startFrom_27 (by decide) ?_
          exact (hWW _ _ _).mp (ih x_55 H locs ls (by omega) (by omega) (by omega) hG hS (lv_sub hl [0, 1, 2] rfl))
  have hz_yk : (0 : Int32).toInt = 0 := by decide
  exact loop (16 - 0 : Int).toNat 0 H locs ls (by omega) (by omega) (by omega) hG hS (lv_sub hl [0, 1, 2] rfl)

def uX0_copyFrom : List Cond := .code yX0_copyFrom cX0_copyFrom 2 none :: ([.fieldLink RX0 9 "RiverModel$Course" "held" "[J", .methodLink RX0 54 arraycopyName, .native arraycopyName, .static arraycopyName, .initialized "java/lang/System", .fieldLink RX0 15 "RiverModel$Course" "moved" "[J", .fieldLink RX0 18 "RiverModel$Course" "openings" "[I", .fieldLink RX0 22 "RiverModel$Course" "due" "[J", .fieldLink RX0 25 "RiverModel$Course" "rained" "J", .fieldLink RX0 29 "RiverModel$Course" "air" "J", .fieldLink RX0 32 "RiverModel$Course" "sea" "J", .fieldLink RX0 35 "RiverModel$Course" "hours" "I"] ++ wsX00)
set_option maxHeartbeats 4000000 in
set_option maxRecDepth 100000 in
theorem s_X0_copyFrom (l : Launch) (D : va_G) (t : Nat → Nat) (cI cL cC : ClassId) (gC : Int32) (gE : Int32) (G : Nat) (gW : Nat → Int32) (gA : Nat → Int32) (a0 : Nat) (a1 : Nat) (k_a0 : t a0 = 5) (k_a1 : t a1 = 5) : tM l yX0_copyFrom uX0_copyFrom 1 60 D (gF cI cL cC gC gE G gW gA) (gF cI cL cC gC gE G gW gA) t cI cL cC [.ref a0, .ref a1] wrC (pV (True)) := by
  refine tM.ofW (cc := cX0_copyFrom) (maxL := 2) (ret := none) (by decide) rfl (Nat.le_of_ble_eq_true rfl) ?_
  intro p e s m below meth c hx hb hr hml hown hts hlk H locs hG hK hE hS ls hl
  have hl : lv_has ls 2 [(0, .ref a0), (1, .ref a1)] := hl
  have in0 : ∀ w ∈ wsX00, w ∈ uX0_copyFrom := fun w h => List.mem_cons_of_mem _ (List.mem_append_right _ h)
  refine lv_aload_n hx hb dX0_copyFrom_0 rfl (lv_at hl 1 rfl) ?_
  obtain ⟨r_1, r_3, r_5, r_7, v_9, v_10, v_11, v_12, at_14, h_2, h_4, h_6, h_8, h_13⟩ := gF_o5 hG k_a1
  refine va_get (D := D) (ci := 0) (v := .ref r_1) (C := RX0) (T := TX0) (N := 8) hx hb hts in0 hown hK (va_one at_14) 0 rfl rfl 0 (by decide) (hts (.fieldLink RX0 9 "RiverModel$Course" "held" "[J") (List.mem_of_getElem? (i := 1) rfl)) (fun _ h9 => h9) rfl dX0_copyFrom_1 ?_
  refine lv_iconst (v := 0) hx hb dX0_copyFrom_4 (by decide) ?_
  refine lv_aload_n hx hb dX0_copyFrom_5 rfl (lv_at hl 0 rfl) ?_
  obtain ⟨r_15, r_17, r_19, r_21, v_23, v_24, v_25, v_26, at_28, h_16, h_18, h_20, h_22, h_27⟩ := gF_o5 hG k_a0
  refine va_get (D := D) (ci := 0) (v := .ref r_15) (C := RX0) (T := TX0) (N := 8) hx hb hts in0 hown hK (va_one at_28) 0 rfl rfl 0 (by decide) (hts (.fieldLink RX0 9 "RiverModel$Course" "held" "[J") (List.mem_of_getElem? (i := 1) rfl)) (fun _ h9 => h9) rfl dX0_copyFrom_6 ?_
  refine lv_iconst (v := 0) hx hb dX0_copyFrom_9 (by decide) ?_
  refine lv_bipush (v := 16) hx hb dX0_copyFrom_10 (by decide) ?_
  refine lv_pc (pc2 := 12) rfl ?_
  obtain ⟨f_29, at_30⟩ := gF_o17 hG h_2
  obtain ⟨f_31, at_32⟩ := gF_o17 hG h_16
  refine ty_copyl hx hb (by rw [hml]; exact hl.1.symm) hown (hts (.methodLink RX0 54 arraycopyName) (List.mem_of_getElem? (i := 2) rfl)) (hts (.native arraycopyName) (List.mem_of_getElem? (i := 3) rfl)) (hts (.static arraycopyName) (List.mem_of_getElem? (i := 4) rfl)) (hts (.initialized "java/lang/System") (List.mem_of_getElem? (i := 5) rfl)) hK at_30 at_32 (by decide) (by decide) (by decide) (by decide) (by decide) (Nat.le_of_ble_eq_true rfl) (Nat.le_of_ble_eq_true rfl) dX0_copyFrom_12 (fun H L at_33 hz_35 o_34 hL_36 => ?_)
  replace hG : tG D (gF cI cL cC gC gE G gW gA) t H := tG.set hG at_33 (by rw [h_16]; exact ⟨_, rfl⟩) o_34
  replace hS := tF.row hS hz_35 o_34 hL_36 (by rw [h_16]; rfl)
  generalize _ ++ L = locs at hS ⊢
  have at_14 := va_at.keptK at_14 o_34 h_16 k_a1 rfl
  have at_28 := va_at.keptK at_28 o_34 h_16 k_a0 rfl
  refine lv_aload_n hx hb dX0_copyFrom_15 rfl (lv_at hl 1 rfl) ?_
  refine va_get (D := D) (ci := 0) (v := .ref r_3) (C := RX0) (T := TX0) (N := 8) hx hb hts in0 hown hK (va_one at_14) 0 rfl rfl 1 (by decide) (hts (.fieldLink RX0 15 "RiverModel$Course" "moved" "[J") (List.mem_of_getElem? (i := 6) rfl)) (fun _ h9 => h9) rfl dX0_copyFrom_16 ?_
  refine lv_iconst (v := 0) hx hb dX0_copyFrom_19 (by decide) ?_
  refine lv_aload_n hx hb dX0_copyFrom_20 rfl (lv_at hl 0 rfl) ?_
  refine va_get (D := D) (ci := 0) (v := .ref r_17) (C := RX0) (T := TX0) (N := 8) hx hb hts in0 hown hK (va_one at_28) 0 rfl rfl 1 (by decide) (hts (.fieldLink RX0 15 "RiverModel$Course" "moved" "[J") (List.mem_of_getElem? (i := 6) rfl)) (fun _ h9 => h9) rfl dX0_copyFrom_21 ?_
  refine lv_iconst (v := 0) hx hb dX0_copyFrom_24 (by decide) ?_
  refine lv_bipush (v := 40) hx hb dX0_copyFrom_25 (by decide) ?_
  refine lv_pc (pc2 := 27) rfl ?_
  obtain ⟨f_37, at_38⟩ := gF_o18 hG h_4
  obtain ⟨f_39, at_40⟩ := gF_o18 hG h_18
  refine ty_copyl hx hb (by rw [hml]; exact hl.1.symm) hown (hts (.methodLink RX0 54 arraycopyName) (List.mem_of_getElem? (i := 2) rfl)) (hts (.native arraycopyName) (List.mem_of_getElem? (i := 3) rfl)) (hts (.static arraycopyName) (List.mem_of_getElem? (i := 4) rfl)) (hts (.initialized "java/lang/System") (List.mem_of_getElem? (i := 5) rfl)) hK at_38 at_40 (by decide) (by decide) (by decide) (by decide) (by decide) (Nat.le_of_ble_eq_true rfl) (Nat.le_of_ble_eq_true rfl) dX0_copyFrom_27 (fun H L at_41 hz_43 o_42 hL_44 => ?_)
  replace hG : tG D (gF cI cL cC gC gE G gW gA) t H := tG.set hG at_41 (by rw [h_18]; exact ⟨_, rfl⟩) o_42
  replace hS := tF.row hS hz_43 o_42 hL_44 (by rw [h_18]; rfl)
  generalize _ ++ L = locs at hS ⊢
  have at_14 := va_at.keptK at_14 o_42 h_18 k_a1 rfl
  have at_28 := va_at.keptK at_28 o_42 h_18 k_a0 rfl
  refine lv_aload_n hx hb dX0_copyFrom_30 rfl (lv_at hl 1 rfl) ?_
  refine va_get (D := D) (ci := 0) (v := .ref r_5) (C := RX0) (T := TX0) (N := 8) hx hb hts in0 hown hK (va_one at_14) 0 rfl rfl 2 (by decide) (hts (.fieldLink RX0 18 "RiverModel$Course" "openings" "[I") (List.mem_of_getElem? (i := 7) rfl)) (fun _ h9 => h9) rfl dX0_copyFrom_31 ?_
  refine lv_iconst (v := 0) hx hb dX0_copyFrom_34 (by decide) ?_
  refine lv_aload_n hx hb dX0_copyFrom_35 rfl (lv_at hl 0 rfl) ?_
  refine va_get (D := D) (ci := 0) (v := .ref r_19) (C := RX0) (T := TX0) (N := 8) hx hb hts in0 hown hK (va_one at_28) 0 rfl rfl 2 (by decide) (hts (.fieldLink RX0 18 "RiverModel$Course" "openings" "[I") (List.mem_of_getElem? (i := 7) rfl)) (fun _ h9 => h9) rfl dX0_copyFrom_36 ?_
  refine lv_iconst (v := 0) hx hb dX0_copyFrom_39 (by decide) ?_
  refine lv_iconst (v := 4) hx hb dX0_copyFrom_40 (by decide) ?_
  refine lv_pc (pc2 := 41) rfl ?_
  obtain ⟨f_45, at_46⟩ := gF_o19 hG h_6
  obtain ⟨f_47, at_48⟩ := gF_o19 hG h_20
  refine ty_copyi hx hb (by rw [hml]; exact hl.1.symm) hown (hts (.methodLink RX0 54 arraycopyName) (List.mem_of_getElem? (i := 2) rfl)) (hts (.native arraycopyName) (List.mem_of_getElem? (i := 3) rfl)) (hts (.static arraycopyName) (List.mem_of_getElem? (i := 4) rfl)) (hts (.initialized "java/lang/System") (List.mem_of_getElem? (i := 5) rfl)) hK at_46 at_48 (by decide) (by decide) (by decide) (by decide) (by decide) (Nat.le_of_ble_eq_true rfl) (Nat.le_of_ble_eq_true rfl) dX0_copyFrom_41 (fun H L at_49 hz_51 o_50 hL_52 => ?_)
  replace hG : tG D (gF cI cL cC gC gE G gW gA) t H := tG.set hG at_49 (by rw [h_20]; exact ⟨_, rfl⟩) o_50
  replace hS := tF.row hS hz_51 o_50 hL_52 (by rw [h_20]; rfl)
  generalize _ ++ L = locs at hS ⊢
  have at_14 := va_at.keptK at_14 o_50 h_20 k_a1 rfl
  have at_28 := va_at.keptK at_28 o_50 h_20 k_a0 rfl
  refine lv_aload_n hx hb dX0_copyFrom_44 rfl (lv_at hl 1 rfl) ?_
  refine va_get (D := D) (ci := 0) (v := .ref r_7) (C := RX0) (T := TX0) (N := 8) hx hb hts in0 hown hK (va_one at_14) 0 rfl rfl 3 (by decide) (hts (.fieldLink RX0 22 "RiverModel$Course" "due" "[J") (List.mem_of_getElem? (i := 8) rfl)) (fun _ h9 => h9) rfl dX0_copyFrom_45 ?_
  refine lv_iconst (v := 0) hx hb dX0_copyFrom_48 (by decide) ?_
  refine lv_aload_n hx hb dX0_copyFrom_49 rfl (lv_at hl 0 rfl) ?_
  refine va_get (D := D) (ci := 0) (v := .ref r_21) (C := RX0) (T := TX0) (N := 8) hx hb hts in0 hown hK (va_one at_28) 0 rfl rfl 3 (by decide) (hts (.fieldLink RX0 22 "RiverModel$Course" "due" "[J") (List.mem_of_getElem? (i := 8) rfl)) (fun _ h9 => h9) rfl dX0_copyFrom_50 ?_
  refine lv_iconst (v := 0) hx hb dX0_copyFrom_53 (by decide) ?_
  refine lv_aload_n hx hb dX0_copyFrom_54 rfl (lv_at hl 0 rfl) ?_
  refine lv_pc (pc2 := 55) rfl ?_
  refine va_get (D := D) (ci := 0) (v := .ref r_21) (C := RX0) (T := TX0) (N := 8) hx hb hts in0 hown hK (va_one at_28) 0 rfl rfl 3 (by decide) (hts (.fieldLink RX0 22 "RiverModel$Course" "due" "[J") (List.mem_of_getElem? (i := 8) rfl)) (fun _ h9 => h9) rfl dX0_copyFrom_55 ?_
  obtain ⟨f_53, at_54⟩ := gF_o20 hG h_22
  refine va_alen (v := 208) hx hb hK (va_one at_54) 0 1 rfl rfl rfl dX0_copyFrom_58 ?_
  obtain ⟨f_55, at_56⟩ := gF_o20 hG h_8
  refine ty_copyl hx hb (by rw [hml]; exact hl.1.symm) hown (hts (.methodLink RX0 54 arraycopyName) (List.mem_of_getElem? (i := 2) rfl)) (hts (.native arraycopyName) (List.mem_of_getElem? (i := 3) rfl)) (hts (.static arraycopyName) (List.mem_of_getElem? (i := 4) rfl)) (hts (.initialized "java/lang/System") (List.mem_of_getElem? (i := 5) rfl)) hK at_56 at_54 (by decide) (by decide) (by decide) (by decide) (by decide) (Nat.le_of_ble_eq_true rfl) (Nat.le_of_ble_eq_true rfl) dX0_copyFrom_59 (fun H L at_57 hz_59 o_58 hL_60 => ?_)
  replace hG : tG D (gF cI cL cC gC gE G gW gA) t H := tG.set hG at_57 (by rw [h_22]; exact ⟨_, rfl⟩) o_58
  replace hS := tF.row hS hz_59 o_58 hL_60 (by rw [h_22]; rfl)
  generalize _ ++ L = locs at hS ⊢
  have at_14 := va_at.keptK at_14 o_58 h_22 k_a1 rfl
  have at_28 := va_at.keptK at_28 o_58 h_22 k_a0 rfl
  refine lv_aload_n hx hb dX0_copyFrom_62 rfl (lv_at hl 0 rfl) ?_
  refine lv_aload_n hx hb dX0_copyFrom_63 rfl (lv_at hl 1 rfl) ?_
  refine va_get (D := D) (ci := 0) (v := .long v_9) (C := RX0) (T := TX0) (N := 8) hx hb hts in0 hown hK (va_one at_14) 0 rfl rfl 4 (by decide) (hts (.fieldLink RX0 25 "RiverModel$Course" "rained" "J") (List.mem_of_getElem? (i := 9) rfl)) (fun _ h9 => h9) rfl dX0_copyFrom_64 ?_
  refine ty_put (D := D) (ci := 0) (v := .long v_9) (ty := .long) (C := RX0) (T := TX0) (N := 8) (F2 := (gF cI cL cC gC gE G gW gA)) hx hb hts in0 tyX0 tyX0_ok nmX0 hown hK hG hS at_28 (by rw [k_a0]; rfl) rfl 4 (by decide) (hts (.fieldLink RX0 25 "RiverModel$Course" "rained" "J") (List.mem_of_getElem? (i := 9) rfl)) (fun _ h9 => h9) rfl (by decide +kernel) rfl rfl (Nat.le_of_ble_eq_true rfl) (by rw [k_a0]; exact ⟨r_15, r_17, r_19, r_21, v_9, v_24, v_25, v_26, rfl, h_16, h_18, h_20, h_22, (by omega)⟩) tFF dX0_copyFrom_67 (fun H locs hG hS at_61 o_62 => ?_)
  have at_61 : va_at D vwCl (a0, .inr (0, [.ref r_15, .ref r_17, .ref r_19, .ref r_21, .long v_9, .long v_24, .long v_25, .int v_26])) H := at_61
  refine lv_aload_n hx hb dX0_copyFrom_70 rfl (lv_at hl 0 rfl) ?_
  refine lv_pc (pc2 := 71) rfl ?_
  refine lv_aload_n hx hb dX0_copyFrom_71 rfl (lv_at hl 1 rfl) ?_
  obtain ⟨r_63, r_65, r_67, r_69, v_71, v_72, v_73, v_74, at_76, h_64, h_66, h_68, h_70, h_75⟩ := gF_o5 hG k_a1
  refine va_get (D := D) (ci := 0) (v := .long v_72) (C := RX0) (T := TX0) (N := 8) hx hb hts in0 hown hK (va_one at_76) 0 rfl rfl 5 (by decide) (hts (.fieldLink RX0 29 "RiverModel$Course" "air" "J") (List.mem_of_getElem? (i := 10) rfl)) (fun _ h9 => h9) rfl dX0_copyFrom_72 ?_
  refine ty_put (D := D) (ci := 0) (v := .long v_72) (ty := .long) (C := RX0) (T := TX0) (N := 8) (F2 := (gF cI cL cC gC gE G gW gA)) hx hb hts in0 tyX0 tyX0_ok nmX0 hown hK hG hS at_61 (by rw [k_a0]; rfl) rfl 5 (by decide) (hts (.fieldLink RX0 29 "RiverModel$Course" "air" "J") (List.mem_of_getElem? (i := 10) rfl)) (fun _ h9 => h9) rfl (by decide +kernel) rfl rfl (Nat.le_of_ble_eq_true rfl) (by rw [k_a0]; exact ⟨r_15, r_17, r_19, r_21, v_9, v_72, v_25, v_26, rfl, h_16, h_18, h_20, h_22, (by omega)⟩) tFF dX0_copyFrom_75 (fun H locs hG hS at_77 o_78 => ?_)
  have at_77 : va_at D vwCl (a0, .inr (0, [.ref r_15, .ref r_17, .ref r_19, .ref r_21, .long v_9, .long v_72, .long v_25, .int v_26])) H := at_77
  refine lv_aload_n hx hb dX0_copyFrom_78 rfl (lv_at hl 0 rfl) ?_
  refine lv_aload_n hx hb dX0_copyFrom_79 rfl (lv_at hl 1 rfl) ?_
  obtain ⟨r_79, r_81, r_83, r_85, v_87, v_88, v_89, v_90, at_92, h_80, h_82, h_84, h_86, h_91⟩ := gF_o5 hG k_a1
  refine va_get (D := D) (ci := 0) (v := .long v_89) (C := RX0) (T := TX0) (N := 8) hx hb hts in0 hown hK (va_one at_92) 0 rfl rfl 6 (by decide) (hts (.fieldLink RX0 32 "RiverModel$Course" "sea" "J") (List.mem_of_getElem? (i := 11) rfl)) (fun _ h9 => h9) rfl dX0_copyFrom_80 ?_
  refine ty_put (D := D) (ci := 0) (v := .long v_89) (ty := .long) (C := RX0) (T := TX0) (N := 8) (F2 := (gF cI cL cC gC gE G gW gA)) hx hb hts in0 tyX0 tyX0_ok nmX0 hown hK hG hS at_77 (by rw [k_a0]; rfl) rfl 6 (by decide) (hts (.fieldLink RX0 32 "RiverModel$Course" "sea" "J") (List.mem_of_getElem? (i := 11) rfl)) (fun _ h9 => h9) rfl (by decide +kernel) rfl rfl (Nat.le_of_ble_eq_true rfl) (by rw [k_a0]; exact ⟨r_15, r_17, r_19, r_21, v_9, v_72, v_89, v_26, rfl, h_16, h_18, h_20, h_22, (by omega)⟩) tFF dX0_copyFrom_83 (fun H locs hG hS at_93 o_94 => ?_)
  have at_93 : va_at D vwCl (a0, .inr (0, [.ref r_15, .ref r_17, .ref r_19, .ref r_21, .long v_9, .long v_72, .long v_89, .int v_26])) H := at_93
  refine lv_aload_n hx hb dX0_copyFrom_86 rfl (lv_at hl 0 rfl) ?_
  refine lv_pc (pc2 := 87) rfl ?_
  refine lv_aload_n hx hb dX0_copyFrom_87 rfl (lv_at hl 1 rfl) ?_
  obtain ⟨r_95, r_97, r_99, r_101, v_103, v_104, v_105, v_106, at_108, h_96, h_98, h_100, h_102, h_107⟩ := gF_o5 hG k_a1
  refine va_get (D := D) (ci := 0) (v := .int v_106) (C := RX0) (T := TX0) (N := 8) hx hb hts in0 hown hK (va_one at_108) 0 rfl rfl 7 (by decide) (hts (.fieldLink RX0 35 "RiverModel$Course" "hours" "I") (List.mem_of_getElem? (i := 12) rfl)) (fun _ h9 => h9) rfl dX0_copyFrom_88 ?_
  refine ty_put (D := D) (ci := 0) (v := .int v_106) (ty := .int) (C := RX0) (T := TX0) (N := 8) (F2 := (gF cI cL cC gC gE G gW gA)) hx hb hts in0 tyX0 tyX0_ok nmX0 hown hK hG hS at_93 (by rw [k_a0]; rfl) rfl 7 (by decide) (hts (.fieldLink RX0 35 "RiverModel$Course" "hours" "I") (List.mem_of_getElem? (i := 12) rfl)) (fun _ h9 => h9) rfl (by decide +kernel) rfl rfl (Nat.le_of_ble_eq_true rfl) (by rw [k_a0]; exact ⟨r_15, r_17, r_19, r_21, v_9, v_72, v_89, v_106, rfl, h_16, h_18, h_20, h_22, (by omega)⟩) tFF dX0_copyFrom_91 (fun H locs hG hS at_109 o_110 => ?_)
  have at_109 : va_at D vwCl (a0, .inr (0, [.ref r_15, .ref r_17, .ref r_19, .ref r_21, .long v_9, .long v_72, .long v_89, .int v_106])) H := at_109
  exact ty_vret hx hb hr hlk hG hS True.intro dX0_copyFrom_94

def uX0_bringDue : List Cond := .code yX0_bringDue cX0_bringDue 3 none :: ([.fieldLink RX0 35 "RiverModel$Course" "hours" "I", .fieldLink RX0 9 "RiverModel$Course" "held" "[J", .fieldLink RX0 22 "RiverModel$Course" "due" "[J"] ++ wsX00)
set_option maxHeartbeats 4000000 in
set_option maxRecDepth 100000 in
theorem s_X0_bringDue (l : Launch) (D : va_G) (t : Nat → Nat) (cI cL cC : ClassId) (gC : Int32) (gE : Int32) (G : Nat) (gW : Nat → Int32) (gA : Nat → Int32) (a0 : Nat) (k_a0 : t a0 = 5) : tM l yX0_bringDue uX0_bringDue 0 0 D (gF cI cL cC gC gE G gW gA) (gF cI cL cC gC gE G gW gA) t cI cL cC [.ref a0] wrC (pV (True)) := by
  refine tM.ofW (cc := cX0_bringDue) (maxL := 3) (ret := none) (by decide) rfl (Nat.le_of_ble_eq_true rfl) ?_
  intro p e s m below meth c hx hb hr hml hown hts hlk H locs hG hK hE hS ls hl
  have hl : lv_has ls 3 [(0, .ref a0)] := hl
  have in0 : ∀ w ∈ wsX00, w ∈ uX0_bringDue := fun w h => List.mem_cons_of_mem _ (List.mem_append_right _ h)
  refine lv_aload_n hx hb dX0_bringDue_0 rfl (lv_at hl 0 rfl) ?_
  obtain ⟨r_1, r_3, r_5, r_7, v_9, v_10, v_11, v_12, at_14, h_2, h_4, h_6, h_8, h_13⟩ := gF_o5 hG k_a0
  refine va_get (D := D) (ci := 0) (v := .int v_12) (C := RX0) (T := TX0) (N := 8) hx hb hts in0 hown hK (va_one at_14) 0 rfl rfl 7 (by decide) (hts (.fieldLink RX0 35 "RiverModel$Course" "hours" "I") (List.mem_of_getElem? (i := 1) rfl)) (fun _ h9 => h9) rfl dX0_bringDue_1 ?_
  refine lv_bipush (v := 13) hx hb dX0_bringDue_4 (by decide) ?_
  refine lv_irem hx hb dX0_bringDue_6 (by decide) ?_
  refine lv_topi (fun x_15 e_16 => ?_)
  have i_x_15 : 0 ≤ x_15.toInt ∧ x_15.toInt < 13 := by rw [e_16]; exact q_rem (n := 13) rfl (by decide) (by omega)
  refine lv_bipush (v := 16) hx hb dX0_bringDue_7 (by decide) ?_
  refine lv_imul hx hb dX0_bringDue_9 ?_
  refine lv_topi (fun x_17 e_18 => ?_)
  have i_x_17 : x_17.toInt = x_15.toInt * 16 := by rw [e_18]; exact (q_mul (by rw [show (16 : Int32).toInt = 16 by decide]; omega) (by rw [show (16 : Int32).toInt = 16 by decide]; omega)).trans (by rw [show (16 : Int32).toInt = 16 by decide])
  refine lv_istore_n (lv' := [(1, .int x_17), (0, .ref a0)]) hx hb dX0_bringDue_10 rfl hl (by decide) rfl (fun ls hl => ?_)
  refine lv_pc (pc2 := 11) rfl ?_
  refine lv_iconst (v := 0) hx hb dX0_bringDue_11 (by decide) ?_
  refine lv_istore_n (lv' := [(2, .int 0), (1, .int x_17), (0, .ref a0)]) hx hb dX0_bringDue_12 rfl hl (by decide) rfl (fun ls hl => ?_)
  refine lv_pc (pc2 := 13) rfl ?_
  refine lp_gen (fun WW hWW => ?_)
  have kx : ∀ (yk : Int32) (H1 : Heap) (locs1 : List Loc) (ls1 : Array Slot), 0 ≤ yk.toInt → yk.toInt ≤ 16 → tG D (gF cI cL cC gC gE G gW gA) t H1 → tF t wrC s.heap H1 locs1 → lv_has ls1 3 [(2, .int yk), (1, .int x_17), (0, .ref a0)] → WW H1 locs1 (F0 m 51 ls1 []) := by
    intro yk H locs ls v0 v1 hG hS hl
    refine (hWW _ _ _).mpr ?_
    exact ty_vret hx hb hr hlk hG hS True.intro dX0_bringDue_51
  have loop : ∀ (k : Nat) (yk : Int32) (H1 : Heap) (locs1 : List Loc) (ls1 : Array Slot), 16 - yk.toInt ≤ (k : Int) → 0 ≤ yk.toInt → yk.toInt ≤ 16 → tG D (gF cI cL cC gC gE G gW gA) t H1 → tF t wrC s.heap H1 locs1 → lv_has ls1 3 [(2, .int yk), (1, .int x_17), (0, .ref a0)] → WW H1 locs1 (F0 m 13 ls1 []) := by
    intro k
    induction k with
    | zero =>
      intro yk H locs ls hk v0 v1 hG hS hl
      refine (hWW _ _ _).mpr ?_
      refine lv_iload_n hx hb dX0_bringDue_13 rfl (lv_at hl 0 rfl) ?_
      refine lv_bipush (v := 16) hx hb dX0_bringDue_14 (by decide) ?_
      refine lv_icmp_ge (tgt := 51) hx hb dX0_bringDue_16 (by decide) (fun c_19 => ?_) (fun c_19 => ?_)
      · skip
        have c_19 : 16 ≤ yk.toInt := q_le c_19
        exact (hWW _ _ _).mp (kx yk H locs ls (by omega) (by omega) hG hS (lv_sub hl [0, 1, 2] rfl))
      · skip
        have c_19 : yk.toInt < 16 := q_nle c_19
        refine lv_aload_n hx hb dX0_bringDue_19 rfl (lv_at hl 2 rfl) ?_
        obtain ⟨r_20, r_22, r_24, r_26, v_28, v_29, v_30, v_31, at_33, h_21, h_23, h_25, h_27, h_32⟩ := gF_o5 hG k_a0
        refine va_get (D := D) (ci := 0) (v := .ref r_20) (C := RX0) (T := TX0) (N := 8) hx hb hts in0 hown hK (va_one at_33) 0 rfl rfl 0 (by decide) (hts (.fieldLink RX0 9 "RiverModel$Course" "held" "[J") (List.mem_of_getElem? (i := 2) rfl)) (fun _ h9 => h9) rfl dX0_bringDue_20 ?_
        refine lv_pc (pc2 := 23) rfl ?_
        refine lv_iload_n hx hb dX0_bringDue_23 rfl (lv_at hl 0 rfl) ?_
        refine lv_dup2_11 hx hb dX0_bringDue_24 rfl rfl ?_
        obtain ⟨f_34, at_35⟩ := gF_o17 hG h_21
        have b_36 : vp_in yk 16 := (q_in (by omega) (by omega))
        refine va_lald hx hb hK (va_one at_35) 0 1 rfl rfl b_36 dX0_bringDue_25 ?_
        refine lv_topl (fun z_37 e_38 => ?_)
        refine lv_aload_n hx hb dX0_bringDue_26 rfl (lv_at hl 2 rfl) ?_
        refine va_get (D := D) (ci := 0) (v := .ref r_26) (C := RX0) (T := TX0) (N := 8) hx hb hts in0 hown hK (va_one at_33) 0 rfl rfl 3 (by decide) (hts (.fieldLink RX0 22 "RiverModel$Course" "due" "[J") (List.mem_of_getElem? (i := 3) rfl)) (fun _ h9 => h9) rfl dX0_bringDue_27 ?_
        refine lv_iload_n hx hb dX0_bringDue_30 rfl (lv_at hl 1 rfl) ?_
        refine lv_iload_n hx hb dX0_bringDue_31 rfl (lv_at hl 0 rfl) ?_
        refine lv_iadd hx hb dX0_bringDue_32 ?_
        refine lv_topi (fun x_39 e_40 => ?_)
        have i_x_39 : x_39.toInt = x_17.toInt + yk.toInt := by rw [e_40]; exact (q_add (by omega) (by omega)).trans (by rfl)
        refine lv_pc (pc2 := 33) rfl ?_
        obtain ⟨f_41, at_42⟩ := gF_o20 hG h_27
        have b_43 : vp_in x_39 208 := (q_in (by omega) (by omega))
        refine va_lald hx hb hK (va_one at_42) 0 1 rfl rfl b_43 dX0_bringDue_33 ?_
        refine lv_topl (fun z_44 e_45 => ?_)
        refine lv_ladd hx hb dX0_bringDue_34 ?_
        refine lv_topl (fun z_46 e_47 => ?_)
        have b_48 : vp_in yk 16 := (q_in (by omega) (by omega))
        refine ty_last (F2 := (gF cI cL cC gC gE G gW gA)) hx hb hK hG hS 1 at_35 (by rw [h_21]; rfl) rfl b_48 (by rw [h_21]; exact ⟨_, rfl⟩) tFF dX0_bringDue_35 (fun H locs hG hS at_49 o_50 => ?_)
        have at_33 := va_at.keptK at_33 o_50 h_21 k_a0 rfl
        have at_42 := va_at.keptK at_42 o_50 h_21 h_27 rfl
        refine lv_aload_n hx hb dX0_bringDue_36 rfl (lv_at hl 2 rfl) ?_
        refine va_get (D := D) (ci := 0) (v := .ref r_26) (C := RX0) (T := TX0) (N := 8) hx hb hts in0 hown hK (va_one at_33) 0 rfl rfl 3 (by decide) (hts (.fieldLink RX0 22 "RiverModel$Course" "due" "[J") (List.mem_of_getElem? (i := 3) rfl)) (fun _ h9 => h9) rfl dX0_bringDue_37 ?_
        refine lv_iload_n hx hb dX0_bringDue_40 rfl (lv_at hl 1 rfl) ?_
        refine lv_iload_n hx hb dX0_bringDue_41 rfl (lv_at hl 0 rfl) ?_
        refine lv_iadd hx hb dX0_bringDue_42 ?_
        refine lv_topi (fun x_51 e_52 => ?_)
        have i_x_51 : x_51.toInt = x_17.toInt + yk.toInt := by rw [e_52]; exact (q_add (by omega) (by omega)).trans (by rfl)
        refine lv_pc (pc2 := 43) rfl ?_
        refine lv_lconst (v := 0) hx hb dX0_bringDue_43 (by decide) ?_
        have b_53 : vp_in x_51 208 := (q_in (by omega) (by omega))
        refine ty_last (F2 := (gF cI cL cC gC gE G gW gA)) hx hb hK hG hS 1 at_42 (by rw [h_27]; rfl) rfl b_53 (by rw [h_27]; exact ⟨_, rfl⟩) tFF dX0_bringDue_44 (fun H locs hG hS at_54 o_55 => ?_)
        have at_33 := va_at.keptK at_33 o_55 h_27 k_a0 rfl
        obtain ⟨x_56, e_57⟩ : ∃ y : Int32, y = yk + Int32.ofInt 1 := ⟨_, rfl⟩
        have i_x_56 : x_56.toInt = yk.toInt + 1 := by rw [e_57, show Int32.ofInt 1 = 1 by decide]; exact (q_add (by rw [show (1 : Int32).toInt = 1 by decide]; omega) (by rw [show (1 : Int32).toInt = 1 by decide]; omega)).trans (by rw [show (1 : Int32).toInt = 1 by decide])
        refine lv_iinc (v := x_56) (lv' := [(2, .int x_56), (1, .int x_17), (0, .ref a0)]) hx hb dX0_bringDue_45 hl (k := 0) rfl e_57.symm (by decide) rfl (fun ls hl => ?_)
        refine lv_goto (tgt := 13) hx hb dX0_bringDue_48 (by decide) ?_
        exfalso; omega
    | succ k ih =>
      intro yk H locs ls hk v0 v1 hG hS hl
      refine (hWW _ _ _).mpr ?_
      refine lv_iload_n hx hb dX0_bringDue_13 rfl (lv_at hl 0 rfl) ?_
      refine lv_bipush (v := 16) hx hb dX0_bringDue_14 (by decide) ?_
      refine lv_icmp_ge (tgt := 51) hx hb dX0_bringDue_16 (by decide) (fun c_58 => ?_) (fun c_58 => ?_)
      · skip
        have c_58 : 16 ≤ yk.toInt := q_le c_58
        exact (hWW _ _ _).mp (kx yk H locs ls (by omega) (by omega) hG hS (lv_sub hl [0, 1, 2] rfl))
      · skip
        have c_58 : yk.toInt < 16 := q_nle c_58
        refine lv_aload_n hx hb dX0_bringDue_19 rfl (lv_at hl 2 rfl) ?_
        refine lv_pc (pc2 := 20) rfl ?_
        obtain ⟨r_59, r_61, r_63, r_65, v_67, v_68, v_69, v_70, at_72, h_60, h_62, h_64, h_66, h_71⟩ := gF_o5 hG k_a0
        refine va_get (D := D) (ci := 0) (v := .ref r_59) (C := RX0) (T := TX0) (N := 8) hx hb hts in0 hown hK (va_one at_72) 0 rfl rfl 0 (by decide) (hts (.fieldLink RX0 9 "RiverModel$Course" "held" "[J") (List.mem_of_getElem? (i := 2) rfl)) (fun _ h9 => h9) rfl dX0_bringDue_20 ?_
        refine lv_iload_n hx hb dX0_bringDue_23 rfl (lv_at hl 0 rfl) ?_
        refine lv_dup2_11 hx hb dX0_bringDue_24 rfl rfl ?_
        obtain ⟨f_73, at_74⟩ := gF_o17 hG h_60
        have b_75 : vp_in yk 16 := (q_in (by omega) (by omega))
        refine va_lald hx hb hK (va_one at_74) 0 1 rfl rfl b_75 dX0_bringDue_25 ?_
        refine lv_topl (fun z_76 e_77 => ?_)
        refine lv_aload_n hx hb dX0_bringDue_26 rfl (lv_at hl 2 rfl) ?_
        refine va_get (D := D) (ci := 0) (v := .ref r_65) (C := RX0) (T := TX0) (N := 8) hx hb hts in0 hown hK (va_one at_72) 0 rfl rfl 3 (by decide) (hts (.fieldLink RX0 22 "RiverModel$Course" "due" "[J") (List.mem_of_getElem? (i := 3) rfl)) (fun _ h9 => h9) rfl dX0_bringDue_27 ?_
        refine lv_iload_n hx hb dX0_bringDue_30 rfl (lv_at hl 1 rfl) ?_
        refine lv_iload_n hx hb dX0_bringDue_31 rfl (lv_at hl 0 rfl) ?_
        refine lv_pc (pc2 := 32) rfl ?_
        refine lv_iadd hx hb dX0_bringDue_32 ?_
        refine lv_topi (fun x_78 e_79 => ?_)
        have i_x_78 : x_78.toInt = x_17.toInt + yk.toInt := by rw [e_79]; exact (q_add (by omega) (by omega)).trans (by rfl)
        obtain ⟨f_80, at_81⟩ := gF_o20 hG h_66
        have b_82 : vp_in x_78 208 := (q_in (by omega) (by omega))
        refine va_lald hx hb hK (va_one at_81) 0 1 rfl rfl b_82 dX0_bringDue_33 ?_
        refine lv_topl (fun z_83 e_84 => ?_)
        refine lv_ladd hx hb dX0_bringDue_34 ?_
        refine lv_topl (fun z_85 e_86 => ?_)
        have b_87 : vp_in yk 16 := (q_in (by omega) (by omega))
        refine ty_last (F2 := (gF cI cL cC gC gE G gW gA)) hx hb hK hG hS 1 at_74 (by rw [h_60]; rfl) rfl b_87 (by rw [h_60]; exact ⟨_, rfl⟩) tFF dX0_bringDue_35 (fun H locs hG hS at_88 o_89 => ?_)
        have at_72 := va_at.keptK at_72 o_89 h_60 k_a0 rfl
        have at_81 := va_at.keptK at_81 o_89 h_60 h_66 rfl
        refine lv_aload_n hx hb dX0_bringDue_36 rfl (lv_at hl 2 rfl) ?_
        refine va_get (D := D) (ci := 0) (v := .ref r_65) (C := RX0) (T := TX0) (N := 8) hx hb hts in0 hown hK (va_one at_72) 0 rfl rfl 3 (by decide) (hts (.fieldLink RX0 22 "RiverModel$Course" "due" "[J") (List.mem_of_getElem? (i := 3) rfl)) (fun _ h9 => h9) rfl dX0_bringDue_37 ?_
        refine lv_iload_n hx hb dX0_bringDue_40 rfl (lv_at hl 1 rfl) ?_
        refine lv_iload_n hx hb dX0_bringDue_41 rfl (lv_at hl 0 rfl) ?_
        refine lv_pc (pc2 := 42) rfl ?_
        refine lv_iadd hx hb dX0_bringDue_42 ?_
        refine lv_topi (fun x_90 e_91 => ?_)
        have i_x_90 : x_90.toInt = x_17.toInt + yk.toInt := by rw [e_91]; exact (q_add (by omega) (by omega)).trans (by rfl)
        refine lv_lconst (v := 0) hx hb dX0_bringDue_43 (by decide) ?_
        have b_92 : vp_in x_90 208 := (q_in (by omega) (by omega))
        refine ty_last (F2 := (gF cI cL cC gC gE G gW gA)) hx hb hK hG hS 1 at_81 (by rw [h_66]; rfl) rfl b_92 (by rw [h_66]; exact ⟨_, rfl⟩) tFF dX0_bringDue_44 (fun H locs hG hS at_93 o_94 => ?_)
        have at_72 := va_at.keptK at_72 o_94 h_66 k_a0 rfl
        obtain ⟨x_95, e_96⟩ : ∃ y : Int32, y = yk + Int32.ofInt 1 := ⟨_, rfl⟩
        have i_x_95 : x_95.toInt = yk.toInt + 1 := by rw [e_96, show Int32.ofInt 1 = 1 by decide]; exact (q_add (by rw [show (1 : Int32).toInt = 1 by decide]; omega) (by rw [show (1 : Int32).toInt = 1 by decide]; omega)).trans (by rw [show (1 : Int32).toInt = 1 by decide])
        refine lv_iinc (v := x_95) (lv' := [(2, .int x_95), (1, .int x_17), (0, .ref a0)]) hx hb dX0_bringDue_45 hl (k := 0) rfl e_96.symm (by decide) rfl (fun ls hl => ?_)
        refine lv_goto (tgt := 13) hx hb dX0_bringDue_48 (by decide) ?_
        exact (hWW _ _ _).mp (ih x_95 H locs ls (by omega) (by omega) (by omega) hG hS (lv_sub hl [0, 1, 2] rfl))
  have hz_yk : (0 : Int32).toInt = 0 := by decide
  exact loop (16 - 0 : Int).toNat 0 H locs ls (by omega) (by omega) (by omega) hG hS (lv_sub hl [0, 1, 2] rfl)

def uX0_leakOf : List Cond := .code yX0_leakOf cX0_leakOf 8 (some .long) :: ([])
set_option maxHeartbeats 4000000 in
set_option maxRecDepth 100000 in
theorem s_X0_leakOf (l : Launch) (D : va_G) (t : Nat → Nat) (cI cL cC : ClassId) (gC : Int32) (gE : Int32) (G : Nat) (gW : Nat → Int32) (gA : Nat → Int32) (a0 : Int64) (a1 : Int64) (a2 : Int64) (a3 : Int64) : tM l yX0_leakOf uX0_leakOf 0 0 D (gF cI cL cC gC gE G gW gA) (gF cI cL cC gC gE G gW gA) t cI cL cC [.long a0, .long a1, .long a2, .long a3] wr0 (pL (fun r => True)) := by
  refine tM.ofW (cc := cX0_leakOf) (maxL := 8) (ret := (some .long)) (by decide) rfl (Nat.le_of_ble_eq_true rfl) ?_
  intro p e s m below meth c hx hb hr hml hown hts hlk H locs hG hK hE hS ls hl
  have hl : lv_has ls 8 [(0, .long a0), (2, .long a1), (4, .long a2), (6, .long a3)] := hl
  skip
  refine lv_lload_n hx hb dX0_leakOf_0 rfl (lv_at hl 0 rfl) ?_
  refine lv_lload hx hb dX0_leakOf_1 (lv_at hl 3 rfl) ?_
  refine W.lcmp hx hb dX0_leakOf_3 ?_
  refine lv_if_le (tgt := 26) hx hb dX0_leakOf_4 (by decide) (fun c_1 => ?_) (fun c_1 => ?_)
  · skip
    have c_1 : a0.toInt ≤ a3.toInt := q_cmp_le c_1
    refine lv_lconst (v := 0) hx hb dX0_leakOf_26 (by decide) ?_
    exact ty_lret hx hb hr hlk hG hS True.intro dX0_leakOf_27
  · skip
    have c_1 : a3.toInt < a0.toInt := q_cmp_nle c_1
    refine lv_lload hx hb dX0_leakOf_7 (lv_at hl 2 rfl) ?_
    refine lv_pc (pc2 := 9) rfl ?_
    refine lv_lconst (v := 0) hx hb dX0_leakOf_9 (by decide) ?_
    refine W.lcmp hx hb dX0_leakOf_10 ?_
    refine lv_if_le (tgt := 26) hx hb dX0_leakOf_11 (by decide) (fun c_2 => ?_) (fun c_2 => ?_)
    · skip
      have c_2 : a2.toInt ≤ 0 := q_cmp_le c_2
      refine lv_lconst (v := 0) hx hb dX0_leakOf_26 (by decide) ?_
      exact ty_lret hx hb hr hlk hG hS True.intro dX0_leakOf_27
    · skip
      have c_2 : 0 < a2.toInt := q_cmp_nle c_2
      refine lv_lload_n hx hb dX0_leakOf_14 rfl (lv_at hl 0 rfl) ?_
      refine lv_lload hx hb dX0_leakOf_15 (lv_at hl 3 rfl) ?_
      refine lv_lsub hx hb dX0_leakOf_17 ?_
      refine lv_topl (fun z_3 e_4 => ?_)
      refine lv_pc (pc2 := 18) rfl ?_
      refine lv_lload_n hx hb dX0_leakOf_18 rfl (lv_at hl 1 rfl) ?_
      refine lv_lmul hx hb dX0_leakOf_19 ?_
      refine lv_topl (fun z_5 e_6 => ?_)
      refine lv_lload hx hb dX0_leakOf_20 (lv_at hl 2 rfl) ?_
      refine lv_ldiv hx hb dX0_leakOf_22 (by intro h; have := qL_eq h; simp at this; omega) ?_
      refine lv_topl (fun z_7 e_8 => ?_)
      refine lv_goto (tgt := 27) hx hb dX0_leakOf_23 (by decide) ?_
      exact ty_lret hx hb hr hlk hG hS True.intro dX0_leakOf_27

def uX0_openingOf : List Cond := .code yX0_openingOf cX0_openingOf 2 (some .long) :: ([.initialized RX9, .static yX9_isNoGate, .fieldLink RX0 18 "RiverModel$Course" "openings" "[I", .code yX9_isNoGate cX9_isNoGate 1 (some .boolean)] ++ wsX00)
set_option maxRecDepth 20000 in
theorem gu_X0_openingOf_X9_isNoGate_n : GoodIn uX0_openingOf (uX9_isNoGate) := goodIn_r _ [4] rfl (by decide +kernel)
set_option maxHeartbeats 4000000 in
set_option maxRecDepth 100000 in
theorem s_X0_openingOf (l : Launch) (D : va_G) (t : Nat → Nat) (cI cL cC : ClassId) (gC : Int32) (gE : Int32) (G : Nat) (gW : Nat → Int32) (gA : Nat → Int32) (a0 : Nat) (a1 : Int32) (k_a0 : t a0 = 5) : tM l yX0_openingOf uX0_openingOf 1 20 D (gF cI cL cC gC gE G gW gA) (gF cI cL cC gC gE G gW gA) t cI cL cC [.ref a0, .int a1] wr0 (pL (fun r => True)) := by
  refine tM.ofW (cc := cX0_openingOf) (maxL := 2) (ret := (some .long)) (by decide) rfl (Nat.le_of_ble_eq_true rfl) ?_
  intro p e s m below meth c hx hb hr hml hown hts hlk H locs hG hK hE hS ls hl
  have hl : lv_has ls 2 [(0, .ref a0), (1, .int a1)] := hl
  have in0 : ∀ w ∈ wsX00, w ∈ uX0_openingOf := fun w h => List.mem_cons_of_mem _ (List.mem_append_right _ h)
  refine lv_iload_n hx hb dX0_openingOf_0 rfl (lv_at hl 1 rfl) ?_
  refine ty_calli (tRun (va_runSN (As := [.int a1]) (rest := []) ⟨hx, hb, hml, hown, hts⟩ (s_X9_isNoGate l D t cI cL cC gC gE G gW gA a1 ) ⟨(va_cnB 1 hts gu_X0_openingOf_X9_isNoGate_n rfl rfl rfl (hE.2.1 _ (List.mem_of_getElem? (i := 13) rfl)) (hts (.initialized RX9) (List.mem_of_getElem? (i := 1) rfl)) (by decide +kernel) ⟨Nat.le_of_ble_eq_true rfl, Nat.le_of_ble_eq_true rfl⟩), (hts (.static yX9_isNoGate) (List.mem_of_getElem? (i := 2) rfl)), trivial⟩ (tP_S hG hE) rfl rfl hl.1 rfl (lv_room (Nat.le_of_ble_eq_true rfl)) dX0_openingOf_1 ⟨Nat.le_of_ble_eq_true rfl, Nat.le_of_ble_eq_true rfl⟩)) hS (fun _ h => h) (fun r_1 H locs hp_2 hG hS o_3 => ?_)
  rcases hp_2 with ⟨rfl, hc_30⟩ | ⟨rfl, hc_31, hc_32⟩
  · skip
    refine lv_if_eq (tgt := 11) hx hb dX0_openingOf_4 (by decide) (fun q => absurd q (by decide)) (fun _ => ?_)
    refine lv_lconst (v := 0) hx hb dX0_openingOf_7 (by decide) ?_
    refine lv_goto (tgt := 18) hx hb dX0_openingOf_8 (by decide) ?_
    exact ty_lret hx hb hr hlk hG hS True.intro dX0_openingOf_18
  · skip
    refine lv_if_eq (tgt := 11) hx hb dX0_openingOf_4 (by decide) (fun _ => ?_) (fun q => absurd (by decide) q)
    refine lv_pc (pc2 := 11) rfl ?_
    refine lv_aload_n hx hb dX0_openingOf_11 rfl (lv_at hl 0 rfl) ?_
    obtain ⟨r_4, r_6, r_8, r_10, v_12, v_13, v_14, v_15, at_17, h_5, h_7, h_9, h_11, h_16⟩ := gF_o5 hG k_a0
    refine va_get (D := D) (ci := 0) (v := .ref r_8) (C := RX0) (T := TX0) (N := 8) hx hb hts in0 hown hK (va_one at_17) 0 rfl rfl 2 (by decide) (hts (.fieldLink RX0 18 "RiverModel$Course" "openings" "[I") (List.mem_of_getElem? (i := 3) rfl)) (fun _ h9 => h9) rfl dX0_openingOf_12 ?_
    refine lv_iload_n hx hb dX0_openingOf_15 rfl (lv_at hl 1 rfl) ?_
    obtain ⟨f_18, at_19⟩ := gF_o19 hG h_9
    have b_20 : vp_in a1 4 := (q_in (by omega) (by omega))
    refine va_iald hx hb hK (va_one at_19) 0 0 rfl rfl b_20 dX0_openingOf_16 ?_
    refine lv_topi (fun x_21 e_22 => ?_)
    refine lv_i2l (v := x_21.toInt64) hx hb dX0_openingOf_17 rfl ?_
    exact ty_lret hx hb hr hlk hG hS True.intro dX0_openingOf_18

def uX0_amountOf : List Cond := .code yX0_amountOf cX0_amountOf 11 (some .long) :: ([.methodLink RX0 86 yX4_cell, .instanceMethod yX4_cell, .selects RX4 yX4_cell yX4_cell, .initialized RX4, .initialized RX9, .static yX9_isNoStore, .fieldLink RX0 9 "RiverModel$Course" "held" "[J", .methodLink RX0 110 yX4_gateOf, .instanceMethod yX4_gateOf, .selects RX4 yX4_gateOf yX4_gateOf, .methodLink RX0 113 yX0_openingOf, .instanceMethod yX0_openingOf, .selects RX0 yX0_openingOf yX0_openingOf, .initialized RX0, .methodLink RX0 107 Lib.MathLoose.min_long.x, .static Lib.MathLoose.min_long.x, .initialized "java/lang/Math", .code Lib.MathLoose.min_long.x Lib.MathLoose.min_long.code 4 (some .long), .methodLink RX0 94 yX0_leakOf, .static yX0_leakOf, .constantLong RX0 117 (100), .methodLink RX0 98 yX4_capacityOf, .instanceMethod yX4_capacityOf, .selects RX4 yX4_capacityOf yX4_capacityOf, .methodLink RX0 101 Lib.MathLoose.max_long.x, .static Lib.MathLoose.max_long.x, .code Lib.MathLoose.max_long.x Lib.MathLoose.max_long.code 4 (some .long), .constantLong RX0 119 (10), .code yX4_cell cX4_cell 3 (some .int), .fieldLink RX4 9 "RiverModel$Model" "cells" "[I", .code yX9_isNoStore cX9_isNoStore 1 (some .boolean), .code yX4_gateOf cX4_gateOf 3 (some .int), .fieldLink RX4 28 "RiverModel$Model" "gates" "I", .fieldLink RX4 18 "RiverModel$Model" "gateItems" "[I", .code yX0_openingOf cX0_openingOf 2 (some .long), .static yX9_isNoGate, .fieldLink RX0 18 "RiverModel$Course" "openings" "[I", .code yX9_isNoGate cX9_isNoGate 1 (some .boolean), .code yX0_leakOf cX0_leakOf 8 (some .long), .code yX4_capacityOf cX4_capacityOf 2 (some .int), .methodLink RX4 66 yX4_hasStore, .instanceMethod yX4_hasStore, .selects RX4 yX4_hasStore yX4_hasStore, .fieldLink RX4 15 "RiverModel$Model" "storeItems" "[I", .methodLink RX4 73 yX4_cell, .code yX4_hasStore cX4_hasStore 2 (some .boolean)] ++ wsX00 ++ wsX40)
set_option maxRecDepth 20000 in
theorem gu_X0_amountOf_X4_cell_86 : GoodIn uX0_amountOf (wsV RX0 86 RX4 yX4_cell uX4_cell) := goodIn_r _ [1, 2, 3, 4, 29, 30, 55, 56, 57, 58, 59, 60] rfl (by decide +kernel)
set_option maxRecDepth 20000 in
theorem gu_X0_amountOf_X9_isNoStore_n : GoodIn uX0_amountOf (uX9_isNoStore) := goodIn_r _ [31] rfl (by decide +kernel)
set_option maxRecDepth 20000 in
theorem gu_X0_amountOf_X4_gateOf_110 : GoodIn uX0_amountOf (wsV RX0 110 RX4 yX4_gateOf uX4_gateOf) := goodIn_r _ [8, 9, 10, 4, 32, 33, 34, 55, 56, 57, 58, 59, 60] rfl (by decide +kernel)
set_option maxRecDepth 20000 in
theorem gu_X0_amountOf_X0_openingOf_113 : GoodIn uX0_amountOf (wsV RX0 113 RX0 yX0_openingOf uX0_openingOf) := goodIn_r _ [11, 12, 13, 14, 35, 5, 36, 37, 38, 47, 48, 49, 50, 51, 52, 53, 54] rfl (by decide +kernel)
set_option maxRecDepth 20000 in
theorem gu_X0_amountOf_X0_leakOf_94 : GoodIn uX0_amountOf (va_wsS RX0 94 yX0_leakOf uX0_leakOf) := goodIn_r _ [19, 20, 14, 39] rfl (by decide +kernel)
set_option maxRecDepth 20000 in
theorem gu_X0_amountOf_X4_capacityOf_98 : GoodIn uX0_amountOf (wsV RX0 98 RX4 yX4_capacityOf uX4_capacityOf) := goodIn_r _ [22, 23, 24, 4, 40, 41, 42, 43, 4, 44, 45, 2, 3, 46, 29, 30, 55, 56, 57, 58, 59, 60] rfl (by decide +kernel)
set_option maxHeartbeats 4000000 in
set_option maxRecDepth 100000 in
theorem s_X0_amountOf (l : Launch) (D : va_G) (t : Nat → Nat) (cI cL cC : ClassId) (gC : Int32) (gE : Int32) (G : Nat) (gW : Nat → Int32) (gA : Nat → Int32) (a0 : Nat) (a1 : Nat) (a2 : Int32) (a3 : Int32) (a4 : Int32) (k_a0 : t a0 = 5) (k_a1 : t a1 = 3) : tM l yX0_amountOf uX0_amountOf 2 43 D (gF cI cL cC gC gE G gW gA) (gF cI cL cC gC gE G gW gA) t cI cL cC [.ref a0, .ref a1, .int a2, .int a3, .int a4] wr0 (pL (fun r => True)) := by
  refine tM.ofW (cc := cX0_amountOf) (maxL := 11) (ret := (some .long)) (by decide) rfl (Nat.le_of_ble_eq_true rfl) ?_
  intro p e s m below meth c hx hb hr hml hown hts hlk H locs hG hK hE hS ls hl
  have hl : lv_has ls 11 [(0, .ref a0), (1, .ref a1), (2, .int a2), (3, .int a3), (4, .int a4)] := hl
  have in0 : ∀ w ∈ wsX00, w ∈ uX0_amountOf := fun w h => List.mem_cons_of_mem _ (List.mem_append_left _ (List.mem_append_right _ h))
  refine lv_aload_n hx hb dX0_amountOf_0 rfl (lv_at hl 1 rfl) ?_
  refine lv_iload_n hx hb dX0_amountOf_1 rfl (lv_at hl 2 rfl) ?_
  refine lv_iconst (v := 1) hx hb dX0_amountOf_2 (by decide) ?_
  obtain ⟨r_1, r_3, r_5, v_7, v_8, v_9, at_11, h_2, h_4, h_6, h_10⟩ := gF_o3 hG k_a1
  refine ty_calli ((W.runV (As := [.int a2, .int 1]) (rest := []) ⟨hx, hb, hml, hown, hts⟩ (s_X4_cell l D t cI cL cC gC gE G gW gA a1 a2 1 k_a1) (cwV 2 hts gu_X0_amountOf_X4_cell_86 rfl rfl rfl (by decide +kernel) ⟨Nat.le_of_ble_eq_true rfl, Nat.le_of_ble_eq_true rfl⟩) (tP_V hG hE at_11 rfl) rfl rfl hl.1 rfl (lv_room (Nat.le_of_ble_eq_true rfl)) dX0_amountOf_3 ⟨Nat.le_of_ble_eq_true rfl, Nat.le_of_ble_eq_true rfl⟩)) hS (fun _ h => h) (fun r_12 H locs hp_13 hG hS o_14 => ?_)
  have at_11 := va_at.keptC at_11 o_14 k_a1 rfl
  refine lv_istore (lv' := [(5, .int r_12), (0, .ref a0), (1, .ref a1), (2, .int a2), (3, .int a3), (4, .int a4)]) hx hb dX0_amountOf_6 hl (by decide) rfl (fun ls hl => ?_)
  refine lv_iload hx hb dX0_amountOf_8 (lv_at hl 0 rfl) ?_
  refine ty_calli (tRun (va_runSN (As := [.int r_12]) (rest := []) ⟨hx, hb, hml, hown, hts⟩ (s_X9_isNoStore l D t cI cL cC gC gE G gW gA r_12 ) ⟨(va_cnB 1 hts gu_X0_amountOf_X9_isNoStore_n rfl rfl rfl (hE.2.1 _ (List.mem_of_getElem? (i := 12) rfl)) (hts (.initialized RX9) (List.mem_of_getElem? (i := 5) rfl)) (by decide +kernel) ⟨Nat.le_of_ble_eq_true rfl, Nat.le_of_ble_eq_true rfl⟩), (hts (.static yX9_isNoStore) (List.mem_of_getElem? (i := 6) rfl)), trivial⟩ (tP_S hG hE) rfl rfl hl.1 rfl (lv_room (Nat.le_of_ble_eq_true rfl)) dX0_amountOf_10 ⟨Nat.le_of_ble_eq_true rfl, Nat.le_of_ble_eq_true rfl⟩)) hS (fun _ h => h) (fun r_15 H locs hp_16 hG hS o_17 => ?_)
  have at_11 := va_at.keptC at_11 o_17 k_a1 rfl
  rcases hp_16 with ⟨rfl, hc_33⟩ | ⟨rfl, hc_34, hc_35⟩
  · skip
    refine lv_pc (pc2 := 13) rfl ?_
    refine lv_if_eq (tgt := 18) hx hb dX0_amountOf_13 (by decide) (fun q => absurd q (by decide)) (fun _ => ?_)
    refine lv_lconst (v := 0) hx hb dX0_amountOf_16 (by decide) ?_
    exact ty_lret hx hb hr hlk hG hS True.intro dX0_amountOf_17
  · skip
    refine lv_if_eq (tgt := 18) hx hb dX0_amountOf_13 (by decide) (fun _ => ?_) (fun q => absurd (by decide) q)
    refine lv_aload_n hx hb dX0_amountOf_18 rfl (lv_at hl 1 rfl) ?_
    obtain ⟨r_18, r_20, r_22, r_24, v_26, v_27, v_28, v_29, at_31, h_19, h_21, h_23, h_25, h_30⟩ := gF_o5 hG k_a0
    refine va_get (D := D) (ci := 0) (v := .ref r_18) (C := RX0) (T := TX0) (N := 8) hx hb hts in0 hown hK (va_one at_31) 0 rfl rfl 0 (by decide) (hts (.fieldLink RX0 9 "RiverModel$Course" "held" "[J") (List.mem_of_getElem? (i := 7) rfl)) (fun _ h9 => h9) rfl dX0_amountOf_19 ?_
    refine lv_iload hx hb dX0_amountOf_22 (lv_at hl 0 rfl) ?_
    obtain ⟨f_32, at_33⟩ := gF_o17 hG h_19
    have b_34 : vp_in r_12 16 := (q_in (by omega) (by omega))
    refine va_lald hx hb hK (va_one at_33) 0 1 rfl rfl b_34 dX0_amountOf_24 ?_
    refine lv_topl (fun z_35 e_36 => ?_)
    refine lv_pc (pc2 := 25) rfl ?_
    refine lv_lstore (lv' := [(6, .long z_35), (5, .int r_12), (0, .ref a0), (1, .ref a1), (2, .int a2), (3, .int a3), (4, .int a4)]) hx hb dX0_amountOf_25 hl (by decide) rfl (fun ls hl => ?_)
    refine lv_aload_n hx hb dX0_amountOf_27 rfl (lv_at hl 3 rfl) ?_
    refine lv_iload_n hx hb dX0_amountOf_28 rfl (lv_at hl 4 rfl) ?_
    refine lv_iconst (v := 3) hx hb dX0_amountOf_29 (by decide) ?_
    refine ty_calli ((W.runV (As := [.int a2, .int 3]) (rest := []) ⟨hx, hb, hml, hown, hts⟩ (s_X4_cell l D t cI cL cC gC gE G gW gA a1 a2 3 k_a1) (cwV 2 hts gu_X0_amountOf_X4_cell_86 rfl rfl rfl (by decide +kernel) ⟨Nat.le_of_ble_eq_true rfl, Nat.le_of_ble_eq_true rfl⟩) (tP_V hG hE at_11 rfl) rfl rfl hl.1 rfl (lv_room (Nat.le_of_ble_eq_true rfl)) dX0_amountOf_30 ⟨Nat.le_of_ble_eq_true rfl, Nat.le_of_ble_eq_true rfl⟩)) hS (fun _ h => h) (fun r_37 H locs hp_38 hG hS o_39 => ?_)
    have at_11 := va_at.keptC at_11 o_39 k_a1 rfl
    have at_31 := va_at.keptC at_31 o_39 k_a0 rfl
    have at_33 := va_at.keptC at_33 o_39 h_19 rfl
    refine lv_i2l (v := r_37.toInt64) hx hb dX0_amountOf_33 rfl ?_
    refine lv_lstore (lv' := [(8, .long r_37.toInt64), (6, .long z_35), (5, .int r_12), (0, .ref a0), (1, .ref a1), (2, .int a2), (3, .int a3), (4, .int a4)]) hx hb dX0_amountOf_34 hl (by decide) rfl (fun ls hl => ?_)
    refine lv_iload hx hb dX0_amountOf_36 (lv_at hl 7 rfl) ?_
    refine lv_pc (pc2 := 38) rfl ?_
    refine lv_if_le (tgt := 45) hx hb dX0_amountOf_38 (by decide) (fun c_40 => ?_) (fun c_40 => ?_)
    · skip
      have c_40 : a4.toInt ≤ 0 := q_le c_40
      refine lv_iconst (v := 0) hx hb dX0_amountOf_45 (by decide) ?_
      refine lv_istore (lv' := [(10, .int 0), (8, .long r_37.toInt64), (6, .long z_35), (5, .int r_12), (0, .ref a0), (1, .ref a1), (2, .int a2), (3, .int a3), (4, .int a4)]) hx hb dX0_amountOf_46 hl (by decide) rfl (fun ls hl => ?_)
      refine lv_aload_n hx hb dX0_amountOf_48 rfl (lv_at hl 5 rfl) ?_
      refine lv_iload_n hx hb dX0_amountOf_49 rfl (lv_at hl 6 rfl) ?_
      refine lv_iconst (v := 0) hx hb dX0_amountOf_50 (by decide) ?_
      refine ty_calli ((W.runV (As := [.int a2, .int 0]) (rest := []) ⟨hx, hb, hml, hown, hts⟩ (s_X4_cell l D t cI cL cC gC gE G gW gA a1 a2 0 k_a1) (cwV 2 hts gu_X0_amountOf_X4_cell_86 rfl rfl rfl (by decide +kernel) ⟨Nat.le_of_ble_eq_true rfl, Nat.le_of_ble_eq_true rfl⟩) (tP_V hG hE at_11 rfl) rfl rfl hl.1 rfl (lv_room (Nat.le_of_ble_eq_true rfl)) dX0_amountOf_51 ⟨Nat.le_of_ble_eq_true rfl, Nat.le_of_ble_eq_true rfl⟩)) hS (fun _ h => h) (fun r_41 H locs hp_42 hG hS o_43 => ?_)
      have at_11 := va_at.keptC at_11 o_43 k_a1 rfl
      have at_31 := va_at.keptC at_31 o_43 k_a0 rfl
      have at_33 := va_at.keptC at_33 o_43 h_19 rfl
      by_cases k_44 : r_41.toInt = 101
      · refine lv_tableIn (tgt := 273) hx hb dX0_amountOf_54 (by rw [k_44]; decide) (by rw [k_44]; decide) (by rw [k_44]; rfl) (by decide) ?_
        refine lv_pc (pc2 := 273) rfl ?_
        refine lv_iload hx hb dX0_amountOf_273 (lv_at hl 0 rfl) ?_
        refine lv_if_eq (tgt := 296) hx hb dX0_amountOf_275 (by decide) (fun _ => ?_) (fun q => absurd (by decide) q)
        refine lv_lconst (v := 0) hx hb dX0_amountOf_296 (by decide) ?_
        exact ty_lret hx hb hr hlk hG hS True.intro dX0_amountOf_297
      by_cases k_45 : r_41.toInt = 102
      · refine lv_tableIn (tgt := 298) hx hb dX0_amountOf_54 (by rw [k_45]; decide) (by rw [k_45]; decide) (by rw [k_45]; rfl) (by decide) ?_
        refine lv_lconst (v := 0) hx hb dX0_amountOf_298 (by decide) ?_
        exact ty_lret hx hb hr hlk hG hS True.intro dX0_amountOf_299
      by_cases k_46 : r_41.toInt = 103
      · refine lv_tableIn (tgt := 214) hx hb dX0_amountOf_54 (by rw [k_46]; decide) (by rw [k_46]; decide) (by rw [k_46]; rfl) (by decide) ?_
        refine lv_lload hx hb dX0_amountOf_214 (lv_at hl 2 rfl) ?_
        refine lv_aload_n hx hb dX0_amountOf_216 rfl (lv_at hl 4 rfl) ?_
        refine lv_pc (pc2 := 217) rfl ?_
        refine lv_aload_n hx hb dX0_amountOf_217 rfl (lv_at hl 5 rfl) ?_
        refine lv_iload_n hx hb dX0_amountOf_218 rfl (lv_at hl 6 rfl) ?_
        refine ty_calli ((W.runV (As := [.int a2]) (rest := [.ref a0, .long z_35]) ⟨hx, hb, hml, hown, hts⟩ (s_X4_gateOf l D t cI cL cC gC gE G gW gA a1 a2 k_a1) (cwV 1 hts gu_X0_amountOf_X4_gateOf_110 rfl rfl rfl (by decide +kernel) ⟨Nat.le_of_ble_eq_true rfl, Nat.le_of_ble_eq_true rfl⟩) (tP_V hG hE at_11 rfl) rfl rfl hl.1 rfl (lv_room (Nat.le_of_ble_eq_true rfl)) dX0_amountOf_219 ⟨Nat.le_of_ble_eq_true rfl, Nat.le_of_ble_eq_true rfl⟩)) hS (fun _ h => h) (fun r_47 H locs hp_48 hG hS o_49 => ?_)
        have at_11 := va_at.keptC at_11 o_49 k_a1 rfl
        have at_31 := va_at.keptC at_31 o_49 k_a0 rfl
        have at_33 := va_at.keptC at_33 o_49 h_19 rfl
        refine ty_calll ((W.runV (As := [.int r_47]) (rest := [.long z_35]) ⟨hx, hb, hml, hown, hts⟩ (s_X0_openingOf l D t cI cL cC gC gE G gW gA a0 r_47 k_a0) (cwV 1 hts gu_X0_amountOf_X0_openingOf_113 rfl rfl rfl (by decide +kernel) ⟨Nat.le_of_ble_eq_true rfl, Nat.le_of_ble_eq_true rfl⟩) (tP_V hG hE at_31 rfl) rfl rfl hl.1 rfl (lv_room (Nat.le_of_ble_eq_true rfl)) dX0_amountOf_222 ⟨Nat.le_of_ble_eq_true rfl, Nat.le_of_ble_eq_true rfl⟩)) hS (fun _ h => h) (fun z_50 H locs hp_51 hG hS o_52 => ?_)
        have at_11 := va_at.keptC at_11 o_52 k_a1 rfl
        have at_31 := va_at.keptC at_31 o_52 k_a0 rfl
        have at_33 := va_at.keptC at_33 o_52 h_19 rfl
        refine lv_lload hx hb dX0_amountOf_225 (lv_at hl 1 rfl) ?_
        refine lv_lmul hx hb dX0_amountOf_227 ?_
        refine lv_topl (fun z_53 e_54 => ?_)
        refine va_mmin_long hx hb (by rw [hml]; exact hl.1.symm) hown (hts (.methodLink RX0 107 Lib.MathLoose.min_long.x) (List.mem_of_getElem? (i := 15) rfl)) (hts (.static Lib.MathLoose.min_long.x) (List.mem_of_getElem? (i := 16) rfl)) (hts (.initialized "java/lang/Math") (List.mem_of_getElem? (i := 17) rfl)) (hts (.code Lib.MathLoose.min_long.x Lib.MathLoose.min_long.code 4 (some .long)) (List.mem_of_getElem? (i := 18) rfl)) (Nat.le_of_ble_eq_true rfl) (Nat.le_of_ble_eq_true rfl) (Nat.zero_le _) (Nat.zero_le _) dX0_amountOf_228 ?_
        refine lv_topl (fun z_55 e_56 => ?_)
        exact ty_lret hx hb hr hlk hG hS True.intro dX0_amountOf_231
      by_cases k_57 : r_41.toInt = 104
      · refine lv_tableIn (tgt := 298) hx hb dX0_amountOf_54 (by rw [k_57]; decide) (by rw [k_57]; decide) (by rw [k_57]; rfl) (by decide) ?_
        refine lv_pc (pc2 := 298) rfl ?_
        refine lv_lconst (v := 0) hx hb dX0_amountOf_298 (by decide) ?_
        exact ty_lret hx hb hr hlk hG hS True.intro dX0_amountOf_299
      by_cases k_58 : r_41.toInt = 105
      · refine lv_tableIn (tgt := 298) hx hb dX0_amountOf_54 (by rw [k_58]; decide) (by rw [k_58]; decide) (by rw [k_58]; rfl) (by decide) ?_
        refine lv_lconst (v := 0) hx hb dX0_amountOf_298 (by decide) ?_
        exact ty_lret hx hb hr hlk hG hS True.intro dX0_amountOf_299
      by_cases k_59 : r_41.toInt = 106
      · refine lv_tableIn (tgt := 298) hx hb dX0_amountOf_54 (by rw [k_59]; decide) (by rw [k_59]; decide) (by rw [k_59]; rfl) (by decide) ?_
        refine lv_lconst (v := 0) hx hb dX0_amountOf_298 (by decide) ?_
        exact ty_lret hx hb hr hlk hG hS True.intro dX0_amountOf_299
      by_cases k_60 : r_41.toInt = 107
      · refine lv_tableIn (tgt := 298) hx hb dX0_amountOf_54 (by rw [k_60]; decide) (by rw [k_60]; decide) (by rw [k_60]; rfl) (by decide) ?_
        refine lv_lconst (v := 0) hx hb dX0_amountOf_298 (by decide) ?_
        exact ty_lret hx hb hr hlk hG hS True.intro dX0_amountOf_299
      by_cases k_61 : r_41.toInt = 108
      · refine lv_tableIn (tgt := 156) hx hb dX0_amountOf_54 (by rw [k_61]; decide) (by rw [k_61]; decide) (by rw [k_61]; rfl) (by decide) ?_
        refine lv_pc (pc2 := 156) rfl ?_
        refine lv_lload hx hb dX0_amountOf_156 (lv_at hl 2 rfl) ?_
        refine lv_lload hx hb dX0_amountOf_158 (lv_at hl 1 rfl) ?_
        refine lv_aload_n hx hb dX0_amountOf_160 rfl (lv_at hl 5 rfl) ?_
        refine lv_iload_n hx hb dX0_amountOf_161 rfl (lv_at hl 6 rfl) ?_
        refine lv_iconst (v := 4) hx hb dX0_amountOf_162 (by decide) ?_
        refine ty_calli ((W.runV (As := [.int a2, .int 4]) (rest := [.long r_37.toInt64, .long z_35]) ⟨hx, hb, hml, hown, hts⟩ (s_X4_cell l D t cI cL cC gC gE G gW gA a1 a2 4 k_a1) (cwV 2 hts gu_X0_amountOf_X4_cell_86 rfl rfl rfl (by decide +kernel) ⟨Nat.le_of_ble_eq_true rfl, Nat.le_of_ble_eq_true rfl⟩) (tP_V hG hE at_11 rfl) rfl rfl hl.1 rfl (lv_room (Nat.le_of_ble_eq_true rfl)) dX0_amountOf_163 ⟨Nat.le_of_ble_eq_true rfl, Nat.le_of_ble_eq_true rfl⟩)) hS (fun _ h => h) (fun r_62 H locs hp_63 hG hS o_64 => ?_)
        have at_11 := va_at.keptC at_11 o_64 k_a1 rfl
        have at_31 := va_at.keptC at_31 o_64 k_a0 rfl
        have at_33 := va_at.keptC at_33 o_64 h_19 rfl
        refine lv_i2l (v := r_62.toInt64) hx hb dX0_amountOf_166 rfl ?_
        refine lv_aload_n hx hb dX0_amountOf_167 rfl (lv_at hl 5 rfl) ?_
        refine lv_pc (pc2 := 168) rfl ?_
        refine lv_iload_n hx hb dX0_amountOf_168 rfl (lv_at hl 6 rfl) ?_
        refine lv_iconst (v := 5) hx hb dX0_amountOf_169 (by decide) ?_
        refine ty_calli ((W.runV (As := [.int a2, .int 5]) (rest := [.long r_62.toInt64, .long r_37.toInt64, .long z_35]) ⟨hx, hb, hml, hown, hts⟩ (s_X4_cell l D t cI cL cC gC gE G gW gA a1 a2 5 k_a1) (cwV 2 hts gu_X0_amountOf_X4_cell_86 rfl rfl rfl (by decide +kernel) ⟨Nat.le_of_ble_eq_true rfl, Nat.le_of_ble_eq_true rfl⟩) (tP_V hG hE at_11 rfl) rfl rfl hl.1 rfl (lv_room (Nat.le_of_ble_eq_true rfl)) dX0_amountOf_170 ⟨Nat.le_of_ble_eq_true rfl, Nat.le_of_ble_eq_true rfl⟩)) hS (fun _ h => h) (fun r_65 H locs hp_66 hG hS o_67 => ?_)
        have at_11 := va_at.keptC at_11 o_67 k_a1 rfl
        have at_31 := va_at.keptC at_31 o_67 k_a0 rfl
        have at_33 := va_at.keptC at_33 o_67 h_19 rfl
        refine lv_i2l (v := r_65.toInt64) hx hb dX0_amountOf_173 rfl ?_
        refine ty_calll ((W.runS (As := [.long z_35, .long r_37.toInt64, .long r_62.toInt64, .long r_65.toInt64]) (rest := []) ⟨hx, hb, hml, hown, hts⟩ (s_X0_leakOf l D t cI cL cC gC gE G gW gA z_35 r_37.toInt64 r_62.toInt64 r_65.toInt64 ) (va_cwS 4 hts gu_X0_amountOf_X0_leakOf_94 rfl rfl rfl (by decide +kernel) ⟨Nat.le_of_ble_eq_true rfl, Nat.le_of_ble_eq_true rfl⟩) (tP_S hG hE) rfl rfl hl.1 rfl (lv_room (Nat.le_of_ble_eq_true rfl)) dX0_amountOf_174 ⟨Nat.le_of_ble_eq_true rfl, Nat.le_of_ble_eq_true rfl⟩)) hS (fun _ h => h) (fun z_68 H locs hp_69 hG hS o_70 => ?_)
        have at_11 := va_at.keptC at_11 o_70 k_a1 rfl
        have at_31 := va_at.keptC at_31 o_70 k_a0 rfl
        have at_33 := va_at.keptC at_33 o_70 h_19 rfl
        exact ty_lret hx hb hr hlk hG hS True.intro dX0_amountOf_177
      by_cases k_71 : r_41.toInt = 109
      · refine lv_tableIn (tgt := 193) hx hb dX0_amountOf_54 (by rw [k_71]; decide) (by rw [k_71]; decide) (by rw [k_71]; rfl) (by decide) ?_
        refine lv_iload hx hb dX0_amountOf_193 (lv_at hl 0 rfl) ?_
        refine lv_if_eq (tgt := 212) hx hb dX0_amountOf_195 (by decide) (fun _ => ?_) (fun q => absurd (by decide) q)
        refine lv_pc (pc2 := 212) rfl ?_
        refine lv_lconst (v := 0) hx hb dX0_amountOf_212 (by decide) ?_
        exact ty_lret hx hb hr hlk hG hS True.intro dX0_amountOf_213
      by_cases k_72 : r_41.toInt = 110
      · refine lv_tableIn (tgt := 254) hx hb dX0_amountOf_54 (by rw [k_72]; decide) (by rw [k_72]; decide) (by rw [k_72]; rfl) (by decide) ?_
        refine lv_iload hx hb dX0_amountOf_254 (lv_at hl 0 rfl) ?_
        refine lv_if_eq (tgt := 263) hx hb dX0_amountOf_256 (by decide) (fun _ => ?_) (fun q => absurd (by decide) q)
        refine lv_iload_n hx hb dX0_amountOf_263 rfl (lv_at hl 7 rfl) ?_
        refine lv_i2l (v := a3.toInt64) hx hb dX0_amountOf_264 rfl ?_
        refine lv_lload hx hb dX0_amountOf_265 (lv_at hl 1 rfl) ?_
        refine lv_lmul hx hb dX0_amountOf_267 ?_
        refine lv_topl (fun z_73 e_74 => ?_)
        refine lv_pc (pc2 := 268) rfl ?_
        refine lv_ldc2 hx hb hown (hts (.constantLong RX0 117 (100)) (List.mem_of_getElem? (i := 21) rfl)) dX0_amountOf_268 ?_
        refine lv_ldiv hx hb dX0_amountOf_271 (by decide) ?_
        refine lv_topl (fun z_75 e_76 => ?_)
        exact ty_lret hx hb hr hlk hG hS True.intro dX0_amountOf_272
      by_cases k_77 : r_41.toInt = 111
      · refine lv_tableIn (tgt := 178) hx hb dX0_amountOf_54 (by rw [k_77]; decide) (by rw [k_77]; decide) (by rw [k_77]; rfl) (by decide) ?_
        refine lv_lconst (v := 0) hx hb dX0_amountOf_178 (by decide) ?_
        refine lv_lload hx hb dX0_amountOf_179 (lv_at hl 2 rfl) ?_
        refine lv_aload_n hx hb dX0_amountOf_181 rfl (lv_at hl 5 rfl) ?_
        refine lv_iload hx hb dX0_amountOf_182 (lv_at hl 3 rfl) ?_
        refine ty_calli ((W.runV (As := [.int r_12]) (rest := [.long z_35, .long 0]) ⟨hx, hb, hml, hown, hts⟩ (s_X4_capacityOf l D t cI cL cC gC gE G gW gA a1 r_12 k_a1) (cwV 1 hts gu_X0_amountOf_X4_capacityOf_98 rfl rfl rfl (by decide +kernel) ⟨Nat.le_of_ble_eq_true rfl, Nat.le_of_ble_eq_true rfl⟩) (tP_V hG hE at_11 rfl) rfl rfl hl.1 rfl (lv_room (Nat.le_of_ble_eq_true rfl)) dX0_amountOf_184 ⟨Nat.le_of_ble_eq_true rfl, Nat.le_of_ble_eq_true rfl⟩)) hS (fun _ h => h) (fun r_78 H locs hp_79 hG hS o_80 => ?_)
        have at_11 := va_at.keptC at_11 o_80 k_a1 rfl
        have at_31 := va_at.keptC at_31 o_80 k_a0 rfl
        have at_33 := va_at.keptC at_33 o_80 h_19 rfl
        refine lv_pc (pc2 := 187) rfl ?_
        refine lv_i2l (v := r_78.toInt64) hx hb dX0_amountOf_187 rfl ?_
        refine lv_lsub hx hb dX0_amountOf_188 ?_
        refine lv_topl (fun z_81 e_82 => ?_)
        refine va_mmax_long hx hb (by rw [hml]; exact hl.1.symm) hown (hts (.methodLink RX0 101 Lib.MathLoose.max_long.x) (List.mem_of_getElem? (i := 25) rfl)) (hts (.static Lib.MathLoose.max_long.x) (List.mem_of_getElem? (i := 26) rfl)) (hts (.initialized "java/lang/Math") (List.mem_of_getElem? (i := 17) rfl)) (hts (.code Lib.MathLoose.max_long.x Lib.MathLoose.max_long.code 4 (some .long)) (List.mem_of_getElem? (i := 27) rfl)) (Nat.le_of_ble_eq_true rfl) (Nat.le_of_ble_eq_true rfl) (Nat.zero_le _) (Nat.zero_le _) dX0_amountOf_189 ?_
        refine lv_topl (fun z_83 e_84 => ?_)
        exact ty_lret hx hb hr hlk hG hS True.intro dX0_amountOf_192
      by_cases k_85 : r_41.toInt = 112
      · refine lv_tableIn (tgt := 298) hx hb dX0_amountOf_54 (by rw [k_85]; decide) (by rw [k_85]; decide) (by rw [k_85]; rfl) (by decide) ?_
        refine lv_lconst (v := 0) hx hb dX0_amountOf_298 (by decide) ?_
        exact ty_lret hx hb hr hlk hG hS True.intro dX0_amountOf_299
      by_cases k_86 : r_41.toInt = 113
      · refine lv_tableIn (tgt := 298) hx hb dX0_amountOf_54 (by rw [k_86]; decide) (by rw [k_86]; decide) (by rw [k_86]; rfl) (by decide) ?_
        refine lv_lconst (v := 0) hx hb dX0_amountOf_298 (by decide) ?_
        exact ty_lret hx hb hr hlk hG hS True.intro dX0_amountOf_299
      by_cases k_87 : r_41.toInt = 114
      · refine lv_tableIn (tgt := 235) hx hb dX0_amountOf_54 (by rw [k_87]; decide) (by rw [k_87]; decide) (by rw [k_87]; rfl) (by decide) ?_
        refine lv_pc (pc2 := 235) rfl ?_
        refine lv_iload hx hb dX0_amountOf_235 (lv_at hl 0 rfl) ?_
        refine lv_if_eq (tgt := 252) hx hb dX0_amountOf_237 (by decide) (fun _ => ?_) (fun q => absurd (by decide) q)
        refine lv_lconst (v := 0) hx hb dX0_amountOf_252 (by decide) ?_
        exact ty_lret hx hb hr hlk hG hS True.intro dX0_amountOf_253
      by_cases k_88 : r_41.toInt = 115
      · refine lv_tableIn (tgt := 298) hx hb dX0_amountOf_54 (by rw [k_88]; decide) (by rw [k_88]; decide) (by rw [k_88]; rfl) (by decide) ?_
        refine lv_lconst (v := 0) hx hb dX0_amountOf_298 (by decide) ?_
        exact ty_lret hx hb hr hlk hG hS True.intro dX0_amountOf_299
      by_cases k_89 : r_41.toInt = 116
      · refine lv_tableIn (tgt := 232) hx hb dX0_amountOf_54 (by rw [k_89]; decide) (by rw [k_89]; decide) (by rw [k_89]; rfl) (by decide) ?_
        refine lv_lload hx hb dX0_amountOf_232 (lv_at hl 2 rfl) ?_
        exact ty_lret hx hb hr hlk hG hS True.intro dX0_amountOf_234
      by_cases k_90 : r_41.toInt = 117
      · refine lv_tableIn (tgt := 298) hx hb dX0_amountOf_54 (by rw [k_90]; decide) (by rw [k_90]; decide) (by rw [k_90]; rfl) (by decide) ?_
        refine lv_pc (pc2 := 298) rfl ?_
        refine lv_lconst (v := 0) hx hb dX0_amountOf_298 (by decide) ?_
        exact ty_lret hx hb hr hlk hG hS True.intro dX0_amountOf_299
      by_cases k_91 : r_41.toInt = 118
      · refine lv_tableIn (tgt := 298) hx hb dX0_amountOf_54 (by rw [k_91]; decide) (by rw [k_91]; decide) (by rw [k_91]; rfl) (by decide) ?_
        refine lv_lconst (v := 0) hx hb dX0_amountOf_298 (by decide) ?_
        exact ty_lret hx hb hr hlk hG hS True.intro dX0_amountOf_299
      by_cases k_92 : r_41.toInt = 119
      · refine lv_tableIn (tgt := 298) hx hb dX0_amountOf_54 (by rw [k_92]; decide) (by rw [k_92]; decide) (by rw [k_92]; rfl) (by decide) ?_
        refine lv_lconst (v := 0) hx hb dX0_amountOf_298 (by decide) ?_
        exact ty_lret hx hb hr hlk hG hS True.intro dX0_amountOf_299
      by_cases k_93 : r_41.toInt = 120
      · refine lv_tableIn (tgt := 298) hx hb dX0_amountOf_54 (by rw [k_93]; decide) (by rw [k_93]; decide) (by rw [k_93]; rfl) (by decide) ?_
        refine lv_lconst (v := 0) hx hb dX0_amountOf_298 (by decide) ?_
        exact ty_lret hx hb hr hlk hG hS True.intro dX0_amountOf_299
      by_cases k_94 : r_41.toInt = 121
      · refine lv_tableIn (tgt := 298) hx hb dX0_amountOf_54 (by rw [k_94]; decide) (by rw [k_94]; decide) (by rw [k_94]; rfl) (by decide) ?_
        refine lv_pc (pc2 := 298) rfl ?_
        refine lv_lconst (v := 0) hx hb dX0_amountOf_298 (by decide) ?_
        exact ty_lret hx hb hr hlk hG hS True.intro dX0_amountOf_299
      by_cases k_95 : r_41.toInt = 122
      · refine lv_tableIn (tgt := 232) hx hb dX0_amountOf_54 (by rw [k_95]; decide) (by rw [k_95]; decide) (by rw [k_95]; rfl) (by decide) ?_
        refine lv_lload hx hb dX0_amountOf_232 (lv_at hl 2 rfl) ?_
        exact ty_lret hx hb hr hlk hG hS True.intro dX0_amountOf_234
      refine lv_tableOut (tgt := 298) hx hb dX0_amountOf_54 (by omega) (by decide) ?_
      refine lv_lconst (v := 0) hx hb dX0_amountOf_298 (by decide) ?_
      exact ty_lret hx hb hr hlk hG hS True.intro dX0_amountOf_299
    · skip
      have c_40 : 0 < a4.toInt := q_nle c_40
      refine lv_iconst (v := 1) hx hb dX0_amountOf_41 (by decide) ?_
      refine lv_goto (tgt := 46) hx hb dX0_amountOf_42 (by decide) ?_
      refine lv_pc (pc2 := 46) rfl ?_
      refine lv_istore (lv' := [(10, .int 1), (8, .long r_37.toInt64), (6, .long z_35), (5, .int r_12), (0, .ref a0), (1, .ref a1), (2, .int a2), (3, .int a3), (4, .int a4)]) hx hb dX0_amountOf_46 hl (by decide) rfl (fun ls hl => ?_)
      refine lv_aload_n hx hb dX0_amountOf_48 rfl (lv_at hl 5 rfl) ?_
      refine lv_iload_n hx hb dX0_amountOf_49 rfl (lv_at hl 6 rfl) ?_
      refine lv_iconst (v := 0) hx hb dX0_amountOf_50 (by decide) ?_
      refine ty_calli ((W.runV (As := [.int a2, .int 0]) (rest := []) ⟨hx, hb, hml, hown, hts⟩ (s_X4_cell l D t cI cL cC gC gE G gW gA a1 a2 0 k_a1) (cwV 2 hts gu_X0_amountOf_X4_cell_86 rfl rfl rfl (by decide +kernel) ⟨Nat.le_of_ble_eq_true rfl, Nat.le_of_ble_eq_true rfl⟩) (tP_V hG hE at_11 rfl) rfl rfl hl.1 rfl (lv_room (Nat.le_of_ble_eq_true rfl)) dX0_amountOf_51 ⟨Nat.le_of_ble_eq_true rfl, Nat.le_of_ble_eq_true rfl⟩)) hS (fun _ h => h) (fun r_96 H locs hp_97 hG hS o_98 => ?_)
      have at_11 := va_at.keptC at_11 o_98 k_a1 rfl
      have at_31 := va_at.keptC at_31 o_98 k_a0 rfl
      have at_33 := va_at.keptC at_33 o_98 h_19 rfl
      by_cases k_99 : r_96.toInt = 101
      · refine lv_tableIn (tgt := 273) hx hb dX0_amountOf_54 (by rw [k_99]; decide) (by rw [k_99]; decide) (by rw [k_99]; rfl) (by decide) ?_
        refine lv_iload hx hb dX0_amountOf_273 (lv_at hl 0 rfl) ?_
        refine lv_if_eq (tgt := 296) hx hb dX0_amountOf_275 (by decide) (fun q => absurd q (by decide)) (fun _ => ?_)
        refine lv_pc (pc2 := 278) rfl ?_
        refine lv_lload hx hb dX0_amountOf_278 (lv_at hl 2 rfl) ?_
        refine lv_iload hx hb dX0_amountOf_280 (lv_at hl 8 rfl) ?_
        refine lv_i2l (v := a4.toInt64) hx hb dX0_amountOf_282 rfl ?_
        refine lv_lload hx hb dX0_amountOf_283 (lv_at hl 1 rfl) ?_
        refine lv_lmul hx hb dX0_amountOf_285 ?_
        refine lv_topl (fun z_100 e_101 => ?_)
        refine lv_ldc2 hx hb hown (hts (.constantLong RX0 119 (10)) (List.mem_of_getElem? (i := 28) rfl)) dX0_amountOf_286 ?_
        refine lv_ldiv hx hb dX0_amountOf_289 (by decide) ?_
        refine lv_topl (fun z_102 e_103 => ?_)
        refine va_mmin_long hx hb (by rw [hml]; exact hl.1.symm) hown (hts (.methodLink RX0 107 Lib.MathLoose.min_long.x) (List.mem_of_getElem? (i := 15) rfl)) (hts (.static Lib.MathLoose.min_long.x) (List.mem_of_getElem? (i := 16) rfl)) (hts (.initialized "java/lang/Math") (List.mem_of_getElem? (i := 17) rfl)) (hts (.code Lib.MathLoose.min_long.x Lib.MathLoose.min_long.code 4 (some .long)) (List.mem_of_getElem? (i := 18) rfl)) (Nat.le_of_ble_eq_true rfl) (Nat.le_of_ble_eq_true rfl) (Nat.zero_le _) (Nat.zero_le _) dX0_amountOf_290 ?_
        refine lv_topl (fun z_104 e_105 => ?_)
        refine lv_pc (pc2 := 293) rfl ?_
        refine lv_goto (tgt := 297) hx hb dX0_amountOf_293 (by decide) ?_
        exact ty_lret hx hb hr hlk hG hS True.intro dX0_amountOf_297
      by_cases k_106 : r_96.toInt = 102
      · refine lv_tableIn (tgt := 298) hx hb dX0_amountOf_54 (by rw [k_106]; decide) (by rw [k_106]; decide) (by rw [k_106]; rfl) (by decide) ?_
        refine lv_lconst (v := 0) hx hb dX0_amountOf_298 (by decide) ?_
        exact ty_lret hx hb hr hlk hG hS True.intro dX0_amountOf_299
      by_cases k_107 : r_96.toInt = 103
      · refine lv_tableIn (tgt := 214) hx hb dX0_amountOf_54 (by rw [k_107]; decide) (by rw [k_107]; decide) (by rw [k_107]; rfl) (by decide) ?_
        refine lv_lload hx hb dX0_amountOf_214 (lv_at hl 2 rfl) ?_
        refine lv_aload_n hx hb dX0_amountOf_216 rfl (lv_at hl 4 rfl) ?_
        refine lv_aload_n hx hb dX0_amountOf_217 rfl (lv_at hl 5 rfl) ?_
        refine lv_iload_n hx hb dX0_amountOf_218 rfl (lv_at hl 6 rfl) ?_
        refine lv_pc (pc2 := 219) rfl ?_
        refine ty_calli ((W.runV (As := [.int a2]) (rest := [.ref a0, .long z_35]) ⟨hx, hb, hml, hown, hts⟩ (s_X4_gateOf l D t cI cL cC gC gE G gW gA a1 a2 k_a1) (cwV 1 hts gu_X0_amountOf_X4_gateOf_110 rfl rfl rfl (by decide +kernel) ⟨Nat.le_of_ble_eq_true rfl, Nat.le_of_ble_eq_true rfl⟩) (tP_V hG hE at_11 rfl) rfl rfl hl.1 rfl (lv_room (Nat.le_of_ble_eq_true rfl)) dX0_amountOf_219 ⟨Nat.le_of_ble_eq_true rfl, Nat.le_of_ble_eq_true rfl⟩)) hS (fun _ h => h) (fun r_108 H locs hp_109 hG hS o_110 => ?_)
        have at_11 := va_at.keptC at_11 o_110 k_a1 rfl
        have at_31 := va_at.keptC at_31 o_110 k_a0 rfl
        have at_33 := va_at.keptC at_33 o_110 h_19 rfl
        refine ty_calll ((W.runV (As := [.int r_108]) (rest := [.long z_35]) ⟨hx, hb, hml, hown, hts⟩ (s_X0_openingOf l D t cI cL cC gC gE G gW gA a0 r_108 k_a0) (cwV 1 hts gu_X0_amountOf_X0_openingOf_113 rfl rfl rfl (by decide +kernel) ⟨Nat.le_of_ble_eq_true rfl, Nat.le_of_ble_eq_true rfl⟩) (tP_V hG hE at_31 rfl) rfl rfl hl.1 rfl (lv_room (Nat.le_of_ble_eq_true rfl)) dX0_amountOf_222 ⟨Nat.le_of_ble_eq_true rfl, Nat.le_of_ble_eq_true rfl⟩)) hS (fun _ h => h) (fun z_111 H locs hp_112 hG hS o_113 => ?_)
        have at_11 := va_at.keptC at_11 o_113 k_a1 rfl
        have at_31 := va_at.keptC at_31 o_113 k_a0 rfl
        have at_33 := va_at.keptC at_33 o_113 h_19 rfl
        refine lv_lload hx hb dX0_amountOf_225 (lv_at hl 1 rfl) ?_
        refine lv_lmul hx hb dX0_amountOf_227 ?_
        refine lv_topl (fun z_114 e_115 => ?_)
        refine va_mmin_long hx hb (by rw [hml]; exact hl.1.symm) hown (hts (.methodLink RX0 107 Lib.MathLoose.min_long.x) (List.mem_of_getElem? (i := 15) rfl)) (hts (.static Lib.MathLoose.min_long.x) (List.mem_of_getElem? (i := 16) rfl)) (hts (.initialized "java/lang/Math") (List.mem_of_getElem? (i := 17) rfl)) (hts (.code Lib.MathLoose.min_long.x Lib.MathLoose.min_long.code 4 (some .long)) (List.mem_of_getElem? (i := 18) rfl)) (Nat.le_of_ble_eq_true rfl) (Nat.le_of_ble_eq_true rfl) (Nat.zero_le _) (Nat.zero_le _) dX0_amountOf_228 ?_
        refine lv_topl (fun z_116 e_117 => ?_)
        exact ty_lret hx hb hr hlk hG hS True.intro dX0_amountOf_231
      by_cases k_118 : r_96.toInt = 104
      · refine lv_tableIn (tgt := 298) hx hb dX0_amountOf_54 (by rw [k_118]; decide) (by rw [k_118]; decide) (by rw [k_118]; rfl) (by decide) ?_
        refine lv_lconst (v := 0) hx hb dX0_amountOf_298 (by decide) ?_
        exact ty_lret hx hb hr hlk hG hS True.intro dX0_amountOf_299
      by_cases k_119 : r_96.toInt = 105
      · refine lv_tableIn (tgt := 298) hx hb dX0_amountOf_54 (by rw [k_119]; decide) (by rw [k_119]; decide) (by rw [k_119]; rfl) (by decide) ?_
        refine lv_pc (pc2 := 298) rfl ?_
        refine lv_lconst (v := 0) hx hb dX0_amountOf_298 (by decide) ?_
        exact ty_lret hx hb hr hlk hG hS True.intro dX0_amountOf_299
      by_cases k_120 : r_96.toInt = 106
      · refine lv_tableIn (tgt := 298) hx hb dX0_amountOf_54 (by rw [k_120]; decide) (by rw [k_120]; decide) (by rw [k_120]; rfl) (by decide) ?_
        refine lv_lconst (v := 0) hx hb dX0_amountOf_298 (by decide) ?_
        exact ty_lret hx hb hr hlk hG hS True.intro dX0_amountOf_299
      by_cases k_121 : r_96.toInt = 107
      · refine lv_tableIn (tgt := 298) hx hb dX0_amountOf_54 (by rw [k_121]; decide) (by rw [k_121]; decide) (by rw [k_121]; rfl) (by decide) ?_
        refine lv_lconst (v := 0) hx hb dX0_amountOf_298 (by decide) ?_
        exact ty_lret hx hb hr hlk hG hS True.intro dX0_amountOf_299
      by_cases k_122 : r_96.toInt = 108
      · refine lv_tableIn (tgt := 156) hx hb dX0_amountOf_54 (by rw [k_122]; decide) (by rw [k_122]; decide) (by rw [k_122]; rfl) (by decide) ?_
        refine lv_lload hx hb dX0_amountOf_156 (lv_at hl 2 rfl) ?_
        refine lv_lload hx hb dX0_amountOf_158 (lv_at hl 1 rfl) ?_
        refine lv_pc (pc2 := 160) rfl ?_
        refine lv_aload_n hx hb dX0_amountOf_160 rfl (lv_at hl 5 rfl) ?_
        refine lv_iload_n hx hb dX0_amountOf_161 rfl (lv_at hl 6 rfl) ?_
        refine lv_iconst (v := 4) hx hb dX0_amountOf_162 (by decide) ?_
        refine ty_calli ((W.runV (As := [.int a2, .int 4]) (rest := [.long r_37.toInt64, .long z_35]) ⟨hx, hb, hml, hown, hts⟩ (s_X4_cell l D t cI cL cC gC gE G gW gA a1 a2 4 k_a1) (cwV 2 hts gu_X0_amountOf_X4_cell_86 rfl rfl rfl (by decide +kernel) ⟨Nat.le_of_ble_eq_true rfl, Nat.le_of_ble_eq_true rfl⟩) (tP_V hG hE at_11 rfl) rfl rfl hl.1 rfl (lv_room (Nat.le_of_ble_eq_true rfl)) dX0_amountOf_163 ⟨Nat.le_of_ble_eq_true rfl, Nat.le_of_ble_eq_true rfl⟩)) hS (fun _ h => h) (fun r_123 H locs hp_124 hG hS o_125 => ?_)
        have at_11 := va_at.keptC at_11 o_125 k_a1 rfl
        have at_31 := va_at.keptC at_31 o_125 k_a0 rfl
        have at_33 := va_at.keptC at_33 o_125 h_19 rfl
        refine lv_i2l (v := r_123.toInt64) hx hb dX0_amountOf_166 rfl ?_
        refine lv_aload_n hx hb dX0_amountOf_167 rfl (lv_at hl 5 rfl) ?_
        refine lv_iload_n hx hb dX0_amountOf_168 rfl (lv_at hl 6 rfl) ?_
        refine lv_iconst (v := 5) hx hb dX0_amountOf_169 (by decide) ?_
        refine lv_pc (pc2 := 170) rfl ?_
        refine ty_calli ((W.runV (As := [.int a2, .int 5]) (rest := [.long r_123.toInt64, .long r_37.toInt64, .long z_35]) ⟨hx, hb, hml, hown, hts⟩ (s_X4_cell l D t cI cL cC gC gE G gW gA a1 a2 5 k_a1) (cwV 2 hts gu_X0_amountOf_X4_cell_86 rfl rfl rfl (by decide +kernel) ⟨Nat.le_of_ble_eq_true rfl, Nat.le_of_ble_eq_true rfl⟩) (tP_V hG hE at_11 rfl) rfl rfl hl.1 rfl (lv_room (Nat.le_of_ble_eq_true rfl)) dX0_amountOf_170 ⟨Nat.le_of_ble_eq_true rfl, Nat.le_of_ble_eq_true rfl⟩)) hS (fun _ h => h) (fun r_126 H locs hp_127 hG hS o_128 => ?_)
        have at_11 := va_at.keptC at_11 o_128 k_a1 rfl
        have at_31 := va_at.keptC at_31 o_128 k_a0 rfl
        have at_33 := va_at.keptC at_33 o_128 h_19 rfl
        refine lv_i2l (v := r_126.toInt64) hx hb dX0_amountOf_173 rfl ?_
        refine ty_calll ((W.runS (As := [.long z_35, .long r_37.toInt64, .long r_123.toInt64, .long r_126.toInt64]) (rest := []) ⟨hx, hb, hml, hown, hts⟩ (s_X0_leakOf l D t cI cL cC gC gE G gW gA z_35 r_37.toInt64 r_123.toInt64 r_126.toInt64 ) (va_cwS 4 hts gu_X0_amountOf_X0_leakOf_94 rfl rfl rfl (by decide +kernel) ⟨Nat.le_of_ble_eq_true rfl, Nat.le_of_ble_eq_true rfl⟩) (tP_S hG hE) rfl rfl hl.1 rfl (lv_room (Nat.le_of_ble_eq_true rfl)) dX0_amountOf_174 ⟨Nat.le_of_ble_eq_true rfl, Nat.le_of_ble_eq_true rfl⟩)) hS (fun _ h => h) (fun z_129 H locs hp_130 hG hS o_131 => ?_)
        have at_11 := va_at.keptC at_11 o_131 k_a1 rfl
        have at_31 := va_at.keptC at_31 o_131 k_a0 rfl
        have at_33 := va_at.keptC at_33 o_131 h_19 rfl
        exact ty_lret hx hb hr hlk hG hS True.intro dX0_amountOf_177
      by_cases k_132 : r_96.toInt = 109
      · refine lv_tableIn (tgt := 193) hx hb dX0_amountOf_54 (by rw [k_132]; decide) (by rw [k_132]; decide) (by rw [k_132]; rfl) (by decide) ?_
        refine lv_iload hx hb dX0_amountOf_193 (lv_at hl 0 rfl) ?_
        refine lv_if_eq (tgt := 212) hx hb dX0_amountOf_195 (by decide) (fun q => absurd q (by decide)) (fun _ => ?_)
        refine lv_lload hx hb dX0_amountOf_198 (lv_at hl 2 rfl) ?_
        refine lv_iload hx hb dX0_amountOf_200 (lv_at hl 8 rfl) ?_
        refine lv_pc (pc2 := 202) rfl ?_
        refine lv_i2l (v := a4.toInt64) hx hb dX0_amountOf_202 rfl ?_
        refine lv_lload hx hb dX0_amountOf_203 (lv_at hl 1 rfl) ?_
        refine lv_lmul hx hb dX0_amountOf_205 ?_
        refine lv_topl (fun z_133 e_134 => ?_)
        refine va_mmin_long hx hb (by rw [hml]; exact hl.1.symm) hown (hts (.methodLink RX0 107 Lib.MathLoose.min_long.x) (List.mem_of_getElem? (i := 15) rfl)) (hts (.static Lib.MathLoose.min_long.x) (List.mem_of_getElem? (i := 16) rfl)) (hts (.initialized "java/lang/Math") (List.mem_of_getElem? (i := 17) rfl)) (hts (.code Lib.MathLoose.min_long.x Lib.MathLoose.min_long.code 4 (some .long)) (List.mem_of_getElem? (i := 18) rfl)) (Nat.le_of_ble_eq_true rfl) (Nat.le_of_ble_eq_true rfl) (Nat.zero_le _) (Nat.zero_le _) dX0_amountOf_206 ?_
        refine lv_topl (fun z_135 e_136 => ?_)
        refine lv_goto (tgt := 213) hx hb dX0_amountOf_209 (by decide) ?_
        exact ty_lret hx hb hr hlk hG hS True.intro dX0_amountOf_213
      by_cases k_137 : r_96.toInt = 110
      · refine lv_tableIn (tgt := 254) hx hb dX0_amountOf_54 (by rw [k_137]; decide) (by rw [k_137]; decide) (by rw [k_137]; rfl) (by decide) ?_
        refine lv_iload hx hb dX0_amountOf_254 (lv_at hl 0 rfl) ?_
        refine lv_if_eq (tgt := 263) hx hb dX0_amountOf_256 (by decide) (fun q => absurd q (by decide)) (fun _ => ?_)
        refine lv_pc (pc2 := 259) rfl ?_
        refine lv_lconst (v := 0) hx hb dX0_amountOf_259 (by decide) ?_
        refine lv_goto (tgt := 272) hx hb dX0_amountOf_260 (by decide) ?_
        exact ty_lret hx hb hr hlk hG hS True.intro dX0_amountOf_272
      by_cases k_138 : r_96.toInt = 111
      · refine lv_tableIn (tgt := 178) hx hb dX0_amountOf_54 (by rw [k_138]; decide) (by rw [k_138]; decide) (by rw [k_138]; rfl) (by decide) ?_
        refine lv_lconst (v := 0) hx hb dX0_amountOf_178 (by decide) ?_
        refine lv_lload hx hb dX0_amountOf_179 (lv_at hl 2 rfl) ?_
        refine lv_aload_n hx hb dX0_amountOf_181 rfl (lv_at hl 5 rfl) ?_
        refine lv_iload hx hb dX0_amountOf_182 (lv_at hl 3 rfl) ?_
        refine ty_calli ((W.runV (As := [.int r_12]) (rest := [.long z_35, .long 0]) ⟨hx, hb, hml, hown, hts⟩ (s_X4_capacityOf l D t cI cL cC gC gE G gW gA a1 r_12 k_a1) (cwV 1 hts gu_X0_amountOf_X4_capacityOf_98 rfl rfl rfl (by decide +kernel) ⟨Nat.le_of_ble_eq_true rfl, Nat.le_of_ble_eq_true rfl⟩) (tP_V hG hE at_11 rfl) rfl rfl hl.1 rfl (lv_room (Nat.le_of_ble_eq_true rfl)) dX0_amountOf_184 ⟨Nat.le_of_ble_eq_true rfl, Nat.le_of_ble_eq_true rfl⟩)) hS (fun _ h => h) (fun r_139 H locs hp_140 hG hS o_141 => ?_)
        have at_11 := va_at.keptC at_11 o_141 k_a1 rfl
        have at_31 := va_at.keptC at_31 o_141 k_a0 rfl
        have at_33 := va_at.keptC at_33 o_141 h_19 rfl
        refine lv_pc (pc2 := 187) rfl ?_
        refine lv_i2l (v := r_139.toInt64) hx hb dX0_amountOf_187 rfl ?_
        refine lv_lsub hx hb dX0_amountOf_188 ?_
        refine lv_topl (fun z_142 e_143 => ?_)
        refine va_mmax_long hx hb (by rw [hml]; exact hl.1.symm) hown (hts (.methodLink RX0 101 Lib.MathLoose.max_long.x) (List.mem_of_getElem? (i := 25) rfl)) (hts (.static Lib.MathLoose.max_long.x) (List.mem_of_getElem? (i := 26) rfl)) (hts (.initialized "java/lang/Math") (List.mem_of_getElem? (i := 17) rfl)) (hts (.code Lib.MathLoose.max_long.x Lib.MathLoose.max_long.code 4 (some .long)) (List.mem_of_getElem? (i := 27) rfl)) (Nat.le_of_ble_eq_true rfl) (Nat.le_of_ble_eq_true rfl) (Nat.zero_le _) (Nat.zero_le _) dX0_amountOf_189 ?_
        refine lv_topl (fun z_144 e_145 => ?_)
        exact ty_lret hx hb hr hlk hG hS True.intro dX0_amountOf_192
      by_cases k_146 : r_96.toInt = 112
      · refine lv_tableIn (tgt := 298) hx hb dX0_amountOf_54 (by rw [k_146]; decide) (by rw [k_146]; decide) (by rw [k_146]; rfl) (by decide) ?_
        refine lv_lconst (v := 0) hx hb dX0_amountOf_298 (by decide) ?_
        exact ty_lret hx hb hr hlk hG hS True.intro dX0_amountOf_299
      by_cases k_147 : r_96.toInt = 113
      · refine lv_tableIn (tgt := 298) hx hb dX0_amountOf_54 (by rw [k_147]; decide) (by rw [k_147]; decide) (by rw [k_147]; rfl) (by decide) ?_
        refine lv_lconst (v := 0) hx hb dX0_amountOf_298 (by decide) ?_
        exact ty_lret hx hb hr hlk hG hS True.intro dX0_amountOf_299
      by_cases k_148 : r_96.toInt = 114
      · refine lv_tableIn (tgt := 235) hx hb dX0_amountOf_54 (by rw [k_148]; decide) (by rw [k_148]; decide) (by rw [k_148]; rfl) (by decide) ?_
        refine lv_pc (pc2 := 235) rfl ?_
        refine lv_iload hx hb dX0_amountOf_235 (lv_at hl 0 rfl) ?_
        refine lv_if_eq (tgt := 252) hx hb dX0_amountOf_237 (by decide) (fun q => absurd q (by decide)) (fun _ => ?_)
        refine lv_iload_n hx hb dX0_amountOf_240 rfl (lv_at hl 7 rfl) ?_
        refine lv_i2l (v := a3.toInt64) hx hb dX0_amountOf_241 rfl ?_
        refine lv_lload hx hb dX0_amountOf_242 (lv_at hl 1 rfl) ?_
        refine lv_lmul hx hb dX0_amountOf_244 ?_
        refine lv_topl (fun z_149 e_150 => ?_)
        refine lv_ldc2 hx hb hown (hts (.constantLong RX0 117 (100)) (List.mem_of_getElem? (i := 21) rfl)) dX0_amountOf_245 ?_
        refine lv_ldiv hx hb dX0_amountOf_248 (by decide) ?_
        refine lv_topl (fun z_151 e_152 => ?_)
        refine lv_pc (pc2 := 249) rfl ?_
        refine lv_goto (tgt := 253) hx hb dX0_amountOf_249 (by decide) ?_
        exact ty_lret hx hb hr hlk hG hS True.intro dX0_amountOf_253
      by_cases k_153 : r_96.toInt = 115
      · refine lv_tableIn (tgt := 298) hx hb dX0_amountOf_54 (by rw [k_153]; decide) (by rw [k_153]; decide) (by rw [k_153]; rfl) (by decide) ?_
        refine lv_lconst (v := 0) hx hb dX0_amountOf_298 (by decide) ?_
        exact ty_lret hx hb hr hlk hG hS True.intro dX0_amountOf_299
      by_cases k_154 : r_96.toInt = 116
      · refine lv_tableIn (tgt := 232) hx hb dX0_amountOf_54 (by rw [k_154]; decide) (by rw [k_154]; decide) (by rw [k_154]; rfl) (by decide) ?_
        refine lv_lload hx hb dX0_amountOf_232 (lv_at hl 2 rfl) ?_
        exact ty_lret hx hb hr hlk hG hS True.intro dX0_amountOf_234
      by_cases k_155 : r_96.toInt = 117
      · refine lv_tableIn (tgt := 298) hx hb dX0_amountOf_54 (by rw [k_155]; decide) (by rw [k_155]; decide) (by rw [k_155]; rfl) (by decide) ?_
        refine lv_lconst (v := 0) hx hb dX0_amountOf_298 (by decide) ?_
        exact ty_lret hx hb hr hlk hG hS True.intro dX0_amountOf_299
      by_cases k_156 : r_96.toInt = 118
      · refine lv_tableIn (tgt := 298) hx hb dX0_amountOf_54 (by rw [k_156]; decide) (by rw [k_156]; decide) (by rw [k_156]; rfl) (by decide) ?_
        refine lv_pc (pc2 := 298) rfl ?_
        refine lv_lconst (v := 0) hx hb dX0_amountOf_298 (by decide) ?_
        exact ty_lret hx hb hr hlk hG hS True.intro dX0_amountOf_299
      by_cases k_157 : r_96.toInt = 119
      · refine lv_tableIn (tgt := 298) hx hb dX0_amountOf_54 (by rw [k_157]; decide) (by rw [k_157]; decide) (by rw [k_157]; rfl) (by decide) ?_
        refine lv_lconst (v := 0) hx hb dX0_amountOf_298 (by decide) ?_
        exact ty_lret hx hb hr hlk hG hS True.intro dX0_amountOf_299
      by_cases k_158 : r_96.toInt = 120
      · refine lv_tableIn (tgt := 298) hx hb dX0_amountOf_54 (by rw [k_158]; decide) (by rw [k_158]; decide) (by rw [k_158]; rfl) (by decide) ?_
        refine lv_lconst (v := 0) hx hb dX0_amountOf_298 (by decide) ?_
        exact ty_lret hx hb hr hlk hG hS True.intro dX0_amountOf_299
      by_cases k_159 : r_96.toInt = 121
      · refine lv_tableIn (tgt := 298) hx hb dX0_amountOf_54 (by rw [k_159]; decide) (by rw [k_159]; decide) (by rw [k_159]; rfl) (by decide) ?_
        refine lv_lconst (v := 0) hx hb dX0_amountOf_298 (by decide) ?_
        exact ty_lret hx hb hr hlk hG hS True.intro dX0_amountOf_299
      by_cases k_160 : r_96.toInt = 122
      · refine lv_tableIn (tgt := 232) hx hb dX0_amountOf_54 (by rw [k_160]; decide) (by rw [k_160]; decide) (by rw [k_160]; rfl) (by decide) ?_
        refine lv_pc (pc2 := 232) rfl ?_
        refine lv_lload hx hb dX0_amountOf_232 (lv_at hl 2 rfl) ?_
        exact ty_lret hx hb hr hlk hG hS True.intro dX0_amountOf_234
      refine lv_tableOut (tgt := 298) hx hb dX0_amountOf_54 (by omega) (by decide) ?_
      refine lv_lconst (v := 0) hx hb dX0_amountOf_298 (by decide) ?_
      exact ty_lret hx hb hr hlk hG hS True.intro dX0_amountOf_299

def uX0_send : List Cond := .code yX0_send cX0_send 5 none :: ([.initialized RX9, .static yX9_isNoStore, .static yX9_isOutside, .fieldLink RX0 22 "RiverModel$Course" "due" "[J", .fieldLink RX0 35 "RiverModel$Course" "hours" "I", .code yX9_isNoStore cX9_isNoStore 1 (some .boolean), .code yX9_isOutside cX9_isOutside 3 (some .boolean)] ++ wsX00)
set_option maxRecDepth 20000 in
theorem gu_X0_send_X9_isNoStore_n : GoodIn uX0_send (uX9_isNoStore) := goodIn_r _ [6] rfl (by decide +kernel)
set_option maxRecDepth 20000 in
theorem gu_X0_send_X9_isOutside_n : GoodIn uX0_send (uX9_isOutside) := goodIn_r _ [7] rfl (by decide +kernel)
set_option maxHeartbeats 4000000 in
set_option maxRecDepth 100000 in
theorem s_X0_send (l : Launch) (D : va_G) (t : Nat → Nat) (cI cL cC : ClassId) (gC : Int32) (gE : Int32) (G : Nat) (gW : Nat → Int32) (gA : Nat → Int32) (a0 : Nat) (a1 : Int32) (a2 : Int32) (a3 : Int64) (hGb : G ≤ 200000000) (k_a0 : t a0 = 5) : tM l yX0_send uX0_send 1 22 D (gF cI cL cC gC gE G gW gA) (gF cI cL cC gC gE (G + 0) gW gA) t cI cL cC [.ref a0, .int a1, .int a2, .long a3] wrC (pV (True)) := by
  refine tM.ofW (cc := cX0_send) (maxL := 5) (ret := none) (by decide) rfl (Nat.le_of_ble_eq_true rfl) ?_
  intro p e s m below meth c hx hb hr hml hown hts hlk H locs hG hK hE hS ls hl
  have hl : lv_has ls 5 [(0, .ref a0), (1, .int a1), (2, .int a2), (3, .long a3)] := hl
  have in0 : ∀ w ∈ wsX00, w ∈ uX0_send := fun w h => List.mem_cons_of_mem _ (List.mem_append_right _ h)
  refine lv_iload_n hx hb dX0_send_0 rfl (lv_at hl 1 rfl) ?_
  refine ty_calli (tRun (va_runSN (As := [.int a1]) (rest := []) ⟨hx, hb, hml, hown, hts⟩ (s_X9_isNoStore l D t cI cL cC gC gE G gW gA a1 ) ⟨(va_cnB 1 hts gu_X0_send_X9_isNoStore_n rfl rfl rfl (hE.2.1 _ (List.mem_of_getElem? (i := 12) rfl)) (hts (.initialized RX9) (List.mem_of_getElem? (i := 1) rfl)) (by decide +kernel) ⟨Nat.le_of_ble_eq_true rfl, Nat.le_of_ble_eq_true rfl⟩), (hts (.static yX9_isNoStore) (List.mem_of_getElem? (i := 2) rfl)), trivial⟩ (tP_S hG hE) rfl rfl hl.1 rfl (lv_room (Nat.le_of_ble_eq_true rfl)) dX0_send_1 ⟨Nat.le_of_ble_eq_true rfl, Nat.le_of_ble_eq_true rfl⟩)) hS (fun k h => by simp [wr0] at h) (fun r_1 H locs hp_2 hG hS o_3 => ?_)
  rcases hp_2 with ⟨rfl, hc_36⟩ | ⟨rfl, hc_37, hc_38⟩
  · skip
    refine lv_if_ne (tgt := 40) hx hb dX0_send_4 (by decide) (fun _ => ?_) (fun q => absurd q (by decide))
    exact ty_vret hx hb hr hlk (hG.weak (fun _ _ => gF_mono (by omega))) hS True.intro dX0_send_40
  · skip
    refine lv_if_ne (tgt := 40) hx hb dX0_send_4 (by decide) (fun q => absurd rfl q) (fun _ => ?_)
    refine lv_iload_n hx hb dX0_send_7 rfl (lv_at hl 2 rfl) ?_
    refine lv_iconst (v := 1) hx hb dX0_send_8 (by decide) ?_
    refine lv_pc (pc2 := 9) rfl ?_
    refine lv_bipush (v := 12) hx hb dX0_send_9 (by decide) ?_
    refine ty_calli (tRun (va_runSN (As := [.int a2, .int 1, .int 12]) (rest := []) ⟨hx, hb, hml, hown, hts⟩ (s_X9_isOutside l D t cI cL cC gC gE G gW gA a2 1 12 1 12 (by decide) (by decide) ) ⟨(va_cnB 3 hts gu_X0_send_X9_isOutside_n rfl rfl rfl (hE.2.1 _ (List.mem_of_getElem? (i := 14) rfl)) (hts (.initialized RX9) (List.mem_of_getElem? (i := 1) rfl)) (by decide +kernel) ⟨Nat.le_of_ble_eq_true rfl, Nat.le_of_ble_eq_true rfl⟩), (hts (.static yX9_isOutside) (List.mem_of_getElem? (i := 3) rfl)), trivial⟩ (tP_S hG hE) rfl rfl hl.1 rfl (lv_room (Nat.le_of_ble_eq_true rfl)) dX0_send_11 ⟨Nat.le_of_ble_eq_true rfl, Nat.le_of_ble_eq_true rfl⟩)) hS (fun k h => by simp [wr0] at h) (fun r_4 H locs hp_5 hG hS o_6 => ?_)
    rcases hp_5 with ⟨rfl, hc_39⟩ | ⟨rfl, hc_40, hc_41⟩
    · skip
      refine lv_if_ne (tgt := 40) hx hb dX0_send_14 (by decide) (fun _ => ?_) (fun q => absurd q (by decide))
      exact ty_vret hx hb hr hlk (hG.weak (fun _ _ => gF_mono (by omega))) hS True.intro dX0_send_40
    · skip
      refine lv_if_ne (tgt := 40) hx hb dX0_send_14 (by decide) (fun q => absurd rfl q) (fun _ => ?_)
      refine lv_aload_n hx hb dX0_send_17 rfl (lv_at hl 0 rfl) ?_
      obtain ⟨r_7, r_9, r_11, r_13, v_15, v_16, v_17, v_18, at_20, h_8, h_10, h_12, h_14, h_19⟩ := gF_o5 hG k_a0
      refine va_get (D := D) (ci := 0) (v := .ref r_13) (C := RX0) (T := TX0) (N := 8) hx hb hts in0 hown hK (va_one at_20) 0 rfl rfl 3 (by decide) (hts (.fieldLink RX0 22 "RiverModel$Course" "due" "[J") (List.mem_of_getElem? (i := 4) rfl)) (fun _ h9 => h9) rfl dX0_send_18 ?_
      refine lv_aload_n hx hb dX0_send_21 rfl (lv_at hl 0 rfl) ?_
      refine lv_pc (pc2 := 22) rfl ?_
      refine va_get (D := D) (ci := 0) (v := .int v_18) (C := RX0) (T := TX0) (N := 8) hx hb hts in0 hown hK (va_one at_20) 0 rfl rfl 7 (by decide) (hts (.fieldLink RX0 35 "RiverModel$Course" "hours" "I") (List.mem_of_getElem? (i := 5) rfl)) (fun _ h9 => h9) rfl dX0_send_22 ?_
      refine lv_iload_n hx hb dX0_send_25 rfl (lv_at hl 2 rfl) ?_
      refine lv_iadd hx hb dX0_send_26 ?_
      refine lv_topi (fun x_21 e_22 => ?_)
      have i_x_21 : x_21.toInt = v_18.toInt + a2.toInt := by rw [e_22]; exact (q_add (by omega) (by omega)).trans (by rfl)
      refine lv_bipush (v := 13) hx hb dX0_send_27 (by decide) ?_
      refine lv_irem hx hb dX0_send_29 (by decide) ?_
      refine lv_topi (fun x_23 e_24 => ?_)
      have i_x_23 : 0 ≤ x_23.toInt ∧ x_23.toInt < 13 := by rw [e_24]; exact q_rem (n := 13) rfl (by decide) (by omega)
      refine lv_bipush (v := 16) hx hb dX0_send_30 (by decide) ?_
      refine lv_imul hx hb dX0_send_32 ?_
      refine lv_topi (fun x_25 e_26 => ?_)
      have i_x_25 : x_25.toInt = x_23.toInt * 16 := by rw [e_26]; exact (q_mul (by rw [show (16 : Int32).toInt = 16 by decide]; omega) (by rw [show (16 : Int32).toInt = 16 by decide]; omega)).trans (by rw [show (16 : Int32).toInt = 16 by decide])
      refine lv_iload_n hx hb dX0_send_33 rfl (lv_at hl 1 rfl) ?_
      refine lv_pc (pc2 := 34) rfl ?_
      refine lv_iadd hx hb dX0_send_34 ?_
      refine lv_topi (fun x_27 e_28 => ?_)
      have i_x_27 : x_27.toInt = x_25.toInt + a1.toInt := by rw [e_28]; exact (q_add (by omega) (by omega)).trans (by rfl)
      refine lv_dup2_11 hx hb dX0_send_35 rfl rfl ?_
      obtain ⟨f_29, at_30⟩ := gF_o20 hG h_14
      have b_31 : vp_in x_27 208 := (q_in (by omega) (by omega))
      refine va_lald hx hb hK (va_one at_30) 0 1 rfl rfl b_31 dX0_send_36 ?_
      refine lv_topl (fun z_32 e_33 => ?_)
      refine lv_lload_n hx hb dX0_send_37 rfl (lv_at hl 3 rfl) ?_
      refine lv_ladd hx hb dX0_send_38 ?_
      refine lv_topl (fun z_34 e_35 => ?_)
      have b_36 : vp_in x_27 208 := (q_in (by omega) (by omega))
      refine ty_last (F2 := (gF cI cL cC gC gE G gW gA)) hx hb hK hG hS 1 at_30 (by rw [h_14]; rfl) rfl b_36 (by rw [h_14]; exact ⟨_, rfl⟩) tFF dX0_send_39 (fun H locs hG hS at_37 o_38 => ?_)
      have at_20 := va_at.keptK at_20 o_38 h_14 k_a0 rfl
      exact ty_vret hx hb hr hlk (hG.weak (fun _ _ => gF_mono (by omega))) hS True.intro dX0_send_40

def uX0_move : List Cond := .code yX0_move cX0_move 8 none :: ([.methodLink RX0 86 yX4_cell, .instanceMethod yX4_cell, .selects RX4 yX4_cell yX4_cell, .initialized RX4, .initialized RX9, .static yX9_isNoStore, .fieldLink RX0 9 "RiverModel$Course" "held" "[J", .fieldLink RX0 25 "RiverModel$Course" "rained" "J", .methodLink RX0 124 yX0_send, .instanceMethod yX0_send, .selects RX0 yX0_send yX0_send, .initialized RX0, .fieldLink RX0 32 "RiverModel$Course" "sea" "J", .fieldLink RX0 29 "RiverModel$Course" "air" "J", .code yX4_cell cX4_cell 3 (some .int), .fieldLink RX4 9 "RiverModel$Model" "cells" "[I", .code yX9_isNoStore cX9_isNoStore 1 (some .boolean), .code yX0_send cX0_send 5 none, .static yX9_isOutside, .fieldLink RX0 22 "RiverModel$Course" "due" "[J", .fieldLink RX0 35 "RiverModel$Course" "hours" "I", .code yX9_isOutside cX9_isOutside 3 (some .boolean)] ++ wsX00 ++ wsX40)
set_option maxRecDepth 20000 in
theorem gu_X0_move_X4_cell_86 : GoodIn uX0_move (wsV RX0 86 RX4 yX4_cell uX4_cell) := goodIn_r _ [1, 2, 3, 4, 15, 16, 31, 32, 33, 34, 35, 36] rfl (by decide +kernel)
set_option maxRecDepth 20000 in
theorem gu_X0_move_X9_isNoStore_n : GoodIn uX0_move (uX9_isNoStore) := goodIn_r _ [17] rfl (by decide +kernel)
set_option maxRecDepth 20000 in
theorem gu_X0_move_X0_send_124 : GoodIn uX0_move (wsV RX0 124 RX0 yX0_send uX0_send) := goodIn_r _ [9, 10, 11, 12, 18, 5, 6, 19, 20, 21, 17, 22, 23, 24, 25, 26, 27, 28, 29, 30] rfl (by decide +kernel)
set_option maxHeartbeats 4000000 in
set_option maxRecDepth 100000 in
theorem s_X0_move (l : Launch) (D : va_G) (t : Nat → Nat) (cI cL cC : ClassId) (gC : Int32) (gE : Int32) (G : Nat) (gW : Nat → Int32) (gA : Nat → Int32) (a0 : Nat) (a1 : Nat) (a2 : Int32) (a3 : Int64) (hGb : G ≤ 200000000) (k_a0 : t a0 = 5) (k_a1 : t a1 = 3) : tM l yX0_move uX0_move 2 46 D (gF cI cL cC gC gE G gW gA) (gF cI cL cC gC gE (G + 0) gW gA) t cI cL cC [.ref a0, .ref a1, .int a2, .long a3] wrC (pV (True)) := by
  refine tM.ofW (cc := cX0_move) (maxL := 8) (ret := none) (by decide) rfl (Nat.le_of_ble_eq_true rfl) ?_
  intro p e s m below meth c hx hb hr hml hown hts hlk H locs hG hK hE hS ls hl
  have hl : lv_has ls 8 [(0, .ref a0), (1, .ref a1), (2, .int a2), (3, .long a3)] := hl
  have in0 : ∀ w ∈ wsX00, w ∈ uX0_move := fun w h => List.mem_cons_of_mem _ (List.mem_append_left _ (List.mem_append_right _ h))
  refine lv_aload_n hx hb dX0_move_0 rfl (lv_at hl 1 rfl) ?_
  refine lv_iload_n hx hb dX0_move_1 rfl (lv_at hl 2 rfl) ?_
  refine lv_iconst (v := 1) hx hb dX0_move_2 (by decide) ?_
  obtain ⟨r_1, r_3, r_5, v_7, v_8, v_9, at_11, h_2, h_4, h_6, h_10⟩ := gF_o3 hG k_a1
  refine ty_calli ((W.runV (As := [.int a2, .int 1]) (rest := []) ⟨hx, hb, hml, hown, hts⟩ (s_X4_cell l D t cI cL cC gC gE G gW gA a1 a2 1 k_a1) (cwV 2 hts gu_X0_move_X4_cell_86 rfl rfl rfl (by decide +kernel) ⟨Nat.le_of_ble_eq_true rfl, Nat.le_of_ble_eq_true rfl⟩) (tP_V hG hE at_11 rfl) rfl rfl hl.1 rfl (lv_room (Nat.le_of_ble_eq_true rfl)) dX0_move_3 ⟨Nat.le_of_ble_eq_true rfl, Nat.le_of_ble_eq_true rfl⟩)) hS (fun k h => by simp [wr0] at h) (fun r_12 H locs hp_13 hG hS o_14 => ?_)
  have at_11 := va_at.keptC at_11 o_14 k_a1 rfl
  refine lv_istore (lv' := [(5, .int r_12), (0, .ref a0), (1, .ref a1), (2, .int a2), (3, .long a3)]) hx hb dX0_move_6 hl (by decide) rfl (fun ls hl => ?_)
  refine lv_aload_n hx hb dX0_move_8 rfl (lv_at hl 2 rfl) ?_
  refine lv_iload_n hx hb dX0_move_9 rfl (lv_at hl 3 rfl) ?_
  refine lv_pc (pc2 := 10) rfl ?_
  refine lv_iconst (v := 2) hx hb dX0_move_10 (by decide) ?_
  refine ty_calli ((W.runV (As := [.int a2, .int 2]) (rest := []) ⟨hx, hb, hml, hown, hts⟩ (s_X4_cell l D t cI cL cC gC gE G gW gA a1 a2 2 k_a1) (cwV 2 hts gu_X0_move_X4_cell_86 rfl rfl rfl (by decide +kernel) ⟨Nat.le_of_ble_eq_true rfl, Nat.le_of_ble_eq_true rfl⟩) (tP_V hG hE at_11 rfl) rfl rfl hl.1 rfl (lv_room (Nat.le_of_ble_eq_true rfl)) dX0_move_11 ⟨Nat.le_of_ble_eq_true rfl, Nat.le_of_ble_eq_true rfl⟩)) hS (fun k h => by simp [wr0] at h) (fun r_15 H locs hp_16 hG hS o_17 => ?_)
  have at_11 := va_at.keptC at_11 o_17 k_a1 rfl
  refine lv_istore (lv' := [(6, .int r_15), (5, .int r_12), (0, .ref a0), (1, .ref a1), (2, .int a2), (3, .long a3)]) hx hb dX0_move_14 hl (by decide) rfl (fun ls hl => ?_)
  refine lv_aload_n hx hb dX0_move_16 rfl (lv_at hl 3 rfl) ?_
  refine lv_iload_n hx hb dX0_move_17 rfl (lv_at hl 4 rfl) ?_
  refine lv_iconst (v := 0) hx hb dX0_move_18 (by decide) ?_
  refine ty_calli ((W.runV (As := [.int a2, .int 0]) (rest := []) ⟨hx, hb, hml, hown, hts⟩ (s_X4_cell l D t cI cL cC gC gE G gW gA a1 a2 0 k_a1) (cwV 2 hts gu_X0_move_X4_cell_86 rfl rfl rfl (by decide +kernel) ⟨Nat.le_of_ble_eq_true rfl, Nat.le_of_ble_eq_true rfl⟩) (tP_V hG hE at_11 rfl) rfl rfl hl.1 rfl (lv_room (Nat.le_of_ble_eq_true rfl)) dX0_move_19 ⟨Nat.le_of_ble_eq_true rfl, Nat.le_of_ble_eq_true rfl⟩)) hS (fun k h => by simp [wr0] at h) (fun r_18 H locs hp_19 hG hS o_20 => ?_)
  have at_11 := va_at.keptC at_11 o_20 k_a1 rfl
  refine lv_istore (lv' := [(7, .int r_18), (6, .int r_15), (5, .int r_12), (0, .ref a0), (1, .ref a1), (2, .int a2), (3, .long a3)]) hx hb dX0_move_22 hl (by decide) rfl (fun ls hl => ?_)
  refine lv_pc (pc2 := 24) rfl ?_
  refine lv_iload hx hb dX0_move_24 (lv_at hl 0 rfl) ?_
  refine lv_bipush (v := 115) hx hb dX0_move_26 (by decide) ?_
  refine lv_icmp_eq (tgt := 39) hx hb dX0_move_28 (by decide) (fun c_21 => ?_) (fun c_21 => ?_)
  · skip
    have c_21 : r_18.toInt = 115 := q_eq c_21
    exact ty_vret hx hb hr hlk (hG.weak (fun _ _ => gF_mono (by omega))) hS True.intro dX0_move_39
  · skip
    have c_21 : r_18.toInt ≠ 115 := q_ne c_21
    refine lv_iload hx hb dX0_move_31 (lv_at hl 2 rfl) ?_
    refine ty_calli (tRun (va_runSN (As := [.int r_12]) (rest := []) ⟨hx, hb, hml, hown, hts⟩ (s_X9_isNoStore l D t cI cL cC gC gE G gW gA r_12 ) ⟨(va_cnB 1 hts gu_X0_move_X9_isNoStore_n rfl rfl rfl (hE.2.1 _ (List.mem_of_getElem? (i := 12) rfl)) (hts (.initialized RX9) (List.mem_of_getElem? (i := 5) rfl)) (by decide +kernel) ⟨Nat.le_of_ble_eq_true rfl, Nat.le_of_ble_eq_true rfl⟩), (hts (.static yX9_isNoStore) (List.mem_of_getElem? (i := 6) rfl)), trivial⟩ (tP_S hG hE) rfl rfl hl.1 rfl (lv_room (Nat.le_of_ble_eq_true rfl)) dX0_move_33 ⟨Nat.le_of_ble_eq_true rfl, Nat.le_of_ble_eq_true rfl⟩)) hS (fun k h => by simp [wr0] at h) (fun r_22 H locs hp_23 hG hS o_24 => ?_)
    have at_11 := va_at.keptC at_11 o_24 k_a1 rfl
    rcases hp_23 with ⟨rfl, hc_42⟩ | ⟨rfl, hc_43, hc_44⟩
    · skip
      refine lv_if_eq (tgt := 40) hx hb dX0_move_36 (by decide) (fun q => absurd q (by decide)) (fun _ => ?_)
      exact ty_vret hx hb hr hlk (hG.weak (fun _ _ => gF_mono (by omega))) hS True.intro dX0_move_39
    · skip
      refine lv_pc (pc2 := 36) rfl ?_
      refine lv_if_eq (tgt := 40) hx hb dX0_move_36 (by decide) (fun _ => ?_) (fun q => absurd (by decide) q)
      refine lv_iload hx hb dX0_move_40 (lv_at hl 0 rfl) ?_
      refine lv_bipush (v := 114) hx hb dX0_move_42 (by decide) ?_
      refine lv_icmp_eq (tgt := 54) hx hb dX0_move_44 (by decide) (fun c_25 => ?_) (fun c_25 => ?_)
      · skip
        have c_25 : r_18.toInt = 114 := q_eq c_25
        refine lv_aload_n hx hb dX0_move_54 rfl (lv_at hl 3 rfl) ?_
        obtain ⟨r_26, r_28, r_30, r_32, v_34, v_35, v_36, v_37, at_39, h_27, h_29, h_31, h_33, h_38⟩ := gF_o5 hG k_a0
        refine va_get (D := D) (ci := 0) (v := .ref r_26) (C := RX0) (T := TX0) (N := 8) hx hb hts in0 hown hK (va_one at_39) 0 rfl rfl 0 (by decide) (hts (.fieldLink RX0 9 "RiverModel$Course" "held" "[J") (List.mem_of_getElem? (i := 7) rfl)) (fun _ h9 => h9) rfl dX0_move_55 ?_
        refine lv_iload hx hb dX0_move_58 (lv_at hl 2 rfl) ?_
        refine lv_dup2_11 hx hb dX0_move_60 rfl rfl ?_
        refine lv_pc (pc2 := 61) rfl ?_
        obtain ⟨f_40, at_41⟩ := gF_o17 hG h_27
        have b_42 : vp_in r_12 16 := (q_in (by omega) (by omega))
        refine va_lald hx hb hK (va_one at_41) 0 1 rfl rfl b_42 dX0_move_61 ?_
        refine lv_topl (fun z_43 e_44 => ?_)
        refine lv_lload_n hx hb dX0_move_62 rfl (lv_at hl 6 rfl) ?_
        refine lv_ladd hx hb dX0_move_63 ?_
        refine lv_topl (fun z_45 e_46 => ?_)
        have b_47 : vp_in r_12 16 := (q_in (by omega) (by omega))
        refine ty_last (F2 := (gF cI cL cC gC gE G gW gA)) hx hb hK hG hS 1 at_41 (by rw [h_27]; rfl) rfl b_47 (by rw [h_27]; exact ⟨_, rfl⟩) tFF dX0_move_64 (fun H locs hG hS at_48 o_49 => ?_)
        have at_11 := va_at.keptK at_11 o_49 h_27 k_a1 rfl
        have at_39 := va_at.keptK at_39 o_49 h_27 k_a0 rfl
        refine lv_aload_n hx hb dX0_move_65 rfl (lv_at hl 3 rfl) ?_
        refine lv_dup hx hb dX0_move_66 rfl ?_
        refine va_get (D := D) (ci := 0) (v := .long v_34) (C := RX0) (T := TX0) (N := 8) hx hb hts in0 hown hK (va_one at_39) 0 rfl rfl 4 (by decide) (hts (.fieldLink RX0 25 "RiverModel$Course" "rained" "J") (List.mem_of_getElem? (i := 8) rfl)) (fun _ h9 => h9) rfl dX0_move_67 ?_
        refine lv_lload_n hx hb dX0_move_70 rfl (lv_at hl 6 rfl) ?_
        refine lv_pc (pc2 := 71) rfl ?_
        refine lv_ladd hx hb dX0_move_71 ?_
        refine lv_topl (fun z_50 e_51 => ?_)
        refine ty_put (D := D) (ci := 0) (v := .long z_50) (ty := .long) (C := RX0) (T := TX0) (N := 8) (F2 := (gF cI cL cC gC gE G gW gA)) hx hb hts in0 tyX0 tyX0_ok nmX0 hown hK hG hS at_39 (by rw [k_a0]; rfl) rfl 4 (by decide) (hts (.fieldLink RX0 25 "RiverModel$Course" "rained" "J") (List.mem_of_getElem? (i := 8) rfl)) (fun _ h9 => h9) rfl (by decide +kernel) rfl rfl (Nat.le_of_ble_eq_true rfl) (by rw [k_a0]; exact ⟨r_26, r_28, r_30, r_32, z_50, v_35, v_36, v_37, rfl, h_27, h_29, h_31, h_33, (by omega)⟩) tFF dX0_move_72 (fun H locs hG hS at_52 o_53 => ?_)
        have at_52 : va_at D vwCl (a0, .inr (0, [.ref r_26, .ref r_28, .ref r_30, .ref r_32, .long z_50, .long v_35, .long v_36, .int v_37])) H := at_52
        have at_11 := va_at.keptK at_11 o_53 k_a0 k_a1 rfl
        exact ty_vret hx hb hr hlk (hG.weak (fun _ _ => gF_mono (by omega))) hS True.intro dX0_move_75
      · skip
        have c_25 : r_18.toInt ≠ 114 := q_ne c_25
        refine lv_iload hx hb dX0_move_47 (lv_at hl 0 rfl) ?_
        refine lv_bipush (v := 110) hx hb dX0_move_49 (by decide) ?_
        refine lv_icmp_ne (tgt := 76) hx hb dX0_move_51 (by decide) (fun c_54 => ?_) (fun c_54 => ?_)
        · skip
          have c_54 : r_18.toInt ≠ 110 := q_ne c_54
          refine lv_aload_n hx hb dX0_move_76 rfl (lv_at hl 3 rfl) ?_
          obtain ⟨r_55, r_57, r_59, r_61, v_63, v_64, v_65, v_66, at_68, h_56, h_58, h_60, h_62, h_67⟩ := gF_o5 hG k_a0
          refine va_get (D := D) (ci := 0) (v := .ref r_55) (C := RX0) (T := TX0) (N := 8) hx hb hts in0 hown hK (va_one at_68) 0 rfl rfl 0 (by decide) (hts (.fieldLink RX0 9 "RiverModel$Course" "held" "[J") (List.mem_of_getElem? (i := 7) rfl)) (fun _ h9 => h9) rfl dX0_move_77 ?_
          refine lv_pc (pc2 := 80) rfl ?_
          refine lv_iload hx hb dX0_move_80 (lv_at hl 2 rfl) ?_
          refine lv_dup2_11 hx hb dX0_move_82 rfl rfl ?_
          obtain ⟨f_69, at_70⟩ := gF_o17 hG h_56
          have b_71 : vp_in r_12 16 := (q_in (by omega) (by omega))
          refine va_lald hx hb hK (va_one at_70) 0 1 rfl rfl b_71 dX0_move_83 ?_
          refine lv_topl (fun z_72 e_73 => ?_)
          refine lv_lload_n hx hb dX0_move_84 rfl (lv_at hl 6 rfl) ?_
          refine lv_lsub hx hb dX0_move_85 ?_
          refine lv_topl (fun z_74 e_75 => ?_)
          have b_76 : vp_in r_12 16 := (q_in (by omega) (by omega))
          refine ty_last (F2 := (gF cI cL cC gC gE G gW gA)) hx hb hK hG hS 1 at_70 (by rw [h_56]; rfl) rfl b_76 (by rw [h_56]; exact ⟨_, rfl⟩) tFF dX0_move_86 (fun H locs hG hS at_77 o_78 => ?_)
          have at_11 := va_at.keptK at_11 o_78 h_56 k_a1 rfl
          have at_68 := va_at.keptK at_68 o_78 h_56 k_a0 rfl
          refine lv_iload hx hb dX0_move_87 (lv_at hl 0 rfl) ?_
          refine lv_bipush (v := 101) hx hb dX0_move_89 (by decide) ?_
          refine lv_pc (pc2 := 91) rfl ?_
          refine lv_icmp_ne (tgt := 107) hx hb dX0_move_91 (by decide) (fun c_79 => ?_) (fun c_79 => ?_)
          · skip
            have c_79 : r_18.toInt ≠ 101 := q_ne c_79
            refine lv_iload hx hb dX0_move_107 (lv_at hl 0 rfl) ?_
            refine lv_bipush (v := 122) hx hb dX0_move_109 (by decide) ?_
            refine lv_icmp_ne (tgt := 127) hx hb dX0_move_111 (by decide) (fun c_80 => ?_) (fun c_80 => ?_)
            · skip
              have c_80 : r_18.toInt ≠ 122 := q_ne c_80
              refine lv_iload hx hb dX0_move_127 (lv_at hl 0 rfl) ?_
              refine lv_bipush (v := 116) hx hb dX0_move_129 (by decide) ?_
              refine lv_icmp_ne (tgt := 150) hx hb dX0_move_131 (by decide) (fun c_81 => ?_) (fun c_81 => ?_)
              · skip
                have c_81 : r_18.toInt ≠ 116 := q_ne c_81
                refine lv_iload hx hb dX0_move_150 (lv_at hl 1 rfl) ?_
                refine lv_pc (pc2 := 152) rfl ?_
                refine ty_calli (tRun (va_runSN (As := [.int r_15]) (rest := []) ⟨hx, hb, hml, hown, hts⟩ (s_X9_isNoStore l D t cI cL cC gC gE G gW gA r_15 ) ⟨(va_cnB 1 hts gu_X0_move_X9_isNoStore_n rfl rfl rfl (hE.2.1 _ (List.mem_of_getElem? (i := 12) rfl)) (hts (.initialized RX9) (List.mem_of_getElem? (i := 5) rfl)) (by decide +kernel) ⟨Nat.le_of_ble_eq_true rfl, Nat.le_of_ble_eq_true rfl⟩), (hts (.static yX9_isNoStore) (List.mem_of_getElem? (i := 6) rfl)), trivial⟩ (tP_S hG hE) rfl rfl hl.1 rfl (lv_room (Nat.le_of_ble_eq_true rfl)) dX0_move_152 ⟨Nat.le_of_ble_eq_true rfl, Nat.le_of_ble_eq_true rfl⟩)) hS (fun k h => by simp [wr0] at h) (fun r_82 H locs hp_83 hG hS o_84 => ?_)
                have at_11 := va_at.keptC at_11 o_84 k_a1 rfl
                have at_68 := va_at.keptC at_68 o_84 k_a0 rfl
                rcases hp_83 with ⟨rfl, hc_45⟩ | ⟨rfl, hc_46, hc_47⟩
                · skip
                  refine lv_if_ne (tgt := 169) hx hb dX0_move_155 (by decide) (fun _ => ?_) (fun q => absurd q (by decide))
                  exact ty_vret hx hb hr hlk (hG.weak (fun _ _ => gF_mono (by omega))) hS True.intro dX0_move_169
                · skip
                  refine lv_if_ne (tgt := 169) hx hb dX0_move_155 (by decide) (fun q => absurd rfl q) (fun _ => ?_)
                  refine lv_aload_n hx hb dX0_move_158 rfl (lv_at hl 3 rfl) ?_
                  refine va_get (D := D) (ci := 0) (v := .ref r_55) (C := RX0) (T := TX0) (N := 8) hx hb hts in0 hown hK (va_one at_68) 0 rfl rfl 0 (by decide) (hts (.fieldLink RX0 9 "RiverModel$Course" "held" "[J") (List.mem_of_getElem? (i := 7) rfl)) (fun _ h9 => h9) rfl dX0_move_159 ?_
                  refine lv_iload hx hb dX0_move_162 (lv_at hl 1 rfl) ?_
                  refine lv_dup2_11 hx hb dX0_move_164 rfl rfl ?_
                  refine lv_pc (pc2 := 165) rfl ?_
                  obtain ⟨f_85, at_86⟩ := gF_o17 hG h_56
                  have b_87 : vp_in r_15 16 := (q_in (by omega) (by omega))
                  refine va_lald hx hb hK (va_one at_86) 0 1 rfl rfl b_87 dX0_move_165 ?_
                  refine lv_topl (fun z_88 e_89 => ?_)
                  refine lv_lload_n hx hb dX0_move_166 rfl (lv_at hl 6 rfl) ?_
                  refine lv_ladd hx hb dX0_move_167 ?_
                  refine lv_topl (fun z_90 e_91 => ?_)
                  have b_92 : vp_in r_15 16 := (q_in (by omega) (by omega))
                  refine ty_last (F2 := (gF cI cL cC gC gE G gW gA)) hx hb hK hG hS 1 at_86 (by rw [h_56]; rfl) rfl b_92 (by rw [h_56]; exact ⟨_, rfl⟩) tFF dX0_move_168 (fun H locs hG hS at_93 o_94 => ?_)
                  have at_11 := va_at.keptK at_11 o_94 h_56 k_a1 rfl
                  have at_68 := va_at.keptK at_68 o_94 h_56 k_a0 rfl
                  exact ty_vret hx hb hr hlk (hG.weak (fun _ _ => gF_mono (by omega))) hS True.intro dX0_move_169
              · skip
                have c_81 : r_18.toInt = 116 := q_eq c_81
                refine lv_aload_n hx hb dX0_move_134 rfl (lv_at hl 3 rfl) ?_
                refine lv_iload hx hb dX0_move_135 (lv_at hl 1 rfl) ?_
                refine lv_aload_n hx hb dX0_move_137 rfl (lv_at hl 4 rfl) ?_
                refine lv_pc (pc2 := 138) rfl ?_
                refine lv_iload_n hx hb dX0_move_138 rfl (lv_at hl 5 rfl) ?_
                refine lv_iconst (v := 3) hx hb dX0_move_139 (by decide) ?_
                refine ty_calli ((W.runV (As := [.int a2, .int 3]) (rest := [.int r_15, .ref a0]) ⟨hx, hb, hml, hown, hts⟩ (s_X4_cell l D t cI cL cC gC gE G gW gA a1 a2 3 k_a1) (cwV 2 hts gu_X0_move_X4_cell_86 rfl rfl rfl (by decide +kernel) ⟨Nat.le_of_ble_eq_true rfl, Nat.le_of_ble_eq_true rfl⟩) (tP_V hG hE at_11 rfl) rfl rfl hl.1 rfl (lv_room (Nat.le_of_ble_eq_true rfl)) dX0_move_140 ⟨Nat.le_of_ble_eq_true rfl, Nat.le_of_ble_eq_true rfl⟩)) hS (fun k h => by simp [wr0] at h) (fun r_95 H locs hp_96 hG hS o_97 => ?_)
                have at_11 := va_at.keptC at_11 o_97 k_a1 rfl
                have at_68 := va_at.keptC at_68 o_97 k_a0 rfl
                refine lv_lload_n hx hb dX0_move_143 rfl (lv_at hl 6 rfl) ?_
                refine ty_callv ((W.runV (As := [.int r_15, .int r_95, .long a3]) (rest := []) ⟨hx, hb, hml, hown, hts⟩ (s_X0_send l D t cI cL cC gC gE G gW gA a0 r_15 r_95 a3 (by omega) k_a0) (cwV 3 hts gu_X0_move_X0_send_124 rfl rfl rfl (by decide +kernel) ⟨Nat.le_of_ble_eq_true rfl, Nat.le_of_ble_eq_true rfl⟩) (tP_V hG hE at_68 rfl) rfl rfl hl.1 rfl (lv_room (Nat.le_of_ble_eq_true rfl)) dX0_move_144 ⟨Nat.le_of_ble_eq_true rfl, Nat.le_of_ble_eq_true rfl⟩)) hS (fun _ h => h) (fun H locs hp_99 hG hS o_100 => ?_)
                have at_11 := va_at.keptC at_11 o_100 k_a1 rfl
                refine lv_goto (tgt := 169) hx hb dX0_move_147 (by decide) ?_
                exact ty_vret hx hb hr hlk hG hS True.intro dX0_move_169
            · skip
              have c_80 : r_18.toInt = 122 := q_eq c_80
              refine lv_aload_n hx hb dX0_move_114 rfl (lv_at hl 3 rfl) ?_
              refine lv_pc (pc2 := 115) rfl ?_
              refine lv_dup hx hb dX0_move_115 rfl ?_
              refine va_get (D := D) (ci := 0) (v := .long v_65) (C := RX0) (T := TX0) (N := 8) hx hb hts in0 hown hK (va_one at_68) 0 rfl rfl 6 (by decide) (hts (.fieldLink RX0 32 "RiverModel$Course" "sea" "J") (List.mem_of_getElem? (i := 13) rfl)) (fun _ h9 => h9) rfl dX0_move_116 ?_
              refine lv_lload_n hx hb dX0_move_119 rfl (lv_at hl 6 rfl) ?_
              refine lv_ladd hx hb dX0_move_120 ?_
              refine lv_topl (fun z_101 e_102 => ?_)
              refine ty_put (D := D) (ci := 0) (v := .long z_101) (ty := .long) (C := RX0) (T := TX0) (N := 8) (F2 := (gF cI cL cC gC gE G gW gA)) hx hb hts in0 tyX0 tyX0_ok nmX0 hown hK hG hS at_68 (by rw [k_a0]; rfl) rfl 6 (by decide) (hts (.fieldLink RX0 32 "RiverModel$Course" "sea" "J") (List.mem_of_getElem? (i := 13) rfl)) (fun _ h9 => h9) rfl (by decide +kernel) rfl rfl (Nat.le_of_ble_eq_true rfl) (by rw [k_a0]; exact ⟨r_55, r_57, r_59, r_61, v_63, v_64, z_101, v_66, rfl, h_56, h_58, h_60, h_62, (by omega)⟩) tFF dX0_move_121 (fun H locs hG hS at_103 o_104 => ?_)
              have at_103 : va_at D vwCl (a0, .inr (0, [.ref r_55, .ref r_57, .ref r_59, .ref r_61, .long v_63, .long v_64, .long z_101, .int v_66])) H := at_103
              have at_11 := va_at.keptK at_11 o_104 k_a0 k_a1 rfl
              refine lv_goto (tgt := 169) hx hb dX0_move_124 (by decide) ?_
              exact ty_vret hx hb hr hlk (hG.weak (fun _ _ => gF_mono (by omega))) hS True.intro dX0_move_169
          · skip
            have c_79 : r_18.toInt = 101 := q_eq c_79
            refine lv_aload_n hx hb dX0_move_94 rfl (lv_at hl 3 rfl) ?_
            refine lv_pc (pc2 := 95) rfl ?_
            refine lv_dup hx hb dX0_move_95 rfl ?_
            refine va_get (D := D) (ci := 0) (v := .long v_64) (C := RX0) (T := TX0) (N := 8) hx hb hts in0 hown hK (va_one at_68) 0 rfl rfl 5 (by decide) (hts (.fieldLink RX0 29 "RiverModel$Course" "air" "J") (List.mem_of_getElem? (i := 14) rfl)) (fun _ h9 => h9) rfl dX0_move_96 ?_
            refine lv_lload_n hx hb dX0_move_99 rfl (lv_at hl 6 rfl) ?_
            refine lv_ladd hx hb dX0_move_100 ?_
            refine lv_topl (fun z_105 e_106 => ?_)
            refine ty_put (D := D) (ci := 0) (v := .long z_105) (ty := .long) (C := RX0) (T := TX0) (N := 8) (F2 := (gF cI cL cC gC gE G gW gA)) hx hb hts in0 tyX0 tyX0_ok nmX0 hown hK hG hS at_68 (by rw [k_a0]; rfl) rfl 5 (by decide) (hts (.fieldLink RX0 29 "RiverModel$Course" "air" "J") (List.mem_of_getElem? (i := 14) rfl)) (fun _ h9 => h9) rfl (by decide +kernel) rfl rfl (Nat.le_of_ble_eq_true rfl) (by rw [k_a0]; exact ⟨r_55, r_57, r_59, r_61, v_63, z_105, v_65, v_66, rfl, h_56, h_58, h_60, h_62, (by omega)⟩) tFF dX0_move_101 (fun H locs hG hS at_107 o_108 => ?_)
            have at_107 : va_at D vwCl (a0, .inr (0, [.ref r_55, .ref r_57, .ref r_59, .ref r_61, .long v_63, .long z_105, .long v_65, .int v_66])) H := at_107
            have at_11 := va_at.keptK at_11 o_108 k_a0 k_a1 rfl
            refine lv_goto (tgt := 169) hx hb dX0_move_104 (by decide) ?_
            exact ty_vret hx hb hr hlk (hG.weak (fun _ _ => gF_mono (by omega))) hS True.intro dX0_move_169
        · skip
          have c_54 : r_18.toInt = 110 := q_eq c_54
          refine lv_aload_n hx hb dX0_move_54 rfl (lv_at hl 3 rfl) ?_
          refine lv_pc (pc2 := 55) rfl ?_
          obtain ⟨r_109, r_111, r_113, r_115, v_117, v_118, v_119, v_120, at_122, h_110, h_112, h_114, h_116, h_121⟩ := gF_o5 hG k_a0
          refine va_get (D := D) (ci := 0) (v := .ref r_109) (C := RX0) (T := TX0) (N := 8) hx hb hts in0 hown hK (va_one at_122) 0 rfl rfl 0 (by decide) (hts (.fieldLink RX0 9 "RiverModel$Course" "held" "[J") (List.mem_of_getElem? (i := 7) rfl)) (fun _ h9 => h9) rfl dX0_move_55 ?_
          refine lv_iload hx hb dX0_move_58 (lv_at hl 2 rfl) ?_
          refine lv_dup2_11 hx hb dX0_move_60 rfl rfl ?_
          obtain ⟨f_123, at_124⟩ := gF_o17 hG h_110
          have b_125 : vp_in r_12 16 := (q_in (by omega) (by omega))
          refine va_lald hx hb hK (va_one at_124) 0 1 rfl rfl b_125 dX0_move_61 ?_
          refine lv_topl (fun z_126 e_127 => ?_)
          refine lv_lload_n hx hb dX0_move_62 rfl (lv_at hl 6 rfl) ?_
          refine lv_ladd hx hb dX0_move_63 ?_
          refine lv_topl (fun z_128 e_129 => ?_)
          have b_130 : vp_in r_12 16 := (q_in (by omega) (by omega))
          refine ty_last (F2 := (gF cI cL cC gC gE G gW gA)) hx hb hK hG hS 1 at_124 (by rw [h_110]; rfl) rfl b_130 (by rw [h_110]; exact ⟨_, rfl⟩) tFF dX0_move_64 (fun H locs hG hS at_131 o_132 => ?_)
          have at_11 := va_at.keptK at_11 o_132 h_110 k_a1 rfl
          have at_122 := va_at.keptK at_122 o_132 h_110 k_a0 rfl
          refine lv_aload_n hx hb dX0_move_65 rfl (lv_at hl 3 rfl) ?_
          refine lv_pc (pc2 := 66) rfl ?_
          refine lv_dup hx hb dX0_move_66 rfl ?_
          refine va_get (D := D) (ci := 0) (v := .long v_117) (C := RX0) (T := TX0) (N := 8) hx hb hts in0 hown hK (va_one at_122) 0 rfl rfl 4 (by decide) (hts (.fieldLink RX0 25 "RiverModel$Course" "rained" "J") (List.mem_of_getElem? (i := 8) rfl)) (fun _ h9 => h9) rfl dX0_move_67 ?_
          refine lv_lload_n hx hb dX0_move_70 rfl (lv_at hl 6 rfl) ?_
          refine lv_ladd hx hb dX0_move_71 ?_
          refine lv_topl (fun z_133 e_134 => ?_)
          refine ty_put (D := D) (ci := 0) (v := .long z_133) (ty := .long) (C := RX0) (T := TX0) (N := 8) (F2 := (gF cI cL cC gC gE G gW gA)) hx hb hts in0 tyX0 tyX0_ok nmX0 hown hK hG hS at_122 (by rw [k_a0]; rfl) rfl 4 (by decide) (hts (.fieldLink RX0 25 "RiverModel$Course" "rained" "J") (List.mem_of_getElem? (i := 8) rfl)) (fun _ h9 => h9) rfl (by decide +kernel) rfl rfl (Nat.le_of_ble_eq_true rfl) (by rw [k_a0]; exact ⟨r_109, r_111, r_113, r_115, z_133, v_118, v_119, v_120, rfl, h_110, h_112, h_114, h_116, (by omega)⟩) tFF dX0_move_72 (fun H locs hG hS at_135 o_136 => ?_)
          have at_135 : va_at D vwCl (a0, .inr (0, [.ref r_109, .ref r_111, .ref r_113, .ref r_115, .long z_133, .long v_118, .long v_119, .int v_120])) H := at_135
          have at_11 := va_at.keptK at_11 o_136 k_a0 k_a1 rfl
          exact ty_vret hx hb hr hlk (hG.weak (fun _ _ => gF_mono (by omega))) hS True.intro dX0_move_75
