theorem dX0_init_0 : decode cX0_init 0 = .ok (.aload_n 0, 1) := by decide +kernel
theorem dX0_init_1 : decode cX0_init 1 = .ok (.invokespecial 3, 3) := by decide +kernel
theorem dX0_init_4 : decode cX0_init 4 = .ok (.aload_n 0, 1) := by decide +kernel
theorem dX0_init_5 : decode cX0_init 5 = .ok (.bipush 16, 2) := by decide +kernel
theorem dX0_init_7 : decode cX0_init 7 = .ok (.newarray .long, 2) := by decide +kernel
theorem dX0_init_9 : decode cX0_init 9 = .ok (.putfield 9, 3) := by decide +kernel
theorem dX0_init_12 : decode cX0_init 12 = .ok (.aload_n 0, 1) := by decide +kernel
theorem dX0_init_13 : decode cX0_init 13 = .ok (.bipush 40, 2) := by decide +kernel
theorem dX0_init_15 : decode cX0_init 15 = .ok (.newarray .long, 2) := by decide +kernel
theorem dX0_init_17 : decode cX0_init 17 = .ok (.putfield 15, 3) := by decide +kernel
theorem dX0_init_20 : decode cX0_init 20 = .ok (.aload_n 0, 1) := by decide +kernel
theorem dX0_init_21 : decode cX0_init 21 = .ok (.iconst 4, 1) := by decide +kernel
theorem dX0_init_22 : decode cX0_init 22 = .ok (.newarray .int, 2) := by decide +kernel
theorem dX0_init_24 : decode cX0_init 24 = .ok (.putfield 18, 3) := by decide +kernel
theorem dX0_init_27 : decode cX0_init 27 = .ok (.aload_n 0, 1) := by decide +kernel
theorem dX0_init_28 : decode cX0_init 28 = .ok (.sipush 208, 3) := by decide +kernel
theorem dX0_init_31 : decode cX0_init 31 = .ok (.newarray .long, 2) := by decide +kernel
theorem dX0_init_33 : decode cX0_init 33 = .ok (.putfield 22, 3) := by decide +kernel
theorem dX0_init_36 : decode cX0_init 36 = .ok (.aload_n 0, 1) := by decide +kernel
theorem dX0_init_37 : decode cX0_init 37 = .ok (.lconst 0, 1) := by decide +kernel
theorem dX0_init_38 : decode cX0_init 38 = .ok (.putfield 25, 3) := by decide +kernel
theorem dX0_init_41 : decode cX0_init 41 = .ok (.aload_n 0, 1) := by decide +kernel
theorem dX0_init_42 : decode cX0_init 42 = .ok (.lconst 0, 1) := by decide +kernel
theorem dX0_init_43 : decode cX0_init 43 = .ok (.putfield 29, 3) := by decide +kernel
theorem dX0_init_46 : decode cX0_init 46 = .ok (.aload_n 0, 1) := by decide +kernel
theorem dX0_init_47 : decode cX0_init 47 = .ok (.lconst 0, 1) := by decide +kernel
theorem dX0_init_48 : decode cX0_init 48 = .ok (.putfield 32, 3) := by decide +kernel
theorem dX0_init_51 : decode cX0_init 51 = .ok (.aload_n 0, 1) := by decide +kernel
theorem dX0_init_52 : decode cX0_init 52 = .ok (.iconst 0, 1) := by decide +kernel
theorem dX0_init_53 : decode cX0_init 53 = .ok (.putfield 35, 3) := by decide +kernel
theorem dX0_init_56 : decode cX0_init 56 = .ok (.return_, 1) := by decide +kernel
set_option maxRecDepth 20000 in
theorem ggX1_init_J7_fill_53178 : GoodIn wsX1_init wsJ7_fill_53178 := goodIn_r _ [12] (by decide +kernel) (by decide +kernel)
set_option maxRecDepth 20000 in
theorem gX1_init_J7_fill_53178 : GoodIn wsX1_init (va_wsS RX1 25 yJ7_fill_53178 wsJ7_fill_53178) := goodIn_app (goodIn_of _ (by decide +kernel)) ggX1_init_J7_fill_53178
theorem dX1_init_0 : decode cX1_init 0 = .ok (.aload_n 0, 1) := by decide +kernel
theorem dX1_init_1 : decode cX1_init 1 = .ok (.invokespecial 3, 3) := by decide +kernel
theorem dX1_init_4 : decode cX1_init 4 = .ok (.aload_n 0, 1) := by decide +kernel
theorem dX1_init_5 : decode cX1_init 5 = .ok (.iconst 4, 1) := by decide +kernel
theorem dX1_init_6 : decode cX1_init 6 = .ok (.newarray .int, 2) := by decide +kernel
theorem dX1_init_8 : decode cX1_init 8 = .ok (.putfield 9, 3) := by decide +kernel
theorem dX1_init_11 : decode cX1_init 11 = .ok (.aload_n 0, 1) := by decide +kernel
theorem dX1_init_12 : decode cX1_init 12 = .ok (.iconst 4, 1) := by decide +kernel
theorem dX1_init_13 : decode cX1_init 13 = .ok (.newarray .int, 2) := by decide +kernel
theorem dX1_init_15 : decode cX1_init 15 = .ok (.putfield 15, 3) := by decide +kernel
theorem dX1_init_18 : decode cX1_init 18 = .ok (.aload_n 0, 1) := by decide +kernel
theorem dX1_init_19 : decode cX1_init 19 = .ok (.sipush 384, 3) := by decide +kernel
theorem dX1_init_22 : decode cX1_init 22 = .ok (.newarray .int, 2) := by decide +kernel
theorem dX1_init_24 : decode cX1_init 24 = .ok (.putfield 18, 3) := by decide +kernel
theorem dX1_init_27 : decode cX1_init 27 = .ok (.aload_n 0, 1) := by decide +kernel
theorem dX1_init_28 : decode cX1_init 28 = .ok (.iconst 0, 1) := by decide +kernel
theorem dX1_init_29 : decode cX1_init 29 = .ok (.putfield 21, 3) := by decide +kernel
theorem dX1_init_32 : decode cX1_init 32 = .ok (.aload_n 0, 1) := by decide +kernel
theorem dX1_init_33 : decode cX1_init 33 = .ok (.getfield 9, 3) := by decide +kernel
theorem dX1_init_36 : decode cX1_init 36 = .ok (.bipush (-4), 2) := by decide +kernel
theorem dX1_init_38 : decode cX1_init 38 = .ok (.invokestatic 25, 3) := by decide +kernel
theorem dX1_init_41 : decode cX1_init 41 = .ok (.aload_n 0, 1) := by decide +kernel
theorem dX1_init_42 : decode cX1_init 42 = .ok (.getfield 18, 3) := by decide +kernel
theorem dX1_init_45 : decode cX1_init 45 = .ok (.iconst (-1), 1) := by decide +kernel
theorem dX1_init_46 : decode cX1_init 46 = .ok (.invokestatic 25, 3) := by decide +kernel
theorem dX1_init_49 : decode cX1_init 49 = .ok (.return_, 1) := by decide +kernel
theorem dX3_init_0 : decode cX3_init 0 = .ok (.aload_n 0, 1) := by decide +kernel
theorem dX3_init_1 : decode cX3_init 1 = .ok (.invokespecial 3, 3) := by decide +kernel
theorem dX3_init_4 : decode cX3_init 4 = .ok (.aload_n 0, 1) := by decide +kernel
theorem dX3_init_5 : decode cX3_init 5 = .ok (.iconst 2, 1) := by decide +kernel
theorem dX3_init_6 : decode cX3_init 6 = .ok (.newarray .int, 2) := by decide +kernel
theorem dX3_init_8 : decode cX3_init 8 = .ok (.putfield 9, 3) := by decide +kernel
theorem dX3_init_11 : decode cX3_init 11 = .ok (.aload_n 0, 1) := by decide +kernel
theorem dX3_init_12 : decode cX3_init 12 = .ok (.iconst 2, 1) := by decide +kernel
theorem dX3_init_13 : decode cX3_init 13 = .ok (.newarray .int, 2) := by decide +kernel
theorem dX3_init_15 : decode cX3_init 15 = .ok (.putfield 15, 3) := by decide +kernel
theorem dX3_init_18 : decode cX3_init 18 = .ok (.aload_n 0, 1) := by decide +kernel
theorem dX3_init_19 : decode cX3_init 19 = .ok (.iconst 2, 1) := by decide +kernel
theorem dX3_init_20 : decode cX3_init 20 = .ok (.newarray .int, 2) := by decide +kernel
theorem dX3_init_22 : decode cX3_init 22 = .ok (.putfield 18, 3) := by decide +kernel
theorem dX3_init_25 : decode cX3_init 25 = .ok (.aload_n 0, 1) := by decide +kernel
theorem dX3_init_26 : decode cX3_init 26 = .ok (.iconst 2, 1) := by decide +kernel
theorem dX3_init_27 : decode cX3_init 27 = .ok (.newarray .int, 2) := by decide +kernel
theorem dX3_init_29 : decode cX3_init 29 = .ok (.putfield 21, 3) := by decide +kernel
theorem dX3_init_32 : decode cX3_init 32 = .ok (.aload_n 0, 1) := by decide +kernel
theorem dX3_init_33 : decode cX3_init 33 = .ok (.iconst 2, 1) := by decide +kernel
theorem dX3_init_34 : decode cX3_init 34 = .ok (.newarray .int, 2) := by decide +kernel
theorem dX3_init_36 : decode cX3_init 36 = .ok (.putfield 24, 3) := by decide +kernel
theorem dX3_init_39 : decode cX3_init 39 = .ok (.return_, 1) := by decide +kernel
theorem dX4_init_0 : decode cX4_init 0 = .ok (.aload_n 0, 1) := by decide +kernel
theorem dX4_init_1 : decode cX4_init 1 = .ok (.invokespecial 3, 3) := by decide +kernel
theorem dX4_init_4 : decode cX4_init 4 = .ok (.aload_n 0, 1) := by decide +kernel
theorem dX4_init_5 : decode cX4_init 5 = .ok (.sipush 240, 3) := by decide +kernel
theorem dX4_init_8 : decode cX4_init 8 = .ok (.newarray .int, 2) := by decide +kernel
theorem dX4_init_10 : decode cX4_init 10 = .ok (.putfield 9, 3) := by decide +kernel
theorem dX4_init_13 : decode cX4_init 13 = .ok (.aload_n 0, 1) := by decide +kernel
theorem dX4_init_14 : decode cX4_init 14 = .ok (.bipush 16, 2) := by decide +kernel
theorem dX4_init_16 : decode cX4_init 16 = .ok (.newarray .int, 2) := by decide +kernel
theorem dX4_init_18 : decode cX4_init 18 = .ok (.putfield 15, 3) := by decide +kernel
theorem dX4_init_21 : decode cX4_init 21 = .ok (.aload_n 0, 1) := by decide +kernel
theorem dX4_init_22 : decode cX4_init 22 = .ok (.iconst 4, 1) := by decide +kernel
theorem dX4_init_23 : decode cX4_init 23 = .ok (.newarray .int, 2) := by decide +kernel
theorem dX4_init_25 : decode cX4_init 25 = .ok (.putfield 18, 3) := by decide +kernel
theorem dX4_init_28 : decode cX4_init 28 = .ok (.aload_n 0, 1) := by decide +kernel
theorem dX4_init_29 : decode cX4_init 29 = .ok (.iconst 0, 1) := by decide +kernel
theorem dX4_init_30 : decode cX4_init 30 = .ok (.putfield 21, 3) := by decide +kernel
theorem dX4_init_33 : decode cX4_init 33 = .ok (.aload_n 0, 1) := by decide +kernel
theorem dX4_init_34 : decode cX4_init 34 = .ok (.iconst 0, 1) := by decide +kernel
theorem dX4_init_35 : decode cX4_init 35 = .ok (.putfield 25, 3) := by decide +kernel
theorem dX4_init_38 : decode cX4_init 38 = .ok (.aload_n 0, 1) := by decide +kernel
theorem dX4_init_39 : decode cX4_init 39 = .ok (.iconst 0, 1) := by decide +kernel
theorem dX4_init_40 : decode cX4_init 40 = .ok (.putfield 28, 3) := by decide +kernel
theorem dX4_init_43 : decode cX4_init 43 = .ok (.return_, 1) := by decide +kernel
set_option maxRecDepth 20000 in
theorem ggX6_init_J7_fill_53178 : GoodIn wsX6_init wsJ7_fill_53178 := goodIn_r _ [10] (by decide +kernel) (by decide +kernel)
set_option maxRecDepth 20000 in
theorem gX6_init_J7_fill_53178 : GoodIn wsX6_init (va_wsS RX6 18 yJ7_fill_53178 wsJ7_fill_53178) := goodIn_app (goodIn_of _ (by decide +kernel)) ggX6_init_J7_fill_53178
theorem dX6_init_0 : decode cX6_init 0 = .ok (.aload_n 0, 1) := by decide +kernel
theorem dX6_init_1 : decode cX6_init 1 = .ok (.invokespecial 3, 3) := by decide +kernel
theorem dX6_init_4 : decode cX6_init 4 = .ok (.aload_n 0, 1) := by decide +kernel
theorem dX6_init_5 : decode cX6_init 5 = .ok (.bipush 96, 2) := by decide +kernel
theorem dX6_init_7 : decode cX6_init 7 = .ok (.newarray .int, 2) := by decide +kernel
theorem dX6_init_9 : decode cX6_init 9 = .ok (.putfield 9, 3) := by decide +kernel
theorem dX6_init_12 : decode cX6_init 12 = .ok (.aload_n 0, 1) := by decide +kernel
theorem dX6_init_13 : decode cX6_init 13 = .ok (.bipush 96, 2) := by decide +kernel
theorem dX6_init_15 : decode cX6_init 15 = .ok (.newarray .int, 2) := by decide +kernel
theorem dX6_init_17 : decode cX6_init 17 = .ok (.putfield 15, 3) := by decide +kernel
theorem dX6_init_20 : decode cX6_init 20 = .ok (.aload_n 0, 1) := by decide +kernel
theorem dX6_init_21 : decode cX6_init 21 = .ok (.getfield 15, 3) := by decide +kernel
theorem dX6_init_24 : decode cX6_init 24 = .ok (.bipush 10, 2) := by decide +kernel
theorem dX6_init_26 : decode cX6_init 26 = .ok (.invokestatic 18, 3) := by decide +kernel
theorem dX6_init_29 : decode cX6_init 29 = .ok (.return_, 1) := by decide +kernel
theorem dX7_init_0 : decode cX7_init 0 = .ok (.aload_n 0, 1) := by decide +kernel
theorem dX7_init_1 : decode cX7_init 1 = .ok (.invokespecial 3, 3) := by decide +kernel
theorem dX7_init_4 : decode cX7_init 4 = .ok (.aload_n 0, 1) := by decide +kernel
theorem dX7_init_5 : decode cX7_init 5 = .ok (.sipush 400, 3) := by decide +kernel
theorem dX7_init_8 : decode cX7_init 8 = .ok (.newarray .int, 2) := by decide +kernel
theorem dX7_init_10 : decode cX7_init 10 = .ok (.putfield 9, 3) := by decide +kernel
theorem dX7_init_13 : decode cX7_init 13 = .ok (.aload_n 0, 1) := by decide +kernel
theorem dX7_init_14 : decode cX7_init 14 = .ok (.bipush 6, 2) := by decide +kernel
theorem dX7_init_16 : decode cX7_init 16 = .ok (.newarray .int, 2) := by decide +kernel
theorem dX7_init_18 : decode cX7_init 18 = .ok (.putfield 15, 3) := by decide +kernel
theorem dX7_init_21 : decode cX7_init 21 = .ok (.aload_n 0, 1) := by decide +kernel
theorem dX7_init_22 : decode cX7_init 22 = .ok (.iconst 0, 1) := by decide +kernel
theorem dX7_init_23 : decode cX7_init 23 = .ok (.putfield 18, 3) := by decide +kernel
theorem dX7_init_26 : decode cX7_init 26 = .ok (.aload_n 0, 1) := by decide +kernel
theorem dX7_init_27 : decode cX7_init 27 = .ok (.iconst 0, 1) := by decide +kernel
theorem dX7_init_28 : decode cX7_init 28 = .ok (.putfield 22, 3) := by decide +kernel
theorem dX7_init_31 : decode cX7_init 31 = .ok (.return_, 1) := by decide +kernel
theorem dX8_init_0 : decode cX8_init 0 = .ok (.aload_n 0, 1) := by decide +kernel
theorem dX8_init_1 : decode cX8_init 1 = .ok (.invokespecial 3, 3) := by decide +kernel
theorem dX8_init_4 : decode cX8_init 4 = .ok (.aload_n 0, 1) := by decide +kernel
theorem dX8_init_5 : decode cX8_init 5 = .ok (.iconst 4, 1) := by decide +kernel
theorem dX8_init_6 : decode cX8_init 6 = .ok (.newarray .int, 2) := by decide +kernel
theorem dX8_init_8 : decode cX8_init 8 = .ok (.putfield 9, 3) := by decide +kernel
theorem dX8_init_11 : decode cX8_init 11 = .ok (.aload_n 0, 1) := by decide +kernel
theorem dX8_init_12 : decode cX8_init 12 = .ok (.iconst 4, 1) := by decide +kernel
theorem dX8_init_13 : decode cX8_init 13 = .ok (.newarray .int, 2) := by decide +kernel
theorem dX8_init_15 : decode cX8_init 15 = .ok (.putfield 15, 3) := by decide +kernel
theorem dX8_init_18 : decode cX8_init 18 = .ok (.aload_n 0, 1) := by decide +kernel
theorem dX8_init_19 : decode cX8_init 19 = .ok (.bipush 96, 2) := by decide +kernel
theorem dX8_init_21 : decode cX8_init 21 = .ok (.newarray .int, 2) := by decide +kernel
theorem dX8_init_23 : decode cX8_init 23 = .ok (.putfield 18, 3) := by decide +kernel
theorem dX8_init_26 : decode cX8_init 26 = .ok (.return_, 1) := by decide +kernel
theorem df_X7 : ∀ j, j < 4 → defaultValue (tyX7 j) = vp_V [.null, .null, .int 0, .int 0] j := fun j hj => by rcases (show j = 0 ∨ j = 1 ∨ j = 2 ∨ j = 3 by omega) with rfl | rfl | rfl | rfl <;> rfl
theorem df_X4 : ∀ j, j < 6 → defaultValue (tyX4 j) = vp_V [.null, .null, .null, .int 0, .int 0, .int 0] j := fun j hj => by rcases (show j = 0 ∨ j = 1 ∨ j = 2 ∨ j = 3 ∨ j = 4 ∨ j = 5 by omega) with rfl | rfl | rfl | rfl | rfl | rfl <;> rfl
theorem df_X6 : ∀ j, j < 2 → defaultValue (tyX6 j) = vp_V [.null, .null] j := fun j hj => by rcases (show j = 0 ∨ j = 1 by omega) with rfl | rfl <;> rfl
theorem df_X0 : ∀ j, j < 8 → defaultValue (tyX0 j) = vp_V [.null, .null, .null, .null, .long 0, .long 0, .long 0, .int 0] j := fun j hj => by rcases (show j = 0 ∨ j = 1 ∨ j = 2 ∨ j = 3 ∨ j = 4 ∨ j = 5 ∨ j = 6 ∨ j = 7 by omega) with rfl | rfl | rfl | rfl | rfl | rfl | rfl | rfl <;> rfl
theorem df_X1 : ∀ j, j < 4 → defaultValue (tyX1 j) = vp_V [.null, .null, .null, .int 0] j := fun j hj => by rcases (show j = 0 ∨ j = 1 ∨ j = 2 ∨ j = 3 by omega) with rfl | rfl | rfl | rfl <;> rfl
theorem df_X3 : ∀ j, j < 5 → defaultValue (tyX3 j) = vp_V [.null, .null, .null, .null, .null] j := fun j hj => by rcases (show j = 0 ∨ j = 1 ∨ j = 2 ∨ j = 3 ∨ j = 4 by omega) with rfl | rfl | rfl | rfl | rfl <;> rfl
theorem df_X8 : ∀ j, j < 3 → defaultValue (tyX8 j) = vp_V [.null, .null, .null] j := fun j hj => by rcases (show j = 0 ∨ j = 1 ∨ j = 2 by omega) with rfl | rfl | rfl <;> rfl
theorem df_X5 : ∀ j, j < 10 → defaultValue (tyX5 j) = vp_V [.null, .null, .null, .int 0, .long 0, .int 0, .int 0, .int 0, .int 0, .long 0] j := fun j hj => by rcases (show j = 0 ∨ j = 1 ∨ j = 2 ∨ j = 3 ∨ j = 4 ∨ j = 5 ∨ j = 6 ∨ j = 7 ∨ j = 8 ∨ j = 9 by omega) with rfl | rfl | rfl | rfl | rfl | rfl | rfl | rfl | rfl | rfl <;> rfl
theorem df_X9 : ∀ j, j < 18 → defaultValue (tyX9 j) = vp_V [.null, .null, .null, .null, .int 0, .int 0, .null, .null, .null, .null, .null, .null, .null, .int 0, .null, .null, .null, .null] j := fun j hj => by rcases (show j = 0 ∨ j = 1 ∨ j = 2 ∨ j = 3 ∨ j = 4 ∨ j = 5 ∨ j = 6 ∨ j = 7 ∨ j = 8 ∨ j = 9 ∨ j = 10 ∨ j = 11 ∨ j = 12 ∨ j = 13 ∨ j = 14 ∨ j = 15 ∨ j = 16 ∨ j = 17 by omega) with rfl | rfl | rfl | rfl | rfl | rfl | rfl | rfl | rfl | rfl | rfl | rfl | rfl | rfl | rfl | rfl | rfl | rfl <;> rfl
theorem df_X10 : ∀ j, j < 36 → defaultValue (tyX10 j) = vp_V [.int 0, .null, .int 0, .int 0, .null, .null, .null, .null, .int 0, .null, .null, .null, .null, .int 0, .null, .null, .null, .int 0, .null, .null, .null, .null, .null, .null, .null, .null, .null, .int 0, .int 0, .int 0, .int 0, .int 0, .null, .int 0, .int 0, .null] j := fun j hj => by rcases (show j = 0 ∨ j = 1 ∨ j = 2 ∨ j = 3 ∨ j = 4 ∨ j = 5 ∨ j = 6 ∨ j = 7 ∨ j = 8 ∨ j = 9 ∨ j = 10 ∨ j = 11 ∨ j = 12 ∨ j = 13 ∨ j = 14 ∨ j = 15 ∨ j = 16 ∨ j = 17 ∨ j = 18 ∨ j = 19 ∨ j = 20 ∨ j = 21 ∨ j = 22 ∨ j = 23 ∨ j = 24 ∨ j = 25 ∨ j = 26 ∨ j = 27 ∨ j = 28 ∨ j = 29 ∨ j = 30 ∨ j = 31 ∨ j = 32 ∨ j = 33 ∨ j = 34 ∨ j = 35 by omega) with rfl | rfl | rfl | rfl | rfl | rfl | rfl | rfl | rfl | rfl | rfl | rfl | rfl | rfl | rfl | rfl | rfl | rfl | rfl | rfl | rfl | rfl | rfl | rfl | rfl | rfl | rfl | rfl | rfl | rfl | rfl | rfl | rfl | rfl | rfl | rfl <;> rfl
set_option maxHeartbeats 4000000 in
set_option maxRecDepth 100000 in
theorem cc_X7 (l : Launch) (D : va_G) (cI cL cC : ClassId) (h0 : Nat) : Met l yX7_init wsX7_init ({ frames := 1, cells := 2, slots := 406, locals := 12 }) (cP D cI cL cC 6 [.null, .null, .int 0, .int 0] h0) (cQ D (gF cI cL cC 0 0 0 (fun _ => 0) (fun _ => 0)) [2, 10, 11] h0) 2 406 (fun q => h0 ≤ q) := by
  refine cM_ofW (cc := cX7_init) (maxL := 1) (by decide) rfl rfl (by decide) ?_
  intro p e s m below meth c hx hb hr hml hown hts hlk hin hz at0 hK hE hS ls hl
  have hl : lv_has ls 1 [(0, .ref h0)] := hl
  have in7 : ∀ w ∈ wsX70, w ∈ wsX7_init := fun w h => List.mem_cons_of_mem _ (List.mem_append_right _ h)
  refine lv_aload_n hx hb dX7_init_0 rfl (lv_at hl 0 rfl) ?_
  refine W.objInit hx hb hown (hts (.methodLink RX7 3 objectInit) (List.mem_of_getElem? (i := 1) rfl)) (hts (.instanceMethod objectInit) (List.mem_of_getElem? (i := 2) rfl)) (hts (.code objectInit ⟨#[0xb1]⟩ 1 none) (List.mem_of_getElem? (i := 3) rfl)) rfl (by rw [hml]; exact hl.1) rfl dX7_init_1 (Nat.le_of_ble_eq_true rfl) (Nat.le_of_ble_eq_true rfl) ?_
  refine W.eq (g2 := F0 m 4 ls []) rfl ?_
  refine lv_aload_n hx hb dX7_init_4 rfl (lv_at hl 0 rfl) ?_
  refine lv_sipush (v := 400) hx hb dX7_init_5 (by decide) ?_
  refine nw_newI (N := 400) (z := h0 + 1) hx hb (hts (.arrayClass .int) (List.mem_of_getElem? (i := 4) rfl)) hK hS hz (Nat.le_add_right _ _) (by decide) (by decide) (by decide) (Nat.le_of_ble_eq_true rfl) (Nat.le_of_ble_eq_true rfl) dX7_init_8 (fun H at_1 hz o_2 hS => ?_)
  replace at0 := va_at.keptA (b := h0) (z := 1) 0 at0 o_2 (Nat.le_of_ble_eq_true rfl)
  clear o_2
  have hz : H.size = h0 + 2 := hz
  refine nw_putF (D := D) (ci := 6) (v := .ref (h0 + 1)) (ty := .array .int) (C := RX7) (T := TX7) (N := 4) hx hb hts in7 tyX7 tyX7_ok nmX7 hown hK hS (Nat.le_refl _) at0 rfl 0 (by decide) (hts (.fieldLink RX7 9 "RiverModel$Text" "bytes" "[I") (List.mem_of_getElem? (i := 5) rfl)) (fun _ h9 => h9) rfl hin rfl (by decide +kernel) rfl rfl (Nat.le_of_ble_eq_true rfl) dX7_init_10 (fun H locs at0 hz_4 o_3 hS => ?_)
  have at0 : va_at D vwCl (h0, .inr (6, [.ref (h0 + 1), .null, .int 0, .int 0])) H := at0
  replace hz : H.size = h0 + 2 := hz_4.trans hz
  replace at_1 := va_at.keptP (b := h0) (j := 0) 1 at_1 o_3 rfl
  clear o_3 hz_4
  refine lv_aload_n hx hb dX7_init_13 rfl (lv_at hl 0 rfl) ?_
  refine lv_pc (pc2 := 14) rfl ?_
  refine lv_bipush (v := 6) hx hb dX7_init_14 (by decide) ?_
  refine nw_newI (N := 6) (z := h0 + 2) hx hb (hts (.arrayClass .int) (List.mem_of_getElem? (i := 4) rfl)) hK hS hz (Nat.le_add_right _ _) (by decide) (by decide) (by decide) (Nat.le_of_ble_eq_true rfl) (Nat.le_of_ble_eq_true rfl) dX7_init_16 (fun H at_5 hz o_6 hS => ?_)
  replace at0 := va_at.keptA (b := h0) (z := 2) 0 at0 o_6 (Nat.le_of_ble_eq_true rfl)
  replace at_1 := va_at.keptA (b := h0) (z := 2) 1 at_1 o_6 (Nat.le_of_ble_eq_true rfl)
  clear o_6
  have hz : H.size = h0 + 3 := hz
  refine nw_putF (D := D) (ci := 6) (v := .ref (h0 + 2)) (ty := .array .int) (C := RX7) (T := TX7) (N := 4) hx hb hts in7 tyX7 tyX7_ok nmX7 hown hK hS (Nat.le_refl _) at0 rfl 1 (by decide) (hts (.fieldLink RX7 15 "RiverModel$Text" "row" "[I") (List.mem_of_getElem? (i := 6) rfl)) (fun _ h9 => h9) rfl hin rfl (by decide +kernel) rfl rfl (Nat.le_of_ble_eq_true rfl) dX7_init_18 (fun H locs at0 hz_8 o_7 hS => ?_)
  have at0 : va_at D vwCl (h0, .inr (6, [.ref (h0 + 1), .ref (h0 + 2), .int 0, .int 0])) H := at0
  replace hz : H.size = h0 + 3 := hz_8.trans hz
  replace at_1 := va_at.keptP (b := h0) (j := 0) 1 at_1 o_7 rfl
  replace at_5 := va_at.keptP (b := h0) (j := 0) 2 at_5 o_7 rfl
  clear o_7 hz_8
  refine lv_aload_n hx hb dX7_init_21 rfl (lv_at hl 0 rfl) ?_
  refine lv_iconst (v := 0) hx hb dX7_init_22 (by decide) ?_
  refine nw_put (D := D) (ci := 6) (v := .int 0) (ty := .int) (C := RX7) (T := TX7) (N := 4) hx hb hts in7 tyX7 tyX7_ok nmX7 hown hK hS (Nat.le_refl _) at0 rfl 2 (by decide) (hts (.fieldLink RX7 18 "RiverModel$Text" "length" "I") (List.mem_of_getElem? (i := 7) rfl)) (fun _ h9 => h9) rfl (by decide +kernel) rfl rfl (Nat.le_of_ble_eq_true rfl) dX7_init_23 (fun H locs at0 hz_10 o_9 hS => ?_)
  have at0 : va_at D vwCl (h0, .inr (6, [.ref (h0 + 1), .ref (h0 + 2), .int 0, .int 0])) H := at0
  replace hz : H.size = h0 + 3 := hz_10.trans hz
  replace at_1 := va_at.keptP (b := h0) (j := 0) 1 at_1 o_9 rfl
  replace at_5 := va_at.keptP (b := h0) (j := 0) 2 at_5 o_9 rfl
  clear o_9 hz_10
  refine lv_aload_n hx hb dX7_init_26 rfl (lv_at hl 0 rfl) ?_
  refine lv_iconst (v := 0) hx hb dX7_init_27 (by decide) ?_
  refine lv_pc (pc2 := 28) rfl ?_
  refine nw_put (D := D) (ci := 6) (v := .int 0) (ty := .int) (C := RX7) (T := TX7) (N := 4) hx hb hts in7 tyX7 tyX7_ok nmX7 hown hK hS (Nat.le_refl _) at0 rfl 3 (by decide) (hts (.fieldLink RX7 22 "RiverModel$Text" "at" "I") (List.mem_of_getElem? (i := 8) rfl)) (fun _ h9 => h9) rfl (by decide +kernel) rfl rfl (Nat.le_of_ble_eq_true rfl) dX7_init_28 (fun H locs at0 hz_12 o_11 hS => ?_)
  have at0 : va_at D vwCl (h0, .inr (6, [.ref (h0 + 1), .ref (h0 + 2), .int 0, .int 0])) H := at0
  replace hz : H.size = h0 + 3 := hz_12.trans hz
  replace at_1 := va_at.keptP (b := h0) (j := 0) 1 at_1 o_11 rfl
  replace at_5 := va_at.keptP (b := h0) (j := 0) 2 at_5 o_11 rfl
  clear o_11 hz_12
  have sg_13 : tS D (gF cI cL cC 0 0 0 (fun _ => 0) (fun _ => 0)) [10] (h0 + 1) H := tS.one at_1 (fun t => ⟨_, rfl⟩)
  have sg_14 : tS D (gF cI cL cC 0 0 0 (fun _ => 0) (fun _ => 0)) [11] (h0 + 2) H := tS.one at_5 (fun t => ⟨_, rfl⟩)
  have sj_15 : tS D (gF cI cL cC 0 0 0 (fun _ => 0) (fun _ => 0)) [10, 11] (h0 + 1) H := tS.app3 1 sg_13 sg_14 rfl rfl
  have hT : tS D (gF cI cL cC 0 0 0 (fun _ => 0) (fun _ => 0)) [10, 11] (h0 + 1) H := sj_15
  have hT : tS D (gF cI cL cC 0 0 0 (fun _ => 0) (fun _ => 0)) [2, 10, 11] h0 H := tS.cons at0 hT (fun t h1 ht => ⟨h0 + 1, h0 + 2, 0, rfl, (ht 0 (by decide)), (ht 1 (by decide)), (by decide)⟩)
  exact W.vret hx hb hr (fun u hu _ => ⟨rfl, by rw [hu]; exact hT, by rw [hu, hz]; rfl, by rw [hu]; exact hS.2.1⟩) hS.2.2 dX7_init_31 hlk

set_option maxHeartbeats 4000000 in
set_option maxRecDepth 100000 in
theorem cc_X4 (l : Launch) (D : va_G) (cI cL cC : ClassId) (h0 : Nat) : Met l yX4_init wsX4_init ({ frames := 1, cells := 3, slots := 260, locals := 12 }) (cP D cI cL cC 3 [.null, .null, .null, .int 0, .int 0, .int 0] h0) (cQ D (gF cI cL cC 0 0 0 (fun _ => 0) (fun _ => 0)) [3, 12, 13, 14] h0) 3 260 (fun q => h0 ≤ q) := by
  refine cM_ofW (cc := cX4_init) (maxL := 1) (by decide) rfl rfl (by decide) ?_
  intro p e s m below meth c hx hb hr hml hown hts hlk hin hz at0 hK hE hS ls hl
  have hl : lv_has ls 1 [(0, .ref h0)] := hl
  have in4 : ∀ w ∈ wsX40, w ∈ wsX4_init := fun w h => List.mem_cons_of_mem _ (List.mem_append_right _ h)
  refine lv_aload_n hx hb dX4_init_0 rfl (lv_at hl 0 rfl) ?_
  refine W.objInit hx hb hown (hts (.methodLink RX4 3 objectInit) (List.mem_of_getElem? (i := 1) rfl)) (hts (.instanceMethod objectInit) (List.mem_of_getElem? (i := 2) rfl)) (hts (.code objectInit ⟨#[0xb1]⟩ 1 none) (List.mem_of_getElem? (i := 3) rfl)) rfl (by rw [hml]; exact hl.1) rfl dX4_init_1 (Nat.le_of_ble_eq_true rfl) (Nat.le_of_ble_eq_true rfl) ?_
  refine W.eq (g2 := F0 m 4 ls []) rfl ?_
  refine lv_aload_n hx hb dX4_init_4 rfl (lv_at hl 0 rfl) ?_
  refine lv_sipush (v := 240) hx hb dX4_init_5 (by decide) ?_
  refine nw_newI (N := 240) (z := h0 + 1) hx hb (hts (.arrayClass .int) (List.mem_of_getElem? (i := 4) rfl)) hK hS hz (Nat.le_add_right _ _) (by decide) (by decide) (by decide) (Nat.le_of_ble_eq_true rfl) (Nat.le_of_ble_eq_true rfl) dX4_init_8 (fun H at_1 hz o_2 hS => ?_)
  replace at0 := va_at.keptA (b := h0) (z := 1) 0 at0 o_2 (Nat.le_of_ble_eq_true rfl)
  clear o_2
  have hz : H.size = h0 + 2 := hz
  refine nw_putF (D := D) (ci := 3) (v := .ref (h0 + 1)) (ty := .array .int) (C := RX4) (T := TX4) (N := 6) hx hb hts in4 tyX4 tyX4_ok nmX4 hown hK hS (Nat.le_refl _) at0 rfl 0 (by decide) (hts (.fieldLink RX4 9 "RiverModel$Model" "cells" "[I") (List.mem_of_getElem? (i := 5) rfl)) (fun _ h9 => h9) rfl hin rfl (by decide +kernel) rfl rfl (Nat.le_of_ble_eq_true rfl) dX4_init_10 (fun H locs at0 hz_4 o_3 hS => ?_)
  have at0 : va_at D vwCl (h0, .inr (3, [.ref (h0 + 1), .null, .null, .int 0, .int 0, .int 0])) H := at0
  replace hz : H.size = h0 + 2 := hz_4.trans hz
  replace at_1 := va_at.keptP (b := h0) (j := 0) 1 at_1 o_3 rfl
  clear o_3 hz_4
  refine lv_aload_n hx hb dX4_init_13 rfl (lv_at hl 0 rfl) ?_
  refine lv_pc (pc2 := 14) rfl ?_
  refine lv_bipush (v := 16) hx hb dX4_init_14 (by decide) ?_
  refine nw_newI (N := 16) (z := h0 + 2) hx hb (hts (.arrayClass .int) (List.mem_of_getElem? (i := 4) rfl)) hK hS hz (Nat.le_add_right _ _) (by decide) (by decide) (by decide) (Nat.le_of_ble_eq_true rfl) (Nat.le_of_ble_eq_true rfl) dX4_init_16 (fun H at_5 hz o_6 hS => ?_)
  replace at0 := va_at.keptA (b := h0) (z := 2) 0 at0 o_6 (Nat.le_of_ble_eq_true rfl)
  replace at_1 := va_at.keptA (b := h0) (z := 2) 1 at_1 o_6 (Nat.le_of_ble_eq_true rfl)
  clear o_6
  have hz : H.size = h0 + 3 := hz
  refine nw_putF (D := D) (ci := 3) (v := .ref (h0 + 2)) (ty := .array .int) (C := RX4) (T := TX4) (N := 6) hx hb hts in4 tyX4 tyX4_ok nmX4 hown hK hS (Nat.le_refl _) at0 rfl 1 (by decide) (hts (.fieldLink RX4 15 "RiverModel$Model" "storeItems" "[I") (List.mem_of_getElem? (i := 6) rfl)) (fun _ h9 => h9) rfl hin rfl (by decide +kernel) rfl rfl (Nat.le_of_ble_eq_true rfl) dX4_init_18 (fun H locs at0 hz_8 o_7 hS => ?_)
  have at0 : va_at D vwCl (h0, .inr (3, [.ref (h0 + 1), .ref (h0 + 2), .null, .int 0, .int 0, .int 0])) H := at0
  replace hz : H.size = h0 + 3 := hz_8.trans hz
  replace at_1 := va_at.keptP (b := h0) (j := 0) 1 at_1 o_7 rfl
  replace at_5 := va_at.keptP (b := h0) (j := 0) 2 at_5 o_7 rfl
  clear o_7 hz_8
  refine lv_aload_n hx hb dX4_init_21 rfl (lv_at hl 0 rfl) ?_
  refine lv_iconst (v := 4) hx hb dX4_init_22 (by decide) ?_
  refine nw_newI (N := 4) (z := h0 + 3) hx hb (hts (.arrayClass .int) (List.mem_of_getElem? (i := 4) rfl)) hK hS hz (Nat.le_add_right _ _) (by decide) (by decide) (by decide) (Nat.le_of_ble_eq_true rfl) (Nat.le_of_ble_eq_true rfl) dX4_init_23 (fun H at_9 hz o_10 hS => ?_)
  replace at0 := va_at.keptA (b := h0) (z := 3) 0 at0 o_10 (Nat.le_of_ble_eq_true rfl)
  replace at_1 := va_at.keptA (b := h0) (z := 3) 1 at_1 o_10 (Nat.le_of_ble_eq_true rfl)
  replace at_5 := va_at.keptA (b := h0) (z := 3) 2 at_5 o_10 (Nat.le_of_ble_eq_true rfl)
  clear o_10
  have hz : H.size = h0 + 4 := hz
  refine nw_putF (D := D) (ci := 3) (v := .ref (h0 + 3)) (ty := .array .int) (C := RX4) (T := TX4) (N := 6) hx hb hts in4 tyX4 tyX4_ok nmX4 hown hK hS (Nat.le_refl _) at0 rfl 2 (by decide) (hts (.fieldLink RX4 18 "RiverModel$Model" "gateItems" "[I") (List.mem_of_getElem? (i := 7) rfl)) (fun _ h9 => h9) rfl hin rfl (by decide +kernel) rfl rfl (Nat.le_of_ble_eq_true rfl) dX4_init_25 (fun H locs at0 hz_12 o_11 hS => ?_)
  have at0 : va_at D vwCl (h0, .inr (3, [.ref (h0 + 1), .ref (h0 + 2), .ref (h0 + 3), .int 0, .int 0, .int 0])) H := at0
  replace hz : H.size = h0 + 4 := hz_12.trans hz
  replace at_1 := va_at.keptP (b := h0) (j := 0) 1 at_1 o_11 rfl
  replace at_5 := va_at.keptP (b := h0) (j := 0) 2 at_5 o_11 rfl
  replace at_9 := va_at.keptP (b := h0) (j := 0) 3 at_9 o_11 rfl
  clear o_11 hz_12
  refine lv_aload_n hx hb dX4_init_28 rfl (lv_at hl 0 rfl) ?_
  refine lv_pc (pc2 := 29) rfl ?_
  refine lv_iconst (v := 0) hx hb dX4_init_29 (by decide) ?_
  refine nw_put (D := D) (ci := 3) (v := .int 0) (ty := .int) (C := RX4) (T := TX4) (N := 6) hx hb hts in4 tyX4 tyX4_ok nmX4 hown hK hS (Nat.le_refl _) at0 rfl 3 (by decide) (hts (.fieldLink RX4 21 "RiverModel$Model" "many" "I") (List.mem_of_getElem? (i := 8) rfl)) (fun _ h9 => h9) rfl (by decide +kernel) rfl rfl (Nat.le_of_ble_eq_true rfl) dX4_init_30 (fun H locs at0 hz_14 o_13 hS => ?_)
  have at0 : va_at D vwCl (h0, .inr (3, [.ref (h0 + 1), .ref (h0 + 2), .ref (h0 + 3), .int 0, .int 0, .int 0])) H := at0
  replace hz : H.size = h0 + 4 := hz_14.trans hz
  replace at_1 := va_at.keptP (b := h0) (j := 0) 1 at_1 o_13 rfl
  replace at_5 := va_at.keptP (b := h0) (j := 0) 2 at_5 o_13 rfl
  replace at_9 := va_at.keptP (b := h0) (j := 0) 3 at_9 o_13 rfl
  clear o_13 hz_14
  refine lv_aload_n hx hb dX4_init_33 rfl (lv_at hl 0 rfl) ?_
  refine lv_iconst (v := 0) hx hb dX4_init_34 (by decide) ?_
  refine nw_put (D := D) (ci := 3) (v := .int 0) (ty := .int) (C := RX4) (T := TX4) (N := 6) hx hb hts in4 tyX4 tyX4_ok nmX4 hown hK hS (Nat.le_refl _) at0 rfl 4 (by decide) (hts (.fieldLink RX4 25 "RiverModel$Model" "stores" "I") (List.mem_of_getElem? (i := 9) rfl)) (fun _ h9 => h9) rfl (by decide +kernel) rfl rfl (Nat.le_of_ble_eq_true rfl) dX4_init_35 (fun H locs at0 hz_16 o_15 hS => ?_)
  have at0 : va_at D vwCl (h0, .inr (3, [.ref (h0 + 1), .ref (h0 + 2), .ref (h0 + 3), .int 0, .int 0, .int 0])) H := at0
  replace hz : H.size = h0 + 4 := hz_16.trans hz
  replace at_1 := va_at.keptP (b := h0) (j := 0) 1 at_1 o_15 rfl
  replace at_5 := va_at.keptP (b := h0) (j := 0) 2 at_5 o_15 rfl
  replace at_9 := va_at.keptP (b := h0) (j := 0) 3 at_9 o_15 rfl
  clear o_15 hz_16
  refine lv_aload_n hx hb dX4_init_38 rfl (lv_at hl 0 rfl) ?_
  refine lv_iconst (v := 0) hx hb dX4_init_39 (by decide) ?_
  refine nw_put (D := D) (ci := 3) (v := .int 0) (ty := .int) (C := RX4) (T := TX4) (N := 6) hx hb hts in4 tyX4 tyX4_ok nmX4 hown hK hS (Nat.le_refl _) at0 rfl 5 (by decide) (hts (.fieldLink RX4 28 "RiverModel$Model" "gates" "I") (List.mem_of_getElem? (i := 10) rfl)) (fun _ h9 => h9) rfl (by decide +kernel) rfl rfl (Nat.le_of_ble_eq_true rfl) dX4_init_40 (fun H locs at0 hz_18 o_17 hS => ?_)
  have at0 : va_at D vwCl (h0, .inr (3, [.ref (h0 + 1), .ref (h0 + 2), .ref (h0 + 3), .int 0, .int 0, .int 0])) H := at0
  replace hz : H.size = h0 + 4 := hz_18.trans hz
  replace at_1 := va_at.keptP (b := h0) (j := 0) 1 at_1 o_17 rfl
  replace at_5 := va_at.keptP (b := h0) (j := 0) 2 at_5 o_17 rfl
  replace at_9 := va_at.keptP (b := h0) (j := 0) 3 at_9 o_17 rfl
  clear o_17 hz_18
  refine lv_pc (pc2 := 43) rfl ?_
  have sg_19 : tS D (gF cI cL cC 0 0 0 (fun _ => 0) (fun _ => 0)) [12] (h0 + 1) H := tS.one at_1 (fun t => ⟨_, rfl⟩)
  have sg_20 : tS D (gF cI cL cC 0 0 0 (fun _ => 0) (fun _ => 0)) [13] (h0 + 2) H := tS.one at_5 (fun t => ⟨_, rfl⟩)
  have sg_21 : tS D (gF cI cL cC 0 0 0 (fun _ => 0) (fun _ => 0)) [14] (h0 + 3) H := tS.one at_9 (fun t => ⟨_, rfl⟩)
  have sj_22 : tS D (gF cI cL cC 0 0 0 (fun _ => 0) (fun _ => 0)) [13, 14] (h0 + 2) H := tS.app3 1 sg_20 sg_21 rfl rfl
  have sj_23 : tS D (gF cI cL cC 0 0 0 (fun _ => 0) (fun _ => 0)) [12, 13, 14] (h0 + 1) H := tS.app3 1 sg_19 sj_22 rfl rfl
  have hT : tS D (gF cI cL cC 0 0 0 (fun _ => 0) (fun _ => 0)) [12, 13, 14] (h0 + 1) H := sj_23
  have hT : tS D (gF cI cL cC 0 0 0 (fun _ => 0) (fun _ => 0)) [3, 12, 13, 14] h0 H := tS.cons at0 hT (fun t h1 ht => ⟨h0 + 1, h0 + 2, h0 + 3, 0, 0, 0, rfl, (ht 0 (by decide)), (ht 1 (by decide)), (ht 2 (by decide)), (by decide)⟩)
  exact W.vret hx hb hr (fun u hu _ => ⟨rfl, by rw [hu]; exact hT, by rw [hu, hz]; rfl, by rw [hu]; exact hS.2.1⟩) hS.2.2 dX4_init_43 hlk

set_option maxHeartbeats 4000000 in
set_option maxRecDepth 100000 in
theorem cc_X6 (l : Launch) (D : va_G) (cI cL cC : ClassId) (h0 : Nat) : Met l yX6_init wsX6_init ({ frames := 1, cells := 2, slots := 192, locals := 23 }) (cP D cI cL cC 5 [.null, .null] h0) (cQ D (gF cI cL cC 0 0 0 (fun _ => 0) (fun _ => 0)) [4, 15, 16] h0) 2 192 (fun q => h0 ≤ q) := by
  refine cM_ofW (cc := cX6_init) (maxL := 1) (by decide) rfl rfl (by decide) ?_
  intro p e s m below meth c hx hb hr hml hown hts hlk hin hz at0 hK hE hS ls hl
  have hl : lv_has ls 1 [(0, .ref h0)] := hl
  have in6 : ∀ w ∈ wsX60, w ∈ wsX6_init := fun w h => List.mem_cons_of_mem _ (List.mem_append_right _ h)
  refine lv_aload_n hx hb dX6_init_0 rfl (lv_at hl 0 rfl) ?_
  refine W.objInit hx hb hown (hts (.methodLink RX6 3 objectInit) (List.mem_of_getElem? (i := 1) rfl)) (hts (.instanceMethod objectInit) (List.mem_of_getElem? (i := 2) rfl)) (hts (.code objectInit ⟨#[0xb1]⟩ 1 none) (List.mem_of_getElem? (i := 3) rfl)) rfl (by rw [hml]; exact hl.1) rfl dX6_init_1 (Nat.le_of_ble_eq_true rfl) (Nat.le_of_ble_eq_true rfl) ?_
  refine W.eq (g2 := F0 m 4 ls []) rfl ?_
  refine lv_aload_n hx hb dX6_init_4 rfl (lv_at hl 0 rfl) ?_
  refine lv_bipush (v := 96) hx hb dX6_init_5 (by decide) ?_
  refine nw_newI (N := 96) (z := h0 + 1) hx hb (hts (.arrayClass .int) (List.mem_of_getElem? (i := 4) rfl)) hK hS hz (Nat.le_add_right _ _) (by decide) (by decide) (by decide) (Nat.le_of_ble_eq_true rfl) (Nat.le_of_ble_eq_true rfl) dX6_init_7 (fun H at_1 hz o_2 hS => ?_)
  replace at0 := va_at.keptA (b := h0) (z := 1) 0 at0 o_2 (Nat.le_of_ble_eq_true rfl)
  clear o_2
  have hz : H.size = h0 + 2 := hz
  refine nw_putF (D := D) (ci := 5) (v := .ref (h0 + 1)) (ty := .array .int) (C := RX6) (T := TX6) (N := 2) hx hb hts in6 tyX6 tyX6_ok nmX6 hown hK hS (Nat.le_refl _) at0 rfl 0 (by decide) (hts (.fieldLink RX6 9 "RiverModel$Sky" "rains" "[I") (List.mem_of_getElem? (i := 5) rfl)) (fun _ h9 => h9) rfl hin rfl (by decide +kernel) rfl rfl (Nat.le_of_ble_eq_true rfl) dX6_init_9 (fun H locs at0 hz_4 o_3 hS => ?_)
  have at0 : va_at D vwCl (h0, .inr (5, [.ref (h0 + 1), .null])) H := at0
  replace hz : H.size = h0 + 2 := hz_4.trans hz
  replace at_1 := va_at.keptP (b := h0) (j := 0) 1 at_1 o_3 rfl
  clear o_3 hz_4
  refine lv_aload_n hx hb dX6_init_12 rfl (lv_at hl 0 rfl) ?_
  refine lv_pc (pc2 := 13) rfl ?_
  refine lv_bipush (v := 96) hx hb dX6_init_13 (by decide) ?_
  refine nw_newI (N := 96) (z := h0 + 2) hx hb (hts (.arrayClass .int) (List.mem_of_getElem? (i := 4) rfl)) hK hS hz (Nat.le_add_right _ _) (by decide) (by decide) (by decide) (Nat.le_of_ble_eq_true rfl) (Nat.le_of_ble_eq_true rfl) dX6_init_15 (fun H at_5 hz o_6 hS => ?_)
  replace at0 := va_at.keptA (b := h0) (z := 2) 0 at0 o_6 (Nat.le_of_ble_eq_true rfl)
  replace at_1 := va_at.keptA (b := h0) (z := 2) 1 at_1 o_6 (Nat.le_of_ble_eq_true rfl)
  clear o_6
  have hz : H.size = h0 + 3 := hz
  refine nw_putF (D := D) (ci := 5) (v := .ref (h0 + 2)) (ty := .array .int) (C := RX6) (T := TX6) (N := 2) hx hb hts in6 tyX6 tyX6_ok nmX6 hown hK hS (Nat.le_refl _) at0 rfl 1 (by decide) (hts (.fieldLink RX6 15 "RiverModel$Sky" "temps" "[I") (List.mem_of_getElem? (i := 6) rfl)) (fun _ h9 => h9) rfl hin rfl (by decide +kernel) rfl rfl (Nat.le_of_ble_eq_true rfl) dX6_init_17 (fun H locs at0 hz_8 o_7 hS => ?_)
  have at0 : va_at D vwCl (h0, .inr (5, [.ref (h0 + 1), .ref (h0 + 2)])) H := at0
  replace hz : H.size = h0 + 3 := hz_8.trans hz
  replace at_1 := va_at.keptP (b := h0) (j := 0) 1 at_1 o_7 rfl
  replace at_5 := va_at.keptP (b := h0) (j := 0) 2 at_5 o_7 rfl
  clear o_7 hz_8
  refine lv_aload_n hx hb dX6_init_20 rfl (lv_at hl 0 rfl) ?_
  refine va_get (D := D) (ci := 5) (v := .ref (h0 + 2)) (C := RX6) (T := TX6) (N := 2) hx hb hts in6 hown hK (va_one at0) 0 rfl rfl 1 (by decide) (hts (.fieldLink RX6 15 "RiverModel$Sky" "temps" "[I") (List.mem_of_getElem? (i := 6) rfl)) (fun _ h9 => h9) rfl dX6_init_21 ?_
  refine lv_bipush (v := 10) hx hb dX6_init_24 (by decide) ?_
  refine nw_row (W.runS (As := [.ref (h0 + 2), .int 10]) (rest := []) ⟨hx, hb, hml, hown, hts⟩ (c_fillI l D cI cL cC (h0 + 2) 96 (fun _ => 0) 10 (by decide)) (va_cwS 2 hts gX6_init_J7_fill_53178 rfl rfl rfl (by decide +kernel) ⟨Nat.le_of_ble_eq_true rfl, Nat.le_of_ble_eq_true rfl⟩) (rP_S at_5 hE) rfl rfl hl.1 rfl (lv_room (Nat.le_of_ble_eq_true rfl)) dX6_init_26 ⟨Nat.le_of_ble_eq_true rfl, Nat.le_of_ble_eq_true rfl⟩) (fun H L ee hp at_5 hz_12 o_10 hL_13 => ?_)
  obtain ⟨g_9, rfl, hg_11⟩ := hp
  replace hS := cF.row hS hz_12 o_10 hL_13 (Nat.le_add_right _ _)
  replace hz : H.size = h0 + 3 := hz_12.trans hz
  generalize _ ++ L = locs at hS ⊢
  replace at0 := va_at.keptP (b := h0) (j := 2) 0 at0 o_10 rfl
  replace at_1 := va_at.keptP (b := h0) (j := 2) 1 at_1 o_10 rfl
  clear o_10 hz_12 hL_13
  have sg_14 : tS D (gF cI cL cC 0 0 0 (fun _ => 0) (fun _ => 0)) [15] (h0 + 1) H := tS.one at_1 (fun t => ⟨_, rfl⟩)
  have sg_15 : tS D (gF cI cL cC 0 0 0 (fun _ => 0) (fun _ => 0)) [16] (h0 + 2) H := tS.one at_5 (fun t => ⟨_, rfl⟩)
  have sj_16 : tS D (gF cI cL cC 0 0 0 (fun _ => 0) (fun _ => 0)) [15, 16] (h0 + 1) H := tS.app3 1 sg_14 sg_15 rfl rfl
  have hT : tS D (gF cI cL cC 0 0 0 (fun _ => 0) (fun _ => 0)) [15, 16] (h0 + 1) H := sj_16
  have hT : tS D (gF cI cL cC 0 0 0 (fun _ => 0) (fun _ => 0)) [4, 15, 16] h0 H := tS.cons at0 hT (fun t h1 ht => ⟨h0 + 1, h0 + 2, rfl, (ht 0 (by decide)), (ht 1 (by decide))⟩)
  exact W.vret hx hb hr (fun u hu _ => ⟨rfl, by rw [hu]; exact hT, by rw [hu, hz]; rfl, by rw [hu]; exact hS.2.1⟩) hS.2.2 dX6_init_29 hlk

set_option maxHeartbeats 4000000 in
set_option maxRecDepth 100000 in
theorem cc_X0 (l : Launch) (D : va_G) (cI cL cC : ClassId) (h0 : Nat) : Met l yX0_init wsX0_init ({ frames := 1, cells := 4, slots := 268, locals := 12 }) (cP D cI cL cC 0 [.null, .null, .null, .null, .long 0, .long 0, .long 0, .int 0] h0) (cQ D (gF cI cL cC 0 0 0 (fun _ => 0) (fun _ => 0)) [5, 17, 18, 19, 20] h0) 4 268 (fun q => h0 ≤ q) := by
  refine cM_ofW (cc := cX0_init) (maxL := 1) (by decide) rfl rfl (by decide) ?_
  intro p e s m below meth c hx hb hr hml hown hts hlk hin hz at0 hK hE hS ls hl
  have hl : lv_has ls 1 [(0, .ref h0)] := hl
  have in0 : ∀ w ∈ wsX00, w ∈ wsX0_init := fun w h => List.mem_cons_of_mem _ (List.mem_append_right _ h)
  refine lv_aload_n hx hb dX0_init_0 rfl (lv_at hl 0 rfl) ?_
  refine W.objInit hx hb hown (hts (.methodLink RX0 3 objectInit) (List.mem_of_getElem? (i := 1) rfl)) (hts (.instanceMethod objectInit) (List.mem_of_getElem? (i := 2) rfl)) (hts (.code objectInit ⟨#[0xb1]⟩ 1 none) (List.mem_of_getElem? (i := 3) rfl)) rfl (by rw [hml]; exact hl.1) rfl dX0_init_1 (Nat.le_of_ble_eq_true rfl) (Nat.le_of_ble_eq_true rfl) ?_
  refine W.eq (g2 := F0 m 4 ls []) rfl ?_
  refine lv_aload_n hx hb dX0_init_4 rfl (lv_at hl 0 rfl) ?_
  refine lv_bipush (v := 16) hx hb dX0_init_5 (by decide) ?_
  refine nw_newL (N := 16) (z := h0 + 1) hx hb (hts (.arrayClass .long) (List.mem_of_getElem? (i := 4) rfl)) hK hS hz (Nat.le_add_right _ _) (by decide) (by decide) (by decide) (Nat.le_of_ble_eq_true rfl) (Nat.le_of_ble_eq_true rfl) dX0_init_7 (fun H at_1 hz o_2 hS => ?_)
  replace at0 := va_at.keptA (b := h0) (z := 1) 0 at0 o_2 (Nat.le_of_ble_eq_true rfl)
  clear o_2
  have hz : H.size = h0 + 2 := hz
  refine nw_putF (D := D) (ci := 0) (v := .ref (h0 + 1)) (ty := .array .long) (C := RX0) (T := TX0) (N := 8) hx hb hts in0 tyX0 tyX0_ok nmX0 hown hK hS (Nat.le_refl _) at0 rfl 0 (by decide) (hts (.fieldLink RX0 9 "RiverModel$Course" "held" "[J") (List.mem_of_getElem? (i := 5) rfl)) (fun _ h9 => h9) rfl hin rfl (by decide +kernel) rfl rfl (Nat.le_of_ble_eq_true rfl) dX0_init_9 (fun H locs at0 hz_4 o_3 hS => ?_)
  have at0 : va_at D vwCl (h0, .inr (0, [.ref (h0 + 1), .null, .null, .null, .long 0, .long 0, .long 0, .int 0])) H := at0
  replace hz : H.size = h0 + 2 := hz_4.trans hz
  replace at_1 := va_at.keptP (b := h0) (j := 0) 1 at_1 o_3 rfl
  clear o_3 hz_4
  refine lv_aload_n hx hb dX0_init_12 rfl (lv_at hl 0 rfl) ?_
  refine lv_pc (pc2 := 13) rfl ?_
  refine lv_bipush (v := 40) hx hb dX0_init_13 (by decide) ?_
  refine nw_newL (N := 40) (z := h0 + 2) hx hb (hts (.arrayClass .long) (List.mem_of_getElem? (i := 4) rfl)) hK hS hz (Nat.le_add_right _ _) (by decide) (by decide) (by decide) (Nat.le_of_ble_eq_true rfl) (Nat.le_of_ble_eq_true rfl) dX0_init_15 (fun H at_5 hz o_6 hS => ?_)
  replace at0 := va_at.keptA (b := h0) (z := 2) 0 at0 o_6 (Nat.le_of_ble_eq_true rfl)
  replace at_1 := va_at.keptA (b := h0) (z := 2) 1 at_1 o_6 (Nat.le_of_ble_eq_true rfl)
  clear o_6
  have hz : H.size = h0 + 3 := hz
  refine nw_putF (D := D) (ci := 0) (v := .ref (h0 + 2)) (ty := .array .long) (C := RX0) (T := TX0) (N := 8) hx hb hts in0 tyX0 tyX0_ok nmX0 hown hK hS (Nat.le_refl _) at0 rfl 1 (by decide) (hts (.fieldLink RX0 15 "RiverModel$Course" "moved" "[J") (List.mem_of_getElem? (i := 6) rfl)) (fun _ h9 => h9) rfl hin rfl (by decide +kernel) rfl rfl (Nat.le_of_ble_eq_true rfl) dX0_init_17 (fun H locs at0 hz_8 o_7 hS => ?_)
  have at0 : va_at D vwCl (h0, .inr (0, [.ref (h0 + 1), .ref (h0 + 2), .null, .null, .long 0, .long 0, .long 0, .int 0])) H := at0
  replace hz : H.size = h0 + 3 := hz_8.trans hz
  replace at_1 := va_at.keptP (b := h0) (j := 0) 1 at_1 o_7 rfl
  replace at_5 := va_at.keptP (b := h0) (j := 0) 2 at_5 o_7 rfl
  clear o_7 hz_8
  refine lv_aload_n hx hb dX0_init_20 rfl (lv_at hl 0 rfl) ?_
  refine lv_iconst (v := 4) hx hb dX0_init_21 (by decide) ?_
  refine nw_newI (N := 4) (z := h0 + 3) hx hb (hts (.arrayClass .int) (List.mem_of_getElem? (i := 7) rfl)) hK hS hz (Nat.le_add_right _ _) (by decide) (by decide) (by decide) (Nat.le_of_ble_eq_true rfl) (Nat.le_of_ble_eq_true rfl) dX0_init_22 (fun H at_9 hz o_10 hS => ?_)
  replace at0 := va_at.keptA (b := h0) (z := 3) 0 at0 o_10 (Nat.le_of_ble_eq_true rfl)
  replace at_1 := va_at.keptA (b := h0) (z := 3) 1 at_1 o_10 (Nat.le_of_ble_eq_true rfl)
  replace at_5 := va_at.keptA (b := h0) (z := 3) 2 at_5 o_10 (Nat.le_of_ble_eq_true rfl)
  clear o_10
  have hz : H.size = h0 + 4 := hz
  refine nw_putF (D := D) (ci := 0) (v := .ref (h0 + 3)) (ty := .array .int) (C := RX0) (T := TX0) (N := 8) hx hb hts in0 tyX0 tyX0_ok nmX0 hown hK hS (Nat.le_refl _) at0 rfl 2 (by decide) (hts (.fieldLink RX0 18 "RiverModel$Course" "openings" "[I") (List.mem_of_getElem? (i := 8) rfl)) (fun _ h9 => h9) rfl hin rfl (by decide +kernel) rfl rfl (Nat.le_of_ble_eq_true rfl) dX0_init_24 (fun H locs at0 hz_12 o_11 hS => ?_)
  have at0 : va_at D vwCl (h0, .inr (0, [.ref (h0 + 1), .ref (h0 + 2), .ref (h0 + 3), .null, .long 0, .long 0, .long 0, .int 0])) H := at0
  replace hz : H.size = h0 + 4 := hz_12.trans hz
  replace at_1 := va_at.keptP (b := h0) (j := 0) 1 at_1 o_11 rfl
  replace at_5 := va_at.keptP (b := h0) (j := 0) 2 at_5 o_11 rfl
  replace at_9 := va_at.keptP (b := h0) (j := 0) 3 at_9 o_11 rfl
  clear o_11 hz_12
  refine lv_aload_n hx hb dX0_init_27 rfl (lv_at hl 0 rfl) ?_
  refine lv_pc (pc2 := 28) rfl ?_
  refine lv_sipush (v := 208) hx hb dX0_init_28 (by decide) ?_
  refine nw_newL (N := 208) (z := h0 + 4) hx hb (hts (.arrayClass .long) (List.mem_of_getElem? (i := 4) rfl)) hK hS hz (Nat.le_add_right _ _) (by decide) (by decide) (by decide) (Nat.le_of_ble_eq_true rfl) (Nat.le_of_ble_eq_true rfl) dX0_init_31 (fun H at_13 hz o_14 hS => ?_)
  replace at0 := va_at.keptA (b := h0) (z := 4) 0 at0 o_14 (Nat.le_of_ble_eq_true rfl)
  replace at_1 := va_at.keptA (b := h0) (z := 4) 1 at_1 o_14 (Nat.le_of_ble_eq_true rfl)
  replace at_5 := va_at.keptA (b := h0) (z := 4) 2 at_5 o_14 (Nat.le_of_ble_eq_true rfl)
  replace at_9 := va_at.keptA (b := h0) (z := 4) 3 at_9 o_14 (Nat.le_of_ble_eq_true rfl)
  clear o_14
  have hz : H.size = h0 + 5 := hz
  refine nw_putF (D := D) (ci := 0) (v := .ref (h0 + 4)) (ty := .array .long) (C := RX0) (T := TX0) (N := 8) hx hb hts in0 tyX0 tyX0_ok nmX0 hown hK hS (Nat.le_refl _) at0 rfl 3 (by decide) (hts (.fieldLink RX0 22 "RiverModel$Course" "due" "[J") (List.mem_of_getElem? (i := 9) rfl)) (fun _ h9 => h9) rfl hin rfl (by decide +kernel) rfl rfl (Nat.le_of_ble_eq_true rfl) dX0_init_33 (fun H locs at0 hz_16 o_15 hS => ?_)
  have at0 : va_at D vwCl (h0, .inr (0, [.ref (h0 + 1), .ref (h0 + 2), .ref (h0 + 3), .ref (h0 + 4), .long 0, .long 0, .long 0, .int 0])) H := at0
  replace hz : H.size = h0 + 5 := hz_16.trans hz
  replace at_1 := va_at.keptP (b := h0) (j := 0) 1 at_1 o_15 rfl
  replace at_5 := va_at.keptP (b := h0) (j := 0) 2 at_5 o_15 rfl
  replace at_9 := va_at.keptP (b := h0) (j := 0) 3 at_9 o_15 rfl
  replace at_13 := va_at.keptP (b := h0) (j := 0) 4 at_13 o_15 rfl
  clear o_15 hz_16
  refine lv_aload_n hx hb dX0_init_36 rfl (lv_at hl 0 rfl) ?_
  refine lv_lconst (v := 0) hx hb dX0_init_37 (by decide) ?_
  refine nw_put (D := D) (ci := 0) (v := .long 0) (ty := .long) (C := RX0) (T := TX0) (N := 8) hx hb hts in0 tyX0 tyX0_ok nmX0 hown hK hS (Nat.le_refl _) at0 rfl 4 (by decide) (hts (.fieldLink RX0 25 "RiverModel$Course" "rained" "J") (List.mem_of_getElem? (i := 10) rfl)) (fun _ h9 => h9) rfl (by decide +kernel) rfl rfl (Nat.le_of_ble_eq_true rfl) dX0_init_38 (fun H locs at0 hz_18 o_17 hS => ?_)
  have at0 : va_at D vwCl (h0, .inr (0, [.ref (h0 + 1), .ref (h0 + 2), .ref (h0 + 3), .ref (h0 + 4), .long 0, .long 0, .long 0, .int 0])) H := at0
  replace hz : H.size = h0 + 5 := hz_18.trans hz
  replace at_1 := va_at.keptP (b := h0) (j := 0) 1 at_1 o_17 rfl
  replace at_5 := va_at.keptP (b := h0) (j := 0) 2 at_5 o_17 rfl
  replace at_9 := va_at.keptP (b := h0) (j := 0) 3 at_9 o_17 rfl
  replace at_13 := va_at.keptP (b := h0) (j := 0) 4 at_13 o_17 rfl
  clear o_17 hz_18
  refine lv_aload_n hx hb dX0_init_41 rfl (lv_at hl 0 rfl) ?_
  refine lv_lconst (v := 0) hx hb dX0_init_42 (by decide) ?_
  refine lv_pc (pc2 := 43) rfl ?_
  refine nw_put (D := D) (ci := 0) (v := .long 0) (ty := .long) (C := RX0) (T := TX0) (N := 8) hx hb hts in0 tyX0 tyX0_ok nmX0 hown hK hS (Nat.le_refl _) at0 rfl 5 (by decide) (hts (.fieldLink RX0 29 "RiverModel$Course" "air" "J") (List.mem_of_getElem? (i := 11) rfl)) (fun _ h9 => h9) rfl (by decide +kernel) rfl rfl (Nat.le_of_ble_eq_true rfl) dX0_init_43 (fun H locs at0 hz_20 o_19 hS => ?_)
  have at0 : va_at D vwCl (h0, .inr (0, [.ref (h0 + 1), .ref (h0 + 2), .ref (h0 + 3), .ref (h0 + 4), .long 0, .long 0, .long 0, .int 0])) H := at0
  replace hz : H.size = h0 + 5 := hz_20.trans hz
  replace at_1 := va_at.keptP (b := h0) (j := 0) 1 at_1 o_19 rfl
  replace at_5 := va_at.keptP (b := h0) (j := 0) 2 at_5 o_19 rfl
  replace at_9 := va_at.keptP (b := h0) (j := 0) 3 at_9 o_19 rfl
  replace at_13 := va_at.keptP (b := h0) (j := 0) 4 at_13 o_19 rfl
  clear o_19 hz_20
  refine lv_aload_n hx hb dX0_init_46 rfl (lv_at hl 0 rfl) ?_
  refine lv_lconst (v := 0) hx hb dX0_init_47 (by decide) ?_
  refine nw_put (D := D) (ci := 0) (v := .long 0) (ty := .long) (C := RX0) (T := TX0) (N := 8) hx hb hts in0 tyX0 tyX0_ok nmX0 hown hK hS (Nat.le_refl _) at0 rfl 6 (by decide) (hts (.fieldLink RX0 32 "RiverModel$Course" "sea" "J") (List.mem_of_getElem? (i := 12) rfl)) (fun _ h9 => h9) rfl (by decide +kernel) rfl rfl (Nat.le_of_ble_eq_true rfl) dX0_init_48 (fun H locs at0 hz_22 o_21 hS => ?_)
  have at0 : va_at D vwCl (h0, .inr (0, [.ref (h0 + 1), .ref (h0 + 2), .ref (h0 + 3), .ref (h0 + 4), .long 0, .long 0, .long 0, .int 0])) H := at0
  replace hz : H.size = h0 + 5 := hz_22.trans hz
  replace at_1 := va_at.keptP (b := h0) (j := 0) 1 at_1 o_21 rfl
  replace at_5 := va_at.keptP (b := h0) (j := 0) 2 at_5 o_21 rfl
  replace at_9 := va_at.keptP (b := h0) (j := 0) 3 at_9 o_21 rfl
  replace at_13 := va_at.keptP (b := h0) (j := 0) 4 at_13 o_21 rfl
  clear o_21 hz_22
  refine lv_aload_n hx hb dX0_init_51 rfl (lv_at hl 0 rfl) ?_
  refine lv_iconst (v := 0) hx hb dX0_init_52 (by decide) ?_
  refine nw_put (D := D) (ci := 0) (v := .int 0) (ty := .int) (C := RX0) (T := TX0) (N := 8) hx hb hts in0 tyX0 tyX0_ok nmX0 hown hK hS (Nat.le_refl _) at0 rfl 7 (by decide) (hts (.fieldLink RX0 35 "RiverModel$Course" "hours" "I") (List.mem_of_getElem? (i := 13) rfl)) (fun _ h9 => h9) rfl (by decide +kernel) rfl rfl (Nat.le_of_ble_eq_true rfl) dX0_init_53 (fun H locs at0 hz_24 o_23 hS => ?_)
  have at0 : va_at D vwCl (h0, .inr (0, [.ref (h0 + 1), .ref (h0 + 2), .ref (h0 + 3), .ref (h0 + 4), .long 0, .long 0, .long 0, .int 0])) H := at0
  replace hz : H.size = h0 + 5 := hz_24.trans hz
  replace at_1 := va_at.keptP (b := h0) (j := 0) 1 at_1 o_23 rfl
  replace at_5 := va_at.keptP (b := h0) (j := 0) 2 at_5 o_23 rfl
  replace at_9 := va_at.keptP (b := h0) (j := 0) 3 at_9 o_23 rfl
  replace at_13 := va_at.keptP (b := h0) (j := 0) 4 at_13 o_23 rfl
  clear o_23 hz_24
  have sg_25 : tS D (gF cI cL cC 0 0 0 (fun _ => 0) (fun _ => 0)) [17] (h0 + 1) H := tS.one at_1 (fun t => ⟨_, rfl⟩)
  have sg_26 : tS D (gF cI cL cC 0 0 0 (fun _ => 0) (fun _ => 0)) [18] (h0 + 2) H := tS.one at_5 (fun t => ⟨_, rfl⟩)
  have sg_27 : tS D (gF cI cL cC 0 0 0 (fun _ => 0) (fun _ => 0)) [19] (h0 + 3) H := tS.one at_9 (fun t => ⟨_, rfl⟩)
  have sg_28 : tS D (gF cI cL cC 0 0 0 (fun _ => 0) (fun _ => 0)) [20] (h0 + 4) H := tS.one at_13 (fun t => ⟨_, rfl⟩)
  have sj_29 : tS D (gF cI cL cC 0 0 0 (fun _ => 0) (fun _ => 0)) [19, 20] (h0 + 3) H := tS.app3 1 sg_27 sg_28 rfl rfl
  have sj_30 : tS D (gF cI cL cC 0 0 0 (fun _ => 0) (fun _ => 0)) [18, 19, 20] (h0 + 2) H := tS.app3 1 sg_26 sj_29 rfl rfl
  have sj_31 : tS D (gF cI cL cC 0 0 0 (fun _ => 0) (fun _ => 0)) [17, 18, 19, 20] (h0 + 1) H := tS.app3 1 sg_25 sj_30 rfl rfl
  have hT : tS D (gF cI cL cC 0 0 0 (fun _ => 0) (fun _ => 0)) [17, 18, 19, 20] (h0 + 1) H := sj_31
  have hT : tS D (gF cI cL cC 0 0 0 (fun _ => 0) (fun _ => 0)) [5, 17, 18, 19, 20] h0 H := tS.cons at0 hT (fun t h1 ht => ⟨h0 + 1, h0 + 2, h0 + 3, h0 + 4, 0, 0, 0, 0, rfl, (ht 0 (by decide)), (ht 1 (by decide)), (ht 2 (by decide)), (ht 3 (by decide)), (by decide)⟩)
  exact W.vret hx hb hr (fun u hu _ => ⟨rfl, by rw [hu]; exact hT, by rw [hu, hz]; rfl, by rw [hu]; exact hS.2.1⟩) hS.2.2 dX0_init_56 hlk

set_option maxHeartbeats 4000000 in
set_option maxRecDepth 100000 in
theorem cc_X1 (l : Launch) (D : va_G) (cI cL cC : ClassId) (h0 : Nat) : Met l yX1_init wsX1_init ({ frames := 1, cells := 3, slots := 392, locals := 23 }) (cP D cI cL cC 1 [.null, .null, .null, .int 0] h0) (cQ D (gF cI cL cC 0 0 0 (fun _ => 0) (fun _ => 0)) [6, 21, 22, 23] h0) 3 392 (fun q => h0 ≤ q) := by
  refine cM_ofW (cc := cX1_init) (maxL := 1) (by decide) rfl rfl (by decide) ?_
  intro p e s m below meth c hx hb hr hml hown hts hlk hin hz at0 hK hE hS ls hl
  have hl : lv_has ls 1 [(0, .ref h0)] := hl
  have in1 : ∀ w ∈ wsX10, w ∈ wsX1_init := fun w h => List.mem_cons_of_mem _ (List.mem_append_right _ h)
  refine lv_aload_n hx hb dX1_init_0 rfl (lv_at hl 0 rfl) ?_
  refine W.objInit hx hb hown (hts (.methodLink RX1 3 objectInit) (List.mem_of_getElem? (i := 1) rfl)) (hts (.instanceMethod objectInit) (List.mem_of_getElem? (i := 2) rfl)) (hts (.code objectInit ⟨#[0xb1]⟩ 1 none) (List.mem_of_getElem? (i := 3) rfl)) rfl (by rw [hml]; exact hl.1) rfl dX1_init_1 (Nat.le_of_ble_eq_true rfl) (Nat.le_of_ble_eq_true rfl) ?_
  refine W.eq (g2 := F0 m 4 ls []) rfl ?_
  refine lv_aload_n hx hb dX1_init_4 rfl (lv_at hl 0 rfl) ?_
  refine lv_iconst (v := 4) hx hb dX1_init_5 (by decide) ?_
  refine nw_newI (N := 4) (z := h0 + 1) hx hb (hts (.arrayClass .int) (List.mem_of_getElem? (i := 4) rfl)) hK hS hz (Nat.le_add_right _ _) (by decide) (by decide) (by decide) (Nat.le_of_ble_eq_true rfl) (Nat.le_of_ble_eq_true rfl) dX1_init_6 (fun H at_1 hz o_2 hS => ?_)
  replace at0 := va_at.keptA (b := h0) (z := 1) 0 at0 o_2 (Nat.le_of_ble_eq_true rfl)
  clear o_2
  have hz : H.size = h0 + 2 := hz
  refine nw_putF (D := D) (ci := 1) (v := .ref (h0 + 1)) (ty := .array .int) (C := RX1) (T := TX1) (N := 4) hx hb hts in1 tyX1 tyX1_ok nmX1 hown hK hS (Nat.le_refl _) at0 rfl 0 (by decide) (hts (.fieldLink RX1 9 "RiverModel$Gauges" "whats" "[I") (List.mem_of_getElem? (i := 5) rfl)) (fun _ h9 => h9) rfl hin rfl (by decide +kernel) rfl rfl (Nat.le_of_ble_eq_true rfl) dX1_init_8 (fun H locs at0 hz_4 o_3 hS => ?_)
  have at0 : va_at D vwCl (h0, .inr (1, [.ref (h0 + 1), .null, .null, .int 0])) H := at0
  replace hz : H.size = h0 + 2 := hz_4.trans hz
  replace at_1 := va_at.keptP (b := h0) (j := 0) 1 at_1 o_3 rfl
  clear o_3 hz_4
  refine lv_aload_n hx hb dX1_init_11 rfl (lv_at hl 0 rfl) ?_
  refine lv_pc (pc2 := 12) rfl ?_
  refine lv_iconst (v := 4) hx hb dX1_init_12 (by decide) ?_
  refine nw_newI (N := 4) (z := h0 + 2) hx hb (hts (.arrayClass .int) (List.mem_of_getElem? (i := 4) rfl)) hK hS hz (Nat.le_add_right _ _) (by decide) (by decide) (by decide) (Nat.le_of_ble_eq_true rfl) (Nat.le_of_ble_eq_true rfl) dX1_init_13 (fun H at_5 hz o_6 hS => ?_)
  replace at0 := va_at.keptA (b := h0) (z := 2) 0 at0 o_6 (Nat.le_of_ble_eq_true rfl)
  replace at_1 := va_at.keptA (b := h0) (z := 2) 1 at_1 o_6 (Nat.le_of_ble_eq_true rfl)
  clear o_6
  have hz : H.size = h0 + 3 := hz
  refine nw_putF (D := D) (ci := 1) (v := .ref (h0 + 2)) (ty := .array .int) (C := RX1) (T := TX1) (N := 4) hx hb hts in1 tyX1 tyX1_ok nmX1 hown hK hS (Nat.le_refl _) at0 rfl 1 (by decide) (hts (.fieldLink RX1 15 "RiverModel$Gauges" "places" "[I") (List.mem_of_getElem? (i := 6) rfl)) (fun _ h9 => h9) rfl hin rfl (by decide +kernel) rfl rfl (Nat.le_of_ble_eq_true rfl) dX1_init_15 (fun H locs at0 hz_8 o_7 hS => ?_)
  have at0 : va_at D vwCl (h0, .inr (1, [.ref (h0 + 1), .ref (h0 + 2), .null, .int 0])) H := at0
  replace hz : H.size = h0 + 3 := hz_8.trans hz
  replace at_1 := va_at.keptP (b := h0) (j := 0) 1 at_1 o_7 rfl
  replace at_5 := va_at.keptP (b := h0) (j := 0) 2 at_5 o_7 rfl
  clear o_7 hz_8
  refine lv_aload_n hx hb dX1_init_18 rfl (lv_at hl 0 rfl) ?_
  refine lv_sipush (v := 384) hx hb dX1_init_19 (by decide) ?_
  refine nw_newI (N := 384) (z := h0 + 3) hx hb (hts (.arrayClass .int) (List.mem_of_getElem? (i := 4) rfl)) hK hS hz (Nat.le_add_right _ _) (by decide) (by decide) (by decide) (Nat.le_of_ble_eq_true rfl) (Nat.le_of_ble_eq_true rfl) dX1_init_22 (fun H at_9 hz o_10 hS => ?_)
  replace at0 := va_at.keptA (b := h0) (z := 3) 0 at0 o_10 (Nat.le_of_ble_eq_true rfl)
  replace at_1 := va_at.keptA (b := h0) (z := 3) 1 at_1 o_10 (Nat.le_of_ble_eq_true rfl)
  replace at_5 := va_at.keptA (b := h0) (z := 3) 2 at_5 o_10 (Nat.le_of_ble_eq_true rfl)
  clear o_10
  have hz : H.size = h0 + 4 := hz
  refine nw_putF (D := D) (ci := 1) (v := .ref (h0 + 3)) (ty := .array .int) (C := RX1) (T := TX1) (N := 4) hx hb hts in1 tyX1 tyX1_ok nmX1 hown hK hS (Nat.le_refl _) at0 rfl 2 (by decide) (hts (.fieldLink RX1 18 "RiverModel$Gauges" "seen" "[I") (List.mem_of_getElem? (i := 7) rfl)) (fun _ h9 => h9) rfl hin rfl (by decide +kernel) rfl rfl (Nat.le_of_ble_eq_true rfl) dX1_init_24 (fun H locs at0 hz_12 o_11 hS => ?_)
  have at0 : va_at D vwCl (h0, .inr (1, [.ref (h0 + 1), .ref (h0 + 2), .ref (h0 + 3), .int 0])) H := at0
  replace hz : H.size = h0 + 4 := hz_12.trans hz
  replace at_1 := va_at.keptP (b := h0) (j := 0) 1 at_1 o_11 rfl
  replace at_5 := va_at.keptP (b := h0) (j := 0) 2 at_5 o_11 rfl
  replace at_9 := va_at.keptP (b := h0) (j := 0) 3 at_9 o_11 rfl
  clear o_11 hz_12
  refine lv_aload_n hx hb dX1_init_27 rfl (lv_at hl 0 rfl) ?_
  refine lv_pc (pc2 := 28) rfl ?_
  refine lv_iconst (v := 0) hx hb dX1_init_28 (by decide) ?_
  refine nw_put (D := D) (ci := 1) (v := .int 0) (ty := .int) (C := RX1) (T := TX1) (N := 4) hx hb hts in1 tyX1 tyX1_ok nmX1 hown hK hS (Nat.le_refl _) at0 rfl 3 (by decide) (hts (.fieldLink RX1 21 "RiverModel$Gauges" "mayBeOff" "I") (List.mem_of_getElem? (i := 8) rfl)) (fun _ h9 => h9) rfl (by decide +kernel) rfl rfl (Nat.le_of_ble_eq_true rfl) dX1_init_29 (fun H locs at0 hz_14 o_13 hS => ?_)
  have at0 : va_at D vwCl (h0, .inr (1, [.ref (h0 + 1), .ref (h0 + 2), .ref (h0 + 3), .int 0])) H := at0
  replace hz : H.size = h0 + 4 := hz_14.trans hz
  replace at_1 := va_at.keptP (b := h0) (j := 0) 1 at_1 o_13 rfl
  replace at_5 := va_at.keptP (b := h0) (j := 0) 2 at_5 o_13 rfl
  replace at_9 := va_at.keptP (b := h0) (j := 0) 3 at_9 o_13 rfl
  clear o_13 hz_14
  refine lv_aload_n hx hb dX1_init_32 rfl (lv_at hl 0 rfl) ?_
  refine va_get (D := D) (ci := 1) (v := .ref (h0 + 1)) (C := RX1) (T := TX1) (N := 4) hx hb hts in1 hown hK (va_one at0) 0 rfl rfl 0 (by decide) (hts (.fieldLink RX1 9 "RiverModel$Gauges" "whats" "[I") (List.mem_of_getElem? (i := 5) rfl)) (fun _ h9 => h9) rfl dX1_init_33 ?_
  refine lv_bipush (v := (-4)) hx hb dX1_init_36 (by decide) ?_
  refine nw_row (W.runS (As := [.ref (h0 + 1), .int (-4)]) (rest := []) ⟨hx, hb, hml, hown, hts⟩ (c_fillI l D cI cL cC (h0 + 1) 4 (fun _ => 0) (-4) (by decide)) (va_cwS 2 hts gX1_init_J7_fill_53178 rfl rfl rfl (by decide +kernel) ⟨Nat.le_of_ble_eq_true rfl, Nat.le_of_ble_eq_true rfl⟩) (rP_S at_1 hE) rfl rfl hl.1 rfl (lv_room (Nat.le_of_ble_eq_true rfl)) dX1_init_38 ⟨Nat.le_of_ble_eq_true rfl, Nat.le_of_ble_eq_true rfl⟩) (fun H L ee hp at_1 hz_18 o_16 hL_19 => ?_)
  obtain ⟨g_15, rfl, hg_17⟩ := hp
  replace hS := cF.row hS hz_18 o_16 hL_19 (Nat.le_add_right _ _)
  replace hz : H.size = h0 + 4 := hz_18.trans hz
  generalize _ ++ L = locs at hS ⊢
  replace at0 := va_at.keptP (b := h0) (j := 1) 0 at0 o_16 rfl
  replace at_5 := va_at.keptP (b := h0) (j := 1) 2 at_5 o_16 rfl
  replace at_9 := va_at.keptP (b := h0) (j := 1) 3 at_9 o_16 rfl
  clear o_16 hz_18 hL_19
  refine lv_aload_n hx hb dX1_init_41 rfl (lv_at hl 0 rfl) ?_
  refine va_get (D := D) (ci := 1) (v := .ref (h0 + 3)) (C := RX1) (T := TX1) (N := 4) hx hb hts in1 hown hK (va_one at0) 0 rfl rfl 2 (by decide) (hts (.fieldLink RX1 18 "RiverModel$Gauges" "seen" "[I") (List.mem_of_getElem? (i := 7) rfl)) (fun _ h9 => h9) rfl dX1_init_42 ?_
  refine lv_pc (pc2 := 45) rfl ?_
  refine lv_iconst (v := (-1)) hx hb dX1_init_45 (by decide) ?_
  refine nw_row (W.runS (As := [.ref (h0 + 3), .int (-1)]) (rest := []) ⟨hx, hb, hml, hown, hts⟩ (c_fillI l D cI cL cC (h0 + 3) 384 (fun _ => 0) (-1) (by decide)) (va_cwS 2 hts gX1_init_J7_fill_53178 rfl rfl rfl (by decide +kernel) ⟨Nat.le_of_ble_eq_true rfl, Nat.le_of_ble_eq_true rfl⟩) (rP_S at_9 hE) rfl rfl hl.1 rfl (lv_room (Nat.le_of_ble_eq_true rfl)) dX1_init_46 ⟨Nat.le_of_ble_eq_true rfl, Nat.le_of_ble_eq_true rfl⟩) (fun H L ee hp at_9 hz_23 o_21 hL_24 => ?_)
  obtain ⟨g_20, rfl, hg_22⟩ := hp
  replace hS := cF.row hS hz_23 o_21 hL_24 (Nat.le_add_right _ _)
  replace hz : H.size = h0 + 4 := hz_23.trans hz
  generalize _ ++ L = locs at hS ⊢
  replace at0 := va_at.keptP (b := h0) (j := 3) 0 at0 o_21 rfl
  replace at_1 := va_at.keptP (b := h0) (j := 3) 1 at_1 o_21 rfl
  replace at_5 := va_at.keptP (b := h0) (j := 3) 2 at_5 o_21 rfl
  clear o_21 hz_23 hL_24
  have sg_25 : tS D (gF cI cL cC 0 0 0 (fun _ => 0) (fun _ => 0)) [21] (h0 + 1) H := tS.one at_1 (fun t => ⟨_, rfl⟩)
  have sg_26 : tS D (gF cI cL cC 0 0 0 (fun _ => 0) (fun _ => 0)) [22] (h0 + 2) H := tS.one at_5 (fun t => ⟨_, rfl⟩)
  have sg_27 : tS D (gF cI cL cC 0 0 0 (fun _ => 0) (fun _ => 0)) [23] (h0 + 3) H := tS.one at_9 (fun t => ⟨_, rfl⟩)
  have sj_28 : tS D (gF cI cL cC 0 0 0 (fun _ => 0) (fun _ => 0)) [22, 23] (h0 + 2) H := tS.app3 1 sg_26 sg_27 rfl rfl
  have sj_29 : tS D (gF cI cL cC 0 0 0 (fun _ => 0) (fun _ => 0)) [21, 22, 23] (h0 + 1) H := tS.app3 1 sg_25 sj_28 rfl rfl
  have hT : tS D (gF cI cL cC 0 0 0 (fun _ => 0) (fun _ => 0)) [21, 22, 23] (h0 + 1) H := sj_29
  have hT : tS D (gF cI cL cC 0 0 0 (fun _ => 0) (fun _ => 0)) [6, 21, 22, 23] h0 H := tS.cons at0 hT (fun t h1 ht => ⟨h0 + 1, h0 + 2, h0 + 3, rfl, (ht 0 (by decide)), (ht 1 (by decide)), (ht 2 (by decide))⟩)
  exact W.vret hx hb hr (fun u hu _ => ⟨rfl, by rw [hu]; exact hT, by rw [hu, hz]; rfl, by rw [hu]; exact hS.2.1⟩) hS.2.2 dX1_init_49 hlk

set_option maxHeartbeats 4000000 in
set_option maxRecDepth 100000 in
theorem cc_X3 (l : Launch) (D : va_G) (cI cL cC : ClassId) (h0 : Nat) : Met l yX3_init wsX3_init ({ frames := 1, cells := 5, slots := 10, locals := 12 }) (cP D cI cL cC 2 [.null, .null, .null, .null, .null] h0) (cQ D (gF cI cL cC 0 0 0 (fun _ => 0) (fun _ => 0)) [7, 24, 25, 26, 27, 28] h0) 5 10 (fun q => h0 ≤ q) := by
  refine cM_ofW (cc := cX3_init) (maxL := 1) (by decide) rfl rfl (by decide) ?_
  intro p e s m below meth c hx hb hr hml hown hts hlk hin hz at0 hK hE hS ls hl
  have hl : lv_has ls 1 [(0, .ref h0)] := hl
  have in3 : ∀ w ∈ wsX30, w ∈ wsX3_init := fun w h => List.mem_cons_of_mem _ (List.mem_append_right _ h)
  refine lv_aload_n hx hb dX3_init_0 rfl (lv_at hl 0 rfl) ?_
  refine W.objInit hx hb hown (hts (.methodLink RX3 3 objectInit) (List.mem_of_getElem? (i := 1) rfl)) (hts (.instanceMethod objectInit) (List.mem_of_getElem? (i := 2) rfl)) (hts (.code objectInit ⟨#[0xb1]⟩ 1 none) (List.mem_of_getElem? (i := 3) rfl)) rfl (by rw [hml]; exact hl.1) rfl dX3_init_1 (Nat.le_of_ble_eq_true rfl) (Nat.le_of_ble_eq_true rfl) ?_
  refine W.eq (g2 := F0 m 4 ls []) rfl ?_
  refine lv_aload_n hx hb dX3_init_4 rfl (lv_at hl 0 rfl) ?_
  refine lv_iconst (v := 2) hx hb dX3_init_5 (by decide) ?_
  refine nw_newI (N := 2) (z := h0 + 1) hx hb (hts (.arrayClass .int) (List.mem_of_getElem? (i := 4) rfl)) hK hS hz (Nat.le_add_right _ _) (by decide) (by decide) (by decide) (Nat.le_of_ble_eq_true rfl) (Nat.le_of_ble_eq_true rfl) dX3_init_6 (fun H at_1 hz o_2 hS => ?_)
  replace at0 := va_at.keptA (b := h0) (z := 1) 0 at0 o_2 (Nat.le_of_ble_eq_true rfl)
  clear o_2
  have hz : H.size = h0 + 2 := hz
  refine nw_putF (D := D) (ci := 2) (v := .ref (h0 + 1)) (ty := .array .int) (C := RX3) (T := TX3) (N := 5) hx hb hts in3 tyX3 tyX3_ok nmX3 hown hK hS (Nat.le_refl _) at0 rfl 0 (by decide) (hts (.fieldLink RX3 9 "RiverModel$Knobs" "items" "[I") (List.mem_of_getElem? (i := 5) rfl)) (fun _ h9 => h9) rfl hin rfl (by decide +kernel) rfl rfl (Nat.le_of_ble_eq_true rfl) dX3_init_8 (fun H locs at0 hz_4 o_3 hS => ?_)
  have at0 : va_at D vwCl (h0, .inr (2, [.ref (h0 + 1), .null, .null, .null, .null])) H := at0
  replace hz : H.size = h0 + 2 := hz_4.trans hz
  replace at_1 := va_at.keptP (b := h0) (j := 0) 1 at_1 o_3 rfl
  clear o_3 hz_4
  refine lv_aload_n hx hb dX3_init_11 rfl (lv_at hl 0 rfl) ?_
  refine lv_pc (pc2 := 12) rfl ?_
  refine lv_iconst (v := 2) hx hb dX3_init_12 (by decide) ?_
  refine nw_newI (N := 2) (z := h0 + 2) hx hb (hts (.arrayClass .int) (List.mem_of_getElem? (i := 4) rfl)) hK hS hz (Nat.le_add_right _ _) (by decide) (by decide) (by decide) (Nat.le_of_ble_eq_true rfl) (Nat.le_of_ble_eq_true rfl) dX3_init_13 (fun H at_5 hz o_6 hS => ?_)
  replace at0 := va_at.keptA (b := h0) (z := 2) 0 at0 o_6 (Nat.le_of_ble_eq_true rfl)
  replace at_1 := va_at.keptA (b := h0) (z := 2) 1 at_1 o_6 (Nat.le_of_ble_eq_true rfl)
  clear o_6
  have hz : H.size = h0 + 3 := hz
  refine nw_putF (D := D) (ci := 2) (v := .ref (h0 + 2)) (ty := .array .int) (C := RX3) (T := TX3) (N := 5) hx hb hts in3 tyX3 tyX3_ok nmX3 hown hK hS (Nat.le_refl _) at0 rfl 1 (by decide) (hts (.fieldLink RX3 15 "RiverModel$Knobs" "numbers" "[I") (List.mem_of_getElem? (i := 6) rfl)) (fun _ h9 => h9) rfl hin rfl (by decide +kernel) rfl rfl (Nat.le_of_ble_eq_true rfl) dX3_init_15 (fun H locs at0 hz_8 o_7 hS => ?_)
  have at0 : va_at D vwCl (h0, .inr (2, [.ref (h0 + 1), .ref (h0 + 2), .null, .null, .null])) H := at0
  replace hz : H.size = h0 + 3 := hz_8.trans hz
  replace at_1 := va_at.keptP (b := h0) (j := 0) 1 at_1 o_7 rfl
  replace at_5 := va_at.keptP (b := h0) (j := 0) 2 at_5 o_7 rfl
  clear o_7 hz_8
  refine lv_aload_n hx hb dX3_init_18 rfl (lv_at hl 0 rfl) ?_
  refine lv_iconst (v := 2) hx hb dX3_init_19 (by decide) ?_
  refine nw_newI (N := 2) (z := h0 + 3) hx hb (hts (.arrayClass .int) (List.mem_of_getElem? (i := 4) rfl)) hK hS hz (Nat.le_add_right _ _) (by decide) (by decide) (by decide) (Nat.le_of_ble_eq_true rfl) (Nat.le_of_ble_eq_true rfl) dX3_init_20 (fun H at_9 hz o_10 hS => ?_)
  replace at0 := va_at.keptA (b := h0) (z := 3) 0 at0 o_10 (Nat.le_of_ble_eq_true rfl)
  replace at_1 := va_at.keptA (b := h0) (z := 3) 1 at_1 o_10 (Nat.le_of_ble_eq_true rfl)
  replace at_5 := va_at.keptA (b := h0) (z := 3) 2 at_5 o_10 (Nat.le_of_ble_eq_true rfl)
  clear o_10
  have hz : H.size = h0 + 4 := hz
  refine nw_putF (D := D) (ci := 2) (v := .ref (h0 + 3)) (ty := .array .int) (C := RX3) (T := TX3) (N := 5) hx hb hts in3 tyX3 tyX3_ok nmX3 hown hK hS (Nat.le_refl _) at0 rfl 2 (by decide) (hts (.fieldLink RX3 18 "RiverModel$Knobs" "froms" "[I") (List.mem_of_getElem? (i := 7) rfl)) (fun _ h9 => h9) rfl hin rfl (by decide +kernel) rfl rfl (Nat.le_of_ble_eq_true rfl) dX3_init_22 (fun H locs at0 hz_12 o_11 hS => ?_)
  have at0 : va_at D vwCl (h0, .inr (2, [.ref (h0 + 1), .ref (h0 + 2), .ref (h0 + 3), .null, .null])) H := at0
  replace hz : H.size = h0 + 4 := hz_12.trans hz
  replace at_1 := va_at.keptP (b := h0) (j := 0) 1 at_1 o_11 rfl
  replace at_5 := va_at.keptP (b := h0) (j := 0) 2 at_5 o_11 rfl
  replace at_9 := va_at.keptP (b := h0) (j := 0) 3 at_9 o_11 rfl
  clear o_11 hz_12
  refine lv_aload_n hx hb dX3_init_25 rfl (lv_at hl 0 rfl) ?_
  refine lv_pc (pc2 := 26) rfl ?_
  refine lv_iconst (v := 2) hx hb dX3_init_26 (by decide) ?_
  refine nw_newI (N := 2) (z := h0 + 4) hx hb (hts (.arrayClass .int) (List.mem_of_getElem? (i := 4) rfl)) hK hS hz (Nat.le_add_right _ _) (by decide) (by decide) (by decide) (Nat.le_of_ble_eq_true rfl) (Nat.le_of_ble_eq_true rfl) dX3_init_27 (fun H at_13 hz o_14 hS => ?_)
  replace at0 := va_at.keptA (b := h0) (z := 4) 0 at0 o_14 (Nat.le_of_ble_eq_true rfl)
  replace at_1 := va_at.keptA (b := h0) (z := 4) 1 at_1 o_14 (Nat.le_of_ble_eq_true rfl)
  replace at_5 := va_at.keptA (b := h0) (z := 4) 2 at_5 o_14 (Nat.le_of_ble_eq_true rfl)
  replace at_9 := va_at.keptA (b := h0) (z := 4) 3 at_9 o_14 (Nat.le_of_ble_eq_true rfl)
  clear o_14
  have hz : H.size = h0 + 5 := hz
  refine nw_putF (D := D) (ci := 2) (v := .ref (h0 + 4)) (ty := .array .int) (C := RX3) (T := TX3) (N := 5) hx hb hts in3 tyX3 tyX3_ok nmX3 hown hK hS (Nat.le_refl _) at0 rfl 3 (by decide) (hts (.fieldLink RX3 21 "RiverModel$Knobs" "steps" "[I") (List.mem_of_getElem? (i := 8) rfl)) (fun _ h9 => h9) rfl hin rfl (by decide +kernel) rfl rfl (Nat.le_of_ble_eq_true rfl) dX3_init_29 (fun H locs at0 hz_16 o_15 hS => ?_)
  have at0 : va_at D vwCl (h0, .inr (2, [.ref (h0 + 1), .ref (h0 + 2), .ref (h0 + 3), .ref (h0 + 4), .null])) H := at0
  replace hz : H.size = h0 + 5 := hz_16.trans hz
  replace at_1 := va_at.keptP (b := h0) (j := 0) 1 at_1 o_15 rfl
  replace at_5 := va_at.keptP (b := h0) (j := 0) 2 at_5 o_15 rfl
  replace at_9 := va_at.keptP (b := h0) (j := 0) 3 at_9 o_15 rfl
  replace at_13 := va_at.keptP (b := h0) (j := 0) 4 at_13 o_15 rfl
  clear o_15 hz_16
  refine lv_aload_n hx hb dX3_init_32 rfl (lv_at hl 0 rfl) ?_
  refine lv_iconst (v := 2) hx hb dX3_init_33 (by decide) ?_
  refine nw_newI (N := 2) (z := h0 + 5) hx hb (hts (.arrayClass .int) (List.mem_of_getElem? (i := 4) rfl)) hK hS hz (Nat.le_add_right _ _) (by decide) (by decide) (by decide) (Nat.le_of_ble_eq_true rfl) (Nat.le_of_ble_eq_true rfl) dX3_init_34 (fun H at_17 hz o_18 hS => ?_)
  replace at0 := va_at.keptA (b := h0) (z := 5) 0 at0 o_18 (Nat.le_of_ble_eq_true rfl)
  replace at_1 := va_at.keptA (b := h0) (z := 5) 1 at_1 o_18 (Nat.le_of_ble_eq_true rfl)
  replace at_5 := va_at.keptA (b := h0) (z := 5) 2 at_5 o_18 (Nat.le_of_ble_eq_true rfl)
  replace at_9 := va_at.keptA (b := h0) (z := 5) 3 at_9 o_18 (Nat.le_of_ble_eq_true rfl)
  replace at_13 := va_at.keptA (b := h0) (z := 5) 4 at_13 o_18 (Nat.le_of_ble_eq_true rfl)
  clear o_18
  have hz : H.size = h0 + 6 := hz
  refine nw_putF (D := D) (ci := 2) (v := .ref (h0 + 5)) (ty := .array .int) (C := RX3) (T := TX3) (N := 5) hx hb hts in3 tyX3 tyX3_ok nmX3 hown hK hS (Nat.le_refl _) at0 rfl 4 (by decide) (hts (.fieldLink RX3 24 "RiverModel$Knobs" "manys" "[I") (List.mem_of_getElem? (i := 9) rfl)) (fun _ h9 => h9) rfl hin rfl (by decide +kernel) rfl rfl (Nat.le_of_ble_eq_true rfl) dX3_init_36 (fun H locs at0 hz_20 o_19 hS => ?_)
  have at0 : va_at D vwCl (h0, .inr (2, [.ref (h0 + 1), .ref (h0 + 2), .ref (h0 + 3), .ref (h0 + 4), .ref (h0 + 5)])) H := at0
  replace hz : H.size = h0 + 6 := hz_20.trans hz
  replace at_1 := va_at.keptP (b := h0) (j := 0) 1 at_1 o_19 rfl
  replace at_5 := va_at.keptP (b := h0) (j := 0) 2 at_5 o_19 rfl
  replace at_9 := va_at.keptP (b := h0) (j := 0) 3 at_9 o_19 rfl
  replace at_13 := va_at.keptP (b := h0) (j := 0) 4 at_13 o_19 rfl
  replace at_17 := va_at.keptP (b := h0) (j := 0) 5 at_17 o_19 rfl
  clear o_19 hz_20
  have sg_21 : tS D (gF cI cL cC 0 0 0 (fun _ => 0) (fun _ => 0)) [24] (h0 + 1) H := tS.one at_1 (fun t => ⟨_, rfl⟩)
  have sg_22 : tS D (gF cI cL cC 0 0 0 (fun _ => 0) (fun _ => 0)) [25] (h0 + 2) H := tS.one at_5 (fun t => ⟨_, rfl⟩)
  have sg_23 : tS D (gF cI cL cC 0 0 0 (fun _ => 0) (fun _ => 0)) [26] (h0 + 3) H := tS.one at_9 (fun t => ⟨_, rfl⟩)
  have sg_24 : tS D (gF cI cL cC 0 0 0 (fun _ => 0) (fun _ => 0)) [27] (h0 + 4) H := tS.one at_13 (fun t => ⟨_, rfl⟩)
  have sg_25 : tS D (gF cI cL cC 0 0 0 (fun _ => 0) (fun _ => 0)) [28] (h0 + 5) H := tS.one at_17 (fun t => ⟨_, rfl, (gMany_all (x := 0) (fun _ _ => rfl) (by decide))⟩)
  have sj_26 : tS D (gF cI cL cC 0 0 0 (fun _ => 0) (fun _ => 0)) [27, 28] (h0 + 4) H := tS.app3 1 sg_24 sg_25 rfl rfl
  have sj_27 : tS D (gF cI cL cC 0 0 0 (fun _ => 0) (fun _ => 0)) [26, 27, 28] (h0 + 3) H := tS.app3 1 sg_23 sj_26 rfl rfl
  have sj_28 : tS D (gF cI cL cC 0 0 0 (fun _ => 0) (fun _ => 0)) [25, 26, 27, 28] (h0 + 2) H := tS.app3 1 sg_22 sj_27 rfl rfl
  have sj_29 : tS D (gF cI cL cC 0 0 0 (fun _ => 0) (fun _ => 0)) [24, 25, 26, 27, 28] (h0 + 1) H := tS.app3 1 sg_21 sj_28 rfl rfl
  have hT : tS D (gF cI cL cC 0 0 0 (fun _ => 0) (fun _ => 0)) [24, 25, 26, 27, 28] (h0 + 1) H := sj_29
  have hT : tS D (gF cI cL cC 0 0 0 (fun _ => 0) (fun _ => 0)) [7, 24, 25, 26, 27, 28] h0 H := tS.cons at0 hT (fun t h1 ht => ⟨h0 + 1, h0 + 2, h0 + 3, h0 + 4, h0 + 5, rfl, (ht 0 (by decide)), (ht 1 (by decide)), (ht 2 (by decide)), (ht 3 (by decide)), (ht 4 (by decide))⟩)
  exact W.vret hx hb hr (fun u hu _ => ⟨rfl, by rw [hu]; exact hT, by rw [hu, hz]; rfl, by rw [hu]; exact hS.2.1⟩) hS.2.2 dX3_init_39 hlk

set_option maxHeartbeats 4000000 in
set_option maxRecDepth 100000 in
theorem cc_X8 (l : Launch) (D : va_G) (cI cL cC : ClassId) (h0 : Nat) : Met l yX8_init wsX8_init ({ frames := 1, cells := 3, slots := 104, locals := 12 }) (cP D cI cL cC 7 [.null, .null, .null] h0) (cQ D (gF cI cL cC 0 0 0 (fun _ => 0) (fun _ => 0)) [8, 29, 30, 31] h0) 3 104 (fun q => h0 ≤ q) := by
  refine cM_ofW (cc := cX8_init) (maxL := 1) (by decide) rfl rfl (by decide) ?_
  intro p e s m below meth c hx hb hr hml hown hts hlk hin hz at0 hK hE hS ls hl
  have hl : lv_has ls 1 [(0, .ref h0)] := hl
  have in8 : ∀ w ∈ wsX80, w ∈ wsX8_init := fun w h => List.mem_cons_of_mem _ (List.mem_append_right _ h)
  refine lv_aload_n hx hb dX8_init_0 rfl (lv_at hl 0 rfl) ?_
  refine W.objInit hx hb hown (hts (.methodLink RX8 3 objectInit) (List.mem_of_getElem? (i := 1) rfl)) (hts (.instanceMethod objectInit) (List.mem_of_getElem? (i := 2) rfl)) (hts (.code objectInit ⟨#[0xb1]⟩ 1 none) (List.mem_of_getElem? (i := 3) rfl)) rfl (by rw [hml]; exact hl.1) rfl dX8_init_1 (Nat.le_of_ble_eq_true rfl) (Nat.le_of_ble_eq_true rfl) ?_
  refine W.eq (g2 := F0 m 4 ls []) rfl ?_
  refine lv_aload_n hx hb dX8_init_4 rfl (lv_at hl 0 rfl) ?_
  refine lv_iconst (v := 4) hx hb dX8_init_5 (by decide) ?_
  refine nw_newI (N := 4) (z := h0 + 1) hx hb (hts (.arrayClass .int) (List.mem_of_getElem? (i := 4) rfl)) hK hS hz (Nat.le_add_right _ _) (by decide) (by decide) (by decide) (Nat.le_of_ble_eq_true rfl) (Nat.le_of_ble_eq_true rfl) dX8_init_6 (fun H at_1 hz o_2 hS => ?_)
  replace at0 := va_at.keptA (b := h0) (z := 1) 0 at0 o_2 (Nat.le_of_ble_eq_true rfl)
  clear o_2
  have hz : H.size = h0 + 2 := hz
  refine nw_putF (D := D) (ci := 7) (v := .ref (h0 + 1)) (ty := .array .int) (C := RX8) (T := TX8) (N := 3) hx hb hts in8 tyX8 tyX8_ok nmX8 hown hK hS (Nat.le_refl _) at0 rfl 0 (by decide) (hts (.fieldLink RX8 9 "RiverModel$Worlds" "weights" "[I") (List.mem_of_getElem? (i := 5) rfl)) (fun _ h9 => h9) rfl hin rfl (by decide +kernel) rfl rfl (Nat.le_of_ble_eq_true rfl) dX8_init_8 (fun H locs at0 hz_4 o_3 hS => ?_)
  have at0 : va_at D vwCl (h0, .inr (7, [.ref (h0 + 1), .null, .null])) H := at0
  replace hz : H.size = h0 + 2 := hz_4.trans hz
  replace at_1 := va_at.keptP (b := h0) (j := 0) 1 at_1 o_3 rfl
  clear o_3 hz_4
  refine lv_aload_n hx hb dX8_init_11 rfl (lv_at hl 0 rfl) ?_
  refine lv_pc (pc2 := 12) rfl ?_
  refine lv_iconst (v := 4) hx hb dX8_init_12 (by decide) ?_
  refine nw_newI (N := 4) (z := h0 + 2) hx hb (hts (.arrayClass .int) (List.mem_of_getElem? (i := 4) rfl)) hK hS hz (Nat.le_add_right _ _) (by decide) (by decide) (by decide) (Nat.le_of_ble_eq_true rfl) (Nat.le_of_ble_eq_true rfl) dX8_init_13 (fun H at_5 hz o_6 hS => ?_)
  replace at0 := va_at.keptA (b := h0) (z := 2) 0 at0 o_6 (Nat.le_of_ble_eq_true rfl)
  replace at_1 := va_at.keptA (b := h0) (z := 2) 1 at_1 o_6 (Nat.le_of_ble_eq_true rfl)
  clear o_6
  have hz : H.size = h0 + 3 := hz
  refine nw_putF (D := D) (ci := 7) (v := .ref (h0 + 2)) (ty := .array .int) (C := RX8) (T := TX8) (N := 3) hx hb hts in8 tyX8 tyX8_ok nmX8 hown hK hS (Nat.le_refl _) at0 rfl 1 (by decide) (hts (.fieldLink RX8 15 "RiverModel$Worlds" "warnings" "[I") (List.mem_of_getElem? (i := 6) rfl)) (fun _ h9 => h9) rfl hin rfl (by decide +kernel) rfl rfl (Nat.le_of_ble_eq_true rfl) dX8_init_15 (fun H locs at0 hz_8 o_7 hS => ?_)
  have at0 : va_at D vwCl (h0, .inr (7, [.ref (h0 + 1), .ref (h0 + 2), .null])) H := at0
  replace hz : H.size = h0 + 3 := hz_8.trans hz
  replace at_1 := va_at.keptP (b := h0) (j := 0) 1 at_1 o_7 rfl
  replace at_5 := va_at.keptP (b := h0) (j := 0) 2 at_5 o_7 rfl
  clear o_7 hz_8
  refine lv_aload_n hx hb dX8_init_18 rfl (lv_at hl 0 rfl) ?_
  refine lv_bipush (v := 96) hx hb dX8_init_19 (by decide) ?_
  refine nw_newI (N := 96) (z := h0 + 3) hx hb (hts (.arrayClass .int) (List.mem_of_getElem? (i := 4) rfl)) hK hS hz (Nat.le_add_right _ _) (by decide) (by decide) (by decide) (Nat.le_of_ble_eq_true rfl) (Nat.le_of_ble_eq_true rfl) dX8_init_21 (fun H at_9 hz o_10 hS => ?_)
  replace at0 := va_at.keptA (b := h0) (z := 3) 0 at0 o_10 (Nat.le_of_ble_eq_true rfl)
  replace at_1 := va_at.keptA (b := h0) (z := 3) 1 at_1 o_10 (Nat.le_of_ble_eq_true rfl)
  replace at_5 := va_at.keptA (b := h0) (z := 3) 2 at_5 o_10 (Nat.le_of_ble_eq_true rfl)
  clear o_10
  have hz : H.size = h0 + 4 := hz
  refine nw_putF (D := D) (ci := 7) (v := .ref (h0 + 3)) (ty := .array .int) (C := RX8) (T := TX8) (N := 3) hx hb hts in8 tyX8 tyX8_ok nmX8 hown hK hS (Nat.le_refl _) at0 rfl 2 (by decide) (hts (.fieldLink RX8 18 "RiverModel$Worlds" "rains" "[I") (List.mem_of_getElem? (i := 7) rfl)) (fun _ h9 => h9) rfl hin rfl (by decide +kernel) rfl rfl (Nat.le_of_ble_eq_true rfl) dX8_init_23 (fun H locs at0 hz_12 o_11 hS => ?_)
  have at0 : va_at D vwCl (h0, .inr (7, [.ref (h0 + 1), .ref (h0 + 2), .ref (h0 + 3)])) H := at0
  replace hz : H.size = h0 + 4 := hz_12.trans hz
  replace at_1 := va_at.keptP (b := h0) (j := 0) 1 at_1 o_11 rfl
  replace at_5 := va_at.keptP (b := h0) (j := 0) 2 at_5 o_11 rfl
  replace at_9 := va_at.keptP (b := h0) (j := 0) 3 at_9 o_11 rfl
  clear o_11 hz_12
  have sg_13 : tS D (gF cI cL cC 0 0 0 (fun _ => 0) (fun _ => 0)) [29] (h0 + 1) H := tS.one at_1 (fun t => ⟨_, rfl, rfl⟩)
  have sg_14 : tS D (gF cI cL cC 0 0 0 (fun _ => 0) (fun _ => 0)) [30] (h0 + 2) H := tS.one at_5 (fun t => ⟨_, rfl⟩)
  have sg_15 : tS D (gF cI cL cC 0 0 0 (fun _ => 0) (fun _ => 0)) [31] (h0 + 3) H := tS.one at_9 (fun t => ⟨_, rfl, rfl⟩)
  have sj_16 : tS D (gF cI cL cC 0 0 0 (fun _ => 0) (fun _ => 0)) [30, 31] (h0 + 2) H := tS.app3 1 sg_14 sg_15 rfl rfl
  have sj_17 : tS D (gF cI cL cC 0 0 0 (fun _ => 0) (fun _ => 0)) [29, 30, 31] (h0 + 1) H := tS.app3 1 sg_13 sj_16 rfl rfl
  have hT : tS D (gF cI cL cC 0 0 0 (fun _ => 0) (fun _ => 0)) [29, 30, 31] (h0 + 1) H := sj_17
  have hT : tS D (gF cI cL cC 0 0 0 (fun _ => 0) (fun _ => 0)) [8, 29, 30, 31] h0 H := tS.cons at0 hT (fun t h1 ht => ⟨h0 + 1, h0 + 2, h0 + 3, rfl, (ht 0 (by decide)), (ht 1 (by decide)), (ht 2 (by decide))⟩)
  exact W.vret hx hb hr (fun u hu _ => ⟨rfl, by rw [hu]; exact hT, by rw [hu, hz]; rfl, by rw [hu]; exact hS.2.1⟩) hS.2.2 dX8_init_26 hlk
