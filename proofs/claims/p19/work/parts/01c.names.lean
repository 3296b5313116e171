set_option maxRecDepth 20000 in
theorem ggX3_turnBack_X0_set : GoodIn wsX3_turnBack wsX0_set := goodIn_r _ [11, 12, 13, 19, 20] rfl (by decide +kernel)
set_option maxRecDepth 20000 in
theorem gX3_turnBack_X0_set : GoodIn wsX3_turnBack (wsV RX3 57 RX0 yX0_set wsX0_set) := goodIn_app (goodIn_of _ (by decide +kernel)) ggX3_turnBack_X0_set
theorem dX3_turnBack_0 : decode cX3_turnBack 0 = .ok (.aload_n 1, 1) := by decide +kernel
theorem dX3_turnBack_1 : decode cX3_turnBack 1 = .ok (.aload_n 0, 1) := by decide +kernel
theorem dX3_turnBack_2 : decode cX3_turnBack 2 = .ok (.getfield 26, 3) := by decide +kernel
theorem dX3_turnBack_5 : decode cX3_turnBack 5 = .ok (.aload_n 1, 1) := by decide +kernel
theorem dX3_turnBack_6 : decode cX3_turnBack 6 = .ok (.getfield 49, 3) := by decide +kernel
theorem dX3_turnBack_9 : decode cX3_turnBack 9 = .ok (.imul, 1) := by decide +kernel
theorem dX3_turnBack_10 : decode cX3_turnBack 10 = .ok (.aload_n 0, 1) := by decide +kernel
theorem dX3_turnBack_11 : decode cX3_turnBack 11 = .ok (.getfield 33, 3) := by decide +kernel
theorem dX3_turnBack_14 : decode cX3_turnBack 14 = .ok (.aload_n 1, 1) := by decide +kernel
theorem dX3_turnBack_15 : decode cX3_turnBack 15 = .ok (.getfield 54, 3) := by decide +kernel
theorem dX3_turnBack_18 : decode cX3_turnBack 18 = .ok (.imul, 1) := by decide +kernel
theorem dX3_turnBack_19 : decode cX3_turnBack 19 = .ok (.iadd, 1) := by decide +kernel
theorem dX3_turnBack_20 : decode cX3_turnBack 20 = .ok (.sipush 10007, 3) := by decide +kernel
theorem dX3_turnBack_23 : decode cX3_turnBack 23 = .ok (.irem, 1) := by decide +kernel
theorem dX3_turnBack_24 : decode cX3_turnBack 24 = .ok (.aload_n 0, 1) := by decide +kernel
theorem dX3_turnBack_25 : decode cX3_turnBack 25 = .ok (.getfield 30, 3) := by decide +kernel
theorem dX3_turnBack_28 : decode cX3_turnBack 28 = .ok (.aload_n 1, 1) := by decide +kernel
theorem dX3_turnBack_29 : decode cX3_turnBack 29 = .ok (.getfield 49, 3) := by decide +kernel
theorem dX3_turnBack_32 : decode cX3_turnBack 32 = .ok (.imul, 1) := by decide +kernel
theorem dX3_turnBack_33 : decode cX3_turnBack 33 = .ok (.aload_n 0, 1) := by decide +kernel
theorem dX3_turnBack_34 : decode cX3_turnBack 34 = .ok (.getfield 36, 3) := by decide +kernel
theorem dX3_turnBack_37 : decode cX3_turnBack 37 = .ok (.aload_n 1, 1) := by decide +kernel
theorem dX3_turnBack_38 : decode cX3_turnBack 38 = .ok (.getfield 54, 3) := by decide +kernel
theorem dX3_turnBack_41 : decode cX3_turnBack 41 = .ok (.imul, 1) := by decide +kernel
theorem dX3_turnBack_42 : decode cX3_turnBack 42 = .ok (.iadd, 1) := by decide +kernel
theorem dX3_turnBack_43 : decode cX3_turnBack 43 = .ok (.sipush 10007, 3) := by decide +kernel
theorem dX3_turnBack_46 : decode cX3_turnBack 46 = .ok (.irem, 1) := by decide +kernel
theorem dX3_turnBack_47 : decode cX3_turnBack 47 = .ok (.invokevirtual 57, 3) := by decide +kernel
theorem dX3_turnBack_50 : decode cX3_turnBack 50 = .ok (.return_, 1) := by decide +kernel
set_option maxRecDepth 20000 in
theorem ggX3_twice_X3_spread : GoodIn wsX3_twice wsX3_spread := goodIn_r _ [10, 4, 11, 2, 12, 13, 3, 5, 1, 14, 15, 16, 17, 18, 19, 20, 21, 26, 27, 28, 29, 30, 31, 32, 33] rfl (by decide +kernel)
set_option maxRecDepth 20000 in
theorem gX3_twice_X3_spread : GoodIn wsX3_twice (wsV RX3 63 RX3 yX3_spread wsX3_spread) := goodIn_app (goodIn_of _ (by decide +kernel)) ggX3_twice_X3_spread
set_option maxRecDepth 20000 in
theorem ggX3_twice_X3_setF : GoodIn wsX3_twice wsX3_setF := goodIn_r _ [25, 4, 2, 3, 5, 26, 27, 28, 29, 30] rfl (by decide +kernel)
set_option maxRecDepth 20000 in
theorem gX3_twice_X3_setF : GoodIn wsX3_twice (wsV RX3 18 RX3 yX3_setF wsX3_setF) := goodIn_app (goodIn_of _ (by decide +kernel)) ggX3_twice_X3_setF
theorem dX3_twice_0 : decode cX3_twice 0 = .ok (.aload_n 0, 1) := by decide +kernel
theorem dX3_twice_1 : decode cX3_twice 1 = .ok (.aload_n 0, 1) := by decide +kernel
theorem dX3_twice_2 : decode cX3_twice 2 = .ok (.getfield 12, 3) := by decide +kernel
theorem dX3_twice_5 : decode cX3_twice 5 = .ok (.invokevirtual 63, 3) := by decide +kernel
theorem dX3_twice_8 : decode cX3_twice 8 = .ok (.aload_n 0, 1) := by decide +kernel
theorem dX3_twice_9 : decode cX3_twice 9 = .ok (.getfield 30, 3) := by decide +kernel
theorem dX3_twice_12 : decode cX3_twice 12 = .ok (.aload_n 0, 1) := by decide +kernel
theorem dX3_twice_13 : decode cX3_twice 13 = .ok (.getfield 33, 3) := by decide +kernel
theorem dX3_twice_16 : decode cX3_twice 16 = .ok (.imul, 1) := by decide +kernel
theorem dX3_twice_17 : decode cX3_twice 17 = .ok (.sipush 10007, 3) := by decide +kernel
theorem dX3_twice_20 : decode cX3_twice 20 = .ok (.irem, 1) := by decide +kernel
theorem dX3_twice_21 : decode cX3_twice 21 = .ok (.istore_n 1, 1) := by decide +kernel
theorem dX3_twice_22 : decode cX3_twice 22 = .ok (.aload_n 0, 1) := by decide +kernel
theorem dX3_twice_23 : decode cX3_twice 23 = .ok (.getfield 26, 3) := by decide +kernel
theorem dX3_twice_26 : decode cX3_twice 26 = .ok (.aload_n 0, 1) := by decide +kernel
theorem dX3_twice_27 : decode cX3_twice 27 = .ok (.getfield 36, 3) := by decide +kernel
theorem dX3_twice_30 : decode cX3_twice 30 = .ok (.iadd, 1) := by decide +kernel
theorem dX3_twice_31 : decode cX3_twice 31 = .ok (.sipush 10007, 3) := by decide +kernel
theorem dX3_twice_34 : decode cX3_twice 34 = .ok (.irem, 1) := by decide +kernel
theorem dX3_twice_35 : decode cX3_twice 35 = .ok (.istore_n 2, 1) := by decide +kernel
theorem dX3_twice_36 : decode cX3_twice 36 = .ok (.aload_n 0, 1) := by decide +kernel
theorem dX3_twice_37 : decode cX3_twice 37 = .ok (.aload_n 0, 1) := by decide +kernel
theorem dX3_twice_38 : decode cX3_twice 38 = .ok (.getfield 26, 3) := by decide +kernel
theorem dX3_twice_41 : decode cX3_twice 41 = .ok (.aload_n 0, 1) := by decide +kernel
theorem dX3_twice_42 : decode cX3_twice 42 = .ok (.getfield 26, 3) := by decide +kernel
theorem dX3_twice_45 : decode cX3_twice 45 = .ok (.imul, 1) := by decide +kernel
theorem dX3_twice_46 : decode cX3_twice 46 = .ok (.iload_n 1, 1) := by decide +kernel
theorem dX3_twice_47 : decode cX3_twice 47 = .ok (.iadd, 1) := by decide +kernel
theorem dX3_twice_48 : decode cX3_twice 48 = .ok (.sipush 10007, 3) := by decide +kernel
theorem dX3_twice_51 : decode cX3_twice 51 = .ok (.irem, 1) := by decide +kernel
theorem dX3_twice_52 : decode cX3_twice 52 = .ok (.aload_n 0, 1) := by decide +kernel
theorem dX3_twice_53 : decode cX3_twice 53 = .ok (.getfield 30, 3) := by decide +kernel
theorem dX3_twice_56 : decode cX3_twice 56 = .ok (.iload_n 2, 1) := by decide +kernel
theorem dX3_twice_57 : decode cX3_twice 57 = .ok (.imul, 1) := by decide +kernel
theorem dX3_twice_58 : decode cX3_twice 58 = .ok (.sipush 10007, 3) := by decide +kernel
theorem dX3_twice_61 : decode cX3_twice 61 = .ok (.irem, 1) := by decide +kernel
theorem dX3_twice_62 : decode cX3_twice 62 = .ok (.aload_n 0, 1) := by decide +kernel
theorem dX3_twice_63 : decode cX3_twice 63 = .ok (.getfield 33, 3) := by decide +kernel
theorem dX3_twice_66 : decode cX3_twice 66 = .ok (.iload_n 2, 1) := by decide +kernel
theorem dX3_twice_67 : decode cX3_twice 67 = .ok (.imul, 1) := by decide +kernel
theorem dX3_twice_68 : decode cX3_twice 68 = .ok (.sipush 10007, 3) := by decide +kernel
theorem dX3_twice_71 : decode cX3_twice 71 = .ok (.irem, 1) := by decide +kernel
theorem dX3_twice_72 : decode cX3_twice 72 = .ok (.aload_n 0, 1) := by decide +kernel
theorem dX3_twice_73 : decode cX3_twice 73 = .ok (.getfield 36, 3) := by decide +kernel
theorem dX3_twice_76 : decode cX3_twice 76 = .ok (.aload_n 0, 1) := by decide +kernel
theorem dX3_twice_77 : decode cX3_twice 77 = .ok (.getfield 36, 3) := by decide +kernel
theorem dX3_twice_80 : decode cX3_twice 80 = .ok (.imul, 1) := by decide +kernel
theorem dX3_twice_81 : decode cX3_twice 81 = .ok (.iload_n 1, 1) := by decide +kernel
theorem dX3_twice_82 : decode cX3_twice 82 = .ok (.iadd, 1) := by decide +kernel
theorem dX3_twice_83 : decode cX3_twice 83 = .ok (.sipush 10007, 3) := by decide +kernel
theorem dX3_twice_86 : decode cX3_twice 86 = .ok (.irem, 1) := by decide +kernel
theorem dX3_twice_87 : decode cX3_twice 87 = .ok (.invokevirtual 18, 3) := by decide +kernel
theorem dX3_twice_90 : decode cX3_twice 90 = .ok (.return_, 1) := by decide +kernel
set_option maxRecDepth 20000 in
theorem ggX4_init_X0_init : GoodIn wsX4_init wsX0_init := goodIn_r _ [13, 14, 2, 3] rfl (by decide +kernel)
set_option maxRecDepth 20000 in
theorem gX4_init_X0_init_n9 : GoodIn wsX4_init (wsX0_init) := ggX4_init_X0_init
set_option maxRecDepth 20000 in
theorem ggX4_init_X5_init : GoodIn wsX4_init wsX5_init := goodIn_r _ [16, 17, 2, 3] rfl (by decide +kernel)
set_option maxRecDepth 20000 in
theorem gX4_init_X5_init_n18 : GoodIn wsX4_init (wsX5_init) := ggX4_init_X5_init
theorem dX4_init_0 : decode cX4_init 0 = .ok (.aload_n 0, 1) := by decide +kernel
theorem dX4_init_1 : decode cX4_init 1 = .ok (.invokespecial 1, 3) := by decide +kernel
theorem dX4_init_4 : decode cX4_init 4 = .ok (.aload_n 0, 1) := by decide +kernel
theorem dX4_init_5 : decode cX4_init 5 = .ok (.new 7, 3) := by decide +kernel
theorem dX4_init_8 : decode cX4_init 8 = .ok (.dup, 1) := by decide +kernel
theorem dX4_init_9 : decode cX4_init 9 = .ok (.invokespecial 9, 3) := by decide +kernel
theorem dX4_init_12 : decode cX4_init 12 = .ok (.putfield 10, 3) := by decide +kernel
theorem dX4_init_15 : decode cX4_init 15 = .ok (.aload_n 0, 1) := by decide +kernel
theorem dX4_init_16 : decode cX4_init 16 = .ok (.new 16, 3) := by decide +kernel
theorem dX4_init_19 : decode cX4_init 19 = .ok (.dup, 1) := by decide +kernel
theorem dX4_init_20 : decode cX4_init 20 = .ok (.invokespecial 18, 3) := by decide +kernel
theorem dX4_init_23 : decode cX4_init 23 = .ok (.putfield 19, 3) := by decide +kernel
theorem dX4_init_26 : decode cX4_init 26 = .ok (.return_, 1) := by decide +kernel
set_option maxRecDepth 20000 in
theorem ggX4_copy_X0_copy : GoodIn wsX4_copy wsX0_copy := goodIn_r _ [7, 8, 9, 10, 11, 12, 6, 13, 28, 29] rfl (by decide +kernel)
set_option maxRecDepth 20000 in
theorem gX4_copy_X0_copy : GoodIn wsX4_copy (wsV RX4 23 RX0 yX0_copy wsX0_copy) := goodIn_app (goodIn_of _ (by decide +kernel)) ggX4_copy_X0_copy
set_option maxRecDepth 20000 in
theorem ggX4_copy_X5_copy : GoodIn wsX4_copy wsX5_copy := goodIn_r _ [18, 19, 20, 21, 22, 23, 24, 17, 25, 30, 31, 32] rfl (by decide +kernel)
set_option maxRecDepth 20000 in
theorem gX4_copy_X5_copy : GoodIn wsX4_copy (wsV RX4 27 RX5 yX5_copy wsX5_copy) := goodIn_app (goodIn_of _ (by decide +kernel)) ggX4_copy_X5_copy
theorem dX4_copy_0 : decode cX4_copy 0 = .ok (.aload_n 0, 1) := by decide +kernel
theorem dX4_copy_1 : decode cX4_copy 1 = .ok (.getfield 10, 3) := by decide +kernel
theorem dX4_copy_4 : decode cX4_copy 4 = .ok (.aload_n 1, 1) := by decide +kernel
theorem dX4_copy_5 : decode cX4_copy 5 = .ok (.getfield 10, 3) := by decide +kernel
theorem dX4_copy_8 : decode cX4_copy 8 = .ok (.invokevirtual 23, 3) := by decide +kernel
theorem dX4_copy_11 : decode cX4_copy 11 = .ok (.aload_n 0, 1) := by decide +kernel
theorem dX4_copy_12 : decode cX4_copy 12 = .ok (.getfield 19, 3) := by decide +kernel
theorem dX4_copy_15 : decode cX4_copy 15 = .ok (.aload_n 1, 1) := by decide +kernel
theorem dX4_copy_16 : decode cX4_copy 16 = .ok (.getfield 19, 3) := by decide +kernel
theorem dX4_copy_19 : decode cX4_copy 19 = .ok (.invokevirtual 27, 3) := by decide +kernel
theorem dX4_copy_22 : decode cX4_copy 22 = .ok (.return_, 1) := by decide +kernel
theorem dX4_number_0 : decode cX4_number 0 = .ok (.iload_n 1, 1) := by decide +kernel
theorem dX4_number_1 : decode cX4_number 1 = .ok (.tableswitch 63 0 3 #[31, 39, 47, 55], 31) := by decide +kernel
theorem dX4_number_32 : decode cX4_number 32 = .ok (.aload_n 0, 1) := by decide +kernel
theorem dX4_number_33 : decode cX4_number 33 = .ok (.getfield 10, 3) := by decide +kernel
theorem dX4_number_36 : decode cX4_number 36 = .ok (.getfield 30, 3) := by decide +kernel
theorem dX4_number_39 : decode cX4_number 39 = .ok (.ireturn, 1) := by decide +kernel
theorem dX4_number_40 : decode cX4_number 40 = .ok (.aload_n 0, 1) := by decide +kernel
theorem dX4_number_41 : decode cX4_number 41 = .ok (.getfield 10, 3) := by decide +kernel
theorem dX4_number_44 : decode cX4_number 44 = .ok (.getfield 34, 3) := by decide +kernel
theorem dX4_number_47 : decode cX4_number 47 = .ok (.ireturn, 1) := by decide +kernel
theorem dX4_number_48 : decode cX4_number 48 = .ok (.aload_n 0, 1) := by decide +kernel
theorem dX4_number_49 : decode cX4_number 49 = .ok (.getfield 19, 3) := by decide +kernel
theorem dX4_number_52 : decode cX4_number 52 = .ok (.getfield 37, 3) := by decide +kernel
theorem dX4_number_55 : decode cX4_number 55 = .ok (.ireturn, 1) := by decide +kernel
theorem dX4_number_56 : decode cX4_number 56 = .ok (.aload_n 0, 1) := by decide +kernel
theorem dX4_number_57 : decode cX4_number 57 = .ok (.getfield 19, 3) := by decide +kernel
theorem dX4_number_60 : decode cX4_number 60 = .ok (.getfield 40, 3) := by decide +kernel
theorem dX4_number_63 : decode cX4_number 63 = .ok (.ireturn, 1) := by decide +kernel
theorem dX4_number_64 : decode cX4_number 64 = .ok (.aload_n 0, 1) := by decide +kernel
theorem dX4_number_65 : decode cX4_number 65 = .ok (.getfield 19, 3) := by decide +kernel
theorem dX4_number_68 : decode cX4_number 68 = .ok (.getfield 43, 3) := by decide +kernel
theorem dX4_number_71 : decode cX4_number 71 = .ok (.ireturn, 1) := by decide +kernel
set_option maxRecDepth 20000 in
theorem ggX4_invert_X5_invert : GoodIn wsX4_invert wsX5_invert := goodIn_r _ [7, 8, 9, 10, 11, 12, 13, 6, 14, 15, 16, 17, 18, 19, 20, 21, 22, 23, 24, 25, 26, 27, 48, 49, 50] rfl (by decide +kernel)
set_option maxRecDepth 20000 in
theorem gX4_invert_X5_invert : GoodIn wsX4_invert (wsV RX4 46 RX5 yX5_invert wsX5_invert) := goodIn_app (goodIn_of _ (by decide +kernel)) ggX4_invert_X5_invert
set_option maxRecDepth 20000 in
theorem ggX4_invert_X0_copy : GoodIn wsX4_invert wsX0_copy := goodIn_r _ [32, 33, 34, 35, 36, 37, 31, 38, 51, 52] rfl (by decide +kernel)
set_option maxRecDepth 20000 in
theorem gX4_invert_X0_copy : GoodIn wsX4_invert (wsV RX4 23 RX0 yX0_copy wsX0_copy) := goodIn_app (goodIn_of _ (by decide +kernel)) ggX4_invert_X0_copy
set_option maxRecDepth 20000 in
theorem ggX4_invert_X5_multiply : GoodIn wsX4_invert wsX5_multiply := goodIn_r _ [42, 10, 43, 9, 44, 8, 45, 36, 37, 31, 38, 33, 34, 48, 49, 50, 51, 52] rfl (by decide +kernel)
set_option maxRecDepth 20000 in
theorem gX4_invert_X5_multiply : GoodIn wsX4_invert (wsV RX4 50 RX5 yX5_multiply wsX5_multiply) := goodIn_app (goodIn_of _ (by decide +kernel)) ggX4_invert_X5_multiply
theorem dX4_invert_0 : decode cX4_invert 0 = .ok (.aload_n 0, 1) := by decide +kernel
theorem dX4_invert_1 : decode cX4_invert 1 = .ok (.getfield 19, 3) := by decide +kernel
theorem dX4_invert_4 : decode cX4_invert 4 = .ok (.aload_n 1, 1) := by decide +kernel
theorem dX4_invert_5 : decode cX4_invert 5 = .ok (.getfield 19, 3) := by decide +kernel
theorem dX4_invert_8 : decode cX4_invert 8 = .ok (.invokevirtual 46, 3) := by decide +kernel
theorem dX4_invert_11 : decode cX4_invert 11 = .ok (.ifCond .ne 5, 3) := by decide +kernel
theorem dX4_invert_14 : decode cX4_invert 14 = .ok (.iconst 0, 1) := by decide +kernel
theorem dX4_invert_15 : decode cX4_invert 15 = .ok (.ireturn, 1) := by decide +kernel
theorem dX4_invert_16 : decode cX4_invert 16 = .ok (.aload_n 0, 1) := by decide +kernel
theorem dX4_invert_17 : decode cX4_invert 17 = .ok (.getfield 10, 3) := by decide +kernel
theorem dX4_invert_20 : decode cX4_invert 20 = .ok (.aload_n 1, 1) := by decide +kernel
theorem dX4_invert_21 : decode cX4_invert 21 = .ok (.getfield 10, 3) := by decide +kernel
theorem dX4_invert_24 : decode cX4_invert 24 = .ok (.invokevirtual 23, 3) := by decide +kernel
theorem dX4_invert_27 : decode cX4_invert 27 = .ok (.aload_n 0, 1) := by decide +kernel
theorem dX4_invert_28 : decode cX4_invert 28 = .ok (.getfield 19, 3) := by decide +kernel
theorem dX4_invert_31 : decode cX4_invert 31 = .ok (.aload_n 0, 1) := by decide +kernel
theorem dX4_invert_32 : decode cX4_invert 32 = .ok (.getfield 10, 3) := by decide +kernel
theorem dX4_invert_35 : decode cX4_invert 35 = .ok (.invokevirtual 50, 3) := by decide +kernel
theorem dX4_invert_38 : decode cX4_invert 38 = .ok (.iconst 1, 1) := by decide +kernel
theorem dX4_invert_39 : decode cX4_invert 39 = .ok (.ireturn, 1) := by decide +kernel
theorem dX5_init_0 : decode cX5_init 0 = .ok (.aload_n 0, 1) := by decide +kernel
theorem dX5_init_1 : decode cX5_init 1 = .ok (.invokespecial 3, 3) := by decide +kernel
theorem dX5_init_4 : decode cX5_init 4 = .ok (.return_, 1) := by decide +kernel
theorem dX5_set_0 : decode cX5_set 0 = .ok (.aload_n 0, 1) := by decide +kernel
theorem dX5_set_1 : decode cX5_set 1 = .ok (.iload_n 1, 1) := by decide +kernel
theorem dX5_set_2 : decode cX5_set 2 = .ok (.putfield 9, 3) := by decide +kernel
theorem dX5_set_5 : decode cX5_set 5 = .ok (.aload_n 0, 1) := by decide +kernel
theorem dX5_set_6 : decode cX5_set 6 = .ok (.iload_n 2, 1) := by decide +kernel
theorem dX5_set_7 : decode cX5_set 7 = .ok (.putfield 15, 3) := by decide +kernel
theorem dX5_set_10 : decode cX5_set 10 = .ok (.aload_n 0, 1) := by decide +kernel
theorem dX5_set_11 : decode cX5_set 11 = .ok (.iload_n 3, 1) := by decide +kernel
theorem dX5_set_12 : decode cX5_set 12 = .ok (.putfield 18, 3) := by decide +kernel
theorem dX5_set_15 : decode cX5_set 15 = .ok (.return_, 1) := by decide +kernel
set_option maxRecDepth 20000 in
theorem ggX5_copy_X5_set : GoodIn wsX5_copy wsX5_set := goodIn_r _ [8, 1, 2, 3, 9, 10, 11] rfl (by decide +kernel)
set_option maxRecDepth 20000 in
theorem gX5_copy_X5_set : GoodIn wsX5_copy (wsV RX5 21 RX5 yX5_set wsX5_set) := goodIn_app (goodIn_of _ (by decide +kernel)) ggX5_copy_X5_set
theorem dX5_copy_0 : decode cX5_copy 0 = .ok (.aload_n 0, 1) := by decide +kernel
theorem dX5_copy_1 : decode cX5_copy 1 = .ok (.aload_n 1, 1) := by decide +kernel
theorem dX5_copy_2 : decode cX5_copy 2 = .ok (.getfield 9, 3) := by decide +kernel
theorem dX5_copy_5 : decode cX5_copy 5 = .ok (.aload_n 1, 1) := by decide +kernel
theorem dX5_copy_6 : decode cX5_copy 6 = .ok (.getfield 15, 3) := by decide +kernel
theorem dX5_copy_9 : decode cX5_copy 9 = .ok (.aload_n 1, 1) := by decide +kernel
theorem dX5_copy_10 : decode cX5_copy 10 = .ok (.getfield 18, 3) := by decide +kernel
theorem dX5_copy_13 : decode cX5_copy 13 = .ok (.invokevirtual 21, 3) := by decide +kernel
theorem dX5_copy_16 : decode cX5_copy 16 = .ok (.return_, 1) := by decide +kernel
set_option maxRecDepth 20000 in
theorem ggX5_determinant_X6_less : GoodIn wsX5_determinant wsX6_less := goodIn_r _ [6, 7, 8, 9, 10] rfl (by decide +kernel)
set_option maxRecDepth 20000 in
theorem gX5_determinant_X6_less_n25 : GoodIn wsX5_determinant (wsX6_less) := ggX5_determinant_X6_less
theorem dX5_determinant_0 : decode cX5_determinant 0 = .ok (.aload_n 0, 1) := by decide +kernel
theorem dX5_determinant_1 : decode cX5_determinant 1 = .ok (.getfield 9, 3) := by decide +kernel
theorem dX5_determinant_4 : decode cX5_determinant 4 = .ok (.aload_n 0, 1) := by decide +kernel
theorem dX5_determinant_5 : decode cX5_determinant 5 = .ok (.getfield 18, 3) := by decide +kernel
theorem dX5_determinant_8 : decode cX5_determinant 8 = .ok (.imul, 1) := by decide +kernel
theorem dX5_determinant_9 : decode cX5_determinant 9 = .ok (.aload_n 0, 1) := by decide +kernel
theorem dX5_determinant_10 : decode cX5_determinant 10 = .ok (.getfield 15, 3) := by decide +kernel
theorem dX5_determinant_13 : decode cX5_determinant 13 = .ok (.aload_n 0, 1) := by decide +kernel
theorem dX5_determinant_14 : decode cX5_determinant 14 = .ok (.getfield 15, 3) := by decide +kernel
theorem dX5_determinant_17 : decode cX5_determinant 17 = .ok (.imul, 1) := by decide +kernel
theorem dX5_determinant_18 : decode cX5_determinant 18 = .ok (.invokestatic 25, 3) := by decide +kernel
theorem dX5_determinant_21 : decode cX5_determinant 21 = .ok (.ireturn, 1) := by decide +kernel
set_option maxRecDepth 20000 in
theorem ggX5_invert_X5_determinant : GoodIn wsX5_invert wsX5_determinant := goodIn_r _ [8, 3, 1, 2, 9, 10, 11, 12, 13, 14, 15, 22, 23, 24] rfl (by decide +kernel)
set_option maxRecDepth 20000 in
theorem gX5_invert_X5_determinant : GoodIn wsX5_invert (wsV RX5 29 RX5 yX5_determinant wsX5_determinant) := goodIn_app (goodIn_of _ (by decide +kernel)) ggX5_invert_X5_determinant
set_option maxRecDepth 20000 in
theorem ggX5_invert_X6_inverse : GoodIn wsX5_invert wsX6_inverse := goodIn_r _ [17] rfl (by decide +kernel)
set_option maxRecDepth 20000 in
theorem gX5_invert_X6_inverse_n33 : GoodIn wsX5_invert (wsX6_inverse) := ggX5_invert_X6_inverse
set_option maxRecDepth 20000 in
theorem ggX5_invert_X6_less : GoodIn wsX5_invert wsX6_less := goodIn_r _ [11, 12, 13, 14, 15] rfl (by decide +kernel)
set_option maxRecDepth 20000 in
theorem gX5_invert_X6_less_n25 : GoodIn wsX5_invert (wsX6_less) := ggX5_invert_X6_less
set_option maxRecDepth 20000 in
theorem ggX5_invert_X5_set : GoodIn wsX5_invert wsX5_set := goodIn_r _ [21, 3, 2, 1, 22, 23, 24] rfl (by decide +kernel)
set_option maxRecDepth 20000 in
theorem gX5_invert_X5_set : GoodIn wsX5_invert (wsV RX5 21 RX5 yX5_set wsX5_set) := goodIn_app (goodIn_of _ (by decide +kernel)) ggX5_invert_X5_set
theorem dX5_invert_0 : decode cX5_invert 0 = .ok (.aload_n 1, 1) := by decide +kernel
theorem dX5_invert_1 : decode cX5_invert 1 = .ok (.invokevirtual 29, 3) := by decide +kernel
theorem dX5_invert_4 : decode cX5_invert 4 = .ok (.istore_n 2, 1) := by decide +kernel
theorem dX5_invert_5 : decode cX5_invert 5 = .ok (.iload_n 2, 1) := by decide +kernel
theorem dX5_invert_6 : decode cX5_invert 6 = .ok (.ifCond .ne 5, 3) := by decide +kernel
theorem dX5_invert_9 : decode cX5_invert 9 = .ok (.iconst 0, 1) := by decide +kernel
theorem dX5_invert_10 : decode cX5_invert 10 = .ok (.ireturn, 1) := by decide +kernel
theorem dX5_invert_11 : decode cX5_invert 11 = .ok (.iload_n 2, 1) := by decide +kernel
theorem dX5_invert_12 : decode cX5_invert 12 = .ok (.invokestatic 33, 3) := by decide +kernel
theorem dX5_invert_15 : decode cX5_invert 15 = .ok (.istore_n 3, 1) := by decide +kernel
theorem dX5_invert_16 : decode cX5_invert 16 = .ok (.aload_n 0, 1) := by decide +kernel
theorem dX5_invert_17 : decode cX5_invert 17 = .ok (.aload_n 1, 1) := by decide +kernel
theorem dX5_invert_18 : decode cX5_invert 18 = .ok (.getfield 18, 3) := by decide +kernel
theorem dX5_invert_21 : decode cX5_invert 21 = .ok (.iload_n 3, 1) := by decide +kernel
theorem dX5_invert_22 : decode cX5_invert 22 = .ok (.imul, 1) := by decide +kernel
theorem dX5_invert_23 : decode cX5_invert 23 = .ok (.sipush 10007, 3) := by decide +kernel
theorem dX5_invert_26 : decode cX5_invert 26 = .ok (.irem, 1) := by decide +kernel
theorem dX5_invert_27 : decode cX5_invert 27 = .ok (.iconst 0, 1) := by decide +kernel
theorem dX5_invert_28 : decode cX5_invert 28 = .ok (.aload_n 1, 1) := by decide +kernel
theorem dX5_invert_29 : decode cX5_invert 29 = .ok (.getfield 15, 3) := by decide +kernel
theorem dX5_invert_32 : decode cX5_invert 32 = .ok (.iload_n 3, 1) := by decide +kernel
theorem dX5_invert_33 : decode cX5_invert 33 = .ok (.imul, 1) := by decide +kernel
theorem dX5_invert_34 : decode cX5_invert 34 = .ok (.invokestatic 25, 3) := by decide +kernel
theorem dX5_invert_37 : decode cX5_invert 37 = .ok (.aload_n 1, 1) := by decide +kernel
theorem dX5_invert_38 : decode cX5_invert 38 = .ok (.getfield 9, 3) := by decide +kernel
theorem dX5_invert_41 : decode cX5_invert 41 = .ok (.iload_n 3, 1) := by decide +kernel
theorem dX5_invert_42 : decode cX5_invert 42 = .ok (.imul, 1) := by decide +kernel
theorem dX5_invert_43 : decode cX5_invert 43 = .ok (.sipush 10007, 3) := by decide +kernel
theorem dX5_invert_46 : decode cX5_invert 46 = .ok (.irem, 1) := by decide +kernel
theorem dX5_invert_47 : decode cX5_invert 47 = .ok (.invokevirtual 21, 3) := by decide +kernel
theorem dX5_invert_50 : decode cX5_invert 50 = .ok (.iconst 1, 1) := by decide +kernel
theorem dX5_invert_51 : decode cX5_invert 51 = .ok (.ireturn, 1) := by decide +kernel
set_option maxRecDepth 20000 in
theorem ggX5_multiply_X0_set : GoodIn wsX5_multiply wsX0_set := goodIn_r _ [10, 11, 12, 16, 17] rfl (by decide +kernel)
set_option maxRecDepth 20000 in
theorem gX5_multiply_X0_set : GoodIn wsX5_multiply (wsV RX5 45 RX0 yX0_set wsX0_set) := goodIn_app (goodIn_of _ (by decide +kernel)) ggX5_multiply_X0_set
theorem dX5_multiply_0 : decode cX5_multiply 0 = .ok (.aload_n 1, 1) := by decide +kernel
theorem dX5_multiply_1 : decode cX5_multiply 1 = .ok (.aload_n 0, 1) := by decide +kernel
theorem dX5_multiply_2 : decode cX5_multiply 2 = .ok (.getfield 9, 3) := by decide +kernel
theorem dX5_multiply_5 : decode cX5_multiply 5 = .ok (.aload_n 1, 1) := by decide +kernel
theorem dX5_multiply_6 : decode cX5_multiply 6 = .ok (.getfield 37, 3) := by decide +kernel
theorem dX5_multiply_9 : decode cX5_multiply 9 = .ok (.imul, 1) := by decide +kernel
theorem dX5_multiply_10 : decode cX5_multiply 10 = .ok (.aload_n 0, 1) := by decide +kernel
theorem dX5_multiply_11 : decode cX5_multiply 11 = .ok (.getfield 15, 3) := by decide +kernel
theorem dX5_multiply_14 : decode cX5_multiply 14 = .ok (.aload_n 1, 1) := by decide +kernel
theorem dX5_multiply_15 : decode cX5_multiply 15 = .ok (.getfield 42, 3) := by decide +kernel
theorem dX5_multiply_18 : decode cX5_multiply 18 = .ok (.imul, 1) := by decide +kernel
theorem dX5_multiply_19 : decode cX5_multiply 19 = .ok (.iadd, 1) := by decide +kernel
theorem dX5_multiply_20 : decode cX5_multiply 20 = .ok (.sipush 10007, 3) := by decide +kernel
theorem dX5_multiply_23 : decode cX5_multiply 23 = .ok (.irem, 1) := by decide +kernel
theorem dX5_multiply_24 : decode cX5_multiply 24 = .ok (.aload_n 0, 1) := by decide +kernel
theorem dX5_multiply_25 : decode cX5_multiply 25 = .ok (.getfield 15, 3) := by decide +kernel
theorem dX5_multiply_28 : decode cX5_multiply 28 = .ok (.aload_n 1, 1) := by decide +kernel
theorem dX5_multiply_29 : decode cX5_multiply 29 = .ok (.getfield 37, 3) := by decide +kernel
theorem dX5_multiply_32 : decode cX5_multiply 32 = .ok (.imul, 1) := by decide +kernel
theorem dX5_multiply_33 : decode cX5_multiply 33 = .ok (.aload_n 0, 1) := by decide +kernel
theorem dX5_multiply_34 : decode cX5_multiply 34 = .ok (.getfield 18, 3) := by decide +kernel
theorem dX5_multiply_37 : decode cX5_multiply 37 = .ok (.aload_n 1, 1) := by decide +kernel
theorem dX5_multiply_38 : decode cX5_multiply 38 = .ok (.getfield 42, 3) := by decide +kernel
theorem dX5_multiply_41 : decode cX5_multiply 41 = .ok (.imul, 1) := by decide +kernel
theorem dX5_multiply_42 : decode cX5_multiply 42 = .ok (.iadd, 1) := by decide +kernel
theorem dX5_multiply_43 : decode cX5_multiply 43 = .ok (.sipush 10007, 3) := by decide +kernel
theorem dX5_multiply_46 : decode cX5_multiply 46 = .ok (.irem, 1) := by decide +kernel
theorem dX5_multiply_47 : decode cX5_multiply 47 = .ok (.invokevirtual 45, 3) := by decide +kernel
theorem dX5_multiply_50 : decode cX5_multiply 50 = .ok (.return_, 1) := by decide +kernel
set_option maxRecDepth 20000 in
theorem ggX5_addSquare_X5_set : GoodIn wsX5_addSquare wsX5_set := goodIn_r _ [10, 3, 4, 5, 13, 14, 15] rfl (by decide +kernel)
set_option maxRecDepth 20000 in
theorem gX5_addSquare_X5_set : GoodIn wsX5_addSquare (wsV RX5 21 RX5 yX5_set wsX5_set) := goodIn_app (goodIn_of _ (by decide +kernel)) ggX5_addSquare_X5_set
theorem dX5_addSquare_0 : decode cX5_addSquare 0 = .ok (.aload_n 1, 1) := by decide +kernel
theorem dX5_addSquare_1 : decode cX5_addSquare 1 = .ok (.getfield 37, 3) := by decide +kernel
theorem dX5_addSquare_4 : decode cX5_addSquare 4 = .ok (.iload_n 2, 1) := by decide +kernel
theorem dX5_addSquare_5 : decode cX5_addSquare 5 = .ok (.imul, 1) := by decide +kernel
theorem dX5_addSquare_6 : decode cX5_addSquare 6 = .ok (.sipush 10007, 3) := by decide +kernel
theorem dX5_addSquare_9 : decode cX5_addSquare 9 = .ok (.irem, 1) := by decide +kernel
theorem dX5_addSquare_10 : decode cX5_addSquare 10 = .ok (.istore_n 3, 1) := by decide +kernel
theorem dX5_addSquare_11 : decode cX5_addSquare 11 = .ok (.aload_n 1, 1) := by decide +kernel
theorem dX5_addSquare_12 : decode cX5_addSquare 12 = .ok (.getfield 42, 3) := by decide +kernel
theorem dX5_addSquare_15 : decode cX5_addSquare 15 = .ok (.iload_n 2, 1) := by decide +kernel
theorem dX5_addSquare_16 : decode cX5_addSquare 16 = .ok (.imul, 1) := by decide +kernel
theorem dX5_addSquare_17 : decode cX5_addSquare 17 = .ok (.sipush 10007, 3) := by decide +kernel
theorem dX5_addSquare_20 : decode cX5_addSquare 20 = .ok (.irem, 1) := by decide +kernel
theorem dX5_addSquare_21 : decode cX5_addSquare 21 = .ok (.istore 4, 2) := by decide +kernel
theorem dX5_addSquare_23 : decode cX5_addSquare 23 = .ok (.aload_n 0, 1) := by decide +kernel
theorem dX5_addSquare_24 : decode cX5_addSquare 24 = .ok (.aload_n 0, 1) := by decide +kernel
theorem dX5_addSquare_25 : decode cX5_addSquare 25 = .ok (.getfield 9, 3) := by decide +kernel
theorem dX5_addSquare_28 : decode cX5_addSquare 28 = .ok (.iload_n 3, 1) := by decide +kernel
theorem dX5_addSquare_29 : decode cX5_addSquare 29 = .ok (.aload_n 1, 1) := by decide +kernel
theorem dX5_addSquare_30 : decode cX5_addSquare 30 = .ok (.getfield 37, 3) := by decide +kernel
theorem dX5_addSquare_33 : decode cX5_addSquare 33 = .ok (.imul, 1) := by decide +kernel
theorem dX5_addSquare_34 : decode cX5_addSquare 34 = .ok (.iadd, 1) := by decide +kernel
theorem dX5_addSquare_35 : decode cX5_addSquare 35 = .ok (.sipush 10007, 3) := by decide +kernel
theorem dX5_addSquare_38 : decode cX5_addSquare 38 = .ok (.irem, 1) := by decide +kernel
theorem dX5_addSquare_39 : decode cX5_addSquare 39 = .ok (.aload_n 0, 1) := by decide +kernel
theorem dX5_addSquare_40 : decode cX5_addSquare 40 = .ok (.getfield 15, 3) := by decide +kernel
theorem dX5_addSquare_43 : decode cX5_addSquare 43 = .ok (.iload_n 3, 1) := by decide +kernel
theorem dX5_addSquare_44 : decode cX5_addSquare 44 = .ok (.aload_n 1, 1) := by decide +kernel
theorem dX5_addSquare_45 : decode cX5_addSquare 45 = .ok (.getfield 42, 3) := by decide +kernel
theorem dX5_addSquare_48 : decode cX5_addSquare 48 = .ok (.imul, 1) := by decide +kernel
theorem dX5_addSquare_49 : decode cX5_addSquare 49 = .ok (.iadd, 1) := by decide +kernel
theorem dX5_addSquare_50 : decode cX5_addSquare 50 = .ok (.sipush 10007, 3) := by decide +kernel
theorem dX5_addSquare_53 : decode cX5_addSquare 53 = .ok (.irem, 1) := by decide +kernel
theorem dX5_addSquare_54 : decode cX5_addSquare 54 = .ok (.aload_n 0, 1) := by decide +kernel
theorem dX5_addSquare_55 : decode cX5_addSquare 55 = .ok (.getfield 18, 3) := by decide +kernel
theorem dX5_addSquare_58 : decode cX5_addSquare 58 = .ok (.iload 4, 2) := by decide +kernel
theorem dX5_addSquare_60 : decode cX5_addSquare 60 = .ok (.aload_n 1, 1) := by decide +kernel
theorem dX5_addSquare_61 : decode cX5_addSquare 61 = .ok (.getfield 42, 3) := by decide +kernel
theorem dX5_addSquare_64 : decode cX5_addSquare 64 = .ok (.imul, 1) := by decide +kernel
theorem dX5_addSquare_65 : decode cX5_addSquare 65 = .ok (.iadd, 1) := by decide +kernel
theorem dX5_addSquare_66 : decode cX5_addSquare 66 = .ok (.sipush 10007, 3) := by decide +kernel
theorem dX5_addSquare_69 : decode cX5_addSquare 69 = .ok (.irem, 1) := by decide +kernel
theorem dX5_addSquare_70 : decode cX5_addSquare 70 = .ok (.invokevirtual 21, 3) := by decide +kernel
theorem dX5_addSquare_73 : decode cX5_addSquare 73 = .ok (.return_, 1) := by decide +kernel
theorem dX6_init_0 : decode cX6_init 0 = .ok (.aload_n 0, 1) := by decide +kernel
theorem dX6_init_1 : decode cX6_init 1 = .ok (.invokespecial 3, 3) := by decide +kernel
theorem dX6_init_4 : decode cX6_init 4 = .ok (.aload_n 0, 1) := by decide +kernel
theorem dX6_init_5 : decode cX6_init 5 = .ok (.bipush 6, 2) := by decide +kernel
theorem dX6_init_7 : decode cX6_init 7 = .ok (.bipush 7, 2) := by decide +kernel
theorem dX6_init_9 : decode cX6_init 9 = .ok (.multianewarray 9 2, 4) := by decide +kernel
theorem dX6_init_13 : decode cX6_init 13 = .ok (.putfield 11, 3) := by decide +kernel
theorem dX6_init_16 : decode cX6_init 16 = .ok (.aload_n 0, 1) := by decide +kernel
theorem dX6_init_17 : decode cX6_init 17 = .ok (.bipush 6, 2) := by decide +kernel
theorem dX6_init_19 : decode cX6_init 19 = .ok (.anewarray 14, 3) := by decide +kernel
theorem dX6_init_22 : decode cX6_init 22 = .ok (.putfield 16, 3) := by decide +kernel
theorem dX6_init_25 : decode cX6_init 25 = .ok (.return_, 1) := by decide +kernel
theorem dX6_model_0 : decode cX6_model 0 = .ok (.aload_n 0, 1) := by decide +kernel
theorem dX6_model_1 : decode cX6_model 1 = .ok (.getfield 20, 3) := by decide +kernel
theorem dX6_model_4 : decode cX6_model 4 = .ok (.bipush 6, 2) := by decide +kernel
theorem dX6_model_6 : decode cX6_model 6 = .ok (.if_icmp .lt 13, 3) := by decide +kernel
theorem dX6_model_9 : decode cX6_model 9 = .ok (.new 24, 3) := by decide +kernel
theorem dX6_model_12 : decode cX6_model 12 = .ok (.dup, 1) := by decide +kernel
theorem dX6_model_13 : decode cX6_model 13 = .ok (.ldc 26, 2) := by decide +kernel
theorem dX6_model_15 : decode cX6_model 15 = .ok (.invokespecial 28, 3) := by decide +kernel
theorem dX6_model_18 : decode cX6_model 18 = .ok (.athrow, 1) := by decide +kernel
theorem dX6_model_19 : decode cX6_model 19 = .ok (.aload_n 0, 1) := by decide +kernel
theorem dX6_model_20 : decode cX6_model 20 = .ok (.getfield 11, 3) := by decide +kernel
theorem dX6_model_23 : decode cX6_model 23 = .ok (.aload_n 0, 1) := by decide +kernel
theorem dX6_model_24 : decode cX6_model 24 = .ok (.getfield 20, 3) := by decide +kernel
theorem dX6_model_27 : decode cX6_model 27 = .ok (.aaload, 1) := by decide +kernel
theorem dX6_model_28 : decode cX6_model 28 = .ok (.iconst 0, 1) := by decide +kernel
theorem dX6_model_29 : decode cX6_model 29 = .ok (.iconst 1, 1) := by decide +kernel
theorem dX6_model_30 : decode cX6_model 30 = .ok (.iastore, 1) := by decide +kernel
theorem dX6_model_31 : decode cX6_model 31 = .ok (.aload_n 0, 1) := by decide +kernel
theorem dX6_model_32 : decode cX6_model 32 = .ok (.getfield 11, 3) := by decide +kernel
theorem dX6_model_35 : decode cX6_model 35 = .ok (.aload_n 0, 1) := by decide +kernel
theorem dX6_model_36 : decode cX6_model 36 = .ok (.getfield 20, 3) := by decide +kernel
theorem dX6_model_39 : decode cX6_model 39 = .ok (.aaload, 1) := by decide +kernel
theorem dX6_model_40 : decode cX6_model 40 = .ok (.iconst 3, 1) := by decide +kernel
theorem dX6_model_41 : decode cX6_model 41 = .ok (.iconst 1, 1) := by decide +kernel
theorem dX6_model_42 : decode cX6_model 42 = .ok (.iastore, 1) := by decide +kernel
theorem dX6_model_43 : decode cX6_model 43 = .ok (.aload_n 0, 1) := by decide +kernel
theorem dX6_model_44 : decode cX6_model 44 = .ok (.dup, 1) := by decide +kernel
theorem dX6_model_45 : decode cX6_model 45 = .ok (.getfield 20, 3) := by decide +kernel
theorem dX6_model_48 : decode cX6_model 48 = .ok (.iconst 1, 1) := by decide +kernel
theorem dX6_model_49 : decode cX6_model 49 = .ok (.iadd, 1) := by decide +kernel
theorem dX6_model_50 : decode cX6_model 50 = .ok (.putfield 20, 3) := by decide +kernel
theorem dX6_model_53 : decode cX6_model 53 = .ok (.aload_n 0, 1) := by decide +kernel
theorem dX6_model_54 : decode cX6_model 54 = .ok (.getfield 20, 3) := by decide +kernel
theorem dX6_model_57 : decode cX6_model 57 = .ok (.iconst 1, 1) := by decide +kernel
theorem dX6_model_58 : decode cX6_model 58 = .ok (.isub, 1) := by decide +kernel
theorem dX6_model_59 : decode cX6_model 59 = .ok (.ireturn, 1) := by decide +kernel
set_option maxRecDepth 20000 in
theorem ggX6_entry_X6_modelNumbered : GoodIn wsX6_entry wsX6_modelNumbered := goodIn_ca (goodIn_r _ [5, 6, 7, 8, 9, 18, 19, 20, 21] (by decide +kernel) (by decide +kernel)) (goodIn_sub (fun _ h => List.mem_cons_of_mem _ (List.mem_append_left _ (List.mem_append_right _ h))) (by decide +kernel))
set_option maxRecDepth 20000 in
theorem gX6_entry_X6_modelNumbered : GoodIn wsX6_entry (wsV RX6 31 RX6 yX6_modelNumbered wsX6_modelNumbered) := goodIn_app (goodIn_of _ (by decide +kernel)) ggX6_entry_X6_modelNumbered
set_option maxRecDepth 20000 in
theorem ggX6_entry_X6_checkRange : GoodIn wsX6_entry wsX6_checkRange := goodIn_ca (goodIn_r _ [12, 13, 14] (by decide +kernel) (by decide +kernel)) (goodIn_sub (fun _ h => List.mem_cons_of_mem _ (List.mem_append_right _ h)) (by decide +kernel))
set_option maxRecDepth 20000 in
theorem gX6_entry_X6_checkRange : GoodIn wsX6_entry (va_wsS RX6 35 yX6_checkRange wsX6_checkRange) := goodIn_app (goodIn_of _ (by decide +kernel)) ggX6_entry_X6_checkRange
set_option maxRecDepth 20000 in
theorem ggX6_entry_X6_checkField : GoodIn wsX6_entry wsX6_checkField := goodIn_ca (goodIn_r _ [17, 10, 11, 4, 12, 13, 14] (by decide +kernel) (by decide +kernel)) (goodIn_sub (fun _ h => List.mem_cons_of_mem _ (List.mem_append_right _ h)) (by decide +kernel))
set_option maxRecDepth 20000 in
theorem gX6_entry_X6_checkField : GoodIn wsX6_entry (va_wsS RX6 39 yX6_checkField wsX6_checkField) := goodIn_app (goodIn_of _ (by decide +kernel)) ggX6_entry_X6_checkField
theorem dX6_entry_0 : decode cX6_entry 0 = .ok (.aload_n 0, 1) := by decide +kernel
theorem dX6_entry_1 : decode cX6_entry 1 = .ok (.iload_n 1, 1) := by decide +kernel
theorem dX6_entry_2 : decode cX6_entry 2 = .ok (.invokevirtual 31, 3) := by decide +kernel
theorem dX6_entry_5 : decode cX6_entry 5 = .ok (.astore 4, 2) := by decide +kernel
theorem dX6_entry_7 : decode cX6_entry 7 = .ok (.iload_n 2, 1) := by decide +kernel
theorem dX6_entry_8 : decode cX6_entry 8 = .ok (.bipush 6, 2) := by decide +kernel
theorem dX6_entry_10 : decode cX6_entry 10 = .ok (.invokestatic 35, 3) := by decide +kernel
theorem dX6_entry_13 : decode cX6_entry 13 = .ok (.iload_n 3, 1) := by decide +kernel
theorem dX6_entry_14 : decode cX6_entry 14 = .ok (.invokestatic 39, 3) := by decide +kernel
theorem dX6_entry_17 : decode cX6_entry 17 = .ok (.aload 4, 2) := by decide +kernel
theorem dX6_entry_19 : decode cX6_entry 19 = .ok (.iload_n 2, 1) := by decide +kernel
theorem dX6_entry_20 : decode cX6_entry 20 = .ok (.iaload, 1) := by decide +kernel
theorem dX6_entry_21 : decode cX6_entry 21 = .ok (.istore 5, 2) := by decide +kernel
theorem dX6_entry_23 : decode cX6_entry 23 = .ok (.aload 4, 2) := by decide +kernel
theorem dX6_entry_25 : decode cX6_entry 25 = .ok (.iload_n 2, 1) := by decide +kernel
theorem dX6_entry_26 : decode cX6_entry 26 = .ok (.iload_n 3, 1) := by decide +kernel
theorem dX6_entry_27 : decode cX6_entry 27 = .ok (.iastore, 1) := by decide +kernel
theorem dX6_entry_28 : decode cX6_entry 28 = .ok (.iload 5, 2) := by decide +kernel
theorem dX6_entry_30 : decode cX6_entry 30 = .ok (.ireturn, 1) := by decide +kernel
set_option maxRecDepth 20000 in
theorem ggX6_begin_X6_modelNumbered : GoodIn wsX6_begin wsX6_modelNumbered := goodIn_ca (goodIn_r _ [12, 13, 14, 15, 16, 194, 195, 196, 197] (by decide +kernel) (by decide +kernel)) (goodIn_sub (fun _ h => List.mem_cons_of_mem _ (List.mem_append_left _ (List.mem_append_right _ h))) (by decide +kernel))
set_option maxRecDepth 20000 in
theorem gX6_begin_X6_modelNumbered : GoodIn wsX6_begin (wsV RX6 31 RX6 yX6_modelNumbered wsX6_modelNumbered) := goodIn_app (goodIn_of _ (by decide +kernel)) ggX6_begin_X6_modelNumbered
set_option maxRecDepth 20000 in
theorem ggX6_begin_X6_checkField : GoodIn wsX6_begin wsX6_checkField := goodIn_ca (goodIn_r _ [19, 20, 21, 11, 22, 23, 24] (by decide +kernel) (by decide +kernel)) (goodIn_sub (fun _ h => List.mem_cons_of_mem _ (List.mem_append_right _ h)) (by decide +kernel))
set_option maxRecDepth 20000 in
theorem gX6_begin_X6_checkField : GoodIn wsX6_begin (va_wsS RX6 39 yX6_checkField wsX6_checkField) := goodIn_app (goodIn_of _ (by decide +kernel)) ggX6_begin_X6_checkField
set_option maxRecDepth 20000 in
theorem ggX6_begin_X1_init : GoodIn wsX6_begin wsX1_init := goodIn_r _ [27, 28, 29, 30, 31, 32, 33, 34, 35, 36, 37, 38, 39, 40, 41, 42, 43, 44, 45, 46, 47, 48, 49, 50, 51, 52, 53, 54, 55, 56, 57, 58, 59, 60, 61, 62, 63, 64, 65, 66, 67, 68, 69, 70, 71, 72, 73, 74, 75, 76, 77, 78, 79, 80, 81, 82, 83, 84, 85, 86, 87, 88, 89, 90, 91, 205, 206, 207, 208, 209, 198, 199, 200, 201, 202, 203, 204, 210, 211, 212, 213, 214, 215, 216, 217, 218, 219, 220, 221, 222, 223, 224, 225, 226, 227] rfl (by decide +kernel)
set_option maxRecDepth 20000 in
theorem gX6_begin_X1_init : GoodIn wsX6_begin (wsX1_init) := ggX6_begin_X1_init
set_option maxRecDepth 20000 in
theorem ggX6_begin_X1_startFrom : GoodIn wsX6_begin wsX1_startFrom := goodIn_r _ [95, 39, 96, 97, 98, 99, 100, 79, 101, 102, 103, 104, 68, 69, 50, 70, 71, 72, 73, 105, 106, 107, 6, 108, 109, 40, 34, 110, 36, 111, 112, 113, 44, 114, 89, 91, 115, 116, 117, 118, 119, 120, 121, 122, 123, 124, 125, 126, 127, 33, 128, 129, 63, 130, 64, 131, 65, 66, 132, 133, 134, 135, 136, 137, 138, 139, 140, 51, 67, 141, 142, 143, 42, 144, 145, 146, 147, 148, 149, 150, 151, 152, 153, 80, 154, 155, 156, 157, 158, 159, 160, 161, 162, 163, 164, 81, 165, 166, 167, 168, 169, 170, 171, 172, 173, 174, 11, 175, 176, 177, 178, 179, 180, 181, 182, 183, 184, 185, 186, 187, 188, 189, 190, 191, 192, 193, 198, 199, 200, 201, 202, 203, 204, 221, 222, 226, 227, 223, 224, 225, 205, 206, 207, 208, 209, 210, 211, 212, 213, 214, 215, 216, 217, 218, 219, 220] rfl (by decide +kernel)
set_option maxRecDepth 20000 in
theorem gX6_begin_X1_startFrom : GoodIn wsX6_begin (wsV RX6 51 RX1 yX1_startFrom wsX1_startFrom) := goodIn_app (goodIn_of _ (by decide +kernel)) ggX6_begin_X1_startFrom
theorem dX6_begin_0 : decode cX6_begin 0 = .ok (.aload_n 0, 1) := by decide +kernel
theorem dX6_begin_1 : decode cX6_begin 1 = .ok (.iload_n 1, 1) := by decide +kernel
theorem dX6_begin_2 : decode cX6_begin 2 = .ok (.invokevirtual 31, 3) := by decide +kernel
theorem dX6_begin_5 : decode cX6_begin 5 = .ok (.astore 7, 2) := by decide +kernel
theorem dX6_begin_7 : decode cX6_begin 7 = .ok (.iload_n 2, 1) := by decide +kernel
theorem dX6_begin_8 : decode cX6_begin 8 = .ok (.invokestatic 39, 3) := by decide +kernel
theorem dX6_begin_11 : decode cX6_begin 11 = .ok (.iload_n 3, 1) := by decide +kernel
theorem dX6_begin_12 : decode cX6_begin 12 = .ok (.invokestatic 39, 3) := by decide +kernel
theorem dX6_begin_15 : decode cX6_begin 15 = .ok (.iload 4, 2) := by decide +kernel
theorem dX6_begin_17 : decode cX6_begin 17 = .ok (.invokestatic 39, 3) := by decide +kernel
theorem dX6_begin_20 : decode cX6_begin 20 = .ok (.iload 5, 2) := by decide +kernel
theorem dX6_begin_22 : decode cX6_begin 22 = .ok (.invokestatic 39, 3) := by decide +kernel
theorem dX6_begin_25 : decode cX6_begin 25 = .ok (.iload 6, 2) := by decide +kernel
theorem dX6_begin_27 : decode cX6_begin 27 = .ok (.invokestatic 39, 3) := by decide +kernel
theorem dX6_begin_30 : decode cX6_begin 30 = .ok (.aload_n 0, 1) := by decide +kernel
theorem dX6_begin_31 : decode cX6_begin 31 = .ok (.getfield 43, 3) := by decide +kernel
theorem dX6_begin_34 : decode cX6_begin 34 = .ok (.bipush 6, 2) := by decide +kernel
theorem dX6_begin_36 : decode cX6_begin 36 = .ok (.if_icmp .lt 13, 3) := by decide +kernel
theorem dX6_begin_39 : decode cX6_begin 39 = .ok (.new 24, 3) := by decide +kernel
theorem dX6_begin_42 : decode cX6_begin 42 = .ok (.dup, 1) := by decide +kernel
theorem dX6_begin_43 : decode cX6_begin 43 = .ok (.ldc 46, 2) := by decide +kernel
theorem dX6_begin_45 : decode cX6_begin 45 = .ok (.invokespecial 28, 3) := by decide +kernel
theorem dX6_begin_48 : decode cX6_begin 48 = .ok (.athrow, 1) := by decide +kernel
theorem dX6_begin_49 : decode cX6_begin 49 = .ok (.new 14, 3) := by decide +kernel
theorem dX6_begin_52 : decode cX6_begin 52 = .ok (.dup, 1) := by decide +kernel
theorem dX6_begin_53 : decode cX6_begin 53 = .ok (.aload 7, 2) := by decide +kernel
theorem dX6_begin_55 : decode cX6_begin 55 = .ok (.invokespecial 48, 3) := by decide +kernel
theorem dX6_begin_58 : decode cX6_begin 58 = .ok (.astore 8, 2) := by decide +kernel
theorem dX6_begin_60 : decode cX6_begin 60 = .ok (.aload 8, 2) := by decide +kernel
theorem dX6_begin_62 : decode cX6_begin 62 = .ok (.iload_n 2, 1) := by decide +kernel
theorem dX6_begin_63 : decode cX6_begin 63 = .ok (.iload_n 3, 1) := by decide +kernel
theorem dX6_begin_64 : decode cX6_begin 64 = .ok (.iload 4, 2) := by decide +kernel
theorem dX6_begin_66 : decode cX6_begin 66 = .ok (.iload 5, 2) := by decide +kernel
theorem dX6_begin_68 : decode cX6_begin 68 = .ok (.iload 6, 2) := by decide +kernel
theorem dX6_begin_70 : decode cX6_begin 70 = .ok (.invokevirtual 51, 3) := by decide +kernel
theorem dX6_begin_73 : decode cX6_begin 73 = .ok (.aload_n 0, 1) := by decide +kernel
theorem dX6_begin_74 : decode cX6_begin 74 = .ok (.getfield 16, 3) := by decide +kernel
theorem dX6_begin_77 : decode cX6_begin 77 = .ok (.aload_n 0, 1) := by decide +kernel
theorem dX6_begin_78 : decode cX6_begin 78 = .ok (.getfield 43, 3) := by decide +kernel
theorem dX6_begin_81 : decode cX6_begin 81 = .ok (.aload 8, 2) := by decide +kernel
theorem dX6_begin_83 : decode cX6_begin 83 = .ok (.aastore, 1) := by decide +kernel
theorem dX6_begin_84 : decode cX6_begin 84 = .ok (.aload_n 0, 1) := by decide +kernel
theorem dX6_begin_85 : decode cX6_begin 85 = .ok (.dup, 1) := by decide +kernel
theorem dX6_begin_86 : decode cX6_begin 86 = .ok (.getfield 43, 3) := by decide +kernel
theorem dX6_begin_89 : decode cX6_begin 89 = .ok (.iconst 1, 1) := by decide +kernel
theorem dX6_begin_90 : decode cX6_begin 90 = .ok (.iadd, 1) := by decide +kernel
theorem dX6_begin_91 : decode cX6_begin 91 = .ok (.putfield 43, 3) := by decide +kernel
theorem dX6_begin_94 : decode cX6_begin 94 = .ok (.aload_n 0, 1) := by decide +kernel
theorem dX6_begin_95 : decode cX6_begin 95 = .ok (.getfield 43, 3) := by decide +kernel
theorem dX6_begin_98 : decode cX6_begin 98 = .ok (.iconst 1, 1) := by decide +kernel
theorem dX6_begin_99 : decode cX6_begin 99 = .ok (.isub, 1) := by decide +kernel
theorem dX6_begin_100 : decode cX6_begin 100 = .ok (.ireturn, 1) := by decide +kernel
set_option maxRecDepth 20000 in
theorem ggX6_gate_X6_estimatorNumbered : GoodIn wsX6_gate wsX6_estimatorNumbered := goodIn_ca (goodIn_r _ [6, 7, 8, 9, 10, 26, 27, 28, 29] (by decide +kernel) (by decide +kernel)) (goodIn_sub (fun _ h => List.mem_cons_of_mem _ (List.mem_append_left _ (List.mem_append_right _ h))) (by decide +kernel))
set_option maxRecDepth 20000 in
theorem gX6_gate_X6_estimatorNumbered : GoodIn wsX6_gate (wsV RX6 55 RX6 yX6_estimatorNumbered wsX6_estimatorNumbered) := goodIn_app (goodIn_of _ (by decide +kernel)) ggX6_gate_X6_estimatorNumbered
set_option maxRecDepth 20000 in
theorem ggX6_gate_X6_checkField : GoodIn wsX6_gate wsX6_checkField := goodIn_ca (goodIn_r _ [13, 14, 15, 5, 16, 17, 18] (by decide +kernel) (by decide +kernel)) (goodIn_sub (fun _ h => List.mem_cons_of_mem _ (List.mem_append_right _ h)) (by decide +kernel))
set_option maxRecDepth 20000 in
theorem gX6_gate_X6_checkField : GoodIn wsX6_gate (va_wsS RX6 39 yX6_checkField wsX6_checkField) := goodIn_app (goodIn_of _ (by decide +kernel)) ggX6_gate_X6_checkField
theorem dX6_gate_0 : decode cX6_gate 0 = .ok (.aload_n 0, 1) := by decide +kernel
theorem dX6_gate_1 : decode cX6_gate 1 = .ok (.iload_n 1, 1) := by decide +kernel
theorem dX6_gate_2 : decode cX6_gate 2 = .ok (.invokevirtual 55, 3) := by decide +kernel
theorem dX6_gate_5 : decode cX6_gate 5 = .ok (.astore_n 3, 1) := by decide +kernel
theorem dX6_gate_6 : decode cX6_gate 6 = .ok (.iload_n 2, 1) := by decide +kernel
theorem dX6_gate_7 : decode cX6_gate 7 = .ok (.invokestatic 39, 3) := by decide +kernel
theorem dX6_gate_10 : decode cX6_gate 10 = .ok (.aload_n 3, 1) := by decide +kernel
theorem dX6_gate_11 : decode cX6_gate 11 = .ok (.getfield 59, 3) := by decide +kernel
theorem dX6_gate_14 : decode cX6_gate 14 = .ok (.istore 4, 2) := by decide +kernel
theorem dX6_gate_16 : decode cX6_gate 16 = .ok (.aload_n 3, 1) := by decide +kernel
theorem dX6_gate_17 : decode cX6_gate 17 = .ok (.iload_n 2, 1) := by decide +kernel
theorem dX6_gate_18 : decode cX6_gate 18 = .ok (.putfield 59, 3) := by decide +kernel
theorem dX6_gate_21 : decode cX6_gate 21 = .ok (.iload 4, 2) := by decide +kernel
theorem dX6_gate_23 : decode cX6_gate 23 = .ok (.ireturn, 1) := by decide +kernel
set_option maxRecDepth 20000 in
theorem ggX6_predict_X6_estimatorNumbered : GoodIn wsX6_predict wsX6_estimatorNumbered := goodIn_ca (goodIn_r _ [8, 9, 10, 11, 12, 140, 141, 142, 143] (by decide +kernel) (by decide +kernel)) (goodIn_sub (fun _ h => List.mem_cons_of_mem _ (List.mem_append_right _ h)) (by decide +kernel))
set_option maxRecDepth 20000 in
theorem gX6_predict_X6_estimatorNumbered : GoodIn wsX6_predict (wsV RX6 55 RX6 yX6_estimatorNumbered wsX6_estimatorNumbered) := goodIn_app (goodIn_of _ (by decide +kernel)) ggX6_predict_X6_estimatorNumbered
set_option maxRecDepth 20000 in
theorem ggX6_predict_X1_settle : GoodIn wsX6_predict wsX1_settle := goodIn_r _ [17, 18, 19, 20, 21, 22, 23, 24, 25, 26, 27, 28, 29, 30, 31, 32, 33, 34, 35, 36, 37, 38, 39, 40, 41, 42, 43, 44, 45, 46, 47, 48, 49, 50, 51, 52, 53, 54, 55, 56, 57, 58, 59, 60, 61, 62, 63, 64, 65, 66, 67, 68, 69, 70, 71, 72, 73, 74, 75, 76, 77, 78, 79, 80, 81, 82, 83, 84, 85, 86, 87, 88, 89, 90, 91, 92, 93, 94, 95, 96, 97, 98, 99, 100, 101, 102, 103, 104, 105, 106, 107, 108, 109, 110, 111, 112, 113, 7, 114, 115, 116, 117, 118, 119, 120, 121, 122, 123, 124, 125, 126, 127, 128, 129, 130, 131, 132, 133, 134, 135, 136, 137, 138, 139, 144, 145, 146, 147, 148, 149, 150, 151, 152, 153, 154, 155, 156, 157, 158, 159, 160, 161, 162, 163, 164, 165, 166] rfl (by decide +kernel)
set_option maxRecDepth 20000 in
theorem gX6_predict_X1_settle : GoodIn wsX6_predict (wsV RX6 67 RX1 yX1_settle wsX1_settle) := goodIn_app (goodIn_of _ (by decide +kernel)) ggX6_predict_X1_settle
theorem dX6_predict_0 : decode cX6_predict 0 = .ok (.aload_n 0, 1) := by decide +kernel
theorem dX6_predict_1 : decode cX6_predict 1 = .ok (.iload_n 1, 1) := by decide +kernel
theorem dX6_predict_2 : decode cX6_predict 2 = .ok (.invokevirtual 55, 3) := by decide +kernel
theorem dX6_predict_5 : decode cX6_predict 5 = .ok (.astore_n 2, 1) := by decide +kernel
theorem dX6_predict_6 : decode cX6_predict 6 = .ok (.aload_n 2, 1) := by decide +kernel
theorem dX6_predict_7 : decode cX6_predict 7 = .ok (.getfield 62, 3) := by decide +kernel
theorem dX6_predict_10 : decode cX6_predict 10 = .ok (.bipush 20, 2) := by decide +kernel
theorem dX6_predict_12 : decode cX6_predict 12 = .ok (.if_icmp .lt 13, 3) := by decide +kernel
theorem dX6_predict_15 : decode cX6_predict 15 = .ok (.new 24, 3) := by decide +kernel
theorem dX6_predict_18 : decode cX6_predict 18 = .ok (.dup, 1) := by decide +kernel
theorem dX6_predict_19 : decode cX6_predict 19 = .ok (.ldc 65, 2) := by decide +kernel
theorem dX6_predict_21 : decode cX6_predict 21 = .ok (.invokespecial 28, 3) := by decide +kernel
theorem dX6_predict_24 : decode cX6_predict 24 = .ok (.athrow, 1) := by decide +kernel
theorem dX6_predict_25 : decode cX6_predict 25 = .ok (.aload_n 2, 1) := by decide +kernel
theorem dX6_predict_26 : decode cX6_predict 26 = .ok (.dup, 1) := by decide +kernel
theorem dX6_predict_27 : decode cX6_predict 27 = .ok (.getfield 62, 3) := by decide +kernel
theorem dX6_predict_30 : decode cX6_predict 30 = .ok (.iconst 1, 1) := by decide +kernel
theorem dX6_predict_31 : decode cX6_predict 31 = .ok (.iadd, 1) := by decide +kernel
theorem dX6_predict_32 : decode cX6_predict 32 = .ok (.putfield 62, 3) := by decide +kernel
theorem dX6_predict_35 : decode cX6_predict 35 = .ok (.aload_n 2, 1) := by decide +kernel
theorem dX6_predict_36 : decode cX6_predict 36 = .ok (.invokevirtual 67, 3) := by decide +kernel
theorem dX6_predict_39 : decode cX6_predict 39 = .ok (.pop, 1) := by decide +kernel
theorem dX6_predict_40 : decode cX6_predict 40 = .ok (.aload_n 2, 1) := by decide +kernel
theorem dX6_predict_41 : decode cX6_predict 41 = .ok (.getfield 62, 3) := by decide +kernel
theorem dX6_predict_44 : decode cX6_predict 44 = .ok (.ireturn, 1) := by decide +kernel
set_option maxRecDepth 20000 in
theorem ggX6_measure_X6_estimatorNumbered : GoodIn wsX6_measure wsX6_estimatorNumbered := goodIn_ca (goodIn_r _ [6, 7, 8, 9, 10, 162, 163, 164, 165] (by decide +kernel) (by decide +kernel)) (goodIn_sub (fun _ h => List.mem_cons_of_mem _ (List.mem_append_left _ (List.mem_append_left _ (List.mem_append_right _ h)))) (by decide +kernel))
set_option maxRecDepth 20000 in
theorem gX6_measure_X6_estimatorNumbered : GoodIn wsX6_measure (wsV RX6 55 RX6 yX6_estimatorNumbered wsX6_estimatorNumbered) := goodIn_app (goodIn_of _ (by decide +kernel)) ggX6_measure_X6_estimatorNumbered
set_option maxRecDepth 20000 in
theorem ggX6_measure_X6_tell : GoodIn wsX6_measure wsX6_tell := goodIn_ca (goodIn_ca (goodIn_r _ [13, 14, 15, 16, 17, 18, 19, 20, 5, 21, 22, 23, 24, 25, 26, 27, 28, 29, 30, 31, 32, 33, 34, 35, 36, 37, 38, 39, 40, 41, 42, 43, 44, 45, 46, 47, 48, 49, 50, 51, 52, 53, 54, 55, 56, 57, 58, 59, 60, 61, 62, 63, 64, 65, 66, 67, 68, 69, 70, 71, 72, 73, 74, 75, 76, 77, 78, 79, 80, 81, 82, 83, 84, 85, 86, 87, 88, 89, 90, 91, 92, 93, 94, 95, 96, 97, 98, 99, 100, 101, 102, 103, 104, 105, 106, 107, 108, 109, 110, 111, 112, 113, 114, 115, 116, 117, 118, 119, 120, 121, 122, 123, 124, 125, 126, 127, 128, 129, 130, 131, 132, 133, 134, 135, 136, 137, 138, 139, 140, 141, 142, 143, 144, 145, 146, 147, 148, 149, 150, 151, 152, 153, 154, 155, 156, 157, 158, 159, 160, 161, 166, 167, 168, 169, 170, 171, 172, 173, 174, 175, 176, 177, 178, 179, 180, 181, 182, 183, 184, 185, 186, 187, 188] (by decide +kernel) (by decide +kernel)) (goodIn_sub (fun _ h => List.mem_cons_of_mem _ (List.mem_append_left _ (List.mem_append_right _ h))) (by decide +kernel))) (goodIn_sub (fun _ h => List.mem_cons_of_mem _ (List.mem_append_right _ h)) (by decide +kernel))
set_option maxRecDepth 20000 in
theorem gX6_measure_X6_tell : GoodIn wsX6_measure (va_wsS RX6 71 yX6_tell wsX6_tell) := goodIn_app (goodIn_of _ (by decide +kernel)) ggX6_measure_X6_tell
theorem dX6_measure_0 : decode cX6_measure 0 = .ok (.aload_n 0, 1) := by decide +kernel
theorem dX6_measure_1 : decode cX6_measure 1 = .ok (.iload_n 1, 1) := by decide +kernel
theorem dX6_measure_2 : decode cX6_measure 2 = .ok (.invokevirtual 55, 3) := by decide +kernel
theorem dX6_measure_5 : decode cX6_measure 5 = .ok (.astore 6, 2) := by decide +kernel
theorem dX6_measure_7 : decode cX6_measure 7 = .ok (.aload 6, 2) := by decide +kernel
theorem dX6_measure_9 : decode cX6_measure 9 = .ok (.aload 6, 2) := by decide +kernel
theorem dX6_measure_11 : decode cX6_measure 11 = .ok (.getfield 62, 3) := by decide +kernel
theorem dX6_measure_14 : decode cX6_measure 14 = .ok (.iload_n 2, 1) := by decide +kernel
theorem dX6_measure_15 : decode cX6_measure 15 = .ok (.iload_n 3, 1) := by decide +kernel
theorem dX6_measure_16 : decode cX6_measure 16 = .ok (.iload 4, 2) := by decide +kernel
theorem dX6_measure_18 : decode cX6_measure 18 = .ok (.iload 5, 2) := by decide +kernel
theorem dX6_measure_20 : decode cX6_measure 20 = .ok (.invokestatic 71, 3) := by decide +kernel
theorem dX6_measure_23 : decode cX6_measure 23 = .ok (.ireturn, 1) := by decide +kernel
set_option maxRecDepth 20000 in
theorem ggX6_late_X6_estimatorNumbered : GoodIn wsX6_late wsX6_estimatorNumbered := goodIn_ca (goodIn_r _ [6, 7, 8, 9, 10, 162, 163, 164, 165] (by decide +kernel) (by decide +kernel)) (goodIn_sub (fun _ h => List.mem_cons_of_mem _ (List.mem_append_left _ (List.mem_append_left _ (List.mem_append_right _ h)))) (by decide +kernel))
set_option maxRecDepth 20000 in
theorem gX6_late_X6_estimatorNumbered : GoodIn wsX6_late (wsV RX6 55 RX6 yX6_estimatorNumbered wsX6_estimatorNumbered) := goodIn_app (goodIn_of _ (by decide +kernel)) ggX6_late_X6_estimatorNumbered
set_option maxRecDepth 20000 in
theorem ggX6_late_X6_checkRange : GoodIn wsX6_late wsX6_checkRange := goodIn_ca (goodIn_r _ [13, 14, 15] (by decide +kernel) (by decide +kernel)) (goodIn_sub (fun _ h => List.mem_cons_of_mem _ (List.mem_append_left _ (List.mem_append_right _ h))) (by decide +kernel))
set_option maxRecDepth 20000 in
theorem gX6_late_X6_checkRange : GoodIn wsX6_late (va_wsS RX6 35 yX6_checkRange wsX6_checkRange) := goodIn_app (goodIn_of _ (by decide +kernel)) ggX6_late_X6_checkRange
set_option maxRecDepth 20000 in
theorem ggX6_late_X6_tell : GoodIn wsX6_late wsX6_tell := goodIn_ca (goodIn_ca (goodIn_r _ [18, 19, 20, 21, 22, 23, 24, 25, 5, 26, 11, 12, 13, 14, 15, 27, 28, 29, 30, 31, 32, 33, 34, 35, 36, 37, 38, 39, 40, 41, 42, 43, 44, 45, 46, 47, 48, 49, 50, 51, 52, 53, 54, 55, 56, 57, 58, 59, 60, 61, 62, 63, 64, 65, 66, 67, 68, 69, 70, 71, 72, 73, 74, 75, 76, 77, 78, 79, 80, 81, 82, 83, 84, 85, 86, 87, 88, 89, 90, 91, 92, 93, 94, 95, 96, 97, 98, 99, 100, 101, 102, 103, 104, 105, 106, 107, 108, 109, 110, 111, 112, 113, 114, 115, 116, 117, 118, 119, 120, 121, 122, 123, 124, 125, 126, 127, 128, 129, 130, 131, 132, 133, 134, 135, 136, 137, 138, 139, 140, 141, 142, 143, 144, 145, 146, 147, 148, 149, 150, 151, 152, 153, 154, 155, 156, 157, 158, 159, 160, 161, 166, 167, 168, 169, 170, 171, 172, 173, 174, 175, 176, 177, 178, 179, 180, 181, 182, 183, 184, 185, 186, 187, 188] (by decide +kernel) (by decide +kernel)) (goodIn_sub (fun _ h => List.mem_cons_of_mem _ (List.mem_append_right _ h)) (by decide +kernel))) (goodIn_sub (fun _ h => List.mem_cons_of_mem _ (List.mem_append_left _ (List.mem_append_right _ h))) (by decide +kernel))
set_option maxRecDepth 20000 in
theorem gX6_late_X6_tell : GoodIn wsX6_late (va_wsS RX6 71 yX6_tell wsX6_tell) := goodIn_app (goodIn_of _ (by decide +kernel)) ggX6_late_X6_tell
theorem dX6_late_0 : decode cX6_late 0 = .ok (.aload_n 0, 1) := by decide +kernel
theorem dX6_late_1 : decode cX6_late 1 = .ok (.iload_n 1, 1) := by decide +kernel
theorem dX6_late_2 : decode cX6_late 2 = .ok (.invokevirtual 55, 3) := by decide +kernel
theorem dX6_late_5 : decode cX6_late 5 = .ok (.astore 7, 2) := by decide +kernel
theorem dX6_late_7 : decode cX6_late 7 = .ok (.iload_n 2, 1) := by decide +kernel
theorem dX6_late_8 : decode cX6_late 8 = .ok (.aload 7, 2) := by decide +kernel
theorem dX6_late_10 : decode cX6_late 10 = .ok (.getfield 62, 3) := by decide +kernel
theorem dX6_late_13 : decode cX6_late 13 = .ok (.invokestatic 35, 3) := by decide +kernel
theorem dX6_late_16 : decode cX6_late 16 = .ok (.aload 7, 2) := by decide +kernel
theorem dX6_late_18 : decode cX6_late 18 = .ok (.iload_n 2, 1) := by decide +kernel
theorem dX6_late_19 : decode cX6_late 19 = .ok (.iload_n 3, 1) := by decide +kernel
theorem dX6_late_20 : decode cX6_late 20 = .ok (.iload 4, 2) := by decide +kernel
theorem dX6_late_22 : decode cX6_late 22 = .ok (.iload 5, 2) := by decide +kernel
theorem dX6_late_24 : decode cX6_late 24 = .ok (.iload 6, 2) := by decide +kernel
theorem dX6_late_26 : decode cX6_late 26 = .ok (.invokestatic 71, 3) := by decide +kernel
theorem dX6_late_29 : decode cX6_late 29 = .ok (.ireturn, 1) := by decide +kernel
set_option maxRecDepth 20000 in
theorem ggX6_drop_X6_estimatorNumbered : GoodIn wsX6_drop wsX6_estimatorNumbered := goodIn_ca (goodIn_r _ [8, 9, 10, 11, 12, 149, 150, 151, 152] (by decide +kernel) (by decide +kernel)) (goodIn_sub (fun _ h => List.mem_cons_of_mem _ (List.mem_append_right _ h)) (by decide +kernel))
set_option maxRecDepth 20000 in
theorem gX6_drop_X6_estimatorNumbered : GoodIn wsX6_drop (wsV RX6 55 RX6 yX6_estimatorNumbered wsX6_estimatorNumbered) := goodIn_app (goodIn_of _ (by decide +kernel)) ggX6_drop_X6_estimatorNumbered
set_option maxRecDepth 20000 in
theorem ggX6_drop_X6_measurementNumbered : GoodIn wsX6_drop wsX6_measurementNumbered := goodIn_ca (goodIn_r _ [15, 9, 10, 16, 17, 153, 154, 155, 156, 157, 158, 159] (by decide +kernel) (by decide +kernel)) (goodIn_sub (fun _ h => List.mem_cons_of_mem _ (List.mem_append_right _ h)) (by decide +kernel))
set_option maxRecDepth 20000 in
theorem gX6_drop_X6_measurementNumbered : GoodIn wsX6_drop (va_wsS RX6 75 yX6_measurementNumbered wsX6_measurementNumbered) := goodIn_app (goodIn_of _ (by decide +kernel)) ggX6_drop_X6_measurementNumbered
set_option maxRecDepth 20000 in
theorem ggX6_drop_X1_settle : GoodIn wsX6_drop wsX1_settle := goodIn_r _ [22, 23, 24, 25, 26, 27, 28, 29, 30, 31, 32, 33, 34, 35, 36, 37, 38, 39, 40, 41, 42, 43, 44, 45, 46, 47, 48, 49, 50, 51, 52, 53, 54, 55, 56, 57, 58, 59, 60, 61, 62, 63, 64, 65, 66, 67, 68, 69, 70, 71, 72, 73, 74, 75, 76, 77, 78, 79, 80, 81, 82, 83, 84, 85, 86, 87, 88, 89, 90, 91, 92, 93, 94, 95, 96, 97, 98, 99, 100, 101, 102, 103, 104, 105, 106, 107, 108, 109, 110, 111, 112, 113, 114, 115, 116, 117, 118, 7, 119, 120, 121, 122, 123, 124, 125, 126, 127, 128, 129, 130, 131, 132, 133, 134, 135, 136, 137, 153, 154, 155, 156, 157, 158, 159, 160, 161, 162, 163, 164, 165, 166, 167, 168, 169, 170, 171, 138, 139, 140, 141, 142, 143, 144, 145, 146, 147, 148] rfl (by decide +kernel)
set_option maxRecDepth 20000 in
theorem gX6_drop_X1_settle : GoodIn wsX6_drop (wsV RX6 67 RX1 yX1_settle wsX1_settle) := goodIn_app (goodIn_of _ (by decide +kernel)) ggX6_drop_X1_settle
theorem dX6_drop_0 : decode cX6_drop 0 = .ok (.aload_n 0, 1) := by decide +kernel
theorem dX6_drop_1 : decode cX6_drop 1 = .ok (.iload_n 1, 1) := by decide +kernel
theorem dX6_drop_2 : decode cX6_drop 2 = .ok (.invokevirtual 55, 3) := by decide +kernel
theorem dX6_drop_5 : decode cX6_drop 5 = .ok (.astore_n 3, 1) := by decide +kernel
theorem dX6_drop_6 : decode cX6_drop 6 = .ok (.aload_n 3, 1) := by decide +kernel
theorem dX6_drop_7 : decode cX6_drop 7 = .ok (.iload_n 2, 1) := by decide +kernel
theorem dX6_drop_8 : decode cX6_drop 8 = .ok (.invokestatic 75, 3) := by decide +kernel
theorem dX6_drop_11 : decode cX6_drop 11 = .ok (.astore 4, 2) := by decide +kernel
theorem dX6_drop_13 : decode cX6_drop 13 = .ok (.aload 4, 2) := by decide +kernel
theorem dX6_drop_15 : decode cX6_drop 15 = .ok (.getfield 79, 3) := by decide +kernel
theorem dX6_drop_18 : decode cX6_drop 18 = .ok (.ifCond .eq 13, 3) := by decide +kernel
theorem dX6_drop_21 : decode cX6_drop 21 = .ok (.new 24, 3) := by decide +kernel
theorem dX6_drop_24 : decode cX6_drop 24 = .ok (.dup, 1) := by decide +kernel
theorem dX6_drop_25 : decode cX6_drop 25 = .ok (.ldc 85, 2) := by decide +kernel
theorem dX6_drop_27 : decode cX6_drop 27 = .ok (.invokespecial 28, 3) := by decide +kernel
theorem dX6_drop_30 : decode cX6_drop 30 = .ok (.athrow, 1) := by decide +kernel
theorem dX6_drop_31 : decode cX6_drop 31 = .ok (.aload 4, 2) := by decide +kernel
theorem dX6_drop_33 : decode cX6_drop 33 = .ok (.iconst 1, 1) := by decide +kernel
theorem dX6_drop_34 : decode cX6_drop 34 = .ok (.putfield 79, 3) := by decide +kernel
theorem dX6_drop_37 : decode cX6_drop 37 = .ok (.aload_n 3, 1) := by decide +kernel
theorem dX6_drop_38 : decode cX6_drop 38 = .ok (.invokevirtual 67, 3) := by decide +kernel
theorem dX6_drop_41 : decode cX6_drop 41 = .ok (.ifCond .ne 24, 3) := by decide +kernel
theorem dX6_drop_44 : decode cX6_drop 44 = .ok (.aload 4, 2) := by decide +kernel
theorem dX6_drop_46 : decode cX6_drop 46 = .ok (.iconst 0, 1) := by decide +kernel
theorem dX6_drop_47 : decode cX6_drop 47 = .ok (.putfield 79, 3) := by decide +kernel
theorem dX6_drop_50 : decode cX6_drop 50 = .ok (.aload_n 3, 1) := by decide +kernel
theorem dX6_drop_51 : decode cX6_drop 51 = .ok (.invokevirtual 67, 3) := by decide +kernel
theorem dX6_drop_54 : decode cX6_drop 54 = .ok (.pop, 1) := by decide +kernel
theorem dX6_drop_55 : decode cX6_drop 55 = .ok (.new 24, 3) := by decide +kernel
theorem dX6_drop_58 : decode cX6_drop 58 = .ok (.dup, 1) := by decide +kernel
theorem dX6_drop_59 : decode cX6_drop 59 = .ok (.ldc 87, 2) := by decide +kernel
theorem dX6_drop_61 : decode cX6_drop 61 = .ok (.invokespecial 28, 3) := by decide +kernel
theorem dX6_drop_64 : decode cX6_drop 64 = .ok (.athrow, 1) := by decide +kernel
theorem dX6_drop_65 : decode cX6_drop 65 = .ok (.return_, 1) := by decide +kernel
set_option maxRecDepth 20000 in
theorem ggX6_of_X6_estimatorNumbered : GoodIn wsX6_of wsX6_estimatorNumbered := goodIn_ca (goodIn_r _ [8, 9, 10, 11, 12, 68, 69, 70, 71] (by decide +kernel) (by decide +kernel)) (goodIn_sub (fun _ h => List.mem_cons_of_mem _ (List.mem_append_left _ (List.mem_append_right _ h))) (by decide +kernel))
set_option maxRecDepth 20000 in
theorem gX6_of_X6_estimatorNumbered : GoodIn wsX6_of (wsV RX6 55 RX6 yX6_estimatorNumbered wsX6_estimatorNumbered) := goodIn_app (goodIn_of _ (by decide +kernel)) ggX6_of_X6_estimatorNumbered
set_option maxRecDepth 20000 in
theorem ggX6_of_X6_checkRange : GoodIn wsX6_of wsX6_checkRange := goodIn_ca (goodIn_r _ [15, 16, 17] (by decide +kernel) (by decide +kernel)) (goodIn_sub (fun _ h => List.mem_cons_of_mem _ (List.mem_append_right _ h)) (by decide +kernel))
set_option maxRecDepth 20000 in
theorem gX6_of_X6_checkRange : GoodIn wsX6_of (va_wsS RX6 35 yX6_checkRange wsX6_checkRange) := goodIn_app (goodIn_of _ (by decide +kernel)) ggX6_of_X6_checkRange
set_option maxRecDepth 20000 in
theorem ggX6_of_X1_countGated : GoodIn wsX6_of wsX1_countGated := goodIn_r _ [22, 23, 24, 25, 26, 59, 60, 61, 62, 63, 64, 65, 72, 73, 74, 75, 76, 77, 78, 79, 80, 81, 82] rfl (by decide +kernel)
set_option maxRecDepth 20000 in
theorem gX6_of_X1_countGated : GoodIn wsX6_of (wsV RX6 92 RX1 yX1_countGated wsX1_countGated) := goodIn_app (goodIn_of _ (by decide +kernel)) ggX6_of_X1_countGated
set_option maxRecDepth 20000 in
theorem ggX6_of_X1_current : GoodIn wsX6_of wsX1_current := goodIn_r _ [30, 31, 32, 59, 60, 61, 62, 63, 64, 65] rfl (by decide +kernel)
set_option maxRecDepth 20000 in
theorem gX6_of_X1_current : GoodIn wsX6_of (wsV RX6 96 RX1 yX1_current wsX1_current) := goodIn_app (goodIn_of _ (by decide +kernel)) ggX6_of_X1_current
set_option maxRecDepth 20000 in
theorem ggX6_of_X5_determinant : GoodIn wsX6_of wsX5_determinant := goodIn_r _ [37, 38, 39, 40, 41, 7, 42, 43, 44, 45, 46, 83, 84, 85] rfl (by decide +kernel)
set_option maxRecDepth 20000 in
theorem gX6_of_X5_determinant : GoodIn wsX6_of (wsV RX6 106 RX5 yX5_determinant wsX5_determinant) := goodIn_app (goodIn_of _ (by decide +kernel)) ggX6_of_X5_determinant
set_option maxRecDepth 20000 in
theorem ggX6_of_X4_number : GoodIn wsX6_of wsX4_number := goodIn_r _ [51, 52, 53, 54, 55, 56, 57, 58, 66, 67, 86, 87, 83, 84, 85] rfl (by decide +kernel)
set_option maxRecDepth 20000 in
theorem gX6_of_X4_number : GoodIn wsX6_of (wsV RX6 111 RX4 yX4_number wsX4_number) := goodIn_app (goodIn_of _ (by decide +kernel)) ggX6_of_X4_number
theorem dX6_of_0 : decode cX6_of 0 = .ok (.aload_n 0, 1) := by decide +kernel
theorem dX6_of_1 : decode cX6_of 1 = .ok (.iload_n 1, 1) := by decide +kernel
theorem dX6_of_2 : decode cX6_of 2 = .ok (.invokevirtual 55, 3) := by decide +kernel
theorem dX6_of_5 : decode cX6_of 5 = .ok (.astore_n 3, 1) := by decide +kernel
theorem dX6_of_6 : decode cX6_of 6 = .ok (.iload_n 2, 1) := by decide +kernel
theorem dX6_of_7 : decode cX6_of 7 = .ok (.bipush 8, 2) := by decide +kernel
theorem dX6_of_9 : decode cX6_of 9 = .ok (.invokestatic 35, 3) := by decide +kernel
theorem dX6_of_12 : decode cX6_of 12 = .ok (.iload_n 2, 1) := by decide +kernel
theorem dX6_of_13 : decode cX6_of 13 = .ok (.tableswitch 57 5 8 #[31, 36, 41, 46], 31) := by decide +kernel
theorem dX6_of_44 : decode cX6_of 44 = .ok (.aload_n 3, 1) := by decide +kernel
theorem dX6_of_45 : decode cX6_of 45 = .ok (.getfield 62, 3) := by decide +kernel
theorem dX6_of_48 : decode cX6_of 48 = .ok (.ireturn, 1) := by decide +kernel
theorem dX6_of_49 : decode cX6_of 49 = .ok (.aload_n 3, 1) := by decide +kernel
theorem dX6_of_50 : decode cX6_of 50 = .ok (.getfield 89, 3) := by decide +kernel
theorem dX6_of_53 : decode cX6_of 53 = .ok (.ireturn, 1) := by decide +kernel
theorem dX6_of_54 : decode cX6_of 54 = .ok (.aload_n 3, 1) := by decide +kernel
theorem dX6_of_55 : decode cX6_of 55 = .ok (.invokevirtual 92, 3) := by decide +kernel
theorem dX6_of_58 : decode cX6_of 58 = .ok (.ireturn, 1) := by decide +kernel
theorem dX6_of_59 : decode cX6_of 59 = .ok (.aload_n 3, 1) := by decide +kernel
theorem dX6_of_60 : decode cX6_of 60 = .ok (.invokevirtual 96, 3) := by decide +kernel
theorem dX6_of_63 : decode cX6_of 63 = .ok (.getfield 100, 3) := by decide +kernel
theorem dX6_of_66 : decode cX6_of 66 = .ok (.invokevirtual 106, 3) := by decide +kernel
theorem dX6_of_69 : decode cX6_of 69 = .ok (.ireturn, 1) := by decide +kernel
theorem dX6_of_70 : decode cX6_of 70 = .ok (.aload_n 3, 1) := by decide +kernel
theorem dX6_of_71 : decode cX6_of 71 = .ok (.invokevirtual 96, 3) := by decide +kernel
theorem dX6_of_74 : decode cX6_of 74 = .ok (.iload_n 2, 1) := by decide +kernel
theorem dX6_of_75 : decode cX6_of 75 = .ok (.invokevirtual 111, 3) := by decide +kernel
theorem dX6_of_78 : decode cX6_of 78 = .ok (.ireturn, 1) := by decide +kernel
set_option maxRecDepth 20000 in
theorem ggX6_ofMeasurement_X6_estimatorNumbered : GoodIn wsX6_ofMeasurement wsX6_estimatorNumbered := goodIn_ca (goodIn_r _ [11, 12, 13, 14, 15, 37, 38, 39, 40] (by decide +kernel) (by decide +kernel)) (goodIn_sub (fun _ h => List.mem_cons_of_mem _ (List.mem_append_left _ (List.mem_append_right _ h))) (by decide +kernel))
set_option maxRecDepth 20000 in
theorem gX6_ofMeasurement_X6_estimatorNumbered : GoodIn wsX6_ofMeasurement (wsV RX6 55 RX6 yX6_estimatorNumbered wsX6_estimatorNumbered) := goodIn_app (goodIn_of _ (by decide +kernel)) ggX6_ofMeasurement_X6_estimatorNumbered
set_option maxRecDepth 20000 in
theorem ggX6_ofMeasurement_X6_measurementNumbered : GoodIn wsX6_ofMeasurement wsX6_measurementNumbered := goodIn_ca (goodIn_r _ [18, 12, 13, 19, 20, 41, 42, 43, 44, 45, 46, 47] (by decide +kernel) (by decide +kernel)) (goodIn_sub (fun _ h => List.mem_cons_of_mem _ (List.mem_append_left _ (List.mem_append_right _ h))) (by decide +kernel))
set_option maxRecDepth 20000 in
theorem gX6_ofMeasurement_X6_measurementNumbered : GoodIn wsX6_ofMeasurement (va_wsS RX6 75 yX6_measurementNumbered wsX6_measurementNumbered) := goodIn_app (goodIn_of _ (by decide +kernel)) ggX6_ofMeasurement_X6_measurementNumbered
set_option maxRecDepth 20000 in
theorem ggX6_ofMeasurement_X6_checkRange : GoodIn wsX6_ofMeasurement wsX6_checkRange := goodIn_ca (goodIn_r _ [23, 24, 25] (by decide +kernel) (by decide +kernel)) (goodIn_sub (fun _ h => List.mem_cons_of_mem _ (List.mem_append_right _ h)) (by decide +kernel))
set_option maxRecDepth 20000 in
theorem gX6_ofMeasurement_X6_checkRange : GoodIn wsX6_ofMeasurement (va_wsS RX6 35 yX6_checkRange wsX6_checkRange) := goodIn_app (goodIn_of _ (by decide +kernel)) ggX6_ofMeasurement_X6_checkRange
theorem dX6_ofMeasurement_0 : decode cX6_ofMeasurement 0 = .ok (.aload_n 0, 1) := by decide +kernel
theorem dX6_ofMeasurement_1 : decode cX6_ofMeasurement 1 = .ok (.iload_n 1, 1) := by decide +kernel
theorem dX6_ofMeasurement_2 : decode cX6_ofMeasurement 2 = .ok (.invokevirtual 55, 3) := by decide +kernel
theorem dX6_ofMeasurement_5 : decode cX6_ofMeasurement 5 = .ok (.astore 4, 2) := by decide +kernel
theorem dX6_ofMeasurement_7 : decode cX6_ofMeasurement 7 = .ok (.aload 4, 2) := by decide +kernel
theorem dX6_ofMeasurement_9 : decode cX6_ofMeasurement 9 = .ok (.iload_n 2, 1) := by decide +kernel
theorem dX6_ofMeasurement_10 : decode cX6_ofMeasurement 10 = .ok (.invokestatic 75, 3) := by decide +kernel
theorem dX6_ofMeasurement_13 : decode cX6_ofMeasurement 13 = .ok (.astore 5, 2) := by decide +kernel
theorem dX6_ofMeasurement_15 : decode cX6_ofMeasurement 15 = .ok (.iload_n 3, 1) := by decide +kernel
theorem dX6_ofMeasurement_16 : decode cX6_ofMeasurement 16 = .ok (.iconst 4, 1) := by decide +kernel
theorem dX6_ofMeasurement_17 : decode cX6_ofMeasurement 17 = .ok (.invokestatic 35, 3) := by decide +kernel
theorem dX6_ofMeasurement_20 : decode cX6_ofMeasurement 20 = .ok (.iload_n 3, 1) := by decide +kernel
theorem dX6_ofMeasurement_21 : decode cX6_ofMeasurement 21 = .ok (.ifCond .ne 9, 3) := by decide +kernel
theorem dX6_ofMeasurement_24 : decode cX6_ofMeasurement 24 = .ok (.aload 5, 2) := by decide +kernel
theorem dX6_ofMeasurement_26 : decode cX6_ofMeasurement 26 = .ok (.getfield 115, 3) := by decide +kernel
theorem dX6_ofMeasurement_29 : decode cX6_ofMeasurement 29 = .ok (.ireturn, 1) := by decide +kernel
theorem dX6_ofMeasurement_30 : decode cX6_ofMeasurement 30 = .ok (.aload 5, 2) := by decide +kernel
theorem dX6_ofMeasurement_32 : decode cX6_ofMeasurement 32 = .ok (.getfield 79, 3) := by decide +kernel
theorem dX6_ofMeasurement_35 : decode cX6_ofMeasurement 35 = .ok (.ifCond .eq 5, 3) := by decide +kernel
theorem dX6_ofMeasurement_38 : decode cX6_ofMeasurement 38 = .ok (.iconst (-1), 1) := by decide +kernel
theorem dX6_ofMeasurement_39 : decode cX6_ofMeasurement 39 = .ok (.ireturn, 1) := by decide +kernel
theorem dX6_ofMeasurement_40 : decode cX6_ofMeasurement 40 = .ok (.iload_n 3, 1) := by decide +kernel
theorem dX6_ofMeasurement_41 : decode cX6_ofMeasurement 41 = .ok (.tableswitch 45 1 3 #[27, 33, 39], 27) := by decide +kernel
theorem dX6_ofMeasurement_68 : decode cX6_ofMeasurement 68 = .ok (.aload 5, 2) := by decide +kernel
theorem dX6_ofMeasurement_70 : decode cX6_ofMeasurement 70 = .ok (.getfield 116, 3) := by decide +kernel
theorem dX6_ofMeasurement_73 : decode cX6_ofMeasurement 73 = .ok (.ireturn, 1) := by decide +kernel
theorem dX6_ofMeasurement_74 : decode cX6_ofMeasurement 74 = .ok (.aload 5, 2) := by decide +kernel
theorem dX6_ofMeasurement_76 : decode cX6_ofMeasurement 76 = .ok (.getfield 119, 3) := by decide +kernel
theorem dX6_ofMeasurement_79 : decode cX6_ofMeasurement 79 = .ok (.ireturn, 1) := by decide +kernel
theorem dX6_ofMeasurement_80 : decode cX6_ofMeasurement 80 = .ok (.aload 5, 2) := by decide +kernel
theorem dX6_ofMeasurement_82 : decode cX6_ofMeasurement 82 = .ok (.getfield 122, 3) := by decide +kernel
theorem dX6_ofMeasurement_85 : decode cX6_ofMeasurement 85 = .ok (.ireturn, 1) := by decide +kernel
theorem dX6_ofMeasurement_86 : decode cX6_ofMeasurement 86 = .ok (.aload 5, 2) := by decide +kernel
theorem dX6_ofMeasurement_88 : decode cX6_ofMeasurement 88 = .ok (.getfield 125, 3) := by decide +kernel
theorem dX6_ofMeasurement_91 : decode cX6_ofMeasurement 91 = .ok (.ifCond .eq 7, 3) := by decide +kernel
theorem dX6_ofMeasurement_94 : decode cX6_ofMeasurement 94 = .ok (.iconst 1, 1) := by decide +kernel
theorem dX6_ofMeasurement_95 : decode cX6_ofMeasurement 95 = .ok (.goto 4, 3) := by decide +kernel
theorem dX6_ofMeasurement_98 : decode cX6_ofMeasurement 98 = .ok (.iconst 0, 1) := by decide +kernel
theorem dX6_ofMeasurement_99 : decode cX6_ofMeasurement 99 = .ok (.ireturn, 1) := by decide +kernel
set_option maxRecDepth 20000 in
theorem ggX6_gain_X6_estimatorNumbered : GoodIn wsX6_gain wsX6_estimatorNumbered := goodIn_ca (goodIn_r _ [13, 14, 15, 16, 17, 104, 105, 106, 107] (by decide +kernel) (by decide +kernel)) (goodIn_sub (fun _ h => List.mem_cons_of_mem _ (List.mem_append_left _ (List.mem_append_right _ h))) (by decide +kernel))
set_option maxRecDepth 20000 in
theorem gX6_gain_X6_estimatorNumbered : GoodIn wsX6_gain (wsV RX6 55 RX6 yX6_estimatorNumbered wsX6_estimatorNumbered) := goodIn_app (goodIn_of _ (by decide +kernel)) ggX6_gain_X6_estimatorNumbered
set_option maxRecDepth 20000 in
theorem ggX6_gain_X6_checkField : GoodIn wsX6_gain wsX6_checkField := goodIn_ca (goodIn_r _ [20, 21, 22, 12, 23, 24, 25] (by decide +kernel) (by decide +kernel)) (goodIn_sub (fun _ h => List.mem_cons_of_mem _ (List.mem_append_right _ h)) (by decide +kernel))
set_option maxRecDepth 20000 in
theorem gX6_gain_X6_checkField : GoodIn wsX6_gain (va_wsS RX6 39 yX6_checkField wsX6_checkField) := goodIn_app (goodIn_of _ (by decide +kernel)) ggX6_gain_X6_checkField
set_option maxRecDepth 20000 in
theorem ggX6_gain_X6_checkRange : GoodIn wsX6_gain wsX6_checkRange := goodIn_ca (goodIn_r _ [23, 24, 25] (by decide +kernel) (by decide +kernel)) (goodIn_sub (fun _ h => List.mem_cons_of_mem _ (List.mem_append_right _ h)) (by decide +kernel))
set_option maxRecDepth 20000 in
theorem gX6_gain_X6_checkRange : GoodIn wsX6_gain (va_wsS RX6 35 yX6_checkRange wsX6_checkRange) := goodIn_app (goodIn_of _ (by decide +kernel)) ggX6_gain_X6_checkRange
set_option maxRecDepth 20000 in
theorem ggX6_gain_X2_init : GoodIn wsX6_gain wsX2_init := goodIn_r _ [27, 28, 29, 30, 31, 32, 33, 34, 35, 36, 37, 38, 108, 109, 91, 92, 93, 94, 95, 96, 97, 98, 99, 100, 101] rfl (by decide +kernel)
set_option maxRecDepth 20000 in
theorem gX6_gain_X2_init_n128 : GoodIn wsX6_gain (wsX2_init) := ggX6_gain_X2_init
set_option maxRecDepth 20000 in
theorem ggX6_gain_X2_look : GoodIn wsX6_gain wsX2_look := goodIn_r _ [42, 34, 43, 44, 45, 46, 47, 33, 48, 49, 50, 91, 92, 93, 94, 95, 96, 97, 98, 99, 100, 101, 108, 109] rfl (by decide +kernel)
set_option maxRecDepth 20000 in
theorem gX6_gain_X2_look : GoodIn wsX6_gain (wsV RX6 129 RX2 yX2_look wsX2_look) := goodIn_app (goodIn_of _ (by decide +kernel)) ggX6_gain_X2_look
set_option maxRecDepth 20000 in
theorem ggX6_gain_X1_current : GoodIn wsX6_gain wsX1_current := goodIn_r _ [55, 56, 57, 110, 111, 112, 113, 114, 115, 116] rfl (by decide +kernel)
set_option maxRecDepth 20000 in
theorem gX6_gain_X1_current : GoodIn wsX6_gain (wsV RX6 96 RX1 yX1_current wsX1_current) := goodIn_app (goodIn_of _ (by decide +kernel)) ggX6_gain_X1_current
set_option maxRecDepth 20000 in
theorem ggX6_gain_X2_weigh : GoodIn wsX6_gain wsX2_weigh := goodIn_r _ [61, 35, 34, 62, 63, 44, 64, 65, 66, 67, 33, 68, 49, 50, 69, 46, 47, 48, 70, 71, 72, 73, 74, 75, 76, 77, 78, 79, 80, 91, 92, 93, 94, 95, 96, 97, 98, 99, 100, 101, 108, 109, 117, 118, 119] rfl (by decide +kernel)
set_option maxRecDepth 20000 in
theorem gX6_gain_X2_weigh : GoodIn wsX6_gain (wsV RX6 133 RX2 yX2_weigh wsX2_weigh) := goodIn_app (goodIn_of _ (by decide +kernel)) ggX6_gain_X2_weigh
set_option maxRecDepth 20000 in
theorem ggX6_gain_X0_number : GoodIn wsX6_gain wsX0_number := goodIn_r _ [84, 49, 50, 108, 109] rfl (by decide +kernel)
set_option maxRecDepth 20000 in
theorem gX6_gain_X0_number : GoodIn wsX6_gain (wsV RX6 143 RX0 yX0_number wsX0_number) := goodIn_app (goodIn_of _ (by decide +kernel)) ggX6_gain_X0_number
set_option maxRecDepth 20000 in
theorem ggX6_gain_X6_divide : GoodIn wsX6_gain wsX6_divide := goodIn_r _ [87, 88, 89, 12, 90] rfl (by decide +kernel)
set_option maxRecDepth 20000 in
theorem gX6_gain_X6_divide : GoodIn wsX6_gain (va_wsS RX6 146 yX6_divide wsX6_divide) := goodIn_app (goodIn_of _ (by decide +kernel)) ggX6_gain_X6_divide
theorem dX6_gain_0 : decode cX6_gain 0 = .ok (.aload_n 0, 1) := by decide +kernel
theorem dX6_gain_1 : decode cX6_gain 1 = .ok (.iload_n 1, 1) := by decide +kernel
theorem dX6_gain_2 : decode cX6_gain 2 = .ok (.invokevirtual 55, 3) := by decide +kernel
theorem dX6_gain_5 : decode cX6_gain 5 = .ok (.astore 6, 2) := by decide +kernel
theorem dX6_gain_7 : decode cX6_gain 7 = .ok (.iload_n 2, 1) := by decide +kernel
theorem dX6_gain_8 : decode cX6_gain 8 = .ok (.invokestatic 39, 3) := by decide +kernel
theorem dX6_gain_11 : decode cX6_gain 11 = .ok (.iload_n 3, 1) := by decide +kernel
theorem dX6_gain_12 : decode cX6_gain 12 = .ok (.invokestatic 39, 3) := by decide +kernel
theorem dX6_gain_15 : decode cX6_gain 15 = .ok (.iload 4, 2) := by decide +kernel
theorem dX6_gain_17 : decode cX6_gain 17 = .ok (.invokestatic 39, 3) := by decide +kernel
theorem dX6_gain_20 : decode cX6_gain 20 = .ok (.iload 5, 2) := by decide +kernel
theorem dX6_gain_22 : decode cX6_gain 22 = .ok (.iconst 1, 1) := by decide +kernel
theorem dX6_gain_23 : decode cX6_gain 23 = .ok (.invokestatic 35, 3) := by decide +kernel
theorem dX6_gain_26 : decode cX6_gain 26 = .ok (.new 80, 3) := by decide +kernel
theorem dX6_gain_29 : decode cX6_gain 29 = .ok (.dup, 1) := by decide +kernel
theorem dX6_gain_30 : decode cX6_gain 30 = .ok (.invokespecial 128, 3) := by decide +kernel
theorem dX6_gain_33 : decode cX6_gain 33 = .ok (.astore 7, 2) := by decide +kernel
theorem dX6_gain_35 : decode cX6_gain 35 = .ok (.aload 7, 2) := by decide +kernel
theorem dX6_gain_37 : decode cX6_gain 37 = .ok (.iload_n 2, 1) := by decide +kernel
theorem dX6_gain_38 : decode cX6_gain 38 = .ok (.iload_n 3, 1) := by decide +kernel
theorem dX6_gain_39 : decode cX6_gain 39 = .ok (.iconst 0, 1) := by decide +kernel
theorem dX6_gain_40 : decode cX6_gain 40 = .ok (.iload 4, 2) := by decide +kernel
theorem dX6_gain_42 : decode cX6_gain 42 = .ok (.invokevirtual 129, 3) := by decide +kernel
theorem dX6_gain_45 : decode cX6_gain 45 = .ok (.aload 7, 2) := by decide +kernel
theorem dX6_gain_47 : decode cX6_gain 47 = .ok (.aload 6, 2) := by decide +kernel
theorem dX6_gain_49 : decode cX6_gain 49 = .ok (.invokevirtual 96, 3) := by decide +kernel
theorem dX6_gain_52 : decode cX6_gain 52 = .ok (.getfield 100, 3) := by decide +kernel
theorem dX6_gain_55 : decode cX6_gain 55 = .ok (.invokevirtual 133, 3) := by decide +kernel
theorem dX6_gain_58 : decode cX6_gain 58 = .ok (.aload 7, 2) := by decide +kernel
theorem dX6_gain_60 : decode cX6_gain 60 = .ok (.getfield 119, 3) := by decide +kernel
theorem dX6_gain_63 : decode cX6_gain 63 = .ok (.ifCond .ne 13, 3) := by decide +kernel
theorem dX6_gain_66 : decode cX6_gain 66 = .ok (.new 24, 3) := by decide +kernel
theorem dX6_gain_69 : decode cX6_gain 69 = .ok (.dup, 1) := by decide +kernel
theorem dX6_gain_70 : decode cX6_gain 70 = .ok (.ldc 137, 2) := by decide +kernel
theorem dX6_gain_72 : decode cX6_gain 72 = .ok (.invokespecial 28, 3) := by decide +kernel
theorem dX6_gain_75 : decode cX6_gain 75 = .ok (.athrow, 1) := by decide +kernel
theorem dX6_gain_76 : decode cX6_gain 76 = .ok (.aload 7, 2) := by decide +kernel
theorem dX6_gain_78 : decode cX6_gain 78 = .ok (.getfield 139, 3) := by decide +kernel
theorem dX6_gain_81 : decode cX6_gain 81 = .ok (.iload 5, 2) := by decide +kernel
theorem dX6_gain_83 : decode cX6_gain 83 = .ok (.invokevirtual 143, 3) := by decide +kernel
theorem dX6_gain_86 : decode cX6_gain 86 = .ok (.aload 7, 2) := by decide +kernel
theorem dX6_gain_88 : decode cX6_gain 88 = .ok (.getfield 119, 3) := by decide +kernel
theorem dX6_gain_91 : decode cX6_gain 91 = .ok (.invokestatic 146, 3) := by decide +kernel
theorem dX6_gain_94 : decode cX6_gain 94 = .ok (.ireturn, 1) := by decide +kernel
set_option maxRecDepth 20000 in
theorem ggX6_information_X6_estimatorNumbered : GoodIn wsX6_information wsX6_estimatorNumbered := goodIn_ca (goodIn_r _ [10, 11, 12, 13, 14, 101, 102, 103, 104] (by decide +kernel) (by decide +kernel)) (goodIn_sub (fun _ h => List.mem_cons_of_mem _ (List.mem_append_left _ (List.mem_append_right _ h))) (by decide +kernel))
set_option maxRecDepth 20000 in
theorem gX6_information_X6_estimatorNumbered : GoodIn wsX6_information (wsV RX6 55 RX6 yX6_estimatorNumbered wsX6_estimatorNumbered) := goodIn_app (goodIn_of _ (by decide +kernel)) ggX6_information_X6_estimatorNumbered
set_option maxRecDepth 20000 in
theorem ggX6_information_X6_checkRange : GoodIn wsX6_information wsX6_checkRange := goodIn_ca (goodIn_r _ [17, 18, 19] (by decide +kernel) (by decide +kernel)) (goodIn_sub (fun _ h => List.mem_cons_of_mem _ (List.mem_append_right _ h)) (by decide +kernel))
set_option maxRecDepth 20000 in
theorem gX6_information_X6_checkRange : GoodIn wsX6_information (va_wsS RX6 35 yX6_checkRange wsX6_checkRange) := goodIn_app (goodIn_of _ (by decide +kernel)) ggX6_information_X6_checkRange
set_option maxRecDepth 20000 in
theorem ggX6_information_X4_init : GoodIn wsX6_information wsX4_init := goodIn_r _ [21, 22, 23, 24, 25, 26, 27, 28, 29, 30, 31, 32, 33, 34, 35, 36, 37, 38, 105, 106, 99, 100, 107, 108, 109] rfl (by decide +kernel)
set_option maxRecDepth 20000 in
theorem gX6_information_X4_init_n150 : GoodIn wsX6_information (wsX4_init) := ggX6_information_X4_init
set_option maxRecDepth 20000 in
theorem ggX6_information_X1_current : GoodIn wsX6_information wsX1_current := goodIn_r _ [43, 44, 45, 110, 111, 112, 113, 114, 115, 116] rfl (by decide +kernel)
set_option maxRecDepth 20000 in
theorem gX6_information_X1_current : GoodIn wsX6_information (wsV RX6 96 RX1 yX1_current wsX1_current) := goodIn_app (goodIn_of _ (by decide +kernel)) ggX6_information_X1_current
set_option maxRecDepth 20000 in
theorem ggX6_information_X4_invert : GoodIn wsX6_information wsX4_invert := goodIn_r _ [49, 32, 28, 50, 51, 52, 31, 53, 54, 55, 56, 57, 58, 59, 60, 61, 9, 62, 63, 64, 65, 66, 67, 68, 69, 70, 71, 72, 73, 74, 75, 27, 76, 77, 78, 79, 80, 81, 82, 83, 84, 85, 86, 87, 88, 89, 99, 100, 107, 108, 109, 105, 106] rfl (by decide +kernel)
set_option maxRecDepth 20000 in
theorem gX6_information_X4_invert : GoodIn wsX6_information (wsV RX6 151 RX4 yX4_invert wsX4_invert) := goodIn_app (goodIn_of _ (by decide +kernel)) ggX6_information_X4_invert
set_option maxRecDepth 20000 in
theorem ggX6_information_X4_number : GoodIn wsX6_information wsX4_number := goodIn_r _ [93, 28, 94, 95, 32, 96, 97, 98, 99, 100, 105, 106, 107, 108, 109] rfl (by decide +kernel)
set_option maxRecDepth 20000 in
theorem gX6_information_X4_number : GoodIn wsX6_information (wsV RX6 111 RX4 yX4_number wsX4_number) := goodIn_app (goodIn_of _ (by decide +kernel)) ggX6_information_X4_number
theorem dX6_information_0 : decode cX6_information 0 = .ok (.aload_n 0, 1) := by decide +kernel
theorem dX6_information_1 : decode cX6_information 1 = .ok (.iload_n 1, 1) := by decide +kernel
theorem dX6_information_2 : decode cX6_information 2 = .ok (.invokevirtual 55, 3) := by decide +kernel
theorem dX6_information_5 : decode cX6_information 5 = .ok (.astore_n 3, 1) := by decide +kernel
theorem dX6_information_6 : decode cX6_information 6 = .ok (.iload_n 2, 1) := by decide +kernel
theorem dX6_information_7 : decode cX6_information 7 = .ok (.iconst 4, 1) := by decide +kernel
theorem dX6_information_8 : decode cX6_information 8 = .ok (.invokestatic 35, 3) := by decide +kernel
theorem dX6_information_11 : decode cX6_information 11 = .ok (.new 101, 3) := by decide +kernel
theorem dX6_information_14 : decode cX6_information 14 = .ok (.dup, 1) := by decide +kernel
theorem dX6_information_15 : decode cX6_information 15 = .ok (.invokespecial 150, 3) := by decide +kernel
theorem dX6_information_18 : decode cX6_information 18 = .ok (.astore 4, 2) := by decide +kernel
theorem dX6_information_20 : decode cX6_information 20 = .ok (.aload 4, 2) := by decide +kernel
theorem dX6_information_22 : decode cX6_information 22 = .ok (.aload_n 3, 1) := by decide +kernel
theorem dX6_information_23 : decode cX6_information 23 = .ok (.invokevirtual 96, 3) := by decide +kernel
theorem dX6_information_26 : decode cX6_information 26 = .ok (.invokevirtual 151, 3) := by decide +kernel
theorem dX6_information_29 : decode cX6_information 29 = .ok (.ifCond .ne 13, 3) := by decide +kernel
theorem dX6_information_32 : decode cX6_information 32 = .ok (.new 24, 3) := by decide +kernel
theorem dX6_information_35 : decode cX6_information 35 = .ok (.dup, 1) := by decide +kernel
theorem dX6_information_36 : decode cX6_information 36 = .ok (.ldc 155, 2) := by decide +kernel
theorem dX6_information_38 : decode cX6_information 38 = .ok (.invokespecial 28, 3) := by decide +kernel
theorem dX6_information_41 : decode cX6_information 41 = .ok (.athrow, 1) := by decide +kernel
theorem dX6_information_42 : decode cX6_information 42 = .ok (.aload 4, 2) := by decide +kernel
theorem dX6_information_44 : decode cX6_information 44 = .ok (.iload_n 2, 1) := by decide +kernel
theorem dX6_information_45 : decode cX6_information 45 = .ok (.invokevirtual 111, 3) := by decide +kernel
theorem dX6_information_48 : decode cX6_information 48 = .ok (.ireturn, 1) := by decide +kernel
set_option maxRecDepth 20000 in
theorem ggX6_anew_X6_estimatorNumbered : GoodIn wsX6_anew wsX6_estimatorNumbered := goodIn_ca (goodIn_r _ [10, 11, 12, 13, 14, 160, 161, 162, 163] (by decide +kernel) (by decide +kernel)) (goodIn_sub (fun _ h => List.mem_cons_of_mem _ (List.mem_append_left _ (List.mem_append_right _ h))) (by decide +kernel))
set_option maxRecDepth 20000 in
theorem gX6_anew_X6_estimatorNumbered : GoodIn wsX6_anew (wsV RX6 55 RX6 yX6_estimatorNumbered wsX6_estimatorNumbered) := goodIn_app (goodIn_of _ (by decide +kernel)) ggX6_anew_X6_estimatorNumbered
set_option maxRecDepth 20000 in
theorem ggX6_anew_X6_checkRange : GoodIn wsX6_anew wsX6_checkRange := goodIn_ca (goodIn_r _ [17, 18, 19] (by decide +kernel) (by decide +kernel)) (goodIn_sub (fun _ h => List.mem_cons_of_mem _ (List.mem_append_right _ h)) (by decide +kernel))
set_option maxRecDepth 20000 in
theorem gX6_anew_X6_checkRange : GoodIn wsX6_anew (va_wsS RX6 35 yX6_checkRange wsX6_checkRange) := goodIn_app (goodIn_of _ (by decide +kernel)) ggX6_anew_X6_checkRange
set_option maxRecDepth 20000 in
theorem ggX6_anew_X4_init : GoodIn wsX6_anew wsX4_init := goodIn_r _ [21, 22, 23, 24, 25, 26, 27, 28, 29, 30, 31, 32, 33, 34, 35, 36, 37, 38, 164, 165, 158, 159, 166, 167, 168] rfl (by decide +kernel)
set_option maxRecDepth 20000 in
theorem gX6_anew_X4_init_n150 : GoodIn wsX6_anew (wsX4_init) := ggX6_anew_X4_init
set_option maxRecDepth 20000 in
theorem ggX6_anew_X1_findSecondWay : GoodIn wsX6_anew wsX1_findSecondWay := goodIn_r _ [43, 44, 4, 5, 45, 46, 20, 21, 22, 23, 24, 25, 26, 27, 28, 29, 30, 31, 32, 33, 34, 35, 36, 37, 38, 47, 48, 49, 50, 51, 52, 53, 54, 55, 56, 57, 58, 59, 60, 61, 62, 9, 63, 64, 65, 66, 67, 68, 69, 70, 71, 72, 73, 74, 75, 76, 77, 78, 79, 80, 81, 82, 83, 84, 85, 86, 87, 88, 89, 90, 91, 92, 93, 42, 94, 95, 96, 97, 98, 99, 100, 101, 102, 103, 104, 105, 106, 107, 108, 109, 110, 111, 112, 113, 114, 115, 116, 117, 118, 119, 120, 121, 122, 123, 124, 125, 126, 127, 128, 129, 130, 131, 132, 133, 134, 135, 136, 137, 138, 139, 140, 141, 142, 143, 144, 145, 146, 147, 148, 158, 159, 169, 170, 171, 172, 173, 174, 175, 164, 165, 166, 167, 168, 176, 177, 178, 179, 180, 181, 182, 183, 184, 185, 186, 187, 188, 189, 190, 191] rfl (by decide +kernel)
set_option maxRecDepth 20000 in
theorem gX6_anew_X1_findSecondWay : GoodIn wsX6_anew (wsV RX6 157 RX1 yX1_findSecondWay wsX1_findSecondWay) := goodIn_app (goodIn_of _ (by decide +kernel)) ggX6_anew_X1_findSecondWay
set_option maxRecDepth 20000 in
theorem ggX6_anew_X4_number : GoodIn wsX6_anew wsX4_number := goodIn_r _ [152, 28, 153, 154, 32, 155, 156, 157, 158, 159, 164, 165, 166, 167, 168] rfl (by decide +kernel)
set_option maxRecDepth 20000 in
theorem gX6_anew_X4_number : GoodIn wsX6_anew (wsV RX6 111 RX4 yX4_number wsX4_number) := goodIn_app (goodIn_of _ (by decide +kernel)) ggX6_anew_X4_number
theorem dX6_anew_0 : decode cX6_anew 0 = .ok (.aload_n 0, 1) := by decide +kernel
theorem dX6_anew_1 : decode cX6_anew 1 = .ok (.iload_n 1, 1) := by decide +kernel
theorem dX6_anew_2 : decode cX6_anew 2 = .ok (.invokevirtual 55, 3) := by decide +kernel
theorem dX6_anew_5 : decode cX6_anew 5 = .ok (.astore_n 3, 1) := by decide +kernel
theorem dX6_anew_6 : decode cX6_anew 6 = .ok (.iload_n 2, 1) := by decide +kernel
theorem dX6_anew_7 : decode cX6_anew 7 = .ok (.iconst 4, 1) := by decide +kernel
theorem dX6_anew_8 : decode cX6_anew 8 = .ok (.invokestatic 35, 3) := by decide +kernel
theorem dX6_anew_11 : decode cX6_anew 11 = .ok (.new 101, 3) := by decide +kernel
theorem dX6_anew_14 : decode cX6_anew 14 = .ok (.dup, 1) := by decide +kernel
theorem dX6_anew_15 : decode cX6_anew 15 = .ok (.invokespecial 150, 3) := by decide +kernel
theorem dX6_anew_18 : decode cX6_anew 18 = .ok (.astore 4, 2) := by decide +kernel
theorem dX6_anew_20 : decode cX6_anew 20 = .ok (.aload_n 3, 1) := by decide +kernel
theorem dX6_anew_21 : decode cX6_anew 21 = .ok (.aload 4, 2) := by decide +kernel
theorem dX6_anew_23 : decode cX6_anew 23 = .ok (.invokevirtual 157, 3) := by decide +kernel
theorem dX6_anew_26 : decode cX6_anew 26 = .ok (.ifCond .ne 13, 3) := by decide +kernel
theorem dX6_anew_29 : decode cX6_anew 29 = .ok (.new 24, 3) := by decide +kernel
theorem dX6_anew_32 : decode cX6_anew 32 = .ok (.dup, 1) := by decide +kernel
theorem dX6_anew_33 : decode cX6_anew 33 = .ok (.ldc 160, 2) := by decide +kernel
theorem dX6_anew_35 : decode cX6_anew 35 = .ok (.invokespecial 28, 3) := by decide +kernel
theorem dX6_anew_38 : decode cX6_anew 38 = .ok (.athrow, 1) := by decide +kernel
theorem dX6_anew_39 : decode cX6_anew 39 = .ok (.aload 4, 2) := by decide +kernel
theorem dX6_anew_41 : decode cX6_anew 41 = .ok (.iload_n 2, 1) := by decide +kernel
theorem dX6_anew_42 : decode cX6_anew 42 = .ok (.invokevirtual 111, 3) := by decide +kernel
theorem dX6_anew_45 : decode cX6_anew 45 = .ok (.ireturn, 1) := by decide +kernel
set_option maxRecDepth 20000 in
theorem ggX6_smoothed_X6_estimatorNumbered : GoodIn wsX6_smoothed wsX6_estimatorNumbered := goodIn_ca (goodIn_r _ [11, 12, 13, 14, 15, 120, 121, 122, 123] (by decide +kernel) (by decide +kernel)) (goodIn_sub (fun _ h => List.mem_cons_of_mem _ (List.mem_append_left _ (List.mem_append_right _ h))) (by decide +kernel))
set_option maxRecDepth 20000 in
theorem gX6_smoothed_X6_estimatorNumbered : GoodIn wsX6_smoothed (wsV RX6 55 RX6 yX6_estimatorNumbered wsX6_estimatorNumbered) := goodIn_app (goodIn_of _ (by decide +kernel)) ggX6_smoothed_X6_estimatorNumbered
set_option maxRecDepth 20000 in
theorem ggX6_smoothed_X6_checkRange : GoodIn wsX6_smoothed wsX6_checkRange := goodIn_ca (goodIn_r _ [18, 19, 20] (by decide +kernel) (by decide +kernel)) (goodIn_sub (fun _ h => List.mem_cons_of_mem _ (List.mem_append_right _ h)) (by decide +kernel))
set_option maxRecDepth 20000 in
theorem gX6_smoothed_X6_checkRange : GoodIn wsX6_smoothed (va_wsS RX6 35 yX6_checkRange wsX6_checkRange) := goodIn_app (goodIn_of _ (by decide +kernel)) ggX6_smoothed_X6_checkRange
set_option maxRecDepth 20000 in
theorem ggX6_smoothed_X0_init : GoodIn wsX6_smoothed wsX0_init := goodIn_r _ [22, 23, 24, 25] rfl (by decide +kernel)
set_option maxRecDepth 20000 in
theorem gX6_smoothed_X0_init_n162 : GoodIn wsX6_smoothed (wsX0_init) := ggX6_smoothed_X0_init
set_option maxRecDepth 20000 in
theorem ggX6_smoothed_X1_smoothBack : GoodIn wsX6_smoothed wsX1_smoothBack := goodIn_r _ [30, 31, 32, 33, 34, 35, 36, 37, 38, 39, 40, 41, 42, 24, 25, 43, 44, 45, 29, 46, 47, 48, 49, 6, 50, 51, 52, 53, 54, 55, 56, 57, 58, 59, 60, 61, 62, 63, 64, 65, 66, 67, 68, 10, 69, 70, 71, 72, 73, 74, 75, 76, 77, 78, 79, 80, 81, 82, 83, 84, 85, 86, 87, 88, 89, 90, 91, 92, 93, 94, 95, 96, 97, 98, 99, 100, 101, 102, 103, 104, 105, 106, 124, 125, 126, 127, 128, 111, 112, 113, 114, 115, 116, 117, 118, 119, 129, 130, 131, 132, 133] rfl (by decide +kernel)
set_option maxRecDepth 20000 in
theorem gX6_smoothed_X1_smoothBack : GoodIn wsX6_smoothed (wsV RX6 163 RX1 yX1_smoothBack wsX1_smoothBack) := goodIn_app (goodIn_of _ (by decide +kernel)) ggX6_smoothed_X1_smoothBack
set_option maxRecDepth 20000 in
theorem ggX6_smoothed_X0_number : GoodIn wsX6_smoothed wsX0_number := goodIn_r _ [110, 51, 52, 118, 119] rfl (by decide +kernel)
set_option maxRecDepth 20000 in
theorem gX6_smoothed_X0_number : GoodIn wsX6_smoothed (wsV RX6 143 RX0 yX0_number wsX0_number) := goodIn_app (goodIn_of _ (by decide +kernel)) ggX6_smoothed_X0_number
theorem dX6_smoothed_0 : decode cX6_smoothed 0 = .ok (.aload_n 0, 1) := by decide +kernel
theorem dX6_smoothed_1 : decode cX6_smoothed 1 = .ok (.iload_n 1, 1) := by decide +kernel
theorem dX6_smoothed_2 : decode cX6_smoothed 2 = .ok (.invokevirtual 55, 3) := by decide +kernel
theorem dX6_smoothed_5 : decode cX6_smoothed 5 = .ok (.astore 4, 2) := by decide +kernel
theorem dX6_smoothed_7 : decode cX6_smoothed 7 = .ok (.iload_n 2, 1) := by decide +kernel
theorem dX6_smoothed_8 : decode cX6_smoothed 8 = .ok (.aload 4, 2) := by decide +kernel
theorem dX6_smoothed_10 : decode cX6_smoothed 10 = .ok (.getfield 62, 3) := by decide +kernel
theorem dX6_smoothed_13 : decode cX6_smoothed 13 = .ok (.invokestatic 35, 3) := by decide +kernel
theorem dX6_smoothed_16 : decode cX6_smoothed 16 = .ok (.iload_n 3, 1) := by decide +kernel
theorem dX6_smoothed_17 : decode cX6_smoothed 17 = .ok (.iconst 1, 1) := by decide +kernel
theorem dX6_smoothed_18 : decode cX6_smoothed 18 = .ok (.invokestatic 35, 3) := by decide +kernel
theorem dX6_smoothed_21 : decode cX6_smoothed 21 = .ok (.new 144, 3) := by decide +kernel
theorem dX6_smoothed_24 : decode cX6_smoothed 24 = .ok (.dup, 1) := by decide +kernel
theorem dX6_smoothed_25 : decode cX6_smoothed 25 = .ok (.invokespecial 162, 3) := by decide +kernel
theorem dX6_smoothed_28 : decode cX6_smoothed 28 = .ok (.astore 5, 2) := by decide +kernel
theorem dX6_smoothed_30 : decode cX6_smoothed 30 = .ok (.aload 4, 2) := by decide +kernel
theorem dX6_smoothed_32 : decode cX6_smoothed 32 = .ok (.iload_n 2, 1) := by decide +kernel
theorem dX6_smoothed_33 : decode cX6_smoothed 33 = .ok (.aload 5, 2) := by decide +kernel
theorem dX6_smoothed_35 : decode cX6_smoothed 35 = .ok (.invokevirtual 163, 3) := by decide +kernel
theorem dX6_smoothed_38 : decode cX6_smoothed 38 = .ok (.ifCond .ne 13, 3) := by decide +kernel
theorem dX6_smoothed_41 : decode cX6_smoothed 41 = .ok (.new 24, 3) := by decide +kernel
theorem dX6_smoothed_44 : decode cX6_smoothed 44 = .ok (.dup, 1) := by decide +kernel
theorem dX6_smoothed_45 : decode cX6_smoothed 45 = .ok (.ldc 167, 2) := by decide +kernel
theorem dX6_smoothed_47 : decode cX6_smoothed 47 = .ok (.invokespecial 28, 3) := by decide +kernel
theorem dX6_smoothed_50 : decode cX6_smoothed 50 = .ok (.athrow, 1) := by decide +kernel
theorem dX6_smoothed_51 : decode cX6_smoothed 51 = .ok (.aload 5, 2) := by decide +kernel
theorem dX6_smoothed_53 : decode cX6_smoothed 53 = .ok (.iload_n 3, 1) := by decide +kernel
theorem dX6_smoothed_54 : decode cX6_smoothed 54 = .ok (.invokevirtual 143, 3) := by decide +kernel
theorem dX6_smoothed_57 : decode cX6_smoothed 57 = .ok (.ireturn, 1) := by decide +kernel
set_option maxRecDepth 20000 in
theorem ggX6_ahead_X6_estimatorNumbered : GoodIn wsX6_ahead wsX6_estimatorNumbered := goodIn_ca (goodIn_r _ [13, 14, 15, 16, 17, 136, 137, 138, 139] (by decide +kernel) (by decide +kernel)) (goodIn_sub (fun _ h => List.mem_cons_of_mem _ (List.mem_append_left _ (List.mem_append_right _ h))) (by decide +kernel))
set_option maxRecDepth 20000 in
theorem gX6_ahead_X6_estimatorNumbered : GoodIn wsX6_ahead (wsV RX6 55 RX6 yX6_estimatorNumbered wsX6_estimatorNumbered) := goodIn_app (goodIn_of _ (by decide +kernel)) ggX6_ahead_X6_estimatorNumbered
set_option maxRecDepth 20000 in
theorem ggX6_ahead_X6_checkRange : GoodIn wsX6_ahead wsX6_checkRange := goodIn_ca (goodIn_r _ [20, 21, 22] (by decide +kernel) (by decide +kernel)) (goodIn_sub (fun _ h => List.mem_cons_of_mem _ (List.mem_append_right _ h)) (by decide +kernel))
set_option maxRecDepth 20000 in
theorem gX6_ahead_X6_checkRange : GoodIn wsX6_ahead (va_wsS RX6 35 yX6_checkRange wsX6_checkRange) := goodIn_app (goodIn_of _ (by decide +kernel)) ggX6_ahead_X6_checkRange
set_option maxRecDepth 20000 in
theorem ggX6_ahead_X4_init : GoodIn wsX6_ahead wsX4_init := goodIn_r _ [24, 25, 26, 27, 28, 29, 30, 31, 32, 33, 34, 35, 36, 37, 38, 39, 40, 41, 140, 141, 122, 123, 142, 143, 144] rfl (by decide +kernel)
set_option maxRecDepth 20000 in
theorem gX6_ahead_X4_init_n150 : GoodIn wsX6_ahead (wsX4_init) := ggX6_ahead_X4_init
set_option maxRecDepth 20000 in
theorem ggX6_ahead_X1_current : GoodIn wsX6_ahead wsX1_current := goodIn_r _ [46, 47, 48, 129, 130, 131, 132, 133, 134, 135] rfl (by decide +kernel)
set_option maxRecDepth 20000 in
theorem gX6_ahead_X1_current : GoodIn wsX6_ahead (wsV RX6 96 RX1 yX1_current wsX1_current) := goodIn_app (goodIn_of _ (by decide +kernel)) ggX6_ahead_X1_current
set_option maxRecDepth 20000 in
theorem ggX6_ahead_X4_copy : GoodIn wsX6_ahead wsX4_copy := goodIn_r _ [52, 31, 35, 53, 54, 55, 30, 56, 57, 58, 59, 60, 61, 62, 63, 64, 65, 34, 66, 67, 68, 69, 70, 71, 72, 73, 122, 123, 140, 141, 142, 143, 144] rfl (by decide +kernel)
set_option maxRecDepth 20000 in
theorem gX6_ahead_X4_copy : GoodIn wsX6_ahead (wsV RX6 170 RX4 yX4_copy wsX4_copy) := goodIn_app (goodIn_of _ (by decide +kernel)) ggX6_ahead_X4_copy
set_option maxRecDepth 20000 in
theorem ggX6_ahead_X3_init : GoodIn wsX6_ahead wsX3_init := goodIn_r _ [75, 76, 26, 27, 77, 33, 34, 78, 39, 40, 41, 142, 143, 144, 124, 125, 126, 127, 128] rfl (by decide +kernel)
set_option maxRecDepth 20000 in
theorem gX6_ahead_X3_init_n176 : GoodIn wsX6_ahead (wsX3_init) := ggX6_ahead_X3_init
set_option maxRecDepth 20000 in
theorem ggX6_ahead_X3_copy : GoodIn wsX6_ahead wsX3_copy := goodIn_r _ [82, 83, 84, 85, 86, 78, 87, 88, 89, 7, 90, 91, 64, 65, 34, 66, 67, 68, 69, 70, 71, 72, 73, 124, 125, 126, 127, 128, 142, 143, 144] rfl (by decide +kernel)
set_option maxRecDepth 20000 in
theorem gX6_ahead_X3_copy : GoodIn wsX6_ahead (wsV RX6 181 RX3 yX3_copy wsX3_copy) := goodIn_app (goodIn_of _ (by decide +kernel)) ggX6_ahead_X3_copy
set_option maxRecDepth 20000 in
theorem ggX6_ahead_X3_move : GoodIn wsX6_ahead wsX3_move := goodIn_r _ [95, 96, 83, 97, 84, 98, 85, 86, 99, 100, 60, 61, 30, 62, 57, 58, 101, 102, 103, 7, 104, 105, 106, 107, 78, 108, 71, 72, 34, 73, 67, 68, 69, 122, 123, 124, 125, 126, 127, 128, 140, 141, 142, 143, 144] rfl (by decide +kernel)
set_option maxRecDepth 20000 in
theorem gX6_ahead_X3_move : GoodIn wsX6_ahead (wsV RX6 184 RX3 yX3_move wsX3_move) := goodIn_app (goodIn_of _ (by decide +kernel)) ggX6_ahead_X3_move
set_option maxRecDepth 20000 in
theorem ggX6_ahead_X3_twice : GoodIn wsX6_ahead wsX3_twice := goodIn_r _ [112, 78, 84, 85, 83, 86, 101, 102, 103, 7, 104, 105, 106, 107, 108, 71, 72, 34, 73, 67, 68, 69, 87, 88, 89, 90, 124, 125, 126, 127, 128, 142, 143, 144] rfl (by decide +kernel)
set_option maxRecDepth 20000 in
theorem gX6_ahead_X3_twice : GoodIn wsX6_ahead (wsV RX6 187 RX3 yX3_twice wsX3_twice) := goodIn_app (goodIn_of _ (by decide +kernel)) ggX6_ahead_X3_twice
set_option maxRecDepth 20000 in
theorem ggX6_ahead_X4_number : GoodIn wsX6_ahead wsX4_number := goodIn_r _ [116, 31, 117, 118, 35, 119, 120, 121, 122, 123, 140, 141, 142, 143, 144] rfl (by decide +kernel)
set_option maxRecDepth 20000 in
theorem gX6_ahead_X4_number : GoodIn wsX6_ahead (wsV RX6 111 RX4 yX4_number wsX4_number) := goodIn_app (goodIn_of _ (by decide +kernel)) ggX6_ahead_X4_number
theorem dX6_ahead_0 : decode cX6_ahead 0 = .ok (.aload_n 0, 1) := by decide +kernel
theorem dX6_ahead_1 : decode cX6_ahead 1 = .ok (.iload_n 1, 1) := by decide +kernel
theorem dX6_ahead_2 : decode cX6_ahead 2 = .ok (.invokevirtual 55, 3) := by decide +kernel
theorem dX6_ahead_5 : decode cX6_ahead 5 = .ok (.astore 4, 2) := by decide +kernel
theorem dX6_ahead_7 : decode cX6_ahead 7 = .ok (.iload_n 2, 1) := by decide +kernel
theorem dX6_ahead_8 : decode cX6_ahead 8 = .ok (.ldc 169, 2) := by decide +kernel
theorem dX6_ahead_10 : decode cX6_ahead 10 = .ok (.invokestatic 35, 3) := by decide +kernel
theorem dX6_ahead_13 : decode cX6_ahead 13 = .ok (.iload_n 3, 1) := by decide +kernel
theorem dX6_ahead_14 : decode cX6_ahead 14 = .ok (.iconst 4, 1) := by decide +kernel
theorem dX6_ahead_15 : decode cX6_ahead 15 = .ok (.invokestatic 35, 3) := by decide +kernel
theorem dX6_ahead_18 : decode cX6_ahead 18 = .ok (.new 101, 3) := by decide +kernel
theorem dX6_ahead_21 : decode cX6_ahead 21 = .ok (.dup, 1) := by decide +kernel
theorem dX6_ahead_22 : decode cX6_ahead 22 = .ok (.invokespecial 150, 3) := by decide +kernel
theorem dX6_ahead_25 : decode cX6_ahead 25 = .ok (.astore 5, 2) := by decide +kernel
theorem dX6_ahead_27 : decode cX6_ahead 27 = .ok (.aload 5, 2) := by decide +kernel
theorem dX6_ahead_29 : decode cX6_ahead 29 = .ok (.aload 4, 2) := by decide +kernel
theorem dX6_ahead_31 : decode cX6_ahead 31 = .ok (.invokevirtual 96, 3) := by decide +kernel
theorem dX6_ahead_34 : decode cX6_ahead 34 = .ok (.invokevirtual 170, 3) := by decide +kernel
theorem dX6_ahead_37 : decode cX6_ahead 37 = .ok (.new 174, 3) := by decide +kernel
theorem dX6_ahead_40 : decode cX6_ahead 40 = .ok (.dup, 1) := by decide +kernel
theorem dX6_ahead_41 : decode cX6_ahead 41 = .ok (.invokespecial 176, 3) := by decide +kernel
theorem dX6_ahead_44 : decode cX6_ahead 44 = .ok (.astore 6, 2) := by decide +kernel
theorem dX6_ahead_46 : decode cX6_ahead 46 = .ok (.aload 6, 2) := by decide +kernel
theorem dX6_ahead_48 : decode cX6_ahead 48 = .ok (.aload 4, 2) := by decide +kernel
theorem dX6_ahead_50 : decode cX6_ahead 50 = .ok (.getfield 177, 3) := by decide +kernel
theorem dX6_ahead_53 : decode cX6_ahead 53 = .ok (.invokevirtual 181, 3) := by decide +kernel
theorem dX6_ahead_56 : decode cX6_ahead 56 = .ok (.iload_n 2, 1) := by decide +kernel
theorem dX6_ahead_57 : decode cX6_ahead 57 = .ok (.istore 7, 2) := by decide +kernel
theorem dX6_ahead_59 : decode cX6_ahead 59 = .ok (.iload 7, 2) := by decide +kernel
theorem dX6_ahead_61 : decode cX6_ahead 61 = .ok (.ifCond .le 32, 3) := by decide +kernel
theorem dX6_ahead_64 : decode cX6_ahead 64 = .ok (.iload 7, 2) := by decide +kernel
theorem dX6_ahead_66 : decode cX6_ahead 66 = .ok (.iconst 1, 1) := by decide +kernel
theorem dX6_ahead_67 : decode cX6_ahead 67 = .ok (.iand, 1) := by decide +kernel
theorem dX6_ahead_68 : decode cX6_ahead 68 = .ok (.iconst 1, 1) := by decide +kernel
theorem dX6_ahead_69 : decode cX6_ahead 69 = .ok (.if_icmp .ne 10, 3) := by decide +kernel
theorem dX6_ahead_72 : decode cX6_ahead 72 = .ok (.aload 6, 2) := by decide +kernel
theorem dX6_ahead_74 : decode cX6_ahead 74 = .ok (.aload 5, 2) := by decide +kernel
theorem dX6_ahead_76 : decode cX6_ahead 76 = .ok (.invokevirtual 184, 3) := by decide +kernel
theorem dX6_ahead_79 : decode cX6_ahead 79 = .ok (.aload 6, 2) := by decide +kernel
theorem dX6_ahead_81 : decode cX6_ahead 81 = .ok (.invokevirtual 187, 3) := by decide +kernel
theorem dX6_ahead_84 : decode cX6_ahead 84 = .ok (.iload 7, 2) := by decide +kernel
theorem dX6_ahead_86 : decode cX6_ahead 86 = .ok (.iconst 1, 1) := by decide +kernel
theorem dX6_ahead_87 : decode cX6_ahead 87 = .ok (.ishr, 1) := by decide +kernel
theorem dX6_ahead_88 : decode cX6_ahead 88 = .ok (.istore 7, 2) := by decide +kernel
theorem dX6_ahead_90 : decode cX6_ahead 90 = .ok (.goto (-31), 3) := by decide +kernel
theorem dX6_ahead_93 : decode cX6_ahead 93 = .ok (.aload 5, 2) := by decide +kernel
theorem dX6_ahead_95 : decode cX6_ahead 95 = .ok (.iload_n 3, 1) := by decide +kernel
theorem dX6_ahead_96 : decode cX6_ahead 96 = .ok (.invokevirtual 111, 3) := by decide +kernel
theorem dX6_ahead_99 : decode cX6_ahead 99 = .ok (.ireturn, 1) := by decide +kernel
set_option maxRecDepth 20000 in
theorem ggX6_aheadAnew_X6_estimatorNumbered : GoodIn wsX6_aheadAnew wsX6_estimatorNumbered := goodIn_ca (goodIn_r _ [9, 10, 11, 12, 13, 111, 112, 113, 114] (by decide +kernel) (by decide +kernel)) (goodIn_sub (fun _ h => List.mem_cons_of_mem _ (List.mem_append_left _ (List.mem_append_right _ h))) (by decide +kernel))
set_option maxRecDepth 20000 in
theorem gX6_aheadAnew_X6_estimatorNumbered : GoodIn wsX6_aheadAnew (wsV RX6 55 RX6 yX6_estimatorNumbered wsX6_estimatorNumbered) := goodIn_app (goodIn_of _ (by decide +kernel)) ggX6_aheadAnew_X6_estimatorNumbered
set_option maxRecDepth 20000 in
theorem ggX6_aheadAnew_X6_checkRange : GoodIn wsX6_aheadAnew wsX6_checkRange := goodIn_ca (goodIn_r _ [16, 17, 18] (by decide +kernel) (by decide +kernel)) (goodIn_sub (fun _ h => List.mem_cons_of_mem _ (List.mem_append_right _ h)) (by decide +kernel))
set_option maxRecDepth 20000 in
theorem gX6_aheadAnew_X6_checkRange : GoodIn wsX6_aheadAnew (va_wsS RX6 35 yX6_checkRange wsX6_checkRange) := goodIn_app (goodIn_of _ (by decide +kernel)) ggX6_aheadAnew_X6_checkRange
set_option maxRecDepth 20000 in
theorem ggX6_aheadAnew_X4_init : GoodIn wsX6_aheadAnew wsX4_init := goodIn_r _ [20, 21, 22, 23, 24, 25, 26, 27, 28, 29, 30, 31, 32, 33, 34, 35, 36, 37, 115, 116, 102, 103, 117, 118, 119] rfl (by decide +kernel)
set_option maxRecDepth 20000 in
theorem gX6_aheadAnew_X4_init_n150 : GoodIn wsX6_aheadAnew (wsX4_init) := ggX6_aheadAnew_X4_init
set_option maxRecDepth 20000 in
theorem ggX6_aheadAnew_X1_current : GoodIn wsX6_aheadAnew wsX1_current := goodIn_r _ [42, 43, 44, 104, 105, 106, 107, 108, 109, 110] rfl (by decide +kernel)
set_option maxRecDepth 20000 in
theorem gX6_aheadAnew_X1_current : GoodIn wsX6_aheadAnew (wsV RX6 96 RX1 yX1_current wsX1_current) := goodIn_app (goodIn_of _ (by decide +kernel)) ggX6_aheadAnew_X1_current
set_option maxRecDepth 20000 in
theorem ggX6_aheadAnew_X4_copy : GoodIn wsX6_aheadAnew wsX4_copy := goodIn_r _ [48, 27, 31, 49, 50, 51, 26, 52, 53, 54, 55, 56, 57, 58, 59, 60, 61, 30, 62, 63, 64, 65, 66, 67, 68, 69, 102, 103, 115, 116, 117, 118, 119] rfl (by decide +kernel)
set_option maxRecDepth 20000 in
theorem gX6_aheadAnew_X4_copy : GoodIn wsX6_aheadAnew (wsV RX6 170 RX4 yX4_copy wsX4_copy) := goodIn_app (goodIn_of _ (by decide +kernel)) ggX6_aheadAnew_X4_copy
set_option maxRecDepth 20000 in
theorem ggX6_aheadAnew_X3_move : GoodIn wsX6_aheadAnew wsX3_move := goodIn_r _ [74, 75, 76, 77, 78, 79, 80, 81, 82, 83, 56, 57, 26, 58, 53, 54, 84, 85, 86, 73, 87, 88, 89, 90, 91, 92, 67, 68, 30, 69, 63, 64, 65, 102, 103, 120, 121, 122, 123, 124, 115, 116, 117, 118, 119] rfl (by decide +kernel)
set_option maxRecDepth 20000 in
theorem gX6_aheadAnew_X3_move : GoodIn wsX6_aheadAnew (wsV RX6 184 RX3 yX3_move wsX3_move) := goodIn_app (goodIn_of _ (by decide +kernel)) ggX6_aheadAnew_X3_move
set_option maxRecDepth 20000 in
theorem ggX6_aheadAnew_X4_number : GoodIn wsX6_aheadAnew wsX4_number := goodIn_r _ [96, 27, 97, 98, 31, 99, 100, 101, 102, 103, 115, 116, 117, 118, 119] rfl (by decide +kernel)
set_option maxRecDepth 20000 in
theorem gX6_aheadAnew_X4_number : GoodIn wsX6_aheadAnew (wsV RX6 111 RX4 yX4_number wsX4_number) := goodIn_app (goodIn_of _ (by decide +kernel)) ggX6_aheadAnew_X4_number
theorem dX6_aheadAnew_0 : decode cX6_aheadAnew 0 = .ok (.aload_n 0, 1) := by decide +kernel
theorem dX6_aheadAnew_1 : decode cX6_aheadAnew 1 = .ok (.iload_n 1, 1) := by decide +kernel
theorem dX6_aheadAnew_2 : decode cX6_aheadAnew 2 = .ok (.invokevirtual 55, 3) := by decide +kernel
theorem dX6_aheadAnew_5 : decode cX6_aheadAnew 5 = .ok (.astore 4, 2) := by decide +kernel
theorem dX6_aheadAnew_7 : decode cX6_aheadAnew 7 = .ok (.iload_n 2, 1) := by decide +kernel
theorem dX6_aheadAnew_8 : decode cX6_aheadAnew 8 = .ok (.sipush 200, 3) := by decide +kernel
theorem dX6_aheadAnew_11 : decode cX6_aheadAnew 11 = .ok (.invokestatic 35, 3) := by decide +kernel
theorem dX6_aheadAnew_14 : decode cX6_aheadAnew 14 = .ok (.iload_n 3, 1) := by decide +kernel
theorem dX6_aheadAnew_15 : decode cX6_aheadAnew 15 = .ok (.iconst 4, 1) := by decide +kernel
theorem dX6_aheadAnew_16 : decode cX6_aheadAnew 16 = .ok (.invokestatic 35, 3) := by decide +kernel
theorem dX6_aheadAnew_19 : decode cX6_aheadAnew 19 = .ok (.new 101, 3) := by decide +kernel
theorem dX6_aheadAnew_22 : decode cX6_aheadAnew 22 = .ok (.dup, 1) := by decide +kernel
theorem dX6_aheadAnew_23 : decode cX6_aheadAnew 23 = .ok (.invokespecial 150, 3) := by decide +kernel
theorem dX6_aheadAnew_26 : decode cX6_aheadAnew 26 = .ok (.astore 5, 2) := by decide +kernel
theorem dX6_aheadAnew_28 : decode cX6_aheadAnew 28 = .ok (.aload 5, 2) := by decide +kernel
theorem dX6_aheadAnew_30 : decode cX6_aheadAnew 30 = .ok (.aload 4, 2) := by decide +kernel
theorem dX6_aheadAnew_32 : decode cX6_aheadAnew 32 = .ok (.invokevirtual 96, 3) := by decide +kernel
theorem dX6_aheadAnew_35 : decode cX6_aheadAnew 35 = .ok (.invokevirtual 170, 3) := by decide +kernel
theorem dX6_aheadAnew_38 : decode cX6_aheadAnew 38 = .ok (.iconst 0, 1) := by decide +kernel
theorem dX6_aheadAnew_39 : decode cX6_aheadAnew 39 = .ok (.istore 6, 2) := by decide +kernel
theorem dX6_aheadAnew_41 : decode cX6_aheadAnew 41 = .ok (.iload 6, 2) := by decide +kernel
theorem dX6_aheadAnew_43 : decode cX6_aheadAnew 43 = .ok (.iload_n 2, 1) := by decide +kernel
theorem dX6_aheadAnew_44 : decode cX6_aheadAnew 44 = .ok (.if_icmp .ge 19, 3) := by decide +kernel
theorem dX6_aheadAnew_47 : decode cX6_aheadAnew 47 = .ok (.aload 4, 2) := by decide +kernel
theorem dX6_aheadAnew_49 : decode cX6_aheadAnew 49 = .ok (.getfield 177, 3) := by decide +kernel
theorem dX6_aheadAnew_52 : decode cX6_aheadAnew 52 = .ok (.aload 5, 2) := by decide +kernel
theorem dX6_aheadAnew_54 : decode cX6_aheadAnew 54 = .ok (.invokevirtual 184, 3) := by decide +kernel
theorem dX6_aheadAnew_57 : decode cX6_aheadAnew 57 = .ok (.iinc 6 1, 3) := by decide +kernel
theorem dX6_aheadAnew_60 : decode cX6_aheadAnew 60 = .ok (.goto (-19), 3) := by decide +kernel
theorem dX6_aheadAnew_63 : decode cX6_aheadAnew 63 = .ok (.aload 5, 2) := by decide +kernel
theorem dX6_aheadAnew_65 : decode cX6_aheadAnew 65 = .ok (.iload_n 3, 1) := by decide +kernel
theorem dX6_aheadAnew_66 : decode cX6_aheadAnew 66 = .ok (.invokevirtual 111, 3) := by decide +kernel
theorem dX6_aheadAnew_69 : decode cX6_aheadAnew 69 = .ok (.ireturn, 1) := by decide +kernel
theorem dX6_modelNumbered_0 : decode cX6_modelNumbered 0 = .ok (.iload_n 1, 1) := by decide +kernel
theorem dX6_modelNumbered_1 : decode cX6_modelNumbered 1 = .ok (.ifCond .lt 11, 3) := by decide +kernel
theorem dX6_modelNumbered_4 : decode cX6_modelNumbered 4 = .ok (.iload_n 1, 1) := by decide +kernel
theorem dX6_modelNumbered_5 : decode cX6_modelNumbered 5 = .ok (.aload_n 0, 1) := by decide +kernel
theorem dX6_modelNumbered_6 : decode cX6_modelNumbered 6 = .ok (.getfield 20, 3) := by decide +kernel
theorem dX6_modelNumbered_9 : decode cX6_modelNumbered 9 = .ok (.if_icmp .lt 13, 3) := by decide +kernel
theorem dX6_modelNumbered_12 : decode cX6_modelNumbered 12 = .ok (.new 190, 3) := by decide +kernel
theorem dX6_modelNumbered_15 : decode cX6_modelNumbered 15 = .ok (.dup, 1) := by decide +kernel
theorem dX6_modelNumbered_16 : decode cX6_modelNumbered 16 = .ok (.ldc 192, 2) := by decide +kernel
theorem dX6_modelNumbered_18 : decode cX6_modelNumbered 18 = .ok (.invokespecial 194, 3) := by decide +kernel
theorem dX6_modelNumbered_21 : decode cX6_modelNumbered 21 = .ok (.athrow, 1) := by decide +kernel
theorem dX6_modelNumbered_22 : decode cX6_modelNumbered 22 = .ok (.aload_n 0, 1) := by decide +kernel
theorem dX6_modelNumbered_23 : decode cX6_modelNumbered 23 = .ok (.getfield 11, 3) := by decide +kernel
theorem dX6_modelNumbered_26 : decode cX6_modelNumbered 26 = .ok (.iload_n 1, 1) := by decide +kernel
theorem dX6_modelNumbered_27 : decode cX6_modelNumbered 27 = .ok (.aaload, 1) := by decide +kernel
theorem dX6_modelNumbered_28 : decode cX6_modelNumbered 28 = .ok (.areturn, 1) := by decide +kernel
theorem dX6_estimatorNumbered_0 : decode cX6_estimatorNumbered 0 = .ok (.iload_n 1, 1) := by decide +kernel
theorem dX6_estimatorNumbered_1 : decode cX6_estimatorNumbered 1 = .ok (.ifCond .lt 11, 3) := by decide +kernel
theorem dX6_estimatorNumbered_4 : decode cX6_estimatorNumbered 4 = .ok (.iload_n 1, 1) := by decide +kernel
theorem dX6_estimatorNumbered_5 : decode cX6_estimatorNumbered 5 = .ok (.aload_n 0, 1) := by decide +kernel
theorem dX6_estimatorNumbered_6 : decode cX6_estimatorNumbered 6 = .ok (.getfield 43, 3) := by decide +kernel
theorem dX6_estimatorNumbered_9 : decode cX6_estimatorNumbered 9 = .ok (.if_icmp .lt 13, 3) := by decide +kernel
theorem dX6_estimatorNumbered_12 : decode cX6_estimatorNumbered 12 = .ok (.new 190, 3) := by decide +kernel
theorem dX6_estimatorNumbered_15 : decode cX6_estimatorNumbered 15 = .ok (.dup, 1) := by decide +kernel
theorem dX6_estimatorNumbered_16 : decode cX6_estimatorNumbered 16 = .ok (.ldc 195, 2) := by decide +kernel
theorem dX6_estimatorNumbered_18 : decode cX6_estimatorNumbered 18 = .ok (.invokespecial 194, 3) := by decide +kernel
theorem dX6_estimatorNumbered_21 : decode cX6_estimatorNumbered 21 = .ok (.athrow, 1) := by decide +kernel
theorem dX6_estimatorNumbered_22 : decode cX6_estimatorNumbered 22 = .ok (.aload_n 0, 1) := by decide +kernel
theorem dX6_estimatorNumbered_23 : decode cX6_estimatorNumbered 23 = .ok (.getfield 16, 3) := by decide +kernel
theorem dX6_estimatorNumbered_26 : decode cX6_estimatorNumbered 26 = .ok (.iload_n 1, 1) := by decide +kernel
theorem dX6_estimatorNumbered_27 : decode cX6_estimatorNumbered 27 = .ok (.aaload, 1) := by decide +kernel
theorem dX6_estimatorNumbered_28 : decode cX6_estimatorNumbered 28 = .ok (.areturn, 1) := by decide +kernel
theorem dX6_measurementNumbered_0 : decode cX6_measurementNumbered 0 = .ok (.iload_n 1, 1) := by decide +kernel
theorem dX6_measurementNumbered_1 : decode cX6_measurementNumbered 1 = .ok (.ifCond .lt 11, 3) := by decide +kernel
theorem dX6_measurementNumbered_4 : decode cX6_measurementNumbered 4 = .ok (.iload_n 1, 1) := by decide +kernel
theorem dX6_measurementNumbered_5 : decode cX6_measurementNumbered 5 = .ok (.aload_n 0, 1) := by decide +kernel
theorem dX6_measurementNumbered_6 : decode cX6_measurementNumbered 6 = .ok (.getfield 89, 3) := by decide +kernel
theorem dX6_measurementNumbered_9 : decode cX6_measurementNumbered 9 = .ok (.if_icmp .lt 13, 3) := by decide +kernel
theorem dX6_measurementNumbered_12 : decode cX6_measurementNumbered 12 = .ok (.new 190, 3) := by decide +kernel
theorem dX6_measurementNumbered_15 : decode cX6_measurementNumbered 15 = .ok (.dup, 1) := by decide +kernel
theorem dX6_measurementNumbered_16 : decode cX6_measurementNumbered 16 = .ok (.ldc 197, 2) := by decide +kernel
theorem dX6_measurementNumbered_18 : decode cX6_measurementNumbered 18 = .ok (.invokespecial 194, 3) := by decide +kernel
theorem dX6_measurementNumbered_21 : decode cX6_measurementNumbered 21 = .ok (.athrow, 1) := by decide +kernel
theorem dX6_measurementNumbered_22 : decode cX6_measurementNumbered 22 = .ok (.aload_n 0, 1) := by decide +kernel
theorem dX6_measurementNumbered_23 : decode cX6_measurementNumbered 23 = .ok (.getfield 199, 3) := by decide +kernel
theorem dX6_measurementNumbered_26 : decode cX6_measurementNumbered 26 = .ok (.iload_n 1, 1) := by decide +kernel
theorem dX6_measurementNumbered_27 : decode cX6_measurementNumbered 27 = .ok (.aaload, 1) := by decide +kernel
theorem dX6_measurementNumbered_28 : decode cX6_measurementNumbered 28 = .ok (.areturn, 1) := by decide +kernel
theorem dX6_checkRange_0 : decode cX6_checkRange 0 = .ok (.iload_n 0, 1) := by decide +kernel
theorem dX6_checkRange_1 : decode cX6_checkRange 1 = .ok (.ifCond .lt 8, 3) := by decide +kernel
theorem dX6_checkRange_4 : decode cX6_checkRange 4 = .ok (.iload_n 0, 1) := by decide +kernel
theorem dX6_checkRange_5 : decode cX6_checkRange 5 = .ok (.iload_n 1, 1) := by decide +kernel
theorem dX6_checkRange_6 : decode cX6_checkRange 6 = .ok (.if_icmp .le 13, 3) := by decide +kernel
theorem dX6_checkRange_9 : decode cX6_checkRange 9 = .ok (.new 203, 3) := by decide +kernel
theorem dX6_checkRange_12 : decode cX6_checkRange 12 = .ok (.dup, 1) := by decide +kernel
theorem dX6_checkRange_13 : decode cX6_checkRange 13 = .ok (.ldc 205, 2) := by decide +kernel
theorem dX6_checkRange_15 : decode cX6_checkRange 15 = .ok (.invokespecial 207, 3) := by decide +kernel
theorem dX6_checkRange_18 : decode cX6_checkRange 18 = .ok (.athrow, 1) := by decide +kernel
theorem dX6_checkRange_19 : decode cX6_checkRange 19 = .ok (.return_, 1) := by decide +kernel
set_option maxRecDepth 20000 in
theorem ggX6_checkField_X6_checkRange : GoodIn wsX6_checkField wsX6_checkRange := goodIn_ca (goodIn_r _ [4, 5, 6] (by decide +kernel) (by decide +kernel)) (goodIn_sub (fun _ h => List.mem_cons_of_mem _ (List.mem_append_right _ h)) (by decide +kernel))
set_option maxRecDepth 20000 in
theorem gX6_checkField_X6_checkRange : GoodIn wsX6_checkField (va_wsS RX6 35 yX6_checkRange wsX6_checkRange) := goodIn_app (goodIn_of _ (by decide +kernel)) ggX6_checkField_X6_checkRange
theorem dX6_checkField_0 : decode cX6_checkField 0 = .ok (.iload_n 0, 1) := by decide +kernel
theorem dX6_checkField_1 : decode cX6_checkField 1 = .ok (.sipush 10006, 3) := by decide +kernel
theorem dX6_checkField_4 : decode cX6_checkField 4 = .ok (.invokestatic 35, 3) := by decide +kernel
theorem dX6_checkField_7 : decode cX6_checkField 7 = .ok (.return_, 1) := by decide +kernel
set_option maxRecDepth 20000 in
theorem ggX6_tell_X6_checkField : GoodIn wsX6_tell wsX6_checkField := goodIn_ca (goodIn_r _ [9, 10, 11, 8, 12, 13, 14] (by decide +kernel) (by decide +kernel)) (goodIn_sub (fun _ h => List.mem_cons_of_mem _ (List.mem_append_right _ h)) (by decide +kernel))
set_option maxRecDepth 20000 in
theorem gX6_tell_X6_checkField : GoodIn wsX6_tell (va_wsS RX6 39 yX6_checkField wsX6_checkField) := goodIn_app (goodIn_of _ (by decide +kernel)) ggX6_tell_X6_checkField
set_option maxRecDepth 20000 in
theorem ggX6_tell_X2_look : GoodIn wsX6_tell wsX2_look := goodIn_r _ [19, 20, 21, 22, 23, 24, 25, 26, 27, 28, 29, 150, 151, 152, 153, 154, 155, 156, 157, 158, 159, 160, 161, 162] rfl (by decide +kernel)
set_option maxRecDepth 20000 in
theorem gX6_tell_X2_look : GoodIn wsX6_tell (wsV RX6 129 RX2 yX2_look wsX2_look) := goodIn_app (goodIn_of _ (by decide +kernel)) ggX6_tell_X2_look
set_option maxRecDepth 20000 in
theorem ggX6_tell_X2_place : GoodIn wsX6_tell wsX2_place := goodIn_r _ [33, 34, 35, 150, 151, 152, 153, 154, 155, 156, 157, 158, 159, 160] rfl (by decide +kernel)
set_option maxRecDepth 20000 in
theorem gX6_tell_X2_place : GoodIn wsX6_tell (wsV RX6 210 RX2 yX2_place wsX2_place) := goodIn_app (goodIn_of _ (by decide +kernel)) ggX6_tell_X2_place
set_option maxRecDepth 20000 in
theorem ggX6_tell_X1_settle : GoodIn wsX6_tell wsX1_settle := goodIn_r _ [40, 41, 42, 43, 44, 45, 46, 47, 48, 49, 50, 51, 52, 53, 54, 55, 56, 26, 57, 28, 29, 58, 24, 25, 27, 59, 60, 61, 62, 63, 64, 65, 66, 67, 68, 69, 70, 71, 72, 73, 74, 75, 76, 77, 78, 79, 80, 81, 82, 83, 84, 85, 86, 87, 88, 89, 90, 91, 92, 93, 94, 95, 96, 18, 97, 34, 98, 99, 100, 101, 102, 103, 104, 21, 20, 105, 106, 107, 108, 109, 35, 110, 111, 112, 113, 114, 115, 22, 116, 117, 118, 119, 120, 121, 122, 123, 124, 8, 125, 126, 127, 128, 129, 130, 131, 132, 133, 134, 135, 136, 137, 138, 23, 139, 140, 141, 142, 143, 144, 145, 146, 147, 148, 149, 163, 164, 161, 162, 165, 166, 167, 168, 169, 170, 171, 172, 150, 151, 152, 153, 154, 155, 156, 157, 158, 159, 160] rfl (by decide +kernel)
set_option maxRecDepth 20000 in
theorem gX6_tell_X1_settle : GoodIn wsX6_tell (wsV RX6 67 RX1 yX1_settle wsX1_settle) := goodIn_app (goodIn_of _ (by decide +kernel)) ggX6_tell_X1_settle
theorem dX6_tell_0 : decode cX6_tell 0 = .ok (.iload_n 2, 1) := by decide +kernel
theorem dX6_tell_1 : decode cX6_tell 1 = .ok (.invokestatic 39, 3) := by decide +kernel
theorem dX6_tell_4 : decode cX6_tell 4 = .ok (.iload_n 3, 1) := by decide +kernel
theorem dX6_tell_5 : decode cX6_tell 5 = .ok (.invokestatic 39, 3) := by decide +kernel
theorem dX6_tell_8 : decode cX6_tell 8 = .ok (.iload 4, 2) := by decide +kernel
theorem dX6_tell_10 : decode cX6_tell 10 = .ok (.invokestatic 39, 3) := by decide +kernel
theorem dX6_tell_13 : decode cX6_tell 13 = .ok (.iload 5, 2) := by decide +kernel
theorem dX6_tell_15 : decode cX6_tell 15 = .ok (.invokestatic 39, 3) := by decide +kernel
theorem dX6_tell_18 : decode cX6_tell 18 = .ok (.aload_n 0, 1) := by decide +kernel
theorem dX6_tell_19 : decode cX6_tell 19 = .ok (.getfield 89, 3) := by decide +kernel
theorem dX6_tell_22 : decode cX6_tell 22 = .ok (.bipush 30, 2) := by decide +kernel
theorem dX6_tell_24 : decode cX6_tell 24 = .ok (.if_icmp .lt 13, 3) := by decide +kernel
theorem dX6_tell_27 : decode cX6_tell 27 = .ok (.new 24, 3) := by decide +kernel
theorem dX6_tell_30 : decode cX6_tell 30 = .ok (.dup, 1) := by decide +kernel
theorem dX6_tell_31 : decode cX6_tell 31 = .ok (.ldc 208, 2) := by decide +kernel
theorem dX6_tell_33 : decode cX6_tell 33 = .ok (.invokespecial 28, 3) := by decide +kernel
theorem dX6_tell_36 : decode cX6_tell 36 = .ok (.athrow, 1) := by decide +kernel
theorem dX6_tell_37 : decode cX6_tell 37 = .ok (.aload_n 0, 1) := by decide +kernel
theorem dX6_tell_38 : decode cX6_tell 38 = .ok (.getfield 199, 3) := by decide +kernel
theorem dX6_tell_41 : decode cX6_tell 41 = .ok (.aload_n 0, 1) := by decide +kernel
theorem dX6_tell_42 : decode cX6_tell 42 = .ok (.getfield 89, 3) := by decide +kernel
theorem dX6_tell_45 : decode cX6_tell 45 = .ok (.aaload, 1) := by decide +kernel
theorem dX6_tell_46 : decode cX6_tell 46 = .ok (.astore 6, 2) := by decide +kernel
theorem dX6_tell_48 : decode cX6_tell 48 = .ok (.aload 6, 2) := by decide +kernel
theorem dX6_tell_50 : decode cX6_tell 50 = .ok (.iload_n 2, 1) := by decide +kernel
theorem dX6_tell_51 : decode cX6_tell 51 = .ok (.iload_n 3, 1) := by decide +kernel
theorem dX6_tell_52 : decode cX6_tell 52 = .ok (.iload 4, 2) := by decide +kernel
theorem dX6_tell_54 : decode cX6_tell 54 = .ok (.iload 5, 2) := by decide +kernel
theorem dX6_tell_56 : decode cX6_tell 56 = .ok (.invokevirtual 129, 3) := by decide +kernel
theorem dX6_tell_59 : decode cX6_tell 59 = .ok (.aload 6, 2) := by decide +kernel
theorem dX6_tell_61 : decode cX6_tell 61 = .ok (.iload_n 1, 1) := by decide +kernel
theorem dX6_tell_62 : decode cX6_tell 62 = .ok (.aload_n 0, 1) := by decide +kernel
theorem dX6_tell_63 : decode cX6_tell 63 = .ok (.getfield 59, 3) := by decide +kernel
theorem dX6_tell_66 : decode cX6_tell 66 = .ok (.invokevirtual 210, 3) := by decide +kernel
theorem dX6_tell_69 : decode cX6_tell 69 = .ok (.aload_n 0, 1) := by decide +kernel
theorem dX6_tell_70 : decode cX6_tell 70 = .ok (.dup, 1) := by decide +kernel
theorem dX6_tell_71 : decode cX6_tell 71 = .ok (.getfield 89, 3) := by decide +kernel
theorem dX6_tell_74 : decode cX6_tell 74 = .ok (.iconst 1, 1) := by decide +kernel
theorem dX6_tell_75 : decode cX6_tell 75 = .ok (.iadd, 1) := by decide +kernel
theorem dX6_tell_76 : decode cX6_tell 76 = .ok (.putfield 89, 3) := by decide +kernel
theorem dX6_tell_79 : decode cX6_tell 79 = .ok (.aload_n 0, 1) := by decide +kernel
theorem dX6_tell_80 : decode cX6_tell 80 = .ok (.invokevirtual 67, 3) := by decide +kernel
theorem dX6_tell_83 : decode cX6_tell 83 = .ok (.ifCond .ne 28, 3) := by decide +kernel
theorem dX6_tell_86 : decode cX6_tell 86 = .ok (.aload_n 0, 1) := by decide +kernel
theorem dX6_tell_87 : decode cX6_tell 87 = .ok (.dup, 1) := by decide +kernel
theorem dX6_tell_88 : decode cX6_tell 88 = .ok (.getfield 89, 3) := by decide +kernel
theorem dX6_tell_91 : decode cX6_tell 91 = .ok (.iconst 1, 1) := by decide +kernel
theorem dX6_tell_92 : decode cX6_tell 92 = .ok (.isub, 1) := by decide +kernel
theorem dX6_tell_93 : decode cX6_tell 93 = .ok (.putfield 89, 3) := by decide +kernel
theorem dX6_tell_96 : decode cX6_tell 96 = .ok (.aload_n 0, 1) := by decide +kernel
theorem dX6_tell_97 : decode cX6_tell 97 = .ok (.invokevirtual 67, 3) := by decide +kernel
theorem dX6_tell_100 : decode cX6_tell 100 = .ok (.pop, 1) := by decide +kernel
theorem dX6_tell_101 : decode cX6_tell 101 = .ok (.new 24, 3) := by decide +kernel
theorem dX6_tell_104 : decode cX6_tell 104 = .ok (.dup, 1) := by decide +kernel
theorem dX6_tell_105 : decode cX6_tell 105 = .ok (.ldc 87, 2) := by decide +kernel
theorem dX6_tell_107 : decode cX6_tell 107 = .ok (.invokespecial 28, 3) := by decide +kernel
theorem dX6_tell_110 : decode cX6_tell 110 = .ok (.athrow, 1) := by decide +kernel
theorem dX6_tell_111 : decode cX6_tell 111 = .ok (.aload_n 0, 1) := by decide +kernel
theorem dX6_tell_112 : decode cX6_tell 112 = .ok (.getfield 89, 3) := by decide +kernel
theorem dX6_tell_115 : decode cX6_tell 115 = .ok (.iconst 1, 1) := by decide +kernel
theorem dX6_tell_116 : decode cX6_tell 116 = .ok (.isub, 1) := by decide +kernel
theorem dX6_tell_117 : decode cX6_tell 117 = .ok (.ireturn, 1) := by decide +kernel
set_option maxRecDepth 20000 in
theorem ggX6_less_J9_floorMod_7cf53 : GoodIn wsX6_less wsJ9_floorMod_7cf53 := goodIn_r _ [4] rfl (by decide +kernel)
set_option maxRecDepth 20000 in
theorem gX6_less_J9_floorMod_7cf53 : GoodIn wsX6_less (va_wsS RX6 213 yJ9_floorMod_7cf53 wsJ9_floorMod_7cf53) := goodIn_app (goodIn_of _ (by decide +kernel)) ggX6_less_J9_floorMod_7cf53
theorem dX6_less_0 : decode cX6_less 0 = .ok (.iload_n 0, 1) := by decide +kernel
theorem dX6_less_1 : decode cX6_less 1 = .ok (.iload_n 1, 1) := by decide +kernel
theorem dX6_less_2 : decode cX6_less 2 = .ok (.isub, 1) := by decide +kernel
theorem dX6_less_3 : decode cX6_less 3 = .ok (.sipush 10007, 3) := by decide +kernel
theorem dX6_less_6 : decode cX6_less 6 = .ok (.invokestatic 213, 3) := by decide +kernel
theorem dX6_less_9 : decode cX6_less 9 = .ok (.ireturn, 1) := by decide +kernel
theorem dX6_inverse_0 : decode cX6_inverse 0 = .ok (.iconst 1, 1) := by decide +kernel
theorem dX6_inverse_1 : decode cX6_inverse 1 = .ok (.istore_n 1, 1) := by decide +kernel
theorem dX6_inverse_2 : decode cX6_inverse 2 = .ok (.iload_n 0, 1) := by decide +kernel
theorem dX6_inverse_3 : decode cX6_inverse 3 = .ok (.istore_n 2, 1) := by decide +kernel
theorem dX6_inverse_4 : decode cX6_inverse 4 = .ok (.sipush 10005, 3) := by decide +kernel
theorem dX6_inverse_7 : decode cX6_inverse 7 = .ok (.istore_n 3, 1) := by decide +kernel
theorem dX6_inverse_8 : decode cX6_inverse 8 = .ok (.iload_n 3, 1) := by decide +kernel
theorem dX6_inverse_9 : decode cX6_inverse 9 = .ok (.ifCond .le 33, 3) := by decide +kernel
theorem dX6_inverse_12 : decode cX6_inverse 12 = .ok (.iload_n 3, 1) := by decide +kernel
theorem dX6_inverse_13 : decode cX6_inverse 13 = .ok (.iconst 1, 1) := by decide +kernel
theorem dX6_inverse_14 : decode cX6_inverse 14 = .ok (.iand, 1) := by decide +kernel
theorem dX6_inverse_15 : decode cX6_inverse 15 = .ok (.iconst 1, 1) := by decide +kernel
theorem dX6_inverse_16 : decode cX6_inverse 16 = .ok (.if_icmp .ne 11, 3) := by decide +kernel
theorem dX6_inverse_19 : decode cX6_inverse 19 = .ok (.iload_n 1, 1) := by decide +kernel
theorem dX6_inverse_20 : decode cX6_inverse 20 = .ok (.iload_n 2, 1) := by decide +kernel
theorem dX6_inverse_21 : decode cX6_inverse 21 = .ok (.imul, 1) := by decide +kernel
theorem dX6_inverse_22 : decode cX6_inverse 22 = .ok (.sipush 10007, 3) := by decide +kernel
theorem dX6_inverse_25 : decode cX6_inverse 25 = .ok (.irem, 1) := by decide +kernel
theorem dX6_inverse_26 : decode cX6_inverse 26 = .ok (.istore_n 1, 1) := by decide +kernel
theorem dX6_inverse_27 : decode cX6_inverse 27 = .ok (.iload_n 2, 1) := by decide +kernel
theorem dX6_inverse_28 : decode cX6_inverse 28 = .ok (.iload_n 2, 1) := by decide +kernel
theorem dX6_inverse_29 : decode cX6_inverse 29 = .ok (.imul, 1) := by decide +kernel
theorem dX6_inverse_30 : decode cX6_inverse 30 = .ok (.sipush 10007, 3) := by decide +kernel
theorem dX6_inverse_33 : decode cX6_inverse 33 = .ok (.irem, 1) := by decide +kernel
theorem dX6_inverse_34 : decode cX6_inverse 34 = .ok (.istore_n 2, 1) := by decide +kernel
theorem dX6_inverse_35 : decode cX6_inverse 35 = .ok (.iload_n 3, 1) := by decide +kernel
theorem dX6_inverse_36 : decode cX6_inverse 36 = .ok (.iconst 1, 1) := by decide +kernel
theorem dX6_inverse_37 : decode cX6_inverse 37 = .ok (.ishr, 1) := by decide +kernel
theorem dX6_inverse_38 : decode cX6_inverse 38 = .ok (.istore_n 3, 1) := by decide +kernel
theorem dX6_inverse_39 : decode cX6_inverse 39 = .ok (.goto (-31), 3) := by decide +kernel
theorem dX6_inverse_42 : decode cX6_inverse 42 = .ok (.iload_n 1, 1) := by decide +kernel
theorem dX6_inverse_43 : decode cX6_inverse 43 = .ok (.ireturn, 1) := by decide +kernel
set_option maxRecDepth 20000 in
theorem ggX6_divide_X6_inverse : GoodIn wsX6_divide wsX6_inverse := goodIn_r _ [4] rfl (by decide +kernel)
set_option maxRecDepth 20000 in
theorem gX6_divide_X6_inverse : GoodIn wsX6_divide (va_wsS RX6 218 yX6_inverse wsX6_inverse) := goodIn_app (goodIn_of _ (by decide +kernel)) ggX6_divide_X6_inverse
theorem dX6_divide_0 : decode cX6_divide 0 = .ok (.iload_n 0, 1) := by decide +kernel
theorem dX6_divide_1 : decode cX6_divide 1 = .ok (.iload_n 1, 1) := by decide +kernel
theorem dX6_divide_2 : decode cX6_divide 2 = .ok (.invokestatic 218, 3) := by decide +kernel
theorem dX6_divide_5 : decode cX6_divide 5 = .ok (.imul, 1) := by decide +kernel
theorem dX6_divide_6 : decode cX6_divide 6 = .ok (.sipush 10007, 3) := by decide +kernel
theorem dX6_divide_9 : decode cX6_divide 9 = .ok (.irem, 1) := by decide +kernel
theorem dX6_divide_10 : decode cX6_divide 10 = .ok (.ireturn, 1) := by decide +kernel
theorem dJ9_floorMod_7cf53_0 : decode cJ9_floorMod_7cf53 0 = .ok (.iload_n 0, 1) := by decide +kernel
theorem dJ9_floorMod_7cf53_1 : decode cJ9_floorMod_7cf53 1 = .ok (.iload_n 1, 1) := by decide +kernel
theorem dJ9_floorMod_7cf53_2 : decode cJ9_floorMod_7cf53 2 = .ok (.irem, 1) := by decide +kernel
theorem dJ9_floorMod_7cf53_3 : decode cJ9_floorMod_7cf53 3 = .ok (.istore_n 2, 1) := by decide +kernel
theorem dJ9_floorMod_7cf53_4 : decode cJ9_floorMod_7cf53 4 = .ok (.iload_n 0, 1) := by decide +kernel
theorem dJ9_floorMod_7cf53_5 : decode cJ9_floorMod_7cf53 5 = .ok (.iload_n 1, 1) := by decide +kernel
theorem dJ9_floorMod_7cf53_6 : decode cJ9_floorMod_7cf53 6 = .ok (.ixor, 1) := by decide +kernel
theorem dJ9_floorMod_7cf53_7 : decode cJ9_floorMod_7cf53 7 = .ok (.ifCond .ge 11, 3) := by decide +kernel
theorem dJ9_floorMod_7cf53_10 : decode cJ9_floorMod_7cf53 10 = .ok (.iload_n 2, 1) := by decide +kernel
theorem dJ9_floorMod_7cf53_11 : decode cJ9_floorMod_7cf53 11 = .ok (.ifCond .eq 7, 3) := by decide +kernel
theorem dJ9_floorMod_7cf53_14 : decode cJ9_floorMod_7cf53 14 = .ok (.iload_n 2, 1) := by decide +kernel
theorem dJ9_floorMod_7cf53_15 : decode cJ9_floorMod_7cf53 15 = .ok (.iload_n 1, 1) := by decide +kernel
theorem dJ9_floorMod_7cf53_16 : decode cJ9_floorMod_7cf53 16 = .ok (.iadd, 1) := by decide +kernel
theorem dJ9_floorMod_7cf53_17 : decode cJ9_floorMod_7cf53 17 = .ok (.ireturn, 1) := by decide +kernel
theorem dJ9_floorMod_7cf53_18 : decode cJ9_floorMod_7cf53 18 = .ok (.iload_n 2, 1) := by decide +kernel
theorem dJ9_floorMod_7cf53_19 : decode cJ9_floorMod_7cf53 19 = .ok (.ireturn, 1) := by decide +kernel
abbrev vwCl : List vw_C := [(RX0, TX0, 2), (RX1, TX1, 7), (RX2, TX2, 11), (RX3, TX3, 5), (RX4, TX4, 2), (RX5, TX5, 3), (RX6, TX6, 4)]
