theorem dX7_init_0 : decode cX7_init 0 = .ok (.aload_n 0, 1) := by decide +kernel
theorem dX7_init_1 : decode cX7_init 1 = .ok (.invokespecial 1, 3) := by decide +kernel
theorem dX7_init_4 : decode cX7_init 4 = .ok (.aload_n 0, 1) := by decide +kernel
theorem dX7_init_5 : decode cX7_init 5 = .ok (.bipush 42, 2) := by decide +kernel
theorem dX7_init_7 : decode cX7_init 7 = .ok (.newarray .int, 2) := by decide +kernel
theorem dX7_init_9 : decode cX7_init 9 = .ok (.putfield 7, 3) := by decide +kernel
theorem dX7_init_12 : decode cX7_init 12 = .ok (.aload_n 0, 1) := by decide +kernel
theorem dX7_init_13 : decode cX7_init 13 = .ok (.bipush 42, 2) := by decide +kernel
theorem dX7_init_15 : decode cX7_init 15 = .ok (.newarray .int, 2) := by decide +kernel
theorem dX7_init_17 : decode cX7_init 17 = .ok (.putfield 13, 3) := by decide +kernel
theorem dX7_init_20 : decode cX7_init 20 = .ok (.aload_n 0, 1) := by decide +kernel
theorem dX7_init_21 : decode cX7_init 21 = .ok (.bipush 30, 2) := by decide +kernel
theorem dX7_init_23 : decode cX7_init 23 = .ok (.newarray .int, 2) := by decide +kernel
theorem dX7_init_25 : decode cX7_init 25 = .ok (.putfield 16, 3) := by decide +kernel
theorem dX7_init_28 : decode cX7_init 28 = .ok (.aload_n 0, 1) := by decide +kernel
theorem dX7_init_29 : decode cX7_init 29 = .ok (.bipush 6, 2) := by decide +kernel
theorem dX7_init_31 : decode cX7_init 31 = .ok (.newarray .int, 2) := by decide +kernel
theorem dX7_init_33 : decode cX7_init 33 = .ok (.putfield 19, 3) := by decide +kernel
theorem dX7_init_36 : decode cX7_init 36 = .ok (.aload_n 0, 1) := by decide +kernel
theorem dX7_init_37 : decode cX7_init 37 = .ok (.bipush 6, 2) := by decide +kernel
theorem dX7_init_39 : decode cX7_init 39 = .ok (.newarray .int, 2) := by decide +kernel
theorem dX7_init_41 : decode cX7_init 41 = .ok (.putfield 22, 3) := by decide +kernel
theorem dX7_init_44 : decode cX7_init 44 = .ok (.aload_n 0, 1) := by decide +kernel
theorem dX7_init_45 : decode cX7_init 45 = .ok (.bipush 6, 2) := by decide +kernel
theorem dX7_init_47 : decode cX7_init 47 = .ok (.newarray .int, 2) := by decide +kernel
theorem dX7_init_49 : decode cX7_init 49 = .ok (.putfield 25, 3) := by decide +kernel
theorem dX7_init_52 : decode cX7_init 52 = .ok (.aload_n 0, 1) := by decide +kernel
theorem dX7_init_53 : decode cX7_init 53 = .ok (.sipush 1080, 3) := by decide +kernel
theorem dX7_init_56 : decode cX7_init 56 = .ok (.newarray .int, 2) := by decide +kernel
theorem dX7_init_58 : decode cX7_init 58 = .ok (.putfield 28, 3) := by decide +kernel
theorem dX7_init_61 : decode cX7_init 61 = .ok (.aload_n 0, 1) := by decide +kernel
theorem dX7_init_62 : decode cX7_init 62 = .ok (.sipush 180, 3) := by decide +kernel
theorem dX7_init_65 : decode cX7_init 65 = .ok (.newarray .boolean, 2) := by decide +kernel
theorem dX7_init_67 : decode cX7_init 67 = .ok (.putfield 31, 3) := by decide +kernel
theorem dX7_init_70 : decode cX7_init 70 = .ok (.aload_n 0, 1) := by decide +kernel
theorem dX7_init_71 : decode cX7_init 71 = .ok (.bipush 105, 2) := by decide +kernel
theorem dX7_init_73 : decode cX7_init 73 = .ok (.newarray .long, 2) := by decide +kernel
theorem dX7_init_75 : decode cX7_init 75 = .ok (.putfield 35, 3) := by decide +kernel
theorem dX7_init_78 : decode cX7_init 78 = .ok (.aload_n 0, 1) := by decide +kernel
theorem dX7_init_79 : decode cX7_init 79 = .ok (.bipush 105, 2) := by decide +kernel
theorem dX7_init_81 : decode cX7_init 81 = .ok (.newarray .long, 2) := by decide +kernel
theorem dX7_init_83 : decode cX7_init 83 = .ok (.putfield 39, 3) := by decide +kernel
theorem dX7_init_86 : decode cX7_init 86 = .ok (.aload_n 0, 1) := by decide +kernel
theorem dX7_init_87 : decode cX7_init 87 = .ok (.bipush 90, 2) := by decide +kernel
theorem dX7_init_89 : decode cX7_init 89 = .ok (.newarray .long, 2) := by decide +kernel
theorem dX7_init_91 : decode cX7_init 91 = .ok (.putfield 42, 3) := by decide +kernel
theorem dX7_init_94 : decode cX7_init 94 = .ok (.aload_n 0, 1) := by decide +kernel
theorem dX7_init_95 : decode cX7_init 95 = .ok (.bipush 30, 2) := by decide +kernel
theorem dX7_init_97 : decode cX7_init 97 = .ok (.newarray .boolean, 2) := by decide +kernel
theorem dX7_init_99 : decode cX7_init 99 = .ok (.putfield 45, 3) := by decide +kernel
theorem dX7_init_102 : decode cX7_init 102 = .ok (.aload_n 0, 1) := by decide +kernel
theorem dX7_init_103 : decode cX7_init 103 = .ok (.iconst 5, 1) := by decide +kernel
theorem dX7_init_104 : decode cX7_init 104 = .ok (.newarray .long, 2) := by decide +kernel
theorem dX7_init_106 : decode cX7_init 106 = .ok (.putfield 48, 3) := by decide +kernel
theorem dX7_init_109 : decode cX7_init 109 = .ok (.aload_n 0, 1) := by decide +kernel
theorem dX7_init_110 : decode cX7_init 110 = .ok (.iconst 5, 1) := by decide +kernel
theorem dX7_init_111 : decode cX7_init 111 = .ok (.newarray .long, 2) := by decide +kernel
theorem dX7_init_113 : decode cX7_init 113 = .ok (.putfield 51, 3) := by decide +kernel
theorem dX7_init_116 : decode cX7_init 116 = .ok (.aload_n 0, 1) := by decide +kernel
theorem dX7_init_117 : decode cX7_init 117 = .ok (.bipush 16, 2) := by decide +kernel
theorem dX7_init_119 : decode cX7_init 119 = .ok (.newarray .long, 2) := by decide +kernel
theorem dX7_init_121 : decode cX7_init 121 = .ok (.putfield 54, 3) := by decide +kernel
theorem dX7_init_124 : decode cX7_init 124 = .ok (.aload_n 0, 1) := by decide +kernel
theorem dX7_init_125 : decode cX7_init 125 = .ok (.bipush 16, 2) := by decide +kernel
theorem dX7_init_127 : decode cX7_init 127 = .ok (.newarray .long, 2) := by decide +kernel
theorem dX7_init_129 : decode cX7_init 129 = .ok (.putfield 57, 3) := by decide +kernel
theorem dX7_init_132 : decode cX7_init 132 = .ok (.aload_n 0, 1) := by decide +kernel
theorem dX7_init_133 : decode cX7_init 133 = .ok (.bipush 16, 2) := by decide +kernel
theorem dX7_init_135 : decode cX7_init 135 = .ok (.newarray .long, 2) := by decide +kernel
theorem dX7_init_137 : decode cX7_init 137 = .ok (.putfield 60, 3) := by decide +kernel
theorem dX7_init_140 : decode cX7_init 140 = .ok (.return_, 1) := by decide +kernel
theorem dX7_thrown_0 : decode cX7_thrown 0 = .ok (.aload_n 0, 1) := by decide +kernel
theorem dX7_thrown_1 : decode cX7_thrown 1 = .ok (.getfield 63, 3) := by decide +kernel
theorem dX7_thrown_4 : decode cX7_thrown 4 = .ok (.ireturn, 1) := by decide +kernel
theorem dX7_fails_0 : decode cX7_fails 0 = .ok (.aload_n 0, 1) := by decide +kernel
theorem dX7_fails_1 : decode cX7_fails 1 = .ok (.iload_n 1, 1) := by decide +kernel
theorem dX7_fails_2 : decode cX7_fails 2 = .ok (.putfield 63, 3) := by decide +kernel
theorem dX7_fails_5 : decode cX7_fails 5 = .ok (.iload_n 1, 1) := by decide +kernel
theorem dX7_fails_6 : decode cX7_fails 6 = .ok (.ifCond .le 7, 3) := by decide +kernel
theorem dX7_fails_9 : decode cX7_fails 9 = .ok (.iconst 1, 1) := by decide +kernel
theorem dX7_fails_10 : decode cX7_fails 10 = .ok (.goto 4, 3) := by decide +kernel
theorem dX7_fails_13 : decode cX7_fails 13 = .ok (.iconst 0, 1) := by decide +kernel
theorem dX7_fails_14 : decode cX7_fails 14 = .ok (.ireturn, 1) := by decide +kernel
theorem dX7_isIn_0 : decode cX7_isIn 0 = .ok (.iload_n 0, 1) := by decide +kernel
theorem dX7_isIn_1 : decode cX7_isIn 1 = .ok (.iload_n 1, 1) := by decide +kernel
theorem dX7_isIn_2 : decode cX7_isIn 2 = .ok (.if_icmp .lt 12, 3) := by decide +kernel
theorem dX7_isIn_5 : decode cX7_isIn 5 = .ok (.iload_n 0, 1) := by decide +kernel
theorem dX7_isIn_6 : decode cX7_isIn 6 = .ok (.iload_n 2, 1) := by decide +kernel
theorem dX7_isIn_7 : decode cX7_isIn 7 = .ok (.if_icmp .gt 7, 3) := by decide +kernel
theorem dX7_isIn_10 : decode cX7_isIn 10 = .ok (.iconst 1, 1) := by decide +kernel
theorem dX7_isIn_11 : decode cX7_isIn 11 = .ok (.goto 4, 3) := by decide +kernel
theorem dX7_isIn_14 : decode cX7_isIn 14 = .ok (.iconst 0, 1) := by decide +kernel
theorem dX7_isIn_15 : decode cX7_isIn 15 = .ok (.ireturn, 1) := by decide +kernel
set_option maxRecDepth 20000 in
theorem ggX7_isField_X7_isIn : GoodIn wsX7_isField wsX7_isIn := goodIn_r _ [4] rfl (by decide +kernel)
set_option maxRecDepth 20000 in
theorem gX7_isField_X7_isIn : GoodIn wsX7_isField (va_wsS RX7 67 yX7_isIn wsX7_isIn) := goodIn_app (goodIn_of _ (by decide +kernel)) ggX7_isField_X7_isIn
theorem dX7_isField_0 : decode cX7_isField 0 = .ok (.iload_n 0, 1) := by decide +kernel
theorem dX7_isField_1 : decode cX7_isField 1 = .ok (.iconst 0, 1) := by decide +kernel
theorem dX7_isField_2 : decode cX7_isField 2 = .ok (.sipush 10006, 3) := by decide +kernel
theorem dX7_isField_5 : decode cX7_isField 5 = .ok (.invokestatic 67, 3) := by decide +kernel
theorem dX7_isField_8 : decode cX7_isField 8 = .ok (.ireturn, 1) := by decide +kernel
set_option maxRecDepth 20000 in
theorem ggX7_isModel_X7_isIn : GoodIn wsX7_isModel wsX7_isIn := goodIn_r _ [5] rfl (by decide +kernel)
set_option maxRecDepth 20000 in
theorem gX7_isModel_X7_isIn : GoodIn wsX7_isModel (va_wsS RX7 67 yX7_isIn wsX7_isIn) := goodIn_app (goodIn_of _ (by decide +kernel)) ggX7_isModel_X7_isIn
theorem dX7_isModel_0 : decode cX7_isModel 0 = .ok (.iload_n 1, 1) := by decide +kernel
theorem dX7_isModel_1 : decode cX7_isModel 1 = .ok (.iconst 0, 1) := by decide +kernel
theorem dX7_isModel_2 : decode cX7_isModel 2 = .ok (.aload_n 0, 1) := by decide +kernel
theorem dX7_isModel_3 : decode cX7_isModel 3 = .ok (.getfield 71, 3) := by decide +kernel
theorem dX7_isModel_6 : decode cX7_isModel 6 = .ok (.iconst 1, 1) := by decide +kernel
theorem dX7_isModel_7 : decode cX7_isModel 7 = .ok (.isub, 1) := by decide +kernel
theorem dX7_isModel_8 : decode cX7_isModel 8 = .ok (.invokestatic 67, 3) := by decide +kernel
theorem dX7_isModel_11 : decode cX7_isModel 11 = .ok (.ireturn, 1) := by decide +kernel
set_option maxRecDepth 20000 in
theorem ggX7_isOne_X7_isIn : GoodIn wsX7_isOne wsX7_isIn := goodIn_r _ [5] rfl (by decide +kernel)
set_option maxRecDepth 20000 in
theorem gX7_isOne_X7_isIn : GoodIn wsX7_isOne (va_wsS RX7 67 yX7_isIn wsX7_isIn) := goodIn_app (goodIn_of _ (by decide +kernel)) ggX7_isOne_X7_isIn
theorem dX7_isOne_0 : decode cX7_isOne 0 = .ok (.iload_n 1, 1) := by decide +kernel
theorem dX7_isOne_1 : decode cX7_isOne 1 = .ok (.iconst 0, 1) := by decide +kernel
theorem dX7_isOne_2 : decode cX7_isOne 2 = .ok (.aload_n 0, 1) := by decide +kernel
theorem dX7_isOne_3 : decode cX7_isOne 3 = .ok (.getfield 74, 3) := by decide +kernel
theorem dX7_isOne_6 : decode cX7_isOne 6 = .ok (.iconst 1, 1) := by decide +kernel
theorem dX7_isOne_7 : decode cX7_isOne 7 = .ok (.isub, 1) := by decide +kernel
theorem dX7_isOne_8 : decode cX7_isOne 8 = .ok (.invokestatic 67, 3) := by decide +kernel
theorem dX7_isOne_11 : decode cX7_isOne 11 = .ok (.ireturn, 1) := by decide +kernel
theorem dX7_by_0 : decode cX7_by 0 = .ok (.lload_n 0, 1) := by decide +kernel
theorem dX7_by_1 : decode cX7_by 1 = .ok (.ldc2_w 77, 3) := by decide +kernel
theorem dX7_by_4 : decode cX7_by 4 = .ok (.lrem, 1) := by decide +kernel
theorem dX7_by_5 : decode cX7_by 5 = .ok (.lstore_n 2, 1) := by decide +kernel
theorem dX7_by_6 : decode cX7_by 6 = .ok (.lload_n 2, 1) := by decide +kernel
theorem dX7_by_7 : decode cX7_by 7 = .ok (.lconst 0, 1) := by decide +kernel
theorem dX7_by_8 : decode cX7_by 8 = .ok (.lcmp, 1) := by decide +kernel
theorem dX7_by_9 : decode cX7_by 9 = .ok (.ifCond .ge 11, 3) := by decide +kernel
theorem dX7_by_12 : decode cX7_by 12 = .ok (.lload_n 2, 1) := by decide +kernel
theorem dX7_by_13 : decode cX7_by 13 = .ok (.ldc2_w 77, 3) := by decide +kernel
theorem dX7_by_16 : decode cX7_by 16 = .ok (.ladd, 1) := by decide +kernel
theorem dX7_by_17 : decode cX7_by 17 = .ok (.goto 4, 3) := by decide +kernel
theorem dX7_by_20 : decode cX7_by 20 = .ok (.lload_n 2, 1) := by decide +kernel
theorem dX7_by_21 : decode cX7_by 21 = .ok (.lreturn, 1) := by decide +kernel
set_option maxRecDepth 20000 in
theorem ggX7_inverse_X7_by : GoodIn wsX7_inverse wsX7_by := goodIn_r _ [5, 1] rfl (by decide +kernel)
set_option maxRecDepth 20000 in
theorem gX7_inverse_X7_by : GoodIn wsX7_inverse (va_wsS RX7 79 yX7_by wsX7_by) := goodIn_app (goodIn_of _ (by decide +kernel)) ggX7_inverse_X7_by
theorem dX7_inverse_0 : decode cX7_inverse 0 = .ok (.lconst 1, 1) := by decide +kernel
theorem dX7_inverse_1 : decode cX7_inverse 1 = .ok (.lstore_n 2, 1) := by decide +kernel
theorem dX7_inverse_2 : decode cX7_inverse 2 = .ok (.lload_n 0, 1) := by decide +kernel
theorem dX7_inverse_3 : decode cX7_inverse 3 = .ok (.invokestatic 79, 3) := by decide +kernel
theorem dX7_inverse_6 : decode cX7_inverse 6 = .ok (.lstore 4, 2) := by decide +kernel
theorem dX7_inverse_8 : decode cX7_inverse 8 = .ok (.sipush 10005, 3) := by decide +kernel
theorem dX7_inverse_11 : decode cX7_inverse 11 = .ok (.istore 6, 2) := by decide +kernel
theorem dX7_inverse_13 : decode cX7_inverse 13 = .ok (.iload 6, 2) := by decide +kernel
theorem dX7_inverse_15 : decode cX7_inverse 15 = .ok (.ifCond .le 44, 3) := by decide +kernel
theorem dX7_inverse_18 : decode cX7_inverse 18 = .ok (.iload 6, 2) := by decide +kernel
theorem dX7_inverse_20 : decode cX7_inverse 20 = .ok (.iconst 2, 1) := by decide +kernel
theorem dX7_inverse_21 : decode cX7_inverse 21 = .ok (.irem, 1) := by decide +kernel
theorem dX7_inverse_22 : decode cX7_inverse 22 = .ok (.iconst 1, 1) := by decide +kernel
theorem dX7_inverse_23 : decode cX7_inverse 23 = .ok (.if_icmp .ne 14, 3) := by decide +kernel
theorem dX7_inverse_26 : decode cX7_inverse 26 = .ok (.lload_n 2, 1) := by decide +kernel
theorem dX7_inverse_27 : decode cX7_inverse 27 = .ok (.lload 4, 2) := by decide +kernel
theorem dX7_inverse_29 : decode cX7_inverse 29 = .ok (.lmul, 1) := by decide +kernel
theorem dX7_inverse_30 : decode cX7_inverse 30 = .ok (.ldc2_w 77, 3) := by decide +kernel
theorem dX7_inverse_33 : decode cX7_inverse 33 = .ok (.lrem, 1) := by decide +kernel
theorem dX7_inverse_34 : decode cX7_inverse 34 = .ok (.goto 4, 3) := by decide +kernel
theorem dX7_inverse_37 : decode cX7_inverse 37 = .ok (.lload_n 2, 1) := by decide +kernel
theorem dX7_inverse_38 : decode cX7_inverse 38 = .ok (.lstore_n 2, 1) := by decide +kernel
theorem dX7_inverse_39 : decode cX7_inverse 39 = .ok (.lload 4, 2) := by decide +kernel
theorem dX7_inverse_41 : decode cX7_inverse 41 = .ok (.lload 4, 2) := by decide +kernel
theorem dX7_inverse_43 : decode cX7_inverse 43 = .ok (.lmul, 1) := by decide +kernel
theorem dX7_inverse_44 : decode cX7_inverse 44 = .ok (.ldc2_w 77, 3) := by decide +kernel
theorem dX7_inverse_47 : decode cX7_inverse 47 = .ok (.lrem, 1) := by decide +kernel
theorem dX7_inverse_48 : decode cX7_inverse 48 = .ok (.lstore 4, 2) := by decide +kernel
theorem dX7_inverse_50 : decode cX7_inverse 50 = .ok (.iload 6, 2) := by decide +kernel
theorem dX7_inverse_52 : decode cX7_inverse 52 = .ok (.iconst 2, 1) := by decide +kernel
theorem dX7_inverse_53 : decode cX7_inverse 53 = .ok (.idiv, 1) := by decide +kernel
theorem dX7_inverse_54 : decode cX7_inverse 54 = .ok (.istore 6, 2) := by decide +kernel
theorem dX7_inverse_56 : decode cX7_inverse 56 = .ok (.goto (-43), 3) := by decide +kernel
theorem dX7_inverse_59 : decode cX7_inverse 59 = .ok (.lload_n 2, 1) := by decide +kernel
theorem dX7_inverse_60 : decode cX7_inverse 60 = .ok (.lreturn, 1) := by decide +kernel
set_option maxRecDepth 20000 in
theorem ggX7_model_X7_fails : GoodIn wsX7_model wsX7_fails := goodIn_r _ [7, 8, 9, 10, 11, 12, 13, 14, 15, 16, 17, 18, 19, 20, 21, 22, 23, 24, 25, 26, 27, 28] rfl (by decide +kernel)
set_option maxRecDepth 20000 in
theorem gX7_model_X7_fails : GoodIn wsX7_model (wsV RX7 83 RX7 yX7_fails wsX7_fails) := goodIn_app (goodIn_of _ (by decide +kernel)) ggX7_model_X7_fails
theorem dX7_model_0 : decode cX7_model 0 = .ok (.aload_n 0, 1) := by decide +kernel
theorem dX7_model_1 : decode cX7_model 1 = .ok (.aload_n 0, 1) := by decide +kernel
theorem dX7_model_2 : decode cX7_model 2 = .ok (.getfield 71, 3) := by decide +kernel
theorem dX7_model_5 : decode cX7_model 5 = .ok (.bipush 6, 2) := by decide +kernel
theorem dX7_model_7 : decode cX7_model 7 = .ok (.if_icmp .ne 7, 3) := by decide +kernel
theorem dX7_model_10 : decode cX7_model 10 = .ok (.iconst 1, 1) := by decide +kernel
theorem dX7_model_11 : decode cX7_model 11 = .ok (.goto 4, 3) := by decide +kernel
theorem dX7_model_14 : decode cX7_model 14 = .ok (.iconst 0, 1) := by decide +kernel
theorem dX7_model_15 : decode cX7_model 15 = .ok (.invokevirtual 83, 3) := by decide +kernel
theorem dX7_model_18 : decode cX7_model 18 = .ok (.ifCond .eq 5, 3) := by decide +kernel
theorem dX7_model_21 : decode cX7_model 21 = .ok (.iconst 0, 1) := by decide +kernel
theorem dX7_model_22 : decode cX7_model 22 = .ok (.ireturn, 1) := by decide +kernel
theorem dX7_model_23 : decode cX7_model 23 = .ok (.aload_n 0, 1) := by decide +kernel
theorem dX7_model_24 : decode cX7_model 24 = .ok (.getfield 7, 3) := by decide +kernel
theorem dX7_model_27 : decode cX7_model 27 = .ok (.bipush 7, 2) := by decide +kernel
theorem dX7_model_29 : decode cX7_model 29 = .ok (.aload_n 0, 1) := by decide +kernel
theorem dX7_model_30 : decode cX7_model 30 = .ok (.getfield 71, 3) := by decide +kernel
theorem dX7_model_33 : decode cX7_model 33 = .ok (.imul, 1) := by decide +kernel
theorem dX7_model_34 : decode cX7_model 34 = .ok (.iconst 0, 1) := by decide +kernel
theorem dX7_model_35 : decode cX7_model 35 = .ok (.iadd, 1) := by decide +kernel
theorem dX7_model_36 : decode cX7_model 36 = .ok (.iconst 1, 1) := by decide +kernel
theorem dX7_model_37 : decode cX7_model 37 = .ok (.iastore, 1) := by decide +kernel
theorem dX7_model_38 : decode cX7_model 38 = .ok (.aload_n 0, 1) := by decide +kernel
theorem dX7_model_39 : decode cX7_model 39 = .ok (.getfield 7, 3) := by decide +kernel
theorem dX7_model_42 : decode cX7_model 42 = .ok (.bipush 7, 2) := by decide +kernel
theorem dX7_model_44 : decode cX7_model 44 = .ok (.aload_n 0, 1) := by decide +kernel
theorem dX7_model_45 : decode cX7_model 45 = .ok (.getfield 71, 3) := by decide +kernel
theorem dX7_model_48 : decode cX7_model 48 = .ok (.imul, 1) := by decide +kernel
theorem dX7_model_49 : decode cX7_model 49 = .ok (.iconst 3, 1) := by decide +kernel
theorem dX7_model_50 : decode cX7_model 50 = .ok (.iadd, 1) := by decide +kernel
theorem dX7_model_51 : decode cX7_model 51 = .ok (.iconst 1, 1) := by decide +kernel
theorem dX7_model_52 : decode cX7_model 52 = .ok (.iastore, 1) := by decide +kernel
theorem dX7_model_53 : decode cX7_model 53 = .ok (.aload_n 0, 1) := by decide +kernel
theorem dX7_model_54 : decode cX7_model 54 = .ok (.dup, 1) := by decide +kernel
theorem dX7_model_55 : decode cX7_model 55 = .ok (.getfield 71, 3) := by decide +kernel
theorem dX7_model_58 : decode cX7_model 58 = .ok (.iconst 1, 1) := by decide +kernel
theorem dX7_model_59 : decode cX7_model 59 = .ok (.iadd, 1) := by decide +kernel
theorem dX7_model_60 : decode cX7_model 60 = .ok (.putfield 71, 3) := by decide +kernel
theorem dX7_model_63 : decode cX7_model 63 = .ok (.aload_n 0, 1) := by decide +kernel
theorem dX7_model_64 : decode cX7_model 64 = .ok (.getfield 71, 3) := by decide +kernel
theorem dX7_model_67 : decode cX7_model 67 = .ok (.iconst 1, 1) := by decide +kernel
theorem dX7_model_68 : decode cX7_model 68 = .ok (.isub, 1) := by decide +kernel
theorem dX7_model_69 : decode cX7_model 69 = .ok (.ireturn, 1) := by decide +kernel
set_option maxRecDepth 20000 in
theorem ggX7_entry_X7_isIn : GoodIn wsX7_entry wsX7_isIn := goodIn_r _ [5] rfl (by decide +kernel)
set_option maxRecDepth 20000 in
theorem gX7_entry_X7_isIn : GoodIn wsX7_entry (va_wsS RX7 67 yX7_isIn wsX7_isIn) := goodIn_app (goodIn_of _ (by decide +kernel)) ggX7_entry_X7_isIn
set_option maxRecDepth 20000 in
theorem ggX7_entry_X7_isField : GoodIn wsX7_entry wsX7_isField := goodIn_r _ [8, 2, 3, 4, 5] rfl (by decide +kernel)
set_option maxRecDepth 20000 in
theorem gX7_entry_X7_isField : GoodIn wsX7_entry (va_wsS RX7 87 yX7_isField wsX7_isField) := goodIn_app (goodIn_of _ (by decide +kernel)) ggX7_entry_X7_isField
set_option maxRecDepth 20000 in
theorem ggX7_entry_X7_isModel : GoodIn wsX7_entry wsX7_isModel := goodIn_r _ [12, 13, 2, 3, 4, 5, 19, 20, 21, 22, 23, 24, 25, 26, 27, 28, 29, 30, 31, 32, 33, 34, 35, 36, 37, 38] rfl (by decide +kernel)
set_option maxRecDepth 20000 in
theorem gX7_entry_X7_isModel : GoodIn wsX7_entry (wsV RX7 90 RX7 yX7_isModel wsX7_isModel) := goodIn_app (goodIn_of _ (by decide +kernel)) ggX7_entry_X7_isModel
set_option maxRecDepth 20000 in
theorem ggX7_entry_X7_fails : GoodIn wsX7_entry wsX7_fails := goodIn_r _ [17, 18, 19, 20, 21, 22, 23, 24, 25, 26, 27, 28, 29, 30, 31, 32, 33, 34, 35, 36, 37, 38] rfl (by decide +kernel)
set_option maxRecDepth 20000 in
theorem gX7_entry_X7_fails : GoodIn wsX7_entry (wsV RX7 83 RX7 yX7_fails wsX7_fails) := goodIn_app (goodIn_of _ (by decide +kernel)) ggX7_entry_X7_fails
theorem dX7_entry_0 : decode cX7_entry 0 = .ok (.iload_n 2, 1) := by decide +kernel
theorem dX7_entry_1 : decode cX7_entry 1 = .ok (.iconst 0, 1) := by decide +kernel
theorem dX7_entry_2 : decode cX7_entry 2 = .ok (.bipush 6, 2) := by decide +kernel
theorem dX7_entry_4 : decode cX7_entry 4 = .ok (.invokestatic 67, 3) := by decide +kernel
theorem dX7_entry_7 : decode cX7_entry 7 = .ok (.ifCond .eq 14, 3) := by decide +kernel
theorem dX7_entry_10 : decode cX7_entry 10 = .ok (.iload_n 3, 1) := by decide +kernel
theorem dX7_entry_11 : decode cX7_entry 11 = .ok (.invokestatic 87, 3) := by decide +kernel
theorem dX7_entry_14 : decode cX7_entry 14 = .ok (.ifCond .eq 7, 3) := by decide +kernel
theorem dX7_entry_17 : decode cX7_entry 17 = .ok (.iconst 1, 1) := by decide +kernel
theorem dX7_entry_18 : decode cX7_entry 18 = .ok (.goto 4, 3) := by decide +kernel
theorem dX7_entry_21 : decode cX7_entry 21 = .ok (.iconst 0, 1) := by decide +kernel
theorem dX7_entry_22 : decode cX7_entry 22 = .ok (.istore 4, 2) := by decide +kernel
theorem dX7_entry_24 : decode cX7_entry 24 = .ok (.aload_n 0, 1) := by decide +kernel
theorem dX7_entry_25 : decode cX7_entry 25 = .ok (.aload_n 0, 1) := by decide +kernel
theorem dX7_entry_26 : decode cX7_entry 26 = .ok (.iload_n 1, 1) := by decide +kernel
theorem dX7_entry_27 : decode cX7_entry 27 = .ok (.invokevirtual 90, 3) := by decide +kernel
theorem dX7_entry_30 : decode cX7_entry 30 = .ok (.ifCond .ne 7, 3) := by decide +kernel
theorem dX7_entry_33 : decode cX7_entry 33 = .ok (.iconst 1, 1) := by decide +kernel
theorem dX7_entry_34 : decode cX7_entry 34 = .ok (.goto 13, 3) := by decide +kernel
theorem dX7_entry_37 : decode cX7_entry 37 = .ok (.iload 4, 2) := by decide +kernel
theorem dX7_entry_39 : decode cX7_entry 39 = .ok (.ifCond .eq 7, 3) := by decide +kernel
theorem dX7_entry_42 : decode cX7_entry 42 = .ok (.iconst 0, 1) := by decide +kernel
theorem dX7_entry_43 : decode cX7_entry 43 = .ok (.goto 4, 3) := by decide +kernel
theorem dX7_entry_46 : decode cX7_entry 46 = .ok (.iconst 2, 1) := by decide +kernel
theorem dX7_entry_47 : decode cX7_entry 47 = .ok (.invokevirtual 83, 3) := by decide +kernel
theorem dX7_entry_50 : decode cX7_entry 50 = .ok (.ifCond .eq 5, 3) := by decide +kernel
theorem dX7_entry_53 : decode cX7_entry 53 = .ok (.iconst 0, 1) := by decide +kernel
theorem dX7_entry_54 : decode cX7_entry 54 = .ok (.ireturn, 1) := by decide +kernel
theorem dX7_entry_55 : decode cX7_entry 55 = .ok (.aload_n 0, 1) := by decide +kernel
theorem dX7_entry_56 : decode cX7_entry 56 = .ok (.getfield 7, 3) := by decide +kernel
theorem dX7_entry_59 : decode cX7_entry 59 = .ok (.bipush 7, 2) := by decide +kernel
theorem dX7_entry_61 : decode cX7_entry 61 = .ok (.iload_n 1, 1) := by decide +kernel
theorem dX7_entry_62 : decode cX7_entry 62 = .ok (.imul, 1) := by decide +kernel
theorem dX7_entry_63 : decode cX7_entry 63 = .ok (.iload_n 2, 1) := by decide +kernel
theorem dX7_entry_64 : decode cX7_entry 64 = .ok (.iadd, 1) := by decide +kernel
theorem dX7_entry_65 : decode cX7_entry 65 = .ok (.iaload, 1) := by decide +kernel
theorem dX7_entry_66 : decode cX7_entry 66 = .ok (.istore 5, 2) := by decide +kernel
theorem dX7_entry_68 : decode cX7_entry 68 = .ok (.aload_n 0, 1) := by decide +kernel
theorem dX7_entry_69 : decode cX7_entry 69 = .ok (.getfield 7, 3) := by decide +kernel
theorem dX7_entry_72 : decode cX7_entry 72 = .ok (.bipush 7, 2) := by decide +kernel
theorem dX7_entry_74 : decode cX7_entry 74 = .ok (.iload_n 1, 1) := by decide +kernel
theorem dX7_entry_75 : decode cX7_entry 75 = .ok (.imul, 1) := by decide +kernel
theorem dX7_entry_76 : decode cX7_entry 76 = .ok (.iload_n 2, 1) := by decide +kernel
theorem dX7_entry_77 : decode cX7_entry 77 = .ok (.iadd, 1) := by decide +kernel
theorem dX7_entry_78 : decode cX7_entry 78 = .ok (.iload_n 3, 1) := by decide +kernel
theorem dX7_entry_79 : decode cX7_entry 79 = .ok (.iastore, 1) := by decide +kernel
theorem dX7_entry_80 : decode cX7_entry 80 = .ok (.iload 5, 2) := by decide +kernel
theorem dX7_entry_82 : decode cX7_entry 82 = .ok (.ireturn, 1) := by decide +kernel
set_option maxRecDepth 20000 in
theorem ggX7_begin_X7_isField : GoodIn wsX7_begin wsX7_isField := goodIn_r _ [9, 10, 11, 8, 12] rfl (by decide +kernel)
set_option maxRecDepth 20000 in
theorem gX7_begin_X7_isField : GoodIn wsX7_begin (va_wsS RX7 87 yX7_isField wsX7_isField) := goodIn_app (goodIn_of _ (by decide +kernel)) ggX7_begin_X7_isField
set_option maxRecDepth 20000 in
theorem ggX7_begin_X7_isModel : GoodIn wsX7_begin wsX7_isModel := goodIn_r _ [16, 17, 10, 11, 8, 12, 23, 24, 25, 26, 27, 28, 29, 30, 31, 32, 33, 34, 35, 36, 37, 38, 39, 40, 41, 42] rfl (by decide +kernel)
set_option maxRecDepth 20000 in
theorem gX7_begin_X7_isModel : GoodIn wsX7_begin (wsV RX7 90 RX7 yX7_isModel wsX7_isModel) := goodIn_app (goodIn_of _ (by decide +kernel)) ggX7_begin_X7_isModel
set_option maxRecDepth 20000 in
theorem ggX7_begin_X7_fails : GoodIn wsX7_begin wsX7_fails := goodIn_r _ [21, 22, 23, 24, 25, 26, 27, 28, 29, 30, 31, 32, 33, 34, 35, 36, 37, 38, 39, 40, 41, 42] rfl (by decide +kernel)
set_option maxRecDepth 20000 in
theorem gX7_begin_X7_fails : GoodIn wsX7_begin (wsV RX7 83 RX7 yX7_fails wsX7_fails) := goodIn_app (goodIn_of _ (by decide +kernel)) ggX7_begin_X7_fails
theorem dX7_begin_0 : decode cX7_begin 0 = .ok (.iload_n 2, 1) := by decide +kernel
theorem dX7_begin_1 : decode cX7_begin 1 = .ok (.invokestatic 87, 3) := by decide +kernel
theorem dX7_begin_4 : decode cX7_begin 4 = .ok (.ifCond .eq 38, 3) := by decide +kernel
theorem dX7_begin_7 : decode cX7_begin 7 = .ok (.iload_n 3, 1) := by decide +kernel
theorem dX7_begin_8 : decode cX7_begin 8 = .ok (.invokestatic 87, 3) := by decide +kernel
theorem dX7_begin_11 : decode cX7_begin 11 = .ok (.ifCond .eq 31, 3) := by decide +kernel
theorem dX7_begin_14 : decode cX7_begin 14 = .ok (.iload 4, 2) := by decide +kernel
theorem dX7_begin_16 : decode cX7_begin 16 = .ok (.invokestatic 87, 3) := by decide +kernel
theorem dX7_begin_19 : decode cX7_begin 19 = .ok (.ifCond .eq 23, 3) := by decide +kernel
theorem dX7_begin_22 : decode cX7_begin 22 = .ok (.iload 5, 2) := by decide +kernel
theorem dX7_begin_24 : decode cX7_begin 24 = .ok (.invokestatic 87, 3) := by decide +kernel
theorem dX7_begin_27 : decode cX7_begin 27 = .ok (.ifCond .eq 15, 3) := by decide +kernel
theorem dX7_begin_30 : decode cX7_begin 30 = .ok (.iload 6, 2) := by decide +kernel
theorem dX7_begin_32 : decode cX7_begin 32 = .ok (.invokestatic 87, 3) := by decide +kernel
theorem dX7_begin_35 : decode cX7_begin 35 = .ok (.ifCond .eq 7, 3) := by decide +kernel
theorem dX7_begin_38 : decode cX7_begin 38 = .ok (.iconst 1, 1) := by decide +kernel
theorem dX7_begin_39 : decode cX7_begin 39 = .ok (.goto 4, 3) := by decide +kernel
theorem dX7_begin_42 : decode cX7_begin 42 = .ok (.iconst 0, 1) := by decide +kernel
theorem dX7_begin_43 : decode cX7_begin 43 = .ok (.istore 7, 2) := by decide +kernel
theorem dX7_begin_45 : decode cX7_begin 45 = .ok (.aload_n 0, 1) := by decide +kernel
theorem dX7_begin_46 : decode cX7_begin 46 = .ok (.aload_n 0, 1) := by decide +kernel
theorem dX7_begin_47 : decode cX7_begin 47 = .ok (.iload_n 1, 1) := by decide +kernel
theorem dX7_begin_48 : decode cX7_begin 48 = .ok (.invokevirtual 90, 3) := by decide +kernel
theorem dX7_begin_51 : decode cX7_begin 51 = .ok (.ifCond .ne 7, 3) := by decide +kernel
theorem dX7_begin_54 : decode cX7_begin 54 = .ok (.iconst 1, 1) := by decide +kernel
theorem dX7_begin_55 : decode cX7_begin 55 = .ok (.goto 26, 3) := by decide +kernel
theorem dX7_begin_58 : decode cX7_begin 58 = .ok (.iload 7, 2) := by decide +kernel
theorem dX7_begin_60 : decode cX7_begin 60 = .ok (.ifCond .ne 7, 3) := by decide +kernel
theorem dX7_begin_63 : decode cX7_begin 63 = .ok (.iconst 2, 1) := by decide +kernel
theorem dX7_begin_64 : decode cX7_begin 64 = .ok (.goto 17, 3) := by decide +kernel
theorem dX7_begin_67 : decode cX7_begin 67 = .ok (.aload_n 0, 1) := by decide +kernel
theorem dX7_begin_68 : decode cX7_begin 68 = .ok (.getfield 74, 3) := by decide +kernel
theorem dX7_begin_71 : decode cX7_begin 71 = .ok (.bipush 6, 2) := by decide +kernel
theorem dX7_begin_73 : decode cX7_begin 73 = .ok (.if_icmp .ne 7, 3) := by decide +kernel
theorem dX7_begin_76 : decode cX7_begin 76 = .ok (.iconst 3, 1) := by decide +kernel
theorem dX7_begin_77 : decode cX7_begin 77 = .ok (.goto 4, 3) := by decide +kernel
theorem dX7_begin_80 : decode cX7_begin 80 = .ok (.iconst 0, 1) := by decide +kernel
theorem dX7_begin_81 : decode cX7_begin 81 = .ok (.invokevirtual 83, 3) := by decide +kernel
theorem dX7_begin_84 : decode cX7_begin 84 = .ok (.ifCond .eq 5, 3) := by decide +kernel
theorem dX7_begin_87 : decode cX7_begin 87 = .ok (.iconst 0, 1) := by decide +kernel
theorem dX7_begin_88 : decode cX7_begin 88 = .ok (.ireturn, 1) := by decide +kernel
theorem dX7_begin_89 : decode cX7_begin 89 = .ok (.aload_n 0, 1) := by decide +kernel
theorem dX7_begin_90 : decode cX7_begin 90 = .ok (.getfield 74, 3) := by decide +kernel
theorem dX7_begin_93 : decode cX7_begin 93 = .ok (.istore 8, 2) := by decide +kernel
theorem dX7_begin_95 : decode cX7_begin 95 = .ok (.iconst 0, 1) := by decide +kernel
theorem dX7_begin_96 : decode cX7_begin 96 = .ok (.istore 9, 2) := by decide +kernel
theorem dX7_begin_98 : decode cX7_begin 98 = .ok (.iload 9, 2) := by decide +kernel
theorem dX7_begin_100 : decode cX7_begin 100 = .ok (.bipush 7, 2) := by decide +kernel
theorem dX7_begin_102 : decode cX7_begin 102 = .ok (.if_icmp .ge 34, 3) := by decide +kernel
theorem dX7_begin_105 : decode cX7_begin 105 = .ok (.aload_n 0, 1) := by decide +kernel
theorem dX7_begin_106 : decode cX7_begin 106 = .ok (.getfield 13, 3) := by decide +kernel
theorem dX7_begin_109 : decode cX7_begin 109 = .ok (.bipush 7, 2) := by decide +kernel
theorem dX7_begin_111 : decode cX7_begin 111 = .ok (.iload 8, 2) := by decide +kernel
theorem dX7_begin_113 : decode cX7_begin 113 = .ok (.imul, 1) := by decide +kernel
theorem dX7_begin_114 : decode cX7_begin 114 = .ok (.iload 9, 2) := by decide +kernel
theorem dX7_begin_116 : decode cX7_begin 116 = .ok (.iadd, 1) := by decide +kernel
theorem dX7_begin_117 : decode cX7_begin 117 = .ok (.aload_n 0, 1) := by decide +kernel
theorem dX7_begin_118 : decode cX7_begin 118 = .ok (.getfield 7, 3) := by decide +kernel
theorem dX7_begin_121 : decode cX7_begin 121 = .ok (.bipush 7, 2) := by decide +kernel
theorem dX7_begin_123 : decode cX7_begin 123 = .ok (.iload_n 1, 1) := by decide +kernel
theorem dX7_begin_124 : decode cX7_begin 124 = .ok (.imul, 1) := by decide +kernel
theorem dX7_begin_125 : decode cX7_begin 125 = .ok (.iload 9, 2) := by decide +kernel
theorem dX7_begin_127 : decode cX7_begin 127 = .ok (.iadd, 1) := by decide +kernel
theorem dX7_begin_128 : decode cX7_begin 128 = .ok (.iaload, 1) := by decide +kernel
theorem dX7_begin_129 : decode cX7_begin 129 = .ok (.iastore, 1) := by decide +kernel
theorem dX7_begin_130 : decode cX7_begin 130 = .ok (.iinc 9 1, 3) := by decide +kernel
theorem dX7_begin_133 : decode cX7_begin 133 = .ok (.goto (-35), 3) := by decide +kernel
theorem dX7_begin_136 : decode cX7_begin 136 = .ok (.aload_n 0, 1) := by decide +kernel
theorem dX7_begin_137 : decode cX7_begin 137 = .ok (.getfield 16, 3) := by decide +kernel
theorem dX7_begin_140 : decode cX7_begin 140 = .ok (.iconst 5, 1) := by decide +kernel
theorem dX7_begin_141 : decode cX7_begin 141 = .ok (.iload 8, 2) := by decide +kernel
theorem dX7_begin_143 : decode cX7_begin 143 = .ok (.imul, 1) := by decide +kernel
theorem dX7_begin_144 : decode cX7_begin 144 = .ok (.iload_n 2, 1) := by decide +kernel
theorem dX7_begin_145 : decode cX7_begin 145 = .ok (.iastore, 1) := by decide +kernel
theorem dX7_begin_146 : decode cX7_begin 146 = .ok (.aload_n 0, 1) := by decide +kernel
theorem dX7_begin_147 : decode cX7_begin 147 = .ok (.getfield 16, 3) := by decide +kernel
theorem dX7_begin_150 : decode cX7_begin 150 = .ok (.iconst 5, 1) := by decide +kernel
theorem dX7_begin_151 : decode cX7_begin 151 = .ok (.iload 8, 2) := by decide +kernel
theorem dX7_begin_153 : decode cX7_begin 153 = .ok (.imul, 1) := by decide +kernel
theorem dX7_begin_154 : decode cX7_begin 154 = .ok (.iconst 1, 1) := by decide +kernel
theorem dX7_begin_155 : decode cX7_begin 155 = .ok (.iadd, 1) := by decide +kernel
theorem dX7_begin_156 : decode cX7_begin 156 = .ok (.iload_n 3, 1) := by decide +kernel
theorem dX7_begin_157 : decode cX7_begin 157 = .ok (.iastore, 1) := by decide +kernel
theorem dX7_begin_158 : decode cX7_begin 158 = .ok (.aload_n 0, 1) := by decide +kernel
theorem dX7_begin_159 : decode cX7_begin 159 = .ok (.getfield 16, 3) := by decide +kernel
theorem dX7_begin_162 : decode cX7_begin 162 = .ok (.iconst 5, 1) := by decide +kernel
theorem dX7_begin_163 : decode cX7_begin 163 = .ok (.iload 8, 2) := by decide +kernel
theorem dX7_begin_165 : decode cX7_begin 165 = .ok (.imul, 1) := by decide +kernel
theorem dX7_begin_166 : decode cX7_begin 166 = .ok (.iconst 2, 1) := by decide +kernel
theorem dX7_begin_167 : decode cX7_begin 167 = .ok (.iadd, 1) := by decide +kernel
theorem dX7_begin_168 : decode cX7_begin 168 = .ok (.iload 4, 2) := by decide +kernel
theorem dX7_begin_170 : decode cX7_begin 170 = .ok (.iastore, 1) := by decide +kernel
theorem dX7_begin_171 : decode cX7_begin 171 = .ok (.aload_n 0, 1) := by decide +kernel
theorem dX7_begin_172 : decode cX7_begin 172 = .ok (.getfield 16, 3) := by decide +kernel
theorem dX7_begin_175 : decode cX7_begin 175 = .ok (.iconst 5, 1) := by decide +kernel
theorem dX7_begin_176 : decode cX7_begin 176 = .ok (.iload 8, 2) := by decide +kernel
theorem dX7_begin_178 : decode cX7_begin 178 = .ok (.imul, 1) := by decide +kernel
theorem dX7_begin_179 : decode cX7_begin 179 = .ok (.iconst 3, 1) := by decide +kernel
theorem dX7_begin_180 : decode cX7_begin 180 = .ok (.iadd, 1) := by decide +kernel
theorem dX7_begin_181 : decode cX7_begin 181 = .ok (.iload 5, 2) := by decide +kernel
theorem dX7_begin_183 : decode cX7_begin 183 = .ok (.iastore, 1) := by decide +kernel
theorem dX7_begin_184 : decode cX7_begin 184 = .ok (.aload_n 0, 1) := by decide +kernel
theorem dX7_begin_185 : decode cX7_begin 185 = .ok (.getfield 16, 3) := by decide +kernel
theorem dX7_begin_188 : decode cX7_begin 188 = .ok (.iconst 5, 1) := by decide +kernel
theorem dX7_begin_189 : decode cX7_begin 189 = .ok (.iload 8, 2) := by decide +kernel
theorem dX7_begin_191 : decode cX7_begin 191 = .ok (.imul, 1) := by decide +kernel
theorem dX7_begin_192 : decode cX7_begin 192 = .ok (.iconst 4, 1) := by decide +kernel
theorem dX7_begin_193 : decode cX7_begin 193 = .ok (.iadd, 1) := by decide +kernel
theorem dX7_begin_194 : decode cX7_begin 194 = .ok (.iload 6, 2) := by decide +kernel
theorem dX7_begin_196 : decode cX7_begin 196 = .ok (.iastore, 1) := by decide +kernel
theorem dX7_begin_197 : decode cX7_begin 197 = .ok (.aload_n 0, 1) := by decide +kernel
theorem dX7_begin_198 : decode cX7_begin 198 = .ok (.getfield 22, 3) := by decide +kernel
theorem dX7_begin_201 : decode cX7_begin 201 = .ok (.iload 8, 2) := by decide +kernel
theorem dX7_begin_203 : decode cX7_begin 203 = .ok (.sipush 10006, 3) := by decide +kernel
theorem dX7_begin_206 : decode cX7_begin 206 = .ok (.iastore, 1) := by decide +kernel
theorem dX7_begin_207 : decode cX7_begin 207 = .ok (.aload_n 0, 1) := by decide +kernel
theorem dX7_begin_208 : decode cX7_begin 208 = .ok (.dup, 1) := by decide +kernel
theorem dX7_begin_209 : decode cX7_begin 209 = .ok (.getfield 74, 3) := by decide +kernel
theorem dX7_begin_212 : decode cX7_begin 212 = .ok (.iconst 1, 1) := by decide +kernel
theorem dX7_begin_213 : decode cX7_begin 213 = .ok (.iadd, 1) := by decide +kernel
theorem dX7_begin_214 : decode cX7_begin 214 = .ok (.putfield 74, 3) := by decide +kernel
theorem dX7_begin_217 : decode cX7_begin 217 = .ok (.iload 8, 2) := by decide +kernel
theorem dX7_begin_219 : decode cX7_begin 219 = .ok (.ireturn, 1) := by decide +kernel
