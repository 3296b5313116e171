set_option maxRecDepth 20000 in
theorem ggX7_ofMeasurement_X7_isMeasured : GoodIn wsX7_ofMeasurement wsX7_isMeasured := goodIn_r _ [9, 10, 11, 12, 13, 8, 14, 15, 16, 17, 18, 49, 50, 51, 52, 53, 54, 55, 56, 57, 58, 59, 60, 61, 62, 63, 64, 65, 66, 67, 68] rfl (by decide +kernel)
set_option maxRecDepth 20000 in
theorem gX7_ofMeasurement_X7_isMeasured : GoodIn wsX7_ofMeasurement (wsV RX7 114 RX7 yX7_isMeasured wsX7_isMeasured) := goodIn_app (goodIn_of _ (by decide +kernel)) ggX7_ofMeasurement_X7_isMeasured
set_option maxRecDepth 20000 in
theorem ggX7_ofMeasurement_X7_isIn : GoodIn wsX7_ofMeasurement wsX7_isIn := goodIn_r _ [18] rfl (by decide +kernel)
set_option maxRecDepth 20000 in
theorem gX7_ofMeasurement_X7_isIn : GoodIn wsX7_ofMeasurement (va_wsS RX7 67 yX7_isIn wsX7_isIn) := goodIn_app (goodIn_of _ (by decide +kernel)) ggX7_ofMeasurement_X7_isIn
set_option maxRecDepth 20000 in
theorem ggX7_ofMeasurement_X7_fails : GoodIn wsX7_ofMeasurement wsX7_fails := goodIn_r _ [22, 23, 49, 50, 51, 52, 53, 54, 55, 56, 57, 58, 59, 60, 61, 62, 63, 64, 65, 66, 67, 68] rfl (by decide +kernel)
set_option maxRecDepth 20000 in
theorem gX7_ofMeasurement_X7_fails : GoodIn wsX7_ofMeasurement (wsV RX7 83 RX7 yX7_fails wsX7_fails) := goodIn_app (goodIn_of _ (by decide +kernel)) ggX7_ofMeasurement_X7_fails
set_option maxRecDepth 20000 in
theorem ggX7_ofMeasurement_X7_goes : GoodIn wsX7_ofMeasurement wsX7_goes := goodIn_r _ [27, 28, 29, 30, 31, 10, 2, 1, 32, 33, 34, 35, 8, 36, 37, 38, 39, 40, 41, 42, 43, 44, 45, 4, 3, 46, 47, 48, 49, 50, 51, 52, 53, 54, 55, 56, 57, 58, 59, 60, 61, 62, 63, 64, 65, 66, 67, 68] rfl (by decide +kernel)
set_option maxRecDepth 20000 in
theorem gX7_ofMeasurement_X7_goes : GoodIn wsX7_ofMeasurement (wsV RX7 111 RX7 yX7_goes wsX7_goes) := goodIn_app (goodIn_of _ (by decide +kernel)) ggX7_ofMeasurement_X7_goes
theorem dX7_ofMeasurement_0 : decode cX7_ofMeasurement 0 = .ok (.aload_n 0, 1) := by decide +kernel
theorem dX7_ofMeasurement_1 : decode cX7_ofMeasurement 1 = .ok (.aload_n 0, 1) := by decide +kernel
theorem dX7_ofMeasurement_2 : decode cX7_ofMeasurement 2 = .ok (.iload_n 1, 1) := by decide +kernel
theorem dX7_ofMeasurement_3 : decode cX7_ofMeasurement 3 = .ok (.iload_n 2, 1) := by decide +kernel
theorem dX7_ofMeasurement_4 : decode cX7_ofMeasurement 4 = .ok (.invokevirtual 114, 3) := by decide +kernel
theorem dX7_ofMeasurement_7 : decode cX7_ofMeasurement 7 = .ok (.ifCond .ne 7, 3) := by decide +kernel
theorem dX7_ofMeasurement_10 : decode cX7_ofMeasurement 10 = .ok (.iconst 1, 1) := by decide +kernel
theorem dX7_ofMeasurement_11 : decode cX7_ofMeasurement 11 = .ok (.goto 17, 3) := by decide +kernel
theorem dX7_ofMeasurement_14 : decode cX7_ofMeasurement 14 = .ok (.iload_n 3, 1) := by decide +kernel
theorem dX7_ofMeasurement_15 : decode cX7_ofMeasurement 15 = .ok (.iconst 0, 1) := by decide +kernel
theorem dX7_ofMeasurement_16 : decode cX7_ofMeasurement 16 = .ok (.iconst 4, 1) := by decide +kernel
theorem dX7_ofMeasurement_17 : decode cX7_ofMeasurement 17 = .ok (.invokestatic 67, 3) := by decide +kernel
theorem dX7_ofMeasurement_20 : decode cX7_ofMeasurement 20 = .ok (.ifCond .eq 7, 3) := by decide +kernel
theorem dX7_ofMeasurement_23 : decode cX7_ofMeasurement 23 = .ok (.iconst 0, 1) := by decide +kernel
theorem dX7_ofMeasurement_24 : decode cX7_ofMeasurement 24 = .ok (.goto 4, 3) := by decide +kernel
theorem dX7_ofMeasurement_27 : decode cX7_ofMeasurement 27 = .ok (.iconst 2, 1) := by decide +kernel
theorem dX7_ofMeasurement_28 : decode cX7_ofMeasurement 28 = .ok (.invokevirtual 83, 3) := by decide +kernel
theorem dX7_ofMeasurement_31 : decode cX7_ofMeasurement 31 = .ok (.ifCond .eq 5, 3) := by decide +kernel
theorem dX7_ofMeasurement_34 : decode cX7_ofMeasurement 34 = .ok (.iconst 0, 1) := by decide +kernel
theorem dX7_ofMeasurement_35 : decode cX7_ofMeasurement 35 = .ok (.ireturn, 1) := by decide +kernel
theorem dX7_ofMeasurement_36 : decode cX7_ofMeasurement 36 = .ok (.aload_n 0, 1) := by decide +kernel
theorem dX7_ofMeasurement_37 : decode cX7_ofMeasurement 37 = .ok (.iload_n 1, 1) := by decide +kernel
theorem dX7_ofMeasurement_38 : decode cX7_ofMeasurement 38 = .ok (.invokevirtual 111, 3) := by decide +kernel
theorem dX7_ofMeasurement_41 : decode cX7_ofMeasurement 41 = .ok (.ifCond .eq 21, 3) := by decide +kernel
theorem dX7_ofMeasurement_44 : decode cX7_ofMeasurement 44 = .ok (.aload_n 0, 1) := by decide +kernel
theorem dX7_ofMeasurement_45 : decode cX7_ofMeasurement 45 = .ok (.getfield 31, 3) := by decide +kernel
theorem dX7_ofMeasurement_48 : decode cX7_ofMeasurement 48 = .ok (.bipush 30, 2) := by decide +kernel
theorem dX7_ofMeasurement_50 : decode cX7_ofMeasurement 50 = .ok (.iload_n 1, 1) := by decide +kernel
theorem dX7_ofMeasurement_51 : decode cX7_ofMeasurement 51 = .ok (.imul, 1) := by decide +kernel
theorem dX7_ofMeasurement_52 : decode cX7_ofMeasurement 52 = .ok (.iload_n 2, 1) := by decide +kernel
theorem dX7_ofMeasurement_53 : decode cX7_ofMeasurement 53 = .ok (.iadd, 1) := by decide +kernel
theorem dX7_ofMeasurement_54 : decode cX7_ofMeasurement 54 = .ok (.baload, 1) := by decide +kernel
theorem dX7_ofMeasurement_55 : decode cX7_ofMeasurement 55 = .ok (.ifCond .ne 7, 3) := by decide +kernel
theorem dX7_ofMeasurement_58 : decode cX7_ofMeasurement 58 = .ok (.iconst 1, 1) := by decide +kernel
theorem dX7_ofMeasurement_59 : decode cX7_ofMeasurement 59 = .ok (.goto 4, 3) := by decide +kernel
theorem dX7_ofMeasurement_62 : decode cX7_ofMeasurement 62 = .ok (.iconst 0, 1) := by decide +kernel
theorem dX7_ofMeasurement_63 : decode cX7_ofMeasurement 63 = .ok (.istore 4, 2) := by decide +kernel
theorem dX7_ofMeasurement_65 : decode cX7_ofMeasurement 65 = .ok (.iload_n 3, 1) := by decide +kernel
theorem dX7_ofMeasurement_66 : decode cX7_ofMeasurement 66 = .ok (.ifCond .ne 20, 3) := by decide +kernel
theorem dX7_ofMeasurement_69 : decode cX7_ofMeasurement 69 = .ok (.aload_n 0, 1) := by decide +kernel
theorem dX7_ofMeasurement_70 : decode cX7_ofMeasurement 70 = .ok (.getfield 28, 3) := by decide +kernel
theorem dX7_ofMeasurement_73 : decode cX7_ofMeasurement 73 = .ok (.bipush 6, 2) := by decide +kernel
theorem dX7_ofMeasurement_75 : decode cX7_ofMeasurement 75 = .ok (.bipush 30, 2) := by decide +kernel
theorem dX7_ofMeasurement_77 : decode cX7_ofMeasurement 77 = .ok (.iload_n 1, 1) := by decide +kernel
theorem dX7_ofMeasurement_78 : decode cX7_ofMeasurement 78 = .ok (.imul, 1) := by decide +kernel
theorem dX7_ofMeasurement_79 : decode cX7_ofMeasurement 79 = .ok (.iload_n 2, 1) := by decide +kernel
theorem dX7_ofMeasurement_80 : decode cX7_ofMeasurement 80 = .ok (.iadd, 1) := by decide +kernel
theorem dX7_ofMeasurement_81 : decode cX7_ofMeasurement 81 = .ok (.imul, 1) := by decide +kernel
theorem dX7_ofMeasurement_82 : decode cX7_ofMeasurement 82 = .ok (.iaload, 1) := by decide +kernel
theorem dX7_ofMeasurement_83 : decode cX7_ofMeasurement 83 = .ok (.goto 47, 3) := by decide +kernel
theorem dX7_ofMeasurement_86 : decode cX7_ofMeasurement 86 = .ok (.iload 4, 2) := by decide +kernel
theorem dX7_ofMeasurement_88 : decode cX7_ofMeasurement 88 = .ok (.ifCond .ne 7, 3) := by decide +kernel
theorem dX7_ofMeasurement_91 : decode cX7_ofMeasurement 91 = .ok (.iconst (-1), 1) := by decide +kernel
theorem dX7_ofMeasurement_92 : decode cX7_ofMeasurement 92 = .ok (.goto 38, 3) := by decide +kernel
theorem dX7_ofMeasurement_95 : decode cX7_ofMeasurement 95 = .ok (.iload_n 3, 1) := by decide +kernel
theorem dX7_ofMeasurement_96 : decode cX7_ofMeasurement 96 = .ok (.iconst 4, 1) := by decide +kernel
theorem dX7_ofMeasurement_97 : decode cX7_ofMeasurement 97 = .ok (.if_icmp .ne 20, 3) := by decide +kernel
theorem dX7_ofMeasurement_100 : decode cX7_ofMeasurement 100 = .ok (.aload_n 0, 1) := by decide +kernel
theorem dX7_ofMeasurement_101 : decode cX7_ofMeasurement 101 = .ok (.getfield 45, 3) := by decide +kernel
theorem dX7_ofMeasurement_104 : decode cX7_ofMeasurement 104 = .ok (.iload_n 2, 1) := by decide +kernel
theorem dX7_ofMeasurement_105 : decode cX7_ofMeasurement 105 = .ok (.baload, 1) := by decide +kernel
theorem dX7_ofMeasurement_106 : decode cX7_ofMeasurement 106 = .ok (.ifCond .eq 7, 3) := by decide +kernel
theorem dX7_ofMeasurement_109 : decode cX7_ofMeasurement 109 = .ok (.iconst 1, 1) := by decide +kernel
theorem dX7_ofMeasurement_110 : decode cX7_ofMeasurement 110 = .ok (.goto 20, 3) := by decide +kernel
theorem dX7_ofMeasurement_113 : decode cX7_ofMeasurement 113 = .ok (.iconst 0, 1) := by decide +kernel
theorem dX7_ofMeasurement_114 : decode cX7_ofMeasurement 114 = .ok (.goto 16, 3) := by decide +kernel
theorem dX7_ofMeasurement_117 : decode cX7_ofMeasurement 117 = .ok (.aload_n 0, 1) := by decide +kernel
theorem dX7_ofMeasurement_118 : decode cX7_ofMeasurement 118 = .ok (.getfield 42, 3) := by decide +kernel
theorem dX7_ofMeasurement_121 : decode cX7_ofMeasurement 121 = .ok (.iconst 3, 1) := by decide +kernel
theorem dX7_ofMeasurement_122 : decode cX7_ofMeasurement 122 = .ok (.iload_n 2, 1) := by decide +kernel
theorem dX7_ofMeasurement_123 : decode cX7_ofMeasurement 123 = .ok (.imul, 1) := by decide +kernel
theorem dX7_ofMeasurement_124 : decode cX7_ofMeasurement 124 = .ok (.iload_n 3, 1) := by decide +kernel
theorem dX7_ofMeasurement_125 : decode cX7_ofMeasurement 125 = .ok (.iadd, 1) := by decide +kernel
theorem dX7_ofMeasurement_126 : decode cX7_ofMeasurement 126 = .ok (.iconst 1, 1) := by decide +kernel
theorem dX7_ofMeasurement_127 : decode cX7_ofMeasurement 127 = .ok (.isub, 1) := by decide +kernel
theorem dX7_ofMeasurement_128 : decode cX7_ofMeasurement 128 = .ok (.laload, 1) := by decide +kernel
theorem dX7_ofMeasurement_129 : decode cX7_ofMeasurement 129 = .ok (.l2i, 1) := by decide +kernel
theorem dX7_ofMeasurement_130 : decode cX7_ofMeasurement 130 = .ok (.ireturn, 1) := by decide +kernel
set_option maxRecDepth 20000 in
theorem ggX7_gain_X7_isField : GoodIn wsX7_gain wsX7_isField := goodIn_r _ [5, 6, 7, 4, 8] rfl (by decide +kernel)
set_option maxRecDepth 20000 in
theorem gX7_gain_X7_isField : GoodIn wsX7_gain (va_wsS RX7 87 yX7_isField wsX7_isField) := goodIn_app (goodIn_of _ (by decide +kernel)) ggX7_gain_X7_isField
set_option maxRecDepth 20000 in
theorem ggX7_gain_X7_isIn : GoodIn wsX7_gain wsX7_isIn := goodIn_r _ [8] rfl (by decide +kernel)
set_option maxRecDepth 20000 in
theorem gX7_gain_X7_isIn : GoodIn wsX7_gain (va_wsS RX7 67 yX7_isIn wsX7_isIn) := goodIn_app (goodIn_of _ (by decide +kernel)) ggX7_gain_X7_isIn
set_option maxRecDepth 20000 in
theorem ggX7_gain_X7_isOne : GoodIn wsX7_gain wsX7_isOne := goodIn_r _ [12, 13, 6, 7, 4, 8, 48, 49, 50, 51, 52, 53, 54, 55, 56, 57, 58, 59, 60, 61, 62, 63, 64, 65, 66, 67] rfl (by decide +kernel)
set_option maxRecDepth 20000 in
theorem gX7_gain_X7_isOne : GoodIn wsX7_gain (wsV RX7 93 RX7 yX7_isOne wsX7_isOne) := goodIn_app (goodIn_of _ (by decide +kernel)) ggX7_gain_X7_isOne
set_option maxRecDepth 20000 in
theorem ggX7_gain_X7_goes : GoodIn wsX7_gain wsX7_goes := goodIn_r _ [17, 1, 18, 19, 20, 21, 22, 23, 24, 25, 26, 27, 4, 28, 29, 30, 31, 32, 33, 34, 35, 36, 37, 38, 39, 40, 41, 42, 48, 49, 50, 51, 52, 53, 54, 55, 56, 57, 58, 59, 60, 61, 62, 63, 64, 65, 66, 67] rfl (by decide +kernel)
set_option maxRecDepth 20000 in
theorem gX7_gain_X7_goes : GoodIn wsX7_gain (wsV RX7 111 RX7 yX7_goes wsX7_goes) := goodIn_app (goodIn_of _ (by decide +kernel)) ggX7_gain_X7_goes
set_option maxRecDepth 20000 in
theorem ggX7_gain_X7_by : GoodIn wsX7_gain wsX7_by := goodIn_r _ [32, 33] rfl (by decide +kernel)
set_option maxRecDepth 20000 in
theorem gX7_gain_X7_by : GoodIn wsX7_gain (va_wsS RX7 79 yX7_by wsX7_by) := goodIn_app (goodIn_of _ (by decide +kernel)) ggX7_gain_X7_by
set_option maxRecDepth 20000 in
theorem ggX7_gain_X7_fails : GoodIn wsX7_gain wsX7_fails := goodIn_r _ [46, 47, 48, 49, 50, 51, 52, 53, 54, 55, 56, 57, 58, 59, 60, 61, 62, 63, 64, 65, 66, 67] rfl (by decide +kernel)
set_option maxRecDepth 20000 in
theorem gX7_gain_X7_fails : GoodIn wsX7_gain (wsV RX7 83 RX7 yX7_fails wsX7_fails) := goodIn_app (goodIn_of _ (by decide +kernel)) ggX7_gain_X7_fails
set_option maxRecDepth 20000 in
theorem ggX7_gain_X7_inverse : GoodIn wsX7_gain wsX7_inverse := goodIn_r _ [42, 33, 30, 31, 4, 32] rfl (by decide +kernel)
set_option maxRecDepth 20000 in
theorem gX7_gain_X7_inverse : GoodIn wsX7_gain (va_wsS RX7 96 yX7_inverse wsX7_inverse) := goodIn_app (goodIn_of _ (by decide +kernel)) ggX7_gain_X7_inverse
theorem dX7_gain_0 : decode cX7_gain 0 = .ok (.iload_n 2, 1) := by decide +kernel
theorem dX7_gain_1 : decode cX7_gain 1 = .ok (.invokestatic 87, 3) := by decide +kernel
theorem dX7_gain_4 : decode cX7_gain 4 = .ok (.ifCond .eq 32, 3) := by decide +kernel
theorem dX7_gain_7 : decode cX7_gain 7 = .ok (.iload_n 3, 1) := by decide +kernel
theorem dX7_gain_8 : decode cX7_gain 8 = .ok (.invokestatic 87, 3) := by decide +kernel
theorem dX7_gain_11 : decode cX7_gain 11 = .ok (.ifCond .eq 25, 3) := by decide +kernel
theorem dX7_gain_14 : decode cX7_gain 14 = .ok (.iload 4, 2) := by decide +kernel
theorem dX7_gain_16 : decode cX7_gain 16 = .ok (.invokestatic 87, 3) := by decide +kernel
theorem dX7_gain_19 : decode cX7_gain 19 = .ok (.ifCond .eq 17, 3) := by decide +kernel
theorem dX7_gain_22 : decode cX7_gain 22 = .ok (.iload 5, 2) := by decide +kernel
theorem dX7_gain_24 : decode cX7_gain 24 = .ok (.iconst 0, 1) := by decide +kernel
theorem dX7_gain_25 : decode cX7_gain 25 = .ok (.iconst 1, 1) := by decide +kernel
theorem dX7_gain_26 : decode cX7_gain 26 = .ok (.invokestatic 67, 3) := by decide +kernel
theorem dX7_gain_29 : decode cX7_gain 29 = .ok (.ifCond .eq 7, 3) := by decide +kernel
theorem dX7_gain_32 : decode cX7_gain 32 = .ok (.iconst 1, 1) := by decide +kernel
theorem dX7_gain_33 : decode cX7_gain 33 = .ok (.goto 4, 3) := by decide +kernel
theorem dX7_gain_36 : decode cX7_gain 36 = .ok (.iconst 0, 1) := by decide +kernel
theorem dX7_gain_37 : decode cX7_gain 37 = .ok (.istore 6, 2) := by decide +kernel
theorem dX7_gain_39 : decode cX7_gain 39 = .ok (.lconst 0, 1) := by decide +kernel
theorem dX7_gain_40 : decode cX7_gain 40 = .ok (.lstore 7, 2) := by decide +kernel
theorem dX7_gain_42 : decode cX7_gain 42 = .ok (.lconst 0, 1) := by decide +kernel
theorem dX7_gain_43 : decode cX7_gain 43 = .ok (.lstore 9, 2) := by decide +kernel
theorem dX7_gain_45 : decode cX7_gain 45 = .ok (.lconst 0, 1) := by decide +kernel
theorem dX7_gain_46 : decode cX7_gain 46 = .ok (.lstore 11, 2) := by decide +kernel
theorem dX7_gain_48 : decode cX7_gain 48 = .ok (.aload_n 0, 1) := by decide +kernel
theorem dX7_gain_49 : decode cX7_gain 49 = .ok (.iload_n 1, 1) := by decide +kernel
theorem dX7_gain_50 : decode cX7_gain 50 = .ok (.invokevirtual 93, 3) := by decide +kernel
theorem dX7_gain_53 : decode cX7_gain 53 = .ok (.ifCond .eq 84, 3) := by decide +kernel
theorem dX7_gain_56 : decode cX7_gain 56 = .ok (.iload 6, 2) := by decide +kernel
theorem dX7_gain_58 : decode cX7_gain 58 = .ok (.ifCond .eq 79, 3) := by decide +kernel
theorem dX7_gain_61 : decode cX7_gain 61 = .ok (.aload_n 0, 1) := by decide +kernel
theorem dX7_gain_62 : decode cX7_gain 62 = .ok (.iload_n 1, 1) := by decide +kernel
theorem dX7_gain_63 : decode cX7_gain 63 = .ok (.invokevirtual 111, 3) := by decide +kernel
theorem dX7_gain_66 : decode cX7_gain 66 = .ok (.ifCond .eq 71, 3) := by decide +kernel
theorem dX7_gain_69 : decode cX7_gain 69 = .ok (.aload_n 0, 1) := by decide +kernel
theorem dX7_gain_70 : decode cX7_gain 70 = .ok (.getfield 48, 3) := by decide +kernel
theorem dX7_gain_73 : decode cX7_gain 73 = .ok (.iconst 2, 1) := by decide +kernel
theorem dX7_gain_74 : decode cX7_gain 74 = .ok (.laload, 1) := by decide +kernel
theorem dX7_gain_75 : decode cX7_gain 75 = .ok (.iload_n 2, 1) := by decide +kernel
theorem dX7_gain_76 : decode cX7_gain 76 = .ok (.i2l, 1) := by decide +kernel
theorem dX7_gain_77 : decode cX7_gain 77 = .ok (.lmul, 1) := by decide +kernel
theorem dX7_gain_78 : decode cX7_gain 78 = .ok (.aload_n 0, 1) := by decide +kernel
theorem dX7_gain_79 : decode cX7_gain 79 = .ok (.getfield 48, 3) := by decide +kernel
theorem dX7_gain_82 : decode cX7_gain 82 = .ok (.iconst 3, 1) := by decide +kernel
theorem dX7_gain_83 : decode cX7_gain 83 = .ok (.laload, 1) := by decide +kernel
theorem dX7_gain_84 : decode cX7_gain 84 = .ok (.iload_n 3, 1) := by decide +kernel
theorem dX7_gain_85 : decode cX7_gain 85 = .ok (.i2l, 1) := by decide +kernel
theorem dX7_gain_86 : decode cX7_gain 86 = .ok (.lmul, 1) := by decide +kernel
theorem dX7_gain_87 : decode cX7_gain 87 = .ok (.ladd, 1) := by decide +kernel
theorem dX7_gain_88 : decode cX7_gain 88 = .ok (.invokestatic 79, 3) := by decide +kernel
theorem dX7_gain_91 : decode cX7_gain 91 = .ok (.lstore 7, 2) := by decide +kernel
theorem dX7_gain_93 : decode cX7_gain 93 = .ok (.aload_n 0, 1) := by decide +kernel
theorem dX7_gain_94 : decode cX7_gain 94 = .ok (.getfield 48, 3) := by decide +kernel
theorem dX7_gain_97 : decode cX7_gain 97 = .ok (.iconst 3, 1) := by decide +kernel
theorem dX7_gain_98 : decode cX7_gain 98 = .ok (.laload, 1) := by decide +kernel
theorem dX7_gain_99 : decode cX7_gain 99 = .ok (.iload_n 2, 1) := by decide +kernel
theorem dX7_gain_100 : decode cX7_gain 100 = .ok (.i2l, 1) := by decide +kernel
theorem dX7_gain_101 : decode cX7_gain 101 = .ok (.lmul, 1) := by decide +kernel
theorem dX7_gain_102 : decode cX7_gain 102 = .ok (.aload_n 0, 1) := by decide +kernel
theorem dX7_gain_103 : decode cX7_gain 103 = .ok (.getfield 48, 3) := by decide +kernel
theorem dX7_gain_106 : decode cX7_gain 106 = .ok (.iconst 4, 1) := by decide +kernel
theorem dX7_gain_107 : decode cX7_gain 107 = .ok (.laload, 1) := by decide +kernel
theorem dX7_gain_108 : decode cX7_gain 108 = .ok (.iload_n 3, 1) := by decide +kernel
theorem dX7_gain_109 : decode cX7_gain 109 = .ok (.i2l, 1) := by decide +kernel
theorem dX7_gain_110 : decode cX7_gain 110 = .ok (.lmul, 1) := by decide +kernel
theorem dX7_gain_111 : decode cX7_gain 111 = .ok (.ladd, 1) := by decide +kernel
theorem dX7_gain_112 : decode cX7_gain 112 = .ok (.invokestatic 79, 3) := by decide +kernel
theorem dX7_gain_115 : decode cX7_gain 115 = .ok (.lstore 9, 2) := by decide +kernel
theorem dX7_gain_117 : decode cX7_gain 117 = .ok (.lload 7, 2) := by decide +kernel
theorem dX7_gain_119 : decode cX7_gain 119 = .ok (.iload_n 2, 1) := by decide +kernel
theorem dX7_gain_120 : decode cX7_gain 120 = .ok (.i2l, 1) := by decide +kernel
theorem dX7_gain_121 : decode cX7_gain 121 = .ok (.lmul, 1) := by decide +kernel
theorem dX7_gain_122 : decode cX7_gain 122 = .ok (.lload 9, 2) := by decide +kernel
theorem dX7_gain_124 : decode cX7_gain 124 = .ok (.iload_n 3, 1) := by decide +kernel
theorem dX7_gain_125 : decode cX7_gain 125 = .ok (.i2l, 1) := by decide +kernel
theorem dX7_gain_126 : decode cX7_gain 126 = .ok (.lmul, 1) := by decide +kernel
theorem dX7_gain_127 : decode cX7_gain 127 = .ok (.ladd, 1) := by decide +kernel
theorem dX7_gain_128 : decode cX7_gain 128 = .ok (.iload 4, 2) := by decide +kernel
theorem dX7_gain_130 : decode cX7_gain 130 = .ok (.i2l, 1) := by decide +kernel
theorem dX7_gain_131 : decode cX7_gain 131 = .ok (.ladd, 1) := by decide +kernel
theorem dX7_gain_132 : decode cX7_gain 132 = .ok (.invokestatic 79, 3) := by decide +kernel
theorem dX7_gain_135 : decode cX7_gain 135 = .ok (.lstore 11, 2) := by decide +kernel
theorem dX7_gain_137 : decode cX7_gain 137 = .ok (.aload_n 0, 1) := by decide +kernel
theorem dX7_gain_138 : decode cX7_gain 138 = .ok (.aload_n 0, 1) := by decide +kernel
theorem dX7_gain_139 : decode cX7_gain 139 = .ok (.iload_n 1, 1) := by decide +kernel
theorem dX7_gain_140 : decode cX7_gain 140 = .ok (.invokevirtual 93, 3) := by decide +kernel
theorem dX7_gain_143 : decode cX7_gain 143 = .ok (.ifCond .ne 7, 3) := by decide +kernel
theorem dX7_gain_146 : decode cX7_gain 146 = .ok (.iconst 1, 1) := by decide +kernel
theorem dX7_gain_147 : decode cX7_gain 147 = .ok (.goto 24, 3) := by decide +kernel
theorem dX7_gain_150 : decode cX7_gain 150 = .ok (.iload 6, 2) := by decide +kernel
theorem dX7_gain_152 : decode cX7_gain 152 = .ok (.ifCond .ne 7, 3) := by decide +kernel
theorem dX7_gain_155 : decode cX7_gain 155 = .ok (.iconst 2, 1) := by decide +kernel
theorem dX7_gain_156 : decode cX7_gain 156 = .ok (.goto 15, 3) := by decide +kernel
theorem dX7_gain_159 : decode cX7_gain 159 = .ok (.lload 11, 2) := by decide +kernel
theorem dX7_gain_161 : decode cX7_gain 161 = .ok (.lconst 0, 1) := by decide +kernel
theorem dX7_gain_162 : decode cX7_gain 162 = .ok (.lcmp, 1) := by decide +kernel
theorem dX7_gain_163 : decode cX7_gain 163 = .ok (.ifCond .ne 7, 3) := by decide +kernel
theorem dX7_gain_166 : decode cX7_gain 166 = .ok (.iconst 3, 1) := by decide +kernel
theorem dX7_gain_167 : decode cX7_gain 167 = .ok (.goto 4, 3) := by decide +kernel
theorem dX7_gain_170 : decode cX7_gain 170 = .ok (.iconst 0, 1) := by decide +kernel
theorem dX7_gain_171 : decode cX7_gain 171 = .ok (.invokevirtual 83, 3) := by decide +kernel
theorem dX7_gain_174 : decode cX7_gain 174 = .ok (.ifCond .eq 5, 3) := by decide +kernel
theorem dX7_gain_177 : decode cX7_gain 177 = .ok (.iconst 0, 1) := by decide +kernel
theorem dX7_gain_178 : decode cX7_gain 178 = .ok (.ireturn, 1) := by decide +kernel
theorem dX7_gain_179 : decode cX7_gain 179 = .ok (.iload 5, 2) := by decide +kernel
theorem dX7_gain_181 : decode cX7_gain 181 = .ok (.ifCond .ne 8, 3) := by decide +kernel
theorem dX7_gain_184 : decode cX7_gain 184 = .ok (.lload 7, 2) := by decide +kernel
theorem dX7_gain_186 : decode cX7_gain 186 = .ok (.goto 5, 3) := by decide +kernel
theorem dX7_gain_189 : decode cX7_gain 189 = .ok (.lload 9, 2) := by decide +kernel
theorem dX7_gain_191 : decode cX7_gain 191 = .ok (.lload 11, 2) := by decide +kernel
theorem dX7_gain_193 : decode cX7_gain 193 = .ok (.invokestatic 96, 3) := by decide +kernel
theorem dX7_gain_196 : decode cX7_gain 196 = .ok (.lmul, 1) := by decide +kernel
theorem dX7_gain_197 : decode cX7_gain 197 = .ok (.invokestatic 79, 3) := by decide +kernel
theorem dX7_gain_200 : decode cX7_gain 200 = .ok (.l2i, 1) := by decide +kernel
theorem dX7_gain_201 : decode cX7_gain 201 = .ok (.ireturn, 1) := by decide +kernel
set_option maxRecDepth 20000 in
theorem ggX7_inverts_X7_by : GoodIn wsX7_inverts wsX7_by := goodIn_r _ [4, 5] rfl (by decide +kernel)
set_option maxRecDepth 20000 in
theorem gX7_inverts_X7_by : GoodIn wsX7_inverts (va_wsS RX7 79 yX7_by wsX7_by) := goodIn_app (goodIn_of _ (by decide +kernel)) ggX7_inverts_X7_by
set_option maxRecDepth 20000 in
theorem ggX7_inverts_X7_inverse : GoodIn wsX7_inverts wsX7_inverse := goodIn_r _ [8, 5, 1, 2, 3, 4] rfl (by decide +kernel)
set_option maxRecDepth 20000 in
theorem gX7_inverts_X7_inverse : GoodIn wsX7_inverts (va_wsS RX7 96 yX7_inverse wsX7_inverse) := goodIn_app (goodIn_of _ (by decide +kernel)) ggX7_inverts_X7_inverse
theorem dX7_inverts_0 : decode cX7_inverts 0 = .ok (.aload_n 0, 1) := by decide +kernel
theorem dX7_inverts_1 : decode cX7_inverts 1 = .ok (.iconst 2, 1) := by decide +kernel
theorem dX7_inverts_2 : decode cX7_inverts 2 = .ok (.laload, 1) := by decide +kernel
theorem dX7_inverts_3 : decode cX7_inverts 3 = .ok (.aload_n 0, 1) := by decide +kernel
theorem dX7_inverts_4 : decode cX7_inverts 4 = .ok (.iconst 4, 1) := by decide +kernel
theorem dX7_inverts_5 : decode cX7_inverts 5 = .ok (.laload, 1) := by decide +kernel
theorem dX7_inverts_6 : decode cX7_inverts 6 = .ok (.lmul, 1) := by decide +kernel
theorem dX7_inverts_7 : decode cX7_inverts 7 = .ok (.aload_n 0, 1) := by decide +kernel
theorem dX7_inverts_8 : decode cX7_inverts 8 = .ok (.iconst 3, 1) := by decide +kernel
theorem dX7_inverts_9 : decode cX7_inverts 9 = .ok (.laload, 1) := by decide +kernel
theorem dX7_inverts_10 : decode cX7_inverts 10 = .ok (.aload_n 0, 1) := by decide +kernel
theorem dX7_inverts_11 : decode cX7_inverts 11 = .ok (.iconst 3, 1) := by decide +kernel
theorem dX7_inverts_12 : decode cX7_inverts 12 = .ok (.laload, 1) := by decide +kernel
theorem dX7_inverts_13 : decode cX7_inverts 13 = .ok (.lmul, 1) := by decide +kernel
theorem dX7_inverts_14 : decode cX7_inverts 14 = .ok (.lsub, 1) := by decide +kernel
theorem dX7_inverts_15 : decode cX7_inverts 15 = .ok (.invokestatic 79, 3) := by decide +kernel
theorem dX7_inverts_18 : decode cX7_inverts 18 = .ok (.lstore_n 1, 1) := by decide +kernel
theorem dX7_inverts_19 : decode cX7_inverts 19 = .ok (.lload_n 1, 1) := by decide +kernel
theorem dX7_inverts_20 : decode cX7_inverts 20 = .ok (.invokestatic 96, 3) := by decide +kernel
theorem dX7_inverts_23 : decode cX7_inverts 23 = .ok (.lstore_n 3, 1) := by decide +kernel
theorem dX7_inverts_24 : decode cX7_inverts 24 = .ok (.aload_n 0, 1) := by decide +kernel
theorem dX7_inverts_25 : decode cX7_inverts 25 = .ok (.iconst 2, 1) := by decide +kernel
theorem dX7_inverts_26 : decode cX7_inverts 26 = .ok (.laload, 1) := by decide +kernel
theorem dX7_inverts_27 : decode cX7_inverts 27 = .ok (.lstore 5, 2) := by decide +kernel
theorem dX7_inverts_29 : decode cX7_inverts 29 = .ok (.aload_n 0, 1) := by decide +kernel
theorem dX7_inverts_30 : decode cX7_inverts 30 = .ok (.iconst 2, 1) := by decide +kernel
theorem dX7_inverts_31 : decode cX7_inverts 31 = .ok (.aload_n 0, 1) := by decide +kernel
theorem dX7_inverts_32 : decode cX7_inverts 32 = .ok (.iconst 4, 1) := by decide +kernel
theorem dX7_inverts_33 : decode cX7_inverts 33 = .ok (.laload, 1) := by decide +kernel
theorem dX7_inverts_34 : decode cX7_inverts 34 = .ok (.lload_n 3, 1) := by decide +kernel
theorem dX7_inverts_35 : decode cX7_inverts 35 = .ok (.lmul, 1) := by decide +kernel
theorem dX7_inverts_36 : decode cX7_inverts 36 = .ok (.invokestatic 79, 3) := by decide +kernel
theorem dX7_inverts_39 : decode cX7_inverts 39 = .ok (.lastore, 1) := by decide +kernel
theorem dX7_inverts_40 : decode cX7_inverts 40 = .ok (.aload_n 0, 1) := by decide +kernel
theorem dX7_inverts_41 : decode cX7_inverts 41 = .ok (.iconst 3, 1) := by decide +kernel
theorem dX7_inverts_42 : decode cX7_inverts 42 = .ok (.aload_n 0, 1) := by decide +kernel
theorem dX7_inverts_43 : decode cX7_inverts 43 = .ok (.iconst 3, 1) := by decide +kernel
theorem dX7_inverts_44 : decode cX7_inverts 44 = .ok (.laload, 1) := by decide +kernel
theorem dX7_inverts_45 : decode cX7_inverts 45 = .ok (.lneg, 1) := by decide +kernel
theorem dX7_inverts_46 : decode cX7_inverts 46 = .ok (.lload_n 3, 1) := by decide +kernel
theorem dX7_inverts_47 : decode cX7_inverts 47 = .ok (.lmul, 1) := by decide +kernel
theorem dX7_inverts_48 : decode cX7_inverts 48 = .ok (.invokestatic 79, 3) := by decide +kernel
theorem dX7_inverts_51 : decode cX7_inverts 51 = .ok (.lastore, 1) := by decide +kernel
theorem dX7_inverts_52 : decode cX7_inverts 52 = .ok (.aload_n 0, 1) := by decide +kernel
theorem dX7_inverts_53 : decode cX7_inverts 53 = .ok (.iconst 4, 1) := by decide +kernel
theorem dX7_inverts_54 : decode cX7_inverts 54 = .ok (.lload 5, 2) := by decide +kernel
theorem dX7_inverts_56 : decode cX7_inverts 56 = .ok (.lload_n 3, 1) := by decide +kernel
theorem dX7_inverts_57 : decode cX7_inverts 57 = .ok (.lmul, 1) := by decide +kernel
theorem dX7_inverts_58 : decode cX7_inverts 58 = .ok (.invokestatic 79, 3) := by decide +kernel
theorem dX7_inverts_61 : decode cX7_inverts 61 = .ok (.lastore, 1) := by decide +kernel
theorem dX7_inverts_62 : decode cX7_inverts 62 = .ok (.lload_n 1, 1) := by decide +kernel
theorem dX7_inverts_63 : decode cX7_inverts 63 = .ok (.lconst 0, 1) := by decide +kernel
theorem dX7_inverts_64 : decode cX7_inverts 64 = .ok (.lcmp, 1) := by decide +kernel
theorem dX7_inverts_65 : decode cX7_inverts 65 = .ok (.ifCond .eq 7, 3) := by decide +kernel
theorem dX7_inverts_68 : decode cX7_inverts 68 = .ok (.iconst 1, 1) := by decide +kernel
theorem dX7_inverts_69 : decode cX7_inverts 69 = .ok (.goto 4, 3) := by decide +kernel
theorem dX7_inverts_72 : decode cX7_inverts 72 = .ok (.iconst 0, 1) := by decide +kernel
theorem dX7_inverts_73 : decode cX7_inverts 73 = .ok (.ireturn, 1) := by decide +kernel
set_option maxRecDepth 20000 in
theorem ggX7_times_X7_by : GoodIn wsX7_times wsX7_by := goodIn_r _ [4, 5] rfl (by decide +kernel)
set_option maxRecDepth 20000 in
theorem gX7_times_X7_by : GoodIn wsX7_times (va_wsS RX7 79 yX7_by wsX7_by) := goodIn_app (goodIn_of _ (by decide +kernel)) ggX7_times_X7_by
theorem dX7_times_0 : decode cX7_times 0 = .ok (.aload_n 0, 1) := by decide +kernel
theorem dX7_times_1 : decode cX7_times 1 = .ok (.iconst 2, 1) := by decide +kernel
theorem dX7_times_2 : decode cX7_times 2 = .ok (.laload, 1) := by decide +kernel
theorem dX7_times_3 : decode cX7_times 3 = .ok (.aload_n 0, 1) := by decide +kernel
theorem dX7_times_4 : decode cX7_times 4 = .ok (.iconst 0, 1) := by decide +kernel
theorem dX7_times_5 : decode cX7_times 5 = .ok (.laload, 1) := by decide +kernel
theorem dX7_times_6 : decode cX7_times 6 = .ok (.lmul, 1) := by decide +kernel
theorem dX7_times_7 : decode cX7_times 7 = .ok (.aload_n 0, 1) := by decide +kernel
theorem dX7_times_8 : decode cX7_times 8 = .ok (.iconst 3, 1) := by decide +kernel
theorem dX7_times_9 : decode cX7_times 9 = .ok (.laload, 1) := by decide +kernel
theorem dX7_times_10 : decode cX7_times 10 = .ok (.aload_n 0, 1) := by decide +kernel
theorem dX7_times_11 : decode cX7_times 11 = .ok (.iconst 1, 1) := by decide +kernel
theorem dX7_times_12 : decode cX7_times 12 = .ok (.laload, 1) := by decide +kernel
theorem dX7_times_13 : decode cX7_times 13 = .ok (.lmul, 1) := by decide +kernel
theorem dX7_times_14 : decode cX7_times 14 = .ok (.ladd, 1) := by decide +kernel
theorem dX7_times_15 : decode cX7_times 15 = .ok (.invokestatic 79, 3) := by decide +kernel
theorem dX7_times_18 : decode cX7_times 18 = .ok (.lstore_n 1, 1) := by decide +kernel
theorem dX7_times_19 : decode cX7_times 19 = .ok (.aload_n 0, 1) := by decide +kernel
theorem dX7_times_20 : decode cX7_times 20 = .ok (.iconst 1, 1) := by decide +kernel
theorem dX7_times_21 : decode cX7_times 21 = .ok (.aload_n 0, 1) := by decide +kernel
theorem dX7_times_22 : decode cX7_times 22 = .ok (.iconst 3, 1) := by decide +kernel
theorem dX7_times_23 : decode cX7_times 23 = .ok (.laload, 1) := by decide +kernel
theorem dX7_times_24 : decode cX7_times 24 = .ok (.aload_n 0, 1) := by decide +kernel
theorem dX7_times_25 : decode cX7_times 25 = .ok (.iconst 0, 1) := by decide +kernel
theorem dX7_times_26 : decode cX7_times 26 = .ok (.laload, 1) := by decide +kernel
theorem dX7_times_27 : decode cX7_times 27 = .ok (.lmul, 1) := by decide +kernel
theorem dX7_times_28 : decode cX7_times 28 = .ok (.aload_n 0, 1) := by decide +kernel
theorem dX7_times_29 : decode cX7_times 29 = .ok (.iconst 4, 1) := by decide +kernel
theorem dX7_times_30 : decode cX7_times 30 = .ok (.laload, 1) := by decide +kernel
theorem dX7_times_31 : decode cX7_times 31 = .ok (.aload_n 0, 1) := by decide +kernel
theorem dX7_times_32 : decode cX7_times 32 = .ok (.iconst 1, 1) := by decide +kernel
theorem dX7_times_33 : decode cX7_times 33 = .ok (.laload, 1) := by decide +kernel
theorem dX7_times_34 : decode cX7_times 34 = .ok (.lmul, 1) := by decide +kernel
theorem dX7_times_35 : decode cX7_times 35 = .ok (.ladd, 1) := by decide +kernel
theorem dX7_times_36 : decode cX7_times 36 = .ok (.invokestatic 79, 3) := by decide +kernel
theorem dX7_times_39 : decode cX7_times 39 = .ok (.lastore, 1) := by decide +kernel
theorem dX7_times_40 : decode cX7_times 40 = .ok (.aload_n 0, 1) := by decide +kernel
theorem dX7_times_41 : decode cX7_times 41 = .ok (.iconst 0, 1) := by decide +kernel
theorem dX7_times_42 : decode cX7_times 42 = .ok (.lload_n 1, 1) := by decide +kernel
theorem dX7_times_43 : decode cX7_times 43 = .ok (.lastore, 1) := by decide +kernel
theorem dX7_times_44 : decode cX7_times 44 = .ok (.return_, 1) := by decide +kernel
set_option maxRecDepth 20000 in
theorem ggX7_information_X7_isOne : GoodIn wsX7_information wsX7_isOne := goodIn_r _ [6, 7, 8, 9, 5, 10, 51, 52, 53, 54, 55, 56, 57, 58, 59, 60, 61, 62, 63, 64, 65, 66, 67, 68, 69, 70] rfl (by decide +kernel)
set_option maxRecDepth 20000 in
theorem gX7_information_X7_isOne : GoodIn wsX7_information (wsV RX7 93 RX7 yX7_isOne wsX7_isOne) := goodIn_app (goodIn_of _ (by decide +kernel)) ggX7_information_X7_isOne
set_option maxRecDepth 20000 in
theorem ggX7_information_X7_isIn : GoodIn wsX7_information wsX7_isIn := goodIn_r _ [10] rfl (by decide +kernel)
set_option maxRecDepth 20000 in
theorem gX7_information_X7_isIn : GoodIn wsX7_information (va_wsS RX7 67 yX7_isIn wsX7_isIn) := goodIn_app (goodIn_of _ (by decide +kernel)) ggX7_information_X7_isIn
set_option maxRecDepth 20000 in
theorem ggX7_information_X7_goes : GoodIn wsX7_information wsX7_goes := goodIn_r _ [14, 1, 15, 16, 17, 18, 19, 20, 21, 22, 23, 24, 5, 25, 26, 27, 28, 29, 30, 31, 32, 33, 34, 35, 36, 37, 38, 39, 51, 52, 53, 54, 55, 56, 57, 58, 59, 60, 61, 62, 63, 64, 65, 66, 67, 68, 69, 70] rfl (by decide +kernel)
set_option maxRecDepth 20000 in
theorem gX7_information_X7_goes : GoodIn wsX7_information (wsV RX7 111 RX7 yX7_goes wsX7_goes) := goodIn_app (goodIn_of _ (by decide +kernel)) ggX7_information_X7_goes
set_option maxRecDepth 20000 in
theorem ggX7_information_X7_inverts : GoodIn wsX7_information wsX7_inverts := goodIn_r _ [42, 27, 28, 5, 29, 30, 37, 38, 39] rfl (by decide +kernel)
set_option maxRecDepth 20000 in
theorem gX7_information_X7_inverts : GoodIn wsX7_information (va_wsS RX7 117 yX7_inverts wsX7_inverts) := goodIn_app (goodIn_of _ (by decide +kernel)) ggX7_information_X7_inverts
set_option maxRecDepth 20000 in
theorem ggX7_information_X7_times : GoodIn wsX7_information wsX7_times := goodIn_r _ [45, 27, 28, 5, 29, 30] rfl (by decide +kernel)
set_option maxRecDepth 20000 in
theorem gX7_information_X7_times : GoodIn wsX7_information (va_wsS RX7 121 yX7_times wsX7_times) := goodIn_app (goodIn_of _ (by decide +kernel)) ggX7_information_X7_times
set_option maxRecDepth 20000 in
theorem ggX7_information_X7_fails : GoodIn wsX7_information wsX7_fails := goodIn_r _ [49, 50, 51, 52, 53, 54, 55, 56, 57, 58, 59, 60, 61, 62, 63, 64, 65, 66, 67, 68, 69, 70] rfl (by decide +kernel)
set_option maxRecDepth 20000 in
theorem gX7_information_X7_fails : GoodIn wsX7_information (wsV RX7 83 RX7 yX7_fails wsX7_fails) := goodIn_app (goodIn_of _ (by decide +kernel)) ggX7_information_X7_fails
theorem dX7_information_0 : decode cX7_information 0 = .ok (.aload_n 0, 1) := by decide +kernel
theorem dX7_information_1 : decode cX7_information 1 = .ok (.iload_n 1, 1) := by decide +kernel
theorem dX7_information_2 : decode cX7_information 2 = .ok (.invokevirtual 93, 3) := by decide +kernel
theorem dX7_information_5 : decode cX7_information 5 = .ok (.ifCond .eq 16, 3) := by decide +kernel
theorem dX7_information_8 : decode cX7_information 8 = .ok (.iload_n 2, 1) := by decide +kernel
theorem dX7_information_9 : decode cX7_information 9 = .ok (.iconst 0, 1) := by decide +kernel
theorem dX7_information_10 : decode cX7_information 10 = .ok (.iconst 4, 1) := by decide +kernel
theorem dX7_information_11 : decode cX7_information 11 = .ok (.invokestatic 67, 3) := by decide +kernel
theorem dX7_information_14 : decode cX7_information 14 = .ok (.ifCond .eq 7, 3) := by decide +kernel
theorem dX7_information_17 : decode cX7_information 17 = .ok (.iconst 1, 1) := by decide +kernel
theorem dX7_information_18 : decode cX7_information 18 = .ok (.goto 4, 3) := by decide +kernel
theorem dX7_information_21 : decode cX7_information 21 = .ok (.iconst 0, 1) := by decide +kernel
theorem dX7_information_22 : decode cX7_information 22 = .ok (.istore_n 3, 1) := by decide +kernel
theorem dX7_information_23 : decode cX7_information 23 = .ok (.iload_n 3, 1) := by decide +kernel
theorem dX7_information_24 : decode cX7_information 24 = .ok (.ifCond .eq 15, 3) := by decide +kernel
theorem dX7_information_27 : decode cX7_information 27 = .ok (.aload_n 0, 1) := by decide +kernel
theorem dX7_information_28 : decode cX7_information 28 = .ok (.iload_n 1, 1) := by decide +kernel
theorem dX7_information_29 : decode cX7_information 29 = .ok (.invokevirtual 111, 3) := by decide +kernel
theorem dX7_information_32 : decode cX7_information 32 = .ok (.ifCond .eq 7, 3) := by decide +kernel
theorem dX7_information_35 : decode cX7_information 35 = .ok (.iconst 1, 1) := by decide +kernel
theorem dX7_information_36 : decode cX7_information 36 = .ok (.goto 4, 3) := by decide +kernel
theorem dX7_information_39 : decode cX7_information 39 = .ok (.iconst 0, 1) := by decide +kernel
theorem dX7_information_40 : decode cX7_information 40 = .ok (.istore 4, 2) := by decide +kernel
theorem dX7_information_42 : decode cX7_information 42 = .ok (.iload 4, 2) := by decide +kernel
theorem dX7_information_44 : decode cX7_information 44 = .ok (.ifCond .eq 19, 3) := by decide +kernel
theorem dX7_information_47 : decode cX7_information 47 = .ok (.aload_n 0, 1) := by decide +kernel
theorem dX7_information_48 : decode cX7_information 48 = .ok (.getfield 48, 3) := by decide +kernel
theorem dX7_information_51 : decode cX7_information 51 = .ok (.invokestatic 117, 3) := by decide +kernel
theorem dX7_information_54 : decode cX7_information 54 = .ok (.istore 4, 2) := by decide +kernel
theorem dX7_information_56 : decode cX7_information 56 = .ok (.aload_n 0, 1) := by decide +kernel
theorem dX7_information_57 : decode cX7_information 57 = .ok (.getfield 48, 3) := by decide +kernel
theorem dX7_information_60 : decode cX7_information 60 = .ok (.invokestatic 121, 3) := by decide +kernel
theorem dX7_information_63 : decode cX7_information 63 = .ok (.aload_n 0, 1) := by decide +kernel
theorem dX7_information_64 : decode cX7_information 64 = .ok (.aload_n 0, 1) := by decide +kernel
theorem dX7_information_65 : decode cX7_information 65 = .ok (.iload_n 1, 1) := by decide +kernel
theorem dX7_information_66 : decode cX7_information 66 = .ok (.invokevirtual 93, 3) := by decide +kernel
theorem dX7_information_69 : decode cX7_information 69 = .ok (.ifCond .ne 7, 3) := by decide +kernel
theorem dX7_information_72 : decode cX7_information 72 = .ok (.iconst 1, 1) := by decide +kernel
theorem dX7_information_73 : decode cX7_information 73 = .ok (.goto 21, 3) := by decide +kernel
theorem dX7_information_76 : decode cX7_information 76 = .ok (.iload_n 3, 1) := by decide +kernel
theorem dX7_information_77 : decode cX7_information 77 = .ok (.ifCond .ne 7, 3) := by decide +kernel
theorem dX7_information_80 : decode cX7_information 80 = .ok (.iconst 2, 1) := by decide +kernel
theorem dX7_information_81 : decode cX7_information 81 = .ok (.goto 13, 3) := by decide +kernel
theorem dX7_information_84 : decode cX7_information 84 = .ok (.iload 4, 2) := by decide +kernel
theorem dX7_information_86 : decode cX7_information 86 = .ok (.ifCond .eq 7, 3) := by decide +kernel
theorem dX7_information_89 : decode cX7_information 89 = .ok (.iconst 0, 1) := by decide +kernel
theorem dX7_information_90 : decode cX7_information 90 = .ok (.goto 4, 3) := by decide +kernel
theorem dX7_information_93 : decode cX7_information 93 = .ok (.iconst 3, 1) := by decide +kernel
theorem dX7_information_94 : decode cX7_information 94 = .ok (.invokevirtual 83, 3) := by decide +kernel
theorem dX7_information_97 : decode cX7_information 97 = .ok (.ifCond .eq 7, 3) := by decide +kernel
theorem dX7_information_100 : decode cX7_information 100 = .ok (.iconst 0, 1) := by decide +kernel
theorem dX7_information_101 : decode cX7_information 101 = .ok (.goto 10, 3) := by decide +kernel
theorem dX7_information_104 : decode cX7_information 104 = .ok (.aload_n 0, 1) := by decide +kernel
theorem dX7_information_105 : decode cX7_information 105 = .ok (.getfield 48, 3) := by decide +kernel
theorem dX7_information_108 : decode cX7_information 108 = .ok (.iload_n 2, 1) := by decide +kernel
theorem dX7_information_109 : decode cX7_information 109 = .ok (.laload, 1) := by decide +kernel
theorem dX7_information_110 : decode cX7_information 110 = .ok (.l2i, 1) := by decide +kernel
theorem dX7_information_111 : decode cX7_information 111 = .ok (.ireturn, 1) := by decide +kernel
