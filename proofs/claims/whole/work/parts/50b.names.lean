set_option maxRecDepth 20000 in
theorem ggX7_gate_X7_isOne : GoodIn wsX7_gate wsX7_isOne := goodIn_r _ [6, 7, 8, 9, 5, 10, 19, 20, 21, 22, 23, 24, 25, 26, 27, 28, 29, 30, 31, 32, 33, 34, 35, 36, 37, 38] rfl (by decide +kernel)
set_option maxRecDepth 20000 in
theorem gX7_gate_X7_isOne : GoodIn wsX7_gate (wsV RX7 93 RX7 yX7_isOne wsX7_isOne) := goodIn_app (goodIn_of _ (by decide +kernel)) ggX7_gate_X7_isOne
set_option maxRecDepth 20000 in
theorem ggX7_gate_X7_isField : GoodIn wsX7_gate wsX7_isField := goodIn_r _ [13, 8, 9, 5, 10] rfl (by decide +kernel)
set_option maxRecDepth 20000 in
theorem gX7_gate_X7_isField : GoodIn wsX7_gate (va_wsS RX7 87 yX7_isField wsX7_isField) := goodIn_app (goodIn_of _ (by decide +kernel)) ggX7_gate_X7_isField
set_option maxRecDepth 20000 in
theorem ggX7_gate_X7_fails : GoodIn wsX7_gate wsX7_fails := goodIn_r _ [17, 18, 19, 20, 21, 22, 23, 24, 25, 26, 27, 28, 29, 30, 31, 32, 33, 34, 35, 36, 37, 38] rfl (by decide +kernel)
set_option maxRecDepth 20000 in
theorem gX7_gate_X7_fails : GoodIn wsX7_gate (wsV RX7 83 RX7 yX7_fails wsX7_fails) := goodIn_app (goodIn_of _ (by decide +kernel)) ggX7_gate_X7_fails
theorem dX7_gate_0 : decode cX7_gate 0 = .ok (.aload_n 0, 1) := by decide +kernel
theorem dX7_gate_1 : decode cX7_gate 1 = .ok (.aload_n 0, 1) := by decide +kernel
theorem dX7_gate_2 : decode cX7_gate 2 = .ok (.iload_n 1, 1) := by decide +kernel
theorem dX7_gate_3 : decode cX7_gate 3 = .ok (.invokevirtual 93, 3) := by decide +kernel
theorem dX7_gate_6 : decode cX7_gate 6 = .ok (.ifCond .ne 7, 3) := by decide +kernel
theorem dX7_gate_9 : decode cX7_gate 9 = .ok (.iconst 1, 1) := by decide +kernel
theorem dX7_gate_10 : decode cX7_gate 10 = .ok (.goto 15, 3) := by decide +kernel
theorem dX7_gate_13 : decode cX7_gate 13 = .ok (.iload_n 2, 1) := by decide +kernel
theorem dX7_gate_14 : decode cX7_gate 14 = .ok (.invokestatic 87, 3) := by decide +kernel
theorem dX7_gate_17 : decode cX7_gate 17 = .ok (.ifCond .eq 7, 3) := by decide +kernel
theorem dX7_gate_20 : decode cX7_gate 20 = .ok (.iconst 0, 1) := by decide +kernel
theorem dX7_gate_21 : decode cX7_gate 21 = .ok (.goto 4, 3) := by decide +kernel
theorem dX7_gate_24 : decode cX7_gate 24 = .ok (.iconst 2, 1) := by decide +kernel
theorem dX7_gate_25 : decode cX7_gate 25 = .ok (.invokevirtual 83, 3) := by decide +kernel
theorem dX7_gate_28 : decode cX7_gate 28 = .ok (.ifCond .eq 5, 3) := by decide +kernel
theorem dX7_gate_31 : decode cX7_gate 31 = .ok (.iconst 0, 1) := by decide +kernel
theorem dX7_gate_32 : decode cX7_gate 32 = .ok (.ireturn, 1) := by decide +kernel
theorem dX7_gate_33 : decode cX7_gate 33 = .ok (.aload_n 0, 1) := by decide +kernel
theorem dX7_gate_34 : decode cX7_gate 34 = .ok (.getfield 22, 3) := by decide +kernel
theorem dX7_gate_37 : decode cX7_gate 37 = .ok (.iload_n 1, 1) := by decide +kernel
theorem dX7_gate_38 : decode cX7_gate 38 = .ok (.iaload, 1) := by decide +kernel
theorem dX7_gate_39 : decode cX7_gate 39 = .ok (.istore_n 3, 1) := by decide +kernel
theorem dX7_gate_40 : decode cX7_gate 40 = .ok (.aload_n 0, 1) := by decide +kernel
theorem dX7_gate_41 : decode cX7_gate 41 = .ok (.getfield 22, 3) := by decide +kernel
theorem dX7_gate_44 : decode cX7_gate 44 = .ok (.iload_n 1, 1) := by decide +kernel
theorem dX7_gate_45 : decode cX7_gate 45 = .ok (.iload_n 2, 1) := by decide +kernel
theorem dX7_gate_46 : decode cX7_gate 46 = .ok (.iastore, 1) := by decide +kernel
theorem dX7_gate_47 : decode cX7_gate 47 = .ok (.iload_n 3, 1) := by decide +kernel
theorem dX7_gate_48 : decode cX7_gate 48 = .ok (.ireturn, 1) := by decide +kernel
set_option maxRecDepth 20000 in
theorem ggX7_predict_X7_isOne : GoodIn wsX7_predict wsX7_isOne := goodIn_r _ [6, 7, 8, 9, 5, 10, 16, 17, 18, 19, 20, 21, 22, 23, 24, 25, 26, 27, 28, 29, 30, 31, 32, 33, 34, 35] rfl (by decide +kernel)
set_option maxRecDepth 20000 in
theorem gX7_predict_X7_isOne : GoodIn wsX7_predict (wsV RX7 93 RX7 yX7_isOne wsX7_isOne) := goodIn_app (goodIn_of _ (by decide +kernel)) ggX7_predict_X7_isOne
set_option maxRecDepth 20000 in
theorem ggX7_predict_X7_fails : GoodIn wsX7_predict wsX7_fails := goodIn_r _ [14, 15, 16, 17, 18, 19, 20, 21, 22, 23, 24, 25, 26, 27, 28, 29, 30, 31, 32, 33, 34, 35] rfl (by decide +kernel)
set_option maxRecDepth 20000 in
theorem gX7_predict_X7_fails : GoodIn wsX7_predict (wsV RX7 83 RX7 yX7_fails wsX7_fails) := goodIn_app (goodIn_of _ (by decide +kernel)) ggX7_predict_X7_fails
theorem dX7_predict_0 : decode cX7_predict 0 = .ok (.aload_n 0, 1) := by decide +kernel
theorem dX7_predict_1 : decode cX7_predict 1 = .ok (.aload_n 0, 1) := by decide +kernel
theorem dX7_predict_2 : decode cX7_predict 2 = .ok (.iload_n 1, 1) := by decide +kernel
theorem dX7_predict_3 : decode cX7_predict 3 = .ok (.invokevirtual 93, 3) := by decide +kernel
theorem dX7_predict_6 : decode cX7_predict 6 = .ok (.ifCond .ne 7, 3) := by decide +kernel
theorem dX7_predict_9 : decode cX7_predict 9 = .ok (.iconst 1, 1) := by decide +kernel
theorem dX7_predict_10 : decode cX7_predict 10 = .ok (.goto 19, 3) := by decide +kernel
theorem dX7_predict_13 : decode cX7_predict 13 = .ok (.aload_n 0, 1) := by decide +kernel
theorem dX7_predict_14 : decode cX7_predict 14 = .ok (.getfield 19, 3) := by decide +kernel
theorem dX7_predict_17 : decode cX7_predict 17 = .ok (.iload_n 1, 1) := by decide +kernel
theorem dX7_predict_18 : decode cX7_predict 18 = .ok (.iaload, 1) := by decide +kernel
theorem dX7_predict_19 : decode cX7_predict 19 = .ok (.bipush 20, 2) := by decide +kernel
theorem dX7_predict_21 : decode cX7_predict 21 = .ok (.if_icmp .ne 7, 3) := by decide +kernel
theorem dX7_predict_24 : decode cX7_predict 24 = .ok (.iconst 2, 1) := by decide +kernel
theorem dX7_predict_25 : decode cX7_predict 25 = .ok (.goto 4, 3) := by decide +kernel
theorem dX7_predict_28 : decode cX7_predict 28 = .ok (.iconst 0, 1) := by decide +kernel
theorem dX7_predict_29 : decode cX7_predict 29 = .ok (.invokevirtual 83, 3) := by decide +kernel
theorem dX7_predict_32 : decode cX7_predict 32 = .ok (.ifCond .eq 5, 3) := by decide +kernel
theorem dX7_predict_35 : decode cX7_predict 35 = .ok (.iconst 0, 1) := by decide +kernel
theorem dX7_predict_36 : decode cX7_predict 36 = .ok (.ireturn, 1) := by decide +kernel
theorem dX7_predict_37 : decode cX7_predict 37 = .ok (.aload_n 0, 1) := by decide +kernel
theorem dX7_predict_38 : decode cX7_predict 38 = .ok (.getfield 19, 3) := by decide +kernel
theorem dX7_predict_41 : decode cX7_predict 41 = .ok (.iload_n 1, 1) := by decide +kernel
theorem dX7_predict_42 : decode cX7_predict 42 = .ok (.dup2, 1) := by decide +kernel
theorem dX7_predict_43 : decode cX7_predict 43 = .ok (.iaload, 1) := by decide +kernel
theorem dX7_predict_44 : decode cX7_predict 44 = .ok (.iconst 1, 1) := by decide +kernel
theorem dX7_predict_45 : decode cX7_predict 45 = .ok (.iadd, 1) := by decide +kernel
theorem dX7_predict_46 : decode cX7_predict 46 = .ok (.iastore, 1) := by decide +kernel
theorem dX7_predict_47 : decode cX7_predict 47 = .ok (.aload_n 0, 1) := by decide +kernel
theorem dX7_predict_48 : decode cX7_predict 48 = .ok (.getfield 19, 3) := by decide +kernel
theorem dX7_predict_51 : decode cX7_predict 51 = .ok (.iload_n 1, 1) := by decide +kernel
theorem dX7_predict_52 : decode cX7_predict 52 = .ok (.iaload, 1) := by decide +kernel
theorem dX7_predict_53 : decode cX7_predict 53 = .ok (.ireturn, 1) := by decide +kernel
set_option maxRecDepth 20000 in
theorem ggX7_predicts_X7_by : GoodIn wsX7_predicts wsX7_by := goodIn_r _ [6, 7] rfl (by decide +kernel)
set_option maxRecDepth 20000 in
theorem gX7_predicts_X7_by : GoodIn wsX7_predicts (va_wsS RX7 79 yX7_by wsX7_by) := goodIn_app (goodIn_of _ (by decide +kernel)) ggX7_predicts_X7_by
theorem dX7_predicts_0 : decode cX7_predicts 0 = .ok (.bipush 7, 2) := by decide +kernel
theorem dX7_predicts_2 : decode cX7_predicts 2 = .ok (.iload_n 1, 1) := by decide +kernel
theorem dX7_predicts_3 : decode cX7_predicts 3 = .ok (.imul, 1) := by decide +kernel
theorem dX7_predicts_4 : decode cX7_predicts 4 = .ok (.istore_n 2, 1) := by decide +kernel
theorem dX7_predicts_5 : decode cX7_predicts 5 = .ok (.aload_n 0, 1) := by decide +kernel
theorem dX7_predicts_6 : decode cX7_predicts 6 = .ok (.getfield 13, 3) := by decide +kernel
theorem dX7_predicts_9 : decode cX7_predicts 9 = .ok (.iload_n 2, 1) := by decide +kernel
theorem dX7_predicts_10 : decode cX7_predicts 10 = .ok (.iaload, 1) := by decide +kernel
theorem dX7_predicts_11 : decode cX7_predicts 11 = .ok (.i2l, 1) := by decide +kernel
theorem dX7_predicts_12 : decode cX7_predicts 12 = .ok (.aload_n 0, 1) := by decide +kernel
theorem dX7_predicts_13 : decode cX7_predicts 13 = .ok (.getfield 48, 3) := by decide +kernel
theorem dX7_predicts_16 : decode cX7_predicts 16 = .ok (.iconst 0, 1) := by decide +kernel
theorem dX7_predicts_17 : decode cX7_predicts 17 = .ok (.laload, 1) := by decide +kernel
theorem dX7_predicts_18 : decode cX7_predicts 18 = .ok (.lmul, 1) := by decide +kernel
theorem dX7_predicts_19 : decode cX7_predicts 19 = .ok (.aload_n 0, 1) := by decide +kernel
theorem dX7_predicts_20 : decode cX7_predicts 20 = .ok (.getfield 13, 3) := by decide +kernel
theorem dX7_predicts_23 : decode cX7_predicts 23 = .ok (.iload_n 2, 1) := by decide +kernel
theorem dX7_predicts_24 : decode cX7_predicts 24 = .ok (.iconst 1, 1) := by decide +kernel
theorem dX7_predicts_25 : decode cX7_predicts 25 = .ok (.iadd, 1) := by decide +kernel
theorem dX7_predicts_26 : decode cX7_predicts 26 = .ok (.iaload, 1) := by decide +kernel
theorem dX7_predicts_27 : decode cX7_predicts 27 = .ok (.i2l, 1) := by decide +kernel
theorem dX7_predicts_28 : decode cX7_predicts 28 = .ok (.aload_n 0, 1) := by decide +kernel
theorem dX7_predicts_29 : decode cX7_predicts 29 = .ok (.getfield 48, 3) := by decide +kernel
theorem dX7_predicts_32 : decode cX7_predicts 32 = .ok (.iconst 1, 1) := by decide +kernel
theorem dX7_predicts_33 : decode cX7_predicts 33 = .ok (.laload, 1) := by decide +kernel
theorem dX7_predicts_34 : decode cX7_predicts 34 = .ok (.lmul, 1) := by decide +kernel
theorem dX7_predicts_35 : decode cX7_predicts 35 = .ok (.ladd, 1) := by decide +kernel
theorem dX7_predicts_36 : decode cX7_predicts 36 = .ok (.invokestatic 79, 3) := by decide +kernel
theorem dX7_predicts_39 : decode cX7_predicts 39 = .ok (.lstore_n 3, 1) := by decide +kernel
theorem dX7_predicts_40 : decode cX7_predicts 40 = .ok (.aload_n 0, 1) := by decide +kernel
theorem dX7_predicts_41 : decode cX7_predicts 41 = .ok (.getfield 13, 3) := by decide +kernel
theorem dX7_predicts_44 : decode cX7_predicts 44 = .ok (.iload_n 2, 1) := by decide +kernel
theorem dX7_predicts_45 : decode cX7_predicts 45 = .ok (.iconst 2, 1) := by decide +kernel
theorem dX7_predicts_46 : decode cX7_predicts 46 = .ok (.iadd, 1) := by decide +kernel
theorem dX7_predicts_47 : decode cX7_predicts 47 = .ok (.iaload, 1) := by decide +kernel
theorem dX7_predicts_48 : decode cX7_predicts 48 = .ok (.i2l, 1) := by decide +kernel
theorem dX7_predicts_49 : decode cX7_predicts 49 = .ok (.aload_n 0, 1) := by decide +kernel
theorem dX7_predicts_50 : decode cX7_predicts 50 = .ok (.getfield 48, 3) := by decide +kernel
theorem dX7_predicts_53 : decode cX7_predicts 53 = .ok (.iconst 0, 1) := by decide +kernel
theorem dX7_predicts_54 : decode cX7_predicts 54 = .ok (.laload, 1) := by decide +kernel
theorem dX7_predicts_55 : decode cX7_predicts 55 = .ok (.lmul, 1) := by decide +kernel
theorem dX7_predicts_56 : decode cX7_predicts 56 = .ok (.aload_n 0, 1) := by decide +kernel
theorem dX7_predicts_57 : decode cX7_predicts 57 = .ok (.getfield 13, 3) := by decide +kernel
theorem dX7_predicts_60 : decode cX7_predicts 60 = .ok (.iload_n 2, 1) := by decide +kernel
theorem dX7_predicts_61 : decode cX7_predicts 61 = .ok (.iconst 3, 1) := by decide +kernel
theorem dX7_predicts_62 : decode cX7_predicts 62 = .ok (.iadd, 1) := by decide +kernel
theorem dX7_predicts_63 : decode cX7_predicts 63 = .ok (.iaload, 1) := by decide +kernel
theorem dX7_predicts_64 : decode cX7_predicts 64 = .ok (.i2l, 1) := by decide +kernel
theorem dX7_predicts_65 : decode cX7_predicts 65 = .ok (.aload_n 0, 1) := by decide +kernel
theorem dX7_predicts_66 : decode cX7_predicts 66 = .ok (.getfield 48, 3) := by decide +kernel
theorem dX7_predicts_69 : decode cX7_predicts 69 = .ok (.iconst 1, 1) := by decide +kernel
theorem dX7_predicts_70 : decode cX7_predicts 70 = .ok (.laload, 1) := by decide +kernel
theorem dX7_predicts_71 : decode cX7_predicts 71 = .ok (.lmul, 1) := by decide +kernel
theorem dX7_predicts_72 : decode cX7_predicts 72 = .ok (.ladd, 1) := by decide +kernel
theorem dX7_predicts_73 : decode cX7_predicts 73 = .ok (.invokestatic 79, 3) := by decide +kernel
theorem dX7_predicts_76 : decode cX7_predicts 76 = .ok (.lstore 5, 2) := by decide +kernel
theorem dX7_predicts_78 : decode cX7_predicts 78 = .ok (.aload_n 0, 1) := by decide +kernel
theorem dX7_predicts_79 : decode cX7_predicts 79 = .ok (.getfield 13, 3) := by decide +kernel
theorem dX7_predicts_82 : decode cX7_predicts 82 = .ok (.iload_n 2, 1) := by decide +kernel
theorem dX7_predicts_83 : decode cX7_predicts 83 = .ok (.iaload, 1) := by decide +kernel
theorem dX7_predicts_84 : decode cX7_predicts 84 = .ok (.i2l, 1) := by decide +kernel
theorem dX7_predicts_85 : decode cX7_predicts 85 = .ok (.aload_n 0, 1) := by decide +kernel
theorem dX7_predicts_86 : decode cX7_predicts 86 = .ok (.getfield 48, 3) := by decide +kernel
theorem dX7_predicts_89 : decode cX7_predicts 89 = .ok (.iconst 2, 1) := by decide +kernel
theorem dX7_predicts_90 : decode cX7_predicts 90 = .ok (.laload, 1) := by decide +kernel
theorem dX7_predicts_91 : decode cX7_predicts 91 = .ok (.lmul, 1) := by decide +kernel
theorem dX7_predicts_92 : decode cX7_predicts 92 = .ok (.aload_n 0, 1) := by decide +kernel
theorem dX7_predicts_93 : decode cX7_predicts 93 = .ok (.getfield 13, 3) := by decide +kernel
theorem dX7_predicts_96 : decode cX7_predicts 96 = .ok (.iload_n 2, 1) := by decide +kernel
theorem dX7_predicts_97 : decode cX7_predicts 97 = .ok (.iconst 1, 1) := by decide +kernel
theorem dX7_predicts_98 : decode cX7_predicts 98 = .ok (.iadd, 1) := by decide +kernel
theorem dX7_predicts_99 : decode cX7_predicts 99 = .ok (.iaload, 1) := by decide +kernel
theorem dX7_predicts_100 : decode cX7_predicts 100 = .ok (.i2l, 1) := by decide +kernel
theorem dX7_predicts_101 : decode cX7_predicts 101 = .ok (.aload_n 0, 1) := by decide +kernel
theorem dX7_predicts_102 : decode cX7_predicts 102 = .ok (.getfield 48, 3) := by decide +kernel
theorem dX7_predicts_105 : decode cX7_predicts 105 = .ok (.iconst 3, 1) := by decide +kernel
theorem dX7_predicts_106 : decode cX7_predicts 106 = .ok (.laload, 1) := by decide +kernel
theorem dX7_predicts_107 : decode cX7_predicts 107 = .ok (.lmul, 1) := by decide +kernel
theorem dX7_predicts_108 : decode cX7_predicts 108 = .ok (.ladd, 1) := by decide +kernel
theorem dX7_predicts_109 : decode cX7_predicts 109 = .ok (.invokestatic 79, 3) := by decide +kernel
theorem dX7_predicts_112 : decode cX7_predicts 112 = .ok (.lstore 7, 2) := by decide +kernel
theorem dX7_predicts_114 : decode cX7_predicts 114 = .ok (.aload_n 0, 1) := by decide +kernel
theorem dX7_predicts_115 : decode cX7_predicts 115 = .ok (.getfield 13, 3) := by decide +kernel
theorem dX7_predicts_118 : decode cX7_predicts 118 = .ok (.iload_n 2, 1) := by decide +kernel
theorem dX7_predicts_119 : decode cX7_predicts 119 = .ok (.iaload, 1) := by decide +kernel
theorem dX7_predicts_120 : decode cX7_predicts 120 = .ok (.i2l, 1) := by decide +kernel
theorem dX7_predicts_121 : decode cX7_predicts 121 = .ok (.aload_n 0, 1) := by decide +kernel
theorem dX7_predicts_122 : decode cX7_predicts 122 = .ok (.getfield 48, 3) := by decide +kernel
theorem dX7_predicts_125 : decode cX7_predicts 125 = .ok (.iconst 3, 1) := by decide +kernel
theorem dX7_predicts_126 : decode cX7_predicts 126 = .ok (.laload, 1) := by decide +kernel
theorem dX7_predicts_127 : decode cX7_predicts 127 = .ok (.lmul, 1) := by decide +kernel
theorem dX7_predicts_128 : decode cX7_predicts 128 = .ok (.aload_n 0, 1) := by decide +kernel
theorem dX7_predicts_129 : decode cX7_predicts 129 = .ok (.getfield 13, 3) := by decide +kernel
theorem dX7_predicts_132 : decode cX7_predicts 132 = .ok (.iload_n 2, 1) := by decide +kernel
theorem dX7_predicts_133 : decode cX7_predicts 133 = .ok (.iconst 1, 1) := by decide +kernel
theorem dX7_predicts_134 : decode cX7_predicts 134 = .ok (.iadd, 1) := by decide +kernel
theorem dX7_predicts_135 : decode cX7_predicts 135 = .ok (.iaload, 1) := by decide +kernel
theorem dX7_predicts_136 : decode cX7_predicts 136 = .ok (.i2l, 1) := by decide +kernel
theorem dX7_predicts_137 : decode cX7_predicts 137 = .ok (.aload_n 0, 1) := by decide +kernel
theorem dX7_predicts_138 : decode cX7_predicts 138 = .ok (.getfield 48, 3) := by decide +kernel
theorem dX7_predicts_141 : decode cX7_predicts 141 = .ok (.iconst 4, 1) := by decide +kernel
theorem dX7_predicts_142 : decode cX7_predicts 142 = .ok (.laload, 1) := by decide +kernel
theorem dX7_predicts_143 : decode cX7_predicts 143 = .ok (.lmul, 1) := by decide +kernel
theorem dX7_predicts_144 : decode cX7_predicts 144 = .ok (.ladd, 1) := by decide +kernel
theorem dX7_predicts_145 : decode cX7_predicts 145 = .ok (.invokestatic 79, 3) := by decide +kernel
theorem dX7_predicts_148 : decode cX7_predicts 148 = .ok (.lstore 9, 2) := by decide +kernel
theorem dX7_predicts_150 : decode cX7_predicts 150 = .ok (.aload_n 0, 1) := by decide +kernel
theorem dX7_predicts_151 : decode cX7_predicts 151 = .ok (.getfield 13, 3) := by decide +kernel
theorem dX7_predicts_154 : decode cX7_predicts 154 = .ok (.iload_n 2, 1) := by decide +kernel
theorem dX7_predicts_155 : decode cX7_predicts 155 = .ok (.iconst 2, 1) := by decide +kernel
theorem dX7_predicts_156 : decode cX7_predicts 156 = .ok (.iadd, 1) := by decide +kernel
theorem dX7_predicts_157 : decode cX7_predicts 157 = .ok (.iaload, 1) := by decide +kernel
theorem dX7_predicts_158 : decode cX7_predicts 158 = .ok (.i2l, 1) := by decide +kernel
theorem dX7_predicts_159 : decode cX7_predicts 159 = .ok (.aload_n 0, 1) := by decide +kernel
theorem dX7_predicts_160 : decode cX7_predicts 160 = .ok (.getfield 48, 3) := by decide +kernel
theorem dX7_predicts_163 : decode cX7_predicts 163 = .ok (.iconst 2, 1) := by decide +kernel
theorem dX7_predicts_164 : decode cX7_predicts 164 = .ok (.laload, 1) := by decide +kernel
theorem dX7_predicts_165 : decode cX7_predicts 165 = .ok (.lmul, 1) := by decide +kernel
theorem dX7_predicts_166 : decode cX7_predicts 166 = .ok (.aload_n 0, 1) := by decide +kernel
theorem dX7_predicts_167 : decode cX7_predicts 167 = .ok (.getfield 13, 3) := by decide +kernel
theorem dX7_predicts_170 : decode cX7_predicts 170 = .ok (.iload_n 2, 1) := by decide +kernel
theorem dX7_predicts_171 : decode cX7_predicts 171 = .ok (.iconst 3, 1) := by decide +kernel
theorem dX7_predicts_172 : decode cX7_predicts 172 = .ok (.iadd, 1) := by decide +kernel
theorem dX7_predicts_173 : decode cX7_predicts 173 = .ok (.iaload, 1) := by decide +kernel
theorem dX7_predicts_174 : decode cX7_predicts 174 = .ok (.i2l, 1) := by decide +kernel
theorem dX7_predicts_175 : decode cX7_predicts 175 = .ok (.aload_n 0, 1) := by decide +kernel
theorem dX7_predicts_176 : decode cX7_predicts 176 = .ok (.getfield 48, 3) := by decide +kernel
theorem dX7_predicts_179 : decode cX7_predicts 179 = .ok (.iconst 3, 1) := by decide +kernel
theorem dX7_predicts_180 : decode cX7_predicts 180 = .ok (.laload, 1) := by decide +kernel
theorem dX7_predicts_181 : decode cX7_predicts 181 = .ok (.lmul, 1) := by decide +kernel
theorem dX7_predicts_182 : decode cX7_predicts 182 = .ok (.ladd, 1) := by decide +kernel
theorem dX7_predicts_183 : decode cX7_predicts 183 = .ok (.invokestatic 79, 3) := by decide +kernel
theorem dX7_predicts_186 : decode cX7_predicts 186 = .ok (.lstore 11, 2) := by decide +kernel
theorem dX7_predicts_188 : decode cX7_predicts 188 = .ok (.aload_n 0, 1) := by decide +kernel
theorem dX7_predicts_189 : decode cX7_predicts 189 = .ok (.getfield 13, 3) := by decide +kernel
theorem dX7_predicts_192 : decode cX7_predicts 192 = .ok (.iload_n 2, 1) := by decide +kernel
theorem dX7_predicts_193 : decode cX7_predicts 193 = .ok (.iconst 2, 1) := by decide +kernel
theorem dX7_predicts_194 : decode cX7_predicts 194 = .ok (.iadd, 1) := by decide +kernel
theorem dX7_predicts_195 : decode cX7_predicts 195 = .ok (.iaload, 1) := by decide +kernel
theorem dX7_predicts_196 : decode cX7_predicts 196 = .ok (.i2l, 1) := by decide +kernel
theorem dX7_predicts_197 : decode cX7_predicts 197 = .ok (.aload_n 0, 1) := by decide +kernel
theorem dX7_predicts_198 : decode cX7_predicts 198 = .ok (.getfield 48, 3) := by decide +kernel
theorem dX7_predicts_201 : decode cX7_predicts 201 = .ok (.iconst 3, 1) := by decide +kernel
theorem dX7_predicts_202 : decode cX7_predicts 202 = .ok (.laload, 1) := by decide +kernel
theorem dX7_predicts_203 : decode cX7_predicts 203 = .ok (.lmul, 1) := by decide +kernel
theorem dX7_predicts_204 : decode cX7_predicts 204 = .ok (.aload_n 0, 1) := by decide +kernel
theorem dX7_predicts_205 : decode cX7_predicts 205 = .ok (.getfield 13, 3) := by decide +kernel
theorem dX7_predicts_208 : decode cX7_predicts 208 = .ok (.iload_n 2, 1) := by decide +kernel
theorem dX7_predicts_209 : decode cX7_predicts 209 = .ok (.iconst 3, 1) := by decide +kernel
theorem dX7_predicts_210 : decode cX7_predicts 210 = .ok (.iadd, 1) := by decide +kernel
theorem dX7_predicts_211 : decode cX7_predicts 211 = .ok (.iaload, 1) := by decide +kernel
theorem dX7_predicts_212 : decode cX7_predicts 212 = .ok (.i2l, 1) := by decide +kernel
theorem dX7_predicts_213 : decode cX7_predicts 213 = .ok (.aload_n 0, 1) := by decide +kernel
theorem dX7_predicts_214 : decode cX7_predicts 214 = .ok (.getfield 48, 3) := by decide +kernel
theorem dX7_predicts_217 : decode cX7_predicts 217 = .ok (.iconst 4, 1) := by decide +kernel
theorem dX7_predicts_218 : decode cX7_predicts 218 = .ok (.laload, 1) := by decide +kernel
theorem dX7_predicts_219 : decode cX7_predicts 219 = .ok (.lmul, 1) := by decide +kernel
theorem dX7_predicts_220 : decode cX7_predicts 220 = .ok (.ladd, 1) := by decide +kernel
theorem dX7_predicts_221 : decode cX7_predicts 221 = .ok (.invokestatic 79, 3) := by decide +kernel
theorem dX7_predicts_224 : decode cX7_predicts 224 = .ok (.lstore 13, 2) := by decide +kernel
theorem dX7_predicts_226 : decode cX7_predicts 226 = .ok (.aload_n 0, 1) := by decide +kernel
theorem dX7_predicts_227 : decode cX7_predicts 227 = .ok (.getfield 48, 3) := by decide +kernel
theorem dX7_predicts_230 : decode cX7_predicts 230 = .ok (.iconst 0, 1) := by decide +kernel
theorem dX7_predicts_231 : decode cX7_predicts 231 = .ok (.lload_n 3, 1) := by decide +kernel
theorem dX7_predicts_232 : decode cX7_predicts 232 = .ok (.lastore, 1) := by decide +kernel
theorem dX7_predicts_233 : decode cX7_predicts 233 = .ok (.aload_n 0, 1) := by decide +kernel
theorem dX7_predicts_234 : decode cX7_predicts 234 = .ok (.getfield 48, 3) := by decide +kernel
theorem dX7_predicts_237 : decode cX7_predicts 237 = .ok (.iconst 1, 1) := by decide +kernel
theorem dX7_predicts_238 : decode cX7_predicts 238 = .ok (.lload 5, 2) := by decide +kernel
theorem dX7_predicts_240 : decode cX7_predicts 240 = .ok (.lastore, 1) := by decide +kernel
theorem dX7_predicts_241 : decode cX7_predicts 241 = .ok (.aload_n 0, 1) := by decide +kernel
theorem dX7_predicts_242 : decode cX7_predicts 242 = .ok (.getfield 48, 3) := by decide +kernel
theorem dX7_predicts_245 : decode cX7_predicts 245 = .ok (.iconst 2, 1) := by decide +kernel
theorem dX7_predicts_246 : decode cX7_predicts 246 = .ok (.lload 7, 2) := by decide +kernel
theorem dX7_predicts_248 : decode cX7_predicts 248 = .ok (.aload_n 0, 1) := by decide +kernel
theorem dX7_predicts_249 : decode cX7_predicts 249 = .ok (.getfield 13, 3) := by decide +kernel
theorem dX7_predicts_252 : decode cX7_predicts 252 = .ok (.iload_n 2, 1) := by decide +kernel
theorem dX7_predicts_253 : decode cX7_predicts 253 = .ok (.iaload, 1) := by decide +kernel
theorem dX7_predicts_254 : decode cX7_predicts 254 = .ok (.i2l, 1) := by decide +kernel
theorem dX7_predicts_255 : decode cX7_predicts 255 = .ok (.lmul, 1) := by decide +kernel
theorem dX7_predicts_256 : decode cX7_predicts 256 = .ok (.lload 9, 2) := by decide +kernel
theorem dX7_predicts_258 : decode cX7_predicts 258 = .ok (.aload_n 0, 1) := by decide +kernel
theorem dX7_predicts_259 : decode cX7_predicts 259 = .ok (.getfield 13, 3) := by decide +kernel
theorem dX7_predicts_262 : decode cX7_predicts 262 = .ok (.iload_n 2, 1) := by decide +kernel
theorem dX7_predicts_263 : decode cX7_predicts 263 = .ok (.iconst 1, 1) := by decide +kernel
theorem dX7_predicts_264 : decode cX7_predicts 264 = .ok (.iadd, 1) := by decide +kernel
theorem dX7_predicts_265 : decode cX7_predicts 265 = .ok (.iaload, 1) := by decide +kernel
theorem dX7_predicts_266 : decode cX7_predicts 266 = .ok (.i2l, 1) := by decide +kernel
theorem dX7_predicts_267 : decode cX7_predicts 267 = .ok (.lmul, 1) := by decide +kernel
theorem dX7_predicts_268 : decode cX7_predicts 268 = .ok (.ladd, 1) := by decide +kernel
theorem dX7_predicts_269 : decode cX7_predicts 269 = .ok (.aload_n 0, 1) := by decide +kernel
theorem dX7_predicts_270 : decode cX7_predicts 270 = .ok (.getfield 13, 3) := by decide +kernel
theorem dX7_predicts_273 : decode cX7_predicts 273 = .ok (.iload_n 2, 1) := by decide +kernel
theorem dX7_predicts_274 : decode cX7_predicts 274 = .ok (.iconst 4, 1) := by decide +kernel
theorem dX7_predicts_275 : decode cX7_predicts 275 = .ok (.iadd, 1) := by decide +kernel
theorem dX7_predicts_276 : decode cX7_predicts 276 = .ok (.iaload, 1) := by decide +kernel
theorem dX7_predicts_277 : decode cX7_predicts 277 = .ok (.i2l, 1) := by decide +kernel
theorem dX7_predicts_278 : decode cX7_predicts 278 = .ok (.ladd, 1) := by decide +kernel
theorem dX7_predicts_279 : decode cX7_predicts 279 = .ok (.invokestatic 79, 3) := by decide +kernel
theorem dX7_predicts_282 : decode cX7_predicts 282 = .ok (.lastore, 1) := by decide +kernel
theorem dX7_predicts_283 : decode cX7_predicts 283 = .ok (.aload_n 0, 1) := by decide +kernel
theorem dX7_predicts_284 : decode cX7_predicts 284 = .ok (.getfield 48, 3) := by decide +kernel
theorem dX7_predicts_287 : decode cX7_predicts 287 = .ok (.iconst 3, 1) := by decide +kernel
theorem dX7_predicts_288 : decode cX7_predicts 288 = .ok (.lload 7, 2) := by decide +kernel
theorem dX7_predicts_290 : decode cX7_predicts 290 = .ok (.aload_n 0, 1) := by decide +kernel
theorem dX7_predicts_291 : decode cX7_predicts 291 = .ok (.getfield 13, 3) := by decide +kernel
theorem dX7_predicts_294 : decode cX7_predicts 294 = .ok (.iload_n 2, 1) := by decide +kernel
theorem dX7_predicts_295 : decode cX7_predicts 295 = .ok (.iconst 2, 1) := by decide +kernel
theorem dX7_predicts_296 : decode cX7_predicts 296 = .ok (.iadd, 1) := by decide +kernel
theorem dX7_predicts_297 : decode cX7_predicts 297 = .ok (.iaload, 1) := by decide +kernel
theorem dX7_predicts_298 : decode cX7_predicts 298 = .ok (.i2l, 1) := by decide +kernel
theorem dX7_predicts_299 : decode cX7_predicts 299 = .ok (.lmul, 1) := by decide +kernel
theorem dX7_predicts_300 : decode cX7_predicts 300 = .ok (.lload 9, 2) := by decide +kernel
theorem dX7_predicts_302 : decode cX7_predicts 302 = .ok (.aload_n 0, 1) := by decide +kernel
theorem dX7_predicts_303 : decode cX7_predicts 303 = .ok (.getfield 13, 3) := by decide +kernel
theorem dX7_predicts_306 : decode cX7_predicts 306 = .ok (.iload_n 2, 1) := by decide +kernel
theorem dX7_predicts_307 : decode cX7_predicts 307 = .ok (.iconst 3, 1) := by decide +kernel
theorem dX7_predicts_308 : decode cX7_predicts 308 = .ok (.iadd, 1) := by decide +kernel
theorem dX7_predicts_309 : decode cX7_predicts 309 = .ok (.iaload, 1) := by decide +kernel
theorem dX7_predicts_310 : decode cX7_predicts 310 = .ok (.i2l, 1) := by decide +kernel
theorem dX7_predicts_311 : decode cX7_predicts 311 = .ok (.lmul, 1) := by decide +kernel
theorem dX7_predicts_312 : decode cX7_predicts 312 = .ok (.ladd, 1) := by decide +kernel
theorem dX7_predicts_313 : decode cX7_predicts 313 = .ok (.aload_n 0, 1) := by decide +kernel
theorem dX7_predicts_314 : decode cX7_predicts 314 = .ok (.getfield 13, 3) := by decide +kernel
theorem dX7_predicts_317 : decode cX7_predicts 317 = .ok (.iload_n 2, 1) := by decide +kernel
theorem dX7_predicts_318 : decode cX7_predicts 318 = .ok (.iconst 5, 1) := by decide +kernel
theorem dX7_predicts_319 : decode cX7_predicts 319 = .ok (.iadd, 1) := by decide +kernel
theorem dX7_predicts_320 : decode cX7_predicts 320 = .ok (.iaload, 1) := by decide +kernel
theorem dX7_predicts_321 : decode cX7_predicts 321 = .ok (.i2l, 1) := by decide +kernel
theorem dX7_predicts_322 : decode cX7_predicts 322 = .ok (.ladd, 1) := by decide +kernel
theorem dX7_predicts_323 : decode cX7_predicts 323 = .ok (.invokestatic 79, 3) := by decide +kernel
theorem dX7_predicts_326 : decode cX7_predicts 326 = .ok (.lastore, 1) := by decide +kernel
theorem dX7_predicts_327 : decode cX7_predicts 327 = .ok (.aload_n 0, 1) := by decide +kernel
theorem dX7_predicts_328 : decode cX7_predicts 328 = .ok (.getfield 48, 3) := by decide +kernel
theorem dX7_predicts_331 : decode cX7_predicts 331 = .ok (.iconst 4, 1) := by decide +kernel
theorem dX7_predicts_332 : decode cX7_predicts 332 = .ok (.lload 11, 2) := by decide +kernel
theorem dX7_predicts_334 : decode cX7_predicts 334 = .ok (.aload_n 0, 1) := by decide +kernel
theorem dX7_predicts_335 : decode cX7_predicts 335 = .ok (.getfield 13, 3) := by decide +kernel
theorem dX7_predicts_338 : decode cX7_predicts 338 = .ok (.iload_n 2, 1) := by decide +kernel
theorem dX7_predicts_339 : decode cX7_predicts 339 = .ok (.iconst 2, 1) := by decide +kernel
theorem dX7_predicts_340 : decode cX7_predicts 340 = .ok (.iadd, 1) := by decide +kernel
theorem dX7_predicts_341 : decode cX7_predicts 341 = .ok (.iaload, 1) := by decide +kernel
theorem dX7_predicts_342 : decode cX7_predicts 342 = .ok (.i2l, 1) := by decide +kernel
theorem dX7_predicts_343 : decode cX7_predicts 343 = .ok (.lmul, 1) := by decide +kernel
theorem dX7_predicts_344 : decode cX7_predicts 344 = .ok (.lload 13, 2) := by decide +kernel
theorem dX7_predicts_346 : decode cX7_predicts 346 = .ok (.aload_n 0, 1) := by decide +kernel
theorem dX7_predicts_347 : decode cX7_predicts 347 = .ok (.getfield 13, 3) := by decide +kernel
theorem dX7_predicts_350 : decode cX7_predicts 350 = .ok (.iload_n 2, 1) := by decide +kernel
theorem dX7_predicts_351 : decode cX7_predicts 351 = .ok (.iconst 3, 1) := by decide +kernel
theorem dX7_predicts_352 : decode cX7_predicts 352 = .ok (.iadd, 1) := by decide +kernel
theorem dX7_predicts_353 : decode cX7_predicts 353 = .ok (.iaload, 1) := by decide +kernel
theorem dX7_predicts_354 : decode cX7_predicts 354 = .ok (.i2l, 1) := by decide +kernel
theorem dX7_predicts_355 : decode cX7_predicts 355 = .ok (.lmul, 1) := by decide +kernel
theorem dX7_predicts_356 : decode cX7_predicts 356 = .ok (.ladd, 1) := by decide +kernel
theorem dX7_predicts_357 : decode cX7_predicts 357 = .ok (.aload_n 0, 1) := by decide +kernel
theorem dX7_predicts_358 : decode cX7_predicts 358 = .ok (.getfield 13, 3) := by decide +kernel
theorem dX7_predicts_361 : decode cX7_predicts 361 = .ok (.iload_n 2, 1) := by decide +kernel
theorem dX7_predicts_362 : decode cX7_predicts 362 = .ok (.bipush 6, 2) := by decide +kernel
theorem dX7_predicts_364 : decode cX7_predicts 364 = .ok (.iadd, 1) := by decide +kernel
theorem dX7_predicts_365 : decode cX7_predicts 365 = .ok (.iaload, 1) := by decide +kernel
theorem dX7_predicts_366 : decode cX7_predicts 366 = .ok (.i2l, 1) := by decide +kernel
theorem dX7_predicts_367 : decode cX7_predicts 367 = .ok (.ladd, 1) := by decide +kernel
theorem dX7_predicts_368 : decode cX7_predicts 368 = .ok (.invokestatic 79, 3) := by decide +kernel
theorem dX7_predicts_371 : decode cX7_predicts 371 = .ok (.lastore, 1) := by decide +kernel
theorem dX7_predicts_372 : decode cX7_predicts 372 = .ok (.return_, 1) := by decide +kernel
