set_option maxRecDepth 20000 in
theorem ggL_model_X6_model : GoodIn wsL_model wsX6_model := goodIn_ca (goodIn_r _ [6, 7, 8, 9, 10, 11, 12, 13, 14] (by decide +kernel) (by decide +kernel)) (goodIn_sub (fun _ h => List.mem_cons_of_mem _ (List.mem_append_right _ h)) (by decide +kernel))
set_option maxRecDepth 20000 in
theorem gL_model_X6_model : GoodIn wsL_model (wsV RL 7 RX6 yX6_model wsX6_model) := goodIn_app (goodIn_of _ (by decide +kernel)) ggL_model_X6_model
theorem dL_model_0 : decode cL_model 0 = .ok (.aload_n 1, 1) := by decide +kernel
theorem dL_model_1 : decode cL_model 1 = .ok (.iconst 0, 1) := by decide +kernel
theorem dL_model_2 : decode cL_model 2 = .ok (.aload_n 0, 1) := by decide +kernel
theorem dL_model_3 : decode cL_model 3 = .ok (.invokevirtual 7, 3) := by decide +kernel
theorem dL_model_6 : decode cL_model 6 = .ok (.i2l, 1) := by decide +kernel
theorem dL_model_7 : decode cL_model 7 = .ok (.lastore, 1) := by decide +kernel
theorem dL_model_8 : decode cL_model 8 = .ok (.goto 6, 3) := by decide +kernel
theorem dL_model_11 : decode cL_model 11 = .ok (.astore_n 2, 1) := by decide +kernel
theorem dL_model_12 : decode cL_model 12 = .ok (.iconst 1, 1) := by decide +kernel
theorem dL_model_13 : decode cL_model 13 = .ok (.ireturn, 1) := by decide +kernel
theorem dL_model_14 : decode cL_model 14 = .ok (.iconst 0, 1) := by decide +kernel
theorem dL_model_15 : decode cL_model 15 = .ok (.ireturn, 1) := by decide +kernel
set_option maxRecDepth 20000 in
theorem ggL_entry_X6_entry : GoodIn wsL_entry wsX6_entry := goodIn_ca (goodIn_ca (goodIn_r _ [7, 8, 9, 10, 6, 11, 12, 13, 14, 15, 16, 17, 18, 19, 20, 21, 22, 23, 24, 25, 26, 27] (by decide +kernel) (by decide +kernel)) (goodIn_sub (fun _ h => List.mem_cons_of_mem _ (List.mem_append_left _ (List.mem_append_right _ h))) (by decide +kernel))) (goodIn_sub (fun _ h => List.mem_cons_of_mem _ (List.mem_append_right _ h)) (by decide +kernel))
set_option maxRecDepth 20000 in
theorem gL_entry_X6_entry : GoodIn wsL_entry (wsV RL 15 RX6 yX6_entry wsX6_entry) := goodIn_app (goodIn_of _ (by decide +kernel)) ggL_entry_X6_entry
theorem dL_entry_0 : decode cL_entry 0 = .ok (.aload 4, 2) := by decide +kernel
theorem dL_entry_2 : decode cL_entry 2 = .ok (.iconst 0, 1) := by decide +kernel
theorem dL_entry_3 : decode cL_entry 3 = .ok (.aload_n 0, 1) := by decide +kernel
theorem dL_entry_4 : decode cL_entry 4 = .ok (.iload_n 1, 1) := by decide +kernel
theorem dL_entry_5 : decode cL_entry 5 = .ok (.iload_n 2, 1) := by decide +kernel
theorem dL_entry_6 : decode cL_entry 6 = .ok (.iload_n 3, 1) := by decide +kernel
theorem dL_entry_7 : decode cL_entry 7 = .ok (.invokevirtual 15, 3) := by decide +kernel
theorem dL_entry_10 : decode cL_entry 10 = .ok (.i2l, 1) := by decide +kernel
theorem dL_entry_11 : decode cL_entry 11 = .ok (.lastore, 1) := by decide +kernel
theorem dL_entry_12 : decode cL_entry 12 = .ok (.goto 11, 3) := by decide +kernel
theorem dL_entry_15 : decode cL_entry 15 = .ok (.astore 5, 2) := by decide +kernel
theorem dL_entry_17 : decode cL_entry 17 = .ok (.iconst 1, 1) := by decide +kernel
theorem dL_entry_18 : decode cL_entry 18 = .ok (.ireturn, 1) := by decide +kernel
theorem dL_entry_19 : decode cL_entry 19 = .ok (.astore 5, 2) := by decide +kernel
theorem dL_entry_21 : decode cL_entry 21 = .ok (.iconst 2, 1) := by decide +kernel
theorem dL_entry_22 : decode cL_entry 22 = .ok (.ireturn, 1) := by decide +kernel
theorem dL_entry_23 : decode cL_entry 23 = .ok (.iconst 0, 1) := by decide +kernel
theorem dL_entry_24 : decode cL_entry 24 = .ok (.ireturn, 1) := by decide +kernel
set_option maxRecDepth 20000 in
theorem ggL_begin_X6_begin : GoodIn wsL_begin wsX6_begin := goodIn_ca (goodIn_ca (goodIn_ca (goodIn_r _ [8, 9, 10, 11, 12, 13, 14, 15, 16, 17, 18, 7, 19, 20, 21, 22, 23, 24, 25, 26, 27, 28, 29, 30, 31, 32, 33, 34, 35, 36, 37, 38, 39, 40, 41, 42, 43, 44, 45, 46, 47, 48, 49, 50, 51, 52, 53, 54, 55, 56, 57, 58, 59, 60, 61, 62, 63, 64, 65, 66, 67, 68, 69, 70, 71, 72, 73, 74, 75, 76, 77, 78, 79, 80, 81, 82, 83, 84, 85, 86, 87, 88, 89, 90, 91, 92, 93, 94, 95, 96, 97, 98, 99, 100, 101, 102, 103, 104, 105, 106, 107, 108, 109, 110, 111, 112, 113, 114, 115, 116, 117, 118, 119, 120, 121, 122, 123, 124, 125, 126, 127, 128, 129, 130, 131, 132, 133, 134, 135, 136, 137, 138, 139, 140, 141, 142, 143, 144, 145, 146, 147, 148, 149, 150, 151, 152, 153, 154, 155, 156, 157, 158, 159, 160, 161, 162, 163, 164, 165, 166, 167, 168, 169, 170, 171, 172, 173, 174, 175, 176, 177, 178, 179, 180, 181, 182, 183, 184, 185, 186, 187, 188, 189, 190, 191, 192, 193, 194, 195, 196, 197, 198, 199, 200, 201, 202, 203, 204, 205, 206, 207, 208, 209, 210, 211, 212, 213, 214, 215, 216, 217, 218, 219, 220, 221, 222, 223, 224, 225, 226, 227, 228, 229, 230, 231, 232, 233, 234] (by decide +kernel) (by decide +kernel)) (goodIn_sub (fun _ h => List.mem_cons_of_mem _ (List.mem_append_left _ (List.mem_append_left _ (List.mem_append_right _ h)))) (by decide +kernel))) (goodIn_sub (fun _ h => List.mem_cons_of_mem _ (List.mem_append_left _ (List.mem_append_right _ h))) (by decide +kernel))) (goodIn_sub (fun _ h => List.mem_cons_of_mem _ (List.mem_append_right _ h)) (by decide +kernel))
set_option maxRecDepth 20000 in
theorem gL_begin_X6_begin : GoodIn wsL_begin (wsV RL 23 RX6 yX6_begin wsX6_begin) := goodIn_app (goodIn_of _ (by decide +kernel)) ggL_begin_X6_begin
theorem dL_begin_0 : decode cL_begin 0 = .ok (.aload 7, 2) := by decide +kernel
theorem dL_begin_2 : decode cL_begin 2 = .ok (.iconst 0, 1) := by decide +kernel
theorem dL_begin_3 : decode cL_begin 3 = .ok (.aload_n 0, 1) := by decide +kernel
theorem dL_begin_4 : decode cL_begin 4 = .ok (.iload_n 1, 1) := by decide +kernel
theorem dL_begin_5 : decode cL_begin 5 = .ok (.iload_n 2, 1) := by decide +kernel
theorem dL_begin_6 : decode cL_begin 6 = .ok (.iload_n 3, 1) := by decide +kernel
theorem dL_begin_7 : decode cL_begin 7 = .ok (.iload 4, 2) := by decide +kernel
theorem dL_begin_9 : decode cL_begin 9 = .ok (.iload 5, 2) := by decide +kernel
theorem dL_begin_11 : decode cL_begin 11 = .ok (.iload 6, 2) := by decide +kernel
theorem dL_begin_13 : decode cL_begin 13 = .ok (.invokevirtual 23, 3) := by decide +kernel
theorem dL_begin_16 : decode cL_begin 16 = .ok (.i2l, 1) := by decide +kernel
theorem dL_begin_17 : decode cL_begin 17 = .ok (.lastore, 1) := by decide +kernel
theorem dL_begin_18 : decode cL_begin 18 = .ok (.goto 15, 3) := by decide +kernel
theorem dL_begin_21 : decode cL_begin 21 = .ok (.astore 8, 2) := by decide +kernel
theorem dL_begin_23 : decode cL_begin 23 = .ok (.iconst 1, 1) := by decide +kernel
theorem dL_begin_24 : decode cL_begin 24 = .ok (.ireturn, 1) := by decide +kernel
theorem dL_begin_25 : decode cL_begin 25 = .ok (.astore 8, 2) := by decide +kernel
theorem dL_begin_27 : decode cL_begin 27 = .ok (.iconst 2, 1) := by decide +kernel
theorem dL_begin_28 : decode cL_begin 28 = .ok (.ireturn, 1) := by decide +kernel
theorem dL_begin_29 : decode cL_begin 29 = .ok (.astore 8, 2) := by decide +kernel
theorem dL_begin_31 : decode cL_begin 31 = .ok (.iconst 3, 1) := by decide +kernel
theorem dL_begin_32 : decode cL_begin 32 = .ok (.ireturn, 1) := by decide +kernel
theorem dL_begin_33 : decode cL_begin 33 = .ok (.iconst 0, 1) := by decide +kernel
theorem dL_begin_34 : decode cL_begin 34 = .ok (.ireturn, 1) := by decide +kernel
set_option maxRecDepth 20000 in
theorem ggL_gate_X6_gate : GoodIn wsL_gate wsX6_gate := goodIn_ca (goodIn_ca (goodIn_r _ [7, 8, 9, 10, 11, 6, 12, 13, 14, 15, 16, 17, 18, 19, 20, 21, 22, 23, 24, 25, 26, 27, 28, 29, 30, 31, 32, 33, 34, 35] (by decide +kernel) (by decide +kernel)) (goodIn_sub (fun _ h => List.mem_cons_of_mem _ (List.mem_append_left _ (List.mem_append_right _ h))) (by decide +kernel))) (goodIn_sub (fun _ h => List.mem_cons_of_mem _ (List.mem_append_right _ h)) (by decide +kernel))
set_option maxRecDepth 20000 in
theorem gL_gate_X6_gate : GoodIn wsL_gate (wsV RL 27 RX6 yX6_gate wsX6_gate) := goodIn_app (goodIn_of _ (by decide +kernel)) ggL_gate_X6_gate
theorem dL_gate_0 : decode cL_gate 0 = .ok (.aload_n 3, 1) := by decide +kernel
theorem dL_gate_1 : decode cL_gate 1 = .ok (.iconst 0, 1) := by decide +kernel
theorem dL_gate_2 : decode cL_gate 2 = .ok (.aload_n 0, 1) := by decide +kernel
theorem dL_gate_3 : decode cL_gate 3 = .ok (.iload_n 1, 1) := by decide +kernel
theorem dL_gate_4 : decode cL_gate 4 = .ok (.iload_n 2, 1) := by decide +kernel
theorem dL_gate_5 : decode cL_gate 5 = .ok (.invokevirtual 27, 3) := by decide +kernel
theorem dL_gate_8 : decode cL_gate 8 = .ok (.i2l, 1) := by decide +kernel
theorem dL_gate_9 : decode cL_gate 9 = .ok (.lastore, 1) := by decide +kernel
theorem dL_gate_10 : decode cL_gate 10 = .ok (.goto 11, 3) := by decide +kernel
theorem dL_gate_13 : decode cL_gate 13 = .ok (.astore 4, 2) := by decide +kernel
theorem dL_gate_15 : decode cL_gate 15 = .ok (.iconst 1, 1) := by decide +kernel
theorem dL_gate_16 : decode cL_gate 16 = .ok (.ireturn, 1) := by decide +kernel
theorem dL_gate_17 : decode cL_gate 17 = .ok (.astore 4, 2) := by decide +kernel
theorem dL_gate_19 : decode cL_gate 19 = .ok (.iconst 2, 1) := by decide +kernel
theorem dL_gate_20 : decode cL_gate 20 = .ok (.ireturn, 1) := by decide +kernel
theorem dL_gate_21 : decode cL_gate 21 = .ok (.iconst 0, 1) := by decide +kernel
theorem dL_gate_22 : decode cL_gate 22 = .ok (.ireturn, 1) := by decide +kernel
set_option maxRecDepth 20000 in
theorem ggL_predict_X6_predict : GoodIn wsL_predict wsX6_predict := goodIn_ca (goodIn_ca (goodIn_r _ [7, 8, 9, 10, 11, 12, 13, 6, 14, 15, 16, 17, 18, 19, 20, 21, 22, 23, 24, 25, 26, 27, 28, 29, 30, 31, 32, 33, 34, 35, 36, 37, 38, 39, 40, 41, 42, 43, 44, 45, 46, 47, 48, 49, 50, 51, 52, 53, 54, 55, 56, 57, 58, 59, 60, 61, 62, 63, 64, 65, 66, 67, 68, 69, 70, 71, 72, 73, 74, 75, 76, 77, 78, 79, 80, 81, 82, 83, 84, 85, 86, 87, 88, 89, 90, 91, 92, 93, 94, 95, 96, 97, 98, 99, 100, 101, 102, 103, 104, 105, 106, 107, 108, 109, 110, 111, 112, 113, 114, 115, 116, 117, 118, 119, 120, 121, 122, 123, 124, 125, 126, 127, 128, 129, 130, 131, 132, 133, 134, 135, 136, 137, 138, 139, 140, 141, 142, 143, 144, 145, 146, 147, 148, 149, 150, 151, 152, 153, 154, 155, 156, 157, 158, 159, 160, 161, 162, 163, 164, 165, 166, 167, 168, 169, 170, 171, 172] (by decide +kernel) (by decide +kernel)) (goodIn_sub (fun _ h => List.mem_cons_of_mem _ (List.mem_append_left _ (List.mem_append_right _ h))) (by decide +kernel))) (goodIn_sub (fun _ h => List.mem_cons_of_mem _ (List.mem_append_right _ h)) (by decide +kernel))
set_option maxRecDepth 20000 in
theorem gL_predict_X6_predict : GoodIn wsL_predict (wsV RL 31 RX6 yX6_predict wsX6_predict) := goodIn_app (goodIn_of _ (by decide +kernel)) ggL_predict_X6_predict
theorem dL_predict_0 : decode cL_predict 0 = .ok (.aload_n 2, 1) := by decide +kernel
theorem dL_predict_1 : decode cL_predict 1 = .ok (.iconst 0, 1) := by decide +kernel
theorem dL_predict_2 : decode cL_predict 2 = .ok (.aload_n 0, 1) := by decide +kernel
theorem dL_predict_3 : decode cL_predict 3 = .ok (.iload_n 1, 1) := by decide +kernel
theorem dL_predict_4 : decode cL_predict 4 = .ok (.invokevirtual 31, 3) := by decide +kernel
theorem dL_predict_7 : decode cL_predict 7 = .ok (.i2l, 1) := by decide +kernel
theorem dL_predict_8 : decode cL_predict 8 = .ok (.lastore, 1) := by decide +kernel
theorem dL_predict_9 : decode cL_predict 9 = .ok (.goto 9, 3) := by decide +kernel
theorem dL_predict_12 : decode cL_predict 12 = .ok (.astore_n 3, 1) := by decide +kernel
theorem dL_predict_13 : decode cL_predict 13 = .ok (.iconst 1, 1) := by decide +kernel
theorem dL_predict_14 : decode cL_predict 14 = .ok (.ireturn, 1) := by decide +kernel
theorem dL_predict_15 : decode cL_predict 15 = .ok (.astore_n 3, 1) := by decide +kernel
theorem dL_predict_16 : decode cL_predict 16 = .ok (.iconst 2, 1) := by decide +kernel
theorem dL_predict_17 : decode cL_predict 17 = .ok (.ireturn, 1) := by decide +kernel
theorem dL_predict_18 : decode cL_predict 18 = .ok (.iconst 0, 1) := by decide +kernel
theorem dL_predict_19 : decode cL_predict 19 = .ok (.ireturn, 1) := by decide +kernel
set_option maxRecDepth 20000 in
theorem ggL_measure_X6_measure : GoodIn wsL_measure wsX6_measure := goodIn_ca (goodIn_ca (goodIn_ca (goodIn_r _ [8, 9, 10, 11, 12, 7, 13, 14, 15, 16, 17, 18, 19, 20, 21, 22, 23, 24, 25, 26, 27, 28, 29, 30, 31, 32, 33, 34, 35, 36, 37, 38, 39, 40, 41, 42, 43, 44, 45, 46, 47, 48, 49, 50, 51, 52, 53, 54, 55, 56, 57, 58, 59, 60, 61, 62, 63, 64, 65, 66, 67, 68, 69, 70, 71, 72, 73, 74, 75, 76, 77, 78, 79, 80, 81, 82, 83, 84, 85, 86, 87, 88, 89, 90, 91, 92, 93, 94, 95, 96, 97, 98, 99, 100, 101, 102, 103, 104, 105, 106, 107, 108, 109, 110, 111, 112, 113, 114, 115, 116, 117, 118, 119, 120, 121, 122, 123, 124, 125, 126, 127, 128, 129, 130, 131, 132, 133, 134, 135, 136, 137, 138, 139, 140, 141, 142, 143, 144, 145, 146, 147, 148, 149, 150, 151, 152, 153, 154, 155, 156, 157, 158, 159, 160, 161, 162, 163, 164, 165, 166, 167, 168, 169, 170, 171, 172, 173, 174, 175, 176, 177, 178, 179, 180, 181, 182, 183, 184, 185, 186, 187, 188, 189, 190, 191, 192, 193, 194, 195] (by decide +kernel) (by decide +kernel)) (goodIn_sub (fun _ h => List.mem_cons_of_mem _ (List.mem_append_left _ (List.mem_append_left _ (List.mem_append_right _ h)))) (by decide +kernel))) (goodIn_sub (fun _ h => List.mem_cons_of_mem _ (List.mem_append_left _ (List.mem_append_right _ h))) (by decide +kernel))) (goodIn_sub (fun _ h => List.mem_cons_of_mem _ (List.mem_append_right _ h)) (by decide +kernel))
set_option maxRecDepth 20000 in
theorem gL_measure_X6_measure : GoodIn wsL_measure (wsV RL 35 RX6 yX6_measure wsX6_measure) := goodIn_app (goodIn_of _ (by decide +kernel)) ggL_measure_X6_measure
theorem dL_measure_0 : decode cL_measure 0 = .ok (.aload 6, 2) := by decide +kernel
theorem dL_measure_2 : decode cL_measure 2 = .ok (.iconst 0, 1) := by decide +kernel
theorem dL_measure_3 : decode cL_measure 3 = .ok (.aload_n 0, 1) := by decide +kernel
theorem dL_measure_4 : decode cL_measure 4 = .ok (.iload_n 1, 1) := by decide +kernel
theorem dL_measure_5 : decode cL_measure 5 = .ok (.iload_n 2, 1) := by decide +kernel
theorem dL_measure_6 : decode cL_measure 6 = .ok (.iload_n 3, 1) := by decide +kernel
theorem dL_measure_7 : decode cL_measure 7 = .ok (.iload 4, 2) := by decide +kernel
theorem dL_measure_9 : decode cL_measure 9 = .ok (.iload 5, 2) := by decide +kernel
theorem dL_measure_11 : decode cL_measure 11 = .ok (.invokevirtual 35, 3) := by decide +kernel
theorem dL_measure_14 : decode cL_measure 14 = .ok (.i2l, 1) := by decide +kernel
theorem dL_measure_15 : decode cL_measure 15 = .ok (.lastore, 1) := by decide +kernel
theorem dL_measure_16 : decode cL_measure 16 = .ok (.goto 15, 3) := by decide +kernel
theorem dL_measure_19 : decode cL_measure 19 = .ok (.astore 7, 2) := by decide +kernel
theorem dL_measure_21 : decode cL_measure 21 = .ok (.iconst 1, 1) := by decide +kernel
theorem dL_measure_22 : decode cL_measure 22 = .ok (.ireturn, 1) := by decide +kernel
theorem dL_measure_23 : decode cL_measure 23 = .ok (.astore 7, 2) := by decide +kernel
theorem dL_measure_25 : decode cL_measure 25 = .ok (.iconst 2, 1) := by decide +kernel
theorem dL_measure_26 : decode cL_measure 26 = .ok (.ireturn, 1) := by decide +kernel
theorem dL_measure_27 : decode cL_measure 27 = .ok (.astore 7, 2) := by decide +kernel
theorem dL_measure_29 : decode cL_measure 29 = .ok (.iconst 3, 1) := by decide +kernel
theorem dL_measure_30 : decode cL_measure 30 = .ok (.ireturn, 1) := by decide +kernel
theorem dL_measure_31 : decode cL_measure 31 = .ok (.iconst 0, 1) := by decide +kernel
theorem dL_measure_32 : decode cL_measure 32 = .ok (.ireturn, 1) := by decide +kernel
set_option maxRecDepth 20000 in
theorem ggL_late_X6_late : GoodIn wsL_late wsX6_late := goodIn_ca (goodIn_ca (goodIn_ca (goodIn_r _ [8, 9, 10, 11, 12, 7, 13, 14, 15, 16, 17, 18, 19, 20, 21, 22, 23, 24, 25, 26, 27, 28, 29, 30, 31, 32, 33, 34, 35, 36, 37, 38, 39, 40, 41, 42, 43, 44, 45, 46, 47, 48, 49, 50, 51, 52, 53, 54, 55, 56, 57, 58, 59, 60, 61, 62, 63, 64, 65, 66, 67, 68, 69, 70, 71, 72, 73, 74, 75, 76, 77, 78, 79, 80, 81, 82, 83, 84, 85, 86, 87, 88, 89, 90, 91, 92, 93, 94, 95, 96, 97, 98, 99, 100, 101, 102, 103, 104, 105, 106, 107, 108, 109, 110, 111, 112, 113, 114, 115, 116, 117, 118, 119, 120, 121, 122, 123, 124, 125, 126, 127, 128, 129, 130, 131, 132, 133, 134, 135, 136, 137, 138, 139, 140, 141, 142, 143, 144, 145, 146, 147, 148, 149, 150, 151, 152, 153, 154, 155, 156, 157, 158, 159, 160, 161, 162, 163, 164, 165, 166, 167, 168, 169, 170, 171, 172, 173, 174, 175, 176, 177, 178, 179, 180, 181, 182, 183, 184, 185, 186, 187, 188, 189, 190, 191, 192, 193, 194, 195] (by decide +kernel) (by decide +kernel)) (goodIn_sub (fun _ h => List.mem_cons_of_mem _ (List.mem_append_left _ (List.mem_append_left _ (List.mem_append_right _ h)))) (by decide +kernel))) (goodIn_sub (fun _ h => List.mem_cons_of_mem _ (List.mem_append_left _ (List.mem_append_right _ h))) (by decide +kernel))) (goodIn_sub (fun _ h => List.mem_cons_of_mem _ (List.mem_append_right _ h)) (by decide +kernel))
set_option maxRecDepth 20000 in
theorem gL_late_X6_late : GoodIn wsL_late (wsV RL 39 RX6 yX6_late wsX6_late) := goodIn_app (goodIn_of _ (by decide +kernel)) ggL_late_X6_late
theorem dL_late_0 : decode cL_late 0 = .ok (.aload 7, 2) := by decide +kernel
theorem dL_late_2 : decode cL_late 2 = .ok (.iconst 0, 1) := by decide +kernel
theorem dL_late_3 : decode cL_late 3 = .ok (.aload_n 0, 1) := by decide +kernel
theorem dL_late_4 : decode cL_late 4 = .ok (.iload_n 1, 1) := by decide +kernel
theorem dL_late_5 : decode cL_late 5 = .ok (.iload_n 2, 1) := by decide +kernel
theorem dL_late_6 : decode cL_late 6 = .ok (.iload_n 3, 1) := by decide +kernel
theorem dL_late_7 : decode cL_late 7 = .ok (.iload 4, 2) := by decide +kernel
theorem dL_late_9 : decode cL_late 9 = .ok (.iload 5, 2) := by decide +kernel
theorem dL_late_11 : decode cL_late 11 = .ok (.iload 6, 2) := by decide +kernel
theorem dL_late_13 : decode cL_late 13 = .ok (.invokevirtual 39, 3) := by decide +kernel
theorem dL_late_16 : decode cL_late 16 = .ok (.i2l, 1) := by decide +kernel
theorem dL_late_17 : decode cL_late 17 = .ok (.lastore, 1) := by decide +kernel
theorem dL_late_18 : decode cL_late 18 = .ok (.goto 15, 3) := by decide +kernel
theorem dL_late_21 : decode cL_late 21 = .ok (.astore 8, 2) := by decide +kernel
theorem dL_late_23 : decode cL_late 23 = .ok (.iconst 1, 1) := by decide +kernel
theorem dL_late_24 : decode cL_late 24 = .ok (.ireturn, 1) := by decide +kernel
theorem dL_late_25 : decode cL_late 25 = .ok (.astore 8, 2) := by decide +kernel
theorem dL_late_27 : decode cL_late 27 = .ok (.iconst 2, 1) := by decide +kernel
theorem dL_late_28 : decode cL_late 28 = .ok (.ireturn, 1) := by decide +kernel
theorem dL_late_29 : decode cL_late 29 = .ok (.astore 8, 2) := by decide +kernel
theorem dL_late_31 : decode cL_late 31 = .ok (.iconst 3, 1) := by decide +kernel
theorem dL_late_32 : decode cL_late 32 = .ok (.ireturn, 1) := by decide +kernel
theorem dL_late_33 : decode cL_late 33 = .ok (.iconst 0, 1) := by decide +kernel
theorem dL_late_34 : decode cL_late 34 = .ok (.ireturn, 1) := by decide +kernel
set_option maxRecDepth 20000 in
theorem ggL_drop_X6_drop : GoodIn wsL_drop wsX6_drop := goodIn_ca (goodIn_ca (goodIn_r _ [7, 8, 9, 10, 11, 12, 13, 6, 14, 15, 16, 17, 18, 19, 20, 21, 22, 23, 24, 25, 26, 27, 28, 29, 30, 31, 32, 33, 34, 35, 36, 37, 38, 39, 40, 41, 42, 43, 44, 45, 46, 47, 48, 49, 50, 51, 52, 53, 54, 55, 56, 57, 58, 59, 60, 61, 62, 63, 64, 65, 66, 67, 68, 69, 70, 71, 72, 73, 74, 75, 76, 77, 78, 79, 80, 81, 82, 83, 84, 85, 86, 87, 88, 89, 90, 91, 92, 93, 94, 95, 96, 97, 98, 99, 100, 101, 102, 103, 104, 105, 106, 107, 108, 109, 110, 111, 112, 113, 114, 115, 116, 117, 118, 119, 120, 121, 122, 123, 124, 125, 126, 127, 128, 129, 130, 131, 132, 133, 134, 135, 136, 137, 138, 139, 140, 141, 142, 143, 144, 145, 146, 147, 148, 149, 150, 151, 152, 153, 154, 155, 156, 157, 158, 159, 160, 161, 162, 163, 164, 165, 166, 167, 168, 169, 170, 171, 172, 173, 174, 175, 176, 177] (by decide +kernel) (by decide +kernel)) (goodIn_sub (fun _ h => List.mem_cons_of_mem _ (List.mem_append_left _ (List.mem_append_right _ h))) (by decide +kernel))) (goodIn_sub (fun _ h => List.mem_cons_of_mem _ (List.mem_append_right _ h)) (by decide +kernel))
set_option maxRecDepth 20000 in
theorem gL_drop_X6_drop : GoodIn wsL_drop (wsV RL 42 RX6 yX6_drop wsX6_drop) := goodIn_app (goodIn_of _ (by decide +kernel)) ggL_drop_X6_drop
theorem dL_drop_0 : decode cL_drop 0 = .ok (.aload_n 0, 1) := by decide +kernel
theorem dL_drop_1 : decode cL_drop 1 = .ok (.iload_n 1, 1) := by decide +kernel
theorem dL_drop_2 : decode cL_drop 2 = .ok (.iload_n 2, 1) := by decide +kernel
theorem dL_drop_3 : decode cL_drop 3 = .ok (.invokevirtual 42, 3) := by decide +kernel
theorem dL_drop_6 : decode cL_drop 6 = .ok (.goto 9, 3) := by decide +kernel
theorem dL_drop_9 : decode cL_drop 9 = .ok (.astore_n 3, 1) := by decide +kernel
theorem dL_drop_10 : decode cL_drop 10 = .ok (.iconst 1, 1) := by decide +kernel
theorem dL_drop_11 : decode cL_drop 11 = .ok (.ireturn, 1) := by decide +kernel
theorem dL_drop_12 : decode cL_drop 12 = .ok (.astore_n 3, 1) := by decide +kernel
theorem dL_drop_13 : decode cL_drop 13 = .ok (.iconst 2, 1) := by decide +kernel
theorem dL_drop_14 : decode cL_drop 14 = .ok (.ireturn, 1) := by decide +kernel
theorem dL_drop_15 : decode cL_drop 15 = .ok (.iconst 0, 1) := by decide +kernel
theorem dL_drop_16 : decode cL_drop 16 = .ok (.ireturn, 1) := by decide +kernel
set_option maxRecDepth 20000 in
theorem ggL_of_X6_of : GoodIn wsL_of wsX6_of := goodIn_ca (goodIn_ca (goodIn_r _ [7, 8, 9, 10, 11, 12, 13, 6, 14, 15, 16, 17, 18, 19, 20, 21, 22, 23, 24, 25, 26, 27, 28, 29, 30, 31, 32, 33, 34, 35, 36, 37, 38, 39, 40, 41, 42, 43, 44, 45, 46, 47, 48, 49, 50, 51, 52, 53, 54, 55, 56, 57, 58, 59, 60, 61, 62, 63, 64, 65, 66, 67, 68, 69, 70, 71, 72, 73, 74, 75, 76, 77, 78, 79, 80, 81, 82, 83, 84, 85, 86, 87, 88, 89, 90, 91, 92, 93] (by decide +kernel) (by decide +kernel)) (goodIn_sub (fun _ h => List.mem_cons_of_mem _ (List.mem_append_left _ (List.mem_append_right _ h))) (by decide +kernel))) (goodIn_sub (fun _ h => List.mem_cons_of_mem _ (List.mem_append_right _ h)) (by decide +kernel))
set_option maxRecDepth 20000 in
theorem gL_of_X6_of : GoodIn wsL_of (wsV RL 46 RX6 yX6_of wsX6_of) := goodIn_app (goodIn_of _ (by decide +kernel)) ggL_of_X6_of
theorem dL_of_0 : decode cL_of 0 = .ok (.aload_n 3, 1) := by decide +kernel
theorem dL_of_1 : decode cL_of 1 = .ok (.iconst 0, 1) := by decide +kernel
theorem dL_of_2 : decode cL_of 2 = .ok (.aload_n 0, 1) := by decide +kernel
theorem dL_of_3 : decode cL_of 3 = .ok (.iload_n 1, 1) := by decide +kernel
theorem dL_of_4 : decode cL_of 4 = .ok (.iload_n 2, 1) := by decide +kernel
theorem dL_of_5 : decode cL_of 5 = .ok (.invokevirtual 46, 3) := by decide +kernel
theorem dL_of_8 : decode cL_of 8 = .ok (.i2l, 1) := by decide +kernel
theorem dL_of_9 : decode cL_of 9 = .ok (.lastore, 1) := by decide +kernel
theorem dL_of_10 : decode cL_of 10 = .ok (.goto 11, 3) := by decide +kernel
theorem dL_of_13 : decode cL_of 13 = .ok (.astore 4, 2) := by decide +kernel
theorem dL_of_15 : decode cL_of 15 = .ok (.iconst 1, 1) := by decide +kernel
theorem dL_of_16 : decode cL_of 16 = .ok (.ireturn, 1) := by decide +kernel
theorem dL_of_17 : decode cL_of 17 = .ok (.astore 4, 2) := by decide +kernel
theorem dL_of_19 : decode cL_of 19 = .ok (.iconst 2, 1) := by decide +kernel
theorem dL_of_20 : decode cL_of 20 = .ok (.ireturn, 1) := by decide +kernel
theorem dL_of_21 : decode cL_of 21 = .ok (.iconst 0, 1) := by decide +kernel
theorem dL_of_22 : decode cL_of 22 = .ok (.ireturn, 1) := by decide +kernel
set_option maxRecDepth 20000 in
theorem ggL_ofMeasurement_X6_ofMeasurement : GoodIn wsL_ofMeasurement wsX6_ofMeasurement := goodIn_ca (goodIn_ca (goodIn_r _ [7, 8, 9, 10, 11, 12, 13, 14, 15, 16, 6, 17, 18, 19, 20, 21, 22, 23, 24, 25, 26, 27, 28, 29, 30, 31, 32, 33, 34, 35, 36, 37, 38, 39, 40, 41, 42, 43, 44, 45, 46, 47, 48, 49, 50, 51, 52, 53] (by decide +kernel) (by decide +kernel)) (goodIn_sub (fun _ h => List.mem_cons_of_mem _ (List.mem_append_left _ (List.mem_append_right _ h))) (by decide +kernel))) (goodIn_sub (fun _ h => List.mem_cons_of_mem _ (List.mem_append_right _ h)) (by decide +kernel))
set_option maxRecDepth 20000 in
theorem gL_ofMeasurement_X6_ofMeasurement : GoodIn wsL_ofMeasurement (wsV RL 49 RX6 yX6_ofMeasurement wsX6_ofMeasurement) := goodIn_app (goodIn_of _ (by decide +kernel)) ggL_ofMeasurement_X6_ofMeasurement
theorem dL_ofMeasurement_0 : decode cL_ofMeasurement 0 = .ok (.aload 4, 2) := by decide +kernel
theorem dL_ofMeasurement_2 : decode cL_ofMeasurement 2 = .ok (.iconst 0, 1) := by decide +kernel
theorem dL_ofMeasurement_3 : decode cL_ofMeasurement 3 = .ok (.aload_n 0, 1) := by decide +kernel
theorem dL_ofMeasurement_4 : decode cL_ofMeasurement 4 = .ok (.iload_n 1, 1) := by decide +kernel
theorem dL_ofMeasurement_5 : decode cL_ofMeasurement 5 = .ok (.iload_n 2, 1) := by decide +kernel
theorem dL_ofMeasurement_6 : decode cL_ofMeasurement 6 = .ok (.iload_n 3, 1) := by decide +kernel
theorem dL_ofMeasurement_7 : decode cL_ofMeasurement 7 = .ok (.invokevirtual 49, 3) := by decide +kernel
theorem dL_ofMeasurement_10 : decode cL_ofMeasurement 10 = .ok (.i2l, 1) := by decide +kernel
theorem dL_ofMeasurement_11 : decode cL_ofMeasurement 11 = .ok (.lastore, 1) := by decide +kernel
theorem dL_ofMeasurement_12 : decode cL_ofMeasurement 12 = .ok (.goto 11, 3) := by decide +kernel
theorem dL_ofMeasurement_15 : decode cL_ofMeasurement 15 = .ok (.astore 5, 2) := by decide +kernel
theorem dL_ofMeasurement_17 : decode cL_ofMeasurement 17 = .ok (.iconst 1, 1) := by decide +kernel
theorem dL_ofMeasurement_18 : decode cL_ofMeasurement 18 = .ok (.ireturn, 1) := by decide +kernel
theorem dL_ofMeasurement_19 : decode cL_ofMeasurement 19 = .ok (.astore 5, 2) := by decide +kernel
theorem dL_ofMeasurement_21 : decode cL_ofMeasurement 21 = .ok (.iconst 2, 1) := by decide +kernel
theorem dL_ofMeasurement_22 : decode cL_ofMeasurement 22 = .ok (.ireturn, 1) := by decide +kernel
theorem dL_ofMeasurement_23 : decode cL_ofMeasurement 23 = .ok (.iconst 0, 1) := by decide +kernel
theorem dL_ofMeasurement_24 : decode cL_ofMeasurement 24 = .ok (.ireturn, 1) := by decide +kernel
set_option maxRecDepth 20000 in
theorem ggL_gain_X6_gain : GoodIn wsL_gain wsX6_gain := goodIn_ca (goodIn_ca (goodIn_ca (goodIn_r _ [8, 9, 10, 11, 12, 13, 14, 15, 16, 17, 18, 19, 7, 20, 21, 22, 23, 24, 25, 26, 27, 28, 29, 30, 31, 32, 33, 34, 35, 36, 37, 38, 39, 40, 41, 42, 43, 44, 45, 46, 47, 48, 49, 50, 51, 52, 53, 54, 55, 56, 57, 58, 59, 60, 61, 62, 63, 64, 65, 66, 67, 68, 69, 70, 71, 72, 73, 74, 75, 76, 77, 78, 79, 80, 81, 82, 83, 84, 85, 86, 87, 88, 89, 90, 91, 92, 93, 94, 95, 96, 97, 98, 99, 100, 101, 102, 103, 104, 105, 106, 107, 108, 109, 110, 111, 112, 113, 114, 115, 116, 117, 118, 119, 120, 121, 122, 123, 124, 125, 126] (by decide +kernel) (by decide +kernel)) (goodIn_sub (fun _ h => List.mem_cons_of_mem _ (List.mem_append_left _ (List.mem_append_left _ (List.mem_append_right _ h)))) (by decide +kernel))) (goodIn_sub (fun _ h => List.mem_cons_of_mem _ (List.mem_append_left _ (List.mem_append_right _ h))) (by decide +kernel))) (goodIn_sub (fun _ h => List.mem_cons_of_mem _ (List.mem_append_right _ h)) (by decide +kernel))
set_option maxRecDepth 20000 in
theorem gL_gain_X6_gain : GoodIn wsL_gain (wsV RL 52 RX6 yX6_gain wsX6_gain) := goodIn_app (goodIn_of _ (by decide +kernel)) ggL_gain_X6_gain
theorem dL_gain_0 : decode cL_gain 0 = .ok (.aload 6, 2) := by decide +kernel
theorem dL_gain_2 : decode cL_gain 2 = .ok (.iconst 0, 1) := by decide +kernel
theorem dL_gain_3 : decode cL_gain 3 = .ok (.aload_n 0, 1) := by decide +kernel
theorem dL_gain_4 : decode cL_gain 4 = .ok (.iload_n 1, 1) := by decide +kernel
theorem dL_gain_5 : decode cL_gain 5 = .ok (.iload_n 2, 1) := by decide +kernel
theorem dL_gain_6 : decode cL_gain 6 = .ok (.iload_n 3, 1) := by decide +kernel
theorem dL_gain_7 : decode cL_gain 7 = .ok (.iload 4, 2) := by decide +kernel
theorem dL_gain_9 : decode cL_gain 9 = .ok (.iload 5, 2) := by decide +kernel
theorem dL_gain_11 : decode cL_gain 11 = .ok (.invokevirtual 52, 3) := by decide +kernel
theorem dL_gain_14 : decode cL_gain 14 = .ok (.i2l, 1) := by decide +kernel
theorem dL_gain_15 : decode cL_gain 15 = .ok (.lastore, 1) := by decide +kernel
theorem dL_gain_16 : decode cL_gain 16 = .ok (.goto 15, 3) := by decide +kernel
theorem dL_gain_19 : decode cL_gain 19 = .ok (.astore 7, 2) := by decide +kernel
theorem dL_gain_21 : decode cL_gain 21 = .ok (.iconst 1, 1) := by decide +kernel
theorem dL_gain_22 : decode cL_gain 22 = .ok (.ireturn, 1) := by decide +kernel
theorem dL_gain_23 : decode cL_gain 23 = .ok (.astore 7, 2) := by decide +kernel
theorem dL_gain_25 : decode cL_gain 25 = .ok (.iconst 2, 1) := by decide +kernel
theorem dL_gain_26 : decode cL_gain 26 = .ok (.ireturn, 1) := by decide +kernel
theorem dL_gain_27 : decode cL_gain 27 = .ok (.astore 7, 2) := by decide +kernel
theorem dL_gain_29 : decode cL_gain 29 = .ok (.iconst 3, 1) := by decide +kernel
theorem dL_gain_30 : decode cL_gain 30 = .ok (.ireturn, 1) := by decide +kernel
theorem dL_gain_31 : decode cL_gain 31 = .ok (.iconst 0, 1) := by decide +kernel
theorem dL_gain_32 : decode cL_gain 32 = .ok (.ireturn, 1) := by decide +kernel
set_option maxRecDepth 20000 in
theorem ggL_information_X6_information : GoodIn wsL_information wsX6_information := goodIn_ca (goodIn_ca (goodIn_ca (goodIn_r _ [8, 9, 10, 11, 12, 13, 14, 15, 16, 7, 17, 18, 19, 20, 21, 22, 23, 24, 25, 26, 27, 28, 29, 30, 31, 32, 33, 34, 35, 36, 37, 38, 39, 40, 41, 42, 43, 44, 45, 46, 47, 48, 49, 50, 51, 52, 53, 54, 55, 56, 57, 58, 59, 60, 61, 62, 63, 64, 65, 66, 67, 68, 69, 70, 71, 72, 73, 74, 75, 76, 77, 78, 79, 80, 81, 82, 83, 84, 85, 86, 87, 88, 89, 90, 91, 92, 93, 94, 95, 96, 97, 98, 99, 100, 101, 102, 103, 104, 105, 106, 107, 108, 109, 110, 111, 112, 113, 114, 115, 116, 117, 118, 119, 120, 121, 122, 123] (by decide +kernel) (by decide +kernel)) (goodIn_sub (fun _ h => List.mem_cons_of_mem _ (List.mem_append_left _ (List.mem_append_left _ (List.mem_append_right _ h)))) (by decide +kernel))) (goodIn_sub (fun _ h => List.mem_cons_of_mem _ (List.mem_append_left _ (List.mem_append_right _ h))) (by decide +kernel))) (goodIn_sub (fun _ h => List.mem_cons_of_mem _ (List.mem_append_right _ h)) (by decide +kernel))
set_option maxRecDepth 20000 in
theorem gL_information_X6_information : GoodIn wsL_information (wsV RL 55 RX6 yX6_information wsX6_information) := goodIn_app (goodIn_of _ (by decide +kernel)) ggL_information_X6_information
theorem dL_information_0 : decode cL_information 0 = .ok (.aload_n 3, 1) := by decide +kernel
theorem dL_information_1 : decode cL_information 1 = .ok (.iconst 0, 1) := by decide +kernel
theorem dL_information_2 : decode cL_information 2 = .ok (.aload_n 0, 1) := by decide +kernel
theorem dL_information_3 : decode cL_information 3 = .ok (.iload_n 1, 1) := by decide +kernel
theorem dL_information_4 : decode cL_information 4 = .ok (.iload_n 2, 1) := by decide +kernel
theorem dL_information_5 : decode cL_information 5 = .ok (.invokevirtual 55, 3) := by decide +kernel
theorem dL_information_8 : decode cL_information 8 = .ok (.i2l, 1) := by decide +kernel
theorem dL_information_9 : decode cL_information 9 = .ok (.lastore, 1) := by decide +kernel
theorem dL_information_10 : decode cL_information 10 = .ok (.goto 15, 3) := by decide +kernel
theorem dL_information_13 : decode cL_information 13 = .ok (.astore 4, 2) := by decide +kernel
theorem dL_information_15 : decode cL_information 15 = .ok (.iconst 1, 1) := by decide +kernel
theorem dL_information_16 : decode cL_information 16 = .ok (.ireturn, 1) := by decide +kernel
theorem dL_information_17 : decode cL_information 17 = .ok (.astore 4, 2) := by decide +kernel
theorem dL_information_19 : decode cL_information 19 = .ok (.iconst 2, 1) := by decide +kernel
theorem dL_information_20 : decode cL_information 20 = .ok (.ireturn, 1) := by decide +kernel
theorem dL_information_21 : decode cL_information 21 = .ok (.astore 4, 2) := by decide +kernel
theorem dL_information_23 : decode cL_information 23 = .ok (.iconst 3, 1) := by decide +kernel
theorem dL_information_24 : decode cL_information 24 = .ok (.ireturn, 1) := by decide +kernel
theorem dL_information_25 : decode cL_information 25 = .ok (.iconst 0, 1) := by decide +kernel
theorem dL_information_26 : decode cL_information 26 = .ok (.ireturn, 1) := by decide +kernel
set_option maxRecDepth 20000 in
theorem ggL_anew_X6_anew : GoodIn wsL_anew wsX6_anew := goodIn_ca (goodIn_ca (goodIn_ca (goodIn_r _ [8, 9, 10, 11, 12, 13, 14, 15, 16, 7, 17, 18, 19, 20, 21, 22, 23, 24, 25, 26, 27, 28, 29, 30, 31, 32, 33, 34, 35, 36, 37, 38, 39, 40, 41, 42, 43, 44, 45, 46, 47, 48, 49, 50, 51, 52, 53, 54, 55, 56, 57, 58, 59, 60, 61, 62, 63, 64, 65, 66, 67, 68, 69, 70, 71, 72, 73, 74, 75, 76, 77, 78, 79, 80, 81, 82, 83, 84, 85, 86, 87, 88, 89, 90, 91, 92, 93, 94, 95, 96, 97, 98, 99, 100, 101, 102, 103, 104, 105, 106, 107, 108, 109, 110, 111, 112, 113, 114, 115, 116, 117, 118, 119, 120, 121, 122, 123, 124, 125, 126, 127, 128, 129, 130, 131, 132, 133, 134, 135, 136, 137, 138, 139, 140, 141, 142, 143, 144, 145, 146, 147, 148, 149, 150, 151, 152, 153, 154, 155, 156, 157, 158, 159, 160, 161, 162, 163, 164, 165, 166, 167, 168, 169, 170, 171, 172, 173, 174, 175, 176, 177, 178, 179, 180, 181, 182, 183, 184, 185, 186, 187, 188, 189, 190, 191, 192, 193, 194, 195, 196, 197, 198] (by decide +kernel) (by decide +kernel)) (goodIn_sub (fun _ h => List.mem_cons_of_mem _ (List.mem_append_left _ (List.mem_append_left _ (List.mem_append_right _ h)))) (by decide +kernel))) (goodIn_sub (fun _ h => List.mem_cons_of_mem _ (List.mem_append_left _ (List.mem_append_right _ h))) (by decide +kernel))) (goodIn_sub (fun _ h => List.mem_cons_of_mem _ (List.mem_append_right _ h)) (by decide +kernel))
set_option maxRecDepth 20000 in
theorem gL_anew_X6_anew : GoodIn wsL_anew (wsV RL 58 RX6 yX6_anew wsX6_anew) := goodIn_app (goodIn_of _ (by decide +kernel)) ggL_anew_X6_anew
theorem dL_anew_0 : decode cL_anew 0 = .ok (.aload_n 3, 1) := by decide +kernel
theorem dL_anew_1 : decode cL_anew 1 = .ok (.iconst 0, 1) := by decide +kernel
theorem dL_anew_2 : decode cL_anew 2 = .ok (.aload_n 0, 1) := by decide +kernel
theorem dL_anew_3 : decode cL_anew 3 = .ok (.iload_n 1, 1) := by decide +kernel
theorem dL_anew_4 : decode cL_anew 4 = .ok (.iload_n 2, 1) := by decide +kernel
theorem dL_anew_5 : decode cL_anew 5 = .ok (.invokevirtual 58, 3) := by decide +kernel
theorem dL_anew_8 : decode cL_anew 8 = .ok (.i2l, 1) := by decide +kernel
theorem dL_anew_9 : decode cL_anew 9 = .ok (.lastore, 1) := by decide +kernel
theorem dL_anew_10 : decode cL_anew 10 = .ok (.goto 15, 3) := by decide +kernel
theorem dL_anew_13 : decode cL_anew 13 = .ok (.astore 4, 2) := by decide +kernel
theorem dL_anew_15 : decode cL_anew 15 = .ok (.iconst 1, 1) := by decide +kernel
theorem dL_anew_16 : decode cL_anew 16 = .ok (.ireturn, 1) := by decide +kernel
theorem dL_anew_17 : decode cL_anew 17 = .ok (.astore 4, 2) := by decide +kernel
theorem dL_anew_19 : decode cL_anew 19 = .ok (.iconst 2, 1) := by decide +kernel
theorem dL_anew_20 : decode cL_anew 20 = .ok (.ireturn, 1) := by decide +kernel
theorem dL_anew_21 : decode cL_anew 21 = .ok (.astore 4, 2) := by decide +kernel
theorem dL_anew_23 : decode cL_anew 23 = .ok (.iconst 3, 1) := by decide +kernel
theorem dL_anew_24 : decode cL_anew 24 = .ok (.ireturn, 1) := by decide +kernel
theorem dL_anew_25 : decode cL_anew 25 = .ok (.iconst 0, 1) := by decide +kernel
theorem dL_anew_26 : decode cL_anew 26 = .ok (.ireturn, 1) := by decide +kernel
set_option maxRecDepth 20000 in
theorem ggL_smoothed_X6_smoothed : GoodIn wsL_smoothed wsX6_smoothed := goodIn_ca (goodIn_ca (goodIn_ca (goodIn_r _ [8, 9, 10, 11, 12, 13, 14, 15, 16, 17, 7, 18, 19, 20, 21, 22, 23, 24, 25, 26, 27, 28, 29, 30, 31, 32, 33, 34, 35, 36, 37, 38, 39, 40, 41, 42, 43, 44, 45, 46, 47, 48, 49, 50, 51, 52, 53, 54, 55, 56, 57, 58, 59, 60, 61, 62, 63, 64, 65, 66, 67, 68, 69, 70, 71, 72, 73, 74, 75, 76, 77, 78, 79, 80, 81, 82, 83, 84, 85, 86, 87, 88, 89, 90, 91, 92, 93, 94, 95, 96, 97, 98, 99, 100, 101, 102, 103, 104, 105, 106, 107, 108, 109, 110, 111, 112, 113, 114, 115, 116, 117, 118, 119, 120, 121, 122, 123, 124, 125, 126, 127, 128, 129, 130, 131, 132, 133, 134, 135, 136, 137, 138, 139, 140] (by decide +kernel) (by decide +kernel)) (goodIn_sub (fun _ h => List.mem_cons_of_mem _ (List.mem_append_left _ (List.mem_append_left _ (List.mem_append_right _ h)))) (by decide +kernel))) (goodIn_sub (fun _ h => List.mem_cons_of_mem _ (List.mem_append_left _ (List.mem_append_right _ h))) (by decide +kernel))) (goodIn_sub (fun _ h => List.mem_cons_of_mem _ (List.mem_append_right _ h)) (by decide +kernel))
set_option maxRecDepth 20000 in
theorem gL_smoothed_X6_smoothed : GoodIn wsL_smoothed (wsV RL 61 RX6 yX6_smoothed wsX6_smoothed) := goodIn_app (goodIn_of _ (by decide +kernel)) ggL_smoothed_X6_smoothed
theorem dL_smoothed_0 : decode cL_smoothed 0 = .ok (.aload 4, 2) := by decide +kernel
theorem dL_smoothed_2 : decode cL_smoothed 2 = .ok (.iconst 0, 1) := by decide +kernel
theorem dL_smoothed_3 : decode cL_smoothed 3 = .ok (.aload_n 0, 1) := by decide +kernel
theorem dL_smoothed_4 : decode cL_smoothed 4 = .ok (.iload_n 1, 1) := by decide +kernel
theorem dL_smoothed_5 : decode cL_smoothed 5 = .ok (.iload_n 2, 1) := by decide +kernel
theorem dL_smoothed_6 : decode cL_smoothed 6 = .ok (.iload_n 3, 1) := by decide +kernel
theorem dL_smoothed_7 : decode cL_smoothed 7 = .ok (.invokevirtual 61, 3) := by decide +kernel
theorem dL_smoothed_10 : decode cL_smoothed 10 = .ok (.i2l, 1) := by decide +kernel
theorem dL_smoothed_11 : decode cL_smoothed 11 = .ok (.lastore, 1) := by decide +kernel
theorem dL_smoothed_12 : decode cL_smoothed 12 = .ok (.goto 15, 3) := by decide +kernel
theorem dL_smoothed_15 : decode cL_smoothed 15 = .ok (.astore 5, 2) := by decide +kernel
theorem dL_smoothed_17 : decode cL_smoothed 17 = .ok (.iconst 1, 1) := by decide +kernel
theorem dL_smoothed_18 : decode cL_smoothed 18 = .ok (.ireturn, 1) := by decide +kernel
theorem dL_smoothed_19 : decode cL_smoothed 19 = .ok (.astore 5, 2) := by decide +kernel
theorem dL_smoothed_21 : decode cL_smoothed 21 = .ok (.iconst 2, 1) := by decide +kernel
theorem dL_smoothed_22 : decode cL_smoothed 22 = .ok (.ireturn, 1) := by decide +kernel
theorem dL_smoothed_23 : decode cL_smoothed 23 = .ok (.astore 5, 2) := by decide +kernel
theorem dL_smoothed_25 : decode cL_smoothed 25 = .ok (.iconst 3, 1) := by decide +kernel
theorem dL_smoothed_26 : decode cL_smoothed 26 = .ok (.ireturn, 1) := by decide +kernel
theorem dL_smoothed_27 : decode cL_smoothed 27 = .ok (.iconst 0, 1) := by decide +kernel
theorem dL_smoothed_28 : decode cL_smoothed 28 = .ok (.ireturn, 1) := by decide +kernel
set_option maxRecDepth 20000 in
theorem ggL_ahead_X6_ahead : GoodIn wsL_ahead wsX6_ahead := goodIn_ca (goodIn_ca (goodIn_r _ [7, 8, 9, 10, 11, 12, 13, 14, 15, 16, 17, 18, 6, 19, 20, 21, 22, 23, 24, 25, 26, 27, 28, 29, 30, 31, 32, 33, 34, 35, 36, 37, 38, 39, 40, 41, 42, 43, 44, 45, 46, 47, 48, 49, 50, 51, 52, 53, 54, 55, 56, 57, 58, 59, 60, 61, 62, 63, 64, 65, 66, 67, 68, 69, 70, 71, 72, 73, 74, 75, 76, 77, 78, 79, 80, 81, 82, 83, 84, 85, 86, 87, 88, 89, 90, 91, 92, 93, 94, 95, 96, 97, 98, 99, 100, 101, 102, 103, 104, 105, 106, 107, 108, 109, 110, 111, 112, 113, 114, 115, 116, 117, 118, 119, 120, 121, 122, 123, 124, 125, 126, 127, 128, 129, 130, 131, 132, 133, 134, 135, 136, 137, 138, 139, 140, 141, 142, 143, 144, 145, 146, 147, 148, 149, 150] (by decide +kernel) (by decide +kernel)) (goodIn_sub (fun _ h => List.mem_cons_of_mem _ (List.mem_append_left _ (List.mem_append_right _ h))) (by decide +kernel))) (goodIn_sub (fun _ h => List.mem_cons_of_mem _ (List.mem_append_right _ h)) (by decide +kernel))
set_option maxRecDepth 20000 in
theorem gL_ahead_X6_ahead : GoodIn wsL_ahead (wsV RL 64 RX6 yX6_ahead wsX6_ahead) := goodIn_app (goodIn_of _ (by decide +kernel)) ggL_ahead_X6_ahead
theorem dL_ahead_0 : decode cL_ahead 0 = .ok (.aload 4, 2) := by decide +kernel
theorem dL_ahead_2 : decode cL_ahead 2 = .ok (.iconst 0, 1) := by decide +kernel
theorem dL_ahead_3 : decode cL_ahead 3 = .ok (.aload_n 0, 1) := by decide +kernel
theorem dL_ahead_4 : decode cL_ahead 4 = .ok (.iload_n 1, 1) := by decide +kernel
theorem dL_ahead_5 : decode cL_ahead 5 = .ok (.iload_n 2, 1) := by decide +kernel
theorem dL_ahead_6 : decode cL_ahead 6 = .ok (.iload_n 3, 1) := by decide +kernel
theorem dL_ahead_7 : decode cL_ahead 7 = .ok (.invokevirtual 64, 3) := by decide +kernel
theorem dL_ahead_10 : decode cL_ahead 10 = .ok (.i2l, 1) := by decide +kernel
theorem dL_ahead_11 : decode cL_ahead 11 = .ok (.lastore, 1) := by decide +kernel
theorem dL_ahead_12 : decode cL_ahead 12 = .ok (.goto 11, 3) := by decide +kernel
theorem dL_ahead_15 : decode cL_ahead 15 = .ok (.astore 5, 2) := by decide +kernel
theorem dL_ahead_17 : decode cL_ahead 17 = .ok (.iconst 1, 1) := by decide +kernel
theorem dL_ahead_18 : decode cL_ahead 18 = .ok (.ireturn, 1) := by decide +kernel
theorem dL_ahead_19 : decode cL_ahead 19 = .ok (.astore 5, 2) := by decide +kernel
theorem dL_ahead_21 : decode cL_ahead 21 = .ok (.iconst 2, 1) := by decide +kernel
theorem dL_ahead_22 : decode cL_ahead 22 = .ok (.ireturn, 1) := by decide +kernel
theorem dL_ahead_23 : decode cL_ahead 23 = .ok (.iconst 0, 1) := by decide +kernel
theorem dL_ahead_24 : decode cL_ahead 24 = .ok (.ireturn, 1) := by decide +kernel
set_option maxRecDepth 20000 in
theorem ggL_aheadAnew_X6_aheadAnew : GoodIn wsL_aheadAnew wsX6_aheadAnew := goodIn_ca (goodIn_ca (goodIn_r _ [7, 8, 9, 10, 11, 12, 13, 14, 6, 15, 16, 17, 18, 19, 20, 21, 22, 23, 24, 25, 26, 27, 28, 29, 30, 31, 32, 33, 34, 35, 36, 37, 38, 39, 40, 41, 42, 43, 44, 45, 46, 47, 48, 49, 50, 51, 52, 53, 54, 55, 56, 57, 58, 59, 60, 61, 62, 63, 64, 65, 66, 67, 68, 69, 70, 71, 72, 73, 74, 75, 76, 77, 78, 79, 80, 81, 82, 83, 84, 85, 86, 87, 88, 89, 90, 91, 92, 93, 94, 95, 96, 97, 98, 99, 100, 101, 102, 103, 104, 105, 106, 107, 108, 109, 110, 111, 112, 113, 114, 115, 116, 117, 118, 119, 120, 121, 122, 123, 124, 125, 126, 127, 128, 129, 130] (by decide +kernel) (by decide +kernel)) (goodIn_sub (fun _ h => List.mem_cons_of_mem _ (List.mem_append_left _ (List.mem_append_right _ h))) (by decide +kernel))) (goodIn_sub (fun _ h => List.mem_cons_of_mem _ (List.mem_append_right _ h)) (by decide +kernel))
set_option maxRecDepth 20000 in
theorem gL_aheadAnew_X6_aheadAnew : GoodIn wsL_aheadAnew (wsV RL 67 RX6 yX6_aheadAnew wsX6_aheadAnew) := goodIn_app (goodIn_of _ (by decide +kernel)) ggL_aheadAnew_X6_aheadAnew
theorem dL_aheadAnew_0 : decode cL_aheadAnew 0 = .ok (.aload 4, 2) := by decide +kernel
theorem dL_aheadAnew_2 : decode cL_aheadAnew 2 = .ok (.iconst 0, 1) := by decide +kernel
theorem dL_aheadAnew_3 : decode cL_aheadAnew 3 = .ok (.aload_n 0, 1) := by decide +kernel
theorem dL_aheadAnew_4 : decode cL_aheadAnew 4 = .ok (.iload_n 1, 1) := by decide +kernel
theorem dL_aheadAnew_5 : decode cL_aheadAnew 5 = .ok (.iload_n 2, 1) := by decide +kernel
theorem dL_aheadAnew_6 : decode cL_aheadAnew 6 = .ok (.iload_n 3, 1) := by decide +kernel
theorem dL_aheadAnew_7 : decode cL_aheadAnew 7 = .ok (.invokevirtual 67, 3) := by decide +kernel
theorem dL_aheadAnew_10 : decode cL_aheadAnew 10 = .ok (.i2l, 1) := by decide +kernel
theorem dL_aheadAnew_11 : decode cL_aheadAnew 11 = .ok (.lastore, 1) := by decide +kernel
theorem dL_aheadAnew_12 : decode cL_aheadAnew 12 = .ok (.goto 11, 3) := by decide +kernel
theorem dL_aheadAnew_15 : decode cL_aheadAnew 15 = .ok (.astore 5, 2) := by decide +kernel
theorem dL_aheadAnew_17 : decode cL_aheadAnew 17 = .ok (.iconst 1, 1) := by decide +kernel
theorem dL_aheadAnew_18 : decode cL_aheadAnew 18 = .ok (.ireturn, 1) := by decide +kernel
theorem dL_aheadAnew_19 : decode cL_aheadAnew 19 = .ok (.astore 5, 2) := by decide +kernel
theorem dL_aheadAnew_21 : decode cL_aheadAnew 21 = .ok (.iconst 2, 1) := by decide +kernel
theorem dL_aheadAnew_22 : decode cL_aheadAnew 22 = .ok (.ireturn, 1) := by decide +kernel
theorem dL_aheadAnew_23 : decode cL_aheadAnew 23 = .ok (.iconst 0, 1) := by decide +kernel
theorem dL_aheadAnew_24 : decode cL_aheadAnew 24 = .ok (.ireturn, 1) := by decide +kernel
set_option maxRecDepth 20000 in
theorem ggL_law_X6_init : GoodIn wsL_law wsX6_init := goodIn_r _ [9, 10, 11, 12, 13, 14, 15, 16, 17, 605, 606, 607, 608] rfl (by decide +kernel)
set_option maxRecDepth 20000 in
theorem gL_law_X6_init : GoodIn wsL_law (wsX6_init) := ggL_law_X6_init
set_option maxRecDepth 20000 in
theorem ggL_law_X7_init : GoodIn wsL_law wsX7_init := goodIn_r _ [20, 21, 11, 12, 14, 22, 23, 24, 25, 26, 27, 28, 29, 30, 6, 31, 32, 33, 34, 35, 36, 37, 38, 39, 609, 610, 611, 612, 613, 614, 615, 616, 617, 618, 619, 620, 621, 622, 623, 624, 625, 626, 627, 628] rfl (by decide +kernel)
set_option maxRecDepth 20000 in
theorem gL_law_X7_init : GoodIn wsL_law (wsX7_init) := ggL_law_X7_init
set_option maxRecDepth 20000 in
theorem ggL_law_L_model : GoodIn wsL_law wsL_model := goodIn_ca (goodIn_r _ [43, 44, 45, 46, 47, 2, 48, 49, 50, 51, 15, 605, 606, 607, 608] (by decide +kernel) (by decide +kernel)) (goodIn_sub (fun _ h => List.mem_append_left _ (List.mem_append_left _ (List.mem_append_right _ h))) (by decide +kernel))
set_option maxRecDepth 20000 in
theorem gL_law_L_model : GoodIn wsL_law (va_wsS RL 74 yL_model wsL_model) := goodIn_app (goodIn_of _ (by decide +kernel)) ggL_law_L_model
set_option maxRecDepth 20000 in
theorem ggL_law_X7_model : GoodIn wsL_law wsX7_model := goodIn_r _ [55, 56, 22, 57, 58, 59, 5, 60, 61, 609, 610, 611, 612, 613, 614, 615, 616, 617, 618, 619, 620, 621, 622, 623, 624, 625, 626, 627, 628] rfl (by decide +kernel)
set_option maxRecDepth 20000 in
theorem gL_law_X7_model : GoodIn wsL_law (wsV RL 79 RX7 yX7_model wsX7_model) := goodIn_app (goodIn_of _ (by decide +kernel)) ggL_law_X7_model
set_option maxRecDepth 20000 in
theorem ggL_law_X7_thrown : GoodIn wsL_law wsX7_thrown := goodIn_r _ [65, 61, 609, 610, 611, 612, 613, 614, 615, 616, 617, 618, 619, 620, 621, 622, 623, 624, 625, 626, 627, 628] rfl (by decide +kernel)
set_option maxRecDepth 20000 in
theorem gL_law_X7_thrown : GoodIn wsL_law (wsV RL 80 RX7 yX7_thrown wsX7_thrown) := goodIn_app (goodIn_of _ (by decide +kernel)) ggL_law_X7_thrown
set_option maxRecDepth 20000 in
theorem ggL_law_L_entry : GoodIn wsL_law wsL_entry := goodIn_ca (goodIn_ca (goodIn_r _ [68, 69, 70, 71, 72, 73, 2, 74, 75, 76, 77, 78, 79, 80, 51, 15, 81, 82, 83, 84, 85, 86, 87, 88, 605, 606, 607, 608] (by decide +kernel) (by decide +kernel)) (goodIn_sub (fun _ h => List.mem_append_left _ (List.mem_append_right _ h)) (by decide +kernel))) (goodIn_sub (fun _ h => List.mem_append_right _ h) (by decide +kernel))
set_option maxRecDepth 20000 in
theorem gL_law_L_entry : GoodIn wsL_law (va_wsS RL 83 yL_entry wsL_entry) := goodIn_app (goodIn_of _ (by decide +kernel)) ggL_law_L_entry
set_option maxRecDepth 20000 in
theorem ggL_law_X7_entry : GoodIn wsL_law wsX7_entry := goodIn_r _ [92, 22, 93, 94, 5, 95, 96, 97, 98, 99, 100, 101, 102, 56, 57, 58, 59, 60, 61, 609, 610, 611, 612, 613, 614, 615, 616, 617, 618, 619, 620, 621, 622, 623, 624, 625, 626, 627, 628] rfl (by decide +kernel)
set_option maxRecDepth 20000 in
theorem gL_law_X7_entry : GoodIn wsL_law (wsV RL 86 RX7 yX7_entry wsX7_entry) := goodIn_app (goodIn_of _ (by decide +kernel)) ggL_law_X7_entry
set_option maxRecDepth 20000 in
theorem ggL_law_L_begin : GoodIn wsL_law wsL_begin := goodIn_ca (goodIn_ca (goodIn_ca (goodIn_r _ [105, 69, 70, 44, 106, 107, 108, 2, 109, 49, 50, 110, 16, 111, 112, 17, 75, 76, 77, 78, 79, 80, 51, 15, 86, 87, 88, 81, 82, 83, 84, 85, 113, 114, 115, 116, 11, 12, 117, 118, 119, 120, 121, 122, 123, 124, 125, 126, 127, 128, 129, 130, 131, 132, 133, 134, 135, 136, 137, 138, 139, 140, 141, 142, 143, 144, 145, 146, 147, 148, 149, 150, 151, 152, 153, 154, 155, 156, 157, 158, 159, 160, 161, 162, 163, 164, 165, 166, 167, 168, 169, 170, 171, 172, 173, 174, 175, 176, 177, 178, 179, 180, 181, 182, 183, 184, 185, 186, 187, 188, 189, 190, 191, 192, 193, 194, 195, 196, 197, 198, 199, 200, 201, 202, 203, 204, 205, 206, 207, 208, 209, 210, 211, 212, 213, 214, 215, 216, 217, 218, 219, 220, 221, 222, 223, 224, 225, 226, 227, 228, 229, 230, 231, 232, 233, 234, 235, 236, 237, 238, 239, 240, 241, 242, 243, 244, 245, 246, 247, 248, 249, 250, 251, 252, 253, 254, 255, 256, 257, 258, 259, 260, 261, 262, 263, 264, 265, 266, 267, 268, 269, 270, 271, 272, 273, 274, 275, 276, 277, 278, 279, 605, 606, 607, 608, 629, 630, 631, 632, 633, 634, 635, 636, 637, 638, 639, 640, 641, 642, 643, 644, 645, 646, 647, 648, 649, 650, 651, 652, 653, 654, 655, 656, 657, 658] (by decide +kernel) (by decide +kernel)) (goodIn_sub (fun _ h => List.mem_append_left _ (List.mem_append_left _ (List.mem_append_right _ h))) (by decide +kernel))) (goodIn_sub (fun _ h => List.mem_append_left _ (List.mem_append_right _ h)) (by decide +kernel))) (goodIn_sub (fun _ h => List.mem_append_right _ h) (by decide +kernel))
set_option maxRecDepth 20000 in
theorem gL_law_L_begin : GoodIn wsL_law (va_wsS RL 87 yL_begin wsL_begin) := goodIn_app (goodIn_of _ (by decide +kernel)) ggL_law_L_begin
set_option maxRecDepth 20000 in
theorem ggL_law_X7_begin : GoodIn wsL_law wsX7_begin := goodIn_r _ [283, 284, 23, 22, 24, 26, 96, 97, 5, 98, 93, 94, 95, 99, 100, 101, 102, 56, 57, 58, 59, 60, 61, 609, 610, 611, 612, 613, 614, 615, 616, 617, 618, 619, 620, 621, 622, 623, 624, 625, 626, 627, 628] rfl (by decide +kernel)
set_option maxRecDepth 20000 in
theorem gL_law_X7_begin : GoodIn wsL_law (wsV RL 90 RX7 yX7_begin wsX7_begin) := goodIn_app (goodIn_of _ (by decide +kernel)) ggL_law_X7_begin
set_option maxRecDepth 20000 in
theorem ggL_law_L_gate : GoodIn wsL_law wsL_gate := goodIn_ca (goodIn_ca (goodIn_r _ [287, 69, 70, 288, 289, 290, 2, 291, 292, 293, 294, 295, 296, 79, 80, 110, 17, 86, 87, 88, 81, 82, 83, 84, 85, 629, 630, 631, 632, 633, 634, 635, 605, 606, 607, 608] (by decide +kernel) (by decide +kernel)) (goodIn_sub (fun _ h => List.mem_append_left _ (List.mem_append_right _ h)) (by decide +kernel))) (goodIn_sub (fun _ h => List.mem_append_right _ h) (by decide +kernel))
set_option maxRecDepth 20000 in
theorem gL_law_L_gate : GoodIn wsL_law (va_wsS RL 91 yL_gate wsL_gate) := goodIn_app (goodIn_of _ (by decide +kernel)) ggL_law_L_gate
set_option maxRecDepth 20000 in
theorem ggL_law_X7_gate : GoodIn wsL_law wsX7_gate := goodIn_r _ [300, 26, 301, 302, 303, 5, 304, 284, 93, 94, 95, 96, 97, 98, 57, 58, 59, 60, 61, 609, 610, 611, 612, 613, 614, 615, 616, 617, 618, 619, 620, 621, 622, 623, 624, 625, 626, 627, 628] rfl (by decide +kernel)
set_option maxRecDepth 20000 in
theorem gL_law_X7_gate : GoodIn wsL_law (wsV RL 94 RX7 yX7_gate wsX7_gate) := goodIn_app (goodIn_of _ (by decide +kernel)) ggL_law_X7_gate
set_option maxRecDepth 20000 in
theorem ggL_law_L_predict : GoodIn wsL_law wsL_predict := goodIn_ca (goodIn_ca (goodIn_r _ [307, 69, 44, 308, 309, 310, 2, 311, 49, 50, 312, 293, 294, 295, 296, 79, 80, 110, 17, 313, 192, 193, 112, 194, 195, 125, 126, 120, 196, 122, 197, 198, 199, 130, 200, 175, 177, 201, 202, 203, 165, 204, 188, 189, 205, 185, 186, 187, 206, 207, 208, 136, 209, 157, 158, 159, 210, 154, 155, 156, 211, 212, 213, 119, 214, 215, 149, 216, 150, 217, 151, 152, 218, 219, 220, 221, 222, 223, 224, 225, 226, 137, 153, 227, 228, 229, 128, 230, 231, 232, 233, 234, 235, 236, 237, 238, 239, 166, 240, 241, 242, 243, 244, 245, 246, 247, 248, 249, 250, 167, 251, 252, 253, 254, 255, 256, 257, 258, 259, 260, 261, 262, 263, 264, 265, 266, 267, 268, 269, 270, 271, 272, 273, 274, 275, 276, 277, 278, 279, 629, 630, 631, 632, 633, 634, 635, 605, 606, 607, 608, 652, 653, 657, 658, 654, 655, 656, 636, 637, 638, 639, 640, 641, 642, 643, 644, 645, 646, 647, 648, 649, 650, 651] (by decide +kernel) (by decide +kernel)) (goodIn_sub (fun _ h => List.mem_append_left _ (List.mem_append_left _ (List.mem_append_right _ h))) (by decide +kernel))) (goodIn_sub (fun _ h => List.mem_append_left _ (List.mem_append_right _ h)) (by decide +kernel))
set_option maxRecDepth 20000 in
theorem gL_law_L_predict : GoodIn wsL_law (va_wsS RL 95 yL_predict wsL_predict) := goodIn_app (goodIn_of _ (by decide +kernel)) ggL_law_L_predict
set_option maxRecDepth 20000 in
theorem ggL_law_X7_predict : GoodIn wsL_law wsX7_predict := goodIn_r _ [317, 25, 301, 302, 303, 5, 304, 284, 93, 94, 95, 57, 58, 59, 60, 61, 609, 610, 611, 612, 613, 614, 615, 616, 617, 618, 619, 620, 621, 622, 623, 624, 625, 626, 627, 628] rfl (by decide +kernel)
set_option maxRecDepth 20000 in
theorem gL_law_X7_predict : GoodIn wsL_law (wsV RL 98 RX7 yX7_predict wsX7_predict) := goodIn_app (goodIn_of _ (by decide +kernel)) ggL_law_X7_predict
set_option maxRecDepth 20000 in
theorem ggL_law_L_measure : GoodIn wsL_law wsL_measure := goodIn_ca (goodIn_ca (goodIn_ca (goodIn_r _ [320, 69, 70, 44, 321, 322, 323, 2, 324, 312, 293, 294, 295, 296, 79, 80, 110, 17, 325, 326, 327, 49, 50, 328, 329, 292, 86, 87, 88, 81, 82, 83, 84, 85, 330, 331, 332, 128, 333, 166, 239, 251, 275, 185, 186, 165, 187, 188, 189, 334, 335, 336, 337, 231, 245, 313, 192, 193, 112, 194, 195, 125, 126, 120, 196, 122, 197, 198, 199, 130, 200, 175, 177, 201, 202, 203, 204, 205, 206, 207, 208, 136, 209, 157, 158, 159, 210, 154, 155, 156, 211, 212, 213, 119, 214, 215, 149, 216, 150, 217, 151, 152, 218, 219, 220, 221, 222, 223, 224, 225, 226, 137, 153, 227, 228, 229, 230, 232, 233, 234, 235, 236, 237, 238, 240, 241, 242, 243, 244, 246, 247, 248, 249, 250, 167, 252, 253, 254, 255, 256, 257, 258, 259, 260, 261, 262, 263, 264, 265, 266, 267, 268, 269, 270, 271, 272, 273, 274, 276, 277, 278, 279, 629, 630, 631, 632, 633, 634, 635, 605, 606, 607, 608, 641, 642, 643, 644, 645, 646, 647, 648, 649, 650, 651, 657, 658, 652, 653, 654, 655, 656, 636, 637, 638, 639, 640] (by decide +kernel) (by decide +kernel)) (goodIn_sub (fun _ h => List.mem_append_left _ (List.mem_append_right _ h)) (by decide +kernel))) (goodIn_sub (fun _ h => List.mem_append_left _ (List.mem_append_left _ (List.mem_append_right _ h))) (by decide +kernel))) (goodIn_sub (fun _ h => List.mem_append_right _ h) (by decide +kernel))
set_option maxRecDepth 20000 in
theorem gL_law_L_measure : GoodIn wsL_law (va_wsS RL 99 yL_measure wsL_measure) := goodIn_app (goodIn_of _ (by decide +kernel)) ggL_law_L_measure
set_option maxRecDepth 20000 in
theorem ggL_law_X7_measure : GoodIn wsL_law wsX7_measure := goodIn_r _ [341, 25, 301, 302, 303, 5, 304, 284, 93, 94, 95, 342, 343, 344, 345, 27, 28, 26, 96, 97, 98, 346, 347, 348, 349, 35, 24, 31, 30, 32, 350, 351, 352, 353, 23, 354, 355, 356, 357, 358, 359, 360, 361, 33, 34, 362, 363, 364, 57, 58, 59, 60, 61, 609, 610, 611, 612, 613, 614, 615, 616, 617, 618, 619, 620, 621, 622, 623, 624, 625, 626, 627, 628] rfl (by decide +kernel)
set_option maxRecDepth 20000 in
theorem gL_law_X7_measure : GoodIn wsL_law (wsV RL 102 RX7 yX7_measure wsX7_measure) := goodIn_app (goodIn_of _ (by decide +kernel)) ggL_law_X7_measure
set_option maxRecDepth 20000 in
theorem ggL_law_L_late : GoodIn wsL_law wsL_late := goodIn_ca (goodIn_ca (goodIn_ca (goodIn_r _ [367, 69, 70, 44, 368, 369, 370, 2, 371, 312, 293, 294, 295, 296, 79, 80, 110, 17, 81, 82, 83, 84, 85, 325, 326, 327, 49, 50, 328, 329, 292, 86, 87, 88, 330, 331, 332, 128, 333, 166, 239, 251, 275, 185, 186, 165, 187, 188, 189, 334, 335, 336, 337, 231, 245, 313, 192, 193, 112, 194, 195, 125, 126, 120, 196, 122, 197, 198, 199, 130, 200, 175, 177, 201, 202, 203, 204, 205, 206, 207, 208, 136, 209, 157, 158, 159, 210, 154, 155, 156, 211, 212, 213, 119, 214, 215, 149, 216, 150, 217, 151, 152, 218, 219, 220, 221, 222, 223, 224, 225, 226, 137, 153, 227, 228, 229, 230, 232, 233, 234, 235, 236, 237, 238, 240, 241, 242, 243, 244, 246, 247, 248, 249, 250, 167, 252, 253, 254, 255, 256, 257, 258, 259, 260, 261, 262, 263, 264, 265, 266, 267, 268, 269, 270, 271, 272, 273, 274, 276, 277, 278, 279, 629, 630, 631, 632, 633, 634, 635, 605, 606, 607, 608, 641, 642, 643, 644, 645, 646, 647, 648, 649, 650, 651, 657, 658, 652, 653, 654, 655, 656, 636, 637, 638, 639, 640] (by decide +kernel) (by decide +kernel)) (goodIn_sub (fun _ h => List.mem_append_left _ (List.mem_append_right _ h)) (by decide +kernel))) (goodIn_sub (fun _ h => List.mem_append_right _ h) (by decide +kernel))) (goodIn_sub (fun _ h => List.mem_append_left _ (List.mem_append_left _ (List.mem_append_right _ h))) (by decide +kernel))
set_option maxRecDepth 20000 in
theorem gL_law_L_late : GoodIn wsL_law (va_wsS RL 103 yL_late wsL_late) := goodIn_app (goodIn_of _ (by decide +kernel)) ggL_law_L_late
set_option maxRecDepth 20000 in
theorem ggL_law_X7_late : GoodIn wsL_law wsX7_late := goodIn_r _ [345, 25, 27, 28, 26, 301, 302, 303, 5, 304, 284, 93, 94, 95, 96, 97, 98, 346, 347, 348, 349, 35, 24, 31, 30, 32, 350, 351, 352, 353, 23, 354, 355, 356, 357, 358, 359, 360, 361, 33, 34, 362, 363, 364, 57, 58, 59, 60, 61, 609, 610, 611, 612, 613, 614, 615, 616, 617, 618, 619, 620, 621, 622, 623, 624, 625, 626, 627, 628] rfl (by decide +kernel)
set_option maxRecDepth 20000 in
theorem gL_law_X7_late : GoodIn wsL_law (wsV RL 105 RX7 yX7_late wsX7_late) := goodIn_app (goodIn_of _ (by decide +kernel)) ggL_law_X7_late
set_option maxRecDepth 20000 in
theorem ggL_law_L_drop : GoodIn wsL_law wsL_drop := goodIn_ca (goodIn_ca (goodIn_r _ [375, 69, 44, 376, 377, 378, 2, 379, 49, 50, 380, 293, 294, 295, 296, 79, 80, 110, 17, 381, 382, 383, 328, 329, 313, 192, 193, 112, 194, 195, 125, 126, 120, 196, 122, 197, 198, 199, 130, 200, 175, 177, 201, 202, 203, 165, 204, 188, 189, 205, 185, 186, 187, 206, 207, 208, 136, 209, 157, 158, 159, 210, 154, 155, 156, 211, 212, 213, 119, 214, 215, 149, 216, 150, 217, 151, 152, 218, 219, 220, 221, 222, 223, 224, 225, 226, 137, 153, 227, 228, 229, 128, 230, 231, 232, 233, 234, 235, 236, 237, 238, 239, 166, 240, 241, 242, 243, 244, 245, 246, 247, 248, 249, 250, 167, 251, 252, 253, 254, 255, 256, 257, 258, 259, 260, 261, 262, 263, 264, 265, 266, 267, 268, 269, 270, 271, 272, 273, 274, 275, 276, 277, 278, 279, 641, 642, 643, 644, 645, 646, 647, 648, 649, 650, 651, 605, 606, 607, 608, 629, 630, 631, 632, 633, 634, 635, 652, 653, 657, 658, 654, 655, 656, 636, 637, 638, 639, 640] (by decide +kernel) (by decide +kernel)) (goodIn_sub (fun _ h => List.mem_append_left _ (List.mem_append_left _ (List.mem_append_right _ h))) (by decide +kernel))) (goodIn_sub (fun _ h => List.mem_append_left _ (List.mem_append_right _ h)) (by decide +kernel))
set_option maxRecDepth 20000 in
theorem gL_law_L_drop : GoodIn wsL_law (va_wsS RL 106 yL_drop wsL_drop) := goodIn_app (goodIn_of _ (by decide +kernel)) ggL_law_L_drop
set_option maxRecDepth 20000 in
theorem ggL_law_X7_drop : GoodIn wsL_law wsX7_drop := goodIn_r _ [387, 30, 388, 389, 390, 5, 391, 27, 301, 302, 303, 304, 284, 93, 94, 95, 346, 347, 348, 349, 35, 24, 25, 31, 28, 32, 350, 351, 352, 353, 23, 354, 355, 356, 357, 358, 359, 360, 361, 33, 34, 362, 363, 364, 57, 58, 59, 60, 61, 609, 610, 611, 612, 613, 614, 615, 616, 617, 618, 619, 620, 621, 622, 623, 624, 625, 626, 627, 628] rfl (by decide +kernel)
set_option maxRecDepth 20000 in
theorem gL_law_X7_drop : GoodIn wsL_law (wsV RL 109 RX7 yX7_drop wsX7_drop) := goodIn_app (goodIn_of _ (by decide +kernel)) ggL_law_X7_drop
set_option maxRecDepth 20000 in
theorem ggL_law_L_of : GoodIn wsL_law wsL_of := goodIn_ca (goodIn_ca (goodIn_r _ [394, 69, 70, 395, 396, 397, 2, 398, 312, 328, 399, 293, 294, 295, 296, 79, 80, 110, 17, 81, 82, 83, 84, 85, 400, 401, 402, 112, 403, 196, 122, 404, 405, 406, 407, 408, 409, 126, 195, 410, 411, 412, 136, 413, 157, 159, 158, 260, 261, 262, 263, 264, 265, 414, 415, 416, 130, 417, 175, 418, 419, 177, 420, 421, 422, 629, 630, 631, 632, 633, 634, 635, 652, 653, 605, 606, 607, 608, 641, 642, 643, 644, 645, 646, 647, 648, 649, 650, 651, 654, 655, 656, 657, 658] (by decide +kernel) (by decide +kernel)) (goodIn_sub (fun _ h => List.mem_append_left _ (List.mem_append_right _ h)) (by decide +kernel))) (goodIn_sub (fun _ h => List.mem_append_right _ h) (by decide +kernel))
set_option maxRecDepth 20000 in
theorem gL_law_L_of : GoodIn wsL_law (va_wsS RL 110 yL_of wsL_of) := goodIn_app (goodIn_of _ (by decide +kernel)) ggL_law_L_of
set_option maxRecDepth 20000 in
theorem ggL_law_X7_of : GoodIn wsL_law wsX7_of := goodIn_r _ [426, 27, 30, 34, 35, 25, 301, 302, 303, 5, 304, 284, 93, 94, 95, 57, 58, 59, 60, 61, 346, 347, 348, 349, 24, 31, 28, 32, 350, 351, 352, 353, 23, 354, 355, 356, 357, 358, 359, 360, 361, 33, 362, 363, 364, 609, 610, 611, 612, 613, 614, 615, 616, 617, 618, 619, 620, 621, 622, 623, 624, 625, 626, 627, 628] rfl (by decide +kernel)
set_option maxRecDepth 20000 in
theorem gL_law_X7_of : GoodIn wsL_law (wsV RL 112 RX7 yX7_of wsX7_of) := goodIn_app (goodIn_of _ (by decide +kernel)) ggL_law_X7_of
set_option maxRecDepth 20000 in
theorem ggL_law_L_ofMeasurement : GoodIn wsL_law wsL_ofMeasurement := goodIn_ca (goodIn_ca (goodIn_r _ [429, 69, 70, 430, 431, 432, 2, 433, 434, 380, 435, 436, 437, 438, 293, 294, 295, 296, 79, 80, 110, 17, 381, 382, 383, 328, 329, 81, 82, 83, 84, 85, 641, 642, 643, 644, 645, 646, 647, 648, 649, 650, 651, 605, 606, 607, 608, 629, 630, 631, 632, 633, 634, 635] (by decide +kernel) (by decide +kernel)) (goodIn_sub (fun _ h => List.mem_append_left _ (List.mem_append_right _ h)) (by decide +kernel))) (goodIn_sub (fun _ h => List.mem_append_right _ h) (by decide +kernel))
set_option maxRecDepth 20000 in
theorem gL_law_L_ofMeasurement : GoodIn wsL_law (va_wsS RL 113 yL_ofMeasurement wsL_ofMeasurement) := goodIn_app (goodIn_of _ (by decide +kernel)) ggL_law_L_ofMeasurement
set_option maxRecDepth 20000 in
theorem ggL_law_X7_ofMeasurement : GoodIn wsL_law wsX7_ofMeasurement := goodIn_r _ [442, 30, 28, 34, 33, 388, 389, 390, 5, 391, 27, 301, 302, 303, 304, 284, 93, 94, 95, 57, 58, 59, 60, 61, 346, 347, 348, 349, 35, 24, 25, 31, 32, 350, 351, 352, 353, 23, 354, 355, 356, 357, 358, 359, 360, 361, 362, 363, 364, 609, 610, 611, 612, 613, 614, 615, 616, 617, 618, 619, 620, 621, 622, 623, 624, 625, 626, 627, 628] rfl (by decide +kernel)
set_option maxRecDepth 20000 in
theorem gL_law_X7_ofMeasurement : GoodIn wsL_law (wsV RL 115 RX7 yX7_ofMeasurement wsX7_ofMeasurement) := goodIn_app (goodIn_of _ (by decide +kernel)) ggL_law_X7_ofMeasurement
set_option maxRecDepth 20000 in
theorem ggL_law_L_gain : GoodIn wsL_law wsL_gain := goodIn_ca (goodIn_ca (goodIn_ca (goodIn_r _ [445, 69, 70, 44, 446, 447, 448, 2, 449, 49, 50, 450, 127, 128, 399, 436, 451, 293, 294, 295, 296, 79, 80, 110, 17, 86, 87, 88, 81, 82, 83, 84, 85, 160, 161, 162, 11, 12, 163, 164, 165, 166, 167, 168, 169, 170, 330, 331, 332, 333, 239, 251, 275, 185, 186, 187, 188, 189, 406, 407, 408, 112, 409, 126, 195, 452, 248, 249, 250, 240, 242, 238, 252, 202, 203, 204, 205, 253, 254, 255, 136, 256, 157, 257, 158, 258, 159, 259, 453, 454, 455, 456, 457, 266, 267, 268, 269, 270, 641, 642, 643, 644, 645, 646, 647, 648, 649, 650, 651, 652, 653, 605, 606, 607, 608, 657, 658, 629, 630, 631, 632, 633, 634, 635, 654, 655, 656] (by decide +kernel) (by decide +kernel)) (goodIn_sub (fun _ h => List.mem_append_left _ (List.mem_append_left _ (List.mem_append_right _ h))) (by decide +kernel))) (goodIn_sub (fun _ h => List.mem_append_left _ (List.mem_append_right _ h)) (by decide +kernel))) (goodIn_sub (fun _ h => List.mem_append_right _ h) (by decide +kernel))
set_option maxRecDepth 20000 in
theorem gL_law_L_gain : GoodIn wsL_law (va_wsS RL 116 yL_gain wsL_gain) := goodIn_app (goodIn_of _ (by decide +kernel)) ggL_law_L_gain
set_option maxRecDepth 20000 in
theorem ggL_law_X7_gain : GoodIn wsL_law wsX7_gain := goodIn_r _ [461, 35, 96, 97, 5, 98, 93, 94, 95, 301, 302, 303, 304, 284, 346, 347, 348, 349, 24, 25, 31, 27, 28, 30, 32, 350, 351, 352, 353, 23, 354, 355, 356, 357, 358, 359, 360, 361, 33, 34, 362, 363, 364, 57, 58, 59, 60, 61, 609, 610, 611, 612, 613, 614, 615, 616, 617, 618, 619, 620, 621, 622, 623, 624, 625, 626, 627, 628] rfl (by decide +kernel)
set_option maxRecDepth 20000 in
theorem gL_law_X7_gain : GoodIn wsL_law (wsV RL 118 RX7 yX7_gain wsX7_gain) := goodIn_app (goodIn_of _ (by decide +kernel)) ggL_law_X7_gain
set_option maxRecDepth 20000 in
theorem ggL_law_L_information : GoodIn wsL_law wsL_information := goodIn_ca (goodIn_ca (goodIn_ca (goodIn_r _ [464, 69, 70, 44, 465, 466, 467, 2, 468, 49, 50, 469, 129, 130, 293, 294, 295, 296, 79, 80, 110, 17, 81, 82, 83, 84, 85, 171, 172, 173, 11, 12, 174, 164, 165, 175, 176, 135, 136, 177, 168, 169, 170, 138, 139, 140, 406, 407, 408, 112, 409, 126, 195, 470, 471, 472, 473, 474, 475, 476, 477, 159, 158, 157, 478, 411, 412, 413, 260, 261, 262, 263, 264, 265, 269, 270, 210, 154, 155, 156, 201, 202, 203, 204, 188, 189, 205, 185, 186, 187, 479, 254, 255, 256, 257, 258, 259, 414, 415, 416, 417, 418, 419, 420, 421, 422, 652, 653, 605, 606, 607, 608, 657, 658, 654, 655, 656, 629, 630, 631, 632, 633, 634, 635] (by decide +kernel) (by decide +kernel)) (goodIn_sub (fun _ h => List.mem_append_left _ (List.mem_append_left _ (List.mem_append_right _ h))) (by decide +kernel))) (goodIn_sub (fun _ h => List.mem_append_left _ (List.mem_append_right _ h)) (by decide +kernel))) (goodIn_sub (fun _ h => List.mem_append_right _ h) (by decide +kernel))
set_option maxRecDepth 20000 in
theorem gL_law_L_information : GoodIn wsL_law (va_wsS RL 119 yL_information wsL_information) := goodIn_app (goodIn_of _ (by decide +kernel)) ggL_law_L_information
set_option maxRecDepth 20000 in
theorem ggL_law_X7_information : GoodIn wsL_law wsX7_information := goodIn_r _ [483, 35, 301, 302, 303, 5, 304, 284, 93, 94, 95, 346, 347, 348, 349, 24, 25, 31, 27, 28, 30, 32, 350, 351, 352, 353, 23, 354, 355, 356, 357, 358, 359, 360, 361, 33, 34, 362, 363, 364, 484, 485, 486, 487, 488, 489, 57, 58, 59, 60, 61, 609, 610, 611, 612, 613, 614, 615, 616, 617, 618, 619, 620, 621, 622, 623, 624, 625, 626, 627, 628] rfl (by decide +kernel)
set_option maxRecDepth 20000 in
theorem gL_law_X7_information : GoodIn wsL_law (wsV RL 121 RX7 yX7_information wsX7_information) := goodIn_app (goodIn_of _ (by decide +kernel)) ggL_law_X7_information
set_option maxRecDepth 20000 in
theorem ggL_law_L_anew : GoodIn wsL_law wsL_anew := goodIn_ca (goodIn_ca (goodIn_ca (goodIn_r _ [492, 69, 70, 44, 493, 494, 495, 2, 496, 49, 50, 469, 129, 130, 293, 294, 295, 296, 79, 80, 110, 17, 81, 82, 83, 84, 85, 171, 172, 173, 11, 12, 174, 164, 165, 175, 176, 135, 136, 177, 168, 169, 170, 138, 139, 140, 497, 498, 499, 112, 500, 124, 125, 195, 501, 471, 472, 473, 474, 475, 476, 477, 159, 158, 157, 478, 411, 412, 413, 260, 261, 262, 263, 264, 265, 269, 270, 210, 154, 155, 156, 201, 202, 203, 204, 188, 189, 205, 185, 186, 187, 479, 254, 255, 256, 257, 258, 259, 502, 503, 504, 505, 120, 211, 212, 213, 119, 214, 215, 149, 216, 150, 217, 151, 152, 218, 219, 220, 221, 222, 223, 224, 225, 226, 137, 153, 506, 507, 508, 509, 196, 122, 404, 227, 228, 229, 128, 230, 231, 232, 510, 511, 512, 513, 251, 239, 241, 237, 166, 240, 242, 276, 277, 278, 279, 275, 414, 415, 416, 417, 418, 419, 420, 421, 422, 652, 653, 605, 606, 607, 608, 657, 658, 654, 655, 656, 629, 630, 631, 632, 633, 634, 635, 636, 637, 638, 639, 640, 641, 642, 643, 644, 645, 646, 647, 648, 649, 650, 651] (by decide +kernel) (by decide +kernel)) (goodIn_sub (fun _ h => List.mem_append_left _ (List.mem_append_left _ (List.mem_append_right _ h))) (by decide +kernel))) (goodIn_sub (fun _ h => List.mem_append_left _ (List.mem_append_right _ h)) (by decide +kernel))) (goodIn_sub (fun _ h => List.mem_append_right _ h) (by decide +kernel))
set_option maxRecDepth 20000 in
theorem gL_law_L_anew : GoodIn wsL_law (va_wsS RL 122 yL_anew wsL_anew) := goodIn_app (goodIn_of _ (by decide +kernel)) ggL_law_L_anew
set_option maxRecDepth 20000 in
theorem ggL_law_X7_anew : GoodIn wsL_law wsX7_anew := goodIn_r _ [517, 36, 301, 302, 303, 5, 304, 284, 93, 94, 95, 518, 519, 520, 521, 24, 25, 35, 27, 28, 30, 34, 357, 346, 347, 348, 349, 31, 32, 350, 351, 352, 353, 23, 354, 355, 356, 358, 359, 360, 361, 33, 362, 363, 364, 484, 485, 486, 487, 488, 489, 57, 58, 59, 60, 61, 609, 610, 611, 612, 613, 614, 615, 616, 617, 618, 619, 620, 621, 622, 623, 624, 625, 626, 627, 628] rfl (by decide +kernel)
set_option maxRecDepth 20000 in
theorem gL_law_X7_anew : GoodIn wsL_law (wsV RL 124 RX7 yX7_anew wsX7_anew) := goodIn_app (goodIn_of _ (by decide +kernel)) ggL_law_X7_anew
set_option maxRecDepth 20000 in
theorem ggL_law_L_smoothed : GoodIn wsL_law wsL_smoothed := goodIn_ca (goodIn_ca (goodIn_ca (goodIn_r _ [524, 69, 70, 44, 525, 526, 527, 2, 528, 49, 50, 312, 529, 164, 165, 293, 294, 295, 296, 79, 80, 110, 17, 81, 82, 83, 84, 85, 168, 169, 170, 11, 12, 530, 531, 532, 112, 533, 534, 135, 136, 182, 195, 125, 183, 120, 126, 138, 139, 140, 535, 407, 408, 409, 536, 202, 203, 204, 188, 189, 205, 185, 186, 187, 537, 475, 476, 477, 159, 158, 157, 478, 411, 412, 413, 260, 261, 262, 263, 264, 265, 269, 270, 210, 154, 155, 156, 538, 539, 540, 541, 542, 254, 255, 256, 257, 258, 259, 543, 544, 545, 119, 546, 149, 216, 151, 217, 150, 152, 219, 547, 548, 549, 550, 453, 454, 455, 456, 629, 630, 631, 632, 633, 634, 635, 657, 658, 605, 606, 607, 608, 654, 655, 656, 652, 653, 636, 637, 638, 639, 640] (by decide +kernel) (by decide +kernel)) (goodIn_sub (fun _ h => List.mem_append_left _ (List.mem_append_left _ (List.mem_append_right _ h))) (by decide +kernel))) (goodIn_sub (fun _ h => List.mem_append_left _ (List.mem_append_right _ h)) (by decide +kernel))) (goodIn_sub (fun _ h => List.mem_append_right _ h) (by decide +kernel))
set_option maxRecDepth 20000 in
theorem gL_law_L_smoothed : GoodIn wsL_law (va_wsS RL 125 yL_smoothed wsL_smoothed) := goodIn_app (goodIn_of _ (by decide +kernel)) ggL_law_L_smoothed
set_option maxRecDepth 20000 in
theorem ggL_law_X7_smoothed : GoodIn wsL_law wsX7_smoothed := goodIn_r _ [554, 25, 35, 31, 23, 32, 301, 302, 303, 5, 304, 284, 93, 94, 95, 346, 347, 348, 349, 24, 27, 28, 30, 350, 351, 352, 353, 354, 355, 356, 357, 358, 359, 360, 361, 33, 34, 362, 363, 364, 484, 485, 486, 487, 488, 489, 57, 58, 59, 60, 61, 609, 610, 611, 612, 613, 614, 615, 616, 617, 618, 619, 620, 621, 622, 623, 624, 625, 626, 627, 628] rfl (by decide +kernel)
set_option maxRecDepth 20000 in
theorem gL_law_X7_smoothed : GoodIn wsL_law (wsV RL 127 RX7 yX7_smoothed wsX7_smoothed) := goodIn_app (goodIn_of _ (by decide +kernel)) ggL_law_X7_smoothed
set_option maxRecDepth 20000 in
theorem ggL_law_L_ahead : GoodIn wsL_law wsL_ahead := goodIn_ca (goodIn_ca (goodIn_r _ [557, 69, 70, 558, 559, 560, 2, 561, 562, 469, 129, 130, 563, 118, 119, 564, 293, 294, 295, 296, 79, 80, 110, 17, 81, 82, 83, 84, 85, 171, 172, 173, 11, 12, 174, 164, 165, 175, 176, 135, 136, 177, 168, 169, 170, 138, 139, 140, 406, 407, 408, 112, 409, 126, 195, 565, 198, 199, 200, 201, 202, 203, 204, 188, 189, 205, 185, 186, 187, 206, 207, 208, 209, 157, 158, 159, 210, 154, 155, 156, 131, 132, 133, 134, 137, 566, 567, 568, 569, 149, 150, 151, 152, 145, 146, 147, 148, 570, 571, 212, 213, 214, 215, 216, 217, 218, 219, 220, 221, 222, 223, 224, 225, 226, 153, 572, 573, 574, 575, 414, 415, 416, 417, 418, 419, 420, 421, 422, 652, 653, 636, 637, 638, 639, 640, 629, 630, 631, 632, 633, 634, 635, 605, 606, 607, 608, 657, 658, 654, 655, 656] (by decide +kernel) (by decide +kernel)) (goodIn_sub (fun _ h => List.mem_append_left _ (List.mem_append_right _ h)) (by decide +kernel))) (goodIn_sub (fun _ h => List.mem_append_right _ h) (by decide +kernel))
set_option maxRecDepth 20000 in
theorem gL_law_L_ahead : GoodIn wsL_law (va_wsS RL 128 yL_ahead wsL_ahead) := goodIn_app (goodIn_of _ (by decide +kernel)) ggL_law_L_ahead
set_option maxRecDepth 20000 in
theorem ggL_law_X7_ahead : GoodIn wsL_law wsX7_ahead := goodIn_r _ [579, 580, 93, 94, 5, 95, 301, 302, 303, 304, 284, 57, 58, 59, 60, 61, 581, 582, 583, 584, 23, 37, 585, 38, 35, 346, 347, 348, 349, 24, 25, 31, 27, 28, 30, 32, 350, 351, 352, 353, 354, 355, 356, 357, 358, 359, 360, 361, 33, 34, 362, 363, 364, 586, 587, 588, 589, 590, 591, 592, 593, 39, 609, 610, 611, 612, 613, 614, 615, 616, 617, 618, 619, 620, 621, 622, 623, 624, 625, 626, 627, 628] rfl (by decide +kernel)
set_option maxRecDepth 20000 in
theorem gL_law_X7_ahead : GoodIn wsL_law (wsV RL 130 RX7 yX7_ahead wsX7_ahead) := goodIn_app (goodIn_of _ (by decide +kernel)) ggL_law_X7_ahead
set_option maxRecDepth 20000 in
theorem ggL_law_L_aheadAnew : GoodIn wsL_law wsL_aheadAnew := goodIn_ca (goodIn_ca (goodIn_r _ [596, 69, 70, 597, 598, 599, 2, 600, 469, 129, 130, 564, 293, 294, 295, 296, 79, 80, 110, 17, 81, 82, 83, 84, 85, 171, 172, 173, 11, 12, 174, 164, 165, 175, 176, 135, 136, 177, 168, 169, 170, 138, 139, 140, 406, 407, 408, 112, 409, 126, 195, 565, 198, 199, 200, 201, 202, 203, 204, 188, 189, 205, 185, 186, 187, 206, 207, 208, 209, 157, 158, 159, 210, 154, 155, 156, 571, 212, 213, 119, 214, 215, 149, 216, 150, 217, 151, 152, 218, 219, 220, 221, 222, 223, 224, 225, 226, 137, 153, 414, 415, 416, 417, 418, 419, 420, 421, 422, 652, 653, 629, 630, 631, 632, 633, 634, 635, 605, 606, 607, 608, 657, 658, 654, 655, 656, 636, 637, 638, 639, 640] (by decide +kernel) (by decide +kernel)) (goodIn_sub (fun _ h => List.mem_append_left _ (List.mem_append_right _ h)) (by decide +kernel))) (goodIn_sub (fun _ h => List.mem_append_right _ h) (by decide +kernel))
set_option maxRecDepth 20000 in
theorem gL_law_L_aheadAnew : GoodIn wsL_law (va_wsS RL 131 yL_aheadAnew wsL_aheadAnew) := goodIn_app (goodIn_of _ (by decide +kernel)) ggL_law_L_aheadAnew
set_option maxRecDepth 20000 in
theorem ggL_law_X7_aheadAnew : GoodIn wsL_law wsX7_aheadAnew := goodIn_r _ [604, 93, 94, 5, 95, 301, 302, 303, 304, 284, 57, 58, 59, 60, 61, 581, 582, 583, 584, 23, 37, 585, 38, 35, 346, 347, 348, 349, 24, 25, 31, 27, 28, 30, 32, 350, 351, 352, 353, 354, 355, 356, 357, 358, 359, 360, 361, 33, 34, 362, 363, 364, 586, 587, 588, 589, 590, 591, 592, 593, 39, 609, 610, 611, 612, 613, 614, 615, 616, 617, 618, 619, 620, 621, 622, 623, 624, 625, 626, 627, 628] rfl (by decide +kernel)
set_option maxRecDepth 20000 in
theorem gL_law_X7_aheadAnew : GoodIn wsL_law (wsV RL 133 RX7 yX7_aheadAnew wsX7_aheadAnew) := goodIn_app (goodIn_of _ (by decide +kernel)) ggL_law_X7_aheadAnew
