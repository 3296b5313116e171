/-! the private methods of the class that throw; the current state -/
set_option maxHeartbeats 8000000 in
set_option maxRecDepth 100000 in
/--  -/
theorem c_X6_checkRange (l : Launch) (hl9 : l.stackTraces = false) (D : va_G) (tys : List (ClassId × FieldType)) (v hi : Int) (q0 : r32 v) (q1 : r32 hi) : CtG (SX := Unit) l D tys yX6_checkRange wsX6_checkRange 6 82 1 6 [.int (jI v), .int (jI hi)] [] (fun A => EN (S := Unit) D A (fun _ => inB 0 hi v = true) (fun _ => []) (fun _ => [])) (fun E (_ : Unit) => E = xIAE ∧ inB 0 hi v = false) (fun _ => []) := by
  refine CtG.of (cc := cX6_checkRange) (maxL := 2) (by decide +kernel) rfl (Nat.le_of_ble_eq_true rfl) ?_
  intro p e s m below meth c A ls hcx htab hK hX hZ hP hD hA hl
  obtain ⟨hx, hb, hr, hml, hown, hts, hlocks⟩ := hcx
  have hO := hX.1
  have hS : va_S A s.heap s.heap [] := va_S.rf
  have hown : s.vm.findClass RX6 = some m.cls := hown
  have hl : lv_has ls 2 [(0, .int (jI v)), (1, .int (jI hi))] := hl
  refine lv_iload_n hx hb dX6_checkRange_0 rfl (lv_at hl 0 rfl) ?_
  refine n_if_lt (tgt := 9) hx hb q0 dX6_checkRange_1 (by decide) (fun h1 => ?_) (fun h1 => ?_)
  · exact x_thr (cls := xIAE) (text := "an argument is out of its range") hx hb hl9 hown (by decide +kernel) (hts (.classLink RX6 203 xIAE) (by decide +kernel)) (hts (.initialized xIAE) (by decide +kernel)) (by decide) hX (fun w h => hts w (List.mem_cons_of_mem _ (List.mem_append_right _ h))) xb_IAE xg_IAE hZ hS (hl.1.trans hml.symm) dX6_checkRange_9 dX6_checkRange_12 dX6_checkRange_13 dX6_checkRange_15 dX6_checkRange_18 htab hlocks (Nat.le_of_ble_eq_true rfl) (Nat.le_of_ble_eq_true rfl) (Nat.le_of_ble_eq_true rfl) (Nat.le_of_ble_eq_true rfl) () hP hD ⟨rfl, inB_f (Or.inl h1)⟩ (Nat.le_of_ble_eq_true rfl) (Nat.le_of_ble_eq_true rfl)
  · refine lv_iload_n hx hb dX6_checkRange_4 rfl (lv_at hl 0 rfl) ?_
    refine lv_iload_n hx hb dX6_checkRange_5 rfl (lv_at hl 1 rfl) ?_
    refine n_icmp_le (tgt := 19) hx hb q0 q1 dX6_checkRange_6 (by decide) (fun h6 => ?_) (fun h6 => ?_)
    · exact x_vret () hx hb hr hlocks dX6_checkRange_19 (Nat.le_of_ble_eq_true rfl) (Nat.le_of_ble_eq_true rfl) hP hD hS (inB_t (by omega) (by omega))
    · exact x_thr (cls := xIAE) (text := "an argument is out of its range") hx hb hl9 hown (by decide +kernel) (hts (.classLink RX6 203 xIAE) (by decide +kernel)) (hts (.initialized xIAE) (by decide +kernel)) (by decide) hX (fun w h => hts w (List.mem_cons_of_mem _ (List.mem_append_right _ h))) xb_IAE xg_IAE hZ hS (hl.1.trans hml.symm) dX6_checkRange_9 dX6_checkRange_12 dX6_checkRange_13 dX6_checkRange_15 dX6_checkRange_18 htab hlocks (Nat.le_of_ble_eq_true rfl) (Nat.le_of_ble_eq_true rfl) (Nat.le_of_ble_eq_true rfl) (Nat.le_of_ble_eq_true rfl) () hP hD ⟨rfl, inB_f (Or.inr (by omega))⟩ (Nat.le_of_ble_eq_true rfl) (Nat.le_of_ble_eq_true rfl)

set_option maxHeartbeats 8000000 in
set_option maxRecDepth 100000 in
/--  -/
theorem c_X6_checkField (l : Launch) (hl9 : l.stackTraces = false) (D : va_G) (tys : List (ClassId × FieldType)) (v : Int) (q0 : r32 v) : CtG (SX := Unit) l D tys yX6_checkField wsX6_checkField 7 103 1 6 [.int (jI v)] [] (fun A => EN (S := Unit) D A (fun _ => inB 0 10006 v = true) (fun _ => []) (fun _ => [])) (fun E (_ : Unit) => E = xIAE ∧ inB 0 10006 v = false) (fun _ => []) := by
  refine CtG.of (cc := cX6_checkField) (maxL := 1) (by decide +kernel) rfl (Nat.le_of_ble_eq_true rfl) ?_
  intro p e s m below meth c A ls hcx htab hK hX hZ hP hD hA hl
  obtain ⟨hx, hb, hr, hml, hown, hts, hlocks⟩ := hcx
  have hO := hX.1
  have hS : va_S A s.heap s.heap [] := va_S.rf
  have hown : s.vm.findClass RX6 = some m.cls := hown
  have hl : lv_has ls 1 [(0, .int (jI v))] := hl
  refine lv_iload_n hx hb dX6_checkField_0 rfl (lv_at hl 0 rfl) ?_
  refine n_sipush hx hb dX6_checkField_1 (by decide) ?_
  have ct4 := c_X6_checkRange l hl9 D tys v 10006 (by first | assumption | exact r32_z _ | (unfold r32; omega)) (by first | assumption | exact r32_z _ | (unfold r32; omega))
  refine x_goV (vx_runS (As := [.int (jI v), .int (jI 10006)]) (rest := []) ⟨hx, hb, hml, hown, hts⟩ (ct4 _) (va_cwS 2 hts gX6_checkField_X6_checkRange rfl rfl rfl (by decide +kernel) ⟨(Nat.le_of_ble_eq_true rfl), (Nat.le_of_ble_eq_true rfl)⟩) (x_pre hK hX hZ hP hD hS hA (is := []) rfl rfl) rfl rfl hl.1 rfl (lv_room (Nat.le_of_ble_eq_true rfl)) dX6_checkField_4 ⟨(Nat.le_of_ble_eq_true rfl), (Nat.le_of_ble_eq_true rfl)⟩) (fun _ => rfl) (fun _ => rfl) hP hD hS hA [] rfl rfl (fun E ce q9 u H locs hpx hP hD hS h7 h8 h9 => x_out htab hlocks h7 h8 h9 () hP hD hS hpx (Nat.le_of_ble_eq_true rfl) (Nat.le_of_ble_eq_true rfl)) (fun u H locs hpost hP hD hS => ?_)
  have hP : va_P D vwCl [] H := hP
  have hD : va_D A [] := hD
  refine W.widen (k := 1) (n := 6) (Nat.le_of_ble_eq_true rfl) (Nat.le_of_ble_eq_true rfl) ?_
  exact x_vret () hx hb hr hlocks dX6_checkField_7 (Nat.le_of_ble_eq_true rfl) (Nat.le_of_ble_eq_true rfl) hP hD hS hpost

set_option maxHeartbeats 8000000 in
set_option maxRecDepth 100000 in
/--  -/
theorem c_X6_modelNumbered1 (l : Launch) (hl9 : l.stackTraces = false) (D : va_G) (tys : List (ClassId × FieldType)) {cG : ClassId} (htG : tys[6]? = some (cG, .array .int)) (x0 q0 q1 : Nat) (ms es : Nat) (f : Nat → Option Nat) (hms : ms ≤ 6) (v : Int) (q3 : r32 v) (hbd : inB 0 (((ms : Nat) : Int) - 1) v = false) : CtG (SX := Unit) l D tys yX6_modelNumbered wsX6_modelNumbered 6 82 1 6 [.ref x0, .int (jI v)] [(x0, .inr (6, [.ref q0, .int (jI ((ms : Nat) : Int)), .ref q1, .int (jI ((es : Nat) : Int))])), (q0, .inl (cG, 6, .inr (.inr (.inr (.inr f)))))] (fun A => EQ (S := Unit) D A (fun r _ => False) (fun _ => [(x0, .inr (6, [.ref q0, .int (jI ((ms : Nat) : Int)), .ref q1, .int (jI ((es : Nat) : Int))])), (q0, .inl (cG, 6, .inr (.inr (.inr (.inr f)))))])) (fun E (_ : Unit) => E = xIOB) (fun _ => [(x0, .inr (6, [.ref q0, .int (jI ((ms : Nat) : Int)), .ref q1, .int (jI ((es : Nat) : Int))])), (q0, .inl (cG, 6, .inr (.inr (.inr (.inr f)))))]) := by
  refine CtG.of (cc := cX6_modelNumbered) (maxL := 2) (by decide +kernel) rfl (Nat.le_of_ble_eq_true rfl) ?_
  intro p e s m below meth c A ls hcx htab hK hX hZ hP hD hA hl
  obtain ⟨hx, hb, hr, hml, hown, hts, hlocks⟩ := hcx
  have hO := hX.1
  have hS : va_S A s.heap s.heap [] := va_S.rf
  have hown : s.vm.findClass RX6 = some m.cls := hown
  have hl : lv_has ls 2 [(0, .ref x0), (1, .int (jI v))] := hl
  have f20 := hts (.fieldLink RX6 20 "FieldFilter" "modelCount" "I") (by decide +kernel)
  have iX6 : ∀ w ∈ u_ws RX6 TX6 4, w ∈ wsX6_modelNumbered := by decide +kernel
  refine lv_iload_n hx hb dX6_modelNumbered_0 rfl (lv_at hl 1 rfl) ?_
  refine n_if_lt (tgt := 12) hx hb q3 dX6_modelNumbered_1 (by decide) (fun h1 => ?_) (fun h1 => ?_)
  · exact x_thr (cls := xIOB) (text := "no such model") hx hb hl9 hown (by decide +kernel) (hts (.classLink RX6 190 xIOB) (by decide +kernel)) (hts (.initialized xIOB) (by decide +kernel)) (by decide) hX (fun w h => hts w (List.mem_cons_of_mem _ (List.mem_append_right _ h))) xb_IOB xg_IOB hZ hS (hl.1.trans hml.symm) dX6_modelNumbered_12 dX6_modelNumbered_15 dX6_modelNumbered_16 dX6_modelNumbered_18 dX6_modelNumbered_21 htab hlocks (Nat.le_of_ble_eq_true rfl) (Nat.le_of_ble_eq_true rfl) (Nat.le_of_ble_eq_true rfl) (Nat.le_of_ble_eq_true rfl) () hP hD rfl (Nat.le_of_ble_eq_true rfl) (Nat.le_of_ble_eq_true rfl)
  · refine lv_iload_n hx hb dX6_modelNumbered_4 rfl (lv_at hl 1 rfl) ?_
    refine lv_aload_n hx hb dX6_modelNumbered_5 rfl (lv_at hl 0 rfl) ?_
    refine va_get (D := D) (ci := 6) (v := .int (jI ((ms : Nat) : Int))) (C := RX6) (T := TX6) (N := 4) hx hb hts iX6 hown hK.1 hP 0 rfl rfl 1 (by decide) f20 (fun _ h9 => h9) rfl dX6_modelNumbered_6 ?_
    refine n_icmp_lt (tgt := 22) hx hb q3 (by unfold r32; omega) dX6_modelNumbered_9 (by decide) (fun h9 => False.elim (by rcases inB_niff.mp hbd with h | h <;> omega)) (fun h9 => ?_)
    exact x_thr (cls := xIOB) (text := "no such model") hx hb hl9 hown (by decide +kernel) (hts (.classLink RX6 190 xIOB) (by decide +kernel)) (hts (.initialized xIOB) (by decide +kernel)) (by decide) hX (fun w h => hts w (List.mem_cons_of_mem _ (List.mem_append_right _ h))) xb_IOB xg_IOB hZ hS (hl.1.trans hml.symm) dX6_modelNumbered_12 dX6_modelNumbered_15 dX6_modelNumbered_16 dX6_modelNumbered_18 dX6_modelNumbered_21 htab hlocks (Nat.le_of_ble_eq_true rfl) (Nat.le_of_ble_eq_true rfl) (Nat.le_of_ble_eq_true rfl) (Nat.le_of_ble_eq_true rfl) () hP hD rfl (Nat.le_of_ble_eq_true rfl) (Nat.le_of_ble_eq_true rfl)

set_option maxHeartbeats 8000000 in
set_option maxRecDepth 100000 in
/--  -/
theorem c_X6_modelNumbered0 (l : Launch) (hl9 : l.stackTraces = false) (D : va_G) (tys : List (ClassId × FieldType)) {cG : ClassId} (htG : tys[6]? = some (cG, .array .int)) (x0 q0 q1 : Nat) (ms es : Nat) (f : Nat → Option Nat) (hms : ms ≤ 6) (k qk : Nat) (hk : k < ms) (hf : f k = some qk) : CtG (SX := Unit) l D tys yX6_modelNumbered wsX6_modelNumbered 6 82 1 6 [.ref x0, .int (jI ((k : Nat) : Int))] [(x0, .inr (6, [.ref q0, .int (jI ((ms : Nat) : Int)), .ref q1, .int (jI ((es : Nat) : Int))])), (q0, .inl (cG, 6, .inr (.inr (.inr (.inr f)))))] (fun A => EQ (S := Unit) D A (fun r _ => r = some qk) (fun _ => [(x0, .inr (6, [.ref q0, .int (jI ((ms : Nat) : Int)), .ref q1, .int (jI ((es : Nat) : Int))])), (q0, .inl (cG, 6, .inr (.inr (.inr (.inr f)))))])) (fun E (_ : Unit) => False) (fun _ => [(x0, .inr (6, [.ref q0, .int (jI ((ms : Nat) : Int)), .ref q1, .int (jI ((es : Nat) : Int))])), (q0, .inl (cG, 6, .inr (.inr (.inr (.inr f)))))]) := by
  refine CtG.of (cc := cX6_modelNumbered) (maxL := 2) (by decide +kernel) rfl (Nat.le_of_ble_eq_true rfl) ?_
  intro p e s m below meth c A ls hcx htab hK hX hZ hP hD hA hl
  obtain ⟨hx, hb, hr, hml, hown, hts, hlocks⟩ := hcx
  have hO := hX.1
  have hS : va_S A s.heap s.heap [] := va_S.rf
  have hown : s.vm.findClass RX6 = some m.cls := hown
  have hl : lv_has ls 2 [(0, .ref x0), (1, .int (jI ((k : Nat) : Int)))] := hl
  have f20 := hts (.fieldLink RX6 20 "FieldFilter" "modelCount" "I") (by decide +kernel)
  have iX6 : ∀ w ∈ u_ws RX6 TX6 4, w ∈ wsX6_modelNumbered := by decide +kernel
  have f11 := hts (.fieldLink RX6 11 "FieldFilter" "models" "[[I") (by decide +kernel)
  refine lv_iload_n hx hb dX6_modelNumbered_0 rfl (lv_at hl 1 rfl) ?_
  refine n_if_lt (tgt := 12) hx hb (by unfold r32; omega) dX6_modelNumbered_1 (by decide) (fun h1 => False.elim (by omega)) (fun h1 => ?_)
  refine lv_iload_n hx hb dX6_modelNumbered_4 rfl (lv_at hl 1 rfl) ?_
  refine lv_aload_n hx hb dX6_modelNumbered_5 rfl (lv_at hl 0 rfl) ?_
  refine va_get (D := D) (ci := 6) (v := .int (jI ((ms : Nat) : Int))) (C := RX6) (T := TX6) (N := 4) hx hb hts iX6 hown hK.1 hP 0 rfl rfl 1 (by decide) f20 (fun _ h9 => h9) rfl dX6_modelNumbered_6 ?_
  refine n_icmp_lt (tgt := 22) hx hb (by unfold r32; omega) (by unfold r32; omega) dX6_modelNumbered_9 (by decide) (fun h9 => ?_) (fun h9 => False.elim (by omega))
  refine lv_aload_n hx hb dX6_modelNumbered_22 rfl (lv_at hl 0 rfl) ?_
  refine va_get (D := D) (ci := 6) (v := .ref q0) (C := RX6) (T := TX6) (N := 4) hx hb hts iX6 hown hK.1 hP 0 rfl rfl 0 (by decide) f11 (fun _ h9 => h9) rfl dX6_modelNumbered_23 ?_
  refine lv_iload_n hx hb dX6_modelNumbered_26 rfl (lv_at hl 1 rfl) ?_
  refine n_aald2 (i := k) (q := qk) hx hb hK hP 1 6 rfl htG rfl (by omega) (Nat.le_of_ble_eq_true rfl) hf dX6_modelNumbered_27 ?_
  exact x_qret () hx hb hr (Or.inr ⟨_, rfl⟩) hlocks dX6_modelNumbered_28 (Nat.le_of_ble_eq_true rfl) (Nat.le_of_ble_eq_true rfl) hP hS rfl

set_option maxHeartbeats 8000000 in
set_option maxRecDepth 100000 in
/--  -/
theorem c_X6_estimatorNumbered1 (l : Launch) (hl9 : l.stackTraces = false) (D : va_G) (tys : List (ClassId × FieldType)) {cE : ClassId} (htE : tys[3]? = some (cE, .object RX1)) (x0 q0 q1 : Nat) (ms es : Nat) (f : Nat → Option Nat) (hes : es ≤ 6) (v : Int) (q3 : r32 v) (hbd : inB 0 (((es : Nat) : Int) - 1) v = false) : CtG (SX := Unit) l D tys yX6_estimatorNumbered wsX6_estimatorNumbered 6 82 1 6 [.ref x0, .int (jI v)] [(x0, .inr (6, [.ref q0, .int (jI ((ms : Nat) : Int)), .ref q1, .int (jI ((es : Nat) : Int))])), (q1, .inl (cE, 6, .inr (.inr (.inr (.inr f)))))] (fun A => EQ (S := Unit) D A (fun r _ => False) (fun _ => [(x0, .inr (6, [.ref q0, .int (jI ((ms : Nat) : Int)), .ref q1, .int (jI ((es : Nat) : Int))])), (q1, .inl (cE, 6, .inr (.inr (.inr (.inr f)))))])) (fun E (_ : Unit) => E = xIOB) (fun _ => [(x0, .inr (6, [.ref q0, .int (jI ((ms : Nat) : Int)), .ref q1, .int (jI ((es : Nat) : Int))])), (q1, .inl (cE, 6, .inr (.inr (.inr (.inr f)))))]) := by
  refine CtG.of (cc := cX6_estimatorNumbered) (maxL := 2) (by decide +kernel) rfl (Nat.le_of_ble_eq_true rfl) ?_
  intro p e s m below meth c A ls hcx htab hK hX hZ hP hD hA hl
  obtain ⟨hx, hb, hr, hml, hown, hts, hlocks⟩ := hcx
  have hO := hX.1
  have hS : va_S A s.heap s.heap [] := va_S.rf
  have hown : s.vm.findClass RX6 = some m.cls := hown
  have hl : lv_has ls 2 [(0, .ref x0), (1, .int (jI v))] := hl
  have f43 := hts (.fieldLink RX6 43 "FieldFilter" "estimatorCount" "I") (by decide +kernel)
  have iX6 : ∀ w ∈ u_ws RX6 TX6 4, w ∈ wsX6_estimatorNumbered := by decide +kernel
  refine lv_iload_n hx hb dX6_estimatorNumbered_0 rfl (lv_at hl 1 rfl) ?_
  refine n_if_lt (tgt := 12) hx hb q3 dX6_estimatorNumbered_1 (by decide) (fun h1 => ?_) (fun h1 => ?_)
  · exact x_thr (cls := xIOB) (text := "no such estimator") hx hb hl9 hown (by decide +kernel) (hts (.classLink RX6 190 xIOB) (by decide +kernel)) (hts (.initialized xIOB) (by decide +kernel)) (by decide) hX (fun w h => hts w (List.mem_cons_of_mem _ (List.mem_append_right _ h))) xb_IOB xg_IOB hZ hS (hl.1.trans hml.symm) dX6_estimatorNumbered_12 dX6_estimatorNumbered_15 dX6_estimatorNumbered_16 dX6_estimatorNumbered_18 dX6_estimatorNumbered_21 htab hlocks (Nat.le_of_ble_eq_true rfl) (Nat.le_of_ble_eq_true rfl) (Nat.le_of_ble_eq_true rfl) (Nat.le_of_ble_eq_true rfl) () hP hD rfl (Nat.le_of_ble_eq_true rfl) (Nat.le_of_ble_eq_true rfl)
  · refine lv_iload_n hx hb dX6_estimatorNumbered_4 rfl (lv_at hl 1 rfl) ?_
    refine lv_aload_n hx hb dX6_estimatorNumbered_5 rfl (lv_at hl 0 rfl) ?_
    refine va_get (D := D) (ci := 6) (v := .int (jI ((es : Nat) : Int))) (C := RX6) (T := TX6) (N := 4) hx hb hts iX6 hown hK.1 hP 0 rfl rfl 3 (by decide) f43 (fun _ h9 => h9) rfl dX6_estimatorNumbered_6 ?_
    refine n_icmp_lt (tgt := 22) hx hb q3 (by unfold r32; omega) dX6_estimatorNumbered_9 (by decide) (fun h9 => False.elim (by rcases inB_niff.mp hbd with h | h <;> omega)) (fun h9 => ?_)
    exact x_thr (cls := xIOB) (text := "no such estimator") hx hb hl9 hown (by decide +kernel) (hts (.classLink RX6 190 xIOB) (by decide +kernel)) (hts (.initialized xIOB) (by decide +kernel)) (by decide) hX (fun w h => hts w (List.mem_cons_of_mem _ (List.mem_append_right _ h))) xb_IOB xg_IOB hZ hS (hl.1.trans hml.symm) dX6_estimatorNumbered_12 dX6_estimatorNumbered_15 dX6_estimatorNumbered_16 dX6_estimatorNumbered_18 dX6_estimatorNumbered_21 htab hlocks (Nat.le_of_ble_eq_true rfl) (Nat.le_of_ble_eq_true rfl) (Nat.le_of_ble_eq_true rfl) (Nat.le_of_ble_eq_true rfl) () hP hD rfl (Nat.le_of_ble_eq_true rfl) (Nat.le_of_ble_eq_true rfl)

set_option maxHeartbeats 8000000 in
set_option maxRecDepth 100000 in
/--  -/
theorem c_X6_estimatorNumbered0 (l : Launch) (hl9 : l.stackTraces = false) (D : va_G) (tys : List (ClassId × FieldType)) {cE : ClassId} (htE : tys[3]? = some (cE, .object RX1)) (x0 q0 q1 : Nat) (ms es : Nat) (f : Nat → Option Nat) (hes : es ≤ 6) (k qk : Nat) (hk : k < es) (hf : f k = some qk) : CtG (SX := Unit) l D tys yX6_estimatorNumbered wsX6_estimatorNumbered 6 82 1 6 [.ref x0, .int (jI ((k : Nat) : Int))] [(x0, .inr (6, [.ref q0, .int (jI ((ms : Nat) : Int)), .ref q1, .int (jI ((es : Nat) : Int))])), (q1, .inl (cE, 6, .inr (.inr (.inr (.inr f)))))] (fun A => EQ (S := Unit) D A (fun r _ => r = some qk) (fun _ => [(x0, .inr (6, [.ref q0, .int (jI ((ms : Nat) : Int)), .ref q1, .int (jI ((es : Nat) : Int))])), (q1, .inl (cE, 6, .inr (.inr (.inr (.inr f)))))])) (fun E (_ : Unit) => False) (fun _ => [(x0, .inr (6, [.ref q0, .int (jI ((ms : Nat) : Int)), .ref q1, .int (jI ((es : Nat) : Int))])), (q1, .inl (cE, 6, .inr (.inr (.inr (.inr f)))))]) := by
  refine CtG.of (cc := cX6_estimatorNumbered) (maxL := 2) (by decide +kernel) rfl (Nat.le_of_ble_eq_true rfl) ?_
  intro p e s m below meth c A ls hcx htab hK hX hZ hP hD hA hl
  obtain ⟨hx, hb, hr, hml, hown, hts, hlocks⟩ := hcx
  have hO := hX.1
  have hS : va_S A s.heap s.heap [] := va_S.rf
  have hown : s.vm.findClass RX6 = some m.cls := hown
  have hl : lv_has ls 2 [(0, .ref x0), (1, .int (jI ((k : Nat) : Int)))] := hl
  have f43 := hts (.fieldLink RX6 43 "FieldFilter" "estimatorCount" "I") (by decide +kernel)
  have iX6 : ∀ w ∈ u_ws RX6 TX6 4, w ∈ wsX6_estimatorNumbered := by decide +kernel
  have f16 := hts (.fieldLink RX6 16 "FieldFilter" "estimators" "[LFieldFilter$Estimator;") (by decide +kernel)
  refine lv_iload_n hx hb dX6_estimatorNumbered_0 rfl (lv_at hl 1 rfl) ?_
  refine n_if_lt (tgt := 12) hx hb (by unfold r32; omega) dX6_estimatorNumbered_1 (by decide) (fun h1 => False.elim (by omega)) (fun h1 => ?_)
  refine lv_iload_n hx hb dX6_estimatorNumbered_4 rfl (lv_at hl 1 rfl) ?_
  refine lv_aload_n hx hb dX6_estimatorNumbered_5 rfl (lv_at hl 0 rfl) ?_
  refine va_get (D := D) (ci := 6) (v := .int (jI ((es : Nat) : Int))) (C := RX6) (T := TX6) (N := 4) hx hb hts iX6 hown hK.1 hP 0 rfl rfl 3 (by decide) f43 (fun _ h9 => h9) rfl dX6_estimatorNumbered_6 ?_
  refine n_icmp_lt (tgt := 22) hx hb (by unfold r32; omega) (by unfold r32; omega) dX6_estimatorNumbered_9 (by decide) (fun h9 => ?_) (fun h9 => False.elim (by omega))
  refine lv_aload_n hx hb dX6_estimatorNumbered_22 rfl (lv_at hl 0 rfl) ?_
  refine va_get (D := D) (ci := 6) (v := .ref q1) (C := RX6) (T := TX6) (N := 4) hx hb hts iX6 hown hK.1 hP 0 rfl rfl 2 (by decide) f16 (fun _ h9 => h9) rfl dX6_estimatorNumbered_23 ?_
  refine lv_iload_n hx hb dX6_estimatorNumbered_26 rfl (lv_at hl 1 rfl) ?_
  refine n_aald (i := k) (q := qk) hx hb hK hP 1 3 rfl htE rfl (by omega) (Nat.le_of_ble_eq_true rfl) hf dX6_estimatorNumbered_27 ?_
  exact x_qret () hx hb hr (Or.inl ⟨_, rfl⟩) hlocks dX6_estimatorNumbered_28 (Nat.le_of_ble_eq_true rfl) (Nat.le_of_ble_eq_true rfl) hP hS rfl

set_option maxHeartbeats 8000000 in
set_option maxRecDepth 100000 in
/--  -/
theorem c_X6_measurementNumbered1 (l : Launch) (hl9 : l.stackTraces = false) (D : va_G) (tys : List (ClassId × FieldType)) {cM : ClassId} (htM : tys[4]? = some (cM, .object RX2)) (e0 e1 e3 e4 e5 n T : Nat) (th : Zp) (f : Nat → Option Nat) (hn30 : n ≤ 30) (v : Int) (q3 : r32 v) (hbd : inB 0 (((n : Nat) : Int) - 1) v = false) : CtG (SX := Unit) l D tys yX6_measurementNumbered wsX6_measurementNumbered 6 82 1 6 [.ref e0, .int (jI v)] [(e0, .inr (1, [.ref e1, .ref e3, .int (jI ((n : Nat) : Int)), .int (jI ((T : Nat) : Int)), .int (vI th), .ref e4, .ref e5])), (e3, .inl (cM, 30, .inr (.inr (.inr (.inr f)))))] (fun A => EQ (S := Unit) D A (fun r _ => False) (fun _ => [(e0, .inr (1, [.ref e1, .ref e3, .int (jI ((n : Nat) : Int)), .int (jI ((T : Nat) : Int)), .int (vI th), .ref e4, .ref e5])), (e3, .inl (cM, 30, .inr (.inr (.inr (.inr f)))))])) (fun E (_ : Unit) => E = xIOB) (fun _ => [(e0, .inr (1, [.ref e1, .ref e3, .int (jI ((n : Nat) : Int)), .int (jI ((T : Nat) : Int)), .int (vI th), .ref e4, .ref e5])), (e3, .inl (cM, 30, .inr (.inr (.inr (.inr f)))))]) := by
  refine CtG.of (cc := cX6_measurementNumbered) (maxL := 2) (by decide +kernel) rfl (Nat.le_of_ble_eq_true rfl) ?_
  intro p e s m below meth c A ls hcx htab hK hX hZ hP hD hA hl
  obtain ⟨hx, hb, hr, hml, hown, hts, hlocks⟩ := hcx
  have hO := hX.1
  have hS : va_S A s.heap s.heap [] := va_S.rf
  have hown : s.vm.findClass RX6 = some m.cls := hown
  have hl : lv_has ls 2 [(0, .ref e0), (1, .int (jI v))] := hl
  have f89 := hts (.fieldLink RX6 89 "FieldFilter$Estimator" "toldCount" "I") (by decide +kernel)
  have iX1 : ∀ w ∈ u_ws RX1 TX1 7, w ∈ wsX6_measurementNumbered := by decide +kernel
  refine lv_iload_n hx hb dX6_measurementNumbered_0 rfl (lv_at hl 1 rfl) ?_
  refine n_if_lt (tgt := 12) hx hb q3 dX6_measurementNumbered_1 (by decide) (fun h1 => ?_) (fun h1 => ?_)
  · exact x_thr (cls := xIOB) (text := "no such measurement") hx hb hl9 hown (by decide +kernel) (hts (.classLink RX6 190 xIOB) (by decide +kernel)) (hts (.initialized xIOB) (by decide +kernel)) (by decide) hX (fun w h => hts w (List.mem_cons_of_mem _ (List.mem_append_right _ h))) xb_IOB xg_IOB hZ hS (hl.1.trans hml.symm) dX6_measurementNumbered_12 dX6_measurementNumbered_15 dX6_measurementNumbered_16 dX6_measurementNumbered_18 dX6_measurementNumbered_21 htab hlocks (Nat.le_of_ble_eq_true rfl) (Nat.le_of_ble_eq_true rfl) (Nat.le_of_ble_eq_true rfl) (Nat.le_of_ble_eq_true rfl) () hP hD rfl (Nat.le_of_ble_eq_true rfl) (Nat.le_of_ble_eq_true rfl)
  · refine lv_iload_n hx hb dX6_measurementNumbered_4 rfl (lv_at hl 1 rfl) ?_
    refine lv_aload_n hx hb dX6_measurementNumbered_5 rfl (lv_at hl 0 rfl) ?_
    refine va_get (D := D) (ci := 1) (v := .int (jI ((n : Nat) : Int))) (C := RX1) (T := TX1) (N := 7) hx hb hts iX1 hown hK.1 hP 0 rfl rfl 2 (by decide) f89 (fun _ h9 => h9) rfl dX6_measurementNumbered_6 ?_
    refine n_icmp_lt (tgt := 22) hx hb q3 (by unfold r32; omega) dX6_measurementNumbered_9 (by decide) (fun h9 => False.elim (by rcases inB_niff.mp hbd with h | h <;> omega)) (fun h9 => ?_)
    exact x_thr (cls := xIOB) (text := "no such measurement") hx hb hl9 hown (by decide +kernel) (hts (.classLink RX6 190 xIOB) (by decide +kernel)) (hts (.initialized xIOB) (by decide +kernel)) (by decide) hX (fun w h => hts w (List.mem_cons_of_mem _ (List.mem_append_right _ h))) xb_IOB xg_IOB hZ hS (hl.1.trans hml.symm) dX6_measurementNumbered_12 dX6_measurementNumbered_15 dX6_measurementNumbered_16 dX6_measurementNumbered_18 dX6_measurementNumbered_21 htab hlocks (Nat.le_of_ble_eq_true rfl) (Nat.le_of_ble_eq_true rfl) (Nat.le_of_ble_eq_true rfl) (Nat.le_of_ble_eq_true rfl) () hP hD rfl (Nat.le_of_ble_eq_true rfl) (Nat.le_of_ble_eq_true rfl)

set_option maxHeartbeats 8000000 in
set_option maxRecDepth 100000 in
/--  -/
theorem c_X6_measurementNumbered0 (l : Launch) (hl9 : l.stackTraces = false) (D : va_G) (tys : List (ClassId × FieldType)) {cM : ClassId} (htM : tys[4]? = some (cM, .object RX2)) (e0 e1 e3 e4 e5 n T : Nat) (th : Zp) (f : Nat → Option Nat) (hn30 : n ≤ 30) (k qk : Nat) (hk : k < n) (hf : f k = some qk) : CtG (SX := Unit) l D tys yX6_measurementNumbered wsX6_measurementNumbered 6 82 1 6 [.ref e0, .int (jI ((k : Nat) : Int))] [(e0, .inr (1, [.ref e1, .ref e3, .int (jI ((n : Nat) : Int)), .int (jI ((T : Nat) : Int)), .int (vI th), .ref e4, .ref e5])), (e3, .inl (cM, 30, .inr (.inr (.inr (.inr f)))))] (fun A => EQ (S := Unit) D A (fun r _ => r = some qk) (fun _ => [(e0, .inr (1, [.ref e1, .ref e3, .int (jI ((n : Nat) : Int)), .int (jI ((T : Nat) : Int)), .int (vI th), .ref e4, .ref e5])), (e3, .inl (cM, 30, .inr (.inr (.inr (.inr f)))))])) (fun E (_ : Unit) => False) (fun _ => [(e0, .inr (1, [.ref e1, .ref e3, .int (jI ((n : Nat) : Int)), .int (jI ((T : Nat) : Int)), .int (vI th), .ref e4, .ref e5])), (e3, .inl (cM, 30, .inr (.inr (.inr (.inr f)))))]) := by
  refine CtG.of (cc := cX6_measurementNumbered) (maxL := 2) (by decide +kernel) rfl (Nat.le_of_ble_eq_true rfl) ?_
  intro p e s m below meth c A ls hcx htab hK hX hZ hP hD hA hl
  obtain ⟨hx, hb, hr, hml, hown, hts, hlocks⟩ := hcx
  have hO := hX.1
  have hS : va_S A s.heap s.heap [] := va_S.rf
  have hown : s.vm.findClass RX6 = some m.cls := hown
  have hl : lv_has ls 2 [(0, .ref e0), (1, .int (jI ((k : Nat) : Int)))] := hl
  have f89 := hts (.fieldLink RX6 89 "FieldFilter$Estimator" "toldCount" "I") (by decide +kernel)
  have iX1 : ∀ w ∈ u_ws RX1 TX1 7, w ∈ wsX6_measurementNumbered := by decide +kernel
  have f199 := hts (.fieldLink RX6 199 "FieldFilter$Estimator" "told" "[LFieldFilter$Measurement;") (by decide +kernel)
  refine lv_iload_n hx hb dX6_measurementNumbered_0 rfl (lv_at hl 1 rfl) ?_
  refine n_if_lt (tgt := 12) hx hb (by unfold r32; omega) dX6_measurementNumbered_1 (by decide) (fun h1 => False.elim (by omega)) (fun h1 => ?_)
  refine lv_iload_n hx hb dX6_measurementNumbered_4 rfl (lv_at hl 1 rfl) ?_
  refine lv_aload_n hx hb dX6_measurementNumbered_5 rfl (lv_at hl 0 rfl) ?_
  refine va_get (D := D) (ci := 1) (v := .int (jI ((n : Nat) : Int))) (C := RX1) (T := TX1) (N := 7) hx hb hts iX1 hown hK.1 hP 0 rfl rfl 2 (by decide) f89 (fun _ h9 => h9) rfl dX6_measurementNumbered_6 ?_
  refine n_icmp_lt (tgt := 22) hx hb (by unfold r32; omega) (by unfold r32; omega) dX6_measurementNumbered_9 (by decide) (fun h9 => ?_) (fun h9 => False.elim (by omega))
  refine lv_aload_n hx hb dX6_measurementNumbered_22 rfl (lv_at hl 0 rfl) ?_
  refine va_get (D := D) (ci := 1) (v := .ref e3) (C := RX1) (T := TX1) (N := 7) hx hb hts iX1 hown hK.1 hP 0 rfl rfl 1 (by decide) f199 (fun _ h9 => h9) rfl dX6_measurementNumbered_23 ?_
  refine lv_iload_n hx hb dX6_measurementNumbered_26 rfl (lv_at hl 1 rfl) ?_
  refine n_aald (i := k) (q := qk) hx hb hK hP 1 4 rfl htM rfl (by omega) (Nat.le_of_ble_eq_true rfl) hf dX6_measurementNumbered_27 ?_
  exact x_qret () hx hb hr (Or.inl ⟨_, rfl⟩) hlocks dX6_measurementNumbered_28 (Nat.le_of_ble_eq_true rfl) (Nat.le_of_ble_eq_true rfl) hP hS rfl

set_option maxHeartbeats 8000000 in
set_option maxRecDepth 100000 in
/--  -/
theorem c_X1_current (l : Launch) (D : va_G) (tys : List (ClassId × FieldType)) {cS : ClassId} (htS : tys[5]? = some (cS, .object RX4)) (e0 e1 e3 e4 e5 n T qk : Nat) (th : Zp) (f : Nat → Option Nat) (hT : T ≤ 20) (hf : f T = some qk) : CtQ (S := Unit) l D tys yX1_current wsX1_current 0 0 [.ref e0] (fun r _ => r = some qk) [(e0, .inr (1, [.ref e1, .ref e3, .int (jI ((n : Nat) : Int)), .int (jI ((T : Nat) : Int)), .int (vI th), .ref e4, .ref e5])), (e5, .inl (cS, 21, .inr (.inr (.inr (.inr f)))))] (fun _ => [(e0, .inr (1, [.ref e1, .ref e3, .int (jI ((n : Nat) : Int)), .int (jI ((T : Nat) : Int)), .int (vI th), .ref e4, .ref e5])), (e5, .inl (cS, 21, .inr (.inr (.inr (.inr f)))))]) := by
  refine CtQ.of (cc := cX1_current) (maxL := 1) (by decide +kernel) rfl (fun _ => rfl) (Nat.le_of_ble_eq_true rfl) ?_
  intro p e s m below meth c A ls hcx hK hP hD hA hl
  obtain ⟨hx, hb, hr, hml, hown, hts, hlocks⟩ := hcx
  have hS : va_S A s.heap s.heap [] := va_S.rf
  have hown : s.vm.findClass RX1 = some m.cls := hown
  have hl : lv_has ls 1 [(0, .ref e0)] := hl
  have f34 := hts (.fieldLink RX1 34 "FieldFilter$Estimator" "behind" "[LFieldFilter$State;") (by decide +kernel)
  have iX1 : ∀ w ∈ u_ws RX1 TX1 7, w ∈ wsX1_current := by decide +kernel
  have f66 := hts (.fieldLink RX1 66 "FieldFilter$Estimator" "time" "I") (by decide +kernel)
  refine lv_aload_n hx hb dX1_current_0 rfl (lv_at hl 0 rfl) ?_
  refine va_get (D := D) (ci := 1) (v := .ref e5) (C := RX1) (T := TX1) (N := 7) hx hb hts iX1 hown hK.1 hP 0 rfl rfl 6 (by decide) f34 (fun _ h9 => h9) rfl dX1_current_1 ?_
  refine lv_aload_n hx hb dX1_current_4 rfl (lv_at hl 0 rfl) ?_
  refine va_get (D := D) (ci := 1) (v := .int (jI ((T : Nat) : Int))) (C := RX1) (T := TX1) (N := 7) hx hb hts iX1 hown hK.1 hP 0 rfl rfl 3 (by decide) f66 (fun _ h9 => h9) rfl dX1_current_5 ?_
  refine n_aald (i := T) (q := qk) hx hb hK hP 1 5 rfl htS rfl (by omega) (Nat.le_of_ble_eq_true rfl) hf dX1_current_8 ?_
  exact q_ret () hx hb hr (Or.inl ⟨_, rfl⟩) hlocks dX1_current_9 hP hS rfl
