/-! the leaves: states, motions, measurements -/
set_option maxHeartbeats 4000000 in
set_option maxRecDepth 100000 in
/--  -/
theorem c_X4_copy (l : Launch) (D : va_G) (tys : List (ClassId × FieldType)) (h0 x0 p0 o x1 p1 : Nat) (u v a b d u1 v1 a1 b1 d1 : Int32) : CtV l D tys yX4_copy wsX4_copy 2 44 [.ref h0, .ref o] [(h0, .inr (4, [.ref x0, .ref p0])), (x0, .inr (0, [.int u, .int v])), (p0, .inr (5, [.int a, .int b, .int d])), (o, .inr (4, [.ref x1, .ref p1])), (x1, .inr (0, [.int u1, .int v1])), (p1, .inr (5, [.int a1, .int b1, .int d1]))] [(h0, .inr (4, [.ref x0, .ref p0])), (x0, .inr (0, [.int u1, .int v1])), (p0, .inr (5, [.int a1, .int b1, .int d1])), (o, .inr (4, [.ref x1, .ref p1])), (x1, .inr (0, [.int u1, .int v1])), (p1, .inr (5, [.int a1, .int b1, .int d1]))] := by
  refine CtV.of (cc := cX4_copy) (maxL := 2) (by decide +kernel) rfl rfl (Nat.le_of_ble_eq_true rfl) ?_
  intro p e s m below meth c A ls hcx hK hP hD hA hl
  obtain ⟨hx, hb, hr, hml, hown, hts, hlocks⟩ := hcx
  have hS : va_S A s.heap s.heap [] := va_S.rf
  have hown : s.vm.findClass RX4 = some m.cls := hown
  have hl : lv_has ls 2 [(0, .ref h0), (1, .ref o)] := hl
  have f10 := hts (.fieldLink RX4 10 "FieldFilter$State" "x" "LFieldFilter$Column;") (by decide +kernel)
  have iX4 : ∀ w ∈ u_ws RX4 TX4 2, w ∈ wsX4_copy := by decide +kernel
  have f19 := hts (.fieldLink RX4 19 "FieldFilter$State" "p" "LFieldFilter$Symmetric;") (by decide +kernel)
  refine lv_aload_n hx hb dX4_copy_0 rfl (lv_at hl 0 rfl) ?_
  refine va_get (D := D) (ci := 4) (v := .ref x0) (C := RX4) (T := TX4) (N := 2) hx hb hts iX4 hown hK.1 hP 0 rfl rfl 0 (by decide) f10 (fun _ h9 => h9) rfl dX4_copy_1 ?_
  refine lv_aload_n hx hb dX4_copy_4 rfl (lv_at hl 1 rfl) ?_
  refine va_get (D := D) (ci := 4) (v := .ref x1) (C := RX4) (T := TX4) (N := 2) hx hb hts iX4 hown hK.1 hP 3 rfl rfl 0 (by decide) f10 (fun _ h9 => h9) rfl dX4_copy_5 ?_
  have ct8 := c_X0_copy l D tys x0 x1 u v u1 v1
  refine k_goV (va_runV (As := [.ref x1]) (rest := []) ⟨hx, hb, hml, hown, hts⟩ (ct8.2 _) (cwV 1 hts gX4_copy_X0_copy rfl rfl rfl (by decide +kernel) ⟨Nat.le_of_ble_eq_true rfl, Nat.le_of_ble_eq_true rfl⟩) ⟨(k_pre hK hP hD (is := [1, 4]) rfl rfl).1, va_recv hK.1 hP (ci := 0) (q0 := 1) rfl rfl, (k_pre hK hP hD (is := [1, 4]) rfl rfl).2⟩ rfl rfl hl.1 rfl (lv_room (Nat.le_of_ble_eq_true rfl)) dX4_copy_8 ⟨Nat.le_of_ble_eq_true rfl, Nat.le_of_ble_eq_true rfl⟩) ct8.1 hP hD hS hA [1, 4] rfl rfl (fun H locs hP hD hS => ?_)
  have hP : va_P D vwCl [(h0, .inr (4, [.ref x0, .ref p0])), (x0, .inr (0, [.int u1, .int v1])), (p0, .inr (5, [.int a, .int b, .int d])), (o, .inr (4, [.ref x1, .ref p1])), (x1, .inr (0, [.int u1, .int v1])), (p1, .inr (5, [.int a1, .int b1, .int d1]))] H := hP
  have hD : va_D A [(h0, .inr (4, [.ref x0, .ref p0])), (x0, .inr (0, [.int u1, .int v1])), (p0, .inr (5, [.int a, .int b, .int d])), (o, .inr (4, [.ref x1, .ref p1])), (x1, .inr (0, [.int u1, .int v1])), (p1, .inr (5, [.int a1, .int b1, .int d1]))] := hD
  refine lv_aload_n hx hb dX4_copy_11 rfl (lv_at hl 0 rfl) ?_
  refine va_get (D := D) (ci := 4) (v := .ref p0) (C := RX4) (T := TX4) (N := 2) hx hb hts iX4 hown hK.1 hP 0 rfl rfl 1 (by decide) f19 (fun _ h9 => h9) rfl dX4_copy_12 ?_
  refine lv_aload_n hx hb dX4_copy_15 rfl (lv_at hl 1 rfl) ?_
  refine va_get (D := D) (ci := 4) (v := .ref p1) (C := RX4) (T := TX4) (N := 2) hx hb hts iX4 hown hK.1 hP 3 rfl rfl 1 (by decide) f19 (fun _ h9 => h9) rfl dX4_copy_16 ?_
  have ct19 := c_X5_copy l D tys p0 p1 a b d a1 b1 d1
  refine k_goV (va_runV (As := [.ref p1]) (rest := []) ⟨hx, hb, hml, hown, hts⟩ (ct19.2 _) (cwV 1 hts gX4_copy_X5_copy rfl rfl rfl (by decide +kernel) ⟨Nat.le_of_ble_eq_true rfl, Nat.le_of_ble_eq_true rfl⟩) ⟨(k_pre hK hP hD (is := [2, 5]) rfl rfl).1, va_recv hK.1 hP (ci := 5) (q0 := 2) rfl rfl, (k_pre hK hP hD (is := [2, 5]) rfl rfl).2⟩ rfl rfl hl.1 rfl (lv_room (Nat.le_of_ble_eq_true rfl)) dX4_copy_19 ⟨Nat.le_of_ble_eq_true rfl, Nat.le_of_ble_eq_true rfl⟩) ct19.1 hP hD hS hA [2, 5] rfl rfl (fun H locs hP hD hS => ?_)
  have hP : va_P D vwCl [(h0, .inr (4, [.ref x0, .ref p0])), (x0, .inr (0, [.int u1, .int v1])), (p0, .inr (5, [.int a1, .int b1, .int d1])), (o, .inr (4, [.ref x1, .ref p1])), (x1, .inr (0, [.int u1, .int v1])), (p1, .inr (5, [.int a1, .int b1, .int d1]))] H := hP
  have hD : va_D A [(h0, .inr (4, [.ref x0, .ref p0])), (x0, .inr (0, [.int u1, .int v1])), (p0, .inr (5, [.int a1, .int b1, .int d1])), (o, .inr (4, [.ref x1, .ref p1])), (x1, .inr (0, [.int u1, .int v1])), (p1, .inr (5, [.int a1, .int b1, .int d1]))] := hD
  exact k_vret hx hb hr hlocks dX4_copy_22 hP hS

set_option maxHeartbeats 4000000 in
set_option maxRecDepth 100000 in
/--  -/
theorem c_X4_number0 (l : Launch) (D : va_G) (tys : List (ClassId × FieldType)) (h0 x0 p0 : Nat) (u v a b d : Int32) : CtI l D tys yX4_number wsX4_number 0 0 [.ref h0, .int (jI 0)] u [(h0, .inr (4, [.ref x0, .ref p0])), (x0, .inr (0, [.int u, .int v])), (p0, .inr (5, [.int a, .int b, .int d]))] [(h0, .inr (4, [.ref x0, .ref p0])), (x0, .inr (0, [.int u, .int v])), (p0, .inr (5, [.int a, .int b, .int d]))] := by
  refine CtI.of (cc := cX4_number) (maxL := 2) (by decide +kernel) rfl rfl (Nat.le_of_ble_eq_true rfl) ?_
  intro p e s m below meth c A ls hcx hK hP hD hA hl
  obtain ⟨hx, hb, hr, hml, hown, hts, hlocks⟩ := hcx
  have hS : va_S A s.heap s.heap [] := va_S.rf
  have hown : s.vm.findClass RX4 = some m.cls := hown
  have hl : lv_has ls 2 [(0, .ref h0), (1, .int (jI 0))] := hl
  have f10 := hts (.fieldLink RX4 10 "FieldFilter$State" "x" "LFieldFilter$Column;") (by decide +kernel)
  have iX4 : ∀ w ∈ u_ws RX4 TX4 2, w ∈ wsX4_number := by decide +kernel
  have f30 := hts (.fieldLink RX4 30 "FieldFilter$Column" "upper" "I") (by decide +kernel)
  have iX0 : ∀ w ∈ u_ws RX0 TX0 2, w ∈ wsX4_number := by decide +kernel
  refine lv_iload_n hx hb dX4_number_0 rfl (lv_at hl 1 rfl) ?_
  refine lv_tableIn (off := 31) (tgt := 32) hx hb dX4_number_1 (by decide) (by decide) (by decide) (by decide) ?_
  refine lv_aload_n hx hb dX4_number_32 rfl (lv_at hl 0 rfl) ?_
  refine va_get (D := D) (ci := 4) (v := .ref x0) (C := RX4) (T := TX4) (N := 2) hx hb hts iX4 hown hK.1 hP 0 rfl rfl 0 (by decide) f10 (fun _ h9 => h9) rfl dX4_number_33 ?_
  refine va_get (D := D) (ci := 0) (v := .int u) (C := RX0) (T := TX0) (N := 2) hx hb hts iX0 hown hK.1 hP 1 rfl rfl 0 (by decide) f30 (fun _ h9 => h9) rfl dX4_number_36 ?_
  exact k_iret hx hb hr hlocks dX4_number_39 hP hS rfl

set_option maxHeartbeats 4000000 in
set_option maxRecDepth 100000 in
/--  -/
theorem c_X4_number1 (l : Launch) (D : va_G) (tys : List (ClassId × FieldType)) (h0 x0 p0 : Nat) (u v a b d : Int32) : CtI l D tys yX4_number wsX4_number 0 0 [.ref h0, .int (jI 1)] v [(h0, .inr (4, [.ref x0, .ref p0])), (x0, .inr (0, [.int u, .int v])), (p0, .inr (5, [.int a, .int b, .int d]))] [(h0, .inr (4, [.ref x0, .ref p0])), (x0, .inr (0, [.int u, .int v])), (p0, .inr (5, [.int a, .int b, .int d]))] := by
  refine CtI.of (cc := cX4_number) (maxL := 2) (by decide +kernel) rfl rfl (Nat.le_of_ble_eq_true rfl) ?_
  intro p e s m below meth c A ls hcx hK hP hD hA hl
  obtain ⟨hx, hb, hr, hml, hown, hts, hlocks⟩ := hcx
  have hS : va_S A s.heap s.heap [] := va_S.rf
  have hown : s.vm.findClass RX4 = some m.cls := hown
  have hl : lv_has ls 2 [(0, .ref h0), (1, .int (jI 1))] := hl
  have f10 := hts (.fieldLink RX4 10 "FieldFilter$State" "x" "LFieldFilter$Column;") (by decide +kernel)
  have iX4 : ∀ w ∈ u_ws RX4 TX4 2, w ∈ wsX4_number := by decide +kernel
  have f34 := hts (.fieldLink RX4 34 "FieldFilter$Column" "lower" "I") (by decide +kernel)
  have iX0 : ∀ w ∈ u_ws RX0 TX0 2, w ∈ wsX4_number := by decide +kernel
  refine lv_iload_n hx hb dX4_number_0 rfl (lv_at hl 1 rfl) ?_
  refine lv_tableIn (off := 39) (tgt := 40) hx hb dX4_number_1 (by decide) (by decide) (by decide) (by decide) ?_
  refine lv_aload_n hx hb dX4_number_40 rfl (lv_at hl 0 rfl) ?_
  refine va_get (D := D) (ci := 4) (v := .ref x0) (C := RX4) (T := TX4) (N := 2) hx hb hts iX4 hown hK.1 hP 0 rfl rfl 0 (by decide) f10 (fun _ h9 => h9) rfl dX4_number_41 ?_
  refine va_get (D := D) (ci := 0) (v := .int v) (C := RX0) (T := TX0) (N := 2) hx hb hts iX0 hown hK.1 hP 1 rfl rfl 1 (by decide) f34 (fun _ h9 => h9) rfl dX4_number_44 ?_
  exact k_iret hx hb hr hlocks dX4_number_47 hP hS rfl

set_option maxHeartbeats 4000000 in
set_option maxRecDepth 100000 in
/--  -/
theorem c_X4_number2 (l : Launch) (D : va_G) (tys : List (ClassId × FieldType)) (h0 x0 p0 : Nat) (u v a b d : Int32) : CtI l D tys yX4_number wsX4_number 0 0 [.ref h0, .int (jI 2)] a [(h0, .inr (4, [.ref x0, .ref p0])), (x0, .inr (0, [.int u, .int v])), (p0, .inr (5, [.int a, .int b, .int d]))] [(h0, .inr (4, [.ref x0, .ref p0])), (x0, .inr (0, [.int u, .int v])), (p0, .inr (5, [.int a, .int b, .int d]))] := by
  refine CtI.of (cc := cX4_number) (maxL := 2) (by decide +kernel) rfl rfl (Nat.le_of_ble_eq_true rfl) ?_
  intro p e s m below meth c A ls hcx hK hP hD hA hl
  obtain ⟨hx, hb, hr, hml, hown, hts, hlocks⟩ := hcx
  have hS : va_S A s.heap s.heap [] := va_S.rf
  have hown : s.vm.findClass RX4 = some m.cls := hown
  have hl : lv_has ls 2 [(0, .ref h0), (1, .int (jI 2))] := hl
  have f19 := hts (.fieldLink RX4 19 "FieldFilter$State" "p" "LFieldFilter$Symmetric;") (by decide +kernel)
  have iX4 : ∀ w ∈ u_ws RX4 TX4 2, w ∈ wsX4_number := by decide +kernel
  have f37 := hts (.fieldLink RX4 37 "FieldFilter$Symmetric" "a00" "I") (by decide +kernel)
  have iX5 : ∀ w ∈ u_ws RX5 TX5 3, w ∈ wsX4_number := by decide +kernel
  refine lv_iload_n hx hb dX4_number_0 rfl (lv_at hl 1 rfl) ?_
  refine lv_tableIn (off := 47) (tgt := 48) hx hb dX4_number_1 (by decide) (by decide) (by decide) (by decide) ?_
  refine lv_aload_n hx hb dX4_number_48 rfl (lv_at hl 0 rfl) ?_
  refine va_get (D := D) (ci := 4) (v := .ref p0) (C := RX4) (T := TX4) (N := 2) hx hb hts iX4 hown hK.1 hP 0 rfl rfl 1 (by decide) f19 (fun _ h9 => h9) rfl dX4_number_49 ?_
  refine va_get (D := D) (ci := 5) (v := .int a) (C := RX5) (T := TX5) (N := 3) hx hb hts iX5 hown hK.1 hP 2 rfl rfl 0 (by decide) f37 (fun _ h9 => h9) rfl dX4_number_52 ?_
  exact k_iret hx hb hr hlocks dX4_number_55 hP hS rfl

set_option maxHeartbeats 4000000 in
set_option maxRecDepth 100000 in
/--  -/
theorem c_X4_number3 (l : Launch) (D : va_G) (tys : List (ClassId × FieldType)) (h0 x0 p0 : Nat) (u v a b d : Int32) : CtI l D tys yX4_number wsX4_number 0 0 [.ref h0, .int (jI 3)] b [(h0, .inr (4, [.ref x0, .ref p0])), (x0, .inr (0, [.int u, .int v])), (p0, .inr (5, [.int a, .int b, .int d]))] [(h0, .inr (4, [.ref x0, .ref p0])), (x0, .inr (0, [.int u, .int v])), (p0, .inr (5, [.int a, .int b, .int d]))] := by
  refine CtI.of (cc := cX4_number) (maxL := 2) (by decide +kernel) rfl rfl (Nat.le_of_ble_eq_true rfl) ?_
  intro p e s m below meth c A ls hcx hK hP hD hA hl
  obtain ⟨hx, hb, hr, hml, hown, hts, hlocks⟩ := hcx
  have hS : va_S A s.heap s.heap [] := va_S.rf
  have hown : s.vm.findClass RX4 = some m.cls := hown
  have hl : lv_has ls 2 [(0, .ref h0), (1, .int (jI 3))] := hl
  have f19 := hts (.fieldLink RX4 19 "FieldFilter$State" "p" "LFieldFilter$Symmetric;") (by decide +kernel)
  have iX4 : ∀ w ∈ u_ws RX4 TX4 2, w ∈ wsX4_number := by decide +kernel
  have f40 := hts (.fieldLink RX4 40 "FieldFilter$Symmetric" "a01" "I") (by decide +kernel)
  have iX5 : ∀ w ∈ u_ws RX5 TX5 3, w ∈ wsX4_number := by decide +kernel
  refine lv_iload_n hx hb dX4_number_0 rfl (lv_at hl 1 rfl) ?_
  refine lv_tableIn (off := 55) (tgt := 56) hx hb dX4_number_1 (by decide) (by decide) (by decide) (by decide) ?_
  refine lv_aload_n hx hb dX4_number_56 rfl (lv_at hl 0 rfl) ?_
  refine va_get (D := D) (ci := 4) (v := .ref p0) (C := RX4) (T := TX4) (N := 2) hx hb hts iX4 hown hK.1 hP 0 rfl rfl 1 (by decide) f19 (fun _ h9 => h9) rfl dX4_number_57 ?_
  refine va_get (D := D) (ci := 5) (v := .int b) (C := RX5) (T := TX5) (N := 3) hx hb hts iX5 hown hK.1 hP 2 rfl rfl 1 (by decide) f40 (fun _ h9 => h9) rfl dX4_number_60 ?_
  exact k_iret hx hb hr hlocks dX4_number_63 hP hS rfl

set_option maxHeartbeats 4000000 in
set_option maxRecDepth 100000 in
/--  -/
theorem c_X4_number4 (l : Launch) (D : va_G) (tys : List (ClassId × FieldType)) (h0 x0 p0 : Nat) (u v a b d : Int32) : CtI l D tys yX4_number wsX4_number 0 0 [.ref h0, .int (jI 4)] d [(h0, .inr (4, [.ref x0, .ref p0])), (x0, .inr (0, [.int u, .int v])), (p0, .inr (5, [.int a, .int b, .int d]))] [(h0, .inr (4, [.ref x0, .ref p0])), (x0, .inr (0, [.int u, .int v])), (p0, .inr (5, [.int a, .int b, .int d]))] := by
  refine CtI.of (cc := cX4_number) (maxL := 2) (by decide +kernel) rfl rfl (Nat.le_of_ble_eq_true rfl) ?_
  intro p e s m below meth c A ls hcx hK hP hD hA hl
  obtain ⟨hx, hb, hr, hml, hown, hts, hlocks⟩ := hcx
  have hS : va_S A s.heap s.heap [] := va_S.rf
  have hown : s.vm.findClass RX4 = some m.cls := hown
  have hl : lv_has ls 2 [(0, .ref h0), (1, .int (jI 4))] := hl
  have f19 := hts (.fieldLink RX4 19 "FieldFilter$State" "p" "LFieldFilter$Symmetric;") (by decide +kernel)
  have iX4 : ∀ w ∈ u_ws RX4 TX4 2, w ∈ wsX4_number := by decide +kernel
  have f43 := hts (.fieldLink RX4 43 "FieldFilter$Symmetric" "a11" "I") (by decide +kernel)
  have iX5 : ∀ w ∈ u_ws RX5 TX5 3, w ∈ wsX4_number := by decide +kernel
  refine lv_iload_n hx hb dX4_number_0 rfl (lv_at hl 1 rfl) ?_
  refine lv_tableOut (tgt := 64) hx hb dX4_number_1 (by decide) (by decide) ?_
  refine lv_aload_n hx hb dX4_number_64 rfl (lv_at hl 0 rfl) ?_
  refine va_get (D := D) (ci := 4) (v := .ref p0) (C := RX4) (T := TX4) (N := 2) hx hb hts iX4 hown hK.1 hP 0 rfl rfl 1 (by decide) f19 (fun _ h9 => h9) rfl dX4_number_65 ?_
  refine va_get (D := D) (ci := 5) (v := .int d) (C := RX5) (T := TX5) (N := 3) hx hb hts iX5 hown hK.1 hP 2 rfl rfl 2 (by decide) f43 (fun _ h9 => h9) rfl dX4_number_68 ?_
  exact k_iret hx hb hr hlocks dX4_number_71 hP hS rfl

set_option maxHeartbeats 4000000 in
set_option maxRecDepth 100000 in
/--  -/
theorem c_X4_invert0 (l : Launch) (D : va_G) (tys : List (ClassId × FieldType)) (h0 x0 p0 o x1 p1 : Nat) (u v a b d : Int32) (u1 v1 a1 b1 d1 : Zp) (h9 : a1 * d1 - b1 * b1 = 0) : CtI l D tys yX4_invert wsX4_invert 4 86 [.ref h0, .ref o] (jI (iB false)) [(h0, .inr (4, [.ref x0, .ref p0])), (x0, .inr (0, [.int u, .int v])), (p0, .inr (5, [.int a, .int b, .int d])), (o, .inr (4, [.ref x1, .ref p1])), (x1, .inr (0, [.int (vI u1), .int (vI v1)])), (p1, .inr (5, [.int (vI a1), .int (vI b1), .int (vI d1)]))] [(h0, .inr (4, [.ref x0, .ref p0])), (x0, .inr (0, [.int u, .int v])), (p0, .inr (5, [.int a, .int b, .int d])), (o, .inr (4, [.ref x1, .ref p1])), (x1, .inr (0, [.int (vI u1), .int (vI v1)])), (p1, .inr (5, [.int (vI a1), .int (vI b1), .int (vI d1)]))] := by
  refine CtI.of (cc := cX4_invert) (maxL := 2) (by decide +kernel) rfl rfl (Nat.le_of_ble_eq_true rfl) ?_
  intro p e s m below meth c A ls hcx hK hP hD hA hl
  obtain ⟨hx, hb, hr, hml, hown, hts, hlocks⟩ := hcx
  have hS : va_S A s.heap s.heap [] := va_S.rf
  have hown : s.vm.findClass RX4 = some m.cls := hown
  have hl : lv_has ls 2 [(0, .ref h0), (1, .ref o)] := hl
  have f19 := hts (.fieldLink RX4 19 "FieldFilter$State" "p" "LFieldFilter$Symmetric;") (by decide +kernel)
  have iX4 : ∀ w ∈ u_ws RX4 TX4 2, w ∈ wsX4_invert := by decide +kernel
  refine lv_aload_n hx hb dX4_invert_0 rfl (lv_at hl 0 rfl) ?_
  refine va_get (D := D) (ci := 4) (v := .ref p0) (C := RX4) (T := TX4) (N := 2) hx hb hts iX4 hown hK.1 hP 0 rfl rfl 1 (by decide) f19 (fun _ h9 => h9) rfl dX4_invert_1 ?_
  refine lv_aload_n hx hb dX4_invert_4 rfl (lv_at hl 1 rfl) ?_
  refine va_get (D := D) (ci := 4) (v := .ref p1) (C := RX4) (T := TX4) (N := 2) hx hb hts iX4 hown hK.1 hP 3 rfl rfl 1 (by decide) f19 (fun _ h9 => h9) rfl dX4_invert_5 ?_
  have ct8 := c_X5_invert0 l D tys p0 p1 a b d a1 b1 d1 h9
  refine k_goI (va_runV (As := [.ref p1]) (rest := []) ⟨hx, hb, hml, hown, hts⟩ (ct8.2 _) (cwV 1 hts gX4_invert_X5_invert rfl rfl rfl (by decide +kernel) ⟨Nat.le_of_ble_eq_true rfl, Nat.le_of_ble_eq_true rfl⟩) ⟨(k_pre hK hP hD (is := [2, 5]) rfl rfl).1, va_recv hK.1 hP (ci := 5) (q0 := 2) rfl rfl, (k_pre hK hP hD (is := [2, 5]) rfl rfl).2⟩ rfl rfl hl.1 rfl (lv_room (Nat.le_of_ble_eq_true rfl)) dX4_invert_8 ⟨Nat.le_of_ble_eq_true rfl, Nat.le_of_ble_eq_true rfl⟩) ct8.1 hP hD hS hA [2, 5] rfl rfl (fun H locs hP hD hS => ?_)
  have hP : va_P D vwCl [(h0, .inr (4, [.ref x0, .ref p0])), (x0, .inr (0, [.int u, .int v])), (p0, .inr (5, [.int a, .int b, .int d])), (o, .inr (4, [.ref x1, .ref p1])), (x1, .inr (0, [.int (vI u1), .int (vI v1)])), (p1, .inr (5, [.int (vI a1), .int (vI b1), .int (vI d1)]))] H := hP
  have hD : va_D A [(h0, .inr (4, [.ref x0, .ref p0])), (x0, .inr (0, [.int u, .int v])), (p0, .inr (5, [.int a, .int b, .int d])), (o, .inr (4, [.ref x1, .ref p1])), (x1, .inr (0, [.int (vI u1), .int (vI v1)])), (p1, .inr (5, [.int (vI a1), .int (vI b1), .int (vI d1)]))] := hD
  refine n_if_ne (tgt := 16) hx hb (by unfold r32; decide) dX4_invert_11 (by decide) (fun h11 => False.elim (absurd rfl h11)) (fun h11 => ?_)
  refine n_iconst hx hb dX4_invert_14 ?_
  exact k_zret (b := false) hx hb hr hlocks dX4_invert_15 hP hS rfl rfl

set_option maxHeartbeats 4000000 in
set_option maxRecDepth 100000 in
/--  -/
theorem c_X4_invert1 (l : Launch) (D : va_G) (tys : List (ClassId × FieldType)) (h0 x0 p0 o x1 p1 : Nat) (u v a b d : Int32) (u1 v1 a1 b1 d1 : Zp) (h9 : ¬ a1 * d1 - b1 * b1 = 0) : CtI l D tys yX4_invert wsX4_invert 4 86 [.ref h0, .ref o] (jI (iB true)) [(h0, .inr (4, [.ref x0, .ref p0])), (x0, .inr (0, [.int u, .int v])), (p0, .inr (5, [.int a, .int b, .int d])), (o, .inr (4, [.ref x1, .ref p1])), (x1, .inr (0, [.int (vI u1), .int (vI v1)])), (p1, .inr (5, [.int (vI a1), .int (vI b1), .int (vI d1)]))] [(h0, .inr (4, [.ref x0, .ref p0])), (x0, .inr (0, [.int (vI ((d1 * zinv (a1 * d1 - b1 * b1)) * u1 + (0 - b1 * zinv (a1 * d1 - b1 * b1)) * v1)), .int (vI ((0 - b1 * zinv (a1 * d1 - b1 * b1)) * u1 + (a1 * zinv (a1 * d1 - b1 * b1)) * v1))])), (p0, .inr (5, [.int (vI (d1 * zinv (a1 * d1 - b1 * b1))), .int (vI (0 - b1 * zinv (a1 * d1 - b1 * b1))), .int (vI (a1 * zinv (a1 * d1 - b1 * b1)))])), (o, .inr (4, [.ref x1, .ref p1])), (x1, .inr (0, [.int (vI u1), .int (vI v1)])), (p1, .inr (5, [.int (vI a1), .int (vI b1), .int (vI d1)]))] := by
  refine CtI.of (cc := cX4_invert) (maxL := 2) (by decide +kernel) rfl rfl (Nat.le_of_ble_eq_true rfl) ?_
  intro p e s m below meth c A ls hcx hK hP hD hA hl
  obtain ⟨hx, hb, hr, hml, hown, hts, hlocks⟩ := hcx
  have hS : va_S A s.heap s.heap [] := va_S.rf
  have hown : s.vm.findClass RX4 = some m.cls := hown
  have hl : lv_has ls 2 [(0, .ref h0), (1, .ref o)] := hl
  have f19 := hts (.fieldLink RX4 19 "FieldFilter$State" "p" "LFieldFilter$Symmetric;") (by decide +kernel)
  have iX4 : ∀ w ∈ u_ws RX4 TX4 2, w ∈ wsX4_invert := by decide +kernel
  have f10 := hts (.fieldLink RX4 10 "FieldFilter$State" "x" "LFieldFilter$Column;") (by decide +kernel)
  refine lv_aload_n hx hb dX4_invert_0 rfl (lv_at hl 0 rfl) ?_
  refine va_get (D := D) (ci := 4) (v := .ref p0) (C := RX4) (T := TX4) (N := 2) hx hb hts iX4 hown hK.1 hP 0 rfl rfl 1 (by decide) f19 (fun _ h9 => h9) rfl dX4_invert_1 ?_
  refine lv_aload_n hx hb dX4_invert_4 rfl (lv_at hl 1 rfl) ?_
  refine va_get (D := D) (ci := 4) (v := .ref p1) (C := RX4) (T := TX4) (N := 2) hx hb hts iX4 hown hK.1 hP 3 rfl rfl 1 (by decide) f19 (fun _ h9 => h9) rfl dX4_invert_5 ?_
  have ct8 := c_X5_invert1 l D tys p0 p1 a b d a1 b1 d1 h9
  refine k_goI (va_runV (As := [.ref p1]) (rest := []) ⟨hx, hb, hml, hown, hts⟩ (ct8.2 _) (cwV 1 hts gX4_invert_X5_invert rfl rfl rfl (by decide +kernel) ⟨Nat.le_of_ble_eq_true rfl, Nat.le_of_ble_eq_true rfl⟩) ⟨(k_pre hK hP hD (is := [2, 5]) rfl rfl).1, va_recv hK.1 hP (ci := 5) (q0 := 2) rfl rfl, (k_pre hK hP hD (is := [2, 5]) rfl rfl).2⟩ rfl rfl hl.1 rfl (lv_room (Nat.le_of_ble_eq_true rfl)) dX4_invert_8 ⟨Nat.le_of_ble_eq_true rfl, Nat.le_of_ble_eq_true rfl⟩) ct8.1 hP hD hS hA [2, 5] rfl rfl (fun H locs hP hD hS => ?_)
  have hP : va_P D vwCl [(h0, .inr (4, [.ref x0, .ref p0])), (x0, .inr (0, [.int u, .int v])), (p0, .inr (5, [.int (vI (d1 * zinv (a1 * d1 - b1 * b1))), .int (vI (0 - b1 * zinv (a1 * d1 - b1 * b1))), .int (vI (a1 * zinv (a1 * d1 - b1 * b1)))])), (o, .inr (4, [.ref x1, .ref p1])), (x1, .inr (0, [.int (vI u1), .int (vI v1)])), (p1, .inr (5, [.int (vI a1), .int (vI b1), .int (vI d1)]))] H := hP
  have hD : va_D A [(h0, .inr (4, [.ref x0, .ref p0])), (x0, .inr (0, [.int u, .int v])), (p0, .inr (5, [.int (vI (d1 * zinv (a1 * d1 - b1 * b1))), .int (vI (0 - b1 * zinv (a1 * d1 - b1 * b1))), .int (vI (a1 * zinv (a1 * d1 - b1 * b1)))])), (o, .inr (4, [.ref x1, .ref p1])), (x1, .inr (0, [.int (vI u1), .int (vI v1)])), (p1, .inr (5, [.int (vI a1), .int (vI b1), .int (vI d1)]))] := hD
  refine n_if_ne (tgt := 16) hx hb (by unfold r32; decide) dX4_invert_11 (by decide) (fun h11 => ?_) (fun h11 => False.elim (absurd h11 (by decide)))
  refine lv_aload_n hx hb dX4_invert_16 rfl (lv_at hl 0 rfl) ?_
  refine va_get (D := D) (ci := 4) (v := .ref x0) (C := RX4) (T := TX4) (N := 2) hx hb hts iX4 hown hK.1 hP 0 rfl rfl 0 (by decide) f10 (fun _ h9 => h9) rfl dX4_invert_17 ?_
  refine lv_aload_n hx hb dX4_invert_20 rfl (lv_at hl 1 rfl) ?_
  refine va_get (D := D) (ci := 4) (v := .ref x1) (C := RX4) (T := TX4) (N := 2) hx hb hts iX4 hown hK.1 hP 3 rfl rfl 0 (by decide) f10 (fun _ h9 => h9) rfl dX4_invert_21 ?_
  have ct24 := c_X0_copy l D tys x0 x1 u v (vI u1) (vI v1)
  refine k_goV (va_runV (As := [.ref x1]) (rest := []) ⟨hx, hb, hml, hown, hts⟩ (ct24.2 _) (cwV 1 hts gX4_invert_X0_copy rfl rfl rfl (by decide +kernel) ⟨Nat.le_of_ble_eq_true rfl, Nat.le_of_ble_eq_true rfl⟩) ⟨(k_pre hK hP hD (is := [1, 4]) rfl rfl).1, va_recv hK.1 hP (ci := 0) (q0 := 1) rfl rfl, (k_pre hK hP hD (is := [1, 4]) rfl rfl).2⟩ rfl rfl hl.1 rfl (lv_room (Nat.le_of_ble_eq_true rfl)) dX4_invert_24 ⟨Nat.le_of_ble_eq_true rfl, Nat.le_of_ble_eq_true rfl⟩) ct24.1 hP hD hS hA [1, 4] rfl rfl (fun H locs hP hD hS => ?_)
  have hP : va_P D vwCl [(h0, .inr (4, [.ref x0, .ref p0])), (x0, .inr (0, [.int (vI u1), .int (vI v1)])), (p0, .inr (5, [.int (vI (d1 * zinv (a1 * d1 - b1 * b1))), .int (vI (0 - b1 * zinv (a1 * d1 - b1 * b1))), .int (vI (a1 * zinv (a1 * d1 - b1 * b1)))])), (o, .inr (4, [.ref x1, .ref p1])), (x1, .inr (0, [.int (vI u1), .int (vI v1)])), (p1, .inr (5, [.int (vI a1), .int (vI b1), .int (vI d1)]))] H := hP
  have hD : va_D A [(h0, .inr (4, [.ref x0, .ref p0])), (x0, .inr (0, [.int (vI u1), .int (vI v1)])), (p0, .inr (5, [.int (vI (d1 * zinv (a1 * d1 - b1 * b1))), .int (vI (0 - b1 * zinv (a1 * d1 - b1 * b1))), .int (vI (a1 * zinv (a1 * d1 - b1 * b1)))])), (o, .inr (4, [.ref x1, .ref p1])), (x1, .inr (0, [.int (vI u1), .int (vI v1)])), (p1, .inr (5, [.int (vI a1), .int (vI b1), .int (vI d1)]))] := hD
  refine lv_aload_n hx hb dX4_invert_27 rfl (lv_at hl 0 rfl) ?_
  refine va_get (D := D) (ci := 4) (v := .ref p0) (C := RX4) (T := TX4) (N := 2) hx hb hts iX4 hown hK.1 hP 0 rfl rfl 1 (by decide) f19 (fun _ h9 => h9) rfl dX4_invert_28 ?_
  refine lv_aload_n hx hb dX4_invert_31 rfl (lv_at hl 0 rfl) ?_
  refine va_get (D := D) (ci := 4) (v := .ref x0) (C := RX4) (T := TX4) (N := 2) hx hb hts iX4 hown hK.1 hP 0 rfl rfl 0 (by decide) f10 (fun _ h9 => h9) rfl dX4_invert_32 ?_
  have ct35 := c_X5_multiply l D tys p0 x0 (d1 * zinv (a1 * d1 - b1 * b1)) (0 - b1 * zinv (a1 * d1 - b1 * b1)) (a1 * zinv (a1 * d1 - b1 * b1)) u1 v1
  refine k_goV (va_runV (As := [.ref x0]) (rest := []) ⟨hx, hb, hml, hown, hts⟩ (ct35.2 _) (cwV 1 hts gX4_invert_X5_multiply rfl rfl rfl (by decide +kernel) ⟨Nat.le_of_ble_eq_true rfl, Nat.le_of_ble_eq_true rfl⟩) ⟨(k_pre hK hP hD (is := [2, 1]) rfl rfl).1, va_recv hK.1 hP (ci := 5) (q0 := 2) rfl rfl, (k_pre hK hP hD (is := [2, 1]) rfl rfl).2⟩ rfl rfl hl.1 rfl (lv_room (Nat.le_of_ble_eq_true rfl)) dX4_invert_35 ⟨Nat.le_of_ble_eq_true rfl, Nat.le_of_ble_eq_true rfl⟩) ct35.1 hP hD hS hA [2, 1] rfl rfl (fun H locs hP hD hS => ?_)
  have hP : va_P D vwCl [(h0, .inr (4, [.ref x0, .ref p0])), (x0, .inr (0, [.int (vI ((d1 * zinv (a1 * d1 - b1 * b1)) * u1 + (0 - b1 * zinv (a1 * d1 - b1 * b1)) * v1)), .int (vI ((0 - b1 * zinv (a1 * d1 - b1 * b1)) * u1 + (a1 * zinv (a1 * d1 - b1 * b1)) * v1))])), (p0, .inr (5, [.int (vI (d1 * zinv (a1 * d1 - b1 * b1))), .int (vI (0 - b1 * zinv (a1 * d1 - b1 * b1))), .int (vI (a1 * zinv (a1 * d1 - b1 * b1)))])), (o, .inr (4, [.ref x1, .ref p1])), (x1, .inr (0, [.int (vI u1), .int (vI v1)])), (p1, .inr (5, [.int (vI a1), .int (vI b1), .int (vI d1)]))] H := hP
  have hD : va_D A [(h0, .inr (4, [.ref x0, .ref p0])), (x0, .inr (0, [.int (vI ((d1 * zinv (a1 * d1 - b1 * b1)) * u1 + (0 - b1 * zinv (a1 * d1 - b1 * b1)) * v1)), .int (vI ((0 - b1 * zinv (a1 * d1 - b1 * b1)) * u1 + (a1 * zinv (a1 * d1 - b1 * b1)) * v1))])), (p0, .inr (5, [.int (vI (d1 * zinv (a1 * d1 - b1 * b1))), .int (vI (0 - b1 * zinv (a1 * d1 - b1 * b1))), .int (vI (a1 * zinv (a1 * d1 - b1 * b1)))])), (o, .inr (4, [.ref x1, .ref p1])), (x1, .inr (0, [.int (vI u1), .int (vI v1)])), (p1, .inr (5, [.int (vI a1), .int (vI b1), .int (vI d1)]))] := hD
  refine n_iconst hx hb dX4_invert_38 ?_
  exact k_zret (b := true) hx hb hr hlocks dX4_invert_39 hP hS rfl rfl

set_option maxHeartbeats 4000000 in
set_option maxRecDepth 100000 in
/--  -/
theorem c_X3_setF (l : Launch) (D : va_G) (tys : List (ClassId × FieldType)) (h0 q0 : Nat) (f0 f1 f2 f3 a0 a1 a2 a3 : Int32) : CtV l D tys yX3_setF wsX3_setF 0 0 [.ref h0, .int a0, .int a1, .int a2, .int a3] [(h0, .inr (3, [.int f0, .int f1, .int f2, .int f3, .ref q0]))] [(h0, .inr (3, [.int a0, .int a1, .int a2, .int a3, .ref q0]))] := by
  refine CtV.of (cc := cX3_setF) (maxL := 5) (by decide +kernel) rfl rfl (Nat.le_of_ble_eq_true rfl) ?_
  intro p e s m below meth c A ls hcx hK hP hD hA hl
  obtain ⟨hx, hb, hr, hml, hown, hts, hlocks⟩ := hcx
  have hS : va_S A s.heap s.heap [] := va_S.rf
  have hown : s.vm.findClass RX3 = some m.cls := hown
  have hl : lv_has ls 5 [(0, .ref h0), (1, .int a0), (2, .int a1), (3, .int a2), (4, .int a3)] := hl
  have f26 := hts (.fieldLink RX3 26 "FieldFilter$Motion" "f00" "I") (by decide +kernel)
  have iX3 : ∀ w ∈ u_ws RX3 TX3 5, w ∈ wsX3_setF := by decide +kernel
  have f30 := hts (.fieldLink RX3 30 "FieldFilter$Motion" "f01" "I") (by decide +kernel)
  have f33 := hts (.fieldLink RX3 33 "FieldFilter$Motion" "f10" "I") (by decide +kernel)
  have f36 := hts (.fieldLink RX3 36 "FieldFilter$Motion" "f11" "I") (by decide +kernel)
  refine lv_aload_n hx hb dX3_setF_0 rfl (lv_at hl 0 rfl) ?_
  refine lv_iload_n hx hb dX3_setF_1 rfl (lv_at hl 1 rfl) ?_
  refine va_put (D := D) (ci := 3) (v := .int a0) (ty := .int) (C := RX3) (T := TX3) (N := 5) hx hb hts iX3 tyX3 tyX3_ok nmX3 hown hK.1 hP hD hS 0 rfl rfl 0 (by decide) f26 (fun _ h9 => h9) rfl (by decide +kernel) rfl rfl (Nat.le_of_ble_eq_true rfl) dX3_setF_2 (fun H locs hP hD hS => ?_)
  have hP : va_P D vwCl [(h0, .inr (3, [.int a0, .int f1, .int f2, .int f3, .ref q0]))] H := hP
  have hD : va_D A [(h0, .inr (3, [.int a0, .int f1, .int f2, .int f3, .ref q0]))] := hD
  refine lv_aload_n hx hb dX3_setF_5 rfl (lv_at hl 0 rfl) ?_
  refine lv_iload_n hx hb dX3_setF_6 rfl (lv_at hl 2 rfl) ?_
  refine va_put (D := D) (ci := 3) (v := .int a1) (ty := .int) (C := RX3) (T := TX3) (N := 5) hx hb hts iX3 tyX3 tyX3_ok nmX3 hown hK.1 hP hD hS 0 rfl rfl 1 (by decide) f30 (fun _ h9 => h9) rfl (by decide +kernel) rfl rfl (Nat.le_of_ble_eq_true rfl) dX3_setF_7 (fun H locs hP hD hS => ?_)
  have hP : va_P D vwCl [(h0, .inr (3, [.int a0, .int a1, .int f2, .int f3, .ref q0]))] H := hP
  have hD : va_D A [(h0, .inr (3, [.int a0, .int a1, .int f2, .int f3, .ref q0]))] := hD
  refine lv_aload_n hx hb dX3_setF_10 rfl (lv_at hl 0 rfl) ?_
  refine lv_iload_n hx hb dX3_setF_11 rfl (lv_at hl 3 rfl) ?_
  refine va_put (D := D) (ci := 3) (v := .int a2) (ty := .int) (C := RX3) (T := TX3) (N := 5) hx hb hts iX3 tyX3 tyX3_ok nmX3 hown hK.1 hP hD hS 0 rfl rfl 2 (by decide) f33 (fun _ h9 => h9) rfl (by decide +kernel) rfl rfl (Nat.le_of_ble_eq_true rfl) dX3_setF_12 (fun H locs hP hD hS => ?_)
  have hP : va_P D vwCl [(h0, .inr (3, [.int a0, .int a1, .int a2, .int f3, .ref q0]))] H := hP
  have hD : va_D A [(h0, .inr (3, [.int a0, .int a1, .int a2, .int f3, .ref q0]))] := hD
  refine lv_aload_n hx hb dX3_setF_15 rfl (lv_at hl 0 rfl) ?_
  refine lv_iload hx hb dX3_setF_16 (lv_at hl 4 rfl) ?_
  refine va_put (D := D) (ci := 3) (v := .int a3) (ty := .int) (C := RX3) (T := TX3) (N := 5) hx hb hts iX3 tyX3 tyX3_ok nmX3 hown hK.1 hP hD hS 0 rfl rfl 3 (by decide) f36 (fun _ h9 => h9) rfl (by decide +kernel) rfl rfl (Nat.le_of_ble_eq_true rfl) dX3_setF_18 (fun H locs hP hD hS => ?_)
  have hP : va_P D vwCl [(h0, .inr (3, [.int a0, .int a1, .int a2, .int a3, .ref q0]))] H := hP
  have hD : va_D A [(h0, .inr (3, [.int a0, .int a1, .int a2, .int a3, .ref q0]))] := hD
  exact k_vret hx hb hr hlocks dX3_setF_21 hP hS

set_option maxHeartbeats 4000000 in
set_option maxRecDepth 100000 in
/--  -/
theorem c_X3_read (l : Launch) (D : va_G) (tys : List (ClassId × FieldType)) {cI : ClassId} (htI : tys[0]? = some (cI, .int)) (h0 q0 t : Nat) (f0 f1 f2 f3 a b d : Int32) (g : Nat → Zp) : CtV l D tys yX3_read wsX3_read 1 24 [.ref h0, .ref t] [(h0, .inr (3, [.int f0, .int f1, .int f2, .int f3, .ref q0])), (q0, .inr (5, [.int a, .int b, .int d])), (t, .inl (cI, 7, .inl (fun i => vI (g i))))] [(h0, .inr (3, [.int (vI (g 0)), .int (vI (g 1)), .int (vI (g 2)), .int (vI (g 3)), .ref q0])), (q0, .inr (5, [.int (vI (g 4)), .int (vI (g 5)), .int (vI (g 6))])), (t, .inl (cI, 7, .inl (fun i => vI (g i))))] := by
  refine CtV.of (cc := cX3_read) (maxL := 2) (by decide +kernel) rfl rfl (Nat.le_of_ble_eq_true rfl) ?_
  intro p e s m below meth c A ls hcx hK hP hD hA hl
  obtain ⟨hx, hb, hr, hml, hown, hts, hlocks⟩ := hcx
  have hS : va_S A s.heap s.heap [] := va_S.rf
  have hown : s.vm.findClass RX3 = some m.cls := hown
  have hl : lv_has ls 2 [(0, .ref h0), (1, .ref t)] := hl
  have f12 := hts (.fieldLink RX3 12 "FieldFilter$Motion" "q" "LFieldFilter$Symmetric;") (by decide +kernel)
  have iX3 : ∀ w ∈ u_ws RX3 TX3 5, w ∈ wsX3_read := by decide +kernel
  refine lv_aload_n hx hb dX3_read_0 rfl (lv_at hl 0 rfl) ?_
  refine lv_aload_n hx hb dX3_read_1 rfl (lv_at hl 1 rfl) ?_
  refine n_iconst hx hb dX3_read_2 ?_
  refine n_iald (i := 0) hx hb hK hP 2 0 rfl htI rfl (Nat.le_of_ble_eq_true rfl) (Nat.le_of_ble_eq_true rfl) dX3_read_3 ?_
  refine lv_aload_n hx hb dX3_read_4 rfl (lv_at hl 1 rfl) ?_
  refine n_iconst hx hb dX3_read_5 ?_
  refine n_iald (i := 1) hx hb hK hP 2 0 rfl htI rfl (Nat.le_of_ble_eq_true rfl) (Nat.le_of_ble_eq_true rfl) dX3_read_6 ?_
  refine lv_aload_n hx hb dX3_read_7 rfl (lv_at hl 1 rfl) ?_
  refine n_iconst hx hb dX3_read_8 ?_
  refine n_iald (i := 2) hx hb hK hP 2 0 rfl htI rfl (Nat.le_of_ble_eq_true rfl) (Nat.le_of_ble_eq_true rfl) dX3_read_9 ?_
  refine lv_aload_n hx hb dX3_read_10 rfl (lv_at hl 1 rfl) ?_
  refine n_iconst hx hb dX3_read_11 ?_
  refine n_iald (i := 3) hx hb hK hP 2 0 rfl htI rfl (Nat.le_of_ble_eq_true rfl) (Nat.le_of_ble_eq_true rfl) dX3_read_12 ?_
  have ct13 := c_X3_setF l D tys h0 q0 f0 f1 f2 f3 (vI (g 0)) (vI (g 1)) (vI (g 2)) (vI (g 3))
  refine k_goV (va_runV (As := [.int (vI (g 0)), .int (vI (g 1)), .int (vI (g 2)), .int (vI (g 3))]) (rest := []) ⟨hx, hb, hml, hown, hts⟩ (ct13.2 _) (cwV 4 hts gX3_read_X3_setF rfl rfl rfl (by decide +kernel) ⟨Nat.le_of_ble_eq_true rfl, Nat.le_of_ble_eq_true rfl⟩) ⟨(k_pre hK hP hD (is := [0]) rfl rfl).1, va_recv hK.1 hP (ci := 3) (q0 := 0) rfl rfl, (k_pre hK hP hD (is := [0]) rfl rfl).2⟩ rfl rfl hl.1 rfl (lv_room (Nat.le_of_ble_eq_true rfl)) dX3_read_13 ⟨Nat.le_of_ble_eq_true rfl, Nat.le_of_ble_eq_true rfl⟩) ct13.1 hP hD hS hA [0] rfl rfl (fun H locs hP hD hS => ?_)
  have hP : va_P D vwCl [(h0, .inr (3, [.int (vI (g 0)), .int (vI (g 1)), .int (vI (g 2)), .int (vI (g 3)), .ref q0])), (q0, .inr (5, [.int a, .int b, .int d])), (t, .inl (cI, 7, .inl (fun i => vI (g i))))] H := hP
  have hD : va_D A [(h0, .inr (3, [.int (vI (g 0)), .int (vI (g 1)), .int (vI (g 2)), .int (vI (g 3)), .ref q0])), (q0, .inr (5, [.int a, .int b, .int d])), (t, .inl (cI, 7, .inl (fun i => vI (g i))))] := hD
  refine lv_aload_n hx hb dX3_read_16 rfl (lv_at hl 0 rfl) ?_
  refine va_get (D := D) (ci := 3) (v := .ref q0) (C := RX3) (T := TX3) (N := 5) hx hb hts iX3 hown hK.1 hP 0 rfl rfl 4 (by decide) f12 (fun _ h9 => h9) rfl dX3_read_17 ?_
  refine lv_aload_n hx hb dX3_read_20 rfl (lv_at hl 1 rfl) ?_
  refine n_iconst hx hb dX3_read_21 ?_
  refine n_iald (i := 4) hx hb hK hP 2 0 rfl htI rfl (Nat.le_of_ble_eq_true rfl) (Nat.le_of_ble_eq_true rfl) dX3_read_22 ?_
  refine lv_aload_n hx hb dX3_read_23 rfl (lv_at hl 1 rfl) ?_
  refine n_iconst hx hb dX3_read_24 ?_
  refine n_iald (i := 5) hx hb hK hP 2 0 rfl htI rfl (Nat.le_of_ble_eq_true rfl) (Nat.le_of_ble_eq_true rfl) dX3_read_25 ?_
  refine lv_aload_n hx hb dX3_read_26 rfl (lv_at hl 1 rfl) ?_
  refine n_bipush hx hb dX3_read_27 (by decide) ?_
  refine n_iald (i := 6) hx hb hK hP 2 0 rfl htI rfl (Nat.le_of_ble_eq_true rfl) (Nat.le_of_ble_eq_true rfl) dX3_read_29 ?_
  have ct30 := c_X5_set l D tys q0 a b d (vI (g 4)) (vI (g 5)) (vI (g 6))
  refine k_goV (va_runV (As := [.int (vI (g 4)), .int (vI (g 5)), .int (vI (g 6))]) (rest := []) ⟨hx, hb, hml, hown, hts⟩ (ct30.2 _) (cwV 3 hts gX3_read_X5_set rfl rfl rfl (by decide +kernel) ⟨Nat.le_of_ble_eq_true rfl, Nat.le_of_ble_eq_true rfl⟩) ⟨(k_pre hK hP hD (is := [1]) rfl rfl).1, va_recv hK.1 hP (ci := 5) (q0 := 1) rfl rfl, (k_pre hK hP hD (is := [1]) rfl rfl).2⟩ rfl rfl hl.1 rfl (lv_room (Nat.le_of_ble_eq_true rfl)) dX3_read_30 ⟨Nat.le_of_ble_eq_true rfl, Nat.le_of_ble_eq_true rfl⟩) ct30.1 hP hD hS hA [1] rfl rfl (fun H locs hP hD hS => ?_)
  have hP : va_P D vwCl [(h0, .inr (3, [.int (vI (g 0)), .int (vI (g 1)), .int (vI (g 2)), .int (vI (g 3)), .ref q0])), (q0, .inr (5, [.int (vI (g 4)), .int (vI (g 5)), .int (vI (g 6))])), (t, .inl (cI, 7, .inl (fun i => vI (g i))))] H := hP
  have hD : va_D A [(h0, .inr (3, [.int (vI (g 0)), .int (vI (g 1)), .int (vI (g 2)), .int (vI (g 3)), .ref q0])), (q0, .inr (5, [.int (vI (g 4)), .int (vI (g 5)), .int (vI (g 6))])), (t, .inl (cI, 7, .inl (fun i => vI (g i))))] := hD
  exact k_vret hx hb hr hlocks dX3_read_33 hP hS

set_option maxHeartbeats 4000000 in
set_option maxRecDepth 100000 in
/--  -/
theorem c_X3_copy (l : Launch) (D : va_G) (tys : List (ClassId × FieldType)) (h0 q0 o q1 : Nat) (f0 f1 f2 f3 a b d g0 g1 g2 g3 a1 b1 d1 : Int32) : CtV l D tys yX3_copy wsX3_copy 2 44 [.ref h0, .ref o] [(h0, .inr (3, [.int f0, .int f1, .int f2, .int f3, .ref q0])), (q0, .inr (5, [.int a, .int b, .int d])), (o, .inr (3, [.int g0, .int g1, .int g2, .int g3, .ref q1])), (q1, .inr (5, [.int a1, .int b1, .int d1]))] [(h0, .inr (3, [.int g0, .int g1, .int g2, .int g3, .ref q0])), (q0, .inr (5, [.int a1, .int b1, .int d1])), (o, .inr (3, [.int g0, .int g1, .int g2, .int g3, .ref q1])), (q1, .inr (5, [.int a1, .int b1, .int d1]))] := by
  refine CtV.of (cc := cX3_copy) (maxL := 2) (by decide +kernel) rfl rfl (Nat.le_of_ble_eq_true rfl) ?_
  intro p e s m below meth c A ls hcx hK hP hD hA hl
  obtain ⟨hx, hb, hr, hml, hown, hts, hlocks⟩ := hcx
  have hS : va_S A s.heap s.heap [] := va_S.rf
  have hown : s.vm.findClass RX3 = some m.cls := hown
  have hl : lv_has ls 2 [(0, .ref h0), (1, .ref o)] := hl
  have f26 := hts (.fieldLink RX3 26 "FieldFilter$Motion" "f00" "I") (by decide +kernel)
  have iX3 : ∀ w ∈ u_ws RX3 TX3 5, w ∈ wsX3_copy := by decide +kernel
  have f30 := hts (.fieldLink RX3 30 "FieldFilter$Motion" "f01" "I") (by decide +kernel)
  have f33 := hts (.fieldLink RX3 33 "FieldFilter$Motion" "f10" "I") (by decide +kernel)
  have f36 := hts (.fieldLink RX3 36 "FieldFilter$Motion" "f11" "I") (by decide +kernel)
  have f12 := hts (.fieldLink RX3 12 "FieldFilter$Motion" "q" "LFieldFilter$Symmetric;") (by decide +kernel)
  refine lv_aload_n hx hb dX3_copy_0 rfl (lv_at hl 0 rfl) ?_
  refine lv_aload_n hx hb dX3_copy_1 rfl (lv_at hl 1 rfl) ?_
  refine va_get (D := D) (ci := 3) (v := .int g0) (C := RX3) (T := TX3) (N := 5) hx hb hts iX3 hown hK.1 hP 2 rfl rfl 0 (by decide) f26 (fun _ h9 => h9) rfl dX3_copy_2 ?_
  refine lv_aload_n hx hb dX3_copy_5 rfl (lv_at hl 1 rfl) ?_
  refine va_get (D := D) (ci := 3) (v := .int g1) (C := RX3) (T := TX3) (N := 5) hx hb hts iX3 hown hK.1 hP 2 rfl rfl 1 (by decide) f30 (fun _ h9 => h9) rfl dX3_copy_6 ?_
  refine lv_aload_n hx hb dX3_copy_9 rfl (lv_at hl 1 rfl) ?_
  refine va_get (D := D) (ci := 3) (v := .int g2) (C := RX3) (T := TX3) (N := 5) hx hb hts iX3 hown hK.1 hP 2 rfl rfl 2 (by decide) f33 (fun _ h9 => h9) rfl dX3_copy_10 ?_
  refine lv_aload_n hx hb dX3_copy_13 rfl (lv_at hl 1 rfl) ?_
  refine va_get (D := D) (ci := 3) (v := .int g3) (C := RX3) (T := TX3) (N := 5) hx hb hts iX3 hown hK.1 hP 2 rfl rfl 3 (by decide) f36 (fun _ h9 => h9) rfl dX3_copy_14 ?_
  have ct17 := c_X3_setF l D tys h0 q0 f0 f1 f2 f3 g0 g1 g2 g3
  refine k_goV (va_runV (As := [.int g0, .int g1, .int g2, .int g3]) (rest := []) ⟨hx, hb, hml, hown, hts⟩ (ct17.2 _) (cwV 4 hts gX3_copy_X3_setF rfl rfl rfl (by decide +kernel) ⟨Nat.le_of_ble_eq_true rfl, Nat.le_of_ble_eq_true rfl⟩) ⟨(k_pre hK hP hD (is := [0]) rfl rfl).1, va_recv hK.1 hP (ci := 3) (q0 := 0) rfl rfl, (k_pre hK hP hD (is := [0]) rfl rfl).2⟩ rfl rfl hl.1 rfl (lv_room (Nat.le_of_ble_eq_true rfl)) dX3_copy_17 ⟨Nat.le_of_ble_eq_true rfl, Nat.le_of_ble_eq_true rfl⟩) ct17.1 hP hD hS hA [0] rfl rfl (fun H locs hP hD hS => ?_)
  have hP : va_P D vwCl [(h0, .inr (3, [.int g0, .int g1, .int g2, .int g3, .ref q0])), (q0, .inr (5, [.int a, .int b, .int d])), (o, .inr (3, [.int g0, .int g1, .int g2, .int g3, .ref q1])), (q1, .inr (5, [.int a1, .int b1, .int d1]))] H := hP
  have hD : va_D A [(h0, .inr (3, [.int g0, .int g1, .int g2, .int g3, .ref q0])), (q0, .inr (5, [.int a, .int b, .int d])), (o, .inr (3, [.int g0, .int g1, .int g2, .int g3, .ref q1])), (q1, .inr (5, [.int a1, .int b1, .int d1]))] := hD
  refine lv_aload_n hx hb dX3_copy_20 rfl (lv_at hl 0 rfl) ?_
  refine va_get (D := D) (ci := 3) (v := .ref q0) (C := RX3) (T := TX3) (N := 5) hx hb hts iX3 hown hK.1 hP 0 rfl rfl 4 (by decide) f12 (fun _ h9 => h9) rfl dX3_copy_21 ?_
  refine lv_aload_n hx hb dX3_copy_24 rfl (lv_at hl 1 rfl) ?_
  refine va_get (D := D) (ci := 3) (v := .ref q1) (C := RX3) (T := TX3) (N := 5) hx hb hts iX3 hown hK.1 hP 2 rfl rfl 4 (by decide) f12 (fun _ h9 => h9) rfl dX3_copy_25 ?_
  have ct28 := c_X5_copy l D tys q0 q1 a b d a1 b1 d1
  refine k_goV (va_runV (As := [.ref q1]) (rest := []) ⟨hx, hb, hml, hown, hts⟩ (ct28.2 _) (cwV 1 hts gX3_copy_X5_copy rfl rfl rfl (by decide +kernel) ⟨Nat.le_of_ble_eq_true rfl, Nat.le_of_ble_eq_true rfl⟩) ⟨(k_pre hK hP hD (is := [1, 3]) rfl rfl).1, va_recv hK.1 hP (ci := 5) (q0 := 1) rfl rfl, (k_pre hK hP hD (is := [1, 3]) rfl rfl).2⟩ rfl rfl hl.1 rfl (lv_room (Nat.le_of_ble_eq_true rfl)) dX3_copy_28 ⟨Nat.le_of_ble_eq_true rfl, Nat.le_of_ble_eq_true rfl⟩) ct28.1 hP hD hS hA [1, 3] rfl rfl (fun H locs hP hD hS => ?_)
  have hP : va_P D vwCl [(h0, .inr (3, [.int g0, .int g1, .int g2, .int g3, .ref q0])), (q0, .inr (5, [.int a1, .int b1, .int d1])), (o, .inr (3, [.int g0, .int g1, .int g2, .int g3, .ref q1])), (q1, .inr (5, [.int a1, .int b1, .int d1]))] H := hP
  have hD : va_D A [(h0, .inr (3, [.int g0, .int g1, .int g2, .int g3, .ref q0])), (q0, .inr (5, [.int a1, .int b1, .int d1])), (o, .inr (3, [.int g0, .int g1, .int g2, .int g3, .ref q1])), (q1, .inr (5, [.int a1, .int b1, .int d1]))] := hD
  exact k_vret hx hb hr hlocks dX3_copy_31 hP hS

set_option maxHeartbeats 4000000 in
set_option maxRecDepth 100000 in
/--  -/
theorem c_X3_spread (l : Launch) (D : va_G) (tys : List (ClassId × FieldType)) (h0 q0 o : Nat) (f0 f1 f2 f3 k0 k1 k2 a b d : Zp) : CtV l D tys yX3_spread wsX3_spread 1 23 [.ref h0, .ref o] [(h0, .inr (3, [.int (vI f0), .int (vI f1), .int (vI f2), .int (vI f3), .ref q0])), (q0, .inr (5, [.int (vI k0), .int (vI k1), .int (vI k2)])), (o, .inr (5, [.int (vI a), .int (vI b), .int (vI d)]))] [(h0, .inr (3, [.int (vI f0), .int (vI f1), .int (vI f2), .int (vI f3), .ref q0])), (q0, .inr (5, [.int (vI k0), .int (vI k1), .int (vI k2)])), (o, .inr (5, [.int (vI (((((f0 * a) + (f1 * b)) * f0) + (((f0 * b) + (f1 * d)) * f1)) + k0)), .int (vI (((((f0 * a) + (f1 * b)) * f2) + (((f0 * b) + (f1 * d)) * f3)) + k1)), .int (vI (((((f2 * a) + (f3 * b)) * f2) + (((f2 * b) + (f3 * d)) * f3)) + k2))]))] := by
  refine CtV.of (cc := cX3_spread) (maxL := 6) (by decide +kernel) rfl rfl (Nat.le_of_ble_eq_true rfl) ?_
  intro p e s m below meth c A ls hcx hK hP hD hA hl
  obtain ⟨hx, hb, hr, hml, hown, hts, hlocks⟩ := hcx
  have hS : va_S A s.heap s.heap [] := va_S.rf
  have hown : s.vm.findClass RX3 = some m.cls := hown
  have hl : lv_has ls 6 [(0, .ref h0), (1, .ref o)] := hl
  have f26 := hts (.fieldLink RX3 26 "FieldFilter$Motion" "f00" "I") (by decide +kernel)
  have iX3 : ∀ w ∈ u_ws RX3 TX3 5, w ∈ wsX3_spread := by decide +kernel
  have f66 := hts (.fieldLink RX3 66 "FieldFilter$Symmetric" "a00" "I") (by decide +kernel)
  have iX5 : ∀ w ∈ u_ws RX5 TX5 3, w ∈ wsX3_spread := by decide +kernel
  have f30 := hts (.fieldLink RX3 30 "FieldFilter$Motion" "f01" "I") (by decide +kernel)
  have f69 := hts (.fieldLink RX3 69 "FieldFilter$Symmetric" "a01" "I") (by decide +kernel)
  have f72 := hts (.fieldLink RX3 72 "FieldFilter$Symmetric" "a11" "I") (by decide +kernel)
  have f33 := hts (.fieldLink RX3 33 "FieldFilter$Motion" "f10" "I") (by decide +kernel)
  have f36 := hts (.fieldLink RX3 36 "FieldFilter$Motion" "f11" "I") (by decide +kernel)
  have f12 := hts (.fieldLink RX3 12 "FieldFilter$Motion" "q" "LFieldFilter$Symmetric;") (by decide +kernel)
  refine lv_aload_n hx hb dX3_spread_0 rfl (lv_at hl 0 rfl) ?_
  refine va_get (D := D) (ci := 3) (v := .int (vI f0)) (C := RX3) (T := TX3) (N := 5) hx hb hts iX3 hown hK.1 hP 0 rfl rfl 0 (by decide) f26 (fun _ h9 => h9) rfl dX3_spread_1 ?_
  refine lv_aload_n hx hb dX3_spread_4 rfl (lv_at hl 1 rfl) ?_
  refine va_get (D := D) (ci := 5) (v := .int (vI a)) (C := RX5) (T := TX5) (N := 3) hx hb hts iX5 hown hK.1 hP 2 rfl rfl 0 (by decide) f66 (fun _ h9 => h9) rfl dX3_spread_5 ?_
  refine n_imul hx hb dX3_spread_8 ?_
  refine lv_aload_n hx hb dX3_spread_9 rfl (lv_at hl 0 rfl) ?_
  refine va_get (D := D) (ci := 3) (v := .int (vI f1)) (C := RX3) (T := TX3) (N := 5) hx hb hts iX3 hown hK.1 hP 0 rfl rfl 1 (by decide) f30 (fun _ h9 => h9) rfl dX3_spread_10 ?_
  refine lv_aload_n hx hb dX3_spread_13 rfl (lv_at hl 1 rfl) ?_
  refine va_get (D := D) (ci := 5) (v := .int (vI b)) (C := RX5) (T := TX5) (N := 3) hx hb hts iX5 hown hK.1 hP 2 rfl rfl 1 (by decide) f69 (fun _ h9 => h9) rfl dX3_spread_14 ?_
  refine n_imul hx hb dX3_spread_17 ?_
  refine n_iadd hx hb dX3_spread_18 ?_
  refine n_sipush hx hb dX3_spread_19 (by decide) ?_
  refine n_irem hx hb dX3_spread_22 (rp_add (rp_mul (rp_v f0) (rp_v a)) (rp_mul (rp_v f1) (rp_v b))) (Nat.le_of_ble_eq_true rfl) ?_
  refine lv_istore_n (lv' := [(2, .int (vI ((f0 * a) + (f1 * b)))), (0, .ref h0), (1, .ref o)]) hx hb dX3_spread_23 rfl hl (by decide) rfl (fun ls hl => ?_)
  refine lv_aload_n hx hb dX3_spread_24 rfl (lv_at hl 1 rfl) ?_
  refine va_get (D := D) (ci := 3) (v := .int (vI f0)) (C := RX3) (T := TX3) (N := 5) hx hb hts iX3 hown hK.1 hP 0 rfl rfl 0 (by decide) f26 (fun _ h9 => h9) rfl dX3_spread_25 ?_
  refine lv_aload_n hx hb dX3_spread_28 rfl (lv_at hl 2 rfl) ?_
  refine va_get (D := D) (ci := 5) (v := .int (vI b)) (C := RX5) (T := TX5) (N := 3) hx hb hts iX5 hown hK.1 hP 2 rfl rfl 1 (by decide) f69 (fun _ h9 => h9) rfl dX3_spread_29 ?_
  refine n_imul hx hb dX3_spread_32 ?_
  refine lv_aload_n hx hb dX3_spread_33 rfl (lv_at hl 1 rfl) ?_
  refine va_get (D := D) (ci := 3) (v := .int (vI f1)) (C := RX3) (T := TX3) (N := 5) hx hb hts iX3 hown hK.1 hP 0 rfl rfl 1 (by decide) f30 (fun _ h9 => h9) rfl dX3_spread_34 ?_
  refine lv_aload_n hx hb dX3_spread_37 rfl (lv_at hl 2 rfl) ?_
  refine va_get (D := D) (ci := 5) (v := .int (vI d)) (C := RX5) (T := TX5) (N := 3) hx hb hts iX5 hown hK.1 hP 2 rfl rfl 2 (by decide) f72 (fun _ h9 => h9) rfl dX3_spread_38 ?_
  refine n_imul hx hb dX3_spread_41 ?_
  refine n_iadd hx hb dX3_spread_42 ?_
  refine n_sipush hx hb dX3_spread_43 (by decide) ?_
  refine n_irem hx hb dX3_spread_46 (rp_add (rp_mul (rp_v f0) (rp_v b)) (rp_mul (rp_v f1) (rp_v d))) (Nat.le_of_ble_eq_true rfl) ?_
  refine lv_istore_n (lv' := [(3, .int (vI ((f0 * b) + (f1 * d)))), (2, .int (vI ((f0 * a) + (f1 * b)))), (0, .ref h0), (1, .ref o)]) hx hb dX3_spread_47 rfl hl (by decide) rfl (fun ls hl => ?_)
  refine lv_aload_n hx hb dX3_spread_48 rfl (lv_at hl 2 rfl) ?_
  refine va_get (D := D) (ci := 3) (v := .int (vI f2)) (C := RX3) (T := TX3) (N := 5) hx hb hts iX3 hown hK.1 hP 0 rfl rfl 2 (by decide) f33 (fun _ h9 => h9) rfl dX3_spread_49 ?_
  refine lv_aload_n hx hb dX3_spread_52 rfl (lv_at hl 3 rfl) ?_
  refine va_get (D := D) (ci := 5) (v := .int (vI a)) (C := RX5) (T := TX5) (N := 3) hx hb hts iX5 hown hK.1 hP 2 rfl rfl 0 (by decide) f66 (fun _ h9 => h9) rfl dX3_spread_53 ?_
  refine n_imul hx hb dX3_spread_56 ?_
  refine lv_aload_n hx hb dX3_spread_57 rfl (lv_at hl 2 rfl) ?_
  refine va_get (D := D) (ci := 3) (v := .int (vI f3)) (C := RX3) (T := TX3) (N := 5) hx hb hts iX3 hown hK.1 hP 0 rfl rfl 3 (by decide) f36 (fun _ h9 => h9) rfl dX3_spread_58 ?_
  refine lv_aload_n hx hb dX3_spread_61 rfl (lv_at hl 3 rfl) ?_
  refine va_get (D := D) (ci := 5) (v := .int (vI b)) (C := RX5) (T := TX5) (N := 3) hx hb hts iX5 hown hK.1 hP 2 rfl rfl 1 (by decide) f69 (fun _ h9 => h9) rfl dX3_spread_62 ?_
  refine n_imul hx hb dX3_spread_65 ?_
  refine n_iadd hx hb dX3_spread_66 ?_
  refine n_sipush hx hb dX3_spread_67 (by decide) ?_
  refine n_irem hx hb dX3_spread_70 (rp_add (rp_mul (rp_v f2) (rp_v a)) (rp_mul (rp_v f3) (rp_v b))) (Nat.le_of_ble_eq_true rfl) ?_
  refine lv_istore (lv' := [(4, .int (vI ((f2 * a) + (f3 * b)))), (3, .int (vI ((f0 * b) + (f1 * d)))), (2, .int (vI ((f0 * a) + (f1 * b)))), (0, .ref h0), (1, .ref o)]) hx hb dX3_spread_71 hl (by decide) rfl (fun ls hl => ?_)
  refine lv_aload_n hx hb dX3_spread_73 rfl (lv_at hl 3 rfl) ?_
  refine va_get (D := D) (ci := 3) (v := .int (vI f2)) (C := RX3) (T := TX3) (N := 5) hx hb hts iX3 hown hK.1 hP 0 rfl rfl 2 (by decide) f33 (fun _ h9 => h9) rfl dX3_spread_74 ?_
  refine lv_aload_n hx hb dX3_spread_77 rfl (lv_at hl 4 rfl) ?_
  refine va_get (D := D) (ci := 5) (v := .int (vI b)) (C := RX5) (T := TX5) (N := 3) hx hb hts iX5 hown hK.1 hP 2 rfl rfl 1 (by decide) f69 (fun _ h9 => h9) rfl dX3_spread_78 ?_
  refine n_imul hx hb dX3_spread_81 ?_
  refine lv_aload_n hx hb dX3_spread_82 rfl (lv_at hl 3 rfl) ?_
  refine va_get (D := D) (ci := 3) (v := .int (vI f3)) (C := RX3) (T := TX3) (N := 5) hx hb hts iX3 hown hK.1 hP 0 rfl rfl 3 (by decide) f36 (fun _ h9 => h9) rfl dX3_spread_83 ?_
  refine lv_aload_n hx hb dX3_spread_86 rfl (lv_at hl 4 rfl) ?_
  refine va_get (D := D) (ci := 5) (v := .int (vI d)) (C := RX5) (T := TX5) (N := 3) hx hb hts iX5 hown hK.1 hP 2 rfl rfl 2 (by decide) f72 (fun _ h9 => h9) rfl dX3_spread_87 ?_
  refine n_imul hx hb dX3_spread_90 ?_
  refine n_iadd hx hb dX3_spread_91 ?_
  refine n_sipush hx hb dX3_spread_92 (by decide) ?_
  refine n_irem hx hb dX3_spread_95 (rp_add (rp_mul (rp_v f2) (rp_v b)) (rp_mul (rp_v f3) (rp_v d))) (Nat.le_of_ble_eq_true rfl) ?_
  refine lv_istore (lv' := [(5, .int (vI ((f2 * b) + (f3 * d)))), (4, .int (vI ((f2 * a) + (f3 * b)))), (3, .int (vI ((f0 * b) + (f1 * d)))), (2, .int (vI ((f0 * a) + (f1 * b)))), (0, .ref h0), (1, .ref o)]) hx hb dX3_spread_96 hl (by decide) rfl (fun ls hl => ?_)
  refine lv_aload_n hx hb dX3_spread_98 rfl (lv_at hl 5 rfl) ?_
  refine lv_iload_n hx hb dX3_spread_99 rfl (lv_at hl 3 rfl) ?_
  refine lv_aload_n hx hb dX3_spread_100 rfl (lv_at hl 4 rfl) ?_
  refine va_get (D := D) (ci := 3) (v := .int (vI f0)) (C := RX3) (T := TX3) (N := 5) hx hb hts iX3 hown hK.1 hP 0 rfl rfl 0 (by decide) f26 (fun _ h9 => h9) rfl dX3_spread_101 ?_
  refine n_imul hx hb dX3_spread_104 ?_
  refine lv_iload_n hx hb dX3_spread_105 rfl (lv_at hl 2 rfl) ?_
  refine lv_aload_n hx hb dX3_spread_106 rfl (lv_at hl 4 rfl) ?_
  refine va_get (D := D) (ci := 3) (v := .int (vI f1)) (C := RX3) (T := TX3) (N := 5) hx hb hts iX3 hown hK.1 hP 0 rfl rfl 1 (by decide) f30 (fun _ h9 => h9) rfl dX3_spread_107 ?_
  refine n_imul hx hb dX3_spread_110 ?_
  refine n_iadd hx hb dX3_spread_111 ?_
  refine lv_aload_n hx hb dX3_spread_112 rfl (lv_at hl 4 rfl) ?_
  refine va_get (D := D) (ci := 3) (v := .ref q0) (C := RX3) (T := TX3) (N := 5) hx hb hts iX3 hown hK.1 hP 0 rfl rfl 4 (by decide) f12 (fun _ h9 => h9) rfl dX3_spread_113 ?_
  refine va_get (D := D) (ci := 5) (v := .int (vI k0)) (C := RX5) (T := TX5) (N := 3) hx hb hts iX5 hown hK.1 hP 1 rfl rfl 0 (by decide) f66 (fun _ h9 => h9) rfl dX3_spread_116 ?_
  refine n_iadd hx hb dX3_spread_119 ?_
  refine n_sipush hx hb dX3_spread_120 (by decide) ?_
  refine n_irem hx hb dX3_spread_123 (rp_add (rp_add (rp_mul (rp_v ((f0 * a) + (f1 * b))) (rp_v f0)) (rp_mul (rp_v ((f0 * b) + (f1 * d))) (rp_v f1))) (rp_v k0)) (Nat.le_of_ble_eq_true rfl) ?_
  refine lv_iload_n hx hb dX3_spread_124 rfl (lv_at hl 3 rfl) ?_
  refine lv_aload_n hx hb dX3_spread_125 rfl (lv_at hl 4 rfl) ?_
  refine va_get (D := D) (ci := 3) (v := .int (vI f2)) (C := RX3) (T := TX3) (N := 5) hx hb hts iX3 hown hK.1 hP 0 rfl rfl 2 (by decide) f33 (fun _ h9 => h9) rfl dX3_spread_126 ?_
  refine n_imul hx hb dX3_spread_129 ?_
  refine lv_iload_n hx hb dX3_spread_130 rfl (lv_at hl 2 rfl) ?_
  refine lv_aload_n hx hb dX3_spread_131 rfl (lv_at hl 4 rfl) ?_
  refine va_get (D := D) (ci := 3) (v := .int (vI f3)) (C := RX3) (T := TX3) (N := 5) hx hb hts iX3 hown hK.1 hP 0 rfl rfl 3 (by decide) f36 (fun _ h9 => h9) rfl dX3_spread_132 ?_
  refine n_imul hx hb dX3_spread_135 ?_
  refine n_iadd hx hb dX3_spread_136 ?_
  refine lv_aload_n hx hb dX3_spread_137 rfl (lv_at hl 4 rfl) ?_
  refine va_get (D := D) (ci := 3) (v := .ref q0) (C := RX3) (T := TX3) (N := 5) hx hb hts iX3 hown hK.1 hP 0 rfl rfl 4 (by decide) f12 (fun _ h9 => h9) rfl dX3_spread_138 ?_
  refine va_get (D := D) (ci := 5) (v := .int (vI k1)) (C := RX5) (T := TX5) (N := 3) hx hb hts iX5 hown hK.1 hP 1 rfl rfl 1 (by decide) f69 (fun _ h9 => h9) rfl dX3_spread_141 ?_
  refine n_iadd hx hb dX3_spread_144 ?_
  refine n_sipush hx hb dX3_spread_145 (by decide) ?_
  refine n_irem hx hb dX3_spread_148 (rp_add (rp_add (rp_mul (rp_v ((f0 * a) + (f1 * b))) (rp_v f2)) (rp_mul (rp_v ((f0 * b) + (f1 * d))) (rp_v f3))) (rp_v k1)) (Nat.le_of_ble_eq_true rfl) ?_
  refine lv_iload hx hb dX3_spread_149 (lv_at hl 1 rfl) ?_
  refine lv_aload_n hx hb dX3_spread_151 rfl (lv_at hl 4 rfl) ?_
  refine va_get (D := D) (ci := 3) (v := .int (vI f2)) (C := RX3) (T := TX3) (N := 5) hx hb hts iX3 hown hK.1 hP 0 rfl rfl 2 (by decide) f33 (fun _ h9 => h9) rfl dX3_spread_152 ?_
  refine n_imul hx hb dX3_spread_155 ?_
  refine lv_iload hx hb dX3_spread_156 (lv_at hl 0 rfl) ?_
  refine lv_aload_n hx hb dX3_spread_158 rfl (lv_at hl 4 rfl) ?_
  refine va_get (D := D) (ci := 3) (v := .int (vI f3)) (C := RX3) (T := TX3) (N := 5) hx hb hts iX3 hown hK.1 hP 0 rfl rfl 3 (by decide) f36 (fun _ h9 => h9) rfl dX3_spread_159 ?_
  refine n_imul hx hb dX3_spread_162 ?_
  refine n_iadd hx hb dX3_spread_163 ?_
  refine lv_aload_n hx hb dX3_spread_164 rfl (lv_at hl 4 rfl) ?_
  refine va_get (D := D) (ci := 3) (v := .ref q0) (C := RX3) (T := TX3) (N := 5) hx hb hts iX3 hown hK.1 hP 0 rfl rfl 4 (by decide) f12 (fun _ h9 => h9) rfl dX3_spread_165 ?_
  refine va_get (D := D) (ci := 5) (v := .int (vI k2)) (C := RX5) (T := TX5) (N := 3) hx hb hts iX5 hown hK.1 hP 1 rfl rfl 2 (by decide) f72 (fun _ h9 => h9) rfl dX3_spread_168 ?_
  refine n_iadd hx hb dX3_spread_171 ?_
  refine n_sipush hx hb dX3_spread_172 (by decide) ?_
  refine n_irem hx hb dX3_spread_175 (rp_add (rp_add (rp_mul (rp_v ((f2 * a) + (f3 * b))) (rp_v f2)) (rp_mul (rp_v ((f2 * b) + (f3 * d))) (rp_v f3))) (rp_v k2)) (Nat.le_of_ble_eq_true rfl) ?_
  have ct176 := c_X5_set l D tys o (vI a) (vI b) (vI d) (vI (((((f0 * a) + (f1 * b)) * f0) + (((f0 * b) + (f1 * d)) * f1)) + k0)) (vI (((((f0 * a) + (f1 * b)) * f2) + (((f0 * b) + (f1 * d)) * f3)) + k1)) (vI (((((f2 * a) + (f3 * b)) * f2) + (((f2 * b) + (f3 * d)) * f3)) + k2))
  refine k_goV (va_runV (As := [.int (vI (((((f0 * a) + (f1 * b)) * f0) + (((f0 * b) + (f1 * d)) * f1)) + k0)), .int (vI (((((f0 * a) + (f1 * b)) * f2) + (((f0 * b) + (f1 * d)) * f3)) + k1)), .int (vI (((((f2 * a) + (f3 * b)) * f2) + (((f2 * b) + (f3 * d)) * f3)) + k2))]) (rest := []) ⟨hx, hb, hml, hown, hts⟩ (ct176.2 _) (cwV 3 hts gX3_spread_X5_set rfl rfl rfl (by decide +kernel) ⟨Nat.le_of_ble_eq_true rfl, Nat.le_of_ble_eq_true rfl⟩) ⟨(k_pre hK hP hD (is := [2]) rfl rfl).1, va_recv hK.1 hP (ci := 5) (q0 := 2) rfl rfl, (k_pre hK hP hD (is := [2]) rfl rfl).2⟩ rfl rfl hl.1 rfl (lv_room (Nat.le_of_ble_eq_true rfl)) dX3_spread_176 ⟨Nat.le_of_ble_eq_true rfl, Nat.le_of_ble_eq_true rfl⟩) ct176.1 hP hD hS hA [2] rfl rfl (fun H locs hP hD hS => ?_)
  have hP : va_P D vwCl [(h0, .inr (3, [.int (vI f0), .int (vI f1), .int (vI f2), .int (vI f3), .ref q0])), (q0, .inr (5, [.int (vI k0), .int (vI k1), .int (vI k2)])), (o, .inr (5, [.int (vI (((((f0 * a) + (f1 * b)) * f0) + (((f0 * b) + (f1 * d)) * f1)) + k0)), .int (vI (((((f0 * a) + (f1 * b)) * f2) + (((f0 * b) + (f1 * d)) * f3)) + k1)), .int (vI (((((f2 * a) + (f3 * b)) * f2) + (((f2 * b) + (f3 * d)) * f3)) + k2))]))] H := hP
  have hD : va_D A [(h0, .inr (3, [.int (vI f0), .int (vI f1), .int (vI f2), .int (vI f3), .ref q0])), (q0, .inr (5, [.int (vI k0), .int (vI k1), .int (vI k2)])), (o, .inr (5, [.int (vI (((((f0 * a) + (f1 * b)) * f0) + (((f0 * b) + (f1 * d)) * f1)) + k0)), .int (vI (((((f0 * a) + (f1 * b)) * f2) + (((f0 * b) + (f1 * d)) * f3)) + k1)), .int (vI (((((f2 * a) + (f3 * b)) * f2) + (((f2 * b) + (f3 * d)) * f3)) + k2))]))] := hD
  exact k_vret hx hb hr hlocks dX3_spread_179 hP hS

set_option maxHeartbeats 4000000 in
set_option maxRecDepth 100000 in
/--  -/
theorem c_X3_spreadq (l : Launch) (D : va_G) (tys : List (ClassId × FieldType)) (h0 q0 : Nat) (f0 f1 f2 f3 k0 k1 k2 : Zp) : CtV l D tys yX3_spread wsX3_spread 1 23 [.ref h0, .ref q0] [(h0, .inr (3, [.int (vI f0), .int (vI f1), .int (vI f2), .int (vI f3), .ref q0])), (q0, .inr (5, [.int (vI k0), .int (vI k1), .int (vI k2)]))] [(h0, .inr (3, [.int (vI f0), .int (vI f1), .int (vI f2), .int (vI f3), .ref q0])), (q0, .inr (5, [.int (vI (((((f0 * k0) + (f1 * k1)) * f0) + (((f0 * k1) + (f1 * k2)) * f1)) + k0)), .int (vI (((((f0 * k0) + (f1 * k1)) * f2) + (((f0 * k1) + (f1 * k2)) * f3)) + k1)), .int (vI (((((f2 * k0) + (f3 * k1)) * f2) + (((f2 * k1) + (f3 * k2)) * f3)) + k2))]))] := by
  refine CtV.of (cc := cX3_spread) (maxL := 6) (by decide +kernel) rfl rfl (Nat.le_of_ble_eq_true rfl) ?_
  intro p e s m below meth c A ls hcx hK hP hD hA hl
  obtain ⟨hx, hb, hr, hml, hown, hts, hlocks⟩ := hcx
  have hS : va_S A s.heap s.heap [] := va_S.rf
  have hown : s.vm.findClass RX3 = some m.cls := hown
  have hl : lv_has ls 6 [(0, .ref h0), (1, .ref q0)] := hl
  have f26 := hts (.fieldLink RX3 26 "FieldFilter$Motion" "f00" "I") (by decide +kernel)
  have iX3 : ∀ w ∈ u_ws RX3 TX3 5, w ∈ wsX3_spread := by decide +kernel
  have f66 := hts (.fieldLink RX3 66 "FieldFilter$Symmetric" "a00" "I") (by decide +kernel)
  have iX5 : ∀ w ∈ u_ws RX5 TX5 3, w ∈ wsX3_spread := by decide +kernel
  have f30 := hts (.fieldLink RX3 30 "FieldFilter$Motion" "f01" "I") (by decide +kernel)
  have f69 := hts (.fieldLink RX3 69 "FieldFilter$Symmetric" "a01" "I") (by decide +kernel)
  have f72 := hts (.fieldLink RX3 72 "FieldFilter$Symmetric" "a11" "I") (by decide +kernel)
  have f33 := hts (.fieldLink RX3 33 "FieldFilter$Motion" "f10" "I") (by decide +kernel)
  have f36 := hts (.fieldLink RX3 36 "FieldFilter$Motion" "f11" "I") (by decide +kernel)
  have f12 := hts (.fieldLink RX3 12 "FieldFilter$Motion" "q" "LFieldFilter$Symmetric;") (by decide +kernel)
  refine lv_aload_n hx hb dX3_spread_0 rfl (lv_at hl 0 rfl) ?_
  refine va_get (D := D) (ci := 3) (v := .int (vI f0)) (C := RX3) (T := TX3) (N := 5) hx hb hts iX3 hown hK.1 hP 0 rfl rfl 0 (by decide) f26 (fun _ h9 => h9) rfl dX3_spread_1 ?_
  refine lv_aload_n hx hb dX3_spread_4 rfl (lv_at hl 1 rfl) ?_
  refine va_get (D := D) (ci := 5) (v := .int (vI k0)) (C := RX5) (T := TX5) (N := 3) hx hb hts iX5 hown hK.1 hP 1 rfl rfl 0 (by decide) f66 (fun _ h9 => h9) rfl dX3_spread_5 ?_
  refine n_imul hx hb dX3_spread_8 ?_
  refine lv_aload_n hx hb dX3_spread_9 rfl (lv_at hl 0 rfl) ?_
  refine va_get (D := D) (ci := 3) (v := .int (vI f1)) (C := RX3) (T := TX3) (N := 5) hx hb hts iX3 hown hK.1 hP 0 rfl rfl 1 (by decide) f30 (fun _ h9 => h9) rfl dX3_spread_10 ?_
  refine lv_aload_n hx hb dX3_spread_13 rfl (lv_at hl 1 rfl) ?_
  refine va_get (D := D) (ci := 5) (v := .int (vI k1)) (C := RX5) (T := TX5) (N := 3) hx hb hts iX5 hown hK.1 hP 1 rfl rfl 1 (by decide) f69 (fun _ h9 => h9) rfl dX3_spread_14 ?_
  refine n_imul hx hb dX3_spread_17 ?_
  refine n_iadd hx hb dX3_spread_18 ?_
  refine n_sipush hx hb dX3_spread_19 (by decide) ?_
  refine n_irem hx hb dX3_spread_22 (rp_add (rp_mul (rp_v f0) (rp_v k0)) (rp_mul (rp_v f1) (rp_v k1))) (Nat.le_of_ble_eq_true rfl) ?_
  refine lv_istore_n (lv' := [(2, .int (vI ((f0 * k0) + (f1 * k1)))), (0, .ref h0), (1, .ref q0)]) hx hb dX3_spread_23 rfl hl (by decide) rfl (fun ls hl => ?_)
  refine lv_aload_n hx hb dX3_spread_24 rfl (lv_at hl 1 rfl) ?_
  refine va_get (D := D) (ci := 3) (v := .int (vI f0)) (C := RX3) (T := TX3) (N := 5) hx hb hts iX3 hown hK.1 hP 0 rfl rfl 0 (by decide) f26 (fun _ h9 => h9) rfl dX3_spread_25 ?_
  refine lv_aload_n hx hb dX3_spread_28 rfl (lv_at hl 2 rfl) ?_
  refine va_get (D := D) (ci := 5) (v := .int (vI k1)) (C := RX5) (T := TX5) (N := 3) hx hb hts iX5 hown hK.1 hP 1 rfl rfl 1 (by decide) f69 (fun _ h9 => h9) rfl dX3_spread_29 ?_
  refine n_imul hx hb dX3_spread_32 ?_
  refine lv_aload_n hx hb dX3_spread_33 rfl (lv_at hl 1 rfl) ?_
  refine va_get (D := D) (ci := 3) (v := .int (vI f1)) (C := RX3) (T := TX3) (N := 5) hx hb hts iX3 hown hK.1 hP 0 rfl rfl 1 (by decide) f30 (fun _ h9 => h9) rfl dX3_spread_34 ?_
  refine lv_aload_n hx hb dX3_spread_37 rfl (lv_at hl 2 rfl) ?_
  refine va_get (D := D) (ci := 5) (v := .int (vI k2)) (C := RX5) (T := TX5) (N := 3) hx hb hts iX5 hown hK.1 hP 1 rfl rfl 2 (by decide) f72 (fun _ h9 => h9) rfl dX3_spread_38 ?_
  refine n_imul hx hb dX3_spread_41 ?_
  refine n_iadd hx hb dX3_spread_42 ?_
  refine n_sipush hx hb dX3_spread_43 (by decide) ?_
  refine n_irem hx hb dX3_spread_46 (rp_add (rp_mul (rp_v f0) (rp_v k1)) (rp_mul (rp_v f1) (rp_v k2))) (Nat.le_of_ble_eq_true rfl) ?_
  refine lv_istore_n (lv' := [(3, .int (vI ((f0 * k1) + (f1 * k2)))), (2, .int (vI ((f0 * k0) + (f1 * k1)))), (0, .ref h0), (1, .ref q0)]) hx hb dX3_spread_47 rfl hl (by decide) rfl (fun ls hl => ?_)
  refine lv_aload_n hx hb dX3_spread_48 rfl (lv_at hl 2 rfl) ?_
  refine va_get (D := D) (ci := 3) (v := .int (vI f2)) (C := RX3) (T := TX3) (N := 5) hx hb hts iX3 hown hK.1 hP 0 rfl rfl 2 (by decide) f33 (fun _ h9 => h9) rfl dX3_spread_49 ?_
  refine lv_aload_n hx hb dX3_spread_52 rfl (lv_at hl 3 rfl) ?_
  refine va_get (D := D) (ci := 5) (v := .int (vI k0)) (C := RX5) (T := TX5) (N := 3) hx hb hts iX5 hown hK.1 hP 1 rfl rfl 0 (by decide) f66 (fun _ h9 => h9) rfl dX3_spread_53 ?_
  refine n_imul hx hb dX3_spread_56 ?_
  refine lv_aload_n hx hb dX3_spread_57 rfl (lv_at hl 2 rfl) ?_
  refine va_get (D := D) (ci := 3) (v := .int (vI f3)) (C := RX3) (T := TX3) (N := 5) hx hb hts iX3 hown hK.1 hP 0 rfl rfl 3 (by decide) f36 (fun _ h9 => h9) rfl dX3_spread_58 ?_
  refine lv_aload_n hx hb dX3_spread_61 rfl (lv_at hl 3 rfl) ?_
  refine va_get (D := D) (ci := 5) (v := .int (vI k1)) (C := RX5) (T := TX5) (N := 3) hx hb hts iX5 hown hK.1 hP 1 rfl rfl 1 (by decide) f69 (fun _ h9 => h9) rfl dX3_spread_62 ?_
  refine n_imul hx hb dX3_spread_65 ?_
  refine n_iadd hx hb dX3_spread_66 ?_
  refine n_sipush hx hb dX3_spread_67 (by decide) ?_
  refine n_irem hx hb dX3_spread_70 (rp_add (rp_mul (rp_v f2) (rp_v k0)) (rp_mul (rp_v f3) (rp_v k1))) (Nat.le_of_ble_eq_true rfl) ?_
  refine lv_istore (lv' := [(4, .int (vI ((f2 * k0) + (f3 * k1)))), (3, .int (vI ((f0 * k1) + (f1 * k2)))), (2, .int (vI ((f0 * k0) + (f1 * k1)))), (0, .ref h0), (1, .ref q0)]) hx hb dX3_spread_71 hl (by decide) rfl (fun ls hl => ?_)
  refine lv_aload_n hx hb dX3_spread_73 rfl (lv_at hl 3 rfl) ?_
  refine va_get (D := D) (ci := 3) (v := .int (vI f2)) (C := RX3) (T := TX3) (N := 5) hx hb hts iX3 hown hK.1 hP 0 rfl rfl 2 (by decide) f33 (fun _ h9 => h9) rfl dX3_spread_74 ?_
  refine lv_aload_n hx hb dX3_spread_77 rfl (lv_at hl 4 rfl) ?_
  refine va_get (D := D) (ci := 5) (v := .int (vI k1)) (C := RX5) (T := TX5) (N := 3) hx hb hts iX5 hown hK.1 hP 1 rfl rfl 1 (by decide) f69 (fun _ h9 => h9) rfl dX3_spread_78 ?_
  refine n_imul hx hb dX3_spread_81 ?_
  refine lv_aload_n hx hb dX3_spread_82 rfl (lv_at hl 3 rfl) ?_
  refine va_get (D := D) (ci := 3) (v := .int (vI f3)) (C := RX3) (T := TX3) (N := 5) hx hb hts iX3 hown hK.1 hP 0 rfl rfl 3 (by decide) f36 (fun _ h9 => h9) rfl dX3_spread_83 ?_
  refine lv_aload_n hx hb dX3_spread_86 rfl (lv_at hl 4 rfl) ?_
  refine va_get (D := D) (ci := 5) (v := .int (vI k2)) (C := RX5) (T := TX5) (N := 3) hx hb hts iX5 hown hK.1 hP 1 rfl rfl 2 (by decide) f72 (fun _ h9 => h9) rfl dX3_spread_87 ?_
  refine n_imul hx hb dX3_spread_90 ?_
  refine n_iadd hx hb dX3_spread_91 ?_
  refine n_sipush hx hb dX3_spread_92 (by decide) ?_
  refine n_irem hx hb dX3_spread_95 (rp_add (rp_mul (rp_v f2) (rp_v k1)) (rp_mul (rp_v f3) (rp_v k2))) (Nat.le_of_ble_eq_true rfl) ?_
  refine lv_istore (lv' := [(5, .int (vI ((f2 * k1) + (f3 * k2)))), (4, .int (vI ((f2 * k0) + (f3 * k1)))), (3, .int (vI ((f0 * k1) + (f1 * k2)))), (2, .int (vI ((f0 * k0) + (f1 * k1)))), (0, .ref h0), (1, .ref q0)]) hx hb dX3_spread_96 hl (by decide) rfl (fun ls hl => ?_)
  refine lv_aload_n hx hb dX3_spread_98 rfl (lv_at hl 5 rfl) ?_
  refine lv_iload_n hx hb dX3_spread_99 rfl (lv_at hl 3 rfl) ?_
  refine lv_aload_n hx hb dX3_spread_100 rfl (lv_at hl 4 rfl) ?_
  refine va_get (D := D) (ci := 3) (v := .int (vI f0)) (C := RX3) (T := TX3) (N := 5) hx hb hts iX3 hown hK.1 hP 0 rfl rfl 0 (by decide) f26 (fun _ h9 => h9) rfl dX3_spread_101 ?_
  refine n_imul hx hb dX3_spread_104 ?_
  refine lv_iload_n hx hb dX3_spread_105 rfl (lv_at hl 2 rfl) ?_
  refine lv_aload_n hx hb dX3_spread_106 rfl (lv_at hl 4 rfl) ?_
  refine va_get (D := D) (ci := 3) (v := .int (vI f1)) (C := RX3) (T := TX3) (N := 5) hx hb hts iX3 hown hK.1 hP 0 rfl rfl 1 (by decide) f30 (fun _ h9 => h9) rfl dX3_spread_107 ?_
  refine n_imul hx hb dX3_spread_110 ?_
  refine n_iadd hx hb dX3_spread_111 ?_
  refine lv_aload_n hx hb dX3_spread_112 rfl (lv_at hl 4 rfl) ?_
  refine va_get (D := D) (ci := 3) (v := .ref q0) (C := RX3) (T := TX3) (N := 5) hx hb hts iX3 hown hK.1 hP 0 rfl rfl 4 (by decide) f12 (fun _ h9 => h9) rfl dX3_spread_113 ?_
  refine va_get (D := D) (ci := 5) (v := .int (vI k0)) (C := RX5) (T := TX5) (N := 3) hx hb hts iX5 hown hK.1 hP 1 rfl rfl 0 (by decide) f66 (fun _ h9 => h9) rfl dX3_spread_116 ?_
  refine n_iadd hx hb dX3_spread_119 ?_
  refine n_sipush hx hb dX3_spread_120 (by decide) ?_
  refine n_irem hx hb dX3_spread_123 (rp_add (rp_add (rp_mul (rp_v ((f0 * k0) + (f1 * k1))) (rp_v f0)) (rp_mul (rp_v ((f0 * k1) + (f1 * k2))) (rp_v f1))) (rp_v k0)) (Nat.le_of_ble_eq_true rfl) ?_
  refine lv_iload_n hx hb dX3_spread_124 rfl (lv_at hl 3 rfl) ?_
  refine lv_aload_n hx hb dX3_spread_125 rfl (lv_at hl 4 rfl) ?_
  refine va_get (D := D) (ci := 3) (v := .int (vI f2)) (C := RX3) (T := TX3) (N := 5) hx hb hts iX3 hown hK.1 hP 0 rfl rfl 2 (by decide) f33 (fun _ h9 => h9) rfl dX3_spread_126 ?_
  refine n_imul hx hb dX3_spread_129 ?_
  refine lv_iload_n hx hb dX3_spread_130 rfl (lv_at hl 2 rfl) ?_
  refine lv_aload_n hx hb dX3_spread_131 rfl (lv_at hl 4 rfl) ?_
  refine va_get (D := D) (ci := 3) (v := .int (vI f3)) (C := RX3) (T := TX3) (N := 5) hx hb hts iX3 hown hK.1 hP 0 rfl rfl 3 (by decide) f36 (fun _ h9 => h9) rfl dX3_spread_132 ?_
  refine n_imul hx hb dX3_spread_135 ?_
  refine n_iadd hx hb dX3_spread_136 ?_
  refine lv_aload_n hx hb dX3_spread_137 rfl (lv_at hl 4 rfl) ?_
  refine va_get (D := D) (ci := 3) (v := .ref q0) (C := RX3) (T := TX3) (N := 5) hx hb hts iX3 hown hK.1 hP 0 rfl rfl 4 (by decide) f12 (fun _ h9 => h9) rfl dX3_spread_138 ?_
  refine va_get (D := D) (ci := 5) (v := .int (vI k1)) (C := RX5) (T := TX5) (N := 3) hx hb hts iX5 hown hK.1 hP 1 rfl rfl 1 (by decide) f69 (fun _ h9 => h9) rfl dX3_spread_141 ?_
  refine n_iadd hx hb dX3_spread_144 ?_
  refine n_sipush hx hb dX3_spread_145 (by decide) ?_
  refine n_irem hx hb dX3_spread_148 (rp_add (rp_add (rp_mul (rp_v ((f0 * k0) + (f1 * k1))) (rp_v f2)) (rp_mul (rp_v ((f0 * k1) + (f1 * k2))) (rp_v f3))) (rp_v k1)) (Nat.le_of_ble_eq_true rfl) ?_
  refine lv_iload hx hb dX3_spread_149 (lv_at hl 1 rfl) ?_
  refine lv_aload_n hx hb dX3_spread_151 rfl (lv_at hl 4 rfl) ?_
  refine va_get (D := D) (ci := 3) (v := .int (vI f2)) (C := RX3) (T := TX3) (N := 5) hx hb hts iX3 hown hK.1 hP 0 rfl rfl 2 (by decide) f33 (fun _ h9 => h9) rfl dX3_spread_152 ?_
  refine n_imul hx hb dX3_spread_155 ?_
  refine lv_iload hx hb dX3_spread_156 (lv_at hl 0 rfl) ?_
  refine lv_aload_n hx hb dX3_spread_158 rfl (lv_at hl 4 rfl) ?_
  refine va_get (D := D) (ci := 3) (v := .int (vI f3)) (C := RX3) (T := TX3) (N := 5) hx hb hts iX3 hown hK.1 hP 0 rfl rfl 3 (by decide) f36 (fun _ h9 => h9) rfl dX3_spread_159 ?_
  refine n_imul hx hb dX3_spread_162 ?_
  refine n_iadd hx hb dX3_spread_163 ?_
  refine lv_aload_n hx hb dX3_spread_164 rfl (lv_at hl 4 rfl) ?_
  refine va_get (D := D) (ci := 3) (v := .ref q0) (C := RX3) (T := TX3) (N := 5) hx hb hts iX3 hown hK.1 hP 0 rfl rfl 4 (by decide) f12 (fun _ h9 => h9) rfl dX3_spread_165 ?_
  refine va_get (D := D) (ci := 5) (v := .int (vI k2)) (C := RX5) (T := TX5) (N := 3) hx hb hts iX5 hown hK.1 hP 1 rfl rfl 2 (by decide) f72 (fun _ h9 => h9) rfl dX3_spread_168 ?_
  refine n_iadd hx hb dX3_spread_171 ?_
  refine n_sipush hx hb dX3_spread_172 (by decide) ?_
  refine n_irem hx hb dX3_spread_175 (rp_add (rp_add (rp_mul (rp_v ((f2 * k0) + (f3 * k1))) (rp_v f2)) (rp_mul (rp_v ((f2 * k1) + (f3 * k2))) (rp_v f3))) (rp_v k2)) (Nat.le_of_ble_eq_true rfl) ?_
  have ct176 := c_X5_set l D tys q0 (vI k0) (vI k1) (vI k2) (vI (((((f0 * k0) + (f1 * k1)) * f0) + (((f0 * k1) + (f1 * k2)) * f1)) + k0)) (vI (((((f0 * k0) + (f1 * k1)) * f2) + (((f0 * k1) + (f1 * k2)) * f3)) + k1)) (vI (((((f2 * k0) + (f3 * k1)) * f2) + (((f2 * k1) + (f3 * k2)) * f3)) + k2))
  refine k_goV (va_runV (As := [.int (vI (((((f0 * k0) + (f1 * k1)) * f0) + (((f0 * k1) + (f1 * k2)) * f1)) + k0)), .int (vI (((((f0 * k0) + (f1 * k1)) * f2) + (((f0 * k1) + (f1 * k2)) * f3)) + k1)), .int (vI (((((f2 * k0) + (f3 * k1)) * f2) + (((f2 * k1) + (f3 * k2)) * f3)) + k2))]) (rest := []) ⟨hx, hb, hml, hown, hts⟩ (ct176.2 _) (cwV 3 hts gX3_spread_X5_set rfl rfl rfl (by decide +kernel) ⟨Nat.le_of_ble_eq_true rfl, Nat.le_of_ble_eq_true rfl⟩) ⟨(k_pre hK hP hD (is := [1]) rfl rfl).1, va_recv hK.1 hP (ci := 5) (q0 := 1) rfl rfl, (k_pre hK hP hD (is := [1]) rfl rfl).2⟩ rfl rfl hl.1 rfl (lv_room (Nat.le_of_ble_eq_true rfl)) dX3_spread_176 ⟨Nat.le_of_ble_eq_true rfl, Nat.le_of_ble_eq_true rfl⟩) ct176.1 hP hD hS hA [1] rfl rfl (fun H locs hP hD hS => ?_)
  have hP : va_P D vwCl [(h0, .inr (3, [.int (vI f0), .int (vI f1), .int (vI f2), .int (vI f3), .ref q0])), (q0, .inr (5, [.int (vI (((((f0 * k0) + (f1 * k1)) * f0) + (((f0 * k1) + (f1 * k2)) * f1)) + k0)), .int (vI (((((f0 * k0) + (f1 * k1)) * f2) + (((f0 * k1) + (f1 * k2)) * f3)) + k1)), .int (vI (((((f2 * k0) + (f3 * k1)) * f2) + (((f2 * k1) + (f3 * k2)) * f3)) + k2))]))] H := hP
  have hD : va_D A [(h0, .inr (3, [.int (vI f0), .int (vI f1), .int (vI f2), .int (vI f3), .ref q0])), (q0, .inr (5, [.int (vI (((((f0 * k0) + (f1 * k1)) * f0) + (((f0 * k1) + (f1 * k2)) * f1)) + k0)), .int (vI (((((f0 * k0) + (f1 * k1)) * f2) + (((f0 * k1) + (f1 * k2)) * f3)) + k1)), .int (vI (((((f2 * k0) + (f3 * k1)) * f2) + (((f2 * k1) + (f3 * k2)) * f3)) + k2))]))] := hD
  exact k_vret hx hb hr hlocks dX3_spread_179 hP hS

set_option maxHeartbeats 4000000 in
set_option maxRecDepth 100000 in
/--  -/
theorem c_X3_move (l : Launch) (D : va_G) (tys : List (ClassId × FieldType)) (h0 q0 st x0 p0 : Nat) (f0 f1 f2 f3 k0 k1 k2 u v a b d : Zp) : CtV l D tys yX3_move wsX3_move 2 48 [.ref h0, .ref st] [(h0, .inr (3, [.int (vI f0), .int (vI f1), .int (vI f2), .int (vI f3), .ref q0])), (q0, .inr (5, [.int (vI k0), .int (vI k1), .int (vI k2)])), (st, .inr (4, [.ref x0, .ref p0])), (x0, .inr (0, [.int (vI u), .int (vI v)])), (p0, .inr (5, [.int (vI a), .int (vI b), .int (vI d)]))] [(h0, .inr (3, [.int (vI f0), .int (vI f1), .int (vI f2), .int (vI f3), .ref q0])), (q0, .inr (5, [.int (vI k0), .int (vI k1), .int (vI k2)])), (st, .inr (4, [.ref x0, .ref p0])), (x0, .inr (0, [.int (vI ((f0 * u) + (f1 * v))), .int (vI ((f2 * u) + (f3 * v)))])), (p0, .inr (5, [.int (vI ((f0 * a + f1 * b) * f0 + (f0 * b + f1 * d) * f1 + k0)), .int (vI ((f0 * a + f1 * b) * f2 + (f0 * b + f1 * d) * f3 + k1)), .int (vI ((f2 * a + f3 * b) * f2 + (f2 * b + f3 * d) * f3 + k2))]))] := by
  refine CtV.of (cc := cX3_move) (maxL := 3) (by decide +kernel) rfl rfl (Nat.le_of_ble_eq_true rfl) ?_
  intro p e s m below meth c A ls hcx hK hP hD hA hl
  obtain ⟨hx, hb, hr, hml, hown, hts, hlocks⟩ := hcx
  have hS : va_S A s.heap s.heap [] := va_S.rf
  have hown : s.vm.findClass RX3 = some m.cls := hown
  have hl : lv_has ls 3 [(0, .ref h0), (1, .ref st)] := hl
  have f43 := hts (.fieldLink RX3 43 "FieldFilter$State" "x" "LFieldFilter$Column;") (by decide +kernel)
  have iX4 : ∀ w ∈ u_ws RX4 TX4 2, w ∈ wsX3_move := by decide +kernel
  have f26 := hts (.fieldLink RX3 26 "FieldFilter$Motion" "f00" "I") (by decide +kernel)
  have iX3 : ∀ w ∈ u_ws RX3 TX3 5, w ∈ wsX3_move := by decide +kernel
  have f49 := hts (.fieldLink RX3 49 "FieldFilter$Column" "upper" "I") (by decide +kernel)
  have iX0 : ∀ w ∈ u_ws RX0 TX0 2, w ∈ wsX3_move := by decide +kernel
  have f30 := hts (.fieldLink RX3 30 "FieldFilter$Motion" "f01" "I") (by decide +kernel)
  have f54 := hts (.fieldLink RX3 54 "FieldFilter$Column" "lower" "I") (by decide +kernel)
  have f33 := hts (.fieldLink RX3 33 "FieldFilter$Motion" "f10" "I") (by decide +kernel)
  have f36 := hts (.fieldLink RX3 36 "FieldFilter$Motion" "f11" "I") (by decide +kernel)
  have f60 := hts (.fieldLink RX3 60 "FieldFilter$State" "p" "LFieldFilter$Symmetric;") (by decide +kernel)
  refine lv_aload_n hx hb dX3_move_0 rfl (lv_at hl 1 rfl) ?_
  refine va_get (D := D) (ci := 4) (v := .ref x0) (C := RX4) (T := TX4) (N := 2) hx hb hts iX4 hown hK.1 hP 2 rfl rfl 0 (by decide) f43 (fun _ h9 => h9) rfl dX3_move_1 ?_
  refine lv_astore_n (lv' := [(2, .ref x0), (0, .ref h0), (1, .ref st)]) hx hb dX3_move_4 rfl hl (by decide) rfl (fun ls hl => ?_)
  refine lv_aload_n hx hb dX3_move_5 rfl (lv_at hl 0 rfl) ?_
  refine lv_aload_n hx hb dX3_move_6 rfl (lv_at hl 1 rfl) ?_
  refine va_get (D := D) (ci := 3) (v := .int (vI f0)) (C := RX3) (T := TX3) (N := 5) hx hb hts iX3 hown hK.1 hP 0 rfl rfl 0 (by decide) f26 (fun _ h9 => h9) rfl dX3_move_7 ?_
  refine lv_aload_n hx hb dX3_move_10 rfl (lv_at hl 0 rfl) ?_
  refine va_get (D := D) (ci := 0) (v := .int (vI u)) (C := RX0) (T := TX0) (N := 2) hx hb hts iX0 hown hK.1 hP 3 rfl rfl 0 (by decide) f49 (fun _ h9 => h9) rfl dX3_move_11 ?_
  refine n_imul hx hb dX3_move_14 ?_
  refine lv_aload_n hx hb dX3_move_15 rfl (lv_at hl 1 rfl) ?_
  refine va_get (D := D) (ci := 3) (v := .int (vI f1)) (C := RX3) (T := TX3) (N := 5) hx hb hts iX3 hown hK.1 hP 0 rfl rfl 1 (by decide) f30 (fun _ h9 => h9) rfl dX3_move_16 ?_
  refine lv_aload_n hx hb dX3_move_19 rfl (lv_at hl 0 rfl) ?_
  refine va_get (D := D) (ci := 0) (v := .int (vI v)) (C := RX0) (T := TX0) (N := 2) hx hb hts iX0 hown hK.1 hP 3 rfl rfl 1 (by decide) f54 (fun _ h9 => h9) rfl dX3_move_20 ?_
  refine n_imul hx hb dX3_move_23 ?_
  refine n_iadd hx hb dX3_move_24 ?_
  refine n_sipush hx hb dX3_move_25 (by decide) ?_
  refine n_irem hx hb dX3_move_28 (rp_add (rp_mul (rp_v f0) (rp_v u)) (rp_mul (rp_v f1) (rp_v v))) (Nat.le_of_ble_eq_true rfl) ?_
  refine lv_aload_n hx hb dX3_move_29 rfl (lv_at hl 1 rfl) ?_
  refine va_get (D := D) (ci := 3) (v := .int (vI f2)) (C := RX3) (T := TX3) (N := 5) hx hb hts iX3 hown hK.1 hP 0 rfl rfl 2 (by decide) f33 (fun _ h9 => h9) rfl dX3_move_30 ?_
  refine lv_aload_n hx hb dX3_move_33 rfl (lv_at hl 0 rfl) ?_
  refine va_get (D := D) (ci := 0) (v := .int (vI u)) (C := RX0) (T := TX0) (N := 2) hx hb hts iX0 hown hK.1 hP 3 rfl rfl 0 (by decide) f49 (fun _ h9 => h9) rfl dX3_move_34 ?_
  refine n_imul hx hb dX3_move_37 ?_
  refine lv_aload_n hx hb dX3_move_38 rfl (lv_at hl 1 rfl) ?_
  refine va_get (D := D) (ci := 3) (v := .int (vI f3)) (C := RX3) (T := TX3) (N := 5) hx hb hts iX3 hown hK.1 hP 0 rfl rfl 3 (by decide) f36 (fun _ h9 => h9) rfl dX3_move_39 ?_
  refine lv_aload_n hx hb dX3_move_42 rfl (lv_at hl 0 rfl) ?_
  refine va_get (D := D) (ci := 0) (v := .int (vI v)) (C := RX0) (T := TX0) (N := 2) hx hb hts iX0 hown hK.1 hP 3 rfl rfl 1 (by decide) f54 (fun _ h9 => h9) rfl dX3_move_43 ?_
  refine n_imul hx hb dX3_move_46 ?_
  refine n_iadd hx hb dX3_move_47 ?_
  refine n_sipush hx hb dX3_move_48 (by decide) ?_
  refine n_irem hx hb dX3_move_51 (rp_add (rp_mul (rp_v f2) (rp_v u)) (rp_mul (rp_v f3) (rp_v v))) (Nat.le_of_ble_eq_true rfl) ?_
  have ct52 := c_X0_set l D tys x0 (vI u) (vI v) (vI ((f0 * u) + (f1 * v))) (vI ((f2 * u) + (f3 * v)))
  refine k_goV (va_runV (As := [.int (vI ((f0 * u) + (f1 * v))), .int (vI ((f2 * u) + (f3 * v)))]) (rest := []) ⟨hx, hb, hml, hown, hts⟩ (ct52.2 _) (cwV 2 hts gX3_move_X0_set rfl rfl rfl (by decide +kernel) ⟨Nat.le_of_ble_eq_true rfl, Nat.le_of_ble_eq_true rfl⟩) ⟨(k_pre hK hP hD (is := [3]) rfl rfl).1, va_recv hK.1 hP (ci := 0) (q0 := 3) rfl rfl, (k_pre hK hP hD (is := [3]) rfl rfl).2⟩ rfl rfl hl.1 rfl (lv_room (Nat.le_of_ble_eq_true rfl)) dX3_move_52 ⟨Nat.le_of_ble_eq_true rfl, Nat.le_of_ble_eq_true rfl⟩) ct52.1 hP hD hS hA [3] rfl rfl (fun H locs hP hD hS => ?_)
  have hP : va_P D vwCl [(h0, .inr (3, [.int (vI f0), .int (vI f1), .int (vI f2), .int (vI f3), .ref q0])), (q0, .inr (5, [.int (vI k0), .int (vI k1), .int (vI k2)])), (st, .inr (4, [.ref x0, .ref p0])), (x0, .inr (0, [.int (vI ((f0 * u) + (f1 * v))), .int (vI ((f2 * u) + (f3 * v)))])), (p0, .inr (5, [.int (vI a), .int (vI b), .int (vI d)]))] H := hP
  have hD : va_D A [(h0, .inr (3, [.int (vI f0), .int (vI f1), .int (vI f2), .int (vI f3), .ref q0])), (q0, .inr (5, [.int (vI k0), .int (vI k1), .int (vI k2)])), (st, .inr (4, [.ref x0, .ref p0])), (x0, .inr (0, [.int (vI ((f0 * u) + (f1 * v))), .int (vI ((f2 * u) + (f3 * v)))])), (p0, .inr (5, [.int (vI a), .int (vI b), .int (vI d)]))] := hD
  refine lv_aload_n hx hb dX3_move_55 rfl (lv_at hl 1 rfl) ?_
  refine lv_aload_n hx hb dX3_move_56 rfl (lv_at hl 2 rfl) ?_
  refine va_get (D := D) (ci := 4) (v := .ref p0) (C := RX4) (T := TX4) (N := 2) hx hb hts iX4 hown hK.1 hP 2 rfl rfl 1 (by decide) f60 (fun _ h9 => h9) rfl dX3_move_57 ?_
  have ct60 := c_X3_spread l D tys h0 q0 p0 f0 f1 f2 f3 k0 k1 k2 a b d
  refine k_goV (va_runV (As := [.ref p0]) (rest := []) ⟨hx, hb, hml, hown, hts⟩ (ct60.2 _) (cwV 1 hts gX3_move_X3_spread rfl rfl rfl (by decide +kernel) ⟨Nat.le_of_ble_eq_true rfl, Nat.le_of_ble_eq_true rfl⟩) ⟨(k_pre hK hP hD (is := [0, 1, 4]) rfl rfl).1, va_recv hK.1 hP (ci := 3) (q0 := 0) rfl rfl, (k_pre hK hP hD (is := [0, 1, 4]) rfl rfl).2⟩ rfl rfl hl.1 rfl (lv_room (Nat.le_of_ble_eq_true rfl)) dX3_move_60 ⟨Nat.le_of_ble_eq_true rfl, Nat.le_of_ble_eq_true rfl⟩) ct60.1 hP hD hS hA [0, 1, 4] rfl rfl (fun H locs hP hD hS => ?_)
  have hP : va_P D vwCl [(h0, .inr (3, [.int (vI f0), .int (vI f1), .int (vI f2), .int (vI f3), .ref q0])), (q0, .inr (5, [.int (vI k0), .int (vI k1), .int (vI k2)])), (st, .inr (4, [.ref x0, .ref p0])), (x0, .inr (0, [.int (vI ((f0 * u) + (f1 * v))), .int (vI ((f2 * u) + (f3 * v)))])), (p0, .inr (5, [.int (vI ((f0 * a + f1 * b) * f0 + (f0 * b + f1 * d) * f1 + k0)), .int (vI ((f0 * a + f1 * b) * f2 + (f0 * b + f1 * d) * f3 + k1)), .int (vI ((f2 * a + f3 * b) * f2 + (f2 * b + f3 * d) * f3 + k2))]))] H := hP
  have hD : va_D A [(h0, .inr (3, [.int (vI f0), .int (vI f1), .int (vI f2), .int (vI f3), .ref q0])), (q0, .inr (5, [.int (vI k0), .int (vI k1), .int (vI k2)])), (st, .inr (4, [.ref x0, .ref p0])), (x0, .inr (0, [.int (vI ((f0 * u) + (f1 * v))), .int (vI ((f2 * u) + (f3 * v)))])), (p0, .inr (5, [.int (vI ((f0 * a + f1 * b) * f0 + (f0 * b + f1 * d) * f1 + k0)), .int (vI ((f0 * a + f1 * b) * f2 + (f0 * b + f1 * d) * f3 + k1)), .int (vI ((f2 * a + f3 * b) * f2 + (f2 * b + f3 * d) * f3 + k2))]))] := hD
  exact k_vret hx hb hr hlocks dX3_move_63 hP hS

set_option maxHeartbeats 4000000 in
set_option maxRecDepth 100000 in
/--  -/
theorem c_X3_turnBack (l : Launch) (D : va_G) (tys : List (ClassId × FieldType)) (h0 q0 o : Nat) (f0 f1 f2 f3 u v : Zp) : CtV l D tys yX3_turnBack wsX3_turnBack 1 22 [.ref h0, .ref o] [(h0, .inr (3, [.int (vI f0), .int (vI f1), .int (vI f2), .int (vI f3), .ref q0])), (o, .inr (0, [.int (vI u), .int (vI v)]))] [(h0, .inr (3, [.int (vI f0), .int (vI f1), .int (vI f2), .int (vI f3), .ref q0])), (o, .inr (0, [.int (vI ((f0 * u) + (f2 * v))), .int (vI ((f1 * u) + (f3 * v)))]))] := by
  refine CtV.of (cc := cX3_turnBack) (maxL := 2) (by decide +kernel) rfl rfl (Nat.le_of_ble_eq_true rfl) ?_
  intro p e s m below meth c A ls hcx hK hP hD hA hl
  obtain ⟨hx, hb, hr, hml, hown, hts, hlocks⟩ := hcx
  have hS : va_S A s.heap s.heap [] := va_S.rf
  have hown : s.vm.findClass RX3 = some m.cls := hown
  have hl : lv_has ls 2 [(0, .ref h0), (1, .ref o)] := hl
  have f26 := hts (.fieldLink RX3 26 "FieldFilter$Motion" "f00" "I") (by decide +kernel)
  have iX3 : ∀ w ∈ u_ws RX3 TX3 5, w ∈ wsX3_turnBack := by decide +kernel
  have f49 := hts (.fieldLink RX3 49 "FieldFilter$Column" "upper" "I") (by decide +kernel)
  have iX0 : ∀ w ∈ u_ws RX0 TX0 2, w ∈ wsX3_turnBack := by decide +kernel
  have f33 := hts (.fieldLink RX3 33 "FieldFilter$Motion" "f10" "I") (by decide +kernel)
  have f54 := hts (.fieldLink RX3 54 "FieldFilter$Column" "lower" "I") (by decide +kernel)
  have f30 := hts (.fieldLink RX3 30 "FieldFilter$Motion" "f01" "I") (by decide +kernel)
  have f36 := hts (.fieldLink RX3 36 "FieldFilter$Motion" "f11" "I") (by decide +kernel)
  refine lv_aload_n hx hb dX3_turnBack_0 rfl (lv_at hl 1 rfl) ?_
  refine lv_aload_n hx hb dX3_turnBack_1 rfl (lv_at hl 0 rfl) ?_
  refine va_get (D := D) (ci := 3) (v := .int (vI f0)) (C := RX3) (T := TX3) (N := 5) hx hb hts iX3 hown hK.1 hP 0 rfl rfl 0 (by decide) f26 (fun _ h9 => h9) rfl dX3_turnBack_2 ?_
  refine lv_aload_n hx hb dX3_turnBack_5 rfl (lv_at hl 1 rfl) ?_
  refine va_get (D := D) (ci := 0) (v := .int (vI u)) (C := RX0) (T := TX0) (N := 2) hx hb hts iX0 hown hK.1 hP 1 rfl rfl 0 (by decide) f49 (fun _ h9 => h9) rfl dX3_turnBack_6 ?_
  refine n_imul hx hb dX3_turnBack_9 ?_
  refine lv_aload_n hx hb dX3_turnBack_10 rfl (lv_at hl 0 rfl) ?_
  refine va_get (D := D) (ci := 3) (v := .int (vI f2)) (C := RX3) (T := TX3) (N := 5) hx hb hts iX3 hown hK.1 hP 0 rfl rfl 2 (by decide) f33 (fun _ h9 => h9) rfl dX3_turnBack_11 ?_
  refine lv_aload_n hx hb dX3_turnBack_14 rfl (lv_at hl 1 rfl) ?_
  refine va_get (D := D) (ci := 0) (v := .int (vI v)) (C := RX0) (T := TX0) (N := 2) hx hb hts iX0 hown hK.1 hP 1 rfl rfl 1 (by decide) f54 (fun _ h9 => h9) rfl dX3_turnBack_15 ?_
  refine n_imul hx hb dX3_turnBack_18 ?_
  refine n_iadd hx hb dX3_turnBack_19 ?_
  refine n_sipush hx hb dX3_turnBack_20 (by decide) ?_
  refine n_irem hx hb dX3_turnBack_23 (rp_add (rp_mul (rp_v f0) (rp_v u)) (rp_mul (rp_v f2) (rp_v v))) (Nat.le_of_ble_eq_true rfl) ?_
  refine lv_aload_n hx hb dX3_turnBack_24 rfl (lv_at hl 0 rfl) ?_
  refine va_get (D := D) (ci := 3) (v := .int (vI f1)) (C := RX3) (T := TX3) (N := 5) hx hb hts iX3 hown hK.1 hP 0 rfl rfl 1 (by decide) f30 (fun _ h9 => h9) rfl dX3_turnBack_25 ?_
  refine lv_aload_n hx hb dX3_turnBack_28 rfl (lv_at hl 1 rfl) ?_
  refine va_get (D := D) (ci := 0) (v := .int (vI u)) (C := RX0) (T := TX0) (N := 2) hx hb hts iX0 hown hK.1 hP 1 rfl rfl 0 (by decide) f49 (fun _ h9 => h9) rfl dX3_turnBack_29 ?_
  refine n_imul hx hb dX3_turnBack_32 ?_
  refine lv_aload_n hx hb dX3_turnBack_33 rfl (lv_at hl 0 rfl) ?_
  refine va_get (D := D) (ci := 3) (v := .int (vI f3)) (C := RX3) (T := TX3) (N := 5) hx hb hts iX3 hown hK.1 hP 0 rfl rfl 3 (by decide) f36 (fun _ h9 => h9) rfl dX3_turnBack_34 ?_
  refine lv_aload_n hx hb dX3_turnBack_37 rfl (lv_at hl 1 rfl) ?_
  refine va_get (D := D) (ci := 0) (v := .int (vI v)) (C := RX0) (T := TX0) (N := 2) hx hb hts iX0 hown hK.1 hP 1 rfl rfl 1 (by decide) f54 (fun _ h9 => h9) rfl dX3_turnBack_38 ?_
  refine n_imul hx hb dX3_turnBack_41 ?_
  refine n_iadd hx hb dX3_turnBack_42 ?_
  refine n_sipush hx hb dX3_turnBack_43 (by decide) ?_
  refine n_irem hx hb dX3_turnBack_46 (rp_add (rp_mul (rp_v f1) (rp_v u)) (rp_mul (rp_v f3) (rp_v v))) (Nat.le_of_ble_eq_true rfl) ?_
  have ct47 := c_X0_set l D tys o (vI u) (vI v) (vI ((f0 * u) + (f2 * v))) (vI ((f1 * u) + (f3 * v)))
  refine k_goV (va_runV (As := [.int (vI ((f0 * u) + (f2 * v))), .int (vI ((f1 * u) + (f3 * v)))]) (rest := []) ⟨hx, hb, hml, hown, hts⟩ (ct47.2 _) (cwV 2 hts gX3_turnBack_X0_set rfl rfl rfl (by decide +kernel) ⟨Nat.le_of_ble_eq_true rfl, Nat.le_of_ble_eq_true rfl⟩) ⟨(k_pre hK hP hD (is := [1]) rfl rfl).1, va_recv hK.1 hP (ci := 0) (q0 := 1) rfl rfl, (k_pre hK hP hD (is := [1]) rfl rfl).2⟩ rfl rfl hl.1 rfl (lv_room (Nat.le_of_ble_eq_true rfl)) dX3_turnBack_47 ⟨Nat.le_of_ble_eq_true rfl, Nat.le_of_ble_eq_true rfl⟩) ct47.1 hP hD hS hA [1] rfl rfl (fun H locs hP hD hS => ?_)
  have hP : va_P D vwCl [(h0, .inr (3, [.int (vI f0), .int (vI f1), .int (vI f2), .int (vI f3), .ref q0])), (o, .inr (0, [.int (vI ((f0 * u) + (f2 * v))), .int (vI ((f1 * u) + (f3 * v)))]))] H := hP
  have hD : va_D A [(h0, .inr (3, [.int (vI f0), .int (vI f1), .int (vI f2), .int (vI f3), .ref q0])), (o, .inr (0, [.int (vI ((f0 * u) + (f2 * v))), .int (vI ((f1 * u) + (f3 * v)))]))] := hD
  exact k_vret hx hb hr hlocks dX3_turnBack_50 hP hS

set_option maxHeartbeats 4000000 in
set_option maxRecDepth 100000 in
/--  -/
theorem c_X3_twice (l : Launch) (D : va_G) (tys : List (ClassId × FieldType)) (h0 q0 : Nat) (f0 f1 f2 f3 k0 k1 k2 : Zp) : CtV l D tys yX3_twice wsX3_twice 2 48 [.ref h0] [(h0, .inr (3, [.int (vI f0), .int (vI f1), .int (vI f2), .int (vI f3), .ref q0])), (q0, .inr (5, [.int (vI k0), .int (vI k1), .int (vI k2)]))] [(h0, .inr (3, [.int (vI ((f0 * f0) + (f1 * f2))), .int (vI (f1 * (f0 + f3))), .int (vI (f2 * (f0 + f3))), .int (vI ((f3 * f3) + (f1 * f2))), .ref q0])), (q0, .inr (5, [.int (vI ((f0 * k0 + f1 * k1) * f0 + (f0 * k1 + f1 * k2) * f1 + k0)), .int (vI ((f0 * k0 + f1 * k1) * f2 + (f0 * k1 + f1 * k2) * f3 + k1)), .int (vI ((f2 * k0 + f3 * k1) * f2 + (f2 * k1 + f3 * k2) * f3 + k2))]))] := by
  refine CtV.of (cc := cX3_twice) (maxL := 3) (by decide +kernel) rfl rfl (Nat.le_of_ble_eq_true rfl) ?_
  intro p e s m below meth c A ls hcx hK hP hD hA hl
  obtain ⟨hx, hb, hr, hml, hown, hts, hlocks⟩ := hcx
  have hS : va_S A s.heap s.heap [] := va_S.rf
  have hown : s.vm.findClass RX3 = some m.cls := hown
  have hl : lv_has ls 3 [(0, .ref h0)] := hl
  have f12 := hts (.fieldLink RX3 12 "FieldFilter$Motion" "q" "LFieldFilter$Symmetric;") (by decide +kernel)
  have iX3 : ∀ w ∈ u_ws RX3 TX3 5, w ∈ wsX3_twice := by decide +kernel
  have f30 := hts (.fieldLink RX3 30 "FieldFilter$Motion" "f01" "I") (by decide +kernel)
  have f33 := hts (.fieldLink RX3 33 "FieldFilter$Motion" "f10" "I") (by decide +kernel)
  have f26 := hts (.fieldLink RX3 26 "FieldFilter$Motion" "f00" "I") (by decide +kernel)
  have f36 := hts (.fieldLink RX3 36 "FieldFilter$Motion" "f11" "I") (by decide +kernel)
  refine lv_aload_n hx hb dX3_twice_0 rfl (lv_at hl 0 rfl) ?_
  refine lv_aload_n hx hb dX3_twice_1 rfl (lv_at hl 0 rfl) ?_
  refine va_get (D := D) (ci := 3) (v := .ref q0) (C := RX3) (T := TX3) (N := 5) hx hb hts iX3 hown hK.1 hP 0 rfl rfl 4 (by decide) f12 (fun _ h9 => h9) rfl dX3_twice_2 ?_
  have ct5 := c_X3_spreadq l D tys h0 q0 f0 f1 f2 f3 k0 k1 k2
  refine k_goV (va_runV (As := [.ref q0]) (rest := []) ⟨hx, hb, hml, hown, hts⟩ (ct5.2 _) (cwV 1 hts gX3_twice_X3_spread rfl rfl rfl (by decide +kernel) ⟨Nat.le_of_ble_eq_true rfl, Nat.le_of_ble_eq_true rfl⟩) ⟨(k_pre hK hP hD (is := [0, 1]) rfl rfl).1, va_recv hK.1 hP (ci := 3) (q0 := 0) rfl rfl, (k_pre hK hP hD (is := [0, 1]) rfl rfl).2⟩ rfl rfl hl.1 rfl (lv_room (Nat.le_of_ble_eq_true rfl)) dX3_twice_5 ⟨Nat.le_of_ble_eq_true rfl, Nat.le_of_ble_eq_true rfl⟩) ct5.1 hP hD hS hA [0, 1] rfl rfl (fun H locs hP hD hS => ?_)
  have hP : va_P D vwCl [(h0, .inr (3, [.int (vI f0), .int (vI f1), .int (vI f2), .int (vI f3), .ref q0])), (q0, .inr (5, [.int (vI ((f0 * k0 + f1 * k1) * f0 + (f0 * k1 + f1 * k2) * f1 + k0)), .int (vI ((f0 * k0 + f1 * k1) * f2 + (f0 * k1 + f1 * k2) * f3 + k1)), .int (vI ((f2 * k0 + f3 * k1) * f2 + (f2 * k1 + f3 * k2) * f3 + k2))]))] H := hP
  have hD : va_D A [(h0, .inr (3, [.int (vI f0), .int (vI f1), .int (vI f2), .int (vI f3), .ref q0])), (q0, .inr (5, [.int (vI ((f0 * k0 + f1 * k1) * f0 + (f0 * k1 + f1 * k2) * f1 + k0)), .int (vI ((f0 * k0 + f1 * k1) * f2 + (f0 * k1 + f1 * k2) * f3 + k1)), .int (vI ((f2 * k0 + f3 * k1) * f2 + (f2 * k1 + f3 * k2) * f3 + k2))]))] := hD
  refine lv_aload_n hx hb dX3_twice_8 rfl (lv_at hl 0 rfl) ?_
  refine va_get (D := D) (ci := 3) (v := .int (vI f1)) (C := RX3) (T := TX3) (N := 5) hx hb hts iX3 hown hK.1 hP 0 rfl rfl 1 (by decide) f30 (fun _ h9 => h9) rfl dX3_twice_9 ?_
  refine lv_aload_n hx hb dX3_twice_12 rfl (lv_at hl 0 rfl) ?_
  refine va_get (D := D) (ci := 3) (v := .int (vI f2)) (C := RX3) (T := TX3) (N := 5) hx hb hts iX3 hown hK.1 hP 0 rfl rfl 2 (by decide) f33 (fun _ h9 => h9) rfl dX3_twice_13 ?_
  refine n_imul hx hb dX3_twice_16 ?_
  refine n_sipush hx hb dX3_twice_17 (by decide) ?_
  refine n_irem hx hb dX3_twice_20 (rp_mul (rp_v f1) (rp_v f2)) (Nat.le_of_ble_eq_true rfl) ?_
  refine lv_istore_n (lv' := [(1, .int (vI (f1 * f2))), (0, .ref h0)]) hx hb dX3_twice_21 rfl hl (by decide) rfl (fun ls hl => ?_)
  refine lv_aload_n hx hb dX3_twice_22 rfl (lv_at hl 1 rfl) ?_
  refine va_get (D := D) (ci := 3) (v := .int (vI f0)) (C := RX3) (T := TX3) (N := 5) hx hb hts iX3 hown hK.1 hP 0 rfl rfl 0 (by decide) f26 (fun _ h9 => h9) rfl dX3_twice_23 ?_
  refine lv_aload_n hx hb dX3_twice_26 rfl (lv_at hl 1 rfl) ?_
  refine va_get (D := D) (ci := 3) (v := .int (vI f3)) (C := RX3) (T := TX3) (N := 5) hx hb hts iX3 hown hK.1 hP 0 rfl rfl 3 (by decide) f36 (fun _ h9 => h9) rfl dX3_twice_27 ?_
  refine n_iadd hx hb dX3_twice_30 ?_
  refine n_sipush hx hb dX3_twice_31 (by decide) ?_
  refine n_irem hx hb dX3_twice_34 (rp_add (rp_v f0) (rp_v f3)) (Nat.le_of_ble_eq_true rfl) ?_
  refine lv_istore_n (lv' := [(2, .int (vI (f0 + f3))), (1, .int (vI (f1 * f2))), (0, .ref h0)]) hx hb dX3_twice_35 rfl hl (by decide) rfl (fun ls hl => ?_)
  refine lv_aload_n hx hb dX3_twice_36 rfl (lv_at hl 2 rfl) ?_
  refine lv_aload_n hx hb dX3_twice_37 rfl (lv_at hl 2 rfl) ?_
  refine va_get (D := D) (ci := 3) (v := .int (vI f0)) (C := RX3) (T := TX3) (N := 5) hx hb hts iX3 hown hK.1 hP 0 rfl rfl 0 (by decide) f26 (fun _ h9 => h9) rfl dX3_twice_38 ?_
  refine lv_aload_n hx hb dX3_twice_41 rfl (lv_at hl 2 rfl) ?_
  refine va_get (D := D) (ci := 3) (v := .int (vI f0)) (C := RX3) (T := TX3) (N := 5) hx hb hts iX3 hown hK.1 hP 0 rfl rfl 0 (by decide) f26 (fun _ h9 => h9) rfl dX3_twice_42 ?_
  refine n_imul hx hb dX3_twice_45 ?_
  refine lv_iload_n hx hb dX3_twice_46 rfl (lv_at hl 1 rfl) ?_
  refine n_iadd hx hb dX3_twice_47 ?_
  refine n_sipush hx hb dX3_twice_48 (by decide) ?_
  refine n_irem hx hb dX3_twice_51 (rp_add (rp_mul (rp_v f0) (rp_v f0)) (rp_v (f1 * f2))) (Nat.le_of_ble_eq_true rfl) ?_
  refine lv_aload_n hx hb dX3_twice_52 rfl (lv_at hl 2 rfl) ?_
  refine va_get (D := D) (ci := 3) (v := .int (vI f1)) (C := RX3) (T := TX3) (N := 5) hx hb hts iX3 hown hK.1 hP 0 rfl rfl 1 (by decide) f30 (fun _ h9 => h9) rfl dX3_twice_53 ?_
  refine lv_iload_n hx hb dX3_twice_56 rfl (lv_at hl 0 rfl) ?_
  refine n_imul hx hb dX3_twice_57 ?_
  refine n_sipush hx hb dX3_twice_58 (by decide) ?_
  refine n_irem hx hb dX3_twice_61 (rp_mul (rp_v f1) (rp_v (f0 + f3))) (Nat.le_of_ble_eq_true rfl) ?_
  refine lv_aload_n hx hb dX3_twice_62 rfl (lv_at hl 2 rfl) ?_
  refine va_get (D := D) (ci := 3) (v := .int (vI f2)) (C := RX3) (T := TX3) (N := 5) hx hb hts iX3 hown hK.1 hP 0 rfl rfl 2 (by decide) f33 (fun _ h9 => h9) rfl dX3_twice_63 ?_
  refine lv_iload_n hx hb dX3_twice_66 rfl (lv_at hl 0 rfl) ?_
  refine n_imul hx hb dX3_twice_67 ?_
  refine n_sipush hx hb dX3_twice_68 (by decide) ?_
  refine n_irem hx hb dX3_twice_71 (rp_mul (rp_v f2) (rp_v (f0 + f3))) (Nat.le_of_ble_eq_true rfl) ?_
  refine lv_aload_n hx hb dX3_twice_72 rfl (lv_at hl 2 rfl) ?_
  refine va_get (D := D) (ci := 3) (v := .int (vI f3)) (C := RX3) (T := TX3) (N := 5) hx hb hts iX3 hown hK.1 hP 0 rfl rfl 3 (by decide) f36 (fun _ h9 => h9) rfl dX3_twice_73 ?_
  refine lv_aload_n hx hb dX3_twice_76 rfl (lv_at hl 2 rfl) ?_
  refine va_get (D := D) (ci := 3) (v := .int (vI f3)) (C := RX3) (T := TX3) (N := 5) hx hb hts iX3 hown hK.1 hP 0 rfl rfl 3 (by decide) f36 (fun _ h9 => h9) rfl dX3_twice_77 ?_
  refine n_imul hx hb dX3_twice_80 ?_
  refine lv_iload_n hx hb dX3_twice_81 rfl (lv_at hl 1 rfl) ?_
  refine n_iadd hx hb dX3_twice_82 ?_
  refine n_sipush hx hb dX3_twice_83 (by decide) ?_
  refine n_irem hx hb dX3_twice_86 (rp_add (rp_mul (rp_v f3) (rp_v f3)) (rp_v (f1 * f2))) (Nat.le_of_ble_eq_true rfl) ?_
  have ct87 := c_X3_setF l D tys h0 q0 (vI f0) (vI f1) (vI f2) (vI f3) (vI ((f0 * f0) + (f1 * f2))) (vI (f1 * (f0 + f3))) (vI (f2 * (f0 + f3))) (vI ((f3 * f3) + (f1 * f2)))
  refine k_goV (va_runV (As := [.int (vI ((f0 * f0) + (f1 * f2))), .int (vI (f1 * (f0 + f3))), .int (vI (f2 * (f0 + f3))), .int (vI ((f3 * f3) + (f1 * f2)))]) (rest := []) ⟨hx, hb, hml, hown, hts⟩ (ct87.2 _) (cwV 4 hts gX3_twice_X3_setF rfl rfl rfl (by decide +kernel) ⟨Nat.le_of_ble_eq_true rfl, Nat.le_of_ble_eq_true rfl⟩) ⟨(k_pre hK hP hD (is := [0]) rfl rfl).1, va_recv hK.1 hP (ci := 3) (q0 := 0) rfl rfl, (k_pre hK hP hD (is := [0]) rfl rfl).2⟩ rfl rfl hl.1 rfl (lv_room (Nat.le_of_ble_eq_true rfl)) dX3_twice_87 ⟨Nat.le_of_ble_eq_true rfl, Nat.le_of_ble_eq_true rfl⟩) ct87.1 hP hD hS hA [0] rfl rfl (fun H locs hP hD hS => ?_)
  have hP : va_P D vwCl [(h0, .inr (3, [.int (vI ((f0 * f0) + (f1 * f2))), .int (vI (f1 * (f0 + f3))), .int (vI (f2 * (f0 + f3))), .int (vI ((f3 * f3) + (f1 * f2))), .ref q0])), (q0, .inr (5, [.int (vI ((f0 * k0 + f1 * k1) * f0 + (f0 * k1 + f1 * k2) * f1 + k0)), .int (vI ((f0 * k0 + f1 * k1) * f2 + (f0 * k1 + f1 * k2) * f3 + k1)), .int (vI ((f2 * k0 + f3 * k1) * f2 + (f2 * k1 + f3 * k2) * f3 + k2))]))] H := hP
  have hD : va_D A [(h0, .inr (3, [.int (vI ((f0 * f0) + (f1 * f2))), .int (vI (f1 * (f0 + f3))), .int (vI (f2 * (f0 + f3))), .int (vI ((f3 * f3) + (f1 * f2))), .ref q0])), (q0, .inr (5, [.int (vI ((f0 * k0 + f1 * k1) * f0 + (f0 * k1 + f1 * k2) * f1 + k0)), .int (vI ((f0 * k0 + f1 * k1) * f2 + (f0 * k1 + f1 * k2) * f3 + k1)), .int (vI ((f2 * k0 + f3 * k1) * f2 + (f2 * k1 + f3 * k2) * f3 + k2))]))] := hD
  exact k_vret hx hb hr hlocks dX3_twice_90 hP hS

set_option maxHeartbeats 4000000 in
set_option maxRecDepth 100000 in
/--  -/
theorem c_X2_look (l : Launch) (D : va_G) (tys : List (ClassId × FieldType)) (h0 hh ph : Nat) (z r tm thr y s0 g0 a b nz nr u v : Int32) (dr ga : Bool) : CtV l D tys yX2_look wsX2_look 1 22 [.ref h0, .int a, .int b, .int nz, .int nr] [(h0, .inr (2, [.ref hh, .int z, .int r, .int tm, .int thr, .int (jI (iB dr)), .ref ph, .int y, .int s0, .int g0, .int (jI (iB ga))])), (hh, .inr (0, [.int u, .int v]))] [(h0, .inr (2, [.ref hh, .int nz, .int nr, .int tm, .int thr, .int (jI (iB dr)), .ref ph, .int y, .int s0, .int g0, .int (jI (iB ga))])), (hh, .inr (0, [.int a, .int b]))] := by
  refine CtV.of (cc := cX2_look) (maxL := 5) (by decide +kernel) rfl rfl (Nat.le_of_ble_eq_true rfl) ?_
  intro p e s m below meth c A ls hcx hK hP hD hA hl
  obtain ⟨hx, hb, hr, hml, hown, hts, hlocks⟩ := hcx
  have hS : va_S A s.heap s.heap [] := va_S.rf
  have hown : s.vm.findClass RX2 = some m.cls := hown
  have hl : lv_has ls 5 [(0, .ref h0), (1, .int a), (2, .int b), (3, .int nz), (4, .int nr)] := hl
  have f12 := hts (.fieldLink RX2 12 "FieldFilter$Measurement" "h" "LFieldFilter$Column;") (by decide +kernel)
  have iX2 : ∀ w ∈ u_ws RX2 TX2 11, w ∈ wsX2_look := by decide +kernel
  have f25 := hts (.fieldLink RX2 25 "FieldFilter$Measurement" "z" "I") (by decide +kernel)
  have f29 := hts (.fieldLink RX2 29 "FieldFilter$Measurement" "r" "I") (by decide +kernel)
  refine lv_aload_n hx hb dX2_look_0 rfl (lv_at hl 0 rfl) ?_
  refine va_get (D := D) (ci := 2) (v := .ref hh) (C := RX2) (T := TX2) (N := 11) hx hb hts iX2 hown hK.1 hP 0 rfl rfl 0 (by decide) f12 (fun _ h9 => h9) rfl dX2_look_1 ?_
  refine lv_iload_n hx hb dX2_look_4 rfl (lv_at hl 1 rfl) ?_
  refine lv_iload_n hx hb dX2_look_5 rfl (lv_at hl 2 rfl) ?_
  have ct6 := c_X0_set l D tys hh u v a b
  refine k_goV (va_runV (As := [.int a, .int b]) (rest := []) ⟨hx, hb, hml, hown, hts⟩ (ct6.2 _) (cwV 2 hts gX2_look_X0_set rfl rfl rfl (by decide +kernel) ⟨Nat.le_of_ble_eq_true rfl, Nat.le_of_ble_eq_true rfl⟩) ⟨(k_pre hK hP hD (is := [1]) rfl rfl).1, va_recv hK.1 hP (ci := 0) (q0 := 1) rfl rfl, (k_pre hK hP hD (is := [1]) rfl rfl).2⟩ rfl rfl hl.1 rfl (lv_room (Nat.le_of_ble_eq_true rfl)) dX2_look_6 ⟨Nat.le_of_ble_eq_true rfl, Nat.le_of_ble_eq_true rfl⟩) ct6.1 hP hD hS hA [1] rfl rfl (fun H locs hP hD hS => ?_)
  have hP : va_P D vwCl [(h0, .inr (2, [.ref hh, .int z, .int r, .int tm, .int thr, .int (jI (iB dr)), .ref ph, .int y, .int s0, .int g0, .int (jI (iB ga))])), (hh, .inr (0, [.int a, .int b]))] H := hP
  have hD : va_D A [(h0, .inr (2, [.ref hh, .int z, .int r, .int tm, .int thr, .int (jI (iB dr)), .ref ph, .int y, .int s0, .int g0, .int (jI (iB ga))])), (hh, .inr (0, [.int a, .int b]))] := hD
  refine lv_aload_n hx hb dX2_look_9 rfl (lv_at hl 0 rfl) ?_
  refine lv_iload_n hx hb dX2_look_10 rfl (lv_at hl 3 rfl) ?_
  refine va_put (D := D) (ci := 2) (v := .int nz) (ty := .int) (C := RX2) (T := TX2) (N := 11) hx hb hts iX2 tyX2 tyX2_ok nmX2 hown hK.1 hP hD hS 0 rfl rfl 1 (by decide) f25 (fun _ h9 => h9) rfl (by decide +kernel) rfl rfl (Nat.le_of_ble_eq_true rfl) dX2_look_11 (fun H locs hP hD hS => ?_)
  have hP : va_P D vwCl [(h0, .inr (2, [.ref hh, .int nz, .int r, .int tm, .int thr, .int (jI (iB dr)), .ref ph, .int y, .int s0, .int g0, .int (jI (iB ga))])), (hh, .inr (0, [.int a, .int b]))] H := hP
  have hD : va_D A [(h0, .inr (2, [.ref hh, .int nz, .int r, .int tm, .int thr, .int (jI (iB dr)), .ref ph, .int y, .int s0, .int g0, .int (jI (iB ga))])), (hh, .inr (0, [.int a, .int b]))] := hD
  refine lv_aload_n hx hb dX2_look_14 rfl (lv_at hl 0 rfl) ?_
  refine lv_iload hx hb dX2_look_15 (lv_at hl 4 rfl) ?_
  refine va_put (D := D) (ci := 2) (v := .int nr) (ty := .int) (C := RX2) (T := TX2) (N := 11) hx hb hts iX2 tyX2 tyX2_ok nmX2 hown hK.1 hP hD hS 0 rfl rfl 2 (by decide) f29 (fun _ h9 => h9) rfl (by decide +kernel) rfl rfl (Nat.le_of_ble_eq_true rfl) dX2_look_17 (fun H locs hP hD hS => ?_)
  have hP : va_P D vwCl [(h0, .inr (2, [.ref hh, .int nz, .int nr, .int tm, .int thr, .int (jI (iB dr)), .ref ph, .int y, .int s0, .int g0, .int (jI (iB ga))])), (hh, .inr (0, [.int a, .int b]))] H := hP
  have hD : va_D A [(h0, .inr (2, [.ref hh, .int nz, .int nr, .int tm, .int thr, .int (jI (iB dr)), .ref ph, .int y, .int s0, .int g0, .int (jI (iB ga))])), (hh, .inr (0, [.int a, .int b]))] := hD
  exact k_vret hx hb hr hlocks dX2_look_20 hP hS

set_option maxHeartbeats 4000000 in
set_option maxRecDepth 100000 in
/--  -/
theorem c_X2_place (l : Launch) (D : va_G) (tys : List (ClassId × FieldType)) (h0 hh ph : Nat) (z r tm thr y s0 g0 nt nh : Int32) (dr ga : Bool) : CtV l D tys yX2_place wsX2_place 0 0 [.ref h0, .int nt, .int nh] [(h0, .inr (2, [.ref hh, .int z, .int r, .int tm, .int thr, .int (jI (iB dr)), .ref ph, .int y, .int s0, .int g0, .int (jI (iB ga))]))] [(h0, .inr (2, [.ref hh, .int z, .int r, .int nt, .int nh, .int (jI (iB dr)), .ref ph, .int y, .int s0, .int g0, .int (jI (iB ga))]))] := by
  refine CtV.of (cc := cX2_place) (maxL := 3) (by decide +kernel) rfl rfl (Nat.le_of_ble_eq_true rfl) ?_
  intro p e s m below meth c A ls hcx hK hP hD hA hl
  obtain ⟨hx, hb, hr, hml, hown, hts, hlocks⟩ := hcx
  have hS : va_S A s.heap s.heap [] := va_S.rf
  have hown : s.vm.findClass RX2 = some m.cls := hown
  have hl : lv_has ls 3 [(0, .ref h0), (1, .int nt), (2, .int nh)] := hl
  have f32 := hts (.fieldLink RX2 32 "FieldFilter$Measurement" "time" "I") (by decide +kernel)
  have iX2 : ∀ w ∈ u_ws RX2 TX2 11, w ∈ wsX2_place := by decide +kernel
  have f35 := hts (.fieldLink RX2 35 "FieldFilter$Measurement" "threshold" "I") (by decide +kernel)
  refine lv_aload_n hx hb dX2_place_0 rfl (lv_at hl 0 rfl) ?_
  refine lv_iload_n hx hb dX2_place_1 rfl (lv_at hl 1 rfl) ?_
  refine va_put (D := D) (ci := 2) (v := .int nt) (ty := .int) (C := RX2) (T := TX2) (N := 11) hx hb hts iX2 tyX2 tyX2_ok nmX2 hown hK.1 hP hD hS 0 rfl rfl 3 (by decide) f32 (fun _ h9 => h9) rfl (by decide +kernel) rfl rfl (Nat.le_of_ble_eq_true rfl) dX2_place_2 (fun H locs hP hD hS => ?_)
  have hP : va_P D vwCl [(h0, .inr (2, [.ref hh, .int z, .int r, .int nt, .int thr, .int (jI (iB dr)), .ref ph, .int y, .int s0, .int g0, .int (jI (iB ga))]))] H := hP
  have hD : va_D A [(h0, .inr (2, [.ref hh, .int z, .int r, .int nt, .int thr, .int (jI (iB dr)), .ref ph, .int y, .int s0, .int g0, .int (jI (iB ga))]))] := hD
  refine lv_aload_n hx hb dX2_place_5 rfl (lv_at hl 0 rfl) ?_
  refine lv_iload_n hx hb dX2_place_6 rfl (lv_at hl 2 rfl) ?_
  refine va_put (D := D) (ci := 2) (v := .int nh) (ty := .int) (C := RX2) (T := TX2) (N := 11) hx hb hts iX2 tyX2 tyX2_ok nmX2 hown hK.1 hP hD hS 0 rfl rfl 4 (by decide) f35 (fun _ h9 => h9) rfl (by decide +kernel) rfl rfl (Nat.le_of_ble_eq_true rfl) dX2_place_7 (fun H locs hP hD hS => ?_)
  have hP : va_P D vwCl [(h0, .inr (2, [.ref hh, .int z, .int r, .int nt, .int nh, .int (jI (iB dr)), .ref ph, .int y, .int s0, .int g0, .int (jI (iB ga))]))] H := hP
  have hD : va_D A [(h0, .inr (2, [.ref hh, .int z, .int r, .int nt, .int nh, .int (jI (iB dr)), .ref ph, .int y, .int s0, .int g0, .int (jI (iB ga))]))] := hD
  exact k_vret hx hb hr hlocks dX2_place_10 hP hS

set_option maxHeartbeats 4000000 in
set_option maxRecDepth 100000 in
/--  -/
theorem c_X2_countsAtn (l : Launch) (D : va_G) (tys : List (ClassId × FieldType)) (h0 hh ph : Nat) (z r thr y s0 g0 : Int32) (mt t : Int) (q1 : r32 mt) (q2 : r32 t) (dr ga : Bool) (h9 : ¬ mt = t) : CtI l D tys yX2_countsAt wsX2_countsAt 0 0 [.ref h0, .int (jI t)] (jI (iB false)) [(h0, .inr (2, [.ref hh, .int z, .int r, .int (jI mt), .int thr, .int (jI (iB dr)), .ref ph, .int y, .int s0, .int g0, .int (jI (iB ga))]))] [(h0, .inr (2, [.ref hh, .int z, .int r, .int (jI mt), .int thr, .int (jI (iB dr)), .ref ph, .int y, .int s0, .int g0, .int (jI (iB ga))]))] := by
  refine CtI.of (cc := cX2_countsAt) (maxL := 2) (by decide +kernel) rfl rfl (Nat.le_of_ble_eq_true rfl) ?_
  intro p e s m below meth c A ls hcx hK hP hD hA hl
  obtain ⟨hx, hb, hr, hml, hown, hts, hlocks⟩ := hcx
  have hS : va_S A s.heap s.heap [] := va_S.rf
  have hown : s.vm.findClass RX2 = some m.cls := hown
  have hl : lv_has ls 2 [(0, .ref h0), (1, .int (jI t))] := hl
  have f32 := hts (.fieldLink RX2 32 "FieldFilter$Measurement" "time" "I") (by decide +kernel)
  have iX2 : ∀ w ∈ u_ws RX2 TX2 11, w ∈ wsX2_countsAt := by decide +kernel
  refine lv_aload_n hx hb dX2_countsAt_0 rfl (lv_at hl 0 rfl) ?_
  refine va_get (D := D) (ci := 2) (v := .int (jI mt)) (C := RX2) (T := TX2) (N := 11) hx hb hts iX2 hown hK.1 hP 0 rfl rfl 3 (by decide) f32 (fun _ h9 => h9) rfl dX2_countsAt_1 ?_
  refine lv_iload_n hx hb dX2_countsAt_4 rfl (lv_at hl 1 rfl) ?_
  refine n_icmp_ne (tgt := 19) hx hb q1 q2 dX2_countsAt_5 (by decide) (fun h5 => ?_) (fun h5 => False.elim (h9 h5))
  refine n_iconst hx hb dX2_countsAt_19 ?_
  exact k_zret (b := false) hx hb hr hlocks dX2_countsAt_20 hP hS rfl rfl

set_option maxHeartbeats 4000000 in
set_option maxRecDepth 100000 in
/--  -/
theorem c_X2_countsAtd (l : Launch) (D : va_G) (tys : List (ClassId × FieldType)) (h0 hh ph : Nat) (z r thr y s0 g0 : Int32) (mt t : Int) (q1 : r32 mt) (q2 : r32 t) (ga : Bool) (h9 : mt = t) : CtI l D tys yX2_countsAt wsX2_countsAt 0 0 [.ref h0, .int (jI t)] (jI (iB false)) [(h0, .inr (2, [.ref hh, .int z, .int r, .int (jI mt), .int thr, .int (jI (iB true)), .ref ph, .int y, .int s0, .int g0, .int (jI (iB ga))]))] [(h0, .inr (2, [.ref hh, .int z, .int r, .int (jI mt), .int thr, .int (jI (iB true)), .ref ph, .int y, .int s0, .int g0, .int (jI (iB ga))]))] := by
  refine CtI.of (cc := cX2_countsAt) (maxL := 2) (by decide +kernel) rfl rfl (Nat.le_of_ble_eq_true rfl) ?_
  intro p e s m below meth c A ls hcx hK hP hD hA hl
  obtain ⟨hx, hb, hr, hml, hown, hts, hlocks⟩ := hcx
  have hS : va_S A s.heap s.heap [] := va_S.rf
  have hown : s.vm.findClass RX2 = some m.cls := hown
  have hl : lv_has ls 2 [(0, .ref h0), (1, .int (jI t))] := hl
  have f32 := hts (.fieldLink RX2 32 "FieldFilter$Measurement" "time" "I") (by decide +kernel)
  have iX2 : ∀ w ∈ u_ws RX2 TX2 11, w ∈ wsX2_countsAt := by decide +kernel
  have f38 := hts (.fieldLink RX2 38 "FieldFilter$Measurement" "dropped" "Z") (by decide +kernel)
  refine lv_aload_n hx hb dX2_countsAt_0 rfl (lv_at hl 0 rfl) ?_
  refine va_get (D := D) (ci := 2) (v := .int (jI mt)) (C := RX2) (T := TX2) (N := 11) hx hb hts iX2 hown hK.1 hP 0 rfl rfl 3 (by decide) f32 (fun _ h9 => h9) rfl dX2_countsAt_1 ?_
  refine lv_iload_n hx hb dX2_countsAt_4 rfl (lv_at hl 1 rfl) ?_
  refine n_icmp_ne (tgt := 19) hx hb q1 q2 dX2_countsAt_5 (by decide) (fun h5 => False.elim (h5 h9)) (fun h5 => ?_)
  refine lv_aload_n hx hb dX2_countsAt_8 rfl (lv_at hl 0 rfl) ?_
  refine va_get (D := D) (ci := 2) (v := .int (jI (iB true))) (C := RX2) (T := TX2) (N := 11) hx hb hts iX2 hown hK.1 hP 0 rfl rfl 5 (by decide) f38 (fun _ h9 => h9) rfl dX2_countsAt_9 ?_
  refine n_if_ne (tgt := 19) hx hb (by unfold r32; decide) dX2_countsAt_12 (by decide) (fun h12 => ?_) (fun h12 => False.elim (absurd h12 (by decide)))
  refine n_iconst hx hb dX2_countsAt_19 ?_
  exact k_zret (b := false) hx hb hr hlocks dX2_countsAt_20 hP hS rfl rfl

set_option maxHeartbeats 4000000 in
set_option maxRecDepth 100000 in
/--  -/
theorem c_X2_countsAty (l : Launch) (D : va_G) (tys : List (ClassId × FieldType)) (h0 hh ph : Nat) (z r thr y s0 g0 : Int32) (mt t : Int) (q1 : r32 mt) (q2 : r32 t) (ga : Bool) (h9 : mt = t) : CtI l D tys yX2_countsAt wsX2_countsAt 0 0 [.ref h0, .int (jI t)] (jI (iB true)) [(h0, .inr (2, [.ref hh, .int z, .int r, .int (jI mt), .int thr, .int (jI (iB false)), .ref ph, .int y, .int s0, .int g0, .int (jI (iB ga))]))] [(h0, .inr (2, [.ref hh, .int z, .int r, .int (jI mt), .int thr, .int (jI (iB false)), .ref ph, .int y, .int s0, .int g0, .int (jI (iB ga))]))] := by
  refine CtI.of (cc := cX2_countsAt) (maxL := 2) (by decide +kernel) rfl rfl (Nat.le_of_ble_eq_true rfl) ?_
  intro p e s m below meth c A ls hcx hK hP hD hA hl
  obtain ⟨hx, hb, hr, hml, hown, hts, hlocks⟩ := hcx
  have hS : va_S A s.heap s.heap [] := va_S.rf
  have hown : s.vm.findClass RX2 = some m.cls := hown
  have hl : lv_has ls 2 [(0, .ref h0), (1, .int (jI t))] := hl
  have f32 := hts (.fieldLink RX2 32 "FieldFilter$Measurement" "time" "I") (by decide +kernel)
  have iX2 : ∀ w ∈ u_ws RX2 TX2 11, w ∈ wsX2_countsAt := by decide +kernel
  have f38 := hts (.fieldLink RX2 38 "FieldFilter$Measurement" "dropped" "Z") (by decide +kernel)
  refine lv_aload_n hx hb dX2_countsAt_0 rfl (lv_at hl 0 rfl) ?_
  refine va_get (D := D) (ci := 2) (v := .int (jI mt)) (C := RX2) (T := TX2) (N := 11) hx hb hts iX2 hown hK.1 hP 0 rfl rfl 3 (by decide) f32 (fun _ h9 => h9) rfl dX2_countsAt_1 ?_
  refine lv_iload_n hx hb dX2_countsAt_4 rfl (lv_at hl 1 rfl) ?_
  refine n_icmp_ne (tgt := 19) hx hb q1 q2 dX2_countsAt_5 (by decide) (fun h5 => False.elim (h5 h9)) (fun h5 => ?_)
  refine lv_aload_n hx hb dX2_countsAt_8 rfl (lv_at hl 0 rfl) ?_
  refine va_get (D := D) (ci := 2) (v := .int (jI (iB false))) (C := RX2) (T := TX2) (N := 11) hx hb hts iX2 hown hK.1 hP 0 rfl rfl 5 (by decide) f38 (fun _ h9 => h9) rfl dX2_countsAt_9 ?_
  refine n_if_ne (tgt := 19) hx hb (by unfold r32; decide) dX2_countsAt_12 (by decide) (fun h12 => False.elim (absurd rfl h12)) (fun h12 => ?_)
  refine n_iconst hx hb dX2_countsAt_15 ?_
  refine lv_goto (tgt := 20) hx hb dX2_countsAt_16 (by decide) ?_
  exact k_zret (b := true) hx hb hr hlocks dX2_countsAt_20 hP hS rfl rfl

set_option maxHeartbeats 4000000 in
set_option maxRecDepth 100000 in
/--  -/
theorem c_X2_weigh (l : Launch) (D : va_G) (tys : List (ClassId × FieldType)) (h0 hh ph p0 : Nat) (z r thr : Zp) (tm y s0 g0 q0 q1 : Int32) (dr ga : Bool) (h j a b d : Zp) : CtV l D tys yX2_weigh wsX2_weigh 2 43 [.ref h0, .ref p0] [(h0, .inr (2, [.ref hh, .int (vI z), .int (vI r), .int tm, .int (vI thr), .int (jI (iB dr)), .ref ph, .int y, .int s0, .int g0, .int (jI (iB ga))])), (hh, .inr (0, [.int (vI h), .int (vI j)])), (ph, .inr (0, [.int q0, .int q1])), (p0, .inr (5, [.int (vI a), .int (vI b), .int (vI d)]))] [(h0, .inr (2, [.ref hh, .int (vI z), .int (vI r), .int tm, .int (vI thr), .int (jI (iB dr)), .ref ph, .int y, .int (vI (((h * (a * h + b * j)) + (j * (b * h + d * j))) + r)), .int g0, .int (jI (iB ga))])), (hh, .inr (0, [.int (vI h), .int (vI j)])), (ph, .inr (0, [.int (vI (a * h + b * j)), .int (vI (b * h + d * j))])), (p0, .inr (5, [.int (vI a), .int (vI b), .int (vI d)]))] := by
  refine CtV.of (cc := cX2_weigh) (maxL := 2) (by decide +kernel) rfl rfl (Nat.le_of_ble_eq_true rfl) ?_
  intro p e s m below meth c A ls hcx hK hP hD hA hl
  obtain ⟨hx, hb, hr, hml, hown, hts, hlocks⟩ := hcx
  have hS : va_S A s.heap s.heap [] := va_S.rf
  have hown : s.vm.findClass RX2 = some m.cls := hown
  have hl : lv_has ls 2 [(0, .ref h0), (1, .ref p0)] := hl
  have f18 := hts (.fieldLink RX2 18 "FieldFilter$Measurement" "ph" "LFieldFilter$Column;") (by decide +kernel)
  have iX2 : ∀ w ∈ u_ws RX2 TX2 11, w ∈ wsX2_weigh := by decide +kernel
  have f12 := hts (.fieldLink RX2 12 "FieldFilter$Measurement" "h" "LFieldFilter$Column;") (by decide +kernel)
  have f51 := hts (.fieldLink RX2 51 "FieldFilter$Column" "upper" "I") (by decide +kernel)
  have iX0 : ∀ w ∈ u_ws RX0 TX0 2, w ∈ wsX2_weigh := by decide +kernel
  have f54 := hts (.fieldLink RX2 54 "FieldFilter$Column" "lower" "I") (by decide +kernel)
  have f29 := hts (.fieldLink RX2 29 "FieldFilter$Measurement" "r" "I") (by decide +kernel)
  have f57 := hts (.fieldLink RX2 57 "FieldFilter$Measurement" "s" "I") (by decide +kernel)
  refine lv_aload_n hx hb dX2_weigh_0 rfl (lv_at hl 0 rfl) ?_
  refine va_get (D := D) (ci := 2) (v := .ref ph) (C := RX2) (T := TX2) (N := 11) hx hb hts iX2 hown hK.1 hP 0 rfl rfl 6 (by decide) f18 (fun _ h9 => h9) rfl dX2_weigh_1 ?_
  refine lv_aload_n hx hb dX2_weigh_4 rfl (lv_at hl 0 rfl) ?_
  refine va_get (D := D) (ci := 2) (v := .ref hh) (C := RX2) (T := TX2) (N := 11) hx hb hts iX2 hown hK.1 hP 0 rfl rfl 0 (by decide) f12 (fun _ h9 => h9) rfl dX2_weigh_5 ?_
  have ct8 := c_X0_copy l D tys ph hh q0 q1 (vI h) (vI j)
  refine k_goV (va_runV (As := [.ref hh]) (rest := []) ⟨hx, hb, hml, hown, hts⟩ (ct8.2 _) (cwV 1 hts gX2_weigh_X0_copy rfl rfl rfl (by decide +kernel) ⟨Nat.le_of_ble_eq_true rfl, Nat.le_of_ble_eq_true rfl⟩) ⟨(k_pre hK hP hD (is := [2, 1]) rfl rfl).1, va_recv hK.1 hP (ci := 0) (q0 := 2) rfl rfl, (k_pre hK hP hD (is := [2, 1]) rfl rfl).2⟩ rfl rfl hl.1 rfl (lv_room (Nat.le_of_ble_eq_true rfl)) dX2_weigh_8 ⟨Nat.le_of_ble_eq_true rfl, Nat.le_of_ble_eq_true rfl⟩) ct8.1 hP hD hS hA [2, 1] rfl rfl (fun H locs hP hD hS => ?_)
  have hP : va_P D vwCl [(h0, .inr (2, [.ref hh, .int (vI z), .int (vI r), .int tm, .int (vI thr), .int (jI (iB dr)), .ref ph, .int y, .int s0, .int g0, .int (jI (iB ga))])), (hh, .inr (0, [.int (vI h), .int (vI j)])), (ph, .inr (0, [.int (vI h), .int (vI j)])), (p0, .inr (5, [.int (vI a), .int (vI b), .int (vI d)]))] H := hP
  have hD : va_D A [(h0, .inr (2, [.ref hh, .int (vI z), .int (vI r), .int tm, .int (vI thr), .int (jI (iB dr)), .ref ph, .int y, .int s0, .int g0, .int (jI (iB ga))])), (hh, .inr (0, [.int (vI h), .int (vI j)])), (ph, .inr (0, [.int (vI h), .int (vI j)])), (p0, .inr (5, [.int (vI a), .int (vI b), .int (vI d)]))] := hD
  refine lv_aload_n hx hb dX2_weigh_11 rfl (lv_at hl 1 rfl) ?_
  refine lv_aload_n hx hb dX2_weigh_12 rfl (lv_at hl 0 rfl) ?_
  refine va_get (D := D) (ci := 2) (v := .ref ph) (C := RX2) (T := TX2) (N := 11) hx hb hts iX2 hown hK.1 hP 0 rfl rfl 6 (by decide) f18 (fun _ h9 => h9) rfl dX2_weigh_13 ?_
  have ct16 := c_X5_multiply l D tys p0 ph a b d h j
  refine k_goV (va_runV (As := [.ref ph]) (rest := []) ⟨hx, hb, hml, hown, hts⟩ (ct16.2 _) (cwV 1 hts gX2_weigh_X5_multiply rfl rfl rfl (by decide +kernel) ⟨Nat.le_of_ble_eq_true rfl, Nat.le_of_ble_eq_true rfl⟩) ⟨(k_pre hK hP hD (is := [3, 2]) rfl rfl).1, va_recv hK.1 hP (ci := 5) (q0 := 3) rfl rfl, (k_pre hK hP hD (is := [3, 2]) rfl rfl).2⟩ rfl rfl hl.1 rfl (lv_room (Nat.le_of_ble_eq_true rfl)) dX2_weigh_16 ⟨Nat.le_of_ble_eq_true rfl, Nat.le_of_ble_eq_true rfl⟩) ct16.1 hP hD hS hA [3, 2] rfl rfl (fun H locs hP hD hS => ?_)
  have hP : va_P D vwCl [(h0, .inr (2, [.ref hh, .int (vI z), .int (vI r), .int tm, .int (vI thr), .int (jI (iB dr)), .ref ph, .int y, .int s0, .int g0, .int (jI (iB ga))])), (hh, .inr (0, [.int (vI h), .int (vI j)])), (ph, .inr (0, [.int (vI (a * h + b * j)), .int (vI (b * h + d * j))])), (p0, .inr (5, [.int (vI a), .int (vI b), .int (vI d)]))] H := hP
  have hD : va_D A [(h0, .inr (2, [.ref hh, .int (vI z), .int (vI r), .int tm, .int (vI thr), .int (jI (iB dr)), .ref ph, .int y, .int s0, .int g0, .int (jI (iB ga))])), (hh, .inr (0, [.int (vI h), .int (vI j)])), (ph, .inr (0, [.int (vI (a * h + b * j)), .int (vI (b * h + d * j))])), (p0, .inr (5, [.int (vI a), .int (vI b), .int (vI d)]))] := hD
  refine lv_aload_n hx hb dX2_weigh_19 rfl (lv_at hl 0 rfl) ?_
  refine lv_aload_n hx hb dX2_weigh_20 rfl (lv_at hl 0 rfl) ?_
  refine va_get (D := D) (ci := 2) (v := .ref hh) (C := RX2) (T := TX2) (N := 11) hx hb hts iX2 hown hK.1 hP 0 rfl rfl 0 (by decide) f12 (fun _ h9 => h9) rfl dX2_weigh_21 ?_
  refine va_get (D := D) (ci := 0) (v := .int (vI h)) (C := RX0) (T := TX0) (N := 2) hx hb hts iX0 hown hK.1 hP 1 rfl rfl 0 (by decide) f51 (fun _ h9 => h9) rfl dX2_weigh_24 ?_
  refine lv_aload_n hx hb dX2_weigh_27 rfl (lv_at hl 0 rfl) ?_
  refine va_get (D := D) (ci := 2) (v := .ref ph) (C := RX2) (T := TX2) (N := 11) hx hb hts iX2 hown hK.1 hP 0 rfl rfl 6 (by decide) f18 (fun _ h9 => h9) rfl dX2_weigh_28 ?_
  refine va_get (D := D) (ci := 0) (v := .int (vI (a * h + b * j))) (C := RX0) (T := TX0) (N := 2) hx hb hts iX0 hown hK.1 hP 2 rfl rfl 0 (by decide) f51 (fun _ h9 => h9) rfl dX2_weigh_31 ?_
  refine n_imul hx hb dX2_weigh_34 ?_
  refine lv_aload_n hx hb dX2_weigh_35 rfl (lv_at hl 0 rfl) ?_
  refine va_get (D := D) (ci := 2) (v := .ref hh) (C := RX2) (T := TX2) (N := 11) hx hb hts iX2 hown hK.1 hP 0 rfl rfl 0 (by decide) f12 (fun _ h9 => h9) rfl dX2_weigh_36 ?_
  refine va_get (D := D) (ci := 0) (v := .int (vI j)) (C := RX0) (T := TX0) (N := 2) hx hb hts iX0 hown hK.1 hP 1 rfl rfl 1 (by decide) f54 (fun _ h9 => h9) rfl dX2_weigh_39 ?_
  refine lv_aload_n hx hb dX2_weigh_42 rfl (lv_at hl 0 rfl) ?_
  refine va_get (D := D) (ci := 2) (v := .ref ph) (C := RX2) (T := TX2) (N := 11) hx hb hts iX2 hown hK.1 hP 0 rfl rfl 6 (by decide) f18 (fun _ h9 => h9) rfl dX2_weigh_43 ?_
  refine va_get (D := D) (ci := 0) (v := .int (vI (b * h + d * j))) (C := RX0) (T := TX0) (N := 2) hx hb hts iX0 hown hK.1 hP 2 rfl rfl 1 (by decide) f54 (fun _ h9 => h9) rfl dX2_weigh_46 ?_
  refine n_imul hx hb dX2_weigh_49 ?_
  refine n_iadd hx hb dX2_weigh_50 ?_
  refine lv_aload_n hx hb dX2_weigh_51 rfl (lv_at hl 0 rfl) ?_
  refine va_get (D := D) (ci := 2) (v := .int (vI r)) (C := RX2) (T := TX2) (N := 11) hx hb hts iX2 hown hK.1 hP 0 rfl rfl 2 (by decide) f29 (fun _ h9 => h9) rfl dX2_weigh_52 ?_
  refine n_iadd hx hb dX2_weigh_55 ?_
  refine n_sipush hx hb dX2_weigh_56 (by decide) ?_
  refine n_irem hx hb dX2_weigh_59 (rp_add (rp_add (rp_mul (rp_v h) (rp_v (a * h + b * j))) (rp_mul (rp_v j) (rp_v (b * h + d * j)))) (rp_v r)) (Nat.le_of_ble_eq_true rfl) ?_
  refine va_put (D := D) (ci := 2) (v := .int (vI (((h * (a * h + b * j)) + (j * (b * h + d * j))) + r))) (ty := .int) (C := RX2) (T := TX2) (N := 11) hx hb hts iX2 tyX2 tyX2_ok nmX2 hown hK.1 hP hD hS 0 rfl rfl 8 (by decide) f57 (fun _ h9 => h9) rfl (by decide +kernel) rfl rfl (Nat.le_of_ble_eq_true rfl) dX2_weigh_60 (fun H locs hP hD hS => ?_)
  have hP : va_P D vwCl [(h0, .inr (2, [.ref hh, .int (vI z), .int (vI r), .int tm, .int (vI thr), .int (jI (iB dr)), .ref ph, .int y, .int (vI (((h * (a * h + b * j)) + (j * (b * h + d * j))) + r)), .int g0, .int (jI (iB ga))])), (hh, .inr (0, [.int (vI h), .int (vI j)])), (ph, .inr (0, [.int (vI (a * h + b * j)), .int (vI (b * h + d * j))])), (p0, .inr (5, [.int (vI a), .int (vI b), .int (vI d)]))] H := hP
  have hD : va_D A [(h0, .inr (2, [.ref hh, .int (vI z), .int (vI r), .int tm, .int (vI thr), .int (jI (iB dr)), .ref ph, .int y, .int (vI (((h * (a * h + b * j)) + (j * (b * h + d * j))) + r)), .int g0, .int (jI (iB ga))])), (hh, .inr (0, [.int (vI h), .int (vI j)])), (ph, .inr (0, [.int (vI (a * h + b * j)), .int (vI (b * h + d * j))])), (p0, .inr (5, [.int (vI a), .int (vI b), .int (vI d)]))] := hD
  exact k_vret hx hb hr hlocks dX2_weigh_63 hP hS

set_option maxHeartbeats 4000000 in
set_option maxRecDepth 100000 in
/--  -/
theorem c_X2_correct (l : Launch) (D : va_G) (tys : List (ClassId × FieldType)) (h0 hh ph st x0 p0 : Nat) (z r thr tm g0 : Int32) (dr ga : Bool) (y s0 k0 k1 u v a b d : Zp) : CtV l D tys yX2_correct wsX2_correct 2 47 [.ref h0, .ref st] [(h0, .inr (2, [.ref hh, .int z, .int r, .int tm, .int thr, .int (jI (iB dr)), .ref ph, .int (vI y), .int (vI s0), .int g0, .int (jI (iB ga))])), (ph, .inr (0, [.int (vI k0), .int (vI k1)])), (st, .inr (4, [.ref x0, .ref p0])), (x0, .inr (0, [.int (vI u), .int (vI v)])), (p0, .inr (5, [.int (vI a), .int (vI b), .int (vI d)]))] [(h0, .inr (2, [.ref hh, .int z, .int r, .int tm, .int thr, .int (jI (iB dr)), .ref ph, .int (vI y), .int (vI s0), .int g0, .int (jI (iB ga))])), (ph, .inr (0, [.int (vI k0), .int (vI k1)])), (st, .inr (4, [.ref x0, .ref p0])), (x0, .inr (0, [.int (vI (u + (k0 * (y * (zinv s0))))), .int (vI (v + (k1 * (y * (zinv s0)))))])), (p0, .inr (5, [.int (vI (a + k0 * (0 - (zinv s0)) * k0)), .int (vI (b + k0 * (0 - (zinv s0)) * k1)), .int (vI (d + k1 * (0 - (zinv s0)) * k1))]))] := by
  refine CtV.of (cc := cX2_correct) (maxL := 5) (by decide +kernel) rfl rfl (Nat.le_of_ble_eq_true rfl) ?_
  intro p e s m below meth c A ls hcx hK hP hD hA hl
  obtain ⟨hx, hb, hr, hml, hown, hts, hlocks⟩ := hcx
  have hS : va_S A s.heap s.heap [] := va_S.rf
  have hown : s.vm.findClass RX2 = some m.cls := hown
  have hl : lv_has ls 5 [(0, .ref h0), (1, .ref st)] := hl
  have f57 := hts (.fieldLink RX2 57 "FieldFilter$Measurement" "s" "I") (by decide +kernel)
  have iX2 : ∀ w ∈ u_ws RX2 TX2 11, w ∈ wsX2_correct := by decide +kernel
  have sX6_inverse := hts (.static yX6_inverse) (by decide +kernel)
  have iniX6 := hts (.initialized RX6) (by decide +kernel)
  have f77 := hts (.fieldLink RX2 77 "FieldFilter$Measurement" "y" "I") (by decide +kernel)
  have f70 := hts (.fieldLink RX2 70 "FieldFilter$State" "x" "LFieldFilter$Column;") (by decide +kernel)
  have iX4 : ∀ w ∈ u_ws RX4 TX4 2, w ∈ wsX2_correct := by decide +kernel
  have f51 := hts (.fieldLink RX2 51 "FieldFilter$Column" "upper" "I") (by decide +kernel)
  have iX0 : ∀ w ∈ u_ws RX0 TX0 2, w ∈ wsX2_correct := by decide +kernel
  have f18 := hts (.fieldLink RX2 18 "FieldFilter$Measurement" "ph" "LFieldFilter$Column;") (by decide +kernel)
  have f54 := hts (.fieldLink RX2 54 "FieldFilter$Column" "lower" "I") (by decide +kernel)
  have f60 := hts (.fieldLink RX2 60 "FieldFilter$State" "p" "LFieldFilter$Symmetric;") (by decide +kernel)
  have sX6_less := hts (.static yX6_less) (by decide +kernel)
  refine lv_aload_n hx hb dX2_correct_0 rfl (lv_at hl 0 rfl) ?_
  refine va_get (D := D) (ci := 2) (v := .int (vI s0)) (C := RX2) (T := TX2) (N := 11) hx hb hts iX2 hown hK.1 hP 0 rfl rfl 8 (by decide) f57 (fun _ h9 => h9) rfl dX2_correct_1 ?_
  have ct4 := c_X6_inverse l D tys s0
  refine k_goI (va_runSN (As := [.int (vI s0)]) (rest := []) ⟨hx, hb, hml, hown, hts⟩ (ct4.2 _) ⟨va_cnB (own := RX2) (host := "FieldFilter") (index := 93) 1 hts gX2_correct_X6_inverse_n93 rfl rfl rfl (hK.2 (RX2, 93, yX6_inverse, "FieldFilter") (by decide +kernel)) iniX6 (by decide +kernel) ⟨Nat.le_of_ble_eq_true rfl, Nat.le_of_ble_eq_true rfl⟩, sX6_inverse, trivial⟩ (k_pre hK hP hD (is := []) rfl rfl) rfl rfl hl.1 rfl (lv_room (Nat.le_of_ble_eq_true rfl)) dX2_correct_4 ⟨Nat.le_of_ble_eq_true rfl, Nat.le_of_ble_eq_true rfl⟩) ct4.1 hP hD hS hA [] rfl rfl (fun H locs hP hD hS => ?_)
  have hP : va_P D vwCl [(h0, .inr (2, [.ref hh, .int z, .int r, .int tm, .int thr, .int (jI (iB dr)), .ref ph, .int (vI y), .int (vI s0), .int g0, .int (jI (iB ga))])), (ph, .inr (0, [.int (vI k0), .int (vI k1)])), (st, .inr (4, [.ref x0, .ref p0])), (x0, .inr (0, [.int (vI u), .int (vI v)])), (p0, .inr (5, [.int (vI a), .int (vI b), .int (vI d)]))] H := hP
  have hD : va_D A [(h0, .inr (2, [.ref hh, .int z, .int r, .int tm, .int thr, .int (jI (iB dr)), .ref ph, .int (vI y), .int (vI s0), .int g0, .int (jI (iB ga))])), (ph, .inr (0, [.int (vI k0), .int (vI k1)])), (st, .inr (4, [.ref x0, .ref p0])), (x0, .inr (0, [.int (vI u), .int (vI v)])), (p0, .inr (5, [.int (vI a), .int (vI b), .int (vI d)]))] := hD
  refine lv_istore_n (lv' := [(2, .int (vI (zinv s0))), (0, .ref h0), (1, .ref st)]) hx hb dX2_correct_7 rfl hl (by decide) rfl (fun ls hl => ?_)
  refine lv_aload_n hx hb dX2_correct_8 rfl (lv_at hl 1 rfl) ?_
  refine va_get (D := D) (ci := 2) (v := .int (vI y)) (C := RX2) (T := TX2) (N := 11) hx hb hts iX2 hown hK.1 hP 0 rfl rfl 7 (by decide) f77 (fun _ h9 => h9) rfl dX2_correct_9 ?_
  refine lv_iload_n hx hb dX2_correct_12 rfl (lv_at hl 0 rfl) ?_
  refine n_imul hx hb dX2_correct_13 ?_
  refine n_sipush hx hb dX2_correct_14 (by decide) ?_
  refine n_irem hx hb dX2_correct_17 (rp_mul (rp_v y) (rp_v (zinv s0))) (Nat.le_of_ble_eq_true rfl) ?_
  refine lv_istore_n (lv' := [(3, .int (vI (y * (zinv s0)))), (2, .int (vI (zinv s0))), (0, .ref h0), (1, .ref st)]) hx hb dX2_correct_18 rfl hl (by decide) rfl (fun ls hl => ?_)
  refine lv_aload_n hx hb dX2_correct_19 rfl (lv_at hl 3 rfl) ?_
  refine va_get (D := D) (ci := 4) (v := .ref x0) (C := RX4) (T := TX4) (N := 2) hx hb hts iX4 hown hK.1 hP 2 rfl rfl 0 (by decide) f70 (fun _ h9 => h9) rfl dX2_correct_20 ?_
  refine lv_astore (lv' := [(4, .ref x0), (3, .int (vI (y * (zinv s0)))), (2, .int (vI (zinv s0))), (0, .ref h0), (1, .ref st)]) hx hb dX2_correct_23 hl (by decide) rfl (fun ls hl => ?_)
  refine lv_aload hx hb dX2_correct_25 (lv_at hl 0 rfl) ?_
  refine lv_aload hx hb dX2_correct_27 (lv_at hl 0 rfl) ?_
  refine va_get (D := D) (ci := 0) (v := .int (vI u)) (C := RX0) (T := TX0) (N := 2) hx hb hts iX0 hown hK.1 hP 3 rfl rfl 0 (by decide) f51 (fun _ h9 => h9) rfl dX2_correct_29 ?_
  refine lv_aload_n hx hb dX2_correct_32 rfl (lv_at hl 3 rfl) ?_
  refine va_get (D := D) (ci := 2) (v := .ref ph) (C := RX2) (T := TX2) (N := 11) hx hb hts iX2 hown hK.1 hP 0 rfl rfl 6 (by decide) f18 (fun _ h9 => h9) rfl dX2_correct_33 ?_
  refine va_get (D := D) (ci := 0) (v := .int (vI k0)) (C := RX0) (T := TX0) (N := 2) hx hb hts iX0 hown hK.1 hP 1 rfl rfl 0 (by decide) f51 (fun _ h9 => h9) rfl dX2_correct_36 ?_
  refine lv_iload_n hx hb dX2_correct_39 rfl (lv_at hl 1 rfl) ?_
  refine n_imul hx hb dX2_correct_40 ?_
  refine n_iadd hx hb dX2_correct_41 ?_
  refine n_sipush hx hb dX2_correct_42 (by decide) ?_
  refine n_irem hx hb dX2_correct_45 (rp_add (rp_v u) (rp_mul (rp_v k0) (rp_v (y * (zinv s0))))) (Nat.le_of_ble_eq_true rfl) ?_
  refine lv_aload hx hb dX2_correct_46 (lv_at hl 0 rfl) ?_
  refine va_get (D := D) (ci := 0) (v := .int (vI v)) (C := RX0) (T := TX0) (N := 2) hx hb hts iX0 hown hK.1 hP 3 rfl rfl 1 (by decide) f54 (fun _ h9 => h9) rfl dX2_correct_48 ?_
  refine lv_aload_n hx hb dX2_correct_51 rfl (lv_at hl 3 rfl) ?_
  refine va_get (D := D) (ci := 2) (v := .ref ph) (C := RX2) (T := TX2) (N := 11) hx hb hts iX2 hown hK.1 hP 0 rfl rfl 6 (by decide) f18 (fun _ h9 => h9) rfl dX2_correct_52 ?_
  refine va_get (D := D) (ci := 0) (v := .int (vI k1)) (C := RX0) (T := TX0) (N := 2) hx hb hts iX0 hown hK.1 hP 1 rfl rfl 1 (by decide) f54 (fun _ h9 => h9) rfl dX2_correct_55 ?_
  refine lv_iload_n hx hb dX2_correct_58 rfl (lv_at hl 1 rfl) ?_
  refine n_imul hx hb dX2_correct_59 ?_
  refine n_iadd hx hb dX2_correct_60 ?_
  refine n_sipush hx hb dX2_correct_61 (by decide) ?_
  refine n_irem hx hb dX2_correct_64 (rp_add (rp_v v) (rp_mul (rp_v k1) (rp_v (y * (zinv s0))))) (Nat.le_of_ble_eq_true rfl) ?_
  have ct65 := c_X0_set l D tys x0 (vI u) (vI v) (vI (u + (k0 * (y * (zinv s0))))) (vI (v + (k1 * (y * (zinv s0)))))
  refine k_goV (va_runV (As := [.int (vI (u + (k0 * (y * (zinv s0))))), .int (vI (v + (k1 * (y * (zinv s0)))))]) (rest := []) ⟨hx, hb, hml, hown, hts⟩ (ct65.2 _) (cwV 2 hts gX2_correct_X0_set rfl rfl rfl (by decide +kernel) ⟨Nat.le_of_ble_eq_true rfl, Nat.le_of_ble_eq_true rfl⟩) ⟨(k_pre hK hP hD (is := [3]) rfl rfl).1, va_recv hK.1 hP (ci := 0) (q0 := 3) rfl rfl, (k_pre hK hP hD (is := [3]) rfl rfl).2⟩ rfl rfl hl.1 rfl (lv_room (Nat.le_of_ble_eq_true rfl)) dX2_correct_65 ⟨Nat.le_of_ble_eq_true rfl, Nat.le_of_ble_eq_true rfl⟩) ct65.1 hP hD hS hA [3] rfl rfl (fun H locs hP hD hS => ?_)
  have hP : va_P D vwCl [(h0, .inr (2, [.ref hh, .int z, .int r, .int tm, .int thr, .int (jI (iB dr)), .ref ph, .int (vI y), .int (vI s0), .int g0, .int (jI (iB ga))])), (ph, .inr (0, [.int (vI k0), .int (vI k1)])), (st, .inr (4, [.ref x0, .ref p0])), (x0, .inr (0, [.int (vI (u + (k0 * (y * (zinv s0))))), .int (vI (v + (k1 * (y * (zinv s0)))))])), (p0, .inr (5, [.int (vI a), .int (vI b), .int (vI d)]))] H := hP
  have hD : va_D A [(h0, .inr (2, [.ref hh, .int z, .int r, .int tm, .int thr, .int (jI (iB dr)), .ref ph, .int (vI y), .int (vI s0), .int g0, .int (jI (iB ga))])), (ph, .inr (0, [.int (vI k0), .int (vI k1)])), (st, .inr (4, [.ref x0, .ref p0])), (x0, .inr (0, [.int (vI (u + (k0 * (y * (zinv s0))))), .int (vI (v + (k1 * (y * (zinv s0)))))])), (p0, .inr (5, [.int (vI a), .int (vI b), .int (vI d)]))] := hD
  refine lv_aload_n hx hb dX2_correct_68 rfl (lv_at hl 4 rfl) ?_
  refine va_get (D := D) (ci := 4) (v := .ref p0) (C := RX4) (T := TX4) (N := 2) hx hb hts iX4 hown hK.1 hP 2 rfl rfl 1 (by decide) f60 (fun _ h9 => h9) rfl dX2_correct_69 ?_
  refine lv_aload_n hx hb dX2_correct_72 rfl (lv_at hl 3 rfl) ?_
  refine va_get (D := D) (ci := 2) (v := .ref ph) (C := RX2) (T := TX2) (N := 11) hx hb hts iX2 hown hK.1 hP 0 rfl rfl 6 (by decide) f18 (fun _ h9 => h9) rfl dX2_correct_73 ?_
  refine n_iconst hx hb dX2_correct_76 ?_
  refine lv_iload_n hx hb dX2_correct_77 rfl (lv_at hl 2 rfl) ?_
  have ct78 := c_X6_less l D tys 0 (zv (zinv s0)) _ _ (ra_sub (rp_a rp_0) (rp_a (rp_v (zinv s0)))) (Nat.le_of_ble_eq_true rfl)
  refine k_goI (va_runSN (As := [.int (jI 0), .int (vI (zinv s0))]) (rest := [.ref ph, .ref p0]) ⟨hx, hb, hml, hown, hts⟩ (ct78.2 _) ⟨va_cnB (own := RX2) (host := "FieldFilter") (index := 73) 2 hts gX2_correct_X6_less_n73 rfl rfl rfl (hK.2 (RX2, 73, yX6_less, "FieldFilter") (by decide +kernel)) iniX6 (by decide +kernel) ⟨Nat.le_of_ble_eq_true rfl, Nat.le_of_ble_eq_true rfl⟩, sX6_less, trivial⟩ (k_pre hK hP hD (is := []) rfl rfl) rfl rfl hl.1 rfl (lv_room (Nat.le_of_ble_eq_true rfl)) dX2_correct_78 ⟨Nat.le_of_ble_eq_true rfl, Nat.le_of_ble_eq_true rfl⟩) ct78.1 hP hD hS hA [] rfl rfl (fun H locs hP hD hS => ?_)
  have hP : va_P D vwCl [(h0, .inr (2, [.ref hh, .int z, .int r, .int tm, .int thr, .int (jI (iB dr)), .ref ph, .int (vI y), .int (vI s0), .int g0, .int (jI (iB ga))])), (ph, .inr (0, [.int (vI k0), .int (vI k1)])), (st, .inr (4, [.ref x0, .ref p0])), (x0, .inr (0, [.int (vI (u + (k0 * (y * (zinv s0))))), .int (vI (v + (k1 * (y * (zinv s0)))))])), (p0, .inr (5, [.int (vI a), .int (vI b), .int (vI d)]))] H := hP
  have hD : va_D A [(h0, .inr (2, [.ref hh, .int z, .int r, .int tm, .int thr, .int (jI (iB dr)), .ref ph, .int (vI y), .int (vI s0), .int g0, .int (jI (iB ga))])), (ph, .inr (0, [.int (vI k0), .int (vI k1)])), (st, .inr (4, [.ref x0, .ref p0])), (x0, .inr (0, [.int (vI (u + (k0 * (y * (zinv s0))))), .int (vI (v + (k1 * (y * (zinv s0)))))])), (p0, .inr (5, [.int (vI a), .int (vI b), .int (vI d)]))] := hD
  have ct81 := c_X5_addSquare l D tys p0 ph a b d k0 k1 (0 - (zinv s0))
  refine k_goV (va_runV (As := [.ref ph, .int (vI (0 - (zinv s0)))]) (rest := []) ⟨hx, hb, hml, hown, hts⟩ (ct81.2 _) (cwV 2 hts gX2_correct_X5_addSquare rfl rfl rfl (by decide +kernel) ⟨Nat.le_of_ble_eq_true rfl, Nat.le_of_ble_eq_true rfl⟩) ⟨(k_pre hK hP hD (is := [4, 1]) rfl rfl).1, va_recv hK.1 hP (ci := 5) (q0 := 4) rfl rfl, (k_pre hK hP hD (is := [4, 1]) rfl rfl).2⟩ rfl rfl hl.1 rfl (lv_room (Nat.le_of_ble_eq_true rfl)) dX2_correct_81 ⟨Nat.le_of_ble_eq_true rfl, Nat.le_of_ble_eq_true rfl⟩) ct81.1 hP hD hS hA [4, 1] rfl rfl (fun H locs hP hD hS => ?_)
  have hP : va_P D vwCl [(h0, .inr (2, [.ref hh, .int z, .int r, .int tm, .int thr, .int (jI (iB dr)), .ref ph, .int (vI y), .int (vI s0), .int g0, .int (jI (iB ga))])), (ph, .inr (0, [.int (vI k0), .int (vI k1)])), (st, .inr (4, [.ref x0, .ref p0])), (x0, .inr (0, [.int (vI (u + (k0 * (y * (zinv s0))))), .int (vI (v + (k1 * (y * (zinv s0)))))])), (p0, .inr (5, [.int (vI (a + k0 * (0 - (zinv s0)) * k0)), .int (vI (b + k0 * (0 - (zinv s0)) * k1)), .int (vI (d + k1 * (0 - (zinv s0)) * k1))]))] H := hP
  have hD : va_D A [(h0, .inr (2, [.ref hh, .int z, .int r, .int tm, .int thr, .int (jI (iB dr)), .ref ph, .int (vI y), .int (vI s0), .int g0, .int (jI (iB ga))])), (ph, .inr (0, [.int (vI k0), .int (vI k1)])), (st, .inr (4, [.ref x0, .ref p0])), (x0, .inr (0, [.int (vI (u + (k0 * (y * (zinv s0))))), .int (vI (v + (k1 * (y * (zinv s0)))))])), (p0, .inr (5, [.int (vI (a + k0 * (0 - (zinv s0)) * k0)), .int (vI (b + k0 * (0 - (zinv s0)) * k1)), .int (vI (d + k1 * (0 - (zinv s0)) * k1))]))] := hD
  exact k_vret hx hb hr hlocks dX2_correct_84 hP hS

set_option maxHeartbeats 4000000 in
set_option maxRecDepth 100000 in
/--  -/
theorem c_X2_take0 (l : Launch) (D : va_G) (tys : List (ClassId × FieldType)) (h0 hh ph st x0 p0 : Nat) (z r thr : Zp) (tm y s0 g0 q0 q1 : Int32) (dr ga : Bool) (h j u v a b d : Zp) (h9 : (h * (a * h + b * j) + j * (b * h + d * j) + r) = 0) : CtI l D tys yX2_take wsX2_take 3 64 [.ref h0, .ref st] (jI (iB false)) [(h0, .inr (2, [.ref hh, .int (vI z), .int (vI r), .int tm, .int (vI thr), .int (jI (iB dr)), .ref ph, .int y, .int s0, .int g0, .int (jI (iB ga))])), (hh, .inr (0, [.int (vI h), .int (vI j)])), (ph, .inr (0, [.int q0, .int q1])), (st, .inr (4, [.ref x0, .ref p0])), (x0, .inr (0, [.int (vI u), .int (vI v)])), (p0, .inr (5, [.int (vI a), .int (vI b), .int (vI d)]))] [(h0, .inr (2, [.ref hh, .int (vI z), .int (vI r), .int tm, .int (vI thr), .int (jI (iB dr)), .ref ph, .int y, .int (vI (h * (a * h + b * j) + j * (b * h + d * j) + r)), .int g0, .int (jI (iB ga))])), (hh, .inr (0, [.int (vI h), .int (vI j)])), (ph, .inr (0, [.int (vI (a * h + b * j)), .int (vI (b * h + d * j))])), (st, .inr (4, [.ref x0, .ref p0])), (x0, .inr (0, [.int (vI u), .int (vI v)])), (p0, .inr (5, [.int (vI a), .int (vI b), .int (vI d)]))] := by
  refine CtI.of (cc := cX2_take) (maxL := 2) (by decide +kernel) rfl rfl (Nat.le_of_ble_eq_true rfl) ?_
  intro p e s m below meth c A ls hcx hK hP hD hA hl
  obtain ⟨hx, hb, hr, hml, hown, hts, hlocks⟩ := hcx
  have hS : va_S A s.heap s.heap [] := va_S.rf
  have hown : s.vm.findClass RX2 = some m.cls := hown
  have hl : lv_has ls 2 [(0, .ref h0), (1, .ref st)] := hl
  have f60 := hts (.fieldLink RX2 60 "FieldFilter$State" "p" "LFieldFilter$Symmetric;") (by decide +kernel)
  have iX4 : ∀ w ∈ u_ws RX4 TX4 2, w ∈ wsX2_take := by decide +kernel
  have f57 := hts (.fieldLink RX2 57 "FieldFilter$Measurement" "s" "I") (by decide +kernel)
  have iX2 : ∀ w ∈ u_ws RX2 TX2 11, w ∈ wsX2_take := by decide +kernel
  refine lv_aload_n hx hb dX2_take_0 rfl (lv_at hl 0 rfl) ?_
  refine lv_aload_n hx hb dX2_take_1 rfl (lv_at hl 1 rfl) ?_
  refine va_get (D := D) (ci := 4) (v := .ref p0) (C := RX4) (T := TX4) (N := 2) hx hb hts iX4 hown hK.1 hP 3 rfl rfl 1 (by decide) f60 (fun _ h9 => h9) rfl dX2_take_2 ?_
  have ct5 := c_X2_weigh l D tys h0 hh ph p0 z r thr tm y s0 g0 q0 q1 dr ga h j a b d
  refine k_goV (va_runV (As := [.ref p0]) (rest := []) ⟨hx, hb, hml, hown, hts⟩ (ct5.2 _) (cwV 1 hts gX2_take_X2_weigh rfl rfl rfl (by decide +kernel) ⟨Nat.le_of_ble_eq_true rfl, Nat.le_of_ble_eq_true rfl⟩) ⟨(k_pre hK hP hD (is := [0, 1, 2, 5]) rfl rfl).1, va_recv hK.1 hP (ci := 2) (q0 := 0) rfl rfl, (k_pre hK hP hD (is := [0, 1, 2, 5]) rfl rfl).2⟩ rfl rfl hl.1 rfl (lv_room (Nat.le_of_ble_eq_true rfl)) dX2_take_5 ⟨Nat.le_of_ble_eq_true rfl, Nat.le_of_ble_eq_true rfl⟩) ct5.1 hP hD hS hA [0, 1, 2, 5] rfl rfl (fun H locs hP hD hS => ?_)
  have hP : va_P D vwCl [(h0, .inr (2, [.ref hh, .int (vI z), .int (vI r), .int tm, .int (vI thr), .int (jI (iB dr)), .ref ph, .int y, .int (vI (h * (a * h + b * j) + j * (b * h + d * j) + r)), .int g0, .int (jI (iB ga))])), (hh, .inr (0, [.int (vI h), .int (vI j)])), (ph, .inr (0, [.int (vI (a * h + b * j)), .int (vI (b * h + d * j))])), (st, .inr (4, [.ref x0, .ref p0])), (x0, .inr (0, [.int (vI u), .int (vI v)])), (p0, .inr (5, [.int (vI a), .int (vI b), .int (vI d)]))] H := hP
  have hD : va_D A [(h0, .inr (2, [.ref hh, .int (vI z), .int (vI r), .int tm, .int (vI thr), .int (jI (iB dr)), .ref ph, .int y, .int (vI (h * (a * h + b * j) + j * (b * h + d * j) + r)), .int g0, .int (jI (iB ga))])), (hh, .inr (0, [.int (vI h), .int (vI j)])), (ph, .inr (0, [.int (vI (a * h + b * j)), .int (vI (b * h + d * j))])), (st, .inr (4, [.ref x0, .ref p0])), (x0, .inr (0, [.int (vI u), .int (vI v)])), (p0, .inr (5, [.int (vI a), .int (vI b), .int (vI d)]))] := hD
  refine lv_aload_n hx hb dX2_take_8 rfl (lv_at hl 0 rfl) ?_
  refine va_get (D := D) (ci := 2) (v := .int (vI (h * (a * h + b * j) + j * (b * h + d * j) + r))) (C := RX2) (T := TX2) (N := 11) hx hb hts iX2 hown hK.1 hP 0 rfl rfl 8 (by decide) f57 (fun _ h9 => h9) rfl dX2_take_9 ?_
  refine n_if_ne (tgt := 17) hx hb (by have h9 := (rp_v (h * (a * h + b * j) + j * (b * h + d * j) + r)); exact ⟨by have := h9.1; omega, by have := h9.2.1; omega⟩) dX2_take_12 (by decide) (fun h12 => False.elim (h12 (zv_eq0.mpr h9))) (fun h12 => ?_)
  refine n_iconst hx hb dX2_take_15 ?_
  exact k_zret (b := false) hx hb hr hlocks dX2_take_16 hP hS rfl rfl

set_option maxHeartbeats 4000000 in
set_option maxRecDepth 100000 in
/--  -/
theorem c_X2_takeg (l : Launch) (D : va_G) (tys : List (ClassId × FieldType)) (h0 hh ph st x0 p0 : Nat) (z r thr : Zp) (tm y s0 g0 q0 q1 : Int32) (dr ga : Bool) (h j u v a b d : Zp) (h9 : ¬ (h * (a * h + b * j) + j * (b * h + d * j) + r) = 0) (h8 : zv thr < zv ((z - (h * u + j * v)) * (z - (h * u + j * v)) * zinv (h * (a * h + b * j) + j * (b * h + d * j) + r))) : CtI l D tys yX2_take wsX2_take 3 64 [.ref h0, .ref st] (jI (iB true)) [(h0, .inr (2, [.ref hh, .int (vI z), .int (vI r), .int tm, .int (vI thr), .int (jI (iB dr)), .ref ph, .int y, .int s0, .int g0, .int (jI (iB ga))])), (hh, .inr (0, [.int (vI h), .int (vI j)])), (ph, .inr (0, [.int q0, .int q1])), (st, .inr (4, [.ref x0, .ref p0])), (x0, .inr (0, [.int (vI u), .int (vI v)])), (p0, .inr (5, [.int (vI a), .int (vI b), .int (vI d)]))] [(h0, .inr (2, [.ref hh, .int (vI z), .int (vI r), .int tm, .int (vI thr), .int (jI (iB dr)), .ref ph, .int (vI (z - ((h * u) + (j * v)))), .int (vI (h * (a * h + b * j) + j * (b * h + d * j) + r)), .int (vI (((z - ((h * u) + (j * v))) * (z - ((h * u) + (j * v)))) * zinv (h * (a * h + b * j) + j * (b * h + d * j) + r))), .int (jI (iB true))])), (hh, .inr (0, [.int (vI h), .int (vI j)])), (ph, .inr (0, [.int (vI (a * h + b * j)), .int (vI (b * h + d * j))])), (st, .inr (4, [.ref x0, .ref p0])), (x0, .inr (0, [.int (vI u), .int (vI v)])), (p0, .inr (5, [.int (vI a), .int (vI b), .int (vI d)]))] := by
  refine CtI.of (cc := cX2_take) (maxL := 2) (by decide +kernel) rfl rfl (Nat.le_of_ble_eq_true rfl) ?_
  intro p e s m below meth c A ls hcx hK hP hD hA hl
  obtain ⟨hx, hb, hr, hml, hown, hts, hlocks⟩ := hcx
  have hS : va_S A s.heap s.heap [] := va_S.rf
  have hown : s.vm.findClass RX2 = some m.cls := hown
  have hl : lv_has ls 2 [(0, .ref h0), (1, .ref st)] := hl
  have f60 := hts (.fieldLink RX2 60 "FieldFilter$State" "p" "LFieldFilter$Symmetric;") (by decide +kernel)
  have iX4 : ∀ w ∈ u_ws RX4 TX4 2, w ∈ wsX2_take := by decide +kernel
  have f57 := hts (.fieldLink RX2 57 "FieldFilter$Measurement" "s" "I") (by decide +kernel)
  have iX2 : ∀ w ∈ u_ws RX2 TX2 11, w ∈ wsX2_take := by decide +kernel
  have f25 := hts (.fieldLink RX2 25 "FieldFilter$Measurement" "z" "I") (by decide +kernel)
  have f12 := hts (.fieldLink RX2 12 "FieldFilter$Measurement" "h" "LFieldFilter$Column;") (by decide +kernel)
  have f51 := hts (.fieldLink RX2 51 "FieldFilter$Column" "upper" "I") (by decide +kernel)
  have iX0 : ∀ w ∈ u_ws RX0 TX0 2, w ∈ wsX2_take := by decide +kernel
  have f70 := hts (.fieldLink RX2 70 "FieldFilter$State" "x" "LFieldFilter$Column;") (by decide +kernel)
  have f54 := hts (.fieldLink RX2 54 "FieldFilter$Column" "lower" "I") (by decide +kernel)
  have sX6_less := hts (.static yX6_less) (by decide +kernel)
  have iniX6 := hts (.initialized RX6) (by decide +kernel)
  have f77 := hts (.fieldLink RX2 77 "FieldFilter$Measurement" "y" "I") (by decide +kernel)
  have sX6_divide := hts (.static yX6_divide) (by decide +kernel)
  have f83 := hts (.fieldLink RX2 83 "FieldFilter$Measurement" "g" "I") (by decide +kernel)
  have f35 := hts (.fieldLink RX2 35 "FieldFilter$Measurement" "threshold" "I") (by decide +kernel)
  have f86 := hts (.fieldLink RX2 86 "FieldFilter$Measurement" "gated" "Z") (by decide +kernel)
  refine lv_aload_n hx hb dX2_take_0 rfl (lv_at hl 0 rfl) ?_
  refine lv_aload_n hx hb dX2_take_1 rfl (lv_at hl 1 rfl) ?_
  refine va_get (D := D) (ci := 4) (v := .ref p0) (C := RX4) (T := TX4) (N := 2) hx hb hts iX4 hown hK.1 hP 3 rfl rfl 1 (by decide) f60 (fun _ h9 => h9) rfl dX2_take_2 ?_
  have ct5 := c_X2_weigh l D tys h0 hh ph p0 z r thr tm y s0 g0 q0 q1 dr ga h j a b d
  refine k_goV (va_runV (As := [.ref p0]) (rest := []) ⟨hx, hb, hml, hown, hts⟩ (ct5.2 _) (cwV 1 hts gX2_take_X2_weigh rfl rfl rfl (by decide +kernel) ⟨Nat.le_of_ble_eq_true rfl, Nat.le_of_ble_eq_true rfl⟩) ⟨(k_pre hK hP hD (is := [0, 1, 2, 5]) rfl rfl).1, va_recv hK.1 hP (ci := 2) (q0 := 0) rfl rfl, (k_pre hK hP hD (is := [0, 1, 2, 5]) rfl rfl).2⟩ rfl rfl hl.1 rfl (lv_room (Nat.le_of_ble_eq_true rfl)) dX2_take_5 ⟨Nat.le_of_ble_eq_true rfl, Nat.le_of_ble_eq_true rfl⟩) ct5.1 hP hD hS hA [0, 1, 2, 5] rfl rfl (fun H locs hP hD hS => ?_)
  have hP : va_P D vwCl [(h0, .inr (2, [.ref hh, .int (vI z), .int (vI r), .int tm, .int (vI thr), .int (jI (iB dr)), .ref ph, .int y, .int (vI (h * (a * h + b * j) + j * (b * h + d * j) + r)), .int g0, .int (jI (iB ga))])), (hh, .inr (0, [.int (vI h), .int (vI j)])), (ph, .inr (0, [.int (vI (a * h + b * j)), .int (vI (b * h + d * j))])), (st, .inr (4, [.ref x0, .ref p0])), (x0, .inr (0, [.int (vI u), .int (vI v)])), (p0, .inr (5, [.int (vI a), .int (vI b), .int (vI d)]))] H := hP
  have hD : va_D A [(h0, .inr (2, [.ref hh, .int (vI z), .int (vI r), .int tm, .int (vI thr), .int (jI (iB dr)), .ref ph, .int y, .int (vI (h * (a * h + b * j) + j * (b * h + d * j) + r)), .int g0, .int (jI (iB ga))])), (hh, .inr (0, [.int (vI h), .int (vI j)])), (ph, .inr (0, [.int (vI (a * h + b * j)), .int (vI (b * h + d * j))])), (st, .inr (4, [.ref x0, .ref p0])), (x0, .inr (0, [.int (vI u), .int (vI v)])), (p0, .inr (5, [.int (vI a), .int (vI b), .int (vI d)]))] := hD
  refine lv_aload_n hx hb dX2_take_8 rfl (lv_at hl 0 rfl) ?_
  refine va_get (D := D) (ci := 2) (v := .int (vI (h * (a * h + b * j) + j * (b * h + d * j) + r))) (C := RX2) (T := TX2) (N := 11) hx hb hts iX2 hown hK.1 hP 0 rfl rfl 8 (by decide) f57 (fun _ h9 => h9) rfl dX2_take_9 ?_
  refine n_if_ne (tgt := 17) hx hb (by have h9 := (rp_v (h * (a * h + b * j) + j * (b * h + d * j) + r)); exact ⟨by have := h9.1; omega, by have := h9.2.1; omega⟩) dX2_take_12 (by decide) (fun h12 => ?_) (fun h12 => False.elim (h9 (zv_eq0.mp h12)))
  refine lv_aload_n hx hb dX2_take_17 rfl (lv_at hl 0 rfl) ?_
  refine lv_aload_n hx hb dX2_take_18 rfl (lv_at hl 0 rfl) ?_
  refine va_get (D := D) (ci := 2) (v := .int (vI z)) (C := RX2) (T := TX2) (N := 11) hx hb hts iX2 hown hK.1 hP 0 rfl rfl 1 (by decide) f25 (fun _ h9 => h9) rfl dX2_take_19 ?_
  refine lv_aload_n hx hb dX2_take_22 rfl (lv_at hl 0 rfl) ?_
  refine va_get (D := D) (ci := 2) (v := .ref hh) (C := RX2) (T := TX2) (N := 11) hx hb hts iX2 hown hK.1 hP 0 rfl rfl 0 (by decide) f12 (fun _ h9 => h9) rfl dX2_take_23 ?_
  refine va_get (D := D) (ci := 0) (v := .int (vI h)) (C := RX0) (T := TX0) (N := 2) hx hb hts iX0 hown hK.1 hP 1 rfl rfl 0 (by decide) f51 (fun _ h9 => h9) rfl dX2_take_26 ?_
  refine lv_aload_n hx hb dX2_take_29 rfl (lv_at hl 1 rfl) ?_
  refine va_get (D := D) (ci := 4) (v := .ref x0) (C := RX4) (T := TX4) (N := 2) hx hb hts iX4 hown hK.1 hP 3 rfl rfl 0 (by decide) f70 (fun _ h9 => h9) rfl dX2_take_30 ?_
  refine va_get (D := D) (ci := 0) (v := .int (vI u)) (C := RX0) (T := TX0) (N := 2) hx hb hts iX0 hown hK.1 hP 4 rfl rfl 0 (by decide) f51 (fun _ h9 => h9) rfl dX2_take_33 ?_
  refine n_imul hx hb dX2_take_36 ?_
  refine lv_aload_n hx hb dX2_take_37 rfl (lv_at hl 0 rfl) ?_
  refine va_get (D := D) (ci := 2) (v := .ref hh) (C := RX2) (T := TX2) (N := 11) hx hb hts iX2 hown hK.1 hP 0 rfl rfl 0 (by decide) f12 (fun _ h9 => h9) rfl dX2_take_38 ?_
  refine va_get (D := D) (ci := 0) (v := .int (vI j)) (C := RX0) (T := TX0) (N := 2) hx hb hts iX0 hown hK.1 hP 1 rfl rfl 1 (by decide) f54 (fun _ h9 => h9) rfl dX2_take_41 ?_
  refine lv_aload_n hx hb dX2_take_44 rfl (lv_at hl 1 rfl) ?_
  refine va_get (D := D) (ci := 4) (v := .ref x0) (C := RX4) (T := TX4) (N := 2) hx hb hts iX4 hown hK.1 hP 3 rfl rfl 0 (by decide) f70 (fun _ h9 => h9) rfl dX2_take_45 ?_
  refine va_get (D := D) (ci := 0) (v := .int (vI v)) (C := RX0) (T := TX0) (N := 2) hx hb hts iX0 hown hK.1 hP 4 rfl rfl 1 (by decide) f54 (fun _ h9 => h9) rfl dX2_take_48 ?_
  refine n_imul hx hb dX2_take_51 ?_
  refine n_iadd hx hb dX2_take_52 ?_
  refine n_sipush hx hb dX2_take_53 (by decide) ?_
  refine n_irem hx hb dX2_take_56 (rp_add (rp_mul (rp_v h) (rp_v u)) (rp_mul (rp_v j) (rp_v v))) (Nat.le_of_ble_eq_true rfl) ?_
  have ct57 := c_X6_less l D tys (zv z) (zv ((h * u) + (j * v))) _ _ (ra_sub (rp_a (rp_v z)) (rp_a (rp_v ((h * u) + (j * v))))) (Nat.le_of_ble_eq_true rfl)
  refine k_goI (va_runSN (As := [.int (vI z), .int (vI ((h * u) + (j * v)))]) (rest := [.ref h0]) ⟨hx, hb, hml, hown, hts⟩ (ct57.2 _) ⟨va_cnB (own := RX2) (host := "FieldFilter") (index := 73) 2 hts gX2_take_X6_less_n73 rfl rfl rfl (hK.2 (RX2, 73, yX6_less, "FieldFilter") (by decide +kernel)) iniX6 (by decide +kernel) ⟨Nat.le_of_ble_eq_true rfl, Nat.le_of_ble_eq_true rfl⟩, sX6_less, trivial⟩ (k_pre hK hP hD (is := []) rfl rfl) rfl rfl hl.1 rfl (lv_room (Nat.le_of_ble_eq_true rfl)) dX2_take_57 ⟨Nat.le_of_ble_eq_true rfl, Nat.le_of_ble_eq_true rfl⟩) ct57.1 hP hD hS hA [] rfl rfl (fun H locs hP hD hS => ?_)
  have hP : va_P D vwCl [(h0, .inr (2, [.ref hh, .int (vI z), .int (vI r), .int tm, .int (vI thr), .int (jI (iB dr)), .ref ph, .int y, .int (vI (h * (a * h + b * j) + j * (b * h + d * j) + r)), .int g0, .int (jI (iB ga))])), (hh, .inr (0, [.int (vI h), .int (vI j)])), (ph, .inr (0, [.int (vI (a * h + b * j)), .int (vI (b * h + d * j))])), (st, .inr (4, [.ref x0, .ref p0])), (x0, .inr (0, [.int (vI u), .int (vI v)])), (p0, .inr (5, [.int (vI a), .int (vI b), .int (vI d)]))] H := hP
  have hD : va_D A [(h0, .inr (2, [.ref hh, .int (vI z), .int (vI r), .int tm, .int (vI thr), .int (jI (iB dr)), .ref ph, .int y, .int (vI (h * (a * h + b * j) + j * (b * h + d * j) + r)), .int g0, .int (jI (iB ga))])), (hh, .inr (0, [.int (vI h), .int (vI j)])), (ph, .inr (0, [.int (vI (a * h + b * j)), .int (vI (b * h + d * j))])), (st, .inr (4, [.ref x0, .ref p0])), (x0, .inr (0, [.int (vI u), .int (vI v)])), (p0, .inr (5, [.int (vI a), .int (vI b), .int (vI d)]))] := hD
  refine va_put (D := D) (ci := 2) (v := .int (vI (z - ((h * u) + (j * v))))) (ty := .int) (C := RX2) (T := TX2) (N := 11) hx hb hts iX2 tyX2 tyX2_ok nmX2 hown hK.1 hP hD hS 0 rfl rfl 7 (by decide) f77 (fun _ h9 => h9) rfl (by decide +kernel) rfl rfl (Nat.le_of_ble_eq_true rfl) dX2_take_60 (fun H locs hP hD hS => ?_)
  have hP : va_P D vwCl [(h0, .inr (2, [.ref hh, .int (vI z), .int (vI r), .int tm, .int (vI thr), .int (jI (iB dr)), .ref ph, .int (vI (z - ((h * u) + (j * v)))), .int (vI (h * (a * h + b * j) + j * (b * h + d * j) + r)), .int g0, .int (jI (iB ga))])), (hh, .inr (0, [.int (vI h), .int (vI j)])), (ph, .inr (0, [.int (vI (a * h + b * j)), .int (vI (b * h + d * j))])), (st, .inr (4, [.ref x0, .ref p0])), (x0, .inr (0, [.int (vI u), .int (vI v)])), (p0, .inr (5, [.int (vI a), .int (vI b), .int (vI d)]))] H := hP
  have hD : va_D A [(h0, .inr (2, [.ref hh, .int (vI z), .int (vI r), .int tm, .int (vI thr), .int (jI (iB dr)), .ref ph, .int (vI (z - ((h * u) + (j * v)))), .int (vI (h * (a * h + b * j) + j * (b * h + d * j) + r)), .int g0, .int (jI (iB ga))])), (hh, .inr (0, [.int (vI h), .int (vI j)])), (ph, .inr (0, [.int (vI (a * h + b * j)), .int (vI (b * h + d * j))])), (st, .inr (4, [.ref x0, .ref p0])), (x0, .inr (0, [.int (vI u), .int (vI v)])), (p0, .inr (5, [.int (vI a), .int (vI b), .int (vI d)]))] := hD
  refine lv_aload_n hx hb dX2_take_63 rfl (lv_at hl 0 rfl) ?_
  refine lv_aload_n hx hb dX2_take_64 rfl (lv_at hl 0 rfl) ?_
  refine va_get (D := D) (ci := 2) (v := .int (vI (z - ((h * u) + (j * v))))) (C := RX2) (T := TX2) (N := 11) hx hb hts iX2 hown hK.1 hP 0 rfl rfl 7 (by decide) f77 (fun _ h9 => h9) rfl dX2_take_65 ?_
  refine lv_aload_n hx hb dX2_take_68 rfl (lv_at hl 0 rfl) ?_
  refine va_get (D := D) (ci := 2) (v := .int (vI (z - ((h * u) + (j * v))))) (C := RX2) (T := TX2) (N := 11) hx hb hts iX2 hown hK.1 hP 0 rfl rfl 7 (by decide) f77 (fun _ h9 => h9) rfl dX2_take_69 ?_
  refine n_imul hx hb dX2_take_72 ?_
  refine n_sipush hx hb dX2_take_73 (by decide) ?_
  refine n_irem hx hb dX2_take_76 (rp_mul (rp_v (z - ((h * u) + (j * v)))) (rp_v (z - ((h * u) + (j * v))))) (Nat.le_of_ble_eq_true rfl) ?_
  refine lv_aload_n hx hb dX2_take_77 rfl (lv_at hl 0 rfl) ?_
  refine va_get (D := D) (ci := 2) (v := .int (vI (h * (a * h + b * j) + j * (b * h + d * j) + r))) (C := RX2) (T := TX2) (N := 11) hx hb hts iX2 hown hK.1 hP 0 rfl rfl 8 (by decide) f57 (fun _ h9 => h9) rfl dX2_take_78 ?_
  have ct81 := c_X6_divide l D tys ((z - ((h * u) + (j * v))) * (z - ((h * u) + (j * v)))) (h * (a * h + b * j) + j * (b * h + d * j) + r)
  refine k_goI (va_runSN (As := [.int (vI ((z - ((h * u) + (j * v))) * (z - ((h * u) + (j * v))))), .int (vI (h * (a * h + b * j) + j * (b * h + d * j) + r))]) (rest := [.ref h0]) ⟨hx, hb, hml, hown, hts⟩ (ct81.2 _) ⟨va_cnB (own := RX2) (host := "FieldFilter") (index := 80) 2 hts gX2_take_X6_divide_n80 rfl rfl rfl (hK.2 (RX2, 80, yX6_divide, "FieldFilter") (by decide +kernel)) iniX6 (by decide +kernel) ⟨Nat.le_of_ble_eq_true rfl, Nat.le_of_ble_eq_true rfl⟩, sX6_divide, trivial⟩ (k_pre hK hP hD (is := []) rfl rfl) rfl rfl hl.1 rfl (lv_room (Nat.le_of_ble_eq_true rfl)) dX2_take_81 ⟨Nat.le_of_ble_eq_true rfl, Nat.le_of_ble_eq_true rfl⟩) ct81.1 hP hD hS hA [] rfl rfl (fun H locs hP hD hS => ?_)
  have hP : va_P D vwCl [(h0, .inr (2, [.ref hh, .int (vI z), .int (vI r), .int tm, .int (vI thr), .int (jI (iB dr)), .ref ph, .int (vI (z - ((h * u) + (j * v)))), .int (vI (h * (a * h + b * j) + j * (b * h + d * j) + r)), .int g0, .int (jI (iB ga))])), (hh, .inr (0, [.int (vI h), .int (vI j)])), (ph, .inr (0, [.int (vI (a * h + b * j)), .int (vI (b * h + d * j))])), (st, .inr (4, [.ref x0, .ref p0])), (x0, .inr (0, [.int (vI u), .int (vI v)])), (p0, .inr (5, [.int (vI a), .int (vI b), .int (vI d)]))] H := hP
  have hD : va_D A [(h0, .inr (2, [.ref hh, .int (vI z), .int (vI r), .int tm, .int (vI thr), .int (jI (iB dr)), .ref ph, .int (vI (z - ((h * u) + (j * v)))), .int (vI (h * (a * h + b * j) + j * (b * h + d * j) + r)), .int g0, .int (jI (iB ga))])), (hh, .inr (0, [.int (vI h), .int (vI j)])), (ph, .inr (0, [.int (vI (a * h + b * j)), .int (vI (b * h + d * j))])), (st, .inr (4, [.ref x0, .ref p0])), (x0, .inr (0, [.int (vI u), .int (vI v)])), (p0, .inr (5, [.int (vI a), .int (vI b), .int (vI d)]))] := hD
  refine va_put (D := D) (ci := 2) (v := .int (vI (((z - ((h * u) + (j * v))) * (z - ((h * u) + (j * v)))) * zinv (h * (a * h + b * j) + j * (b * h + d * j) + r)))) (ty := .int) (C := RX2) (T := TX2) (N := 11) hx hb hts iX2 tyX2 tyX2_ok nmX2 hown hK.1 hP hD hS 0 rfl rfl 9 (by decide) f83 (fun _ h9 => h9) rfl (by decide +kernel) rfl rfl (Nat.le_of_ble_eq_true rfl) dX2_take_84 (fun H locs hP hD hS => ?_)
  have hP : va_P D vwCl [(h0, .inr (2, [.ref hh, .int (vI z), .int (vI r), .int tm, .int (vI thr), .int (jI (iB dr)), .ref ph, .int (vI (z - ((h * u) + (j * v)))), .int (vI (h * (a * h + b * j) + j * (b * h + d * j) + r)), .int (vI (((z - ((h * u) + (j * v))) * (z - ((h * u) + (j * v)))) * zinv (h * (a * h + b * j) + j * (b * h + d * j) + r))), .int (jI (iB ga))])), (hh, .inr (0, [.int (vI h), .int (vI j)])), (ph, .inr (0, [.int (vI (a * h + b * j)), .int (vI (b * h + d * j))])), (st, .inr (4, [.ref x0, .ref p0])), (x0, .inr (0, [.int (vI u), .int (vI v)])), (p0, .inr (5, [.int (vI a), .int (vI b), .int (vI d)]))] H := hP
  have hD : va_D A [(h0, .inr (2, [.ref hh, .int (vI z), .int (vI r), .int tm, .int (vI thr), .int (jI (iB dr)), .ref ph, .int (vI (z - ((h * u) + (j * v)))), .int (vI (h * (a * h + b * j) + j * (b * h + d * j) + r)), .int (vI (((z - ((h * u) + (j * v))) * (z - ((h * u) + (j * v)))) * zinv (h * (a * h + b * j) + j * (b * h + d * j) + r))), .int (jI (iB ga))])), (hh, .inr (0, [.int (vI h), .int (vI j)])), (ph, .inr (0, [.int (vI (a * h + b * j)), .int (vI (b * h + d * j))])), (st, .inr (4, [.ref x0, .ref p0])), (x0, .inr (0, [.int (vI u), .int (vI v)])), (p0, .inr (5, [.int (vI a), .int (vI b), .int (vI d)]))] := hD
  refine lv_aload_n hx hb dX2_take_87 rfl (lv_at hl 0 rfl) ?_
  refine lv_aload_n hx hb dX2_take_88 rfl (lv_at hl 0 rfl) ?_
  refine va_get (D := D) (ci := 2) (v := .int (vI (((z - ((h * u) + (j * v))) * (z - ((h * u) + (j * v)))) * zinv (h * (a * h + b * j) + j * (b * h + d * j) + r)))) (C := RX2) (T := TX2) (N := 11) hx hb hts iX2 hown hK.1 hP 0 rfl rfl 9 (by decide) f83 (fun _ h9 => h9) rfl dX2_take_89 ?_
  refine lv_aload_n hx hb dX2_take_92 rfl (lv_at hl 0 rfl) ?_
  refine va_get (D := D) (ci := 2) (v := .int (vI thr)) (C := RX2) (T := TX2) (N := 11) hx hb hts iX2 hown hK.1 hP 0 rfl rfl 4 (by decide) f35 (fun _ h9 => h9) rfl dX2_take_93 ?_
  refine n_icmp_le (tgt := 103) hx hb (r32_z _) (r32_z _) dX2_take_96 (by decide) (fun h96 => False.elim (by omega)) (fun h96 => ?_)
  refine n_iconst hx hb dX2_take_99 ?_
  refine lv_goto (tgt := 104) hx hb dX2_take_100 (by decide) ?_
  refine va_put (D := D) (ci := 2) (v := .int (jI (iB true))) (ty := .boolean) (C := RX2) (T := TX2) (N := 11) hx hb hts iX2 tyX2 tyX2_ok nmX2 hown hK.1 hP hD hS 0 rfl rfl 10 (by decide) f86 (fun _ h9 => h9) rfl (by decide +kernel) (nar_iB true) (fit_iB true) (Nat.le_of_ble_eq_true rfl) dX2_take_104 (fun H locs hP hD hS => ?_)
  have hP : va_P D vwCl [(h0, .inr (2, [.ref hh, .int (vI z), .int (vI r), .int tm, .int (vI thr), .int (jI (iB dr)), .ref ph, .int (vI (z - ((h * u) + (j * v)))), .int (vI (h * (a * h + b * j) + j * (b * h + d * j) + r)), .int (vI (((z - ((h * u) + (j * v))) * (z - ((h * u) + (j * v)))) * zinv (h * (a * h + b * j) + j * (b * h + d * j) + r))), .int (jI (iB true))])), (hh, .inr (0, [.int (vI h), .int (vI j)])), (ph, .inr (0, [.int (vI (a * h + b * j)), .int (vI (b * h + d * j))])), (st, .inr (4, [.ref x0, .ref p0])), (x0, .inr (0, [.int (vI u), .int (vI v)])), (p0, .inr (5, [.int (vI a), .int (vI b), .int (vI d)]))] H := hP
  have hD : va_D A [(h0, .inr (2, [.ref hh, .int (vI z), .int (vI r), .int tm, .int (vI thr), .int (jI (iB dr)), .ref ph, .int (vI (z - ((h * u) + (j * v)))), .int (vI (h * (a * h + b * j) + j * (b * h + d * j) + r)), .int (vI (((z - ((h * u) + (j * v))) * (z - ((h * u) + (j * v)))) * zinv (h * (a * h + b * j) + j * (b * h + d * j) + r))), .int (jI (iB true))])), (hh, .inr (0, [.int (vI h), .int (vI j)])), (ph, .inr (0, [.int (vI (a * h + b * j)), .int (vI (b * h + d * j))])), (st, .inr (4, [.ref x0, .ref p0])), (x0, .inr (0, [.int (vI u), .int (vI v)])), (p0, .inr (5, [.int (vI a), .int (vI b), .int (vI d)]))] := hD
  refine lv_aload_n hx hb dX2_take_107 rfl (lv_at hl 0 rfl) ?_
  refine va_get (D := D) (ci := 2) (v := .int (jI (iB true))) (C := RX2) (T := TX2) (N := 11) hx hb hts iX2 hown hK.1 hP 0 rfl rfl 10 (by decide) f86 (fun _ h9 => h9) rfl dX2_take_108 ?_
  refine n_if_ne (tgt := 119) hx hb (by unfold r32; decide) dX2_take_111 (by decide) (fun h111 => ?_) (fun h111 => False.elim (absurd h111 (by decide)))
  refine n_iconst hx hb dX2_take_119 ?_
  exact k_zret (b := true) hx hb hr hlocks dX2_take_120 hP hS rfl rfl

set_option maxHeartbeats 4000000 in
set_option maxRecDepth 100000 in
/--  -/
theorem c_X2_takec (l : Launch) (D : va_G) (tys : List (ClassId × FieldType)) (h0 hh ph st x0 p0 : Nat) (z r thr : Zp) (tm y s0 g0 q0 q1 : Int32) (dr ga : Bool) (h j u v a b d : Zp) (h9 : ¬ (h * (a * h + b * j) + j * (b * h + d * j) + r) = 0) (h8 : ¬ zv thr < zv ((z - (h * u + j * v)) * (z - (h * u + j * v)) * zinv (h * (a * h + b * j) + j * (b * h + d * j) + r))) : CtI l D tys yX2_take wsX2_take 3 71 [.ref h0, .ref st] (jI (iB true)) [(h0, .inr (2, [.ref hh, .int (vI z), .int (vI r), .int tm, .int (vI thr), .int (jI (iB dr)), .ref ph, .int y, .int s0, .int g0, .int (jI (iB ga))])), (hh, .inr (0, [.int (vI h), .int (vI j)])), (ph, .inr (0, [.int q0, .int q1])), (st, .inr (4, [.ref x0, .ref p0])), (x0, .inr (0, [.int (vI u), .int (vI v)])), (p0, .inr (5, [.int (vI a), .int (vI b), .int (vI d)]))] [(h0, .inr (2, [.ref hh, .int (vI z), .int (vI r), .int tm, .int (vI thr), .int (jI (iB dr)), .ref ph, .int (vI (z - ((h * u) + (j * v)))), .int (vI (h * (a * h + b * j) + j * (b * h + d * j) + r)), .int (vI (((z - ((h * u) + (j * v))) * (z - ((h * u) + (j * v)))) * zinv (h * (a * h + b * j) + j * (b * h + d * j) + r))), .int (jI (iB false))])), (hh, .inr (0, [.int (vI h), .int (vI j)])), (ph, .inr (0, [.int (vI (a * h + b * j)), .int (vI (b * h + d * j))])), (st, .inr (4, [.ref x0, .ref p0])), (x0, .inr (0, [.int (vI (u + (a * h + b * j) * ((z - ((h * u) + (j * v))) * zinv (h * (a * h + b * j) + j * (b * h + d * j) + r)))), .int (vI (v + (b * h + d * j) * ((z - ((h * u) + (j * v))) * zinv (h * (a * h + b * j) + j * (b * h + d * j) + r))))])), (p0, .inr (5, [.int (vI (a + (a * h + b * j) * (0 - zinv (h * (a * h + b * j) + j * (b * h + d * j) + r)) * (a * h + b * j))), .int (vI (b + (a * h + b * j) * (0 - zinv (h * (a * h + b * j) + j * (b * h + d * j) + r)) * (b * h + d * j))), .int (vI (d + (b * h + d * j) * (0 - zinv (h * (a * h + b * j) + j * (b * h + d * j) + r)) * (b * h + d * j)))]))] := by
  refine CtI.of (cc := cX2_take) (maxL := 2) (by decide +kernel) rfl rfl (Nat.le_of_ble_eq_true rfl) ?_
  intro p e s m below meth c A ls hcx hK hP hD hA hl
  obtain ⟨hx, hb, hr, hml, hown, hts, hlocks⟩ := hcx
  have hS : va_S A s.heap s.heap [] := va_S.rf
  have hown : s.vm.findClass RX2 = some m.cls := hown
  have hl : lv_has ls 2 [(0, .ref h0), (1, .ref st)] := hl
  have f60 := hts (.fieldLink RX2 60 "FieldFilter$State" "p" "LFieldFilter$Symmetric;") (by decide +kernel)
  have iX4 : ∀ w ∈ u_ws RX4 TX4 2, w ∈ wsX2_take := by decide +kernel
  have f57 := hts (.fieldLink RX2 57 "FieldFilter$Measurement" "s" "I") (by decide +kernel)
  have iX2 : ∀ w ∈ u_ws RX2 TX2 11, w ∈ wsX2_take := by decide +kernel
  have f25 := hts (.fieldLink RX2 25 "FieldFilter$Measurement" "z" "I") (by decide +kernel)
  have f12 := hts (.fieldLink RX2 12 "FieldFilter$Measurement" "h" "LFieldFilter$Column;") (by decide +kernel)
  have f51 := hts (.fieldLink RX2 51 "FieldFilter$Column" "upper" "I") (by decide +kernel)
  have iX0 : ∀ w ∈ u_ws RX0 TX0 2, w ∈ wsX2_take := by decide +kernel
  have f70 := hts (.fieldLink RX2 70 "FieldFilter$State" "x" "LFieldFilter$Column;") (by decide +kernel)
  have f54 := hts (.fieldLink RX2 54 "FieldFilter$Column" "lower" "I") (by decide +kernel)
  have sX6_less := hts (.static yX6_less) (by decide +kernel)
  have iniX6 := hts (.initialized RX6) (by decide +kernel)
  have f77 := hts (.fieldLink RX2 77 "FieldFilter$Measurement" "y" "I") (by decide +kernel)
  have sX6_divide := hts (.static yX6_divide) (by decide +kernel)
  have f83 := hts (.fieldLink RX2 83 "FieldFilter$Measurement" "g" "I") (by decide +kernel)
  have f35 := hts (.fieldLink RX2 35 "FieldFilter$Measurement" "threshold" "I") (by decide +kernel)
  have f86 := hts (.fieldLink RX2 86 "FieldFilter$Measurement" "gated" "Z") (by decide +kernel)
  refine lv_aload_n hx hb dX2_take_0 rfl (lv_at hl 0 rfl) ?_
  refine lv_aload_n hx hb dX2_take_1 rfl (lv_at hl 1 rfl) ?_
  refine va_get (D := D) (ci := 4) (v := .ref p0) (C := RX4) (T := TX4) (N := 2) hx hb hts iX4 hown hK.1 hP 3 rfl rfl 1 (by decide) f60 (fun _ h9 => h9) rfl dX2_take_2 ?_
  have ct5 := c_X2_weigh l D tys h0 hh ph p0 z r thr tm y s0 g0 q0 q1 dr ga h j a b d
  refine k_goV (va_runV (As := [.ref p0]) (rest := []) ⟨hx, hb, hml, hown, hts⟩ (ct5.2 _) (cwV 1 hts gX2_take_X2_weigh rfl rfl rfl (by decide +kernel) ⟨Nat.le_of_ble_eq_true rfl, Nat.le_of_ble_eq_true rfl⟩) ⟨(k_pre hK hP hD (is := [0, 1, 2, 5]) rfl rfl).1, va_recv hK.1 hP (ci := 2) (q0 := 0) rfl rfl, (k_pre hK hP hD (is := [0, 1, 2, 5]) rfl rfl).2⟩ rfl rfl hl.1 rfl (lv_room (Nat.le_of_ble_eq_true rfl)) dX2_take_5 ⟨Nat.le_of_ble_eq_true rfl, Nat.le_of_ble_eq_true rfl⟩) ct5.1 hP hD hS hA [0, 1, 2, 5] rfl rfl (fun H locs hP hD hS => ?_)
  have hP : va_P D vwCl [(h0, .inr (2, [.ref hh, .int (vI z), .int (vI r), .int tm, .int (vI thr), .int (jI (iB dr)), .ref ph, .int y, .int (vI (h * (a * h + b * j) + j * (b * h + d * j) + r)), .int g0, .int (jI (iB ga))])), (hh, .inr (0, [.int (vI h), .int (vI j)])), (ph, .inr (0, [.int (vI (a * h + b * j)), .int (vI (b * h + d * j))])), (st, .inr (4, [.ref x0, .ref p0])), (x0, .inr (0, [.int (vI u), .int (vI v)])), (p0, .inr (5, [.int (vI a), .int (vI b), .int (vI d)]))] H := hP
  have hD : va_D A [(h0, .inr (2, [.ref hh, .int (vI z), .int (vI r), .int tm, .int (vI thr), .int (jI (iB dr)), .ref ph, .int y, .int (vI (h * (a * h + b * j) + j * (b * h + d * j) + r)), .int g0, .int (jI (iB ga))])), (hh, .inr (0, [.int (vI h), .int (vI j)])), (ph, .inr (0, [.int (vI (a * h + b * j)), .int (vI (b * h + d * j))])), (st, .inr (4, [.ref x0, .ref p0])), (x0, .inr (0, [.int (vI u), .int (vI v)])), (p0, .inr (5, [.int (vI a), .int (vI b), .int (vI d)]))] := hD
  refine lv_aload_n hx hb dX2_take_8 rfl (lv_at hl 0 rfl) ?_
  refine va_get (D := D) (ci := 2) (v := .int (vI (h * (a * h + b * j) + j * (b * h + d * j) + r))) (C := RX2) (T := TX2) (N := 11) hx hb hts iX2 hown hK.1 hP 0 rfl rfl 8 (by decide) f57 (fun _ h9 => h9) rfl dX2_take_9 ?_
  refine n_if_ne (tgt := 17) hx hb (by have h9 := (rp_v (h * (a * h + b * j) + j * (b * h + d * j) + r)); exact ⟨by have := h9.1; omega, by have := h9.2.1; omega⟩) dX2_take_12 (by decide) (fun h12 => ?_) (fun h12 => False.elim (h9 (zv_eq0.mp h12)))
  refine lv_aload_n hx hb dX2_take_17 rfl (lv_at hl 0 rfl) ?_
  refine lv_aload_n hx hb dX2_take_18 rfl (lv_at hl 0 rfl) ?_
  refine va_get (D := D) (ci := 2) (v := .int (vI z)) (C := RX2) (T := TX2) (N := 11) hx hb hts iX2 hown hK.1 hP 0 rfl rfl 1 (by decide) f25 (fun _ h9 => h9) rfl dX2_take_19 ?_
  refine lv_aload_n hx hb dX2_take_22 rfl (lv_at hl 0 rfl) ?_
  refine va_get (D := D) (ci := 2) (v := .ref hh) (C := RX2) (T := TX2) (N := 11) hx hb hts iX2 hown hK.1 hP 0 rfl rfl 0 (by decide) f12 (fun _ h9 => h9) rfl dX2_take_23 ?_
  refine va_get (D := D) (ci := 0) (v := .int (vI h)) (C := RX0) (T := TX0) (N := 2) hx hb hts iX0 hown hK.1 hP 1 rfl rfl 0 (by decide) f51 (fun _ h9 => h9) rfl dX2_take_26 ?_
  refine lv_aload_n hx hb dX2_take_29 rfl (lv_at hl 1 rfl) ?_
  refine va_get (D := D) (ci := 4) (v := .ref x0) (C := RX4) (T := TX4) (N := 2) hx hb hts iX4 hown hK.1 hP 3 rfl rfl 0 (by decide) f70 (fun _ h9 => h9) rfl dX2_take_30 ?_
  refine va_get (D := D) (ci := 0) (v := .int (vI u)) (C := RX0) (T := TX0) (N := 2) hx hb hts iX0 hown hK.1 hP 4 rfl rfl 0 (by decide) f51 (fun _ h9 => h9) rfl dX2_take_33 ?_
  refine n_imul hx hb dX2_take_36 ?_
  refine lv_aload_n hx hb dX2_take_37 rfl (lv_at hl 0 rfl) ?_
  refine va_get (D := D) (ci := 2) (v := .ref hh) (C := RX2) (T := TX2) (N := 11) hx hb hts iX2 hown hK.1 hP 0 rfl rfl 0 (by decide) f12 (fun _ h9 => h9) rfl dX2_take_38 ?_
  refine va_get (D := D) (ci := 0) (v := .int (vI j)) (C := RX0) (T := TX0) (N := 2) hx hb hts iX0 hown hK.1 hP 1 rfl rfl 1 (by decide) f54 (fun _ h9 => h9) rfl dX2_take_41 ?_
  refine lv_aload_n hx hb dX2_take_44 rfl (lv_at hl 1 rfl) ?_
  refine va_get (D := D) (ci := 4) (v := .ref x0) (C := RX4) (T := TX4) (N := 2) hx hb hts iX4 hown hK.1 hP 3 rfl rfl 0 (by decide) f70 (fun _ h9 => h9) rfl dX2_take_45 ?_
  refine va_get (D := D) (ci := 0) (v := .int (vI v)) (C := RX0) (T := TX0) (N := 2) hx hb hts iX0 hown hK.1 hP 4 rfl rfl 1 (by decide) f54 (fun _ h9 => h9) rfl dX2_take_48 ?_
  refine n_imul hx hb dX2_take_51 ?_
  refine n_iadd hx hb dX2_take_52 ?_
  refine n_sipush hx hb dX2_take_53 (by decide) ?_
  refine n_irem hx hb dX2_take_56 (rp_add (rp_mul (rp_v h) (rp_v u)) (rp_mul (rp_v j) (rp_v v))) (Nat.le_of_ble_eq_true rfl) ?_
  have ct57 := c_X6_less l D tys (zv z) (zv ((h * u) + (j * v))) _ _ (ra_sub (rp_a (rp_v z)) (rp_a (rp_v ((h * u) + (j * v))))) (Nat.le_of_ble_eq_true rfl)
  refine k_goI (va_runSN (As := [.int (vI z), .int (vI ((h * u) + (j * v)))]) (rest := [.ref h0]) ⟨hx, hb, hml, hown, hts⟩ (ct57.2 _) ⟨va_cnB (own := RX2) (host := "FieldFilter") (index := 73) 2 hts gX2_take_X6_less_n73 rfl rfl rfl (hK.2 (RX2, 73, yX6_less, "FieldFilter") (by decide +kernel)) iniX6 (by decide +kernel) ⟨Nat.le_of_ble_eq_true rfl, Nat.le_of_ble_eq_true rfl⟩, sX6_less, trivial⟩ (k_pre hK hP hD (is := []) rfl rfl) rfl rfl hl.1 rfl (lv_room (Nat.le_of_ble_eq_true rfl)) dX2_take_57 ⟨Nat.le_of_ble_eq_true rfl, Nat.le_of_ble_eq_true rfl⟩) ct57.1 hP hD hS hA [] rfl rfl (fun H locs hP hD hS => ?_)
  have hP : va_P D vwCl [(h0, .inr (2, [.ref hh, .int (vI z), .int (vI r), .int tm, .int (vI thr), .int (jI (iB dr)), .ref ph, .int y, .int (vI (h * (a * h + b * j) + j * (b * h + d * j) + r)), .int g0, .int (jI (iB ga))])), (hh, .inr (0, [.int (vI h), .int (vI j)])), (ph, .inr (0, [.int (vI (a * h + b * j)), .int (vI (b * h + d * j))])), (st, .inr (4, [.ref x0, .ref p0])), (x0, .inr (0, [.int (vI u), .int (vI v)])), (p0, .inr (5, [.int (vI a), .int (vI b), .int (vI d)]))] H := hP
  have hD : va_D A [(h0, .inr (2, [.ref hh, .int (vI z), .int (vI r), .int tm, .int (vI thr), .int (jI (iB dr)), .ref ph, .int y, .int (vI (h * (a * h + b * j) + j * (b * h + d * j) + r)), .int g0, .int (jI (iB ga))])), (hh, .inr (0, [.int (vI h), .int (vI j)])), (ph, .inr (0, [.int (vI (a * h + b * j)), .int (vI (b * h + d * j))])), (st, .inr (4, [.ref x0, .ref p0])), (x0, .inr (0, [.int (vI u), .int (vI v)])), (p0, .inr (5, [.int (vI a), .int (vI b), .int (vI d)]))] := hD
  refine va_put (D := D) (ci := 2) (v := .int (vI (z - ((h * u) + (j * v))))) (ty := .int) (C := RX2) (T := TX2) (N := 11) hx hb hts iX2 tyX2 tyX2_ok nmX2 hown hK.1 hP hD hS 0 rfl rfl 7 (by decide) f77 (fun _ h9 => h9) rfl (by decide +kernel) rfl rfl (Nat.le_of_ble_eq_true rfl) dX2_take_60 (fun H locs hP hD hS => ?_)
  have hP : va_P D vwCl [(h0, .inr (2, [.ref hh, .int (vI z), .int (vI r), .int tm, .int (vI thr), .int (jI (iB dr)), .ref ph, .int (vI (z - ((h * u) + (j * v)))), .int (vI (h * (a * h + b * j) + j * (b * h + d * j) + r)), .int g0, .int (jI (iB ga))])), (hh, .inr (0, [.int (vI h), .int (vI j)])), (ph, .inr (0, [.int (vI (a * h + b * j)), .int (vI (b * h + d * j))])), (st, .inr (4, [.ref x0, .ref p0])), (x0, .inr (0, [.int (vI u), .int (vI v)])), (p0, .inr (5, [.int (vI a), .int (vI b), .int (vI d)]))] H := hP
  have hD : va_D A [(h0, .inr (2, [.ref hh, .int (vI z), .int (vI r), .int tm, .int (vI thr), .int (jI (iB dr)), .ref ph, .int (vI (z - ((h * u) + (j * v)))), .int (vI (h * (a * h + b * j) + j * (b * h + d * j) + r)), .int g0, .int (jI (iB ga))])), (hh, .inr (0, [.int (vI h), .int (vI j)])), (ph, .inr (0, [.int (vI (a * h + b * j)), .int (vI (b * h + d * j))])), (st, .inr (4, [.ref x0, .ref p0])), (x0, .inr (0, [.int (vI u), .int (vI v)])), (p0, .inr (5, [.int (vI a), .int (vI b), .int (vI d)]))] := hD
  refine lv_aload_n hx hb dX2_take_63 rfl (lv_at hl 0 rfl) ?_
  refine lv_aload_n hx hb dX2_take_64 rfl (lv_at hl 0 rfl) ?_
  refine va_get (D := D) (ci := 2) (v := .int (vI (z - ((h * u) + (j * v))))) (C := RX2) (T := TX2) (N := 11) hx hb hts iX2 hown hK.1 hP 0 rfl rfl 7 (by decide) f77 (fun _ h9 => h9) rfl dX2_take_65 ?_
  refine lv_aload_n hx hb dX2_take_68 rfl (lv_at hl 0 rfl) ?_
  refine va_get (D := D) (ci := 2) (v := .int (vI (z - ((h * u) + (j * v))))) (C := RX2) (T := TX2) (N := 11) hx hb hts iX2 hown hK.1 hP 0 rfl rfl 7 (by decide) f77 (fun _ h9 => h9) rfl dX2_take_69 ?_
  refine n_imul hx hb dX2_take_72 ?_
  refine n_sipush hx hb dX2_take_73 (by decide) ?_
  refine n_irem hx hb dX2_take_76 (rp_mul (rp_v (z - ((h * u) + (j * v)))) (rp_v (z - ((h * u) + (j * v))))) (Nat.le_of_ble_eq_true rfl) ?_
  refine lv_aload_n hx hb dX2_take_77 rfl (lv_at hl 0 rfl) ?_
  refine va_get (D := D) (ci := 2) (v := .int (vI (h * (a * h + b * j) + j * (b * h + d * j) + r))) (C := RX2) (T := TX2) (N := 11) hx hb hts iX2 hown hK.1 hP 0 rfl rfl 8 (by decide) f57 (fun _ h9 => h9) rfl dX2_take_78 ?_
  have ct81 := c_X6_divide l D tys ((z - ((h * u) + (j * v))) * (z - ((h * u) + (j * v)))) (h * (a * h + b * j) + j * (b * h + d * j) + r)
  refine k_goI (va_runSN (As := [.int (vI ((z - ((h * u) + (j * v))) * (z - ((h * u) + (j * v))))), .int (vI (h * (a * h + b * j) + j * (b * h + d * j) + r))]) (rest := [.ref h0]) ⟨hx, hb, hml, hown, hts⟩ (ct81.2 _) ⟨va_cnB (own := RX2) (host := "FieldFilter") (index := 80) 2 hts gX2_take_X6_divide_n80 rfl rfl rfl (hK.2 (RX2, 80, yX6_divide, "FieldFilter") (by decide +kernel)) iniX6 (by decide +kernel) ⟨Nat.le_of_ble_eq_true rfl, Nat.le_of_ble_eq_true rfl⟩, sX6_divide, trivial⟩ (k_pre hK hP hD (is := []) rfl rfl) rfl rfl hl.1 rfl (lv_room (Nat.le_of_ble_eq_true rfl)) dX2_take_81 ⟨Nat.le_of_ble_eq_true rfl, Nat.le_of_ble_eq_true rfl⟩) ct81.1 hP hD hS hA [] rfl rfl (fun H locs hP hD hS => ?_)
  have hP : va_P D vwCl [(h0, .inr (2, [.ref hh, .int (vI z), .int (vI r), .int tm, .int (vI thr), .int (jI (iB dr)), .ref ph, .int (vI (z - ((h * u) + (j * v)))), .int (vI (h * (a * h + b * j) + j * (b * h + d * j) + r)), .int g0, .int (jI (iB ga))])), (hh, .inr (0, [.int (vI h), .int (vI j)])), (ph, .inr (0, [.int (vI (a * h + b * j)), .int (vI (b * h + d * j))])), (st, .inr (4, [.ref x0, .ref p0])), (x0, .inr (0, [.int (vI u), .int (vI v)])), (p0, .inr (5, [.int (vI a), .int (vI b), .int (vI d)]))] H := hP
  have hD : va_D A [(h0, .inr (2, [.ref hh, .int (vI z), .int (vI r), .int tm, .int (vI thr), .int (jI (iB dr)), .ref ph, .int (vI (z - ((h * u) + (j * v)))), .int (vI (h * (a * h + b * j) + j * (b * h + d * j) + r)), .int g0, .int (jI (iB ga))])), (hh, .inr (0, [.int (vI h), .int (vI j)])), (ph, .inr (0, [.int (vI (a * h + b * j)), .int (vI (b * h + d * j))])), (st, .inr (4, [.ref x0, .ref p0])), (x0, .inr (0, [.int (vI u), .int (vI v)])), (p0, .inr (5, [.int (vI a), .int (vI b), .int (vI d)]))] := hD
  refine va_put (D := D) (ci := 2) (v := .int (vI (((z - ((h * u) + (j * v))) * (z - ((h * u) + (j * v)))) * zinv (h * (a * h + b * j) + j * (b * h + d * j) + r)))) (ty := .int) (C := RX2) (T := TX2) (N := 11) hx hb hts iX2 tyX2 tyX2_ok nmX2 hown hK.1 hP hD hS 0 rfl rfl 9 (by decide) f83 (fun _ h9 => h9) rfl (by decide +kernel) rfl rfl (Nat.le_of_ble_eq_true rfl) dX2_take_84 (fun H locs hP hD hS => ?_)
  have hP : va_P D vwCl [(h0, .inr (2, [.ref hh, .int (vI z), .int (vI r), .int tm, .int (vI thr), .int (jI (iB dr)), .ref ph, .int (vI (z - ((h * u) + (j * v)))), .int (vI (h * (a * h + b * j) + j * (b * h + d * j) + r)), .int (vI (((z - ((h * u) + (j * v))) * (z - ((h * u) + (j * v)))) * zinv (h * (a * h + b * j) + j * (b * h + d * j) + r))), .int (jI (iB ga))])), (hh, .inr (0, [.int (vI h), .int (vI j)])), (ph, .inr (0, [.int (vI (a * h + b * j)), .int (vI (b * h + d * j))])), (st, .inr (4, [.ref x0, .ref p0])), (x0, .inr (0, [.int (vI u), .int (vI v)])), (p0, .inr (5, [.int (vI a), .int (vI b), .int (vI d)]))] H := hP
  have hD : va_D A [(h0, .inr (2, [.ref hh, .int (vI z), .int (vI r), .int tm, .int (vI thr), .int (jI (iB dr)), .ref ph, .int (vI (z - ((h * u) + (j * v)))), .int (vI (h * (a * h + b * j) + j * (b * h + d * j) + r)), .int (vI (((z - ((h * u) + (j * v))) * (z - ((h * u) + (j * v)))) * zinv (h * (a * h + b * j) + j * (b * h + d * j) + r))), .int (jI (iB ga))])), (hh, .inr (0, [.int (vI h), .int (vI j)])), (ph, .inr (0, [.int (vI (a * h + b * j)), .int (vI (b * h + d * j))])), (st, .inr (4, [.ref x0, .ref p0])), (x0, .inr (0, [.int (vI u), .int (vI v)])), (p0, .inr (5, [.int (vI a), .int (vI b), .int (vI d)]))] := hD
  refine lv_aload_n hx hb dX2_take_87 rfl (lv_at hl 0 rfl) ?_
  refine lv_aload_n hx hb dX2_take_88 rfl (lv_at hl 0 rfl) ?_
  refine va_get (D := D) (ci := 2) (v := .int (vI (((z - ((h * u) + (j * v))) * (z - ((h * u) + (j * v)))) * zinv (h * (a * h + b * j) + j * (b * h + d * j) + r)))) (C := RX2) (T := TX2) (N := 11) hx hb hts iX2 hown hK.1 hP 0 rfl rfl 9 (by decide) f83 (fun _ h9 => h9) rfl dX2_take_89 ?_
  refine lv_aload_n hx hb dX2_take_92 rfl (lv_at hl 0 rfl) ?_
  refine va_get (D := D) (ci := 2) (v := .int (vI thr)) (C := RX2) (T := TX2) (N := 11) hx hb hts iX2 hown hK.1 hP 0 rfl rfl 4 (by decide) f35 (fun _ h9 => h9) rfl dX2_take_93 ?_
  refine n_icmp_le (tgt := 103) hx hb (r32_z _) (r32_z _) dX2_take_96 (by decide) (fun h96 => ?_) (fun h96 => False.elim (by omega))
  refine n_iconst hx hb dX2_take_103 ?_
  refine va_put (D := D) (ci := 2) (v := .int (jI (iB false))) (ty := .boolean) (C := RX2) (T := TX2) (N := 11) hx hb hts iX2 tyX2 tyX2_ok nmX2 hown hK.1 hP hD hS 0 rfl rfl 10 (by decide) f86 (fun _ h9 => h9) rfl (by decide +kernel) (nar_iB false) (fit_iB false) (Nat.le_of_ble_eq_true rfl) dX2_take_104 (fun H locs hP hD hS => ?_)
  have hP : va_P D vwCl [(h0, .inr (2, [.ref hh, .int (vI z), .int (vI r), .int tm, .int (vI thr), .int (jI (iB dr)), .ref ph, .int (vI (z - ((h * u) + (j * v)))), .int (vI (h * (a * h + b * j) + j * (b * h + d * j) + r)), .int (vI (((z - ((h * u) + (j * v))) * (z - ((h * u) + (j * v)))) * zinv (h * (a * h + b * j) + j * (b * h + d * j) + r))), .int (jI (iB false))])), (hh, .inr (0, [.int (vI h), .int (vI j)])), (ph, .inr (0, [.int (vI (a * h + b * j)), .int (vI (b * h + d * j))])), (st, .inr (4, [.ref x0, .ref p0])), (x0, .inr (0, [.int (vI u), .int (vI v)])), (p0, .inr (5, [.int (vI a), .int (vI b), .int (vI d)]))] H := hP
  have hD : va_D A [(h0, .inr (2, [.ref hh, .int (vI z), .int (vI r), .int tm, .int (vI thr), .int (jI (iB dr)), .ref ph, .int (vI (z - ((h * u) + (j * v)))), .int (vI (h * (a * h + b * j) + j * (b * h + d * j) + r)), .int (vI (((z - ((h * u) + (j * v))) * (z - ((h * u) + (j * v)))) * zinv (h * (a * h + b * j) + j * (b * h + d * j) + r))), .int (jI (iB false))])), (hh, .inr (0, [.int (vI h), .int (vI j)])), (ph, .inr (0, [.int (vI (a * h + b * j)), .int (vI (b * h + d * j))])), (st, .inr (4, [.ref x0, .ref p0])), (x0, .inr (0, [.int (vI u), .int (vI v)])), (p0, .inr (5, [.int (vI a), .int (vI b), .int (vI d)]))] := hD
  refine lv_aload_n hx hb dX2_take_107 rfl (lv_at hl 0 rfl) ?_
  refine va_get (D := D) (ci := 2) (v := .int (jI (iB false))) (C := RX2) (T := TX2) (N := 11) hx hb hts iX2 hown hK.1 hP 0 rfl rfl 10 (by decide) f86 (fun _ h9 => h9) rfl dX2_take_108 ?_
  refine n_if_ne (tgt := 119) hx hb (by unfold r32; decide) dX2_take_111 (by decide) (fun h111 => False.elim (absurd rfl h111)) (fun h111 => ?_)
  refine lv_aload_n hx hb dX2_take_114 rfl (lv_at hl 0 rfl) ?_
  refine lv_aload_n hx hb dX2_take_115 rfl (lv_at hl 1 rfl) ?_
  have ct116 := c_X2_correct l D tys h0 hh ph st x0 p0 (vI z) (vI r) (vI thr) tm (vI (((z - ((h * u) + (j * v))) * (z - ((h * u) + (j * v)))) * zinv (h * (a * h + b * j) + j * (b * h + d * j) + r))) dr false (z - ((h * u) + (j * v))) (h * (a * h + b * j) + j * (b * h + d * j) + r) (a * h + b * j) (b * h + d * j) u v a b d
  refine k_goV (va_runV (As := [.ref st]) (rest := []) ⟨hx, hb, hml, hown, hts⟩ (ct116.2 _) (cwV 1 hts gX2_take_X2_correct rfl rfl rfl (by decide +kernel) ⟨Nat.le_of_ble_eq_true rfl, Nat.le_of_ble_eq_true rfl⟩) ⟨(k_pre hK hP hD (is := [0, 2, 3, 4, 5]) rfl rfl).1, va_recv hK.1 hP (ci := 2) (q0 := 0) rfl rfl, (k_pre hK hP hD (is := [0, 2, 3, 4, 5]) rfl rfl).2⟩ rfl rfl hl.1 rfl (lv_room (Nat.le_of_ble_eq_true rfl)) dX2_take_116 ⟨Nat.le_of_ble_eq_true rfl, Nat.le_of_ble_eq_true rfl⟩) ct116.1 hP hD hS hA [0, 2, 3, 4, 5] rfl rfl (fun H locs hP hD hS => ?_)
  have hP : va_P D vwCl [(h0, .inr (2, [.ref hh, .int (vI z), .int (vI r), .int tm, .int (vI thr), .int (jI (iB dr)), .ref ph, .int (vI (z - ((h * u) + (j * v)))), .int (vI (h * (a * h + b * j) + j * (b * h + d * j) + r)), .int (vI (((z - ((h * u) + (j * v))) * (z - ((h * u) + (j * v)))) * zinv (h * (a * h + b * j) + j * (b * h + d * j) + r))), .int (jI (iB false))])), (hh, .inr (0, [.int (vI h), .int (vI j)])), (ph, .inr (0, [.int (vI (a * h + b * j)), .int (vI (b * h + d * j))])), (st, .inr (4, [.ref x0, .ref p0])), (x0, .inr (0, [.int (vI (u + (a * h + b * j) * ((z - ((h * u) + (j * v))) * zinv (h * (a * h + b * j) + j * (b * h + d * j) + r)))), .int (vI (v + (b * h + d * j) * ((z - ((h * u) + (j * v))) * zinv (h * (a * h + b * j) + j * (b * h + d * j) + r))))])), (p0, .inr (5, [.int (vI (a + (a * h + b * j) * (0 - zinv (h * (a * h + b * j) + j * (b * h + d * j) + r)) * (a * h + b * j))), .int (vI (b + (a * h + b * j) * (0 - zinv (h * (a * h + b * j) + j * (b * h + d * j) + r)) * (b * h + d * j))), .int (vI (d + (b * h + d * j) * (0 - zinv (h * (a * h + b * j) + j * (b * h + d * j) + r)) * (b * h + d * j)))]))] H := hP
  have hD : va_D A [(h0, .inr (2, [.ref hh, .int (vI z), .int (vI r), .int tm, .int (vI thr), .int (jI (iB dr)), .ref ph, .int (vI (z - ((h * u) + (j * v)))), .int (vI (h * (a * h + b * j) + j * (b * h + d * j) + r)), .int (vI (((z - ((h * u) + (j * v))) * (z - ((h * u) + (j * v)))) * zinv (h * (a * h + b * j) + j * (b * h + d * j) + r))), .int (jI (iB false))])), (hh, .inr (0, [.int (vI h), .int (vI j)])), (ph, .inr (0, [.int (vI (a * h + b * j)), .int (vI (b * h + d * j))])), (st, .inr (4, [.ref x0, .ref p0])), (x0, .inr (0, [.int (vI (u + (a * h + b * j) * ((z - ((h * u) + (j * v))) * zinv (h * (a * h + b * j) + j * (b * h + d * j) + r)))), .int (vI (v + (b * h + d * j) * ((z - ((h * u) + (j * v))) * zinv (h * (a * h + b * j) + j * (b * h + d * j) + r))))])), (p0, .inr (5, [.int (vI (a + (a * h + b * j) * (0 - zinv (h * (a * h + b * j) + j * (b * h + d * j) + r)) * (a * h + b * j))), .int (vI (b + (a * h + b * j) * (0 - zinv (h * (a * h + b * j) + j * (b * h + d * j) + r)) * (b * h + d * j))), .int (vI (d + (b * h + d * j) * (0 - zinv (h * (a * h + b * j) + j * (b * h + d * j) + r)) * (b * h + d * j)))]))] := hD
  refine n_iconst hx hb dX2_take_119 ?_
  exact k_zret (b := true) hx hb hr hlocks dX2_take_120 hP hS rfl rfl

set_option maxHeartbeats 4000000 in
set_option maxRecDepth 100000 in
/--  -/
theorem c_X2_inform0 (l : Launch) (D : va_G) (tys : List (ClassId × FieldType)) (h0 hh ph st x0 p0 : Nat) (z r : Zp) (tm thr y s0 g0 : Int32) (dr ga : Bool) (h j u v a b d : Zp) (h9 : r = 0) : CtI l D tys yX2_inform wsX2_inform 0 0 [.ref h0, .ref st] (jI (iB false)) [(h0, .inr (2, [.ref hh, .int (vI z), .int (vI r), .int tm, .int thr, .int (jI (iB dr)), .ref ph, .int y, .int s0, .int g0, .int (jI (iB ga))])), (hh, .inr (0, [.int (vI h), .int (vI j)])), (st, .inr (4, [.ref x0, .ref p0])), (x0, .inr (0, [.int (vI u), .int (vI v)])), (p0, .inr (5, [.int (vI a), .int (vI b), .int (vI d)]))] [(h0, .inr (2, [.ref hh, .int (vI z), .int (vI r), .int tm, .int thr, .int (jI (iB dr)), .ref ph, .int y, .int s0, .int g0, .int (jI (iB ga))])), (hh, .inr (0, [.int (vI h), .int (vI j)])), (st, .inr (4, [.ref x0, .ref p0])), (x0, .inr (0, [.int (vI u), .int (vI v)])), (p0, .inr (5, [.int (vI a), .int (vI b), .int (vI d)]))] := by
  refine CtI.of (cc := cX2_inform) (maxL := 5) (by decide +kernel) rfl rfl (Nat.le_of_ble_eq_true rfl) ?_
  intro p e s m below meth c A ls hcx hK hP hD hA hl
  obtain ⟨hx, hb, hr, hml, hown, hts, hlocks⟩ := hcx
  have hS : va_S A s.heap s.heap [] := va_S.rf
  have hown : s.vm.findClass RX2 = some m.cls := hown
  have hl : lv_has ls 5 [(0, .ref h0), (1, .ref st)] := hl
  have f29 := hts (.fieldLink RX2 29 "FieldFilter$Measurement" "r" "I") (by decide +kernel)
  have iX2 : ∀ w ∈ u_ws RX2 TX2 11, w ∈ wsX2_inform := by decide +kernel
  refine lv_aload_n hx hb dX2_inform_0 rfl (lv_at hl 0 rfl) ?_
  refine va_get (D := D) (ci := 2) (v := .int (vI r)) (C := RX2) (T := TX2) (N := 11) hx hb hts iX2 hown hK.1 hP 0 rfl rfl 2 (by decide) f29 (fun _ h9 => h9) rfl dX2_inform_1 ?_
  refine n_if_ne (tgt := 9) hx hb (by have h9 := (rp_v r); exact ⟨by have := h9.1; omega, by have := h9.2.1; omega⟩) dX2_inform_4 (by decide) (fun h4 => False.elim (h4 (zv_eq0.mpr h9))) (fun h4 => ?_)
  refine n_iconst hx hb dX2_inform_7 ?_
  exact k_zret (b := false) hx hb hr hlocks dX2_inform_8 hP hS rfl rfl

set_option maxHeartbeats 4000000 in
set_option maxRecDepth 100000 in
/--  -/
theorem c_X2_inform1 (l : Launch) (D : va_G) (tys : List (ClassId × FieldType)) (h0 hh ph st x0 p0 : Nat) (z r : Zp) (tm thr y s0 g0 : Int32) (dr ga : Bool) (h j u v a b d : Zp) (h9 : ¬ r = 0) : CtI l D tys yX2_inform wsX2_inform 2 47 [.ref h0, .ref st] (jI (iB true)) [(h0, .inr (2, [.ref hh, .int (vI z), .int (vI r), .int tm, .int thr, .int (jI (iB dr)), .ref ph, .int y, .int s0, .int g0, .int (jI (iB ga))])), (hh, .inr (0, [.int (vI h), .int (vI j)])), (st, .inr (4, [.ref x0, .ref p0])), (x0, .inr (0, [.int (vI u), .int (vI v)])), (p0, .inr (5, [.int (vI a), .int (vI b), .int (vI d)]))] [(h0, .inr (2, [.ref hh, .int (vI z), .int (vI r), .int tm, .int thr, .int (jI (iB dr)), .ref ph, .int y, .int s0, .int g0, .int (jI (iB ga))])), (hh, .inr (0, [.int (vI h), .int (vI j)])), (st, .inr (4, [.ref x0, .ref p0])), (x0, .inr (0, [.int (vI (u + (h * (z * (zinv r))))), .int (vI (v + (j * (z * (zinv r)))))])), (p0, .inr (5, [.int (vI (a + h * (zinv r) * h)), .int (vI (b + h * (zinv r) * j)), .int (vI (d + j * (zinv r) * j))]))] := by
  refine CtI.of (cc := cX2_inform) (maxL := 5) (by decide +kernel) rfl rfl (Nat.le_of_ble_eq_true rfl) ?_
  intro p e s m below meth c A ls hcx hK hP hD hA hl
  obtain ⟨hx, hb, hr, hml, hown, hts, hlocks⟩ := hcx
  have hS : va_S A s.heap s.heap [] := va_S.rf
  have hown : s.vm.findClass RX2 = some m.cls := hown
  have hl : lv_has ls 5 [(0, .ref h0), (1, .ref st)] := hl
  have f29 := hts (.fieldLink RX2 29 "FieldFilter$Measurement" "r" "I") (by decide +kernel)
  have iX2 : ∀ w ∈ u_ws RX2 TX2 11, w ∈ wsX2_inform := by decide +kernel
  have sX6_inverse := hts (.static yX6_inverse) (by decide +kernel)
  have iniX6 := hts (.initialized RX6) (by decide +kernel)
  have f25 := hts (.fieldLink RX2 25 "FieldFilter$Measurement" "z" "I") (by decide +kernel)
  have f70 := hts (.fieldLink RX2 70 "FieldFilter$State" "x" "LFieldFilter$Column;") (by decide +kernel)
  have iX4 : ∀ w ∈ u_ws RX4 TX4 2, w ∈ wsX2_inform := by decide +kernel
  have f60 := hts (.fieldLink RX2 60 "FieldFilter$State" "p" "LFieldFilter$Symmetric;") (by decide +kernel)
  have f12 := hts (.fieldLink RX2 12 "FieldFilter$Measurement" "h" "LFieldFilter$Column;") (by decide +kernel)
  have f51 := hts (.fieldLink RX2 51 "FieldFilter$Column" "upper" "I") (by decide +kernel)
  have iX0 : ∀ w ∈ u_ws RX0 TX0 2, w ∈ wsX2_inform := by decide +kernel
  have f54 := hts (.fieldLink RX2 54 "FieldFilter$Column" "lower" "I") (by decide +kernel)
  refine lv_aload_n hx hb dX2_inform_0 rfl (lv_at hl 0 rfl) ?_
  refine va_get (D := D) (ci := 2) (v := .int (vI r)) (C := RX2) (T := TX2) (N := 11) hx hb hts iX2 hown hK.1 hP 0 rfl rfl 2 (by decide) f29 (fun _ h9 => h9) rfl dX2_inform_1 ?_
  refine n_if_ne (tgt := 9) hx hb (by have h9 := (rp_v r); exact ⟨by have := h9.1; omega, by have := h9.2.1; omega⟩) dX2_inform_4 (by decide) (fun h4 => ?_) (fun h4 => False.elim (h9 (zv_eq0.mp h4)))
  refine lv_aload_n hx hb dX2_inform_9 rfl (lv_at hl 0 rfl) ?_
  refine va_get (D := D) (ci := 2) (v := .int (vI r)) (C := RX2) (T := TX2) (N := 11) hx hb hts iX2 hown hK.1 hP 0 rfl rfl 2 (by decide) f29 (fun _ h9 => h9) rfl dX2_inform_10 ?_
  have ct13 := c_X6_inverse l D tys r
  refine k_goI (va_runSN (As := [.int (vI r)]) (rest := []) ⟨hx, hb, hml, hown, hts⟩ (ct13.2 _) ⟨va_cnB (own := RX2) (host := "FieldFilter") (index := 93) 1 hts gX2_inform_X6_inverse_n93 rfl rfl rfl (hK.2 (RX2, 93, yX6_inverse, "FieldFilter") (by decide +kernel)) iniX6 (by decide +kernel) ⟨Nat.le_of_ble_eq_true rfl, Nat.le_of_ble_eq_true rfl⟩, sX6_inverse, trivial⟩ (k_pre hK hP hD (is := []) rfl rfl) rfl rfl hl.1 rfl (lv_room (Nat.le_of_ble_eq_true rfl)) dX2_inform_13 ⟨Nat.le_of_ble_eq_true rfl, Nat.le_of_ble_eq_true rfl⟩) ct13.1 hP hD hS hA [] rfl rfl (fun H locs hP hD hS => ?_)
  have hP : va_P D vwCl [(h0, .inr (2, [.ref hh, .int (vI z), .int (vI r), .int tm, .int thr, .int (jI (iB dr)), .ref ph, .int y, .int s0, .int g0, .int (jI (iB ga))])), (hh, .inr (0, [.int (vI h), .int (vI j)])), (st, .inr (4, [.ref x0, .ref p0])), (x0, .inr (0, [.int (vI u), .int (vI v)])), (p0, .inr (5, [.int (vI a), .int (vI b), .int (vI d)]))] H := hP
  have hD : va_D A [(h0, .inr (2, [.ref hh, .int (vI z), .int (vI r), .int tm, .int thr, .int (jI (iB dr)), .ref ph, .int y, .int s0, .int g0, .int (jI (iB ga))])), (hh, .inr (0, [.int (vI h), .int (vI j)])), (st, .inr (4, [.ref x0, .ref p0])), (x0, .inr (0, [.int (vI u), .int (vI v)])), (p0, .inr (5, [.int (vI a), .int (vI b), .int (vI d)]))] := hD
  refine lv_istore_n (lv' := [(2, .int (vI (zinv r))), (0, .ref h0), (1, .ref st)]) hx hb dX2_inform_16 rfl hl (by decide) rfl (fun ls hl => ?_)
  refine lv_aload_n hx hb dX2_inform_17 rfl (lv_at hl 1 rfl) ?_
  refine va_get (D := D) (ci := 2) (v := .int (vI z)) (C := RX2) (T := TX2) (N := 11) hx hb hts iX2 hown hK.1 hP 0 rfl rfl 1 (by decide) f25 (fun _ h9 => h9) rfl dX2_inform_18 ?_
  refine lv_iload_n hx hb dX2_inform_21 rfl (lv_at hl 0 rfl) ?_
  refine n_imul hx hb dX2_inform_22 ?_
  refine n_sipush hx hb dX2_inform_23 (by decide) ?_
  refine n_irem hx hb dX2_inform_26 (rp_mul (rp_v z) (rp_v (zinv r))) (Nat.le_of_ble_eq_true rfl) ?_
  refine lv_istore_n (lv' := [(3, .int (vI (z * (zinv r)))), (2, .int (vI (zinv r))), (0, .ref h0), (1, .ref st)]) hx hb dX2_inform_27 rfl hl (by decide) rfl (fun ls hl => ?_)
  refine lv_aload_n hx hb dX2_inform_28 rfl (lv_at hl 3 rfl) ?_
  refine va_get (D := D) (ci := 4) (v := .ref x0) (C := RX4) (T := TX4) (N := 2) hx hb hts iX4 hown hK.1 hP 2 rfl rfl 0 (by decide) f70 (fun _ h9 => h9) rfl dX2_inform_29 ?_
  refine lv_astore (lv' := [(4, .ref x0), (3, .int (vI (z * (zinv r)))), (2, .int (vI (zinv r))), (0, .ref h0), (1, .ref st)]) hx hb dX2_inform_32 hl (by decide) rfl (fun ls hl => ?_)
  refine lv_aload_n hx hb dX2_inform_34 rfl (lv_at hl 4 rfl) ?_
  refine va_get (D := D) (ci := 4) (v := .ref p0) (C := RX4) (T := TX4) (N := 2) hx hb hts iX4 hown hK.1 hP 2 rfl rfl 1 (by decide) f60 (fun _ h9 => h9) rfl dX2_inform_35 ?_
  refine lv_aload_n hx hb dX2_inform_38 rfl (lv_at hl 3 rfl) ?_
  refine va_get (D := D) (ci := 2) (v := .ref hh) (C := RX2) (T := TX2) (N := 11) hx hb hts iX2 hown hK.1 hP 0 rfl rfl 0 (by decide) f12 (fun _ h9 => h9) rfl dX2_inform_39 ?_
  refine lv_iload_n hx hb dX2_inform_42 rfl (lv_at hl 2 rfl) ?_
  have ct43 := c_X5_addSquare l D tys p0 hh a b d h j (zinv r)
  refine k_goV (va_runV (As := [.ref hh, .int (vI (zinv r))]) (rest := []) ⟨hx, hb, hml, hown, hts⟩ (ct43.2 _) (cwV 2 hts gX2_inform_X5_addSquare rfl rfl rfl (by decide +kernel) ⟨Nat.le_of_ble_eq_true rfl, Nat.le_of_ble_eq_true rfl⟩) ⟨(k_pre hK hP hD (is := [4, 1]) rfl rfl).1, va_recv hK.1 hP (ci := 5) (q0 := 4) rfl rfl, (k_pre hK hP hD (is := [4, 1]) rfl rfl).2⟩ rfl rfl hl.1 rfl (lv_room (Nat.le_of_ble_eq_true rfl)) dX2_inform_43 ⟨Nat.le_of_ble_eq_true rfl, Nat.le_of_ble_eq_true rfl⟩) ct43.1 hP hD hS hA [4, 1] rfl rfl (fun H locs hP hD hS => ?_)
  have hP : va_P D vwCl [(h0, .inr (2, [.ref hh, .int (vI z), .int (vI r), .int tm, .int thr, .int (jI (iB dr)), .ref ph, .int y, .int s0, .int g0, .int (jI (iB ga))])), (hh, .inr (0, [.int (vI h), .int (vI j)])), (st, .inr (4, [.ref x0, .ref p0])), (x0, .inr (0, [.int (vI u), .int (vI v)])), (p0, .inr (5, [.int (vI (a + h * (zinv r) * h)), .int (vI (b + h * (zinv r) * j)), .int (vI (d + j * (zinv r) * j))]))] H := hP
  have hD : va_D A [(h0, .inr (2, [.ref hh, .int (vI z), .int (vI r), .int tm, .int thr, .int (jI (iB dr)), .ref ph, .int y, .int s0, .int g0, .int (jI (iB ga))])), (hh, .inr (0, [.int (vI h), .int (vI j)])), (st, .inr (4, [.ref x0, .ref p0])), (x0, .inr (0, [.int (vI u), .int (vI v)])), (p0, .inr (5, [.int (vI (a + h * (zinv r) * h)), .int (vI (b + h * (zinv r) * j)), .int (vI (d + j * (zinv r) * j))]))] := hD
  refine lv_aload hx hb dX2_inform_46 (lv_at hl 0 rfl) ?_
  refine lv_aload hx hb dX2_inform_48 (lv_at hl 0 rfl) ?_
  refine va_get (D := D) (ci := 0) (v := .int (vI u)) (C := RX0) (T := TX0) (N := 2) hx hb hts iX0 hown hK.1 hP 3 rfl rfl 0 (by decide) f51 (fun _ h9 => h9) rfl dX2_inform_50 ?_
  refine lv_aload_n hx hb dX2_inform_53 rfl (lv_at hl 3 rfl) ?_
  refine va_get (D := D) (ci := 2) (v := .ref hh) (C := RX2) (T := TX2) (N := 11) hx hb hts iX2 hown hK.1 hP 0 rfl rfl 0 (by decide) f12 (fun _ h9 => h9) rfl dX2_inform_54 ?_
  refine va_get (D := D) (ci := 0) (v := .int (vI h)) (C := RX0) (T := TX0) (N := 2) hx hb hts iX0 hown hK.1 hP 1 rfl rfl 0 (by decide) f51 (fun _ h9 => h9) rfl dX2_inform_57 ?_
  refine lv_iload_n hx hb dX2_inform_60 rfl (lv_at hl 1 rfl) ?_
  refine n_imul hx hb dX2_inform_61 ?_
  refine n_iadd hx hb dX2_inform_62 ?_
  refine n_sipush hx hb dX2_inform_63 (by decide) ?_
  refine n_irem hx hb dX2_inform_66 (rp_add (rp_v u) (rp_mul (rp_v h) (rp_v (z * (zinv r))))) (Nat.le_of_ble_eq_true rfl) ?_
  refine lv_aload hx hb dX2_inform_67 (lv_at hl 0 rfl) ?_
  refine va_get (D := D) (ci := 0) (v := .int (vI v)) (C := RX0) (T := TX0) (N := 2) hx hb hts iX0 hown hK.1 hP 3 rfl rfl 1 (by decide) f54 (fun _ h9 => h9) rfl dX2_inform_69 ?_
  refine lv_aload_n hx hb dX2_inform_72 rfl (lv_at hl 3 rfl) ?_
  refine va_get (D := D) (ci := 2) (v := .ref hh) (C := RX2) (T := TX2) (N := 11) hx hb hts iX2 hown hK.1 hP 0 rfl rfl 0 (by decide) f12 (fun _ h9 => h9) rfl dX2_inform_73 ?_
  refine va_get (D := D) (ci := 0) (v := .int (vI j)) (C := RX0) (T := TX0) (N := 2) hx hb hts iX0 hown hK.1 hP 1 rfl rfl 1 (by decide) f54 (fun _ h9 => h9) rfl dX2_inform_76 ?_
  refine lv_iload_n hx hb dX2_inform_79 rfl (lv_at hl 1 rfl) ?_
  refine n_imul hx hb dX2_inform_80 ?_
  refine n_iadd hx hb dX2_inform_81 ?_
  refine n_sipush hx hb dX2_inform_82 (by decide) ?_
  refine n_irem hx hb dX2_inform_85 (rp_add (rp_v v) (rp_mul (rp_v j) (rp_v (z * (zinv r))))) (Nat.le_of_ble_eq_true rfl) ?_
  have ct86 := c_X0_set l D tys x0 (vI u) (vI v) (vI (u + (h * (z * (zinv r))))) (vI (v + (j * (z * (zinv r)))))
  refine k_goV (va_runV (As := [.int (vI (u + (h * (z * (zinv r))))), .int (vI (v + (j * (z * (zinv r)))))]) (rest := []) ⟨hx, hb, hml, hown, hts⟩ (ct86.2 _) (cwV 2 hts gX2_inform_X0_set rfl rfl rfl (by decide +kernel) ⟨Nat.le_of_ble_eq_true rfl, Nat.le_of_ble_eq_true rfl⟩) ⟨(k_pre hK hP hD (is := [3]) rfl rfl).1, va_recv hK.1 hP (ci := 0) (q0 := 3) rfl rfl, (k_pre hK hP hD (is := [3]) rfl rfl).2⟩ rfl rfl hl.1 rfl (lv_room (Nat.le_of_ble_eq_true rfl)) dX2_inform_86 ⟨Nat.le_of_ble_eq_true rfl, Nat.le_of_ble_eq_true rfl⟩) ct86.1 hP hD hS hA [3] rfl rfl (fun H locs hP hD hS => ?_)
  have hP : va_P D vwCl [(h0, .inr (2, [.ref hh, .int (vI z), .int (vI r), .int tm, .int thr, .int (jI (iB dr)), .ref ph, .int y, .int s0, .int g0, .int (jI (iB ga))])), (hh, .inr (0, [.int (vI h), .int (vI j)])), (st, .inr (4, [.ref x0, .ref p0])), (x0, .inr (0, [.int (vI (u + (h * (z * (zinv r))))), .int (vI (v + (j * (z * (zinv r)))))])), (p0, .inr (5, [.int (vI (a + h * (zinv r) * h)), .int (vI (b + h * (zinv r) * j)), .int (vI (d + j * (zinv r) * j))]))] H := hP
  have hD : va_D A [(h0, .inr (2, [.ref hh, .int (vI z), .int (vI r), .int tm, .int thr, .int (jI (iB dr)), .ref ph, .int y, .int s0, .int g0, .int (jI (iB ga))])), (hh, .inr (0, [.int (vI h), .int (vI j)])), (st, .inr (4, [.ref x0, .ref p0])), (x0, .inr (0, [.int (vI (u + (h * (z * (zinv r))))), .int (vI (v + (j * (z * (zinv r)))))])), (p0, .inr (5, [.int (vI (a + h * (zinv r) * h)), .int (vI (b + h * (zinv r) * j)), .int (vI (d + j * (zinv r) * j))]))] := hD
  refine n_iconst hx hb dX2_inform_89 ?_
  exact k_zret (b := true) hx hb hr hlocks dX2_inform_90 hP hS rfl rfl
