/-! constructors of the nested classes -/
set_option maxHeartbeats 4000000 in
set_option maxRecDepth 100000 in
/--  -/
theorem c_X0_init (l : Launch) (D : va_G) (tys : List (ClassId × FieldType)) (h0 : Nat) (u v : Int32) : CtV l D tys yX0_init wsX0_init 1 20 [.ref h0] [(h0, .inr (0, [.int u, .int v]))] [(h0, .inr (0, [.int u, .int v]))] := by
  refine CtV.of (cc := cX0_init) (maxL := 1) (by decide +kernel) rfl rfl (Nat.le_of_ble_eq_true rfl) ?_
  intro p e s m below meth c A ls hcx hK hP hD hA hl
  obtain ⟨hx, hb, hr, hml, hown, hts, hlocks⟩ := hcx
  have hS : va_S A s.heap s.heap [] := va_S.rf
  have hown : s.vm.findClass RX0 = some m.cls := hown
  have hl : lv_has ls 1 [(0, .ref h0)] := hl
  refine lv_aload_n hx hb dX0_init_0 rfl (lv_at hl 0 rfl) ?_
  refine W.objInit hx hb hown (hts (.methodLink RX0 3 objectInit) (by decide +kernel)) (hts (.instanceMethod objectInit) (by decide +kernel)) (hts (.code objectInit ⟨#[0xb1]⟩ 1 none) (List.mem_of_getElem? (i := 3) rfl)) rfl (by rw [hml]; exact hl.1) rfl dX0_init_1 (Nat.le_of_ble_eq_true rfl) (Nat.le_of_ble_eq_true rfl) ?_
  refine W.eq (g2 := F0 m 4 ls []) rfl ?_
  exact k_vret hx hb hr hlocks dX0_init_4 hP hS

set_option maxHeartbeats 4000000 in
set_option maxRecDepth 100000 in
/--  -/
theorem c_X5_init (l : Launch) (D : va_G) (tys : List (ClassId × FieldType)) (h0 : Nat) (u v x : Int32) : CtV l D tys yX5_init wsX5_init 1 20 [.ref h0] [(h0, .inr (5, [.int u, .int v, .int x]))] [(h0, .inr (5, [.int u, .int v, .int x]))] := by
  refine CtV.of (cc := cX5_init) (maxL := 1) (by decide +kernel) rfl rfl (Nat.le_of_ble_eq_true rfl) ?_
  intro p e s m below meth c A ls hcx hK hP hD hA hl
  obtain ⟨hx, hb, hr, hml, hown, hts, hlocks⟩ := hcx
  have hS : va_S A s.heap s.heap [] := va_S.rf
  have hown : s.vm.findClass RX5 = some m.cls := hown
  have hl : lv_has ls 1 [(0, .ref h0)] := hl
  refine lv_aload_n hx hb dX5_init_0 rfl (lv_at hl 0 rfl) ?_
  refine W.objInit hx hb hown (hts (.methodLink RX5 3 objectInit) (by decide +kernel)) (hts (.instanceMethod objectInit) (by decide +kernel)) (hts (.code objectInit ⟨#[0xb1]⟩ 1 none) (List.mem_of_getElem? (i := 3) rfl)) rfl (by rw [hml]; exact hl.1) rfl dX5_init_1 (Nat.le_of_ble_eq_true rfl) (Nat.le_of_ble_eq_true rfl) ?_
  refine W.eq (g2 := F0 m 4 ls []) rfl ?_
  exact k_vret hx hb hr hlocks dX5_init_4 hP hS

set_option maxHeartbeats 8000000 in
set_option maxRecDepth 100000 in
/--  -/
theorem c_X2_init (l : Launch) (D : va_G) (tys : List (ClassId × FieldType)) (h0 : Nat) : CtN (S := Nat × Nat) l D tys yX2_init wsX2_init 2 40 2 4 [.ref h0] (fun _ => True) [(h0, .inr (2, [.null, .int (jI 0), .int (jI 0), .int (jI 0), .int (jI 0), .int (jI (iB false)), .null, .int (jI 0), .int (jI 0), .int (jI 0), .int (jI (iB false))]))] (fun u => [(h0, .inr (2, [.ref u.1, .int (jI 0), .int (jI 0), .int (jI 0), .int (jI 0), .int (jI (iB false)), .ref u.2, .int (jI 0), .int (jI 0), .int (jI 0), .int (jI (iB false))]))]) (fun u => [(u.2, .inr (0, [.int (jI 0), .int (jI 0)])), (u.1, .inr (0, [.int (jI 0), .int (jI 0)]))]) := by
  refine CtN.of (cc := cX2_init) (maxL := 1) (by decide +kernel) rfl (fun _ => rfl) (Nat.le_of_ble_eq_true rfl) ?_
  intro p e s m below meth c A ls hcx hini hK hO hP hD hA hl
  obtain ⟨hx, hb, hr, hml, hown, hts, hlocks⟩ := hcx
  have hS : va_S A s.heap s.heap [] := va_S.rf
  have hown : s.vm.findClass RX2 = some m.cls := hown
  have hl : lv_has ls 1 [(0, .ref h0)] := hl
  have iX0 : ∀ w ∈ u_ws RX0 TX0 2, w ∈ wsX2_init := by decide +kernel
  have f12 := hts (.fieldLink RX2 12 "FieldFilter$Measurement" "h" "LFieldFilter$Column;") (by decide +kernel)
  have iX2 : ∀ w ∈ u_ws RX2 TX2 11, w ∈ wsX2_init := by decide +kernel
  have f18 := hts (.fieldLink RX2 18 "FieldFilter$Measurement" "ph" "LFieldFilter$Column;") (by decide +kernel)
  refine lv_aload_n hx hb dX2_init_0 rfl (lv_at hl 0 rfl) ?_
  refine W.objInit hx hb hown (hts (.methodLink RX2 3 objectInit) (by decide +kernel)) (hts (.instanceMethod objectInit) (by decide +kernel)) (hts (.code objectInit ⟨#[0xb1]⟩ 1 none) (List.mem_of_getElem? (i := 3) rfl)) rfl (by rw [hml]; exact hl.1) rfl dX2_init_1 (Nat.le_of_ble_eq_true rfl) (Nat.le_of_ble_eq_true rfl) ?_
  refine W.eq (g2 := F0 m 4 ls []) rfl ?_
  refine lv_aload_n hx hb dX2_init_4 rfl (lv_at hl 0 rfl) ?_
  refine k_new (ci := 0) (fs := [.int (jI 0), .int (jI 0)]) (C := RX0) (T := TX0) (N := 2) hx hb hts iX0 tyX0 tyX0_ok hown (hts (.classLink RX2 9 RX0) (by decide +kernel)) (hts (.instantiable RX0 2) (by decide +kernel)) (hts (.initialized RX0) (by decide +kernel)) hK hP hD hS hA rfl (fun j hj => match j, hj with | 0, _ => rfl | 1, _ => rfl | _ + 2, h => absurd h (by omega)) (Nat.le_of_ble_eq_true rfl) (Nat.le_of_ble_eq_true rfl) dX2_init_5 (fun n5 H hP hD hS => ?_)
  have hP : va_P D vwCl [(n5, .inr (0, [.int (jI 0), .int (jI 0)])), (h0, .inr (2, [.null, .int (jI 0), .int (jI 0), .int (jI 0), .int (jI 0), .int (jI (iB false)), .null, .int (jI 0), .int (jI 0), .int (jI 0), .int (jI (iB false))]))] H := hP
  have hD : va_D A [(n5, .inr (0, [.int (jI 0), .int (jI 0)])), (h0, .inr (2, [.null, .int (jI 0), .int (jI 0), .int (jI 0), .int (jI 0), .int (jI (iB false)), .null, .int (jI 0), .int (jI 0), .int (jI 0), .int (jI (iB false))]))] := hD
  refine W.widen (k := 1) (n := 2) (Nat.le_of_ble_eq_true rfl) (Nat.le_of_ble_eq_true rfl) ?_
  refine lv_dup hx hb dX2_init_8 rfl ?_
  have ct9 := c_X0_init l D tys n5 (jI 0) (jI 0)
  refine k_goV (va_runIN (As := []) (rest := [.ref n5, .ref h0]) ⟨hx, hb, hml, hown, hts⟩ (ct9.2 _) ⟨va_cnB (own := RX2) (host := "FieldFilter") (index := 11) 0 hts gX2_init_X0_init_n11 rfl rfl rfl (hK.2 (RX2, 11, yX0_init, "FieldFilter") (by decide +kernel)) (hts (.initialized RX0) (by decide +kernel)) (by decide +kernel) ⟨Nat.le_of_ble_eq_true rfl, Nat.le_of_ble_eq_true rfl⟩, rfl, hts (.instanceMethod yX0_init) (by decide +kernel)⟩ (k_pre hK hP hD (is := [0]) rfl rfl) rfl rfl hl.1 rfl (lv_room (Nat.le_of_ble_eq_true rfl)) dX2_init_9 ⟨Nat.le_of_ble_eq_true rfl, Nat.le_of_ble_eq_true rfl⟩) ct9.1 hP hD hS hA [0] rfl rfl (fun H locs hP hD hS => ?_)
  have hP : va_P D vwCl [(n5, .inr (0, [.int (jI 0), .int (jI 0)])), (h0, .inr (2, [.null, .int (jI 0), .int (jI 0), .int (jI 0), .int (jI 0), .int (jI (iB false)), .null, .int (jI 0), .int (jI 0), .int (jI 0), .int (jI (iB false))]))] H := hP
  have hD : va_D A [(n5, .inr (0, [.int (jI 0), .int (jI 0)])), (h0, .inr (2, [.null, .int (jI 0), .int (jI 0), .int (jI 0), .int (jI 0), .int (jI (iB false)), .null, .int (jI 0), .int (jI 0), .int (jI 0), .int (jI (iB false))]))] := hD
  refine va_putF (D := D) (ci := 2) (v := .ref n5) (ty := (.object "FieldFilter$Column")) (C := RX2) (T := TX2) (N := 11) hx hb hts iX2 tyX2 tyX2_ok nmX2 hown hK.1 hP hD hS 1 rfl rfl 0 (by decide) f12 (fun _ h9 => h9) rfl hini rfl (by decide +kernel) rfl rfl (Nat.le_of_ble_eq_true rfl) dX2_init_12 (fun H locs hP hD hS => ?_)
  have hP : va_P D vwCl [(n5, .inr (0, [.int (jI 0), .int (jI 0)])), (h0, .inr (2, [.ref n5, .int (jI 0), .int (jI 0), .int (jI 0), .int (jI 0), .int (jI (iB false)), .null, .int (jI 0), .int (jI 0), .int (jI 0), .int (jI (iB false))]))] H := hP
  have hD : va_D A [(n5, .inr (0, [.int (jI 0), .int (jI 0)])), (h0, .inr (2, [.ref n5, .int (jI 0), .int (jI 0), .int (jI 0), .int (jI 0), .int (jI (iB false)), .null, .int (jI 0), .int (jI 0), .int (jI 0), .int (jI (iB false))]))] := hD
  refine lv_aload_n hx hb dX2_init_15 rfl (lv_at hl 0 rfl) ?_
  refine k_new (ci := 0) (fs := [.int (jI 0), .int (jI 0)]) (C := RX0) (T := TX0) (N := 2) hx hb hts iX0 tyX0 tyX0_ok hown (hts (.classLink RX2 9 RX0) (by decide +kernel)) (hts (.instantiable RX0 2) (by decide +kernel)) (hts (.initialized RX0) (by decide +kernel)) hK hP hD hS hA rfl (fun j hj => match j, hj with | 0, _ => rfl | 1, _ => rfl | _ + 2, h => absurd h (by omega)) (Nat.le_of_ble_eq_true rfl) (Nat.le_of_ble_eq_true rfl) dX2_init_16 (fun n16 H hP hD hS => ?_)
  have hP : va_P D vwCl [(n16, .inr (0, [.int (jI 0), .int (jI 0)])), (n5, .inr (0, [.int (jI 0), .int (jI 0)])), (h0, .inr (2, [.ref n5, .int (jI 0), .int (jI 0), .int (jI 0), .int (jI 0), .int (jI (iB false)), .null, .int (jI 0), .int (jI 0), .int (jI 0), .int (jI (iB false))]))] H := hP
  have hD : va_D A [(n16, .inr (0, [.int (jI 0), .int (jI 0)])), (n5, .inr (0, [.int (jI 0), .int (jI 0)])), (h0, .inr (2, [.ref n5, .int (jI 0), .int (jI 0), .int (jI 0), .int (jI 0), .int (jI (iB false)), .null, .int (jI 0), .int (jI 0), .int (jI 0), .int (jI (iB false))]))] := hD
  refine W.widen (k := 2) (n := 4) (Nat.le_of_ble_eq_true rfl) (Nat.le_of_ble_eq_true rfl) ?_
  refine lv_dup hx hb dX2_init_19 rfl ?_
  have ct20 := c_X0_init l D tys n16 (jI 0) (jI 0)
  refine k_goV (va_runIN (As := []) (rest := [.ref n16, .ref h0]) ⟨hx, hb, hml, hown, hts⟩ (ct20.2 _) ⟨va_cnB (own := RX2) (host := "FieldFilter") (index := 11) 0 hts gX2_init_X0_init_n11 rfl rfl rfl (hK.2 (RX2, 11, yX0_init, "FieldFilter") (by decide +kernel)) (hts (.initialized RX0) (by decide +kernel)) (by decide +kernel) ⟨Nat.le_of_ble_eq_true rfl, Nat.le_of_ble_eq_true rfl⟩, rfl, hts (.instanceMethod yX0_init) (by decide +kernel)⟩ (k_pre hK hP hD (is := [0]) rfl rfl) rfl rfl hl.1 rfl (lv_room (Nat.le_of_ble_eq_true rfl)) dX2_init_20 ⟨Nat.le_of_ble_eq_true rfl, Nat.le_of_ble_eq_true rfl⟩) ct20.1 hP hD hS hA [0] rfl rfl (fun H locs hP hD hS => ?_)
  have hP : va_P D vwCl [(n16, .inr (0, [.int (jI 0), .int (jI 0)])), (n5, .inr (0, [.int (jI 0), .int (jI 0)])), (h0, .inr (2, [.ref n5, .int (jI 0), .int (jI 0), .int (jI 0), .int (jI 0), .int (jI (iB false)), .null, .int (jI 0), .int (jI 0), .int (jI 0), .int (jI (iB false))]))] H := hP
  have hD : va_D A [(n16, .inr (0, [.int (jI 0), .int (jI 0)])), (n5, .inr (0, [.int (jI 0), .int (jI 0)])), (h0, .inr (2, [.ref n5, .int (jI 0), .int (jI 0), .int (jI 0), .int (jI 0), .int (jI (iB false)), .null, .int (jI 0), .int (jI 0), .int (jI 0), .int (jI (iB false))]))] := hD
  refine va_putF (D := D) (ci := 2) (v := .ref n16) (ty := (.object "FieldFilter$Column")) (C := RX2) (T := TX2) (N := 11) hx hb hts iX2 tyX2 tyX2_ok nmX2 hown hK.1 hP hD hS 2 rfl rfl 6 (by decide) f18 (fun _ h9 => h9) rfl hini rfl (by decide +kernel) rfl rfl (Nat.le_of_ble_eq_true rfl) dX2_init_23 (fun H locs hP hD hS => ?_)
  have hP : va_P D vwCl [(n16, .inr (0, [.int (jI 0), .int (jI 0)])), (n5, .inr (0, [.int (jI 0), .int (jI 0)])), (h0, .inr (2, [.ref n5, .int (jI 0), .int (jI 0), .int (jI 0), .int (jI 0), .int (jI (iB false)), .ref n16, .int (jI 0), .int (jI 0), .int (jI 0), .int (jI (iB false))]))] H := hP
  have hD : va_D A [(n16, .inr (0, [.int (jI 0), .int (jI 0)])), (n5, .inr (0, [.int (jI 0), .int (jI 0)])), (h0, .inr (2, [.ref n5, .int (jI 0), .int (jI 0), .int (jI 0), .int (jI 0), .int (jI (iB false)), .ref n16, .int (jI 0), .int (jI 0), .int (jI 0), .int (jI (iB false))]))] := hD
  exact n_vret (n5, n16) hx hb hr hlocks dX2_init_26 hP hD hS trivial

set_option maxHeartbeats 8000000 in
set_option maxRecDepth 100000 in
/--  -/
theorem c_X4_init (l : Launch) (D : va_G) (tys : List (ClassId × FieldType)) (h0 : Nat) : CtN (S := Nat × Nat) l D tys yX4_init wsX4_init 2 40 2 5 [.ref h0] (fun _ => True) [(h0, .inr (4, [.null, .null]))] (fun u => [(h0, .inr (4, [.ref u.1, .ref u.2]))]) (fun u => [(u.2, .inr (5, [.int (jI 0), .int (jI 0), .int (jI 0)])), (u.1, .inr (0, [.int (jI 0), .int (jI 0)]))]) := by
  refine CtN.of (cc := cX4_init) (maxL := 1) (by decide +kernel) rfl (fun _ => rfl) (Nat.le_of_ble_eq_true rfl) ?_
  intro p e s m below meth c A ls hcx hini hK hO hP hD hA hl
  obtain ⟨hx, hb, hr, hml, hown, hts, hlocks⟩ := hcx
  have hS : va_S A s.heap s.heap [] := va_S.rf
  have hown : s.vm.findClass RX4 = some m.cls := hown
  have hl : lv_has ls 1 [(0, .ref h0)] := hl
  have iX0 : ∀ w ∈ u_ws RX0 TX0 2, w ∈ wsX4_init := by decide +kernel
  have f10 := hts (.fieldLink RX4 10 "FieldFilter$State" "x" "LFieldFilter$Column;") (by decide +kernel)
  have iX4 : ∀ w ∈ u_ws RX4 TX4 2, w ∈ wsX4_init := by decide +kernel
  have iX5 : ∀ w ∈ u_ws RX5 TX5 3, w ∈ wsX4_init := by decide +kernel
  have f19 := hts (.fieldLink RX4 19 "FieldFilter$State" "p" "LFieldFilter$Symmetric;") (by decide +kernel)
  refine lv_aload_n hx hb dX4_init_0 rfl (lv_at hl 0 rfl) ?_
  refine W.objInit hx hb hown (hts (.methodLink RX4 1 objectInit) (by decide +kernel)) (hts (.instanceMethod objectInit) (by decide +kernel)) (hts (.code objectInit ⟨#[0xb1]⟩ 1 none) (List.mem_of_getElem? (i := 3) rfl)) rfl (by rw [hml]; exact hl.1) rfl dX4_init_1 (Nat.le_of_ble_eq_true rfl) (Nat.le_of_ble_eq_true rfl) ?_
  refine W.eq (g2 := F0 m 4 ls []) rfl ?_
  refine lv_aload_n hx hb dX4_init_4 rfl (lv_at hl 0 rfl) ?_
  refine k_new (ci := 0) (fs := [.int (jI 0), .int (jI 0)]) (C := RX0) (T := TX0) (N := 2) hx hb hts iX0 tyX0 tyX0_ok hown (hts (.classLink RX4 7 RX0) (by decide +kernel)) (hts (.instantiable RX0 2) (by decide +kernel)) (hts (.initialized RX0) (by decide +kernel)) hK hP hD hS hA rfl (fun j hj => match j, hj with | 0, _ => rfl | 1, _ => rfl | _ + 2, h => absurd h (by omega)) (Nat.le_of_ble_eq_true rfl) (Nat.le_of_ble_eq_true rfl) dX4_init_5 (fun n5 H hP hD hS => ?_)
  have hP : va_P D vwCl [(n5, .inr (0, [.int (jI 0), .int (jI 0)])), (h0, .inr (4, [.null, .null]))] H := hP
  have hD : va_D A [(n5, .inr (0, [.int (jI 0), .int (jI 0)])), (h0, .inr (4, [.null, .null]))] := hD
  refine W.widen (k := 1) (n := 2) (Nat.le_of_ble_eq_true rfl) (Nat.le_of_ble_eq_true rfl) ?_
  refine lv_dup hx hb dX4_init_8 rfl ?_
  have ct9 := c_X0_init l D tys n5 (jI 0) (jI 0)
  refine k_goV (va_runIN (As := []) (rest := [.ref n5, .ref h0]) ⟨hx, hb, hml, hown, hts⟩ (ct9.2 _) ⟨va_cnB (own := RX4) (host := "FieldFilter") (index := 9) 0 hts gX4_init_X0_init_n9 rfl rfl rfl (hK.2 (RX4, 9, yX0_init, "FieldFilter") (by decide +kernel)) (hts (.initialized RX0) (by decide +kernel)) (by decide +kernel) ⟨Nat.le_of_ble_eq_true rfl, Nat.le_of_ble_eq_true rfl⟩, rfl, hts (.instanceMethod yX0_init) (by decide +kernel)⟩ (k_pre hK hP hD (is := [0]) rfl rfl) rfl rfl hl.1 rfl (lv_room (Nat.le_of_ble_eq_true rfl)) dX4_init_9 ⟨Nat.le_of_ble_eq_true rfl, Nat.le_of_ble_eq_true rfl⟩) ct9.1 hP hD hS hA [0] rfl rfl (fun H locs hP hD hS => ?_)
  have hP : va_P D vwCl [(n5, .inr (0, [.int (jI 0), .int (jI 0)])), (h0, .inr (4, [.null, .null]))] H := hP
  have hD : va_D A [(n5, .inr (0, [.int (jI 0), .int (jI 0)])), (h0, .inr (4, [.null, .null]))] := hD
  refine va_putF (D := D) (ci := 4) (v := .ref n5) (ty := (.object "FieldFilter$Column")) (C := RX4) (T := TX4) (N := 2) hx hb hts iX4 tyX4 tyX4_ok nmX4 hown hK.1 hP hD hS 1 rfl rfl 0 (by decide) f10 (fun _ h9 => h9) rfl hini rfl (by decide +kernel) rfl rfl (Nat.le_of_ble_eq_true rfl) dX4_init_12 (fun H locs hP hD hS => ?_)
  have hP : va_P D vwCl [(n5, .inr (0, [.int (jI 0), .int (jI 0)])), (h0, .inr (4, [.ref n5, .null]))] H := hP
  have hD : va_D A [(n5, .inr (0, [.int (jI 0), .int (jI 0)])), (h0, .inr (4, [.ref n5, .null]))] := hD
  refine lv_aload_n hx hb dX4_init_15 rfl (lv_at hl 0 rfl) ?_
  refine k_new (ci := 5) (fs := [.int (jI 0), .int (jI 0), .int (jI 0)]) (C := RX5) (T := TX5) (N := 3) hx hb hts iX5 tyX5 tyX5_ok hown (hts (.classLink RX4 16 RX5) (by decide +kernel)) (hts (.instantiable RX5 3) (by decide +kernel)) (hts (.initialized RX5) (by decide +kernel)) hK hP hD hS hA rfl (fun j hj => match j, hj with | 0, _ => rfl | 1, _ => rfl | 2, _ => rfl | _ + 3, h => absurd h (by omega)) (Nat.le_of_ble_eq_true rfl) (Nat.le_of_ble_eq_true rfl) dX4_init_16 (fun n16 H hP hD hS => ?_)
  have hP : va_P D vwCl [(n16, .inr (5, [.int (jI 0), .int (jI 0), .int (jI 0)])), (n5, .inr (0, [.int (jI 0), .int (jI 0)])), (h0, .inr (4, [.ref n5, .null]))] H := hP
  have hD : va_D A [(n16, .inr (5, [.int (jI 0), .int (jI 0), .int (jI 0)])), (n5, .inr (0, [.int (jI 0), .int (jI 0)])), (h0, .inr (4, [.ref n5, .null]))] := hD
  refine W.widen (k := 2) (n := 5) (Nat.le_of_ble_eq_true rfl) (Nat.le_of_ble_eq_true rfl) ?_
  refine lv_dup hx hb dX4_init_19 rfl ?_
  have ct20 := c_X5_init l D tys n16 (jI 0) (jI 0) (jI 0)
  refine k_goV (va_runIN (As := []) (rest := [.ref n16, .ref h0]) ⟨hx, hb, hml, hown, hts⟩ (ct20.2 _) ⟨va_cnB (own := RX4) (host := "FieldFilter") (index := 18) 0 hts gX4_init_X5_init_n18 rfl rfl rfl (hK.2 (RX4, 18, yX5_init, "FieldFilter") (by decide +kernel)) (hts (.initialized RX5) (by decide +kernel)) (by decide +kernel) ⟨Nat.le_of_ble_eq_true rfl, Nat.le_of_ble_eq_true rfl⟩, rfl, hts (.instanceMethod yX5_init) (by decide +kernel)⟩ (k_pre hK hP hD (is := [0]) rfl rfl) rfl rfl hl.1 rfl (lv_room (Nat.le_of_ble_eq_true rfl)) dX4_init_20 ⟨Nat.le_of_ble_eq_true rfl, Nat.le_of_ble_eq_true rfl⟩) ct20.1 hP hD hS hA [0] rfl rfl (fun H locs hP hD hS => ?_)
  have hP : va_P D vwCl [(n16, .inr (5, [.int (jI 0), .int (jI 0), .int (jI 0)])), (n5, .inr (0, [.int (jI 0), .int (jI 0)])), (h0, .inr (4, [.ref n5, .null]))] H := hP
  have hD : va_D A [(n16, .inr (5, [.int (jI 0), .int (jI 0), .int (jI 0)])), (n5, .inr (0, [.int (jI 0), .int (jI 0)])), (h0, .inr (4, [.ref n5, .null]))] := hD
  refine va_putF (D := D) (ci := 4) (v := .ref n16) (ty := (.object "FieldFilter$Symmetric")) (C := RX4) (T := TX4) (N := 2) hx hb hts iX4 tyX4 tyX4_ok nmX4 hown hK.1 hP hD hS 2 rfl rfl 1 (by decide) f19 (fun _ h9 => h9) rfl hini rfl (by decide +kernel) rfl rfl (Nat.le_of_ble_eq_true rfl) dX4_init_23 (fun H locs hP hD hS => ?_)
  have hP : va_P D vwCl [(n16, .inr (5, [.int (jI 0), .int (jI 0), .int (jI 0)])), (n5, .inr (0, [.int (jI 0), .int (jI 0)])), (h0, .inr (4, [.ref n5, .ref n16]))] H := hP
  have hD : va_D A [(n16, .inr (5, [.int (jI 0), .int (jI 0), .int (jI 0)])), (n5, .inr (0, [.int (jI 0), .int (jI 0)])), (h0, .inr (4, [.ref n5, .ref n16]))] := hD
  exact n_vret (n5, n16) hx hb hr hlocks dX4_init_26 hP hD hS trivial

set_option maxHeartbeats 8000000 in
set_option maxRecDepth 100000 in
/--  -/
theorem c_X3_init (l : Launch) (D : va_G) (tys : List (ClassId × FieldType)) (h0 : Nat) : CtN (S := Nat) l D tys yX3_init wsX3_init 2 40 1 3 [.ref h0] (fun _ => True) [(h0, .inr (3, [.int (jI 0), .int (jI 0), .int (jI 0), .int (jI 0), .null]))] (fun u => [(h0, .inr (3, [.int (jI 0), .int (jI 0), .int (jI 0), .int (jI 0), .ref u]))]) (fun u => [(u, .inr (5, [.int (jI 0), .int (jI 0), .int (jI 0)]))]) := by
  refine CtN.of (cc := cX3_init) (maxL := 1) (by decide +kernel) rfl (fun _ => rfl) (Nat.le_of_ble_eq_true rfl) ?_
  intro p e s m below meth c A ls hcx hini hK hO hP hD hA hl
  obtain ⟨hx, hb, hr, hml, hown, hts, hlocks⟩ := hcx
  have hS : va_S A s.heap s.heap [] := va_S.rf
  have hown : s.vm.findClass RX3 = some m.cls := hown
  have hl : lv_has ls 1 [(0, .ref h0)] := hl
  have iX5 : ∀ w ∈ u_ws RX5 TX5 3, w ∈ wsX3_init := by decide +kernel
  have f12 := hts (.fieldLink RX3 12 "FieldFilter$Motion" "q" "LFieldFilter$Symmetric;") (by decide +kernel)
  have iX3 : ∀ w ∈ u_ws RX3 TX3 5, w ∈ wsX3_init := by decide +kernel
  refine lv_aload_n hx hb dX3_init_0 rfl (lv_at hl 0 rfl) ?_
  refine W.objInit hx hb hown (hts (.methodLink RX3 3 objectInit) (by decide +kernel)) (hts (.instanceMethod objectInit) (by decide +kernel)) (hts (.code objectInit ⟨#[0xb1]⟩ 1 none) (List.mem_of_getElem? (i := 3) rfl)) rfl (by rw [hml]; exact hl.1) rfl dX3_init_1 (Nat.le_of_ble_eq_true rfl) (Nat.le_of_ble_eq_true rfl) ?_
  refine W.eq (g2 := F0 m 4 ls []) rfl ?_
  refine lv_aload_n hx hb dX3_init_4 rfl (lv_at hl 0 rfl) ?_
  refine k_new (ci := 5) (fs := [.int (jI 0), .int (jI 0), .int (jI 0)]) (C := RX5) (T := TX5) (N := 3) hx hb hts iX5 tyX5 tyX5_ok hown (hts (.classLink RX3 9 RX5) (by decide +kernel)) (hts (.instantiable RX5 3) (by decide +kernel)) (hts (.initialized RX5) (by decide +kernel)) hK hP hD hS hA rfl (fun j hj => match j, hj with | 0, _ => rfl | 1, _ => rfl | 2, _ => rfl | _ + 3, h => absurd h (by omega)) (Nat.le_of_ble_eq_true rfl) (Nat.le_of_ble_eq_true rfl) dX3_init_5 (fun n5 H hP hD hS => ?_)
  have hP : va_P D vwCl [(n5, .inr (5, [.int (jI 0), .int (jI 0), .int (jI 0)])), (h0, .inr (3, [.int (jI 0), .int (jI 0), .int (jI 0), .int (jI 0), .null]))] H := hP
  have hD : va_D A [(n5, .inr (5, [.int (jI 0), .int (jI 0), .int (jI 0)])), (h0, .inr (3, [.int (jI 0), .int (jI 0), .int (jI 0), .int (jI 0), .null]))] := hD
  refine W.widen (k := 1) (n := 3) (Nat.le_of_ble_eq_true rfl) (Nat.le_of_ble_eq_true rfl) ?_
  refine lv_dup hx hb dX3_init_8 rfl ?_
  have ct9 := c_X5_init l D tys n5 (jI 0) (jI 0) (jI 0)
  refine k_goV (va_runIN (As := []) (rest := [.ref n5, .ref h0]) ⟨hx, hb, hml, hown, hts⟩ (ct9.2 _) ⟨va_cnB (own := RX3) (host := "FieldFilter") (index := 11) 0 hts gX3_init_X5_init_n11 rfl rfl rfl (hK.2 (RX3, 11, yX5_init, "FieldFilter") (by decide +kernel)) (hts (.initialized RX5) (by decide +kernel)) (by decide +kernel) ⟨Nat.le_of_ble_eq_true rfl, Nat.le_of_ble_eq_true rfl⟩, rfl, hts (.instanceMethod yX5_init) (by decide +kernel)⟩ (k_pre hK hP hD (is := [0]) rfl rfl) rfl rfl hl.1 rfl (lv_room (Nat.le_of_ble_eq_true rfl)) dX3_init_9 ⟨Nat.le_of_ble_eq_true rfl, Nat.le_of_ble_eq_true rfl⟩) ct9.1 hP hD hS hA [0] rfl rfl (fun H locs hP hD hS => ?_)
  have hP : va_P D vwCl [(n5, .inr (5, [.int (jI 0), .int (jI 0), .int (jI 0)])), (h0, .inr (3, [.int (jI 0), .int (jI 0), .int (jI 0), .int (jI 0), .null]))] H := hP
  have hD : va_D A [(n5, .inr (5, [.int (jI 0), .int (jI 0), .int (jI 0)])), (h0, .inr (3, [.int (jI 0), .int (jI 0), .int (jI 0), .int (jI 0), .null]))] := hD
  refine va_putF (D := D) (ci := 3) (v := .ref n5) (ty := (.object "FieldFilter$Symmetric")) (C := RX3) (T := TX3) (N := 5) hx hb hts iX3 tyX3 tyX3_ok nmX3 hown hK.1 hP hD hS 1 rfl rfl 4 (by decide) f12 (fun _ h9 => h9) rfl hini rfl (by decide +kernel) rfl rfl (Nat.le_of_ble_eq_true rfl) dX3_init_12 (fun H locs hP hD hS => ?_)
  have hP : va_P D vwCl [(n5, .inr (5, [.int (jI 0), .int (jI 0), .int (jI 0)])), (h0, .inr (3, [.int (jI 0), .int (jI 0), .int (jI 0), .int (jI 0), .ref n5]))] H := hP
  have hD : va_D A [(n5, .inr (5, [.int (jI 0), .int (jI 0), .int (jI 0)])), (h0, .inr (3, [.int (jI 0), .int (jI 0), .int (jI 0), .int (jI 0), .ref n5]))] := hD
  exact n_vret n5 hx hb hr hlocks dX3_init_15 hP hD hS trivial
