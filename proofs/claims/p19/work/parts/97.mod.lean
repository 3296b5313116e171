/-! model, entry, begin -/
set_option maxHeartbeats 8000000 in
set_option maxRecDepth 100000 in
/--  -/
theorem c_X6_modelX (l : Launch) (hl9 : l.stackTraces = false) (D : va_G) (tys : List (ClassId × FieldType)) {cI cG : ClassId} (htI : tys[0]? = some (cI, .int)) (htG : tys[6]? = some (cG, .array .int)) (x0 q0 q1 ms es : Nat) (f : Nat → Option Nat) (hms : ms ≤ 6) (hes : es ≤ 6) (h6 : ms = 6) : CtG (SX := Unit) l D tys yX6_model wsX6_model 6 82 1 6 [.ref x0] [(x0, .inr (6, [.ref q0, .int (jI ((ms : Nat) : Int)), .ref q1, .int (jI ((es : Nat) : Int))])), (q0, .inl (cG, 6, .inr (.inr (.inr (.inr f)))))] (fun A => ENI (S := Unit) D A (fun _ _ => False) (fun _ => [(x0, .inr (6, [.ref q0, .int (jI ((ms : Nat) : Int)), .ref q1, .int (jI ((es : Nat) : Int))])), (q0, .inl (cG, 6, .inr (.inr (.inr (.inr f)))))]) (fun _ => [])) (fun E (_ : Unit) => E = xISE) (fun _ => [(x0, .inr (6, [.ref q0, .int (jI ((ms : Nat) : Int)), .ref q1, .int (jI ((es : Nat) : Int))])), (q0, .inl (cG, 6, .inr (.inr (.inr (.inr f)))))]) := by
  refine CtG.of (cc := cX6_model) (maxL := 1) (by decide +kernel) rfl (Nat.le_of_ble_eq_true rfl) ?_
  intro p e s m below meth c A ls hcx htab hK hX hZ hP hD hA hl
  obtain ⟨hx, hb, hr, hml, hown, hts, hlocks⟩ := hcx
  have hO := hX.1
  have hS : va_S A s.heap s.heap [] := va_S.rf
  have hown : s.vm.findClass RX6 = some m.cls := hown
  have hl : lv_has ls 1 [(0, .ref x0)] := hl
  have f20 := hts (.fieldLink RX6 20 "FieldFilter" "modelCount" "I") (by decide +kernel)
  have iX6 : ∀ w ∈ u_ws RX6 TX6 4, w ∈ wsX6_model := by decide +kernel
  refine lv_aload_n hx hb dX6_model_0 rfl (lv_at hl 0 rfl) ?_
  refine va_get (D := D) (ci := 6) (v := .int (jI ((ms : Nat) : Int))) (C := RX6) (T := TX6) (N := 4) hx hb hts iX6 hown hK.1 hP 0 rfl rfl 1 (by decide) f20 (fun _ h9 => h9) rfl dX6_model_1 ?_
  refine n_bipush hx hb dX6_model_4 (by decide) ?_
  refine n_icmp_lt (tgt := 19) hx hb (by unfold r32; omega) (by unfold r32; omega) dX6_model_6 (by decide) (fun h6 => False.elim (by omega)) (fun h6 => ?_)
  exact x_thr (cls := xISE) (text := "there are 6 models") hx hb hl9 hown (by decide +kernel) (hts (.classLink RX6 24 xISE) (by decide +kernel)) (hts (.initialized xISE) (by decide +kernel)) (by decide) hX (fun w h => hts w (List.mem_cons_of_mem _ (List.mem_append_right _ h))) xb_ISE xg_ISE hZ hS (hl.1.trans hml.symm) dX6_model_9 dX6_model_12 dX6_model_13 dX6_model_15 dX6_model_18 htab hlocks (Nat.le_of_ble_eq_true rfl) (Nat.le_of_ble_eq_true rfl) (Nat.le_of_ble_eq_true rfl) (Nat.le_of_ble_eq_true rfl) () hP hD rfl (Nat.le_of_ble_eq_true rfl) (Nat.le_of_ble_eq_true rfl)

set_option maxHeartbeats 8000000 in
set_option maxRecDepth 100000 in
/--  -/
theorem c_X6_modelK (l : Launch) (hl9 : l.stackTraces = false) (D : va_G) (tys : List (ClassId × FieldType)) {cI cG : ClassId} (htI : tys[0]? = some (cI, .int)) (htG : tys[6]? = some (cG, .array .int)) (x0 q0 q1 ms es : Nat) (f : Nat → Option Nat) (hms : ms ≤ 6) (hes : es ≤ 6) (h6 : ms < 6) (rm : Nat) (hf : f ms = some rm) (g : Nat → Zp) : CtG (SX := Unit) l D tys yX6_model wsX6_model 0 0 1 6 [.ref x0] [(x0, .inr (6, [.ref q0, .int (jI ((ms : Nat) : Int)), .ref q1, .int (jI ((es : Nat) : Int))])), (q0, .inl (cG, 6, .inr (.inr (.inr (.inr f))))), (rm, .inl (cI, 7, .inl (fun i => vI (g i))))] (fun A => ENI (S := Unit) D A (fun r (_ : Unit) => r = jI ((ms : Nat) : Int)) (fun _ => [(x0, .inr (6, [.ref q0, .int (jI ((ms + 1 : Nat) : Int)), .ref q1, .int (jI ((es : Nat) : Int))])), (q0, .inl (cG, 6, .inr (.inr (.inr (.inr f))))), (rm, .inl (cI, 7, .inl (fun i => vI ((va_up (va_up g 0 1) 3 1) i))))]) (fun _ => [])) (fun E (_ : Unit) => False) (fun _ => [(x0, .inr (6, [.ref q0, .int (jI ((ms : Nat) : Int)), .ref q1, .int (jI ((es : Nat) : Int))])), (q0, .inl (cG, 6, .inr (.inr (.inr (.inr f))))), (rm, .inl (cI, 7, .inl (fun i => vI (g i))))]) := by
  refine CtG.of (cc := cX6_model) (maxL := 1) (by decide +kernel) rfl (Nat.le_of_ble_eq_true rfl) ?_
  intro p e s m below meth c A ls hcx htab hK hX hZ hP hD hA hl
  obtain ⟨hx, hb, hr, hml, hown, hts, hlocks⟩ := hcx
  have hO := hX.1
  have hS : va_S A s.heap s.heap [] := va_S.rf
  have hown : s.vm.findClass RX6 = some m.cls := hown
  have hl : lv_has ls 1 [(0, .ref x0)] := hl
  have f20 := hts (.fieldLink RX6 20 "FieldFilter" "modelCount" "I") (by decide +kernel)
  have iX6 : ∀ w ∈ u_ws RX6 TX6 4, w ∈ wsX6_model := by decide +kernel
  have f11 := hts (.fieldLink RX6 11 "FieldFilter" "models" "[[I") (by decide +kernel)
  refine lv_aload_n hx hb dX6_model_0 rfl (lv_at hl 0 rfl) ?_
  refine va_get (D := D) (ci := 6) (v := .int (jI ((ms : Nat) : Int))) (C := RX6) (T := TX6) (N := 4) hx hb hts iX6 hown hK.1 hP 0 rfl rfl 1 (by decide) f20 (fun _ h9 => h9) rfl dX6_model_1 ?_
  refine n_bipush hx hb dX6_model_4 (by decide) ?_
  refine n_icmp_lt (tgt := 19) hx hb (by unfold r32; omega) (by unfold r32; omega) dX6_model_6 (by decide) (fun h6 => ?_) (fun h6 => False.elim (by omega))
  refine lv_aload_n hx hb dX6_model_19 rfl (lv_at hl 0 rfl) ?_
  refine va_get (D := D) (ci := 6) (v := .ref q0) (C := RX6) (T := TX6) (N := 4) hx hb hts iX6 hown hK.1 hP 0 rfl rfl 0 (by decide) f11 (fun _ h9 => h9) rfl dX6_model_20 ?_
  refine lv_aload_n hx hb dX6_model_23 rfl (lv_at hl 0 rfl) ?_
  refine va_get (D := D) (ci := 6) (v := .int (jI ((ms : Nat) : Int))) (C := RX6) (T := TX6) (N := 4) hx hb hts iX6 hown hK.1 hP 0 rfl rfl 1 (by decide) f20 (fun _ h9 => h9) rfl dX6_model_24 ?_
  refine n_aald2 (i := ms) (q := rm) hx hb hK hP 1 6 rfl htG rfl (by omega) (Nat.le_of_ble_eq_true rfl) hf dX6_model_27 ?_
  refine n_iconst hx hb dX6_model_28 ?_
  refine n_iconst hx hb dX6_model_29 ?_
  refine n_ziast (i := 0) (x := 1) hx hb hK hP hD hS 2 0 rfl htI rfl (Nat.le_of_ble_eq_true rfl) (Nat.le_of_ble_eq_true rfl) dX6_model_30 (fun H locs hP hD hS => ?_)
  have hP : va_P D vwCl [(x0, .inr (6, [.ref q0, .int (jI ((ms : Nat) : Int)), .ref q1, .int (jI ((es : Nat) : Int))])), (q0, .inl (cG, 6, .inr (.inr (.inr (.inr f))))), (rm, .inl (cI, 7, .inl (fun i => vI ((va_up g 0 1) i))))] H := hP
  have hD : va_D A [(x0, .inr (6, [.ref q0, .int (jI ((ms : Nat) : Int)), .ref q1, .int (jI ((es : Nat) : Int))])), (q0, .inl (cG, 6, .inr (.inr (.inr (.inr f))))), (rm, .inl (cI, 7, .inl (fun i => vI ((va_up g 0 1) i))))] := hD
  refine lv_aload_n hx hb dX6_model_31 rfl (lv_at hl 0 rfl) ?_
  refine va_get (D := D) (ci := 6) (v := .ref q0) (C := RX6) (T := TX6) (N := 4) hx hb hts iX6 hown hK.1 hP 0 rfl rfl 0 (by decide) f11 (fun _ h9 => h9) rfl dX6_model_32 ?_
  refine lv_aload_n hx hb dX6_model_35 rfl (lv_at hl 0 rfl) ?_
  refine va_get (D := D) (ci := 6) (v := .int (jI ((ms : Nat) : Int))) (C := RX6) (T := TX6) (N := 4) hx hb hts iX6 hown hK.1 hP 0 rfl rfl 1 (by decide) f20 (fun _ h9 => h9) rfl dX6_model_36 ?_
  refine n_aald2 (i := ms) (q := rm) hx hb hK hP 1 6 rfl htG rfl (by omega) (Nat.le_of_ble_eq_true rfl) hf dX6_model_39 ?_
  refine n_iconst hx hb dX6_model_40 ?_
  refine n_iconst hx hb dX6_model_41 ?_
  refine n_ziast (i := 3) (x := 1) hx hb hK hP hD hS 2 0 rfl htI rfl (Nat.le_of_ble_eq_true rfl) (Nat.le_of_ble_eq_true rfl) dX6_model_42 (fun H locs hP hD hS => ?_)
  have hP : va_P D vwCl [(x0, .inr (6, [.ref q0, .int (jI ((ms : Nat) : Int)), .ref q1, .int (jI ((es : Nat) : Int))])), (q0, .inl (cG, 6, .inr (.inr (.inr (.inr f))))), (rm, .inl (cI, 7, .inl (fun i => vI ((va_up (va_up g 0 1) 3 1) i))))] H := hP
  have hD : va_D A [(x0, .inr (6, [.ref q0, .int (jI ((ms : Nat) : Int)), .ref q1, .int (jI ((es : Nat) : Int))])), (q0, .inl (cG, 6, .inr (.inr (.inr (.inr f))))), (rm, .inl (cI, 7, .inl (fun i => vI ((va_up (va_up g 0 1) 3 1) i))))] := hD
  refine lv_aload_n hx hb dX6_model_43 rfl (lv_at hl 0 rfl) ?_
  refine lv_dup hx hb dX6_model_44 rfl ?_
  refine va_get (D := D) (ci := 6) (v := .int (jI ((ms : Nat) : Int))) (C := RX6) (T := TX6) (N := 4) hx hb hts iX6 hown hK.1 hP 0 rfl rfl 1 (by decide) f20 (fun _ h9 => h9) rfl dX6_model_45 ?_
  refine n_iconst hx hb dX6_model_48 ?_
  refine n_iadd hx hb dX6_model_49 ?_
  refine va_put (D := D) (ci := 6) (v := .int (jI (((ms : Nat) : Int) + 1))) (ty := .int) (C := RX6) (T := TX6) (N := 4) hx hb hts iX6 tyX6 tyX6_ok nmX6 hown hK.1 hP hD hS 0 rfl rfl 1 (by decide) f20 (fun _ h9 => h9) rfl (by decide +kernel) rfl rfl (Nat.le_of_ble_eq_true rfl) dX6_model_50 (fun H locs hP hD hS => ?_)
  have hP : va_P D vwCl [(x0, .inr (6, [.ref q0, .int (jI (((ms : Nat) : Int) + 1)), .ref q1, .int (jI ((es : Nat) : Int))])), (q0, .inl (cG, 6, .inr (.inr (.inr (.inr f))))), (rm, .inl (cI, 7, .inl (fun i => vI ((va_up (va_up g 0 1) 3 1) i))))] H := hP
  have hD : va_D A [(x0, .inr (6, [.ref q0, .int (jI (((ms : Nat) : Int) + 1)), .ref q1, .int (jI ((es : Nat) : Int))])), (q0, .inl (cG, 6, .inr (.inr (.inr (.inr f))))), (rm, .inl (cI, 7, .inl (fun i => vI ((va_up (va_up g 0 1) 3 1) i))))] := hD
  refine lv_aload_n hx hb dX6_model_53 rfl (lv_at hl 0 rfl) ?_
  refine va_get (D := D) (ci := 6) (v := .int (jI (((ms : Nat) : Int) + 1))) (C := RX6) (T := TX6) (N := 4) hx hb hts iX6 hown hK.1 hP 0 rfl rfl 1 (by decide) f20 (fun _ h9 => h9) rfl dX6_model_54 ?_
  refine n_iconst hx hb dX6_model_57 ?_
  refine n_isub hx hb dX6_model_58 ?_
  have en : ((ms : Nat) : Int) + 1 = ((ms + 1 : Nat) : Int) := rfl
  have hP : va_P D vwCl [(x0, .inr (6, [.ref q0, .int (jI ((ms + 1 : Nat) : Int)), .ref q1, .int (jI ((es : Nat) : Int))])), (q0, .inl (cG, 6, .inr (.inr (.inr (.inr f))))), (rm, .inl (cI, 7, .inl (fun i => vI ((va_up (va_up g 0 1) 3 1) i))))] H := hP
  have hD : va_D A [(x0, .inr (6, [.ref q0, .int (jI ((ms + 1 : Nat) : Int)), .ref q1, .int (jI ((es : Nat) : Int))])), (q0, .inl (cG, 6, .inr (.inr (.inr (.inr f))))), (rm, .inl (cI, 7, .inl (fun i => vI ((va_up (va_up g 0 1) 3 1) i))))] := hD
  exact x_iret () hx hb hr hlocks dX6_model_59 (Nat.le_of_ble_eq_true rfl) (Nat.le_of_ble_eq_true rfl) hP hD hS (congrArg jI (by omega))

set_option maxHeartbeats 8000000 in
set_option maxRecDepth 100000 in
/--  -/
theorem c_X6_entry1 (l : Launch) (hl9 : l.stackTraces = false) (D : va_G) (tys : List (ClassId × FieldType)) {cI cG : ClassId} (htI : tys[0]? = some (cI, .int)) (htG : tys[6]? = some (cG, .array .int)) (x0 q0 q1 ms es : Nat) (f : Nat → Option Nat) (hms : ms ≤ 6) (hes : es ≤ 6) (mo j1 j2 : Int) (q3 : r32 mo) (hbd : inB 0 (((ms : Nat) : Int) - 1) mo = false) : CtG (SX := Unit) l D tys yX6_entry wsX6_entry 7 103 3 18 [.ref x0, .int (jI mo), .int (jI j1), .int (jI j2)] [(x0, .inr (6, [.ref q0, .int (jI ((ms : Nat) : Int)), .ref q1, .int (jI ((es : Nat) : Int))])), (q0, .inl (cG, 6, .inr (.inr (.inr (.inr f)))))] (fun A => ENI (S := Unit) D A (fun _ _ => False) (fun _ => [(x0, .inr (6, [.ref q0, .int (jI ((ms : Nat) : Int)), .ref q1, .int (jI ((es : Nat) : Int))])), (q0, .inl (cG, 6, .inr (.inr (.inr (.inr f)))))]) (fun _ => [])) (fun E (_ : Unit) => E = xIOB) (fun _ => [(x0, .inr (6, [.ref q0, .int (jI ((ms : Nat) : Int)), .ref q1, .int (jI ((es : Nat) : Int))])), (q0, .inl (cG, 6, .inr (.inr (.inr (.inr f)))))]) := by
  refine CtG.of (cc := cX6_entry) (maxL := 6) (by decide +kernel) rfl (Nat.le_of_ble_eq_true rfl) ?_
  intro p e s m below meth c A ls hcx htab hK hX hZ hP hD hA hl
  obtain ⟨hx, hb, hr, hml, hown, hts, hlocks⟩ := hcx
  have hO := hX.1
  have hS : va_S A s.heap s.heap [] := va_S.rf
  have hown : s.vm.findClass RX6 = some m.cls := hown
  have hl : lv_has ls 6 [(0, .ref x0), (1, .int (jI mo)), (2, .int (jI j1)), (3, .int (jI j2))] := hl
  refine lv_aload_n hx hb dX6_entry_0 rfl (lv_at hl 0 rfl) ?_
  refine lv_iload_n hx hb dX6_entry_1 rfl (lv_at hl 1 rfl) ?_
  have ct2 := c_X6_modelNumbered1 l hl9 D tys htG x0 q0 q1 ms es f (by omega) mo q3 hbd
  refine x_goQ (vx_runV (As := [.int (jI mo)]) (rest := []) ⟨hx, hb, hml, hown, hts⟩ (ct2 _) (cwV 1 hts gX6_entry_X6_modelNumbered rfl rfl rfl (by decide +kernel) ⟨(Nat.le_of_ble_eq_true rfl), (Nat.le_of_ble_eq_true rfl)⟩) ⟨(x_pre hK hX hZ hP hD hS hA (is := [0, 1]) rfl rfl).1, va_recv hK.1 hP (ci := 6) (q0 := 0) rfl rfl, (x_pre hK hX hZ hP hD hS hA (is := [0, 1]) rfl rfl).2⟩ rfl rfl hl.1 rfl (lv_room (Nat.le_of_ble_eq_true rfl)) dX6_entry_2 ⟨(Nat.le_of_ble_eq_true rfl), (Nat.le_of_ble_eq_true rfl)⟩) (fun _ => rfl) (fun _ => rfl) hP hD hS hA [0, 1] rfl rfl (fun E ce q9 u H locs hpx hP hD hS h7 h8 h9 => x_out htab hlocks h7 h8 h9 () hP hD hS hpx (Nat.le_of_ble_eq_true rfl) (Nat.le_of_ble_eq_true rfl)) (fun r u H locs hpost hP hD hS => ?_)
  have hP : va_P D vwCl [(x0, .inr (6, [.ref q0, .int (jI ((ms : Nat) : Int)), .ref q1, .int (jI ((es : Nat) : Int))])), (q0, .inl (cG, 6, .inr (.inr (.inr (.inr f)))))] H := hP
  have hD : va_D A [(x0, .inr (6, [.ref q0, .int (jI ((ms : Nat) : Int)), .ref q1, .int (jI ((es : Nat) : Int))])), (q0, .inl (cG, 6, .inr (.inr (.inr (.inr f)))))] := hD
  exact hpost.elim

set_option maxHeartbeats 8000000 in
set_option maxRecDepth 100000 in
/--  -/
theorem c_X6_entry2 (l : Launch) (hl9 : l.stackTraces = false) (D : va_G) (tys : List (ClassId × FieldType)) {cI cG : ClassId} (htI : tys[0]? = some (cI, .int)) (htG : tys[6]? = some (cG, .array .int)) (x0 q0 q1 ms es : Nat) (f : Nat → Option Nat) (hms : ms ≤ 6) (hes : es ≤ 6) (mo : Nat) (hmo : mo < ms) (rm : Nat) (hf : f mo = some rm) (wh it : Int) (q4 : r32 wh) (q5 : r32 it) (h8 : ((inB 0 6 wh) && (inB 0 10006 it)) = false) : CtG (SX := Unit) l D tys yX6_entry wsX6_entry 8 123 3 18 [.ref x0, .int (jI ((mo : Nat) : Int)), .int (jI wh), .int (jI it)] [(x0, .inr (6, [.ref q0, .int (jI ((ms : Nat) : Int)), .ref q1, .int (jI ((es : Nat) : Int))])), (q0, .inl (cG, 6, .inr (.inr (.inr (.inr f)))))] (fun A => ENI (S := Unit) D A (fun _ _ => False) (fun _ => [(x0, .inr (6, [.ref q0, .int (jI ((ms : Nat) : Int)), .ref q1, .int (jI ((es : Nat) : Int))])), (q0, .inl (cG, 6, .inr (.inr (.inr (.inr f)))))]) (fun _ => [])) (fun E (_ : Unit) => E = xIAE) (fun _ => [(x0, .inr (6, [.ref q0, .int (jI ((ms : Nat) : Int)), .ref q1, .int (jI ((es : Nat) : Int))])), (q0, .inl (cG, 6, .inr (.inr (.inr (.inr f)))))]) := by
  refine CtG.of (cc := cX6_entry) (maxL := 6) (by decide +kernel) rfl (Nat.le_of_ble_eq_true rfl) ?_
  intro p e s m below meth c A ls hcx htab hK hX hZ hP hD hA hl
  obtain ⟨hx, hb, hr, hml, hown, hts, hlocks⟩ := hcx
  have hO := hX.1
  have hS : va_S A s.heap s.heap [] := va_S.rf
  have hown : s.vm.findClass RX6 = some m.cls := hown
  have hl : lv_has ls 6 [(0, .ref x0), (1, .int (jI ((mo : Nat) : Int))), (2, .int (jI wh)), (3, .int (jI it))] := hl
  refine lv_aload_n hx hb dX6_entry_0 rfl (lv_at hl 0 rfl) ?_
  refine lv_iload_n hx hb dX6_entry_1 rfl (lv_at hl 1 rfl) ?_
  have ct2 := c_X6_modelNumbered0 l hl9 D tys htG x0 q0 q1 ms es f (by omega) mo rm hmo hf
  refine x_goR (vx_runV (As := [.int (jI ((mo : Nat) : Int))]) (rest := []) ⟨hx, hb, hml, hown, hts⟩ (ct2 _) (cwV 1 hts gX6_entry_X6_modelNumbered rfl rfl rfl (by decide +kernel) ⟨(Nat.le_of_ble_eq_true rfl), (Nat.le_of_ble_eq_true rfl)⟩) ⟨(x_pre hK hX hZ hP hD hS hA (is := [0, 1]) rfl rfl).1, va_recv hK.1 hP (ci := 6) (q0 := 0) rfl rfl, (x_pre hK hX hZ hP hD hS hA (is := [0, 1]) rfl rfl).2⟩ rfl rfl hl.1 rfl (lv_room (Nat.le_of_ble_eq_true rfl)) dX6_entry_2 ⟨(Nat.le_of_ble_eq_true rfl), (Nat.le_of_ble_eq_true rfl)⟩) (fun _ => rfl) rfl hP hD hS hA [0, 1] rfl rfl (fun E ce q9 u H locs hpx hP hD hS h7 h8 h9 => hpx.elim) (fun H locs hP hD hS => ?_)
  have hP : va_P D vwCl [(x0, .inr (6, [.ref q0, .int (jI ((ms : Nat) : Int)), .ref q1, .int (jI ((es : Nat) : Int))])), (q0, .inl (cG, 6, .inr (.inr (.inr (.inr f)))))] H := hP
  have hD : va_D A [(x0, .inr (6, [.ref q0, .int (jI ((ms : Nat) : Int)), .ref q1, .int (jI ((es : Nat) : Int))])), (q0, .inl (cG, 6, .inr (.inr (.inr (.inr f)))))] := hD
  refine W.widen (k := 1) (n := 6) (Nat.le_of_ble_eq_true rfl) (Nat.le_of_ble_eq_true rfl) ?_
  refine lv_astore (lv' := [(4, .ref rm), (0, .ref x0), (1, .int (jI ((mo : Nat) : Int))), (2, .int (jI wh)), (3, .int (jI it))]) hx hb dX6_entry_5 hl (by decide) rfl (fun ls hl => ?_)
  refine lv_iload_n hx hb dX6_entry_7 rfl (lv_at hl 3 rfl) ?_
  refine n_bipush hx hb dX6_entry_8 (by decide) ?_
  have ct10 := c_X6_checkRange l hl9 D tys wh 6 (by first | assumption | exact r32_z _ | (unfold r32; omega)) (by first | assumption | exact r32_z _ | (unfold r32; omega))
  refine x_goV (vx_runS (As := [.int (jI wh), .int (jI 6)]) (rest := []) ⟨hx, hb, hml, hown, hts⟩ (ct10 _) (va_cwS 2 hts gX6_entry_X6_checkRange rfl rfl rfl (by decide +kernel) ⟨(Nat.le_of_ble_eq_true rfl), (Nat.le_of_ble_eq_true rfl)⟩) (x_pre hK hX hZ hP hD hS hA (is := []) rfl rfl) rfl rfl hl.1 rfl (lv_room (Nat.le_of_ble_eq_true rfl)) dX6_entry_10 ⟨(Nat.le_of_ble_eq_true rfl), (Nat.le_of_ble_eq_true rfl)⟩) (fun _ => rfl) (fun _ => rfl) hP hD hS hA [] rfl rfl (fun E ce q9 u H locs hpx hP hD hS h7 h8 h9 => x_out htab hlocks h7 h8 h9 () hP hD hS hpx.1 (Nat.le_of_ble_eq_true rfl) (Nat.le_of_ble_eq_true rfl)) (fun u H locs hpost hP hD hS => ?_)
  have hP : va_P D vwCl [(x0, .inr (6, [.ref q0, .int (jI ((ms : Nat) : Int)), .ref q1, .int (jI ((es : Nat) : Int))])), (q0, .inl (cG, 6, .inr (.inr (.inr (.inr f)))))] H := hP
  have hD : va_D A [(x0, .inr (6, [.ref q0, .int (jI ((ms : Nat) : Int)), .ref q1, .int (jI ((es : Nat) : Int))])), (q0, .inl (cG, 6, .inr (.inr (.inr (.inr f)))))] := hD
  have g1 := hpost
  refine W.widen (k := 2) (n := 12) (Nat.le_of_ble_eq_true rfl) (Nat.le_of_ble_eq_true rfl) ?_
  refine lv_iload_n hx hb dX6_entry_13 rfl (lv_at hl 4 rfl) ?_
  have ct14 := c_X6_checkField l hl9 D tys it (by first | assumption | exact r32_z _ | (unfold r32; omega))
  refine x_goV (vx_runS (As := [.int (jI it)]) (rest := []) ⟨hx, hb, hml, hown, hts⟩ (ct14 _) (va_cwS 1 hts gX6_entry_X6_checkField rfl rfl rfl (by decide +kernel) ⟨(Nat.le_of_ble_eq_true rfl), (Nat.le_of_ble_eq_true rfl)⟩) (x_pre hK hX hZ hP hD hS hA (is := []) rfl rfl) rfl rfl hl.1 rfl (lv_room (Nat.le_of_ble_eq_true rfl)) dX6_entry_14 ⟨(Nat.le_of_ble_eq_true rfl), (Nat.le_of_ble_eq_true rfl)⟩) (fun _ => rfl) (fun _ => rfl) hP hD hS hA [] rfl rfl (fun E ce q9 u H locs hpx hP hD hS h7 h8 h9 => x_out htab hlocks h7 h8 h9 () hP hD hS hpx.1 (Nat.le_of_ble_eq_true rfl) (Nat.le_of_ble_eq_true rfl)) (fun u H locs hpost hP hD hS => ?_)
  have hP : va_P D vwCl [(x0, .inr (6, [.ref q0, .int (jI ((ms : Nat) : Int)), .ref q1, .int (jI ((es : Nat) : Int))])), (q0, .inl (cG, 6, .inr (.inr (.inr (.inr f)))))] H := hP
  have hD : va_D A [(x0, .inr (6, [.ref q0, .int (jI ((ms : Nat) : Int)), .ref q1, .int (jI ((es : Nat) : Int))])), (q0, .inl (cG, 6, .inr (.inr (.inr (.inr f)))))] := hD
  exact absurd h8 (by rw [g1, hpost]; exact Bool.noConfusion)

set_option maxHeartbeats 8000000 in
set_option maxRecDepth 100000 in
/--  -/
theorem c_X6_entry0 (l : Launch) (hl9 : l.stackTraces = false) (D : va_G) (tys : List (ClassId × FieldType)) {cI cG : ClassId} (htI : tys[0]? = some (cI, .int)) (htG : tys[6]? = some (cG, .array .int)) (x0 q0 q1 ms es : Nat) (f : Nat → Option Nat) (hms : ms ≤ 6) (hes : es ≤ 6) (mo : Nat) (hmo : mo < ms) (rm : Nat) (hf : f mo = some rm) (g : Nat → Zp) (wh : Nat) (it : Zp) (q4 : wh ≤ 6) : CtG (SX := Unit) l D tys yX6_entry wsX6_entry 8 123 3 18 [.ref x0, .int (jI ((mo : Nat) : Int)), .int (jI ((wh : Nat) : Int)), .int (vI it)] [(x0, .inr (6, [.ref q0, .int (jI ((ms : Nat) : Int)), .ref q1, .int (jI ((es : Nat) : Int))])), (q0, .inl (cG, 6, .inr (.inr (.inr (.inr f))))), (rm, .inl (cI, 7, .inl (fun i => vI (g i))))] (fun A => ENI (S := Unit) D A (fun r (_ : Unit) => r = vI (g wh)) (fun _ => [(x0, .inr (6, [.ref q0, .int (jI ((ms : Nat) : Int)), .ref q1, .int (jI ((es : Nat) : Int))])), (q0, .inl (cG, 6, .inr (.inr (.inr (.inr f))))), (rm, .inl (cI, 7, .inl (fun i => vI ((va_up g wh it) i))))]) (fun _ => [])) (fun E (_ : Unit) => False) (fun _ => [(x0, .inr (6, [.ref q0, .int (jI ((ms : Nat) : Int)), .ref q1, .int (jI ((es : Nat) : Int))])), (q0, .inl (cG, 6, .inr (.inr (.inr (.inr f))))), (rm, .inl (cI, 7, .inl (fun i => vI (g i))))]) := by
  refine CtG.of (cc := cX6_entry) (maxL := 6) (by decide +kernel) rfl (Nat.le_of_ble_eq_true rfl) ?_
  intro p e s m below meth c A ls hcx htab hK hX hZ hP hD hA hl
  obtain ⟨hx, hb, hr, hml, hown, hts, hlocks⟩ := hcx
  have hO := hX.1
  have hS : va_S A s.heap s.heap [] := va_S.rf
  have hown : s.vm.findClass RX6 = some m.cls := hown
  have hl : lv_has ls 6 [(0, .ref x0), (1, .int (jI ((mo : Nat) : Int))), (2, .int (jI ((wh : Nat) : Int))), (3, .int (vI it))] := hl
  refine lv_aload_n hx hb dX6_entry_0 rfl (lv_at hl 0 rfl) ?_
  refine lv_iload_n hx hb dX6_entry_1 rfl (lv_at hl 1 rfl) ?_
  have ct2 := c_X6_modelNumbered0 l hl9 D tys htG x0 q0 q1 ms es f (by omega) mo rm hmo hf
  refine x_goR (vx_runV (As := [.int (jI ((mo : Nat) : Int))]) (rest := []) ⟨hx, hb, hml, hown, hts⟩ (ct2 _) (cwV 1 hts gX6_entry_X6_modelNumbered rfl rfl rfl (by decide +kernel) ⟨(Nat.le_of_ble_eq_true rfl), (Nat.le_of_ble_eq_true rfl)⟩) ⟨(x_pre hK hX hZ hP hD hS hA (is := [0, 1]) rfl rfl).1, va_recv hK.1 hP (ci := 6) (q0 := 0) rfl rfl, (x_pre hK hX hZ hP hD hS hA (is := [0, 1]) rfl rfl).2⟩ rfl rfl hl.1 rfl (lv_room (Nat.le_of_ble_eq_true rfl)) dX6_entry_2 ⟨(Nat.le_of_ble_eq_true rfl), (Nat.le_of_ble_eq_true rfl)⟩) (fun _ => rfl) rfl hP hD hS hA [0, 1] rfl rfl (fun E ce q9 u H locs hpx hP hD hS h7 h8 h9 => hpx.elim) (fun H locs hP hD hS => ?_)
  have hP : va_P D vwCl [(x0, .inr (6, [.ref q0, .int (jI ((ms : Nat) : Int)), .ref q1, .int (jI ((es : Nat) : Int))])), (q0, .inl (cG, 6, .inr (.inr (.inr (.inr f))))), (rm, .inl (cI, 7, .inl (fun i => vI (g i))))] H := hP
  have hD : va_D A [(x0, .inr (6, [.ref q0, .int (jI ((ms : Nat) : Int)), .ref q1, .int (jI ((es : Nat) : Int))])), (q0, .inl (cG, 6, .inr (.inr (.inr (.inr f))))), (rm, .inl (cI, 7, .inl (fun i => vI (g i))))] := hD
  refine W.widen (k := 1) (n := 6) (Nat.le_of_ble_eq_true rfl) (Nat.le_of_ble_eq_true rfl) ?_
  refine lv_astore (lv' := [(4, .ref rm), (0, .ref x0), (1, .int (jI ((mo : Nat) : Int))), (2, .int (jI ((wh : Nat) : Int))), (3, .int (vI it))]) hx hb dX6_entry_5 hl (by decide) rfl (fun ls hl => ?_)
  refine lv_iload_n hx hb dX6_entry_7 rfl (lv_at hl 3 rfl) ?_
  refine n_bipush hx hb dX6_entry_8 (by decide) ?_
  have ct10 := c_X6_checkRange l hl9 D tys ((wh : Nat) : Int) 6 (by first | assumption | exact r32_z _ | (unfold r32; omega)) (by first | assumption | exact r32_z _ | (unfold r32; omega))
  refine x_goV (vx_runS (As := [.int (jI ((wh : Nat) : Int)), .int (jI 6)]) (rest := []) ⟨hx, hb, hml, hown, hts⟩ (ct10 _) (va_cwS 2 hts gX6_entry_X6_checkRange rfl rfl rfl (by decide +kernel) ⟨(Nat.le_of_ble_eq_true rfl), (Nat.le_of_ble_eq_true rfl)⟩) (x_pre hK hX hZ hP hD hS hA (is := []) rfl rfl) rfl rfl hl.1 rfl (lv_room (Nat.le_of_ble_eq_true rfl)) dX6_entry_10 ⟨(Nat.le_of_ble_eq_true rfl), (Nat.le_of_ble_eq_true rfl)⟩) (fun _ => rfl) (fun _ => rfl) hP hD hS hA [] rfl rfl (fun E ce q9 u H locs hpx hP hD hS h7 h8 h9 => absurd hpx.2 (by rw [inB_t (by omega) (by omega)]; exact Bool.noConfusion)) (fun u H locs hpost hP hD hS => ?_)
  have hP : va_P D vwCl [(x0, .inr (6, [.ref q0, .int (jI ((ms : Nat) : Int)), .ref q1, .int (jI ((es : Nat) : Int))])), (q0, .inl (cG, 6, .inr (.inr (.inr (.inr f))))), (rm, .inl (cI, 7, .inl (fun i => vI (g i))))] H := hP
  have hD : va_D A [(x0, .inr (6, [.ref q0, .int (jI ((ms : Nat) : Int)), .ref q1, .int (jI ((es : Nat) : Int))])), (q0, .inl (cG, 6, .inr (.inr (.inr (.inr f))))), (rm, .inl (cI, 7, .inl (fun i => vI (g i))))] := hD
  refine W.widen (k := 2) (n := 12) (Nat.le_of_ble_eq_true rfl) (Nat.le_of_ble_eq_true rfl) ?_
  refine lv_iload_n hx hb dX6_entry_13 rfl (lv_at hl 4 rfl) ?_
  have ct14 := c_X6_checkField l hl9 D tys (zv it) (by first | assumption | exact r32_z _ | (unfold r32; omega))
  refine x_goV (vx_runS (As := [.int (vI it)]) (rest := []) ⟨hx, hb, hml, hown, hts⟩ (ct14 _) (va_cwS 1 hts gX6_entry_X6_checkField rfl rfl rfl (by decide +kernel) ⟨(Nat.le_of_ble_eq_true rfl), (Nat.le_of_ble_eq_true rfl)⟩) (x_pre hK hX hZ hP hD hS hA (is := []) rfl rfl) rfl rfl hl.1 rfl (lv_room (Nat.le_of_ble_eq_true rfl)) dX6_entry_14 ⟨(Nat.le_of_ble_eq_true rfl), (Nat.le_of_ble_eq_true rfl)⟩) (fun _ => rfl) (fun _ => rfl) hP hD hS hA [] rfl rfl (fun E ce q9 u H locs hpx hP hD hS h7 h8 h9 => absurd hpx.2 (by rw [inB_t (zv_0 _) (zv_le _)]; exact Bool.noConfusion)) (fun u H locs hpost hP hD hS => ?_)
  have hP : va_P D vwCl [(x0, .inr (6, [.ref q0, .int (jI ((ms : Nat) : Int)), .ref q1, .int (jI ((es : Nat) : Int))])), (q0, .inl (cG, 6, .inr (.inr (.inr (.inr f))))), (rm, .inl (cI, 7, .inl (fun i => vI (g i))))] H := hP
  have hD : va_D A [(x0, .inr (6, [.ref q0, .int (jI ((ms : Nat) : Int)), .ref q1, .int (jI ((es : Nat) : Int))])), (q0, .inl (cG, 6, .inr (.inr (.inr (.inr f))))), (rm, .inl (cI, 7, .inl (fun i => vI (g i))))] := hD
  refine W.widen (k := 3) (n := 18) (Nat.le_of_ble_eq_true rfl) (Nat.le_of_ble_eq_true rfl) ?_
  refine lv_aload hx hb dX6_entry_17 (lv_at hl 0 rfl) ?_
  refine lv_iload_n hx hb dX6_entry_19 rfl (lv_at hl 3 rfl) ?_
  refine n_iald (i := wh) hx hb hK hP 2 0 rfl htI rfl (by omega) (Nat.le_of_ble_eq_true rfl) dX6_entry_20 ?_
  refine lv_istore (lv' := [(5, .int (vI (g wh))), (4, .ref rm), (0, .ref x0), (1, .int (jI ((mo : Nat) : Int))), (2, .int (jI ((wh : Nat) : Int))), (3, .int (vI it))]) hx hb dX6_entry_21 hl (by decide) rfl (fun ls hl => ?_)
  refine lv_aload hx hb dX6_entry_23 (lv_at hl 1 rfl) ?_
  refine lv_iload_n hx hb dX6_entry_25 rfl (lv_at hl 4 rfl) ?_
  refine lv_iload_n hx hb dX6_entry_26 rfl (lv_at hl 5 rfl) ?_
  refine n_ziast (i := wh) (x := it) hx hb hK hP hD hS 2 0 rfl htI rfl (by omega) (Nat.le_of_ble_eq_true rfl) dX6_entry_27 (fun H locs hP hD hS => ?_)
  have hP : va_P D vwCl [(x0, .inr (6, [.ref q0, .int (jI ((ms : Nat) : Int)), .ref q1, .int (jI ((es : Nat) : Int))])), (q0, .inl (cG, 6, .inr (.inr (.inr (.inr f))))), (rm, .inl (cI, 7, .inl (fun i => vI ((va_up g wh it) i))))] H := hP
  have hD : va_D A [(x0, .inr (6, [.ref q0, .int (jI ((ms : Nat) : Int)), .ref q1, .int (jI ((es : Nat) : Int))])), (q0, .inl (cG, 6, .inr (.inr (.inr (.inr f))))), (rm, .inl (cI, 7, .inl (fun i => vI ((va_up g wh it) i))))] := hD
  refine lv_iload hx hb dX6_entry_28 (lv_at hl 0 rfl) ?_
  exact x_iret () hx hb hr hlocks dX6_entry_30 (Nat.le_of_ble_eq_true rfl) (Nat.le_of_ble_eq_true rfl) hP hD hS rfl

set_option maxHeartbeats 8000000 in
set_option maxRecDepth 100000 in
/--  -/
theorem c_X6_begin1 (l : Launch) (hl9 : l.stackTraces = false) (D : va_G) (tys : List (ClassId × FieldType)) {cI cG : ClassId} (htI : tys[0]? = some (cI, .int)) (htG : tys[6]? = some (cG, .array .int)) (x0 q0 q1 ms es : Nat) (f : Nat → Option Nat) (hms : ms ≤ 6) (hes : es ≤ 6) (mo j1 j2 j3 j4 j5 : Int) (q3 : r32 mo) (hbd : inB 0 (((ms : Nat) : Int) - 1) mo = false) : CtG (SX := Unit) l D tys yX6_begin wsX6_begin 7 103 228 867 [.ref x0, .int (jI mo), .int (jI j1), .int (jI j2), .int (jI j3), .int (jI j4), .int (jI j5)] [(x0, .inr (6, [.ref q0, .int (jI ((ms : Nat) : Int)), .ref q1, .int (jI ((es : Nat) : Int))])), (q0, .inl (cG, 6, .inr (.inr (.inr (.inr f)))))] (fun A => ENI (S := Unit) D A (fun _ _ => False) (fun _ => [(x0, .inr (6, [.ref q0, .int (jI ((ms : Nat) : Int)), .ref q1, .int (jI ((es : Nat) : Int))])), (q0, .inl (cG, 6, .inr (.inr (.inr (.inr f)))))]) (fun _ => [])) (fun E (_ : Unit) => E = xIOB) (fun _ => [(x0, .inr (6, [.ref q0, .int (jI ((ms : Nat) : Int)), .ref q1, .int (jI ((es : Nat) : Int))])), (q0, .inl (cG, 6, .inr (.inr (.inr (.inr f)))))]) := by
  refine CtG.of (cc := cX6_begin) (maxL := 9) (by decide +kernel) rfl (Nat.le_of_ble_eq_true rfl) ?_
  intro p e s m below meth c A ls hcx htab hK hX hZ hP hD hA hl
  obtain ⟨hx, hb, hr, hml, hown, hts, hlocks⟩ := hcx
  have hO := hX.1
  have hS : va_S A s.heap s.heap [] := va_S.rf
  have hown : s.vm.findClass RX6 = some m.cls := hown
  have hl : lv_has ls 9 [(0, .ref x0), (1, .int (jI mo)), (2, .int (jI j1)), (3, .int (jI j2)), (4, .int (jI j3)), (5, .int (jI j4)), (6, .int (jI j5))] := hl
  refine lv_aload_n hx hb dX6_begin_0 rfl (lv_at hl 0 rfl) ?_
  refine lv_iload_n hx hb dX6_begin_1 rfl (lv_at hl 1 rfl) ?_
  have ct2 := c_X6_modelNumbered1 l hl9 D tys htG x0 q0 q1 ms es f (by omega) mo q3 hbd
  refine x_goQ (vx_runV (As := [.int (jI mo)]) (rest := []) ⟨hx, hb, hml, hown, hts⟩ (ct2 _) (cwV 1 hts gX6_begin_X6_modelNumbered rfl rfl rfl (by decide +kernel) ⟨(Nat.le_of_ble_eq_true rfl), (Nat.le_of_ble_eq_true rfl)⟩) ⟨(x_pre hK hX hZ hP hD hS hA (is := [0, 1]) rfl rfl).1, va_recv hK.1 hP (ci := 6) (q0 := 0) rfl rfl, (x_pre hK hX hZ hP hD hS hA (is := [0, 1]) rfl rfl).2⟩ rfl rfl hl.1 rfl (lv_room (Nat.le_of_ble_eq_true rfl)) dX6_begin_2 ⟨(Nat.le_of_ble_eq_true rfl), (Nat.le_of_ble_eq_true rfl)⟩) (fun _ => rfl) (fun _ => rfl) hP hD hS hA [0, 1] rfl rfl (fun E ce q9 u H locs hpx hP hD hS h7 h8 h9 => x_out htab hlocks h7 h8 h9 () hP hD hS hpx (Nat.le_of_ble_eq_true rfl) (Nat.le_of_ble_eq_true rfl)) (fun r u H locs hpost hP hD hS => ?_)
  have hP : va_P D vwCl [(x0, .inr (6, [.ref q0, .int (jI ((ms : Nat) : Int)), .ref q1, .int (jI ((es : Nat) : Int))])), (q0, .inl (cG, 6, .inr (.inr (.inr (.inr f)))))] H := hP
  have hD : va_D A [(x0, .inr (6, [.ref q0, .int (jI ((ms : Nat) : Int)), .ref q1, .int (jI ((es : Nat) : Int))])), (q0, .inl (cG, 6, .inr (.inr (.inr (.inr f)))))] := hD
  exact hpost.elim

set_option maxHeartbeats 8000000 in
set_option maxRecDepth 100000 in
/--  -/
theorem c_X6_begin2 (l : Launch) (hl9 : l.stackTraces = false) (D : va_G) (tys : List (ClassId × FieldType)) {cI cG : ClassId} (htI : tys[0]? = some (cI, .int)) (htG : tys[6]? = some (cG, .array .int)) (x0 q0 q1 ms es : Nat) (f : Nat → Option Nat) (hms : ms ≤ 6) (hes : es ≤ 6) (mo : Nat) (hmo : mo < ms) (rm : Nat) (hf : f mo = some rm) (b1 b2 b3 b4 b5 : Int) (r1 : r32 b1) (r2 : r32 b2) (r3 : r32 b3) (r4 : r32 b4) (r5 : r32 b5) (h8 : ((inB 0 10006 b1) && ((inB 0 10006 b2) && ((inB 0 10006 b3) && ((inB 0 10006 b4) && (inB 0 10006 b5))))) = false) : CtG (SX := Unit) l D tys yX6_begin wsX6_begin 8 123 228 867 [.ref x0, .int (jI ((mo : Nat) : Int)), .int (jI b1), .int (jI b2), .int (jI b3), .int (jI b4), .int (jI b5)] [(x0, .inr (6, [.ref q0, .int (jI ((ms : Nat) : Int)), .ref q1, .int (jI ((es : Nat) : Int))])), (q0, .inl (cG, 6, .inr (.inr (.inr (.inr f)))))] (fun A => ENI (S := Unit) D A (fun _ _ => False) (fun _ => [(x0, .inr (6, [.ref q0, .int (jI ((ms : Nat) : Int)), .ref q1, .int (jI ((es : Nat) : Int))])), (q0, .inl (cG, 6, .inr (.inr (.inr (.inr f)))))]) (fun _ => [])) (fun E (_ : Unit) => E = xIAE) (fun _ => [(x0, .inr (6, [.ref q0, .int (jI ((ms : Nat) : Int)), .ref q1, .int (jI ((es : Nat) : Int))])), (q0, .inl (cG, 6, .inr (.inr (.inr (.inr f)))))]) := by
  refine CtG.of (cc := cX6_begin) (maxL := 9) (by decide +kernel) rfl (Nat.le_of_ble_eq_true rfl) ?_
  intro p e s m below meth c A ls hcx htab hK hX hZ hP hD hA hl
  obtain ⟨hx, hb, hr, hml, hown, hts, hlocks⟩ := hcx
  have hO := hX.1
  have hS : va_S A s.heap s.heap [] := va_S.rf
  have hown : s.vm.findClass RX6 = some m.cls := hown
  have hl : lv_has ls 9 [(0, .ref x0), (1, .int (jI ((mo : Nat) : Int))), (2, .int (jI b1)), (3, .int (jI b2)), (4, .int (jI b3)), (5, .int (jI b4)), (6, .int (jI b5))] := hl
  refine lv_aload_n hx hb dX6_begin_0 rfl (lv_at hl 0 rfl) ?_
  refine lv_iload_n hx hb dX6_begin_1 rfl (lv_at hl 1 rfl) ?_
  have ct2 := c_X6_modelNumbered0 l hl9 D tys htG x0 q0 q1 ms es f (by omega) mo rm hmo hf
  refine x_goR (vx_runV (As := [.int (jI ((mo : Nat) : Int))]) (rest := []) ⟨hx, hb, hml, hown, hts⟩ (ct2 _) (cwV 1 hts gX6_begin_X6_modelNumbered rfl rfl rfl (by decide +kernel) ⟨(Nat.le_of_ble_eq_true rfl), (Nat.le_of_ble_eq_true rfl)⟩) ⟨(x_pre hK hX hZ hP hD hS hA (is := [0, 1]) rfl rfl).1, va_recv hK.1 hP (ci := 6) (q0 := 0) rfl rfl, (x_pre hK hX hZ hP hD hS hA (is := [0, 1]) rfl rfl).2⟩ rfl rfl hl.1 rfl (lv_room (Nat.le_of_ble_eq_true rfl)) dX6_begin_2 ⟨(Nat.le_of_ble_eq_true rfl), (Nat.le_of_ble_eq_true rfl)⟩) (fun _ => rfl) rfl hP hD hS hA [0, 1] rfl rfl (fun E ce q9 u H locs hpx hP hD hS h7 h8 h9 => hpx.elim) (fun H locs hP hD hS => ?_)
  have hP : va_P D vwCl [(x0, .inr (6, [.ref q0, .int (jI ((ms : Nat) : Int)), .ref q1, .int (jI ((es : Nat) : Int))])), (q0, .inl (cG, 6, .inr (.inr (.inr (.inr f)))))] H := hP
  have hD : va_D A [(x0, .inr (6, [.ref q0, .int (jI ((ms : Nat) : Int)), .ref q1, .int (jI ((es : Nat) : Int))])), (q0, .inl (cG, 6, .inr (.inr (.inr (.inr f)))))] := hD
  refine W.widen (k := 1) (n := 6) (Nat.le_of_ble_eq_true rfl) (Nat.le_of_ble_eq_true rfl) ?_
  refine lv_astore (lv' := [(7, .ref rm), (0, .ref x0), (1, .int (jI ((mo : Nat) : Int))), (2, .int (jI b1)), (3, .int (jI b2)), (4, .int (jI b3)), (5, .int (jI b4)), (6, .int (jI b5))]) hx hb dX6_begin_5 hl (by decide) rfl (fun ls hl => ?_)
  refine lv_iload_n hx hb dX6_begin_7 rfl (lv_at hl 3 rfl) ?_
  have ct8 := c_X6_checkField l hl9 D tys b1 (by first | assumption | exact r32_z _ | (unfold r32; omega))
  refine x_goV (vx_runS (As := [.int (jI b1)]) (rest := []) ⟨hx, hb, hml, hown, hts⟩ (ct8 _) (va_cwS 1 hts gX6_begin_X6_checkField rfl rfl rfl (by decide +kernel) ⟨(Nat.le_of_ble_eq_true rfl), (Nat.le_of_ble_eq_true rfl)⟩) (x_pre hK hX hZ hP hD hS hA (is := []) rfl rfl) rfl rfl hl.1 rfl (lv_room (Nat.le_of_ble_eq_true rfl)) dX6_begin_8 ⟨(Nat.le_of_ble_eq_true rfl), (Nat.le_of_ble_eq_true rfl)⟩) (fun _ => rfl) (fun _ => rfl) hP hD hS hA [] rfl rfl (fun E ce q9 u H locs hpx hP hD hS h7 h8 h9 => x_out htab hlocks h7 h8 h9 () hP hD hS hpx.1 (Nat.le_of_ble_eq_true rfl) (Nat.le_of_ble_eq_true rfl)) (fun u H locs hpost hP hD hS => ?_)
  have hP : va_P D vwCl [(x0, .inr (6, [.ref q0, .int (jI ((ms : Nat) : Int)), .ref q1, .int (jI ((es : Nat) : Int))])), (q0, .inl (cG, 6, .inr (.inr (.inr (.inr f)))))] H := hP
  have hD : va_D A [(x0, .inr (6, [.ref q0, .int (jI ((ms : Nat) : Int)), .ref q1, .int (jI ((es : Nat) : Int))])), (q0, .inl (cG, 6, .inr (.inr (.inr (.inr f)))))] := hD
  have g8 := hpost
  refine W.widen (k := 2) (n := 12) (Nat.le_of_ble_eq_true rfl) (Nat.le_of_ble_eq_true rfl) ?_
  refine lv_iload_n hx hb dX6_begin_11 rfl (lv_at hl 4 rfl) ?_
  have ct12 := c_X6_checkField l hl9 D tys b2 (by first | assumption | exact r32_z _ | (unfold r32; omega))
  refine x_goV (vx_runS (As := [.int (jI b2)]) (rest := []) ⟨hx, hb, hml, hown, hts⟩ (ct12 _) (va_cwS 1 hts gX6_begin_X6_checkField rfl rfl rfl (by decide +kernel) ⟨(Nat.le_of_ble_eq_true rfl), (Nat.le_of_ble_eq_true rfl)⟩) (x_pre hK hX hZ hP hD hS hA (is := []) rfl rfl) rfl rfl hl.1 rfl (lv_room (Nat.le_of_ble_eq_true rfl)) dX6_begin_12 ⟨(Nat.le_of_ble_eq_true rfl), (Nat.le_of_ble_eq_true rfl)⟩) (fun _ => rfl) (fun _ => rfl) hP hD hS hA [] rfl rfl (fun E ce q9 u H locs hpx hP hD hS h7 h8 h9 => x_out htab hlocks h7 h8 h9 () hP hD hS hpx.1 (Nat.le_of_ble_eq_true rfl) (Nat.le_of_ble_eq_true rfl)) (fun u H locs hpost hP hD hS => ?_)
  have hP : va_P D vwCl [(x0, .inr (6, [.ref q0, .int (jI ((ms : Nat) : Int)), .ref q1, .int (jI ((es : Nat) : Int))])), (q0, .inl (cG, 6, .inr (.inr (.inr (.inr f)))))] H := hP
  have hD : va_D A [(x0, .inr (6, [.ref q0, .int (jI ((ms : Nat) : Int)), .ref q1, .int (jI ((es : Nat) : Int))])), (q0, .inl (cG, 6, .inr (.inr (.inr (.inr f)))))] := hD
  have g12 := hpost
  refine W.widen (k := 3) (n := 18) (Nat.le_of_ble_eq_true rfl) (Nat.le_of_ble_eq_true rfl) ?_
  refine lv_iload hx hb dX6_begin_15 (lv_at hl 5 rfl) ?_
  have ct17 := c_X6_checkField l hl9 D tys b3 (by first | assumption | exact r32_z _ | (unfold r32; omega))
  refine x_goV (vx_runS (As := [.int (jI b3)]) (rest := []) ⟨hx, hb, hml, hown, hts⟩ (ct17 _) (va_cwS 1 hts gX6_begin_X6_checkField rfl rfl rfl (by decide +kernel) ⟨(Nat.le_of_ble_eq_true rfl), (Nat.le_of_ble_eq_true rfl)⟩) (x_pre hK hX hZ hP hD hS hA (is := []) rfl rfl) rfl rfl hl.1 rfl (lv_room (Nat.le_of_ble_eq_true rfl)) dX6_begin_17 ⟨(Nat.le_of_ble_eq_true rfl), (Nat.le_of_ble_eq_true rfl)⟩) (fun _ => rfl) (fun _ => rfl) hP hD hS hA [] rfl rfl (fun E ce q9 u H locs hpx hP hD hS h7 h8 h9 => x_out htab hlocks h7 h8 h9 () hP hD hS hpx.1 (Nat.le_of_ble_eq_true rfl) (Nat.le_of_ble_eq_true rfl)) (fun u H locs hpost hP hD hS => ?_)
  have hP : va_P D vwCl [(x0, .inr (6, [.ref q0, .int (jI ((ms : Nat) : Int)), .ref q1, .int (jI ((es : Nat) : Int))])), (q0, .inl (cG, 6, .inr (.inr (.inr (.inr f)))))] H := hP
  have hD : va_D A [(x0, .inr (6, [.ref q0, .int (jI ((ms : Nat) : Int)), .ref q1, .int (jI ((es : Nat) : Int))])), (q0, .inl (cG, 6, .inr (.inr (.inr (.inr f)))))] := hD
  have g17 := hpost
  refine W.widen (k := 4) (n := 24) (Nat.le_of_ble_eq_true rfl) (Nat.le_of_ble_eq_true rfl) ?_
  refine lv_iload hx hb dX6_begin_20 (lv_at hl 6 rfl) ?_
  have ct22 := c_X6_checkField l hl9 D tys b4 (by first | assumption | exact r32_z _ | (unfold r32; omega))
  refine x_goV (vx_runS (As := [.int (jI b4)]) (rest := []) ⟨hx, hb, hml, hown, hts⟩ (ct22 _) (va_cwS 1 hts gX6_begin_X6_checkField rfl rfl rfl (by decide +kernel) ⟨(Nat.le_of_ble_eq_true rfl), (Nat.le_of_ble_eq_true rfl)⟩) (x_pre hK hX hZ hP hD hS hA (is := []) rfl rfl) rfl rfl hl.1 rfl (lv_room (Nat.le_of_ble_eq_true rfl)) dX6_begin_22 ⟨(Nat.le_of_ble_eq_true rfl), (Nat.le_of_ble_eq_true rfl)⟩) (fun _ => rfl) (fun _ => rfl) hP hD hS hA [] rfl rfl (fun E ce q9 u H locs hpx hP hD hS h7 h8 h9 => x_out htab hlocks h7 h8 h9 () hP hD hS hpx.1 (Nat.le_of_ble_eq_true rfl) (Nat.le_of_ble_eq_true rfl)) (fun u H locs hpost hP hD hS => ?_)
  have hP : va_P D vwCl [(x0, .inr (6, [.ref q0, .int (jI ((ms : Nat) : Int)), .ref q1, .int (jI ((es : Nat) : Int))])), (q0, .inl (cG, 6, .inr (.inr (.inr (.inr f)))))] H := hP
  have hD : va_D A [(x0, .inr (6, [.ref q0, .int (jI ((ms : Nat) : Int)), .ref q1, .int (jI ((es : Nat) : Int))])), (q0, .inl (cG, 6, .inr (.inr (.inr (.inr f)))))] := hD
  have g22 := hpost
  refine W.widen (k := 5) (n := 30) (Nat.le_of_ble_eq_true rfl) (Nat.le_of_ble_eq_true rfl) ?_
  refine lv_iload hx hb dX6_begin_25 (lv_at hl 7 rfl) ?_
  have ct27 := c_X6_checkField l hl9 D tys b5 (by first | assumption | exact r32_z _ | (unfold r32; omega))
  refine x_goV (vx_runS (As := [.int (jI b5)]) (rest := []) ⟨hx, hb, hml, hown, hts⟩ (ct27 _) (va_cwS 1 hts gX6_begin_X6_checkField rfl rfl rfl (by decide +kernel) ⟨(Nat.le_of_ble_eq_true rfl), (Nat.le_of_ble_eq_true rfl)⟩) (x_pre hK hX hZ hP hD hS hA (is := []) rfl rfl) rfl rfl hl.1 rfl (lv_room (Nat.le_of_ble_eq_true rfl)) dX6_begin_27 ⟨(Nat.le_of_ble_eq_true rfl), (Nat.le_of_ble_eq_true rfl)⟩) (fun _ => rfl) (fun _ => rfl) hP hD hS hA [] rfl rfl (fun E ce q9 u H locs hpx hP hD hS h7 h8 h9 => x_out htab hlocks h7 h8 h9 () hP hD hS hpx.1 (Nat.le_of_ble_eq_true rfl) (Nat.le_of_ble_eq_true rfl)) (fun u H locs hpost hP hD hS => ?_)
  have hP : va_P D vwCl [(x0, .inr (6, [.ref q0, .int (jI ((ms : Nat) : Int)), .ref q1, .int (jI ((es : Nat) : Int))])), (q0, .inl (cG, 6, .inr (.inr (.inr (.inr f)))))] H := hP
  have hD : va_D A [(x0, .inr (6, [.ref q0, .int (jI ((ms : Nat) : Int)), .ref q1, .int (jI ((es : Nat) : Int))])), (q0, .inl (cG, 6, .inr (.inr (.inr (.inr f)))))] := hD
  exact absurd h8 (by rw [g8, g12, g17, g22, hpost]; exact Bool.noConfusion)

set_option maxHeartbeats 8000000 in
set_option maxRecDepth 100000 in
/--  -/
theorem c_X6_begin3 (l : Launch) (hl9 : l.stackTraces = false) (D : va_G) (tys : List (ClassId × FieldType)) {cI cG : ClassId} (htI : tys[0]? = some (cI, .int)) (htG : tys[6]? = some (cG, .array .int)) (x0 q0 q1 ms es : Nat) (f : Nat → Option Nat) (hms : ms ≤ 6) (hes : es ≤ 6) (mo : Nat) (hmo : mo < ms) (rm : Nat) (hf : f mo = some rm) (b : S5) (h6 : es = 6) : CtG (SX := Unit) l D tys yX6_begin wsX6_begin 8 123 228 867 [.ref x0, .int (jI ((mo : Nat) : Int)), .int (vI b.1), .int (vI b.2.1), .int (vI b.2.2.1), .int (vI b.2.2.2.1), .int (vI b.2.2.2.2)] [(x0, .inr (6, [.ref q0, .int (jI ((ms : Nat) : Int)), .ref q1, .int (jI ((es : Nat) : Int))])), (q0, .inl (cG, 6, .inr (.inr (.inr (.inr f)))))] (fun A => ENI (S := Unit) D A (fun _ _ => False) (fun _ => [(x0, .inr (6, [.ref q0, .int (jI ((ms : Nat) : Int)), .ref q1, .int (jI ((es : Nat) : Int))])), (q0, .inl (cG, 6, .inr (.inr (.inr (.inr f)))))]) (fun _ => [])) (fun E (_ : Unit) => E = xISE) (fun _ => [(x0, .inr (6, [.ref q0, .int (jI ((ms : Nat) : Int)), .ref q1, .int (jI ((es : Nat) : Int))])), (q0, .inl (cG, 6, .inr (.inr (.inr (.inr f)))))]) := by
  refine CtG.of (cc := cX6_begin) (maxL := 9) (by decide +kernel) rfl (Nat.le_of_ble_eq_true rfl) ?_
  intro p e s m below meth c A ls hcx htab hK hX hZ hP hD hA hl
  obtain ⟨hx, hb, hr, hml, hown, hts, hlocks⟩ := hcx
  have hO := hX.1
  have hS : va_S A s.heap s.heap [] := va_S.rf
  have hown : s.vm.findClass RX6 = some m.cls := hown
  have hl : lv_has ls 9 [(0, .ref x0), (1, .int (jI ((mo : Nat) : Int))), (2, .int (vI b.1)), (3, .int (vI b.2.1)), (4, .int (vI b.2.2.1)), (5, .int (vI b.2.2.2.1)), (6, .int (vI b.2.2.2.2))] := hl
  have f43 := hts (.fieldLink RX6 43 "FieldFilter" "estimatorCount" "I") (by decide +kernel)
  have iX6 : ∀ w ∈ u_ws RX6 TX6 4, w ∈ wsX6_begin := by decide +kernel
  refine lv_aload_n hx hb dX6_begin_0 rfl (lv_at hl 0 rfl) ?_
  refine lv_iload_n hx hb dX6_begin_1 rfl (lv_at hl 1 rfl) ?_
  have ct2 := c_X6_modelNumbered0 l hl9 D tys htG x0 q0 q1 ms es f (by omega) mo rm hmo hf
  refine x_goR (vx_runV (As := [.int (jI ((mo : Nat) : Int))]) (rest := []) ⟨hx, hb, hml, hown, hts⟩ (ct2 _) (cwV 1 hts gX6_begin_X6_modelNumbered rfl rfl rfl (by decide +kernel) ⟨(Nat.le_of_ble_eq_true rfl), (Nat.le_of_ble_eq_true rfl)⟩) ⟨(x_pre hK hX hZ hP hD hS hA (is := [0, 1]) rfl rfl).1, va_recv hK.1 hP (ci := 6) (q0 := 0) rfl rfl, (x_pre hK hX hZ hP hD hS hA (is := [0, 1]) rfl rfl).2⟩ rfl rfl hl.1 rfl (lv_room (Nat.le_of_ble_eq_true rfl)) dX6_begin_2 ⟨(Nat.le_of_ble_eq_true rfl), (Nat.le_of_ble_eq_true rfl)⟩) (fun _ => rfl) rfl hP hD hS hA [0, 1] rfl rfl (fun E ce q9 u H locs hpx hP hD hS h7 h8 h9 => hpx.elim) (fun H locs hP hD hS => ?_)
  have hP : va_P D vwCl [(x0, .inr (6, [.ref q0, .int (jI ((ms : Nat) : Int)), .ref q1, .int (jI ((es : Nat) : Int))])), (q0, .inl (cG, 6, .inr (.inr (.inr (.inr f)))))] H := hP
  have hD : va_D A [(x0, .inr (6, [.ref q0, .int (jI ((ms : Nat) : Int)), .ref q1, .int (jI ((es : Nat) : Int))])), (q0, .inl (cG, 6, .inr (.inr (.inr (.inr f)))))] := hD
  refine W.widen (k := 1) (n := 6) (Nat.le_of_ble_eq_true rfl) (Nat.le_of_ble_eq_true rfl) ?_
  refine lv_astore (lv' := [(7, .ref rm), (0, .ref x0), (1, .int (jI ((mo : Nat) : Int))), (2, .int (vI b.1)), (3, .int (vI b.2.1)), (4, .int (vI b.2.2.1)), (5, .int (vI b.2.2.2.1)), (6, .int (vI b.2.2.2.2))]) hx hb dX6_begin_5 hl (by decide) rfl (fun ls hl => ?_)
  refine lv_iload_n hx hb dX6_begin_7 rfl (lv_at hl 3 rfl) ?_
  have ct8 := c_X6_checkField l hl9 D tys (zv b.1) (by first | assumption | exact r32_z _ | (unfold r32; omega))
  refine x_goV (vx_runS (As := [.int (vI b.1)]) (rest := []) ⟨hx, hb, hml, hown, hts⟩ (ct8 _) (va_cwS 1 hts gX6_begin_X6_checkField rfl rfl rfl (by decide +kernel) ⟨(Nat.le_of_ble_eq_true rfl), (Nat.le_of_ble_eq_true rfl)⟩) (x_pre hK hX hZ hP hD hS hA (is := []) rfl rfl) rfl rfl hl.1 rfl (lv_room (Nat.le_of_ble_eq_true rfl)) dX6_begin_8 ⟨(Nat.le_of_ble_eq_true rfl), (Nat.le_of_ble_eq_true rfl)⟩) (fun _ => rfl) (fun _ => rfl) hP hD hS hA [] rfl rfl (fun E ce q9 u H locs hpx hP hD hS h7 h8 h9 => absurd hpx.2 (by rw [inB_t (zv_0 _) (zv_le _)]; exact Bool.noConfusion)) (fun u H locs hpost hP hD hS => ?_)
  have hP : va_P D vwCl [(x0, .inr (6, [.ref q0, .int (jI ((ms : Nat) : Int)), .ref q1, .int (jI ((es : Nat) : Int))])), (q0, .inl (cG, 6, .inr (.inr (.inr (.inr f)))))] H := hP
  have hD : va_D A [(x0, .inr (6, [.ref q0, .int (jI ((ms : Nat) : Int)), .ref q1, .int (jI ((es : Nat) : Int))])), (q0, .inl (cG, 6, .inr (.inr (.inr (.inr f)))))] := hD
  refine W.widen (k := 2) (n := 12) (Nat.le_of_ble_eq_true rfl) (Nat.le_of_ble_eq_true rfl) ?_
  refine lv_iload_n hx hb dX6_begin_11 rfl (lv_at hl 4 rfl) ?_
  have ct12 := c_X6_checkField l hl9 D tys (zv b.2.1) (by first | assumption | exact r32_z _ | (unfold r32; omega))
  refine x_goV (vx_runS (As := [.int (vI b.2.1)]) (rest := []) ⟨hx, hb, hml, hown, hts⟩ (ct12 _) (va_cwS 1 hts gX6_begin_X6_checkField rfl rfl rfl (by decide +kernel) ⟨(Nat.le_of_ble_eq_true rfl), (Nat.le_of_ble_eq_true rfl)⟩) (x_pre hK hX hZ hP hD hS hA (is := []) rfl rfl) rfl rfl hl.1 rfl (lv_room (Nat.le_of_ble_eq_true rfl)) dX6_begin_12 ⟨(Nat.le_of_ble_eq_true rfl), (Nat.le_of_ble_eq_true rfl)⟩) (fun _ => rfl) (fun _ => rfl) hP hD hS hA [] rfl rfl (fun E ce q9 u H locs hpx hP hD hS h7 h8 h9 => absurd hpx.2 (by rw [inB_t (zv_0 _) (zv_le _)]; exact Bool.noConfusion)) (fun u H locs hpost hP hD hS => ?_)
  have hP : va_P D vwCl [(x0, .inr (6, [.ref q0, .int (jI ((ms : Nat) : Int)), .ref q1, .int (jI ((es : Nat) : Int))])), (q0, .inl (cG, 6, .inr (.inr (.inr (.inr f)))))] H := hP
  have hD : va_D A [(x0, .inr (6, [.ref q0, .int (jI ((ms : Nat) : Int)), .ref q1, .int (jI ((es : Nat) : Int))])), (q0, .inl (cG, 6, .inr (.inr (.inr (.inr f)))))] := hD
  refine W.widen (k := 3) (n := 18) (Nat.le_of_ble_eq_true rfl) (Nat.le_of_ble_eq_true rfl) ?_
  refine lv_iload hx hb dX6_begin_15 (lv_at hl 5 rfl) ?_
  have ct17 := c_X6_checkField l hl9 D tys (zv b.2.2.1) (by first | assumption | exact r32_z _ | (unfold r32; omega))
  refine x_goV (vx_runS (As := [.int (vI b.2.2.1)]) (rest := []) ⟨hx, hb, hml, hown, hts⟩ (ct17 _) (va_cwS 1 hts gX6_begin_X6_checkField rfl rfl rfl (by decide +kernel) ⟨(Nat.le_of_ble_eq_true rfl), (Nat.le_of_ble_eq_true rfl)⟩) (x_pre hK hX hZ hP hD hS hA (is := []) rfl rfl) rfl rfl hl.1 rfl (lv_room (Nat.le_of_ble_eq_true rfl)) dX6_begin_17 ⟨(Nat.le_of_ble_eq_true rfl), (Nat.le_of_ble_eq_true rfl)⟩) (fun _ => rfl) (fun _ => rfl) hP hD hS hA [] rfl rfl (fun E ce q9 u H locs hpx hP hD hS h7 h8 h9 => absurd hpx.2 (by rw [inB_t (zv_0 _) (zv_le _)]; exact Bool.noConfusion)) (fun u H locs hpost hP hD hS => ?_)
  have hP : va_P D vwCl [(x0, .inr (6, [.ref q0, .int (jI ((ms : Nat) : Int)), .ref q1, .int (jI ((es : Nat) : Int))])), (q0, .inl (cG, 6, .inr (.inr (.inr (.inr f)))))] H := hP
  have hD : va_D A [(x0, .inr (6, [.ref q0, .int (jI ((ms : Nat) : Int)), .ref q1, .int (jI ((es : Nat) : Int))])), (q0, .inl (cG, 6, .inr (.inr (.inr (.inr f)))))] := hD
  refine W.widen (k := 4) (n := 24) (Nat.le_of_ble_eq_true rfl) (Nat.le_of_ble_eq_true rfl) ?_
  refine lv_iload hx hb dX6_begin_20 (lv_at hl 6 rfl) ?_
  have ct22 := c_X6_checkField l hl9 D tys (zv b.2.2.2.1) (by first | assumption | exact r32_z _ | (unfold r32; omega))
  refine x_goV (vx_runS (As := [.int (vI b.2.2.2.1)]) (rest := []) ⟨hx, hb, hml, hown, hts⟩ (ct22 _) (va_cwS 1 hts gX6_begin_X6_checkField rfl rfl rfl (by decide +kernel) ⟨(Nat.le_of_ble_eq_true rfl), (Nat.le_of_ble_eq_true rfl)⟩) (x_pre hK hX hZ hP hD hS hA (is := []) rfl rfl) rfl rfl hl.1 rfl (lv_room (Nat.le_of_ble_eq_true rfl)) dX6_begin_22 ⟨(Nat.le_of_ble_eq_true rfl), (Nat.le_of_ble_eq_true rfl)⟩) (fun _ => rfl) (fun _ => rfl) hP hD hS hA [] rfl rfl (fun E ce q9 u H locs hpx hP hD hS h7 h8 h9 => absurd hpx.2 (by rw [inB_t (zv_0 _) (zv_le _)]; exact Bool.noConfusion)) (fun u H locs hpost hP hD hS => ?_)
  have hP : va_P D vwCl [(x0, .inr (6, [.ref q0, .int (jI ((ms : Nat) : Int)), .ref q1, .int (jI ((es : Nat) : Int))])), (q0, .inl (cG, 6, .inr (.inr (.inr (.inr f)))))] H := hP
  have hD : va_D A [(x0, .inr (6, [.ref q0, .int (jI ((ms : Nat) : Int)), .ref q1, .int (jI ((es : Nat) : Int))])), (q0, .inl (cG, 6, .inr (.inr (.inr (.inr f)))))] := hD
  refine W.widen (k := 5) (n := 30) (Nat.le_of_ble_eq_true rfl) (Nat.le_of_ble_eq_true rfl) ?_
  refine lv_iload hx hb dX6_begin_25 (lv_at hl 7 rfl) ?_
  have ct27 := c_X6_checkField l hl9 D tys (zv b.2.2.2.2) (by first | assumption | exact r32_z _ | (unfold r32; omega))
  refine x_goV (vx_runS (As := [.int (vI b.2.2.2.2)]) (rest := []) ⟨hx, hb, hml, hown, hts⟩ (ct27 _) (va_cwS 1 hts gX6_begin_X6_checkField rfl rfl rfl (by decide +kernel) ⟨(Nat.le_of_ble_eq_true rfl), (Nat.le_of_ble_eq_true rfl)⟩) (x_pre hK hX hZ hP hD hS hA (is := []) rfl rfl) rfl rfl hl.1 rfl (lv_room (Nat.le_of_ble_eq_true rfl)) dX6_begin_27 ⟨(Nat.le_of_ble_eq_true rfl), (Nat.le_of_ble_eq_true rfl)⟩) (fun _ => rfl) (fun _ => rfl) hP hD hS hA [] rfl rfl (fun E ce q9 u H locs hpx hP hD hS h7 h8 h9 => absurd hpx.2 (by rw [inB_t (zv_0 _) (zv_le _)]; exact Bool.noConfusion)) (fun u H locs hpost hP hD hS => ?_)
  have hP : va_P D vwCl [(x0, .inr (6, [.ref q0, .int (jI ((ms : Nat) : Int)), .ref q1, .int (jI ((es : Nat) : Int))])), (q0, .inl (cG, 6, .inr (.inr (.inr (.inr f)))))] H := hP
  have hD : va_D A [(x0, .inr (6, [.ref q0, .int (jI ((ms : Nat) : Int)), .ref q1, .int (jI ((es : Nat) : Int))])), (q0, .inl (cG, 6, .inr (.inr (.inr (.inr f)))))] := hD
  refine W.widen (k := 6) (n := 36) (Nat.le_of_ble_eq_true rfl) (Nat.le_of_ble_eq_true rfl) ?_
  refine lv_aload_n hx hb dX6_begin_30 rfl (lv_at hl 1 rfl) ?_
  refine va_get (D := D) (ci := 6) (v := .int (jI ((es : Nat) : Int))) (C := RX6) (T := TX6) (N := 4) hx hb hts iX6 hown hK.1 hP 0 rfl rfl 3 (by decide) f43 (fun _ h9 => h9) rfl dX6_begin_31 ?_
  refine n_bipush hx hb dX6_begin_34 (by decide) ?_
  refine n_icmp_lt (tgt := 49) hx hb (by unfold r32; omega) (by unfold r32; omega) dX6_begin_36 (by decide) (fun h36 => False.elim (by omega)) (fun h36 => ?_)
  exact x_thr (cls := xISE) (text := "there are 6 estimators") hx hb hl9 hown (by decide +kernel) (hts (.classLink RX6 24 xISE) (by decide +kernel)) (hts (.initialized xISE) (by decide +kernel)) (by decide) hX (fun w h => hts w (List.mem_cons_of_mem _ (List.mem_append_left _ (List.mem_append_left _ (List.mem_append_right _ h))))) xb_ISE xg_ISE hZ hS (hl.1.trans hml.symm) dX6_begin_39 dX6_begin_42 dX6_begin_43 dX6_begin_45 dX6_begin_48 htab hlocks (Nat.le_of_ble_eq_true rfl) (Nat.le_of_ble_eq_true rfl) (Nat.le_of_ble_eq_true rfl) (Nat.le_of_ble_eq_true rfl) () hP hD rfl (Nat.le_of_ble_eq_true rfl) (Nat.le_of_ble_eq_true rfl)

set_option maxHeartbeats 8000000 in
set_option maxRecDepth 100000 in
/--  -/
theorem c_X6_begin0 (l : Launch) (hl9 : l.stackTraces = false) (D : va_G) (tys : List (ClassId × FieldType)) {cI cG : ClassId} (htI : tys[0]? = some (cI, .int)) (htG : tys[6]? = some (cG, .array .int)) (x0 q0 q1 ms es : Nat) (f : Nat → Option Nat) (hms : ms ≤ 6) (hes : es ≤ 6) (mo : Nat) (hmo : mo < ms) (rm : Nat) (hf : f mo = some rm) {cE : ClassId} (htE : tys[3]? = some (cE, .object RX1)) {cM cS : ClassId} (htM : tys[4]? = some (cM, .object RX2)) (htS : tys[5]? = some (cS, .object RX4)) (f2 : Nat → Option Nat) (g : Nat → Zp) (b : S5) (h6 : es < 6) : CtG (SX := Unit) l D tys yX6_begin wsX6_begin 8 139 228 867 [.ref x0, .int (jI ((mo : Nat) : Int)), .int (vI b.1), .int (vI b.2.1), .int (vI b.2.2.1), .int (vI b.2.2.2.1), .int (vI b.2.2.2.2)] [(x0, .inr (6, [.ref q0, .int (jI ((ms : Nat) : Int)), .ref q1, .int (jI ((es : Nat) : Int))])), (q0, .inl (cG, 6, .inr (.inr (.inr (.inr f))))), (rm, .inl (cI, 7, .inl (fun i => vI (g i)))), (q1, .inl (cE, 6, .inr (.inr (.inr (.inr f2)))))] (fun A => ENI (S := (Nat → Nat) × (Nat → Nat → Zp) × (Nat → Bool) × (Nat → S5) × (Nat → S5)) D A (fun (r : Int32) (u : (Nat → Nat) × (Nat → Nat → Zp) × (Nat → Bool) × (Nat → S5) × (Nat → S5)) => r = jI ((es : Nat) : Int) ∧ u.2.2.2.1 0 = b ∧ SEtl g b zM zB 0 1 u.2.1 u.2.2.1 u.2.2.2.1 u.2.2.2.2) (fun u => [(x0, .inr (6, [.ref q0, .int (jI ((ms : Nat) : Int)), .ref q1, .int (jI ((es + 1 : Nat) : Int))])), (q0, .inl (cG, 6, .inr (.inr (.inr (.inr f))))), (rm, .inl (cI, 7, .inl (fun i => vI (g i)))), (q1, .inl (cE, 6, .inr (.inr (.inr (.inr (va_up f2 es (some (u.1 0))))))))]) (fun u => (estL cM cS u.1 0 0 10006 g zM u.2.1 zB u.2.2.1 u.2.2.2.1 u.2.2.2.2))) (fun E (_ : Unit) => False) (fun _ => [(x0, .inr (6, [.ref q0, .int (jI ((ms : Nat) : Int)), .ref q1, .int (jI ((es : Nat) : Int))])), (q0, .inl (cG, 6, .inr (.inr (.inr (.inr f))))), (rm, .inl (cI, 7, .inl (fun i => vI (g i)))), (q1, .inl (cE, 6, .inr (.inr (.inr (.inr f2)))))]) := by
  refine CtG.of (cc := cX6_begin) (maxL := 9) (by decide +kernel) rfl (Nat.le_of_ble_eq_true rfl) ?_
  intro p e s m below meth c A ls hcx htab hK hX hZ hP hD hA hl
  obtain ⟨hx, hb, hr, hml, hown, hts, hlocks⟩ := hcx
  have hO := hX.1
  have hS : va_S A s.heap s.heap [] := va_S.rf
  have hown : s.vm.findClass RX6 = some m.cls := hown
  have hl : lv_has ls 9 [(0, .ref x0), (1, .int (jI ((mo : Nat) : Int))), (2, .int (vI b.1)), (3, .int (vI b.2.1)), (4, .int (vI b.2.2.1)), (5, .int (vI b.2.2.2.1)), (6, .int (vI b.2.2.2.2))] := hl
  have f43 := hts (.fieldLink RX6 43 "FieldFilter" "estimatorCount" "I") (by decide +kernel)
  have iX6 : ∀ w ∈ u_ws RX6 TX6 4, w ∈ wsX6_begin := by decide +kernel
  have iX1 : ∀ w ∈ u_ws RX1 TX1 7, w ∈ wsX6_begin := by decide +kernel
  have f16 := hts (.fieldLink RX6 16 "FieldFilter" "estimators" "[LFieldFilter$Estimator;") (by decide +kernel)
  refine lv_aload_n hx hb dX6_begin_0 rfl (lv_at hl 0 rfl) ?_
  refine lv_iload_n hx hb dX6_begin_1 rfl (lv_at hl 1 rfl) ?_
  have ct2 := c_X6_modelNumbered0 l hl9 D tys htG x0 q0 q1 ms es f (by omega) mo rm hmo hf
  refine x_goR (vx_runV (As := [.int (jI ((mo : Nat) : Int))]) (rest := []) ⟨hx, hb, hml, hown, hts⟩ (ct2 _) (cwV 1 hts gX6_begin_X6_modelNumbered rfl rfl rfl (by decide +kernel) ⟨(Nat.le_of_ble_eq_true rfl), (Nat.le_of_ble_eq_true rfl)⟩) ⟨(x_pre hK hX hZ hP hD hS hA (is := [0, 1]) rfl rfl).1, va_recv hK.1 hP (ci := 6) (q0 := 0) rfl rfl, (x_pre hK hX hZ hP hD hS hA (is := [0, 1]) rfl rfl).2⟩ rfl rfl hl.1 rfl (lv_room (Nat.le_of_ble_eq_true rfl)) dX6_begin_2 ⟨(Nat.le_of_ble_eq_true rfl), (Nat.le_of_ble_eq_true rfl)⟩) (fun _ => rfl) rfl hP hD hS hA [0, 1] rfl rfl (fun E ce q9 u H locs hpx hP hD hS h7 h8 h9 => hpx.elim) (fun H locs hP hD hS => ?_)
  have hP : va_P D vwCl [(x0, .inr (6, [.ref q0, .int (jI ((ms : Nat) : Int)), .ref q1, .int (jI ((es : Nat) : Int))])), (q0, .inl (cG, 6, .inr (.inr (.inr (.inr f))))), (rm, .inl (cI, 7, .inl (fun i => vI (g i)))), (q1, .inl (cE, 6, .inr (.inr (.inr (.inr f2)))))] H := hP
  have hD : va_D A [(x0, .inr (6, [.ref q0, .int (jI ((ms : Nat) : Int)), .ref q1, .int (jI ((es : Nat) : Int))])), (q0, .inl (cG, 6, .inr (.inr (.inr (.inr f))))), (rm, .inl (cI, 7, .inl (fun i => vI (g i)))), (q1, .inl (cE, 6, .inr (.inr (.inr (.inr f2)))))] := hD
  refine W.widen (k := 1) (n := 6) (Nat.le_of_ble_eq_true rfl) (Nat.le_of_ble_eq_true rfl) ?_
  refine lv_astore (lv' := [(7, .ref rm), (0, .ref x0), (1, .int (jI ((mo : Nat) : Int))), (2, .int (vI b.1)), (3, .int (vI b.2.1)), (4, .int (vI b.2.2.1)), (5, .int (vI b.2.2.2.1)), (6, .int (vI b.2.2.2.2))]) hx hb dX6_begin_5 hl (by decide) rfl (fun ls hl => ?_)
  refine lv_iload_n hx hb dX6_begin_7 rfl (lv_at hl 3 rfl) ?_
  have ct8 := c_X6_checkField l hl9 D tys (zv b.1) (by first | assumption | exact r32_z _ | (unfold r32; omega))
  refine x_goV (vx_runS (As := [.int (vI b.1)]) (rest := []) ⟨hx, hb, hml, hown, hts⟩ (ct8 _) (va_cwS 1 hts gX6_begin_X6_checkField rfl rfl rfl (by decide +kernel) ⟨(Nat.le_of_ble_eq_true rfl), (Nat.le_of_ble_eq_true rfl)⟩) (x_pre hK hX hZ hP hD hS hA (is := []) rfl rfl) rfl rfl hl.1 rfl (lv_room (Nat.le_of_ble_eq_true rfl)) dX6_begin_8 ⟨(Nat.le_of_ble_eq_true rfl), (Nat.le_of_ble_eq_true rfl)⟩) (fun _ => rfl) (fun _ => rfl) hP hD hS hA [] rfl rfl (fun E ce q9 u H locs hpx hP hD hS h7 h8 h9 => absurd hpx.2 (by rw [inB_t (zv_0 _) (zv_le _)]; exact Bool.noConfusion)) (fun u H locs hpost hP hD hS => ?_)
  have hP : va_P D vwCl [(x0, .inr (6, [.ref q0, .int (jI ((ms : Nat) : Int)), .ref q1, .int (jI ((es : Nat) : Int))])), (q0, .inl (cG, 6, .inr (.inr (.inr (.inr f))))), (rm, .inl (cI, 7, .inl (fun i => vI (g i)))), (q1, .inl (cE, 6, .inr (.inr (.inr (.inr f2)))))] H := hP
  have hD : va_D A [(x0, .inr (6, [.ref q0, .int (jI ((ms : Nat) : Int)), .ref q1, .int (jI ((es : Nat) : Int))])), (q0, .inl (cG, 6, .inr (.inr (.inr (.inr f))))), (rm, .inl (cI, 7, .inl (fun i => vI (g i)))), (q1, .inl (cE, 6, .inr (.inr (.inr (.inr f2)))))] := hD
  refine W.widen (k := 2) (n := 12) (Nat.le_of_ble_eq_true rfl) (Nat.le_of_ble_eq_true rfl) ?_
  refine lv_iload_n hx hb dX6_begin_11 rfl (lv_at hl 4 rfl) ?_
  have ct12 := c_X6_checkField l hl9 D tys (zv b.2.1) (by first | assumption | exact r32_z _ | (unfold r32; omega))
  refine x_goV (vx_runS (As := [.int (vI b.2.1)]) (rest := []) ⟨hx, hb, hml, hown, hts⟩ (ct12 _) (va_cwS 1 hts gX6_begin_X6_checkField rfl rfl rfl (by decide +kernel) ⟨(Nat.le_of_ble_eq_true rfl), (Nat.le_of_ble_eq_true rfl)⟩) (x_pre hK hX hZ hP hD hS hA (is := []) rfl rfl) rfl rfl hl.1 rfl (lv_room (Nat.le_of_ble_eq_true rfl)) dX6_begin_12 ⟨(Nat.le_of_ble_eq_true rfl), (Nat.le_of_ble_eq_true rfl)⟩) (fun _ => rfl) (fun _ => rfl) hP hD hS hA [] rfl rfl (fun E ce q9 u H locs hpx hP hD hS h7 h8 h9 => absurd hpx.2 (by rw [inB_t (zv_0 _) (zv_le _)]; exact Bool.noConfusion)) (fun u H locs hpost hP hD hS => ?_)
  have hP : va_P D vwCl [(x0, .inr (6, [.ref q0, .int (jI ((ms : Nat) : Int)), .ref q1, .int (jI ((es : Nat) : Int))])), (q0, .inl (cG, 6, .inr (.inr (.inr (.inr f))))), (rm, .inl (cI, 7, .inl (fun i => vI (g i)))), (q1, .inl (cE, 6, .inr (.inr (.inr (.inr f2)))))] H := hP
  have hD : va_D A [(x0, .inr (6, [.ref q0, .int (jI ((ms : Nat) : Int)), .ref q1, .int (jI ((es : Nat) : Int))])), (q0, .inl (cG, 6, .inr (.inr (.inr (.inr f))))), (rm, .inl (cI, 7, .inl (fun i => vI (g i)))), (q1, .inl (cE, 6, .inr (.inr (.inr (.inr f2)))))] := hD
  refine W.widen (k := 3) (n := 18) (Nat.le_of_ble_eq_true rfl) (Nat.le_of_ble_eq_true rfl) ?_
  refine lv_iload hx hb dX6_begin_15 (lv_at hl 5 rfl) ?_
  have ct17 := c_X6_checkField l hl9 D tys (zv b.2.2.1) (by first | assumption | exact r32_z _ | (unfold r32; omega))
  refine x_goV (vx_runS (As := [.int (vI b.2.2.1)]) (rest := []) ⟨hx, hb, hml, hown, hts⟩ (ct17 _) (va_cwS 1 hts gX6_begin_X6_checkField rfl rfl rfl (by decide +kernel) ⟨(Nat.le_of_ble_eq_true rfl), (Nat.le_of_ble_eq_true rfl)⟩) (x_pre hK hX hZ hP hD hS hA (is := []) rfl rfl) rfl rfl hl.1 rfl (lv_room (Nat.le_of_ble_eq_true rfl)) dX6_begin_17 ⟨(Nat.le_of_ble_eq_true rfl), (Nat.le_of_ble_eq_true rfl)⟩) (fun _ => rfl) (fun _ => rfl) hP hD hS hA [] rfl rfl (fun E ce q9 u H locs hpx hP hD hS h7 h8 h9 => absurd hpx.2 (by rw [inB_t (zv_0 _) (zv_le _)]; exact Bool.noConfusion)) (fun u H locs hpost hP hD hS => ?_)
  have hP : va_P D vwCl [(x0, .inr (6, [.ref q0, .int (jI ((ms : Nat) : Int)), .ref q1, .int (jI ((es : Nat) : Int))])), (q0, .inl (cG, 6, .inr (.inr (.inr (.inr f))))), (rm, .inl (cI, 7, .inl (fun i => vI (g i)))), (q1, .inl (cE, 6, .inr (.inr (.inr (.inr f2)))))] H := hP
  have hD : va_D A [(x0, .inr (6, [.ref q0, .int (jI ((ms : Nat) : Int)), .ref q1, .int (jI ((es : Nat) : Int))])), (q0, .inl (cG, 6, .inr (.inr (.inr (.inr f))))), (rm, .inl (cI, 7, .inl (fun i => vI (g i)))), (q1, .inl (cE, 6, .inr (.inr (.inr (.inr f2)))))] := hD
  refine W.widen (k := 4) (n := 24) (Nat.le_of_ble_eq_true rfl) (Nat.le_of_ble_eq_true rfl) ?_
  refine lv_iload hx hb dX6_begin_20 (lv_at hl 6 rfl) ?_
  have ct22 := c_X6_checkField l hl9 D tys (zv b.2.2.2.1) (by first | assumption | exact r32_z _ | (unfold r32; omega))
  refine x_goV (vx_runS (As := [.int (vI b.2.2.2.1)]) (rest := []) ⟨hx, hb, hml, hown, hts⟩ (ct22 _) (va_cwS 1 hts gX6_begin_X6_checkField rfl rfl rfl (by decide +kernel) ⟨(Nat.le_of_ble_eq_true rfl), (Nat.le_of_ble_eq_true rfl)⟩) (x_pre hK hX hZ hP hD hS hA (is := []) rfl rfl) rfl rfl hl.1 rfl (lv_room (Nat.le_of_ble_eq_true rfl)) dX6_begin_22 ⟨(Nat.le_of_ble_eq_true rfl), (Nat.le_of_ble_eq_true rfl)⟩) (fun _ => rfl) (fun _ => rfl) hP hD hS hA [] rfl rfl (fun E ce q9 u H locs hpx hP hD hS h7 h8 h9 => absurd hpx.2 (by rw [inB_t (zv_0 _) (zv_le _)]; exact Bool.noConfusion)) (fun u H locs hpost hP hD hS => ?_)
  have hP : va_P D vwCl [(x0, .inr (6, [.ref q0, .int (jI ((ms : Nat) : Int)), .ref q1, .int (jI ((es : Nat) : Int))])), (q0, .inl (cG, 6, .inr (.inr (.inr (.inr f))))), (rm, .inl (cI, 7, .inl (fun i => vI (g i)))), (q1, .inl (cE, 6, .inr (.inr (.inr (.inr f2)))))] H := hP
  have hD : va_D A [(x0, .inr (6, [.ref q0, .int (jI ((ms : Nat) : Int)), .ref q1, .int (jI ((es : Nat) : Int))])), (q0, .inl (cG, 6, .inr (.inr (.inr (.inr f))))), (rm, .inl (cI, 7, .inl (fun i => vI (g i)))), (q1, .inl (cE, 6, .inr (.inr (.inr (.inr f2)))))] := hD
  refine W.widen (k := 5) (n := 30) (Nat.le_of_ble_eq_true rfl) (Nat.le_of_ble_eq_true rfl) ?_
  refine lv_iload hx hb dX6_begin_25 (lv_at hl 7 rfl) ?_
  have ct27 := c_X6_checkField l hl9 D tys (zv b.2.2.2.2) (by first | assumption | exact r32_z _ | (unfold r32; omega))
  refine x_goV (vx_runS (As := [.int (vI b.2.2.2.2)]) (rest := []) ⟨hx, hb, hml, hown, hts⟩ (ct27 _) (va_cwS 1 hts gX6_begin_X6_checkField rfl rfl rfl (by decide +kernel) ⟨(Nat.le_of_ble_eq_true rfl), (Nat.le_of_ble_eq_true rfl)⟩) (x_pre hK hX hZ hP hD hS hA (is := []) rfl rfl) rfl rfl hl.1 rfl (lv_room (Nat.le_of_ble_eq_true rfl)) dX6_begin_27 ⟨(Nat.le_of_ble_eq_true rfl), (Nat.le_of_ble_eq_true rfl)⟩) (fun _ => rfl) (fun _ => rfl) hP hD hS hA [] rfl rfl (fun E ce q9 u H locs hpx hP hD hS h7 h8 h9 => absurd hpx.2 (by rw [inB_t (zv_0 _) (zv_le _)]; exact Bool.noConfusion)) (fun u H locs hpost hP hD hS => ?_)
  have hP : va_P D vwCl [(x0, .inr (6, [.ref q0, .int (jI ((ms : Nat) : Int)), .ref q1, .int (jI ((es : Nat) : Int))])), (q0, .inl (cG, 6, .inr (.inr (.inr (.inr f))))), (rm, .inl (cI, 7, .inl (fun i => vI (g i)))), (q1, .inl (cE, 6, .inr (.inr (.inr (.inr f2)))))] H := hP
  have hD : va_D A [(x0, .inr (6, [.ref q0, .int (jI ((ms : Nat) : Int)), .ref q1, .int (jI ((es : Nat) : Int))])), (q0, .inl (cG, 6, .inr (.inr (.inr (.inr f))))), (rm, .inl (cI, 7, .inl (fun i => vI (g i)))), (q1, .inl (cE, 6, .inr (.inr (.inr (.inr f2)))))] := hD
  refine W.widen (k := 6) (n := 36) (Nat.le_of_ble_eq_true rfl) (Nat.le_of_ble_eq_true rfl) ?_
  refine lv_aload_n hx hb dX6_begin_30 rfl (lv_at hl 1 rfl) ?_
  refine va_get (D := D) (ci := 6) (v := .int (jI ((es : Nat) : Int))) (C := RX6) (T := TX6) (N := 4) hx hb hts iX6 hown hK.1 hP 0 rfl rfl 3 (by decide) f43 (fun _ h9 => h9) rfl dX6_begin_31 ?_
  refine n_bipush hx hb dX6_begin_34 (by decide) ?_
  refine n_icmp_lt (tgt := 49) hx hb (by unfold r32; omega) (by unfold r32; omega) dX6_begin_36 (by decide) (fun h36 => ?_) (fun h36 => False.elim (by omega))
  refine k_new (ci := 1) (fs := [.null, .null, .int (jI 0), .int (jI 0), .int (jI 0), .null, .null]) (C := RX1) (T := TX1) (N := 7) hx hb hts iX1 tyX1 tyX1_ok hown (hts (.classLink RX6 14 RX1) (by decide +kernel)) (hts (.instantiable RX1 7) (by decide +kernel)) (hts (.initialized RX1) (by decide +kernel)) hK hP hD hS hA rfl (fun j hj => match j, hj with | 0, _ => rfl | 1, _ => rfl | 2, _ => rfl | 3, _ => rfl | 4, _ => rfl | 5, _ => rfl | 6, _ => rfl | _ + 7, h => absurd h (by omega)) (Nat.le_of_ble_eq_true rfl) (Nat.le_of_ble_eq_true rfl) dX6_begin_49 (fun e0 H hP hD hS => ?_)
  have hP : va_P D vwCl [(e0, .inr (1, [.null, .null, .int (jI 0), .int (jI 0), .int (jI 0), .null, .null])), (x0, .inr (6, [.ref q0, .int (jI ((ms : Nat) : Int)), .ref q1, .int (jI ((es : Nat) : Int))])), (q0, .inl (cG, 6, .inr (.inr (.inr (.inr f))))), (rm, .inl (cI, 7, .inl (fun i => vI (g i)))), (q1, .inl (cE, 6, .inr (.inr (.inr (.inr f2)))))] H := hP
  have hD : va_D A [(e0, .inr (1, [.null, .null, .int (jI 0), .int (jI 0), .int (jI 0), .null, .null])), (x0, .inr (6, [.ref q0, .int (jI ((ms : Nat) : Int)), .ref q1, .int (jI ((es : Nat) : Int))])), (q0, .inl (cG, 6, .inr (.inr (.inr (.inr f))))), (rm, .inl (cI, 7, .inl (fun i => vI (g i)))), (q1, .inl (cE, 6, .inr (.inr (.inr (.inr f2)))))] := hD
  refine W.widen (k := 7) (n := 43) (Nat.le_of_ble_eq_true rfl) (Nat.le_of_ble_eq_true rfl) ?_
  refine lv_dup hx hb dX6_begin_52 rfl ?_
  refine lv_aload hx hb dX6_begin_53 (lv_at hl 0 rfl) ?_
  have ct55 := c_X1_init l D tys htI htM htS e0 rm g
  refine k_goN (va_runI (As := [.ref rm]) (rest := [.ref e0]) ⟨hx, hb, hml, hown, hts⟩ (ct55.2 _) (cwI 1 hts gX6_begin_X1_init rfl rfl rfl (hts (.initialized RX1) (by decide +kernel)) (hts (.methodLink RX6 48 yX1_init) (by decide +kernel)) (hts (.instanceMethod yX1_init) (by decide +kernel)) rfl (by decide +kernel) ⟨(Nat.le_of_ble_eq_true rfl), (Nat.le_of_ble_eq_true rfl)⟩) (n_pre hK hO hP hD (is := [0, 3]) rfl rfl) rfl rfl hl.1 rfl (lv_room (Nat.le_of_ble_eq_true rfl)) dX6_begin_55 ⟨(Nat.le_of_ble_eq_true rfl), (Nat.le_of_ble_eq_true rfl)⟩) ct55.1 hP hD hS hA [0, 3] rfl rfl (fun ad H locs hpost hP hD hS => ?_)
  subst hpost
  have hP : va_P D vwCl ((estL cM cS ad 0 0 10006 g zM zM zB zB zS zS) ++ [(x0, .inr (6, [.ref q0, .int (jI ((ms : Nat) : Int)), .ref q1, .int (jI ((es : Nat) : Int))])), (q0, .inl (cG, 6, .inr (.inr (.inr (.inr f))))), (rm, .inl (cI, 7, .inl (fun i => vI (g i)))), (q1, .inl (cE, 6, .inr (.inr (.inr (.inr f2)))))]) H := hP.perm List.perm_middle
  have hD : va_D A ((estL cM cS ad 0 0 10006 g zM zM zB zB zS zS) ++ [(x0, .inr (6, [.ref q0, .int (jI ((ms : Nat) : Int)), .ref q1, .int (jI ((es : Nat) : Int))])), (q0, .inl (cG, 6, .inr (.inr (.inr (.inr f))))), (rm, .inl (cI, 7, .inl (fun i => vI (g i)))), (q1, .inl (cE, 6, .inr (.inr (.inr (.inr f2)))))]) := hD.perm List.perm_middle
  refine W.widen (k := 228) (n := 867) (Nat.le_of_ble_eq_true rfl) (Nat.le_of_ble_eq_true rfl) ?_
  refine lv_astore (lv' := [(8, .ref (ad 0)), (7, .ref rm), (0, .ref x0), (1, .int (jI ((mo : Nat) : Int))), (2, .int (vI b.1)), (3, .int (vI b.2.1)), (4, .int (vI b.2.2.1)), (5, .int (vI b.2.2.2.1)), (6, .int (vI b.2.2.2.2))]) hx hb dX6_begin_58 hl (by decide) rfl (fun ls hl => ?_)
  refine lv_aload hx hb dX6_begin_60 (lv_at hl 0 rfl) ?_
  refine lv_iload_n hx hb dX6_begin_62 rfl (lv_at hl 4 rfl) ?_
  refine lv_iload_n hx hb dX6_begin_63 rfl (lv_at hl 5 rfl) ?_
  refine lv_iload hx hb dX6_begin_64 (lv_at hl 6 rfl) ?_
  refine lv_iload hx hb dX6_begin_66 (lv_at hl 7 rfl) ?_
  refine lv_iload hx hb dX6_begin_68 (lv_at hl 8 rfl) ?_
  have ct70 := c_X1_startFrom l D tys htM htS ad 0 0 10006 g zM zM zB zB zS zS (by omega) (by omega) b
  refine a_goF (va_runV (As := [.int (vI b.1), .int (vI b.2.1), .int (vI b.2.2.1), .int (vI b.2.2.2.1), .int (vI b.2.2.2.2)]) (rest := []) ⟨hx, hb, hml, hown, hts⟩ (ct70.2 _) (cwV 5 hts gX6_begin_X1_startFrom rfl rfl rfl (by decide +kernel) ⟨(Nat.le_of_ble_eq_true rfl), (Nat.le_of_ble_eq_true rfl)⟩) ⟨(a_pre hK hP hD).1, va_recv hK.1 hP (ci := 1) (q0 := 0) rfl rfl, (a_pre hK hP hD).2⟩ rfl rfl hl.1 rfl (lv_room (Nat.le_of_ble_eq_true rfl)) dX6_begin_70 ⟨(Nat.le_of_ble_eq_true rfl), (Nat.le_of_ble_eq_true rfl)⟩) ct70.1 hP hD hS hA (fun v H locs hpost hP hD hS => ?_)
  have hs1 := hpost.2.elim (fun q => by cases q) (fun q => q)
  have hP : va_P D vwCl ((x0, .inr (6, [.ref q0, .int (jI ((ms : Nat) : Int)), .ref q1, .int (jI ((es : Nat) : Int))])) :: (q0, .inl (cG, 6, .inr (.inr (.inr (.inr f))))) :: (rm, .inl (cI, 7, .inl (fun i => vI (g i)))) :: (q1, .inl (cE, 6, .inr (.inr (.inr (.inr f2))))) :: (estL cM cS ad 0 0 10006 g zM v.1 zB v.2.1 v.2.2.1 v.2.2.2)) H := hP.perm (List.perm_append_comm (l₁ := (estL cM cS ad 0 0 10006 g zM v.1 zB v.2.1 v.2.2.1 v.2.2.2)) (l₂ := ([(x0, .inr (6, [.ref q0, .int (jI ((ms : Nat) : Int)), .ref q1, .int (jI ((es : Nat) : Int))])), (q0, .inl (cG, 6, .inr (.inr (.inr (.inr f))))), (rm, .inl (cI, 7, .inl (fun i => vI (g i)))), (q1, .inl (cE, 6, .inr (.inr (.inr (.inr f2)))))] : va_W)))
  have hD : va_D A ((x0, .inr (6, [.ref q0, .int (jI ((ms : Nat) : Int)), .ref q1, .int (jI ((es : Nat) : Int))])) :: (q0, .inl (cG, 6, .inr (.inr (.inr (.inr f))))) :: (rm, .inl (cI, 7, .inl (fun i => vI (g i)))) :: (q1, .inl (cE, 6, .inr (.inr (.inr (.inr f2))))) :: (estL cM cS ad 0 0 10006 g zM v.1 zB v.2.1 v.2.2.1 v.2.2.2)) := hD.perm (List.perm_append_comm (l₁ := (estL cM cS ad 0 0 10006 g zM v.1 zB v.2.1 v.2.2.1 v.2.2.2)) (l₂ := ([(x0, .inr (6, [.ref q0, .int (jI ((ms : Nat) : Int)), .ref q1, .int (jI ((es : Nat) : Int))])), (q0, .inl (cG, 6, .inr (.inr (.inr (.inr f))))), (rm, .inl (cI, 7, .inl (fun i => vI (g i)))), (q1, .inl (cE, 6, .inr (.inr (.inr (.inr f2)))))] : va_W)))
  have hP := hP.perm (est_0.append_left ([(x0, .inr (6, [.ref q0, .int (jI ((ms : Nat) : Int)), .ref q1, .int (jI ((es : Nat) : Int))])), (q0, .inl (cG, 6, .inr (.inr (.inr (.inr f))))), (rm, .inl (cI, 7, .inl (fun i => vI (g i)))), (q1, .inl (cE, 6, .inr (.inr (.inr (.inr f2)))))] : va_W))
  have hD := hD.perm (est_0.append_left ([(x0, .inr (6, [.ref q0, .int (jI ((ms : Nat) : Int)), .ref q1, .int (jI ((es : Nat) : Int))])), (q0, .inl (cG, 6, .inr (.inr (.inr (.inr f))))), (rm, .inl (cI, 7, .inl (fun i => vI (g i)))), (q1, .inl (cE, 6, .inr (.inr (.inr (.inr f2)))))] : va_W))
  have hP : va_P D vwCl ((x0, .inr (6, [.ref q0, .int (jI ((ms : Nat) : Int)), .ref q1, .int (jI ((es : Nat) : Int))])) :: (q0, .inl (cG, 6, .inr (.inr (.inr (.inr f))))) :: (rm, .inl (cI, 7, .inl (fun i => vI (g i)))) :: (q1, .inl (cE, 6, .inr (.inr (.inr (.inr f2))))) :: ((ad 0), .inr (1, [.ref (ad 1), .ref (ad 3), .int (jI ((0 : Nat) : Int)), .int (jI ((0 : Nat) : Int)), .int (vI 10006), .ref (ad 4), .ref (ad 5)])) :: ((ad 1), .inr (3, [.int (vI (g 0)), .int (vI (g 1)), .int (vI (g 2)), .int (vI (g 3)), .ref (ad 2)])) :: ((ad 2), .inr (5, [.int (vI (g 4)), .int (vI (g 5)), .int (vI (g 6))])) :: ((ad 3), .inl (cM, 30, .inr (.inr (.inr (.inr (fun k => some (ad (6 + 3 * k)))))))) :: ((ad 4), .inl (cS, 21, .inr (.inr (.inr (.inr (fun t => some (ad (96 + 6 * t)))))))) :: ((ad 5), .inl (cS, 21, .inr (.inr (.inr (.inr (fun t => some (ad (99 + 6 * t)))))))) :: eRest [] ad zM v.1 zB v.2.1 v.2.2.1 v.2.2.2) H := hP
  have hD : va_D A ((x0, .inr (6, [.ref q0, .int (jI ((ms : Nat) : Int)), .ref q1, .int (jI ((es : Nat) : Int))])) :: (q0, .inl (cG, 6, .inr (.inr (.inr (.inr f))))) :: (rm, .inl (cI, 7, .inl (fun i => vI (g i)))) :: (q1, .inl (cE, 6, .inr (.inr (.inr (.inr f2))))) :: ((ad 0), .inr (1, [.ref (ad 1), .ref (ad 3), .int (jI ((0 : Nat) : Int)), .int (jI ((0 : Nat) : Int)), .int (vI 10006), .ref (ad 4), .ref (ad 5)])) :: ((ad 1), .inr (3, [.int (vI (g 0)), .int (vI (g 1)), .int (vI (g 2)), .int (vI (g 3)), .ref (ad 2)])) :: ((ad 2), .inr (5, [.int (vI (g 4)), .int (vI (g 5)), .int (vI (g 6))])) :: ((ad 3), .inl (cM, 30, .inr (.inr (.inr (.inr (fun k => some (ad (6 + 3 * k)))))))) :: ((ad 4), .inl (cS, 21, .inr (.inr (.inr (.inr (fun t => some (ad (96 + 6 * t)))))))) :: ((ad 5), .inl (cS, 21, .inr (.inr (.inr (.inr (fun t => some (ad (99 + 6 * t)))))))) :: eRest [] ad zM v.1 zB v.2.1 v.2.2.1 v.2.2.2) := hD
  refine lv_aload_n hx hb dX6_begin_73 rfl (lv_at hl 2 rfl) ?_
  refine va_get (D := D) (ci := 6) (v := .ref q1) (C := RX6) (T := TX6) (N := 4) hx hb hts iX6 hown hK.1 hP 0 rfl rfl 2 (by decide) f16 (fun _ h9 => h9) rfl dX6_begin_74 ?_
  refine lv_aload_n hx hb dX6_begin_77 rfl (lv_at hl 2 rfl) ?_
  refine va_get (D := D) (ci := 6) (v := .int (jI ((es : Nat) : Int))) (C := RX6) (T := TX6) (N := 4) hx hb hts iX6 hown hK.1 hP 0 rfl rfl 3 (by decide) f43 (fun _ h9 => h9) rfl dX6_begin_78 ?_
  refine lv_aload hx hb dX6_begin_81 (lv_at hl 0 rfl) ?_
  refine n_aast (i := es) hx hb hK hP hD hS 3 3 4 1 rfl htE rfl rfl rfl (by omega) (Nat.le_of_ble_eq_true rfl) dX6_begin_83 (fun H locs hP hD hS => ?_)
  have hP : va_P D vwCl ((x0, .inr (6, [.ref q0, .int (jI ((ms : Nat) : Int)), .ref q1, .int (jI ((es : Nat) : Int))])) :: (q0, .inl (cG, 6, .inr (.inr (.inr (.inr f))))) :: (rm, .inl (cI, 7, .inl (fun i => vI (g i)))) :: (q1, .inl (cE, 6, .inr (.inr (.inr (.inr (va_up f2 es (some (ad 0)))))))) :: ((ad 0), .inr (1, [.ref (ad 1), .ref (ad 3), .int (jI ((0 : Nat) : Int)), .int (jI ((0 : Nat) : Int)), .int (vI 10006), .ref (ad 4), .ref (ad 5)])) :: ((ad 1), .inr (3, [.int (vI (g 0)), .int (vI (g 1)), .int (vI (g 2)), .int (vI (g 3)), .ref (ad 2)])) :: ((ad 2), .inr (5, [.int (vI (g 4)), .int (vI (g 5)), .int (vI (g 6))])) :: ((ad 3), .inl (cM, 30, .inr (.inr (.inr (.inr (fun k => some (ad (6 + 3 * k)))))))) :: ((ad 4), .inl (cS, 21, .inr (.inr (.inr (.inr (fun t => some (ad (96 + 6 * t)))))))) :: ((ad 5), .inl (cS, 21, .inr (.inr (.inr (.inr (fun t => some (ad (99 + 6 * t)))))))) :: eRest [] ad zM v.1 zB v.2.1 v.2.2.1 v.2.2.2) H := hP
  have hD : va_D A ((x0, .inr (6, [.ref q0, .int (jI ((ms : Nat) : Int)), .ref q1, .int (jI ((es : Nat) : Int))])) :: (q0, .inl (cG, 6, .inr (.inr (.inr (.inr f))))) :: (rm, .inl (cI, 7, .inl (fun i => vI (g i)))) :: (q1, .inl (cE, 6, .inr (.inr (.inr (.inr (va_up f2 es (some (ad 0)))))))) :: ((ad 0), .inr (1, [.ref (ad 1), .ref (ad 3), .int (jI ((0 : Nat) : Int)), .int (jI ((0 : Nat) : Int)), .int (vI 10006), .ref (ad 4), .ref (ad 5)])) :: ((ad 1), .inr (3, [.int (vI (g 0)), .int (vI (g 1)), .int (vI (g 2)), .int (vI (g 3)), .ref (ad 2)])) :: ((ad 2), .inr (5, [.int (vI (g 4)), .int (vI (g 5)), .int (vI (g 6))])) :: ((ad 3), .inl (cM, 30, .inr (.inr (.inr (.inr (fun k => some (ad (6 + 3 * k)))))))) :: ((ad 4), .inl (cS, 21, .inr (.inr (.inr (.inr (fun t => some (ad (96 + 6 * t)))))))) :: ((ad 5), .inl (cS, 21, .inr (.inr (.inr (.inr (fun t => some (ad (99 + 6 * t)))))))) :: eRest [] ad zM v.1 zB v.2.1 v.2.2.1 v.2.2.2) := hD
  refine lv_aload_n hx hb dX6_begin_84 rfl (lv_at hl 2 rfl) ?_
  refine lv_dup hx hb dX6_begin_85 rfl ?_
  refine va_get (D := D) (ci := 6) (v := .int (jI ((es : Nat) : Int))) (C := RX6) (T := TX6) (N := 4) hx hb hts iX6 hown hK.1 hP 0 rfl rfl 3 (by decide) f43 (fun _ h9 => h9) rfl dX6_begin_86 ?_
  refine n_iconst hx hb dX6_begin_89 ?_
  refine n_iadd hx hb dX6_begin_90 ?_
  refine va_put (D := D) (ci := 6) (v := .int (jI (((es : Nat) : Int) + 1))) (ty := .int) (C := RX6) (T := TX6) (N := 4) hx hb hts iX6 tyX6 tyX6_ok nmX6 hown hK.1 hP hD hS 0 rfl rfl 3 (by decide) f43 (fun _ h9 => h9) rfl (by decide +kernel) rfl rfl (Nat.le_of_ble_eq_true rfl) dX6_begin_91 (fun H locs hP hD hS => ?_)
  have hP : va_P D vwCl ((x0, .inr (6, [.ref q0, .int (jI ((ms : Nat) : Int)), .ref q1, .int (jI (((es : Nat) : Int) + 1))])) :: (q0, .inl (cG, 6, .inr (.inr (.inr (.inr f))))) :: (rm, .inl (cI, 7, .inl (fun i => vI (g i)))) :: (q1, .inl (cE, 6, .inr (.inr (.inr (.inr (va_up f2 es (some (ad 0)))))))) :: ((ad 0), .inr (1, [.ref (ad 1), .ref (ad 3), .int (jI ((0 : Nat) : Int)), .int (jI ((0 : Nat) : Int)), .int (vI 10006), .ref (ad 4), .ref (ad 5)])) :: ((ad 1), .inr (3, [.int (vI (g 0)), .int (vI (g 1)), .int (vI (g 2)), .int (vI (g 3)), .ref (ad 2)])) :: ((ad 2), .inr (5, [.int (vI (g 4)), .int (vI (g 5)), .int (vI (g 6))])) :: ((ad 3), .inl (cM, 30, .inr (.inr (.inr (.inr (fun k => some (ad (6 + 3 * k)))))))) :: ((ad 4), .inl (cS, 21, .inr (.inr (.inr (.inr (fun t => some (ad (96 + 6 * t)))))))) :: ((ad 5), .inl (cS, 21, .inr (.inr (.inr (.inr (fun t => some (ad (99 + 6 * t)))))))) :: eRest [] ad zM v.1 zB v.2.1 v.2.2.1 v.2.2.2) H := hP
  have hD : va_D A ((x0, .inr (6, [.ref q0, .int (jI ((ms : Nat) : Int)), .ref q1, .int (jI (((es : Nat) : Int) + 1))])) :: (q0, .inl (cG, 6, .inr (.inr (.inr (.inr f))))) :: (rm, .inl (cI, 7, .inl (fun i => vI (g i)))) :: (q1, .inl (cE, 6, .inr (.inr (.inr (.inr (va_up f2 es (some (ad 0)))))))) :: ((ad 0), .inr (1, [.ref (ad 1), .ref (ad 3), .int (jI ((0 : Nat) : Int)), .int (jI ((0 : Nat) : Int)), .int (vI 10006), .ref (ad 4), .ref (ad 5)])) :: ((ad 1), .inr (3, [.int (vI (g 0)), .int (vI (g 1)), .int (vI (g 2)), .int (vI (g 3)), .ref (ad 2)])) :: ((ad 2), .inr (5, [.int (vI (g 4)), .int (vI (g 5)), .int (vI (g 6))])) :: ((ad 3), .inl (cM, 30, .inr (.inr (.inr (.inr (fun k => some (ad (6 + 3 * k)))))))) :: ((ad 4), .inl (cS, 21, .inr (.inr (.inr (.inr (fun t => some (ad (96 + 6 * t)))))))) :: ((ad 5), .inl (cS, 21, .inr (.inr (.inr (.inr (fun t => some (ad (99 + 6 * t)))))))) :: eRest [] ad zM v.1 zB v.2.1 v.2.2.1 v.2.2.2) := hD
  refine lv_aload_n hx hb dX6_begin_94 rfl (lv_at hl 2 rfl) ?_
  refine va_get (D := D) (ci := 6) (v := .int (jI (((es : Nat) : Int) + 1))) (C := RX6) (T := TX6) (N := 4) hx hb hts iX6 hown hK.1 hP 0 rfl rfl 3 (by decide) f43 (fun _ h9 => h9) rfl dX6_begin_95 ?_
  refine n_iconst hx hb dX6_begin_98 ?_
  refine n_isub hx hb dX6_begin_99 ?_
  have en : ((es : Nat) : Int) + 1 = ((es + 1 : Nat) : Int) := rfl
  have hP : va_P D vwCl ((x0, .inr (6, [.ref q0, .int (jI ((ms : Nat) : Int)), .ref q1, .int (jI ((es + 1 : Nat) : Int))])) :: (q0, .inl (cG, 6, .inr (.inr (.inr (.inr f))))) :: (rm, .inl (cI, 7, .inl (fun i => vI (g i)))) :: (q1, .inl (cE, 6, .inr (.inr (.inr (.inr (va_up f2 es (some (ad 0)))))))) :: ((ad 0), .inr (1, [.ref (ad 1), .ref (ad 3), .int (jI ((0 : Nat) : Int)), .int (jI ((0 : Nat) : Int)), .int (vI 10006), .ref (ad 4), .ref (ad 5)])) :: ((ad 1), .inr (3, [.int (vI (g 0)), .int (vI (g 1)), .int (vI (g 2)), .int (vI (g 3)), .ref (ad 2)])) :: ((ad 2), .inr (5, [.int (vI (g 4)), .int (vI (g 5)), .int (vI (g 6))])) :: ((ad 3), .inl (cM, 30, .inr (.inr (.inr (.inr (fun k => some (ad (6 + 3 * k)))))))) :: ((ad 4), .inl (cS, 21, .inr (.inr (.inr (.inr (fun t => some (ad (96 + 6 * t)))))))) :: ((ad 5), .inl (cS, 21, .inr (.inr (.inr (.inr (fun t => some (ad (99 + 6 * t)))))))) :: eRest [] ad zM v.1 zB v.2.1 v.2.2.1 v.2.2.2) H := hP
  have hD : va_D A ((x0, .inr (6, [.ref q0, .int (jI ((ms : Nat) : Int)), .ref q1, .int (jI ((es + 1 : Nat) : Int))])) :: (q0, .inl (cG, 6, .inr (.inr (.inr (.inr f))))) :: (rm, .inl (cI, 7, .inl (fun i => vI (g i)))) :: (q1, .inl (cE, 6, .inr (.inr (.inr (.inr (va_up f2 es (some (ad 0)))))))) :: ((ad 0), .inr (1, [.ref (ad 1), .ref (ad 3), .int (jI ((0 : Nat) : Int)), .int (jI ((0 : Nat) : Int)), .int (vI 10006), .ref (ad 4), .ref (ad 5)])) :: ((ad 1), .inr (3, [.int (vI (g 0)), .int (vI (g 1)), .int (vI (g 2)), .int (vI (g 3)), .ref (ad 2)])) :: ((ad 2), .inr (5, [.int (vI (g 4)), .int (vI (g 5)), .int (vI (g 6))])) :: ((ad 3), .inl (cM, 30, .inr (.inr (.inr (.inr (fun k => some (ad (6 + 3 * k)))))))) :: ((ad 4), .inl (cS, 21, .inr (.inr (.inr (.inr (fun t => some (ad (96 + 6 * t)))))))) :: ((ad 5), .inl (cS, 21, .inr (.inr (.inr (.inr (fun t => some (ad (99 + 6 * t)))))))) :: eRest [] ad zM v.1 zB v.2.1 v.2.2.1 v.2.2.2) := hD
  have hP : va_P D vwCl ((x0, .inr (6, [.ref q0, .int (jI ((ms : Nat) : Int)), .ref q1, .int (jI ((es + 1 : Nat) : Int))])) :: (q0, .inl (cG, 6, .inr (.inr (.inr (.inr f))))) :: (rm, .inl (cI, 7, .inl (fun i => vI (g i)))) :: (q1, .inl (cE, 6, .inr (.inr (.inr (.inr (va_up f2 es (some (ad 0)))))))) :: (estL cM cS ad 0 0 10006 g zM v.1 zB v.2.1 v.2.2.1 v.2.2.2)) H := by
    refine va_P.perm ?_ (est_0.append_left ([(x0, .inr (6, [.ref q0, .int (jI ((ms : Nat) : Int)), .ref q1, .int (jI ((es + 1 : Nat) : Int))])), (q0, .inl (cG, 6, .inr (.inr (.inr (.inr f))))), (rm, .inl (cI, 7, .inl (fun i => vI (g i)))), (q1, .inl (cE, 6, .inr (.inr (.inr (.inr (va_up f2 es (some (ad 0))))))))] : va_W)).symm
    exact hP
  have hD : va_D A ((x0, .inr (6, [.ref q0, .int (jI ((ms : Nat) : Int)), .ref q1, .int (jI ((es + 1 : Nat) : Int))])) :: (q0, .inl (cG, 6, .inr (.inr (.inr (.inr f))))) :: (rm, .inl (cI, 7, .inl (fun i => vI (g i)))) :: (q1, .inl (cE, 6, .inr (.inr (.inr (.inr (va_up f2 es (some (ad 0)))))))) :: (estL cM cS ad 0 0 10006 g zM v.1 zB v.2.1 v.2.2.1 v.2.2.2)) := by
    refine va_D.perm ?_ (est_0.append_left ([(x0, .inr (6, [.ref q0, .int (jI ((ms : Nat) : Int)), .ref q1, .int (jI ((es + 1 : Nat) : Int))])), (q0, .inl (cG, 6, .inr (.inr (.inr (.inr f))))), (rm, .inl (cI, 7, .inl (fun i => vI (g i)))), (q1, .inl (cE, 6, .inr (.inr (.inr (.inr (va_up f2 es (some (ad 0))))))))] : va_W)).symm
    exact hD
  have hP : va_P D vwCl ((estL cM cS ad 0 0 10006 g zM v.1 zB v.2.1 v.2.2.1 v.2.2.2) ++ [(x0, .inr (6, [.ref q0, .int (jI ((ms : Nat) : Int)), .ref q1, .int (jI ((es + 1 : Nat) : Int))])), (q0, .inl (cG, 6, .inr (.inr (.inr (.inr f))))), (rm, .inl (cI, 7, .inl (fun i => vI (g i)))), (q1, .inl (cE, 6, .inr (.inr (.inr (.inr (va_up f2 es (some (ad 0))))))))]) H := hP.perm (List.perm_append_comm (l₁ := ([(x0, .inr (6, [.ref q0, .int (jI ((ms : Nat) : Int)), .ref q1, .int (jI ((es + 1 : Nat) : Int))])), (q0, .inl (cG, 6, .inr (.inr (.inr (.inr f))))), (rm, .inl (cI, 7, .inl (fun i => vI (g i)))), (q1, .inl (cE, 6, .inr (.inr (.inr (.inr (va_up f2 es (some (ad 0))))))))] : va_W)) (l₂ := (estL cM cS ad 0 0 10006 g zM v.1 zB v.2.1 v.2.2.1 v.2.2.2)))
  have hD : va_D A ((estL cM cS ad 0 0 10006 g zM v.1 zB v.2.1 v.2.2.1 v.2.2.2) ++ [(x0, .inr (6, [.ref q0, .int (jI ((ms : Nat) : Int)), .ref q1, .int (jI ((es + 1 : Nat) : Int))])), (q0, .inl (cG, 6, .inr (.inr (.inr (.inr f))))), (rm, .inl (cI, 7, .inl (fun i => vI (g i)))), (q1, .inl (cE, 6, .inr (.inr (.inr (.inr (va_up f2 es (some (ad 0))))))))]) := hD.perm (List.perm_append_comm (l₁ := ([(x0, .inr (6, [.ref q0, .int (jI ((ms : Nat) : Int)), .ref q1, .int (jI ((es + 1 : Nat) : Int))])), (q0, .inl (cG, 6, .inr (.inr (.inr (.inr f))))), (rm, .inl (cI, 7, .inl (fun i => vI (g i)))), (q1, .inl (cE, 6, .inr (.inr (.inr (.inr (va_up f2 es (some (ad 0))))))))] : va_W)) (l₂ := (estL cM cS ad 0 0 10006 g zM v.1 zB v.2.1 v.2.2.1 v.2.2.2)))
  exact x_iret (ad, v) hx hb hr hlocks dX6_begin_100 (Nat.le_of_ble_eq_true rfl) (Nat.le_of_ble_eq_true rfl) hP hD hS ⟨congrArg jI (by omega), hpost.1, hs1⟩
