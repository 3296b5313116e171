/-! the reference: ofMeasurement, information -/
def omA (tm : Zp) (dr : Bool) (m : Nat → Zp) (b : Option S5) (wh : Nat) : Int32 := if wh = 0 then vI tm else if dr = true then jI (-1) else match b with
  | some q => omR m q wh
  | none => 0
theorem omR_f {m : Nat → Zp} {q : S5} {g : Nat → Zp} {kv wh : Nat} (h1 : ¬ wh = 0) (h4 : ¬ wh = 4) (h : wh ≤ 4) (o1 : g (3 * kv) = mY m q) (o2 : g (3 * kv + 1) = mS m q) (o3 : g (3 * kv + 2) = mG m q) : vI (g (3 * kv + wh - 1)) = omR m q wh := by
  match wh, h1, h4, h with
  | 0, h1, _, _ => exact absurd rfl h1
  | 1, _, _, _ => show vI (g (3 * kv)) = vI _; rw [o1]
  | 2, _, _, _ => show vI (g (3 * kv + 1)) = vI _; rw [o2]
  | 3, _, _, _ => show vI (g (3 * kv + 2)) = vI _; rw [o3]
  | 4, _, h4, _ => exact absurd rfl h4
theorem omR_4 {m : Nat → Zp} {q : S5} {wh : Nat} {b : Bool} (h : wh = 4) (hb : mgt m q = b) : jI (iB b) = omR m q wh := by
  subst h
  subst hb
  rfl

set_option maxHeartbeats 4000000 in
set_option maxRecDepth 100000 in
/--  -/
theorem c_X7_ofMeasurement1 (l : Launch) (D : va_G) (tys : List (ClassId × FieldType)) {cI cJ cZ : ClassId} (htI : tys[0]? = some (cI, .int)) (htJ : tys[1]? = some (cJ, .long)) (htZ : tys[2]? = some (cZ, .boolean)) (m0 : Nat) (a : Nat → Nat) (ms es : Nat) (th : Int32) (gN : Nat → Nat) (q1 : ms ≤ 6) (q2 : es ≤ 6) (ev kv wh : Int) (q3 : r32 ev) (q4 : r32 kv) (q5 : r32 wh) (h9 : (inB 0 (((es : Nat) : Int) - 1) ev) = false) : CtI l D tys yX7_ofMeasurement wsX7_ofMeasurement 3 65 [.ref m0, .int (jI ev), .int (jI kv), .int (jI wh)] (jI 0) [(m0, oR (jI ((ms : Nat) : Int)) (jI ((es : Nat) : Int)) th a), ((a 5), .inl (cI, 6, .inl (fun i => jI ((gN i : Nat) : Int))))] [(m0, oR (jI ((ms : Nat) : Int)) (jI ((es : Nat) : Int)) (jI 1) a), ((a 5), .inl (cI, 6, .inl (fun i => jI ((gN i : Nat) : Int))))] := by
  refine CtI.of (cc := cX7_ofMeasurement) (maxL := 5) (by decide +kernel) rfl rfl (Nat.le_of_ble_eq_true rfl) ?_
  intro p e s m below meth c A ls hcx hK hP hD hA hl
  obtain ⟨hx, hb, hr, hml, hown, hts, hlocks⟩ := hcx
  have hS : va_S A s.heap s.heap [] := va_S.rf
  have hown : s.vm.findClass RX7 = some m.cls := hown
  have hl : lv_has ls 5 [(0, .ref m0), (1, .int (jI ev)), (2, .int (jI kv)), (3, .int (jI wh))] := hl
  refine lv_aload_n hx hb dX7_ofMeasurement_0 rfl (lv_at hl 0 rfl) ?_
  refine lv_aload_n hx hb dX7_ofMeasurement_1 rfl (lv_at hl 0 rfl) ?_
  refine lv_iload_n hx hb dX7_ofMeasurement_2 rfl (lv_at hl 1 rfl) ?_
  refine lv_iload_n hx hb dX7_ofMeasurement_3 rfl (lv_at hl 2 rfl) ?_
  have ct4 := c_X7_isMeasured1 l D tys htI htJ htZ m0 a ms es th gN (by omega) (by omega) ev kv (by first | assumption | exact r32_z _ | (unfold r32; omega)) (by first | assumption | exact r32_z _ | (unfold r32; omega)) h9
  refine k_goI (va_runV (As := [.int (jI ev), .int (jI kv)]) (rest := [.ref m0]) ⟨hx, hb, hml, hown, hts⟩ (ct4.2 _) (cwV 2 hts gX7_ofMeasurement_X7_isMeasured rfl rfl rfl (by decide +kernel) ⟨Nat.le_of_ble_eq_true rfl, Nat.le_of_ble_eq_true rfl⟩) ⟨(k_pre hK hP hD (is := [0, 1]) rfl rfl).1, va_recv hK.1 hP (ci := 7) (q0 := 0) rfl rfl, (k_pre hK hP hD (is := [0, 1]) rfl rfl).2⟩ rfl rfl hl.1 rfl (lv_room (Nat.le_of_ble_eq_true rfl)) dX7_ofMeasurement_4 ⟨Nat.le_of_ble_eq_true rfl, Nat.le_of_ble_eq_true rfl⟩) ct4.1 hP hD hS hA [0, 1] rfl rfl (fun H locs hP hD hS => ?_)
  have hP : va_P D vwCl [(m0, oR (jI ((ms : Nat) : Int)) (jI ((es : Nat) : Int)) th a), ((a 5), .inl (cI, 6, .inl (fun i => jI ((gN i : Nat) : Int))))] H := hP
  have hD : va_D A [(m0, oR (jI ((ms : Nat) : Int)) (jI ((es : Nat) : Int)) th a), ((a 5), .inl (cI, 6, .inl (fun i => jI ((gN i : Nat) : Int))))] := hD
  refine n_ifB_ne (tgt := 14) hx hb dX7_ofMeasurement_7 (by decide) (fun h7 => Bool.noConfusion h7) (fun h7 => ?_)
  refine n_iconst hx hb dX7_ofMeasurement_10 ?_
  refine lv_goto (tgt := 28) hx hb dX7_ofMeasurement_11 (by decide) ?_
  have ct28 := c_X7_failsT l D tys m0 a ms es th 1 (by unfold r32; decide) (by decide)
  refine k_goI (va_runV (As := [.int (jI 1)]) (rest := []) ⟨hx, hb, hml, hown, hts⟩ (ct28.2 _) (cwV 1 hts gX7_ofMeasurement_X7_fails rfl rfl rfl (by decide +kernel) ⟨Nat.le_of_ble_eq_true rfl, Nat.le_of_ble_eq_true rfl⟩) ⟨(k_pre hK hP hD (is := [0]) rfl rfl).1, va_recv hK.1 hP (ci := 7) (q0 := 0) rfl rfl, (k_pre hK hP hD (is := [0]) rfl rfl).2⟩ rfl rfl hl.1 rfl (lv_room (Nat.le_of_ble_eq_true rfl)) dX7_ofMeasurement_28 ⟨Nat.le_of_ble_eq_true rfl, Nat.le_of_ble_eq_true rfl⟩) ct28.1 hP hD hS hA [0] rfl rfl (fun H locs hP hD hS => ?_)
  have hP : va_P D vwCl [(m0, oR (jI ((ms : Nat) : Int)) (jI ((es : Nat) : Int)) (jI 1) a), ((a 5), .inl (cI, 6, .inl (fun i => jI ((gN i : Nat) : Int))))] H := hP
  have hD : va_D A [(m0, oR (jI ((ms : Nat) : Int)) (jI ((es : Nat) : Int)) (jI 1) a), ((a 5), .inl (cI, 6, .inl (fun i => jI ((gN i : Nat) : Int))))] := hD
  refine n_ifB_eq (tgt := 36) hx hb dX7_ofMeasurement_31 (by decide) (fun h31 => Bool.noConfusion h31) (fun h31 => ?_)
  refine n_iconst hx hb dX7_ofMeasurement_34 ?_
  exact k_iret hx hb hr hlocks dX7_ofMeasurement_35 hP hS rfl

set_option maxHeartbeats 4000000 in
set_option maxRecDepth 100000 in
/--  -/
theorem c_X7_ofMeasurement2 (l : Launch) (D : va_G) (tys : List (ClassId × FieldType)) {cI cJ cZ : ClassId} (htI : tys[0]? = some (cI, .int)) (htJ : tys[1]? = some (cJ, .long)) (htZ : tys[2]? = some (cZ, .boolean)) (m0 : Nat) (a : Nat → Nat) (ms es : Nat) (th : Int32) (gN : Nat → Nat) (q1 : ms ≤ 6) (q2 : es ≤ 6) (ev : Nat) (kv wh : Int) (q3 : ev < es) (q4 : r32 kv) (q5 : gN ev ≤ 30) (q6 : r32 wh) (h9 : (inB 0 (((gN ev : Nat) : Int) - 1) kv) = false) : CtI l D tys yX7_ofMeasurement wsX7_ofMeasurement 3 65 [.ref m0, .int (jI ((ev : Nat) : Int)), .int (jI kv), .int (jI wh)] (jI 0) [(m0, oR (jI ((ms : Nat) : Int)) (jI ((es : Nat) : Int)) th a), ((a 5), .inl (cI, 6, .inl (fun i => jI ((gN i : Nat) : Int))))] [(m0, oR (jI ((ms : Nat) : Int)) (jI ((es : Nat) : Int)) (jI 1) a), ((a 5), .inl (cI, 6, .inl (fun i => jI ((gN i : Nat) : Int))))] := by
  refine CtI.of (cc := cX7_ofMeasurement) (maxL := 5) (by decide +kernel) rfl rfl (Nat.le_of_ble_eq_true rfl) ?_
  intro p e s m below meth c A ls hcx hK hP hD hA hl
  obtain ⟨hx, hb, hr, hml, hown, hts, hlocks⟩ := hcx
  have hS : va_S A s.heap s.heap [] := va_S.rf
  have hown : s.vm.findClass RX7 = some m.cls := hown
  have hl : lv_has ls 5 [(0, .ref m0), (1, .int (jI ((ev : Nat) : Int))), (2, .int (jI kv)), (3, .int (jI wh))] := hl
  refine lv_aload_n hx hb dX7_ofMeasurement_0 rfl (lv_at hl 0 rfl) ?_
  refine lv_aload_n hx hb dX7_ofMeasurement_1 rfl (lv_at hl 0 rfl) ?_
  refine lv_iload_n hx hb dX7_ofMeasurement_2 rfl (lv_at hl 1 rfl) ?_
  refine lv_iload_n hx hb dX7_ofMeasurement_3 rfl (lv_at hl 2 rfl) ?_
  have ct4 := c_X7_isMeasured2 l D tys htI htJ htZ m0 a ms es th gN (by omega) (by omega) ev kv (by omega) (by first | assumption | exact r32_z _ | (unfold r32; omega)) (by omega) h9
  refine k_goI (va_runV (As := [.int (jI ((ev : Nat) : Int)), .int (jI kv)]) (rest := [.ref m0]) ⟨hx, hb, hml, hown, hts⟩ (ct4.2 _) (cwV 2 hts gX7_ofMeasurement_X7_isMeasured rfl rfl rfl (by decide +kernel) ⟨Nat.le_of_ble_eq_true rfl, Nat.le_of_ble_eq_true rfl⟩) ⟨(k_pre hK hP hD (is := [0, 1]) rfl rfl).1, va_recv hK.1 hP (ci := 7) (q0 := 0) rfl rfl, (k_pre hK hP hD (is := [0, 1]) rfl rfl).2⟩ rfl rfl hl.1 rfl (lv_room (Nat.le_of_ble_eq_true rfl)) dX7_ofMeasurement_4 ⟨Nat.le_of_ble_eq_true rfl, Nat.le_of_ble_eq_true rfl⟩) ct4.1 hP hD hS hA [0, 1] rfl rfl (fun H locs hP hD hS => ?_)
  have hP : va_P D vwCl [(m0, oR (jI ((ms : Nat) : Int)) (jI ((es : Nat) : Int)) th a), ((a 5), .inl (cI, 6, .inl (fun i => jI ((gN i : Nat) : Int))))] H := hP
  have hD : va_D A [(m0, oR (jI ((ms : Nat) : Int)) (jI ((es : Nat) : Int)) th a), ((a 5), .inl (cI, 6, .inl (fun i => jI ((gN i : Nat) : Int))))] := hD
  refine n_ifB_ne (tgt := 14) hx hb dX7_ofMeasurement_7 (by decide) (fun h7 => Bool.noConfusion h7) (fun h7 => ?_)
  refine n_iconst hx hb dX7_ofMeasurement_10 ?_
  refine lv_goto (tgt := 28) hx hb dX7_ofMeasurement_11 (by decide) ?_
  have ct28 := c_X7_failsT l D tys m0 a ms es th 1 (by unfold r32; decide) (by decide)
  refine k_goI (va_runV (As := [.int (jI 1)]) (rest := []) ⟨hx, hb, hml, hown, hts⟩ (ct28.2 _) (cwV 1 hts gX7_ofMeasurement_X7_fails rfl rfl rfl (by decide +kernel) ⟨Nat.le_of_ble_eq_true rfl, Nat.le_of_ble_eq_true rfl⟩) ⟨(k_pre hK hP hD (is := [0]) rfl rfl).1, va_recv hK.1 hP (ci := 7) (q0 := 0) rfl rfl, (k_pre hK hP hD (is := [0]) rfl rfl).2⟩ rfl rfl hl.1 rfl (lv_room (Nat.le_of_ble_eq_true rfl)) dX7_ofMeasurement_28 ⟨Nat.le_of_ble_eq_true rfl, Nat.le_of_ble_eq_true rfl⟩) ct28.1 hP hD hS hA [0] rfl rfl (fun H locs hP hD hS => ?_)
  have hP : va_P D vwCl [(m0, oR (jI ((ms : Nat) : Int)) (jI ((es : Nat) : Int)) (jI 1) a), ((a 5), .inl (cI, 6, .inl (fun i => jI ((gN i : Nat) : Int))))] H := hP
  have hD : va_D A [(m0, oR (jI ((ms : Nat) : Int)) (jI ((es : Nat) : Int)) (jI 1) a), ((a 5), .inl (cI, 6, .inl (fun i => jI ((gN i : Nat) : Int))))] := hD
  refine n_ifB_eq (tgt := 36) hx hb dX7_ofMeasurement_31 (by decide) (fun h31 => Bool.noConfusion h31) (fun h31 => ?_)
  refine n_iconst hx hb dX7_ofMeasurement_34 ?_
  exact k_iret hx hb hr hlocks dX7_ofMeasurement_35 hP hS rfl

set_option maxHeartbeats 4000000 in
set_option maxRecDepth 100000 in
/--  -/
theorem c_X7_ofMeasurement3 (l : Launch) (D : va_G) (tys : List (ClassId × FieldType)) {cI cJ cZ : ClassId} (htI : tys[0]? = some (cI, .int)) (htJ : tys[1]? = some (cJ, .long)) (htZ : tys[2]? = some (cZ, .boolean)) (m0 : Nat) (a : Nat → Nat) (ms es : Nat) (th : Int32) (gN : Nat → Nat) (q1 : ms ≤ 6) (q2 : es ≤ 6) (ev kv : Nat) (wh : Int) (q3 : ev < es) (q5 : gN ev ≤ 30) (q4 : kv < gN ev) (q6 : r32 wh) (h9 : (inB 0 4 wh) = false) : CtI l D tys yX7_ofMeasurement wsX7_ofMeasurement 3 65 [.ref m0, .int (jI ((ev : Nat) : Int)), .int (jI ((kv : Nat) : Int)), .int (jI wh)] (jI 0) [(m0, oR (jI ((ms : Nat) : Int)) (jI ((es : Nat) : Int)) th a), ((a 5), .inl (cI, 6, .inl (fun i => jI ((gN i : Nat) : Int))))] [(m0, oR (jI ((ms : Nat) : Int)) (jI ((es : Nat) : Int)) (jI 2) a), ((a 5), .inl (cI, 6, .inl (fun i => jI ((gN i : Nat) : Int))))] := by
  refine CtI.of (cc := cX7_ofMeasurement) (maxL := 5) (by decide +kernel) rfl rfl (Nat.le_of_ble_eq_true rfl) ?_
  intro p e s m below meth c A ls hcx hK hP hD hA hl
  obtain ⟨hx, hb, hr, hml, hown, hts, hlocks⟩ := hcx
  have hS : va_S A s.heap s.heap [] := va_S.rf
  have hown : s.vm.findClass RX7 = some m.cls := hown
  have hl : lv_has ls 5 [(0, .ref m0), (1, .int (jI ((ev : Nat) : Int))), (2, .int (jI ((kv : Nat) : Int))), (3, .int (jI wh))] := hl
  refine lv_aload_n hx hb dX7_ofMeasurement_0 rfl (lv_at hl 0 rfl) ?_
  refine lv_aload_n hx hb dX7_ofMeasurement_1 rfl (lv_at hl 0 rfl) ?_
  refine lv_iload_n hx hb dX7_ofMeasurement_2 rfl (lv_at hl 1 rfl) ?_
  refine lv_iload_n hx hb dX7_ofMeasurement_3 rfl (lv_at hl 2 rfl) ?_
  have ct4 := c_X7_isMeasured0 l D tys htI htJ htZ m0 a ms es th gN (by omega) (by omega) ev ((kv : Nat) : Int) (by omega) (by first | assumption | exact r32_z _ | (unfold r32; omega)) (by omega) (inB_t (by omega) (by omega))
  refine k_goI (va_runV (As := [.int (jI ((ev : Nat) : Int)), .int (jI ((kv : Nat) : Int))]) (rest := [.ref m0]) ⟨hx, hb, hml, hown, hts⟩ (ct4.2 _) (cwV 2 hts gX7_ofMeasurement_X7_isMeasured rfl rfl rfl (by decide +kernel) ⟨Nat.le_of_ble_eq_true rfl, Nat.le_of_ble_eq_true rfl⟩) ⟨(k_pre hK hP hD (is := [0, 1]) rfl rfl).1, va_recv hK.1 hP (ci := 7) (q0 := 0) rfl rfl, (k_pre hK hP hD (is := [0, 1]) rfl rfl).2⟩ rfl rfl hl.1 rfl (lv_room (Nat.le_of_ble_eq_true rfl)) dX7_ofMeasurement_4 ⟨Nat.le_of_ble_eq_true rfl, Nat.le_of_ble_eq_true rfl⟩) ct4.1 hP hD hS hA [0, 1] rfl rfl (fun H locs hP hD hS => ?_)
  have hP : va_P D vwCl [(m0, oR (jI ((ms : Nat) : Int)) (jI ((es : Nat) : Int)) th a), ((a 5), .inl (cI, 6, .inl (fun i => jI ((gN i : Nat) : Int))))] H := hP
  have hD : va_D A [(m0, oR (jI ((ms : Nat) : Int)) (jI ((es : Nat) : Int)) th a), ((a 5), .inl (cI, 6, .inl (fun i => jI ((gN i : Nat) : Int))))] := hD
  refine n_ifB_ne (tgt := 14) hx hb dX7_ofMeasurement_7 (by decide) (fun h7 => ?_) (fun h7 => Bool.noConfusion h7)
  refine lv_iload_n hx hb dX7_ofMeasurement_14 rfl (lv_at hl 3 rfl) ?_
  refine n_iconst hx hb dX7_ofMeasurement_15 ?_
  refine n_iconst hx hb dX7_ofMeasurement_16 ?_
  have ct17 := c_X7_isIn l D tys wh 0 4 (by first | assumption | exact r32_z _ | (unfold r32; omega)) (by first | assumption | exact r32_z _ | (unfold r32; omega)) (by first | assumption | exact r32_z _ | (unfold r32; omega))
  refine k_goI (va_runS (As := [.int (jI wh), .int (jI 0), .int (jI 4)]) (rest := [.ref m0]) ⟨hx, hb, hml, hown, hts⟩ (ct17.2 _) (va_cwS 3 hts gX7_ofMeasurement_X7_isIn rfl rfl rfl (by decide +kernel) ⟨Nat.le_of_ble_eq_true rfl, Nat.le_of_ble_eq_true rfl⟩) (k_pre hK hP hD (is := []) rfl rfl) rfl rfl hl.1 rfl (lv_room (Nat.le_of_ble_eq_true rfl)) dX7_ofMeasurement_17 ⟨Nat.le_of_ble_eq_true rfl, Nat.le_of_ble_eq_true rfl⟩) ct17.1 hP hD hS hA [] rfl rfl (fun H locs hP hD hS => ?_)
  have hP : va_P D vwCl [(m0, oR (jI ((ms : Nat) : Int)) (jI ((es : Nat) : Int)) th a), ((a 5), .inl (cI, 6, .inl (fun i => jI ((gN i : Nat) : Int))))] H := hP
  have hD : va_D A [(m0, oR (jI ((ms : Nat) : Int)) (jI ((es : Nat) : Int)) th a), ((a 5), .inl (cI, 6, .inl (fun i => jI ((gN i : Nat) : Int))))] := hD
  refine n_ifB_eq (tgt := 27) hx hb dX7_ofMeasurement_20 (by decide) (fun h20 => ?_) (fun h20 => Bool.noConfusion (h9.symm.trans h20))
  refine n_iconst hx hb dX7_ofMeasurement_27 ?_
  have ct28 := c_X7_failsT l D tys m0 a ms es th 2 (by unfold r32; decide) (by decide)
  refine k_goI (va_runV (As := [.int (jI 2)]) (rest := []) ⟨hx, hb, hml, hown, hts⟩ (ct28.2 _) (cwV 1 hts gX7_ofMeasurement_X7_fails rfl rfl rfl (by decide +kernel) ⟨Nat.le_of_ble_eq_true rfl, Nat.le_of_ble_eq_true rfl⟩) ⟨(k_pre hK hP hD (is := [0]) rfl rfl).1, va_recv hK.1 hP (ci := 7) (q0 := 0) rfl rfl, (k_pre hK hP hD (is := [0]) rfl rfl).2⟩ rfl rfl hl.1 rfl (lv_room (Nat.le_of_ble_eq_true rfl)) dX7_ofMeasurement_28 ⟨Nat.le_of_ble_eq_true rfl, Nat.le_of_ble_eq_true rfl⟩) ct28.1 hP hD hS hA [0] rfl rfl (fun H locs hP hD hS => ?_)
  have hP : va_P D vwCl [(m0, oR (jI ((ms : Nat) : Int)) (jI ((es : Nat) : Int)) (jI 2) a), ((a 5), .inl (cI, 6, .inl (fun i => jI ((gN i : Nat) : Int))))] H := hP
  have hD : va_D A [(m0, oR (jI ((ms : Nat) : Int)) (jI ((es : Nat) : Int)) (jI 2) a), ((a 5), .inl (cI, 6, .inl (fun i => jI ((gN i : Nat) : Int))))] := hD
  refine n_ifB_eq (tgt := 36) hx hb dX7_ofMeasurement_31 (by decide) (fun h31 => Bool.noConfusion h31) (fun h31 => ?_)
  refine n_iconst hx hb dX7_ofMeasurement_34 ?_
  exact k_iret hx hb hr hlocks dX7_ofMeasurement_35 hP hS rfl

set_option maxHeartbeats 8000000 in
set_option maxRecDepth 100000 in
/--  -/
theorem c_X7_ofMeasurement0 (l : Launch) (D : va_G) (tys : List (ClassId × FieldType)) {cI cJ cZ : ClassId} (htI : tys[0]? = some (cI, .int)) (htJ : tys[1]? = some (cJ, .long)) (htZ : tys[2]? = some (cZ, .boolean)) (m0 : Nat) (a : Nat → Nat) (ms es : Nat) (th : Int32) (gM : Nat → Zp) (gB : Nat → Zp) (gT : Nat → Nat) (gN : Nat → Nat) (gK : Nat → Zp) (gD : Nat → Bool) (gH : Nat → Zp) (gU : Nat → Zp) (gF : Nat → Zp) (gX : Nat → Bool) (gW : Nat → Zp) (q1 : ms ≤ 6) (q2 : es ≤ 6) (ev kv wh : Nat) (q3 : ev < es) (q4 : kv < gN ev) (q5 : wh ≤ 4) (qT : gT ev ≤ 20) (qN : gN ev ≤ 30) (htm : ∀ k, k < gN ev → (gK (6 * (30 * ev + k) + 0)).val ≤ gT ev) (st : S5) (hbeh : beh (fun i => gM (7 * ev + i)) (s5at gB ev) (fun k c => gK (6 * (30 * ev + k) + c)) (fun k => gD (30 * ev + k)) (gN ev) (gT ev) = some st)  : CtE (S := (Nat → Zp) × (Nat → Zp) × (Nat → Zp) × (Nat → Bool) × (Nat → Zp)) l D tys yX7_ofMeasurement wsX7_ofMeasurement 4 110 [.ref m0, .int (jI ((ev : Nat) : Int)), .int (jI ((kv : Nat) : Int)), .int (jI ((wh : Nat) : Int))] (fun (r : Int32) (u : (Nat → Zp) × (Nat → Zp) × (Nat → Zp) × (Nat → Bool) × (Nat → Zp)) => r = omA (gK (6 * (30 * ev + kv))) (gD (30 * ev + kv)) (fun c => gK (6 * (30 * ev + kv) + c)) (bef (fun i => gM (7 * ev + i)) (s5at gB ev) (fun k c => gK (6 * (30 * ev + k) + c)) (fun k => gD (30 * ev + k)) (gN ev) kv) wh ∧ beh (fun i => gM (7 * ev + i)) (s5at gB ev) (fun k c => gK (6 * (30 * ev + k) + c)) (fun k => gD (30 * ev + k)) (gN ev) (gT ev) = some (s5 u.2.2.2.2) ∧ Rows (fun i => gM (7 * ev + i)) (s5at gB ev) (fun k c => gK (6 * (30 * ev + k) + c)) (fun k => gD (30 * ev + k)) (gN ev) u.1 u.2.1 (gT ev + 1) ∧ Outs (fun i => gM (7 * ev + i)) (s5at gB ev) (fun k c => gK (6 * (30 * ev + k) + c)) (fun k => gD (30 * ev + k)) (gN ev) u.2.2.1 u.2.2.2.1 (fun k => (gK (6 * (30 * ev + k) + 0)).val ≤ gT ev)) [(m0, oR (jI ((ms : Nat) : Int)) (jI ((es : Nat) : Int)) th a), ((a 1), .inl (cI, 42, .inl (fun i => vI (gM i)))), ((a 2), .inl (cI, 30, .inl (fun i => vI (gB i)))), ((a 3), .inl (cI, 6, .inl (fun i => jI ((gT i : Nat) : Int)))), ((a 5), .inl (cI, 6, .inl (fun i => jI ((gN i : Nat) : Int)))), ((a 6), .inl (cI, 1080, .inl (fun i => vI (gK i)))), ((a 7), .inl (cZ, 180, .inl (fun i => jI (iB (gD i))))), ((a 8), .inl (cJ, 105, .inr (.inl (fun i => vL (gH i))))), ((a 9), .inl (cJ, 105, .inr (.inl (fun i => vL (gU i))))), ((a 10), .inl (cJ, 90, .inr (.inl (fun i => vL (gF i))))), ((a 11), .inl (cZ, 30, .inl (fun i => jI (iB (gX i))))), ((a 12), .inl (cJ, 5, .inr (.inl (fun i => vL (gW i)))))] (fun u => [(m0, oR (jI ((ms : Nat) : Int)) (jI ((es : Nat) : Int)) (jI 0) a), ((a 1), .inl (cI, 42, .inl (fun i => vI (gM i)))), ((a 2), .inl (cI, 30, .inl (fun i => vI (gB i)))), ((a 3), .inl (cI, 6, .inl (fun i => jI ((gT i : Nat) : Int)))), ((a 5), .inl (cI, 6, .inl (fun i => jI ((gN i : Nat) : Int)))), ((a 6), .inl (cI, 1080, .inl (fun i => vI (gK i)))), ((a 7), .inl (cZ, 180, .inl (fun i => jI (iB (gD i))))), ((a 8), .inl (cJ, 105, .inr (.inl (fun i => vL (u.1 i))))), ((a 9), .inl (cJ, 105, .inr (.inl (fun i => vL (u.2.1 i))))), ((a 10), .inl (cJ, 90, .inr (.inl (fun i => vL (u.2.2.1 i))))), ((a 11), .inl (cZ, 30, .inl (fun i => jI (iB (u.2.2.2.1 i))))), ((a 12), .inl (cJ, 5, .inr (.inl (fun i => vL (u.2.2.2.2 i)))))]) := by
  refine CtE.of (cc := cX7_ofMeasurement) (maxL := 5) (by decide +kernel) rfl (fun _ => rfl) (Nat.le_of_ble_eq_true rfl) ?_
  intro p e s m below meth c A ls hcx hK hP hD hA hl
  obtain ⟨hx, hb, hr, hml, hown, hts, hlocks⟩ := hcx
  have hS : va_S A s.heap s.heap [] := va_S.rf
  have hown : s.vm.findClass RX7 = some m.cls := hown
  have hl : lv_has ls 5 [(0, .ref m0), (1, .int (jI ((ev : Nat) : Int))), (2, .int (jI ((kv : Nat) : Int))), (3, .int (jI ((wh : Nat) : Int)))] := hl
  have f31 := hts (.fieldLink RX7 31 "FieldFilterModel" "isDropped" "[Z") (by decide +kernel)
  have iX7 : ∀ w ∈ u_ws RX7 TX7 20, w ∈ wsX7_ofMeasurement := by decide +kernel
  have f28 := hts (.fieldLink RX7 28 "FieldFilterModel" "told" "[I") (by decide +kernel)
  have f42 := hts (.fieldLink RX7 42 "FieldFilterModel" "found" "[J") (by decide +kernel)
  have f45 := hts (.fieldLink RX7 45 "FieldFilterModel" "isGated" "[Z") (by decide +kernel)
  refine lv_aload_n hx hb dX7_ofMeasurement_0 rfl (lv_at hl 0 rfl) ?_
  refine lv_aload_n hx hb dX7_ofMeasurement_1 rfl (lv_at hl 0 rfl) ?_
  refine lv_iload_n hx hb dX7_ofMeasurement_2 rfl (lv_at hl 1 rfl) ?_
  refine lv_iload_n hx hb dX7_ofMeasurement_3 rfl (lv_at hl 2 rfl) ?_
  have ct4 := c_X7_isMeasured0 l D tys htI htJ htZ m0 a ms es th gN (by omega) (by omega) ev ((kv : Nat) : Int) (by omega) (by first | assumption | exact r32_z _ | (unfold r32; omega)) (by omega) (inB_t (by omega) (by omega))
  refine k_goI (va_runV (As := [.int (jI ((ev : Nat) : Int)), .int (jI ((kv : Nat) : Int))]) (rest := [.ref m0]) ⟨hx, hb, hml, hown, hts⟩ (ct4.2 _) (cwV 2 hts gX7_ofMeasurement_X7_isMeasured rfl rfl rfl (by decide +kernel) ⟨Nat.le_of_ble_eq_true rfl, Nat.le_of_ble_eq_true rfl⟩) ⟨(k_pre hK hP hD (is := [0, 4]) rfl rfl).1, va_recv hK.1 hP (ci := 7) (q0 := 0) rfl rfl, (k_pre hK hP hD (is := [0, 4]) rfl rfl).2⟩ rfl rfl hl.1 rfl (lv_room (Nat.le_of_ble_eq_true rfl)) dX7_ofMeasurement_4 ⟨Nat.le_of_ble_eq_true rfl, Nat.le_of_ble_eq_true rfl⟩) ct4.1 hP hD hS hA [0, 4] rfl rfl (fun H locs hP hD hS => ?_)
  have hP : va_P D vwCl [(m0, oR (jI ((ms : Nat) : Int)) (jI ((es : Nat) : Int)) th a), ((a 1), .inl (cI, 42, .inl (fun i => vI (gM i)))), ((a 2), .inl (cI, 30, .inl (fun i => vI (gB i)))), ((a 3), .inl (cI, 6, .inl (fun i => jI ((gT i : Nat) : Int)))), ((a 5), .inl (cI, 6, .inl (fun i => jI ((gN i : Nat) : Int)))), ((a 6), .inl (cI, 1080, .inl (fun i => vI (gK i)))), ((a 7), .inl (cZ, 180, .inl (fun i => jI (iB (gD i))))), ((a 8), .inl (cJ, 105, .inr (.inl (fun i => vL (gH i))))), ((a 9), .inl (cJ, 105, .inr (.inl (fun i => vL (gU i))))), ((a 10), .inl (cJ, 90, .inr (.inl (fun i => vL (gF i))))), ((a 11), .inl (cZ, 30, .inl (fun i => jI (iB (gX i))))), ((a 12), .inl (cJ, 5, .inr (.inl (fun i => vL (gW i)))))] H := hP
  have hD : va_D A [(m0, oR (jI ((ms : Nat) : Int)) (jI ((es : Nat) : Int)) th a), ((a 1), .inl (cI, 42, .inl (fun i => vI (gM i)))), ((a 2), .inl (cI, 30, .inl (fun i => vI (gB i)))), ((a 3), .inl (cI, 6, .inl (fun i => jI ((gT i : Nat) : Int)))), ((a 5), .inl (cI, 6, .inl (fun i => jI ((gN i : Nat) : Int)))), ((a 6), .inl (cI, 1080, .inl (fun i => vI (gK i)))), ((a 7), .inl (cZ, 180, .inl (fun i => jI (iB (gD i))))), ((a 8), .inl (cJ, 105, .inr (.inl (fun i => vL (gH i))))), ((a 9), .inl (cJ, 105, .inr (.inl (fun i => vL (gU i))))), ((a 10), .inl (cJ, 90, .inr (.inl (fun i => vL (gF i))))), ((a 11), .inl (cZ, 30, .inl (fun i => jI (iB (gX i))))), ((a 12), .inl (cJ, 5, .inr (.inl (fun i => vL (gW i)))))] := hD
  refine n_ifB_ne (tgt := 14) hx hb dX7_ofMeasurement_7 (by decide) (fun h7 => ?_) (fun h7 => Bool.noConfusion h7)
  refine lv_iload_n hx hb dX7_ofMeasurement_14 rfl (lv_at hl 3 rfl) ?_
  refine n_iconst hx hb dX7_ofMeasurement_15 ?_
  refine n_iconst hx hb dX7_ofMeasurement_16 ?_
  have ct17 := c_X7_isIn l D tys ((wh : Nat) : Int) 0 4 (by first | assumption | exact r32_z _ | (unfold r32; omega)) (by first | assumption | exact r32_z _ | (unfold r32; omega)) (by first | assumption | exact r32_z _ | (unfold r32; omega))
  refine k_goI (va_runS (As := [.int (jI ((wh : Nat) : Int)), .int (jI 0), .int (jI 4)]) (rest := [.ref m0]) ⟨hx, hb, hml, hown, hts⟩ (ct17.2 _) (va_cwS 3 hts gX7_ofMeasurement_X7_isIn rfl rfl rfl (by decide +kernel) ⟨Nat.le_of_ble_eq_true rfl, Nat.le_of_ble_eq_true rfl⟩) (k_pre hK hP hD (is := []) rfl rfl) rfl rfl hl.1 rfl (lv_room (Nat.le_of_ble_eq_true rfl)) dX7_ofMeasurement_17 ⟨Nat.le_of_ble_eq_true rfl, Nat.le_of_ble_eq_true rfl⟩) ct17.1 hP hD hS hA [] rfl rfl (fun H locs hP hD hS => ?_)
  have hP : va_P D vwCl [(m0, oR (jI ((ms : Nat) : Int)) (jI ((es : Nat) : Int)) th a), ((a 1), .inl (cI, 42, .inl (fun i => vI (gM i)))), ((a 2), .inl (cI, 30, .inl (fun i => vI (gB i)))), ((a 3), .inl (cI, 6, .inl (fun i => jI ((gT i : Nat) : Int)))), ((a 5), .inl (cI, 6, .inl (fun i => jI ((gN i : Nat) : Int)))), ((a 6), .inl (cI, 1080, .inl (fun i => vI (gK i)))), ((a 7), .inl (cZ, 180, .inl (fun i => jI (iB (gD i))))), ((a 8), .inl (cJ, 105, .inr (.inl (fun i => vL (gH i))))), ((a 9), .inl (cJ, 105, .inr (.inl (fun i => vL (gU i))))), ((a 10), .inl (cJ, 90, .inr (.inl (fun i => vL (gF i))))), ((a 11), .inl (cZ, 30, .inl (fun i => jI (iB (gX i))))), ((a 12), .inl (cJ, 5, .inr (.inl (fun i => vL (gW i)))))] H := hP
  have hD : va_D A [(m0, oR (jI ((ms : Nat) : Int)) (jI ((es : Nat) : Int)) th a), ((a 1), .inl (cI, 42, .inl (fun i => vI (gM i)))), ((a 2), .inl (cI, 30, .inl (fun i => vI (gB i)))), ((a 3), .inl (cI, 6, .inl (fun i => jI ((gT i : Nat) : Int)))), ((a 5), .inl (cI, 6, .inl (fun i => jI ((gN i : Nat) : Int)))), ((a 6), .inl (cI, 1080, .inl (fun i => vI (gK i)))), ((a 7), .inl (cZ, 180, .inl (fun i => jI (iB (gD i))))), ((a 8), .inl (cJ, 105, .inr (.inl (fun i => vL (gH i))))), ((a 9), .inl (cJ, 105, .inr (.inl (fun i => vL (gU i))))), ((a 10), .inl (cJ, 90, .inr (.inl (fun i => vL (gF i))))), ((a 11), .inl (cZ, 30, .inl (fun i => jI (iB (gX i))))), ((a 12), .inl (cJ, 5, .inr (.inl (fun i => vL (gW i)))))] := hD
  refine n_ifB_eq (tgt := 27) hx hb dX7_ofMeasurement_20 (by decide) (fun h20 => Bool.noConfusion ((inB_t (by omega) (by omega)).symm.trans h20)) (fun h20 => ?_)
  refine n_iconst hx hb dX7_ofMeasurement_23 ?_
  refine lv_goto (tgt := 28) hx hb dX7_ofMeasurement_24 (by decide) ?_
  have ct28 := c_X7_failsF l D tys m0 a ms es th
  refine k_goI (va_runV (As := [.int (jI 0)]) (rest := []) ⟨hx, hb, hml, hown, hts⟩ (ct28.2 _) (cwV 1 hts gX7_ofMeasurement_X7_fails rfl rfl rfl (by decide +kernel) ⟨Nat.le_of_ble_eq_true rfl, Nat.le_of_ble_eq_true rfl⟩) ⟨(k_pre hK hP hD (is := [0]) rfl rfl).1, va_recv hK.1 hP (ci := 7) (q0 := 0) rfl rfl, (k_pre hK hP hD (is := [0]) rfl rfl).2⟩ rfl rfl hl.1 rfl (lv_room (Nat.le_of_ble_eq_true rfl)) dX7_ofMeasurement_28 ⟨Nat.le_of_ble_eq_true rfl, Nat.le_of_ble_eq_true rfl⟩) ct28.1 hP hD hS hA [0] rfl rfl (fun H locs hP hD hS => ?_)
  have hP : va_P D vwCl [(m0, oR (jI ((ms : Nat) : Int)) (jI ((es : Nat) : Int)) (jI 0) a), ((a 1), .inl (cI, 42, .inl (fun i => vI (gM i)))), ((a 2), .inl (cI, 30, .inl (fun i => vI (gB i)))), ((a 3), .inl (cI, 6, .inl (fun i => jI ((gT i : Nat) : Int)))), ((a 5), .inl (cI, 6, .inl (fun i => jI ((gN i : Nat) : Int)))), ((a 6), .inl (cI, 1080, .inl (fun i => vI (gK i)))), ((a 7), .inl (cZ, 180, .inl (fun i => jI (iB (gD i))))), ((a 8), .inl (cJ, 105, .inr (.inl (fun i => vL (gH i))))), ((a 9), .inl (cJ, 105, .inr (.inl (fun i => vL (gU i))))), ((a 10), .inl (cJ, 90, .inr (.inl (fun i => vL (gF i))))), ((a 11), .inl (cZ, 30, .inl (fun i => jI (iB (gX i))))), ((a 12), .inl (cJ, 5, .inr (.inl (fun i => vL (gW i)))))] H := hP
  have hD : va_D A [(m0, oR (jI ((ms : Nat) : Int)) (jI ((es : Nat) : Int)) (jI 0) a), ((a 1), .inl (cI, 42, .inl (fun i => vI (gM i)))), ((a 2), .inl (cI, 30, .inl (fun i => vI (gB i)))), ((a 3), .inl (cI, 6, .inl (fun i => jI ((gT i : Nat) : Int)))), ((a 5), .inl (cI, 6, .inl (fun i => jI ((gN i : Nat) : Int)))), ((a 6), .inl (cI, 1080, .inl (fun i => vI (gK i)))), ((a 7), .inl (cZ, 180, .inl (fun i => jI (iB (gD i))))), ((a 8), .inl (cJ, 105, .inr (.inl (fun i => vL (gH i))))), ((a 9), .inl (cJ, 105, .inr (.inl (fun i => vL (gU i))))), ((a 10), .inl (cJ, 90, .inr (.inl (fun i => vL (gF i))))), ((a 11), .inl (cZ, 30, .inl (fun i => jI (iB (gX i))))), ((a 12), .inl (cJ, 5, .inr (.inl (fun i => vL (gW i)))))] := hD
  refine n_ifB_eq (tgt := 36) hx hb dX7_ofMeasurement_31 (by decide) (fun h31 => ?_) (fun h31 => Bool.noConfusion h31)
  refine lv_aload_n hx hb dX7_ofMeasurement_36 rfl (lv_at hl 0 rfl) ?_
  refine lv_iload_n hx hb dX7_ofMeasurement_37 rfl (lv_at hl 1 rfl) ?_
  have ctg := c_X7_goes l D tys htI htJ htZ m0 a ms es (jI 0) gM gB gT gN gK gD gH gU gF gX gW ev (by omega) (by omega) (by omega)
  refine k_goE (va_runV (As := [.int (jI ((ev : Nat) : Int))]) (rest := []) ⟨hx, hb, hml, hown, hts⟩ (ctg.2 _) (cwV 1 hts gX7_ofMeasurement_X7_goes rfl rfl rfl (by decide +kernel) ⟨Nat.le_of_ble_eq_true rfl, Nat.le_of_ble_eq_true rfl⟩) ⟨(k_pre hK hP hD (is := [0, 1, 2, 3, 4, 5, 6, 7, 8, 9, 10, 11]) rfl rfl).1, va_recv hK.1 hP (ci := 7) (q0 := 0) rfl rfl, (k_pre hK hP hD (is := [0, 1, 2, 3, 4, 5, 6, 7, 8, 9, 10, 11]) rfl rfl).2⟩ rfl rfl hl.1 rfl (lv_room (Nat.le_of_ble_eq_true rfl)) dX7_ofMeasurement_38 ⟨Nat.le_of_ble_eq_true rfl, Nat.le_of_ble_eq_true rfl⟩) ctg.1 hP hD hS hA [0, 1, 2, 3, 4, 5, 6, 7, 8, 9, 10, 11] rfl rfl (fun r u H locs hpost hP hD hS => ?_)
  obtain ⟨gH', gU', gF', gX', gW'⟩ := u
  have hP : va_P D vwCl [(m0, oR (jI ((ms : Nat) : Int)) (jI ((es : Nat) : Int)) (jI 0) a), ((a 1), .inl (cI, 42, .inl (fun i => vI (gM i)))), ((a 2), .inl (cI, 30, .inl (fun i => vI (gB i)))), ((a 3), .inl (cI, 6, .inl (fun i => jI ((gT i : Nat) : Int)))), ((a 5), .inl (cI, 6, .inl (fun i => jI ((gN i : Nat) : Int)))), ((a 6), .inl (cI, 1080, .inl (fun i => vI (gK i)))), ((a 7), .inl (cZ, 180, .inl (fun i => jI (iB (gD i))))), ((a 8), .inl (cJ, 105, .inr (.inl (fun i => vL (gH' i))))), ((a 9), .inl (cJ, 105, .inr (.inl (fun i => vL (gU' i))))), ((a 10), .inl (cJ, 90, .inr (.inl (fun i => vL (gF' i))))), ((a 11), .inl (cZ, 30, .inl (fun i => jI (iB (gX' i))))), ((a 12), .inl (cJ, 5, .inr (.inl (fun i => vL (gW' i)))))] H := hP
  have hD : va_D A [(m0, oR (jI ((ms : Nat) : Int)) (jI ((es : Nat) : Int)) (jI 0) a), ((a 1), .inl (cI, 42, .inl (fun i => vI (gM i)))), ((a 2), .inl (cI, 30, .inl (fun i => vI (gB i)))), ((a 3), .inl (cI, 6, .inl (fun i => jI ((gT i : Nat) : Int)))), ((a 5), .inl (cI, 6, .inl (fun i => jI ((gN i : Nat) : Int)))), ((a 6), .inl (cI, 1080, .inl (fun i => vI (gK i)))), ((a 7), .inl (cZ, 180, .inl (fun i => jI (iB (gD i))))), ((a 8), .inl (cJ, 105, .inr (.inl (fun i => vL (gH' i))))), ((a 9), .inl (cJ, 105, .inr (.inl (fun i => vL (gU' i))))), ((a 10), .inl (cJ, 90, .inr (.inl (fun i => vL (gF' i))))), ((a 11), .inl (cZ, 30, .inl (fun i => jI (iB (gX' i))))), ((a 12), .inl (cJ, 5, .inr (.inl (fun i => vL (gW' i)))))] := hD
  rcases hpost with ⟨h8, rfl⟩ | ⟨rfl, hb1, hb2, hb3⟩
  · have q := h8.symm.trans hbeh; cases q
  refine n_ifB_eq (tgt := 62) hx hb dX7_ofMeasurement_41 (by decide) (fun h41 => Bool.noConfusion h41) (fun h41 => ?_)
  refine lv_aload_n hx hb dX7_ofMeasurement_44 rfl (lv_at hl 0 rfl) ?_
  refine va_get (D := D) (ci := 7) (v := .ref (a 7)) (C := RX7) (T := TX7) (N := 20) hx hb hts iX7 hown hK.1 hP 0 rfl rfl 9 (by decide) f31 (fun _ h9 => h9) rfl dX7_ofMeasurement_45 ?_
  refine n_bipush hx hb dX7_ofMeasurement_48 (by decide) ?_
  refine lv_iload_n hx hb dX7_ofMeasurement_50 rfl (lv_at hl 1 rfl) ?_
  refine n_imul hx hb dX7_ofMeasurement_51 ?_
  refine lv_iload_n hx hb dX7_ofMeasurement_52 rfl (lv_at hl 2 rfl) ?_
  refine n_iadd hx hb dX7_ofMeasurement_53 ?_
  refine n_zald (i := (30 * ev + kv)) hx hb hK hP 6 2 rfl htZ (by omega) (by omega) (Nat.le_of_ble_eq_true rfl) dX7_ofMeasurement_54 ?_
  refine n_ifB_ne (tgt := 62) hx hb dX7_ofMeasurement_55 (by decide) (fun h55 => ?_) (fun h55 => ?_)
  · refine n_iconst hx hb dX7_ofMeasurement_62 ?_
    refine lv_istore (lv' := [(4, .int (jI 0)), (0, .ref m0), (1, .int (jI ((ev : Nat) : Int))), (2, .int (jI ((kv : Nat) : Int))), (3, .int (jI ((wh : Nat) : Int)))]) hx hb dX7_ofMeasurement_63 hl (by decide) rfl (fun ls hl => ?_)
    refine lv_iload_n hx hb dX7_ofMeasurement_65 rfl (lv_at hl 4 rfl) ?_
    refine n_if_ne (tgt := 86) hx hb (by unfold r32; omega) dX7_ofMeasurement_66 (by decide) (fun h66 => ?_) (fun h66 => ?_)
    · refine lv_iload hx hb dX7_ofMeasurement_86 (lv_at hl 0 rfl) ?_
      refine n_if_ne (tgt := 95) hx hb (by unfold r32; decide) dX7_ofMeasurement_88 (by decide) (fun h88 => False.elim (by revert h88; decide)) (fun h88 => ?_)
      refine n_iconst hx hb dX7_ofMeasurement_91 ?_
      refine lv_goto (tgt := 130) hx hb dX7_ofMeasurement_92 (by decide) ?_
      exact e_iret (gH', gU', gF', gX', gW') hx hb hr hlocks dX7_ofMeasurement_130 hP hS ⟨(by unfold omA; rw [if_neg (by omega), if_pos h55]), hb1, hb2, hb3⟩
    · refine lv_aload_n hx hb dX7_ofMeasurement_69 rfl (lv_at hl 1 rfl) ?_
      refine va_get (D := D) (ci := 7) (v := .ref (a 6)) (C := RX7) (T := TX7) (N := 20) hx hb hts iX7 hown hK.1 hP 0 rfl rfl 8 (by decide) f28 (fun _ h9 => h9) rfl dX7_ofMeasurement_70 ?_
      refine n_bipush hx hb dX7_ofMeasurement_73 (by decide) ?_
      refine n_bipush hx hb dX7_ofMeasurement_75 (by decide) ?_
      refine lv_iload_n hx hb dX7_ofMeasurement_77 rfl (lv_at hl 2 rfl) ?_
      refine n_imul hx hb dX7_ofMeasurement_78 ?_
      refine lv_iload_n hx hb dX7_ofMeasurement_79 rfl (lv_at hl 3 rfl) ?_
      refine n_iadd hx hb dX7_ofMeasurement_80 ?_
      refine n_imul hx hb dX7_ofMeasurement_81 ?_
      refine n_iald (i := (6 * (30 * ev + kv))) hx hb hK hP 5 0 rfl htI (by omega) (by omega) (Nat.le_of_ble_eq_true rfl) dX7_ofMeasurement_82 ?_
      refine lv_goto (tgt := 130) hx hb dX7_ofMeasurement_83 (by decide) ?_
      exact e_iret (gH', gU', gF', gX', gW') hx hb hr hlocks dX7_ofMeasurement_130 hP hS ⟨(if_pos (by omega)).symm, hb1, hb2, hb3⟩
  · refine n_iconst hx hb dX7_ofMeasurement_58 ?_
    refine lv_goto (tgt := 63) hx hb dX7_ofMeasurement_59 (by decide) ?_
    refine lv_istore (lv' := [(4, .int (jI 1)), (0, .ref m0), (1, .int (jI ((ev : Nat) : Int))), (2, .int (jI ((kv : Nat) : Int))), (3, .int (jI ((wh : Nat) : Int)))]) hx hb dX7_ofMeasurement_63 hl (by decide) rfl (fun ls hl => ?_)
    refine lv_iload_n hx hb dX7_ofMeasurement_65 rfl (lv_at hl 4 rfl) ?_
    refine n_if_ne (tgt := 86) hx hb (by unfold r32; omega) dX7_ofMeasurement_66 (by decide) (fun h66 => ?_) (fun h66 => ?_)
    · refine lv_iload hx hb dX7_ofMeasurement_86 (lv_at hl 0 rfl) ?_
      refine n_if_ne (tgt := 95) hx hb (by unfold r32; decide) dX7_ofMeasurement_88 (by decide) (fun h88 => ?_) (fun h88 => False.elim (by revert h88; decide))
      refine lv_iload_n hx hb dX7_ofMeasurement_95 rfl (lv_at hl 4 rfl) ?_
      refine n_iconst hx hb dX7_ofMeasurement_96 ?_
      refine n_icmp_ne (tgt := 117) hx hb (by unfold r32; omega) (by unfold r32; decide) dX7_ofMeasurement_97 (by decide) (fun h97 => ?_) (fun h97 => ?_)
      · refine lv_aload_n hx hb dX7_ofMeasurement_117 rfl (lv_at hl 1 rfl) ?_
        refine va_get (D := D) (ci := 7) (v := .ref (a 10)) (C := RX7) (T := TX7) (N := 20) hx hb hts iX7 hown hK.1 hP 0 rfl rfl 12 (by decide) f42 (fun _ h9 => h9) rfl dX7_ofMeasurement_118 ?_
        refine n_iconst hx hb dX7_ofMeasurement_121 ?_
        refine lv_iload_n hx hb dX7_ofMeasurement_122 rfl (lv_at hl 3 rfl) ?_
        refine n_imul hx hb dX7_ofMeasurement_123 ?_
        refine lv_iload_n hx hb dX7_ofMeasurement_124 rfl (lv_at hl 4 rfl) ?_
        refine n_iadd hx hb dX7_ofMeasurement_125 ?_
        refine n_iconst hx hb dX7_ofMeasurement_126 ?_
        refine n_isub hx hb dX7_ofMeasurement_127 ?_
        refine n_lald (i := (3 * kv + wh - 1)) hx hb hK hP 9 1 rfl htJ (by omega) (by omega) (Nat.le_of_ble_eq_true rfl) dX7_ofMeasurement_128 ?_
        refine n_l2i hx hb dX7_ofMeasurement_129 ?_
        exact e_iret (gH', gU', gF', gX', gW') hx hb hr hlocks dX7_ofMeasurement_130 hP hS ⟨(by obtain ⟨q, hq, o1, o2, o3, o4⟩ := hb3 kv q4 h55 (htm kv q4); unfold omA; rw [if_neg (by omega), if_neg (by rw [h55]; simp), hq]; exact omR_f (by omega) (by omega) q5 o1 o2 o3), hb1, hb2, hb3⟩
      · refine lv_aload_n hx hb dX7_ofMeasurement_100 rfl (lv_at hl 1 rfl) ?_
        refine va_get (D := D) (ci := 7) (v := .ref (a 11)) (C := RX7) (T := TX7) (N := 20) hx hb hts iX7 hown hK.1 hP 0 rfl rfl 13 (by decide) f45 (fun _ h9 => h9) rfl dX7_ofMeasurement_101 ?_
        refine lv_iload_n hx hb dX7_ofMeasurement_104 rfl (lv_at hl 3 rfl) ?_
        refine n_zald (i := kv) hx hb hK hP 10 2 rfl htZ rfl (by omega) (Nat.le_of_ble_eq_true rfl) dX7_ofMeasurement_105 ?_
        refine n_ifB_eq (tgt := 113) hx hb dX7_ofMeasurement_106 (by decide) (fun h106 => ?_) (fun h106 => ?_)
        · refine n_iconst hx hb dX7_ofMeasurement_113 ?_
          refine lv_goto (tgt := 130) hx hb dX7_ofMeasurement_114 (by decide) ?_
          exact e_iret (gH', gU', gF', gX', gW') hx hb hr hlocks dX7_ofMeasurement_130 hP hS ⟨(by obtain ⟨q, hq, o1, o2, o3, o4⟩ := hb3 kv q4 h55 (htm kv q4); unfold omA; rw [if_neg (by omega), if_neg (by rw [h55]; simp), hq]; exact omR_4 (by omega) (o4.symm.trans h106)), hb1, hb2, hb3⟩
        · refine n_iconst hx hb dX7_ofMeasurement_109 ?_
          refine lv_goto (tgt := 130) hx hb dX7_ofMeasurement_110 (by decide) ?_
          exact e_iret (gH', gU', gF', gX', gW') hx hb hr hlocks dX7_ofMeasurement_130 hP hS ⟨(by obtain ⟨q, hq, o1, o2, o3, o4⟩ := hb3 kv q4 h55 (htm kv q4); unfold omA; rw [if_neg (by omega), if_neg (by rw [h55]; simp), hq]; exact omR_4 (by omega) (o4.symm.trans h106)), hb1, hb2, hb3⟩
    · refine lv_aload_n hx hb dX7_ofMeasurement_69 rfl (lv_at hl 1 rfl) ?_
      refine va_get (D := D) (ci := 7) (v := .ref (a 6)) (C := RX7) (T := TX7) (N := 20) hx hb hts iX7 hown hK.1 hP 0 rfl rfl 8 (by decide) f28 (fun _ h9 => h9) rfl dX7_ofMeasurement_70 ?_
      refine n_bipush hx hb dX7_ofMeasurement_73 (by decide) ?_
      refine n_bipush hx hb dX7_ofMeasurement_75 (by decide) ?_
      refine lv_iload_n hx hb dX7_ofMeasurement_77 rfl (lv_at hl 2 rfl) ?_
      refine n_imul hx hb dX7_ofMeasurement_78 ?_
      refine lv_iload_n hx hb dX7_ofMeasurement_79 rfl (lv_at hl 3 rfl) ?_
      refine n_iadd hx hb dX7_ofMeasurement_80 ?_
      refine n_imul hx hb dX7_ofMeasurement_81 ?_
      refine n_iald (i := (6 * (30 * ev + kv))) hx hb hK hP 5 0 rfl htI (by omega) (by omega) (Nat.le_of_ble_eq_true rfl) dX7_ofMeasurement_82 ?_
      refine lv_goto (tgt := 130) hx hb dX7_ofMeasurement_83 (by decide) ?_
      exact e_iret (gH', gU', gF', gX', gW') hx hb hr hlocks dX7_ofMeasurement_130 hP hS ⟨(if_pos (by omega)).symm, hb1, hb2, hb3⟩

set_option maxHeartbeats 4000000 in
set_option maxRecDepth 100000 in
/--  -/
theorem c_X7_information1 (l : Launch) (D : va_G) (tys : List (ClassId × FieldType)) {cI cJ cZ : ClassId} (htI : tys[0]? = some (cI, .int)) (htJ : tys[1]? = some (cJ, .long)) (htZ : tys[2]? = some (cZ, .boolean)) (m0 : Nat) (a : Nat → Nat) (ms es : Nat) (th : Int32) (q1 : ms ≤ 6) (q2 : es ≤ 6) (ev wh : Int) (q3 : r32 ev) (q4 : r32 wh) (h9 : (inB 0 (((es : Nat) : Int) - 1) ev) = false) : CtI l D tys yX7_information wsX7_information 2 43 [.ref m0, .int (jI ev), .int (jI wh)] (jI 0) [(m0, oR (jI ((ms : Nat) : Int)) (jI ((es : Nat) : Int)) th a)] [(m0, oR (jI ((ms : Nat) : Int)) (jI ((es : Nat) : Int)) (jI 1) a)] := by
  refine CtI.of (cc := cX7_information) (maxL := 5) (by decide +kernel) rfl rfl (Nat.le_of_ble_eq_true rfl) ?_
  intro p e s m below meth c A ls hcx hK hP hD hA hl
  obtain ⟨hx, hb, hr, hml, hown, hts, hlocks⟩ := hcx
  have hS : va_S A s.heap s.heap [] := va_S.rf
  have hown : s.vm.findClass RX7 = some m.cls := hown
  have hl : lv_has ls 5 [(0, .ref m0), (1, .int (jI ev)), (2, .int (jI wh))] := hl
  refine lv_aload_n hx hb dX7_information_0 rfl (lv_at hl 0 rfl) ?_
  refine lv_iload_n hx hb dX7_information_1 rfl (lv_at hl 1 rfl) ?_
  have ct2 := c_X7_isOne l D tys m0 a ms es th ev (by first | assumption | exact r32_z _ | (unfold r32; omega)) (by omega) (by omega)
  refine k_goI (va_runV (As := [.int (jI ev)]) (rest := []) ⟨hx, hb, hml, hown, hts⟩ (ct2.2 _) (cwV 1 hts gX7_information_X7_isOne rfl rfl rfl (by decide +kernel) ⟨Nat.le_of_ble_eq_true rfl, Nat.le_of_ble_eq_true rfl⟩) ⟨(k_pre hK hP hD (is := [0]) rfl rfl).1, va_recv hK.1 hP (ci := 7) (q0 := 0) rfl rfl, (k_pre hK hP hD (is := [0]) rfl rfl).2⟩ rfl rfl hl.1 rfl (lv_room (Nat.le_of_ble_eq_true rfl)) dX7_information_2 ⟨Nat.le_of_ble_eq_true rfl, Nat.le_of_ble_eq_true rfl⟩) ct2.1 hP hD hS hA [0] rfl rfl (fun H locs hP hD hS => ?_)
  have hP : va_P D vwCl [(m0, oR (jI ((ms : Nat) : Int)) (jI ((es : Nat) : Int)) th a)] H := hP
  have hD : va_D A [(m0, oR (jI ((ms : Nat) : Int)) (jI ((es : Nat) : Int)) th a)] := hD
  refine n_ifB_eq (tgt := 21) hx hb dX7_information_5 (by decide) (fun h5 => ?_) (fun h5 => Bool.noConfusion (h9.symm.trans h5))
  refine n_iconst hx hb dX7_information_21 ?_
  refine lv_istore_n (lv' := [(3, .int (jI 0)), (0, .ref m0), (1, .int (jI ev)), (2, .int (jI wh))]) hx hb dX7_information_22 rfl hl (by decide) rfl (fun ls hl => ?_)
  refine lv_iload_n hx hb dX7_information_23 rfl (lv_at hl 0 rfl) ?_
  refine n_if_eq (tgt := 39) hx hb (by unfold r32; decide) dX7_information_24 (by decide) (fun h24 => ?_) (fun h24 => False.elim (by revert h24; decide))
  refine n_iconst hx hb dX7_information_39 ?_
  refine lv_istore (lv' := [(4, .int (jI 0)), (3, .int (jI 0)), (0, .ref m0), (1, .int (jI ev)), (2, .int (jI wh))]) hx hb dX7_information_40 hl (by decide) rfl (fun ls hl => ?_)
  refine lv_iload hx hb dX7_information_42 (lv_at hl 0 rfl) ?_
  refine n_if_eq (tgt := 63) hx hb (by unfold r32; decide) dX7_information_44 (by decide) (fun h44 => ?_) (fun h44 => False.elim (by revert h44; decide))
  refine lv_aload_n hx hb dX7_information_63 rfl (lv_at hl 2 rfl) ?_
  refine lv_aload_n hx hb dX7_information_64 rfl (lv_at hl 2 rfl) ?_
  refine lv_iload_n hx hb dX7_information_65 rfl (lv_at hl 3 rfl) ?_
  have ct66 := c_X7_isOne l D tys m0 a ms es th ev (by first | assumption | exact r32_z _ | (unfold r32; omega)) (by omega) (by omega)
  refine k_goI (va_runV (As := [.int (jI ev)]) (rest := [.ref m0]) ⟨hx, hb, hml, hown, hts⟩ (ct66.2 _) (cwV 1 hts gX7_information_X7_isOne rfl rfl rfl (by decide +kernel) ⟨Nat.le_of_ble_eq_true rfl, Nat.le_of_ble_eq_true rfl⟩) ⟨(k_pre hK hP hD (is := [0]) rfl rfl).1, va_recv hK.1 hP (ci := 7) (q0 := 0) rfl rfl, (k_pre hK hP hD (is := [0]) rfl rfl).2⟩ rfl rfl hl.1 rfl (lv_room (Nat.le_of_ble_eq_true rfl)) dX7_information_66 ⟨Nat.le_of_ble_eq_true rfl, Nat.le_of_ble_eq_true rfl⟩) ct66.1 hP hD hS hA [0] rfl rfl (fun H locs hP hD hS => ?_)
  have hP : va_P D vwCl [(m0, oR (jI ((ms : Nat) : Int)) (jI ((es : Nat) : Int)) th a)] H := hP
  have hD : va_D A [(m0, oR (jI ((ms : Nat) : Int)) (jI ((es : Nat) : Int)) th a)] := hD
  refine n_ifB_ne (tgt := 76) hx hb dX7_information_69 (by decide) (fun h69 => Bool.noConfusion (h9.symm.trans h69)) (fun h69 => ?_)
  refine n_iconst hx hb dX7_information_72 ?_
  refine lv_goto (tgt := 94) hx hb dX7_information_73 (by decide) ?_
  have ct94 := c_X7_failsT l D tys m0 a ms es th 1 (by unfold r32; decide) (by decide)
  refine k_goI (va_runV (As := [.int (jI 1)]) (rest := []) ⟨hx, hb, hml, hown, hts⟩ (ct94.2 _) (cwV 1 hts gX7_information_X7_fails rfl rfl rfl (by decide +kernel) ⟨Nat.le_of_ble_eq_true rfl, Nat.le_of_ble_eq_true rfl⟩) ⟨(k_pre hK hP hD (is := [0]) rfl rfl).1, va_recv hK.1 hP (ci := 7) (q0 := 0) rfl rfl, (k_pre hK hP hD (is := [0]) rfl rfl).2⟩ rfl rfl hl.1 rfl (lv_room (Nat.le_of_ble_eq_true rfl)) dX7_information_94 ⟨Nat.le_of_ble_eq_true rfl, Nat.le_of_ble_eq_true rfl⟩) ct94.1 hP hD hS hA [0] rfl rfl (fun H locs hP hD hS => ?_)
  have hP : va_P D vwCl [(m0, oR (jI ((ms : Nat) : Int)) (jI ((es : Nat) : Int)) (jI 1) a)] H := hP
  have hD : va_D A [(m0, oR (jI ((ms : Nat) : Int)) (jI ((es : Nat) : Int)) (jI 1) a)] := hD
  refine n_ifB_eq (tgt := 104) hx hb dX7_information_97 (by decide) (fun h97 => Bool.noConfusion h97) (fun h97 => ?_)
  refine n_iconst hx hb dX7_information_100 ?_
  refine lv_goto (tgt := 111) hx hb dX7_information_101 (by decide) ?_
  exact k_iret hx hb hr hlocks dX7_information_111 hP hS rfl

set_option maxHeartbeats 4000000 in
set_option maxRecDepth 100000 in
/--  -/
theorem c_X7_information2 (l : Launch) (D : va_G) (tys : List (ClassId × FieldType)) {cI cJ cZ : ClassId} (htI : tys[0]? = some (cI, .int)) (htJ : tys[1]? = some (cJ, .long)) (htZ : tys[2]? = some (cZ, .boolean)) (m0 : Nat) (a : Nat → Nat) (ms es : Nat) (th : Int32) (q1 : ms ≤ 6) (q2 : es ≤ 6) (ev : Nat) (wh : Int) (q3 : ev < es) (q4 : r32 wh) (h9 : (inB 0 4 wh) = false) : CtI l D tys yX7_information wsX7_information 2 43 [.ref m0, .int (jI ((ev : Nat) : Int)), .int (jI wh)] (jI 0) [(m0, oR (jI ((ms : Nat) : Int)) (jI ((es : Nat) : Int)) th a)] [(m0, oR (jI ((ms : Nat) : Int)) (jI ((es : Nat) : Int)) (jI 2) a)] := by
  refine CtI.of (cc := cX7_information) (maxL := 5) (by decide +kernel) rfl rfl (Nat.le_of_ble_eq_true rfl) ?_
  intro p e s m below meth c A ls hcx hK hP hD hA hl
  obtain ⟨hx, hb, hr, hml, hown, hts, hlocks⟩ := hcx
  have hS : va_S A s.heap s.heap [] := va_S.rf
  have hown : s.vm.findClass RX7 = some m.cls := hown
  have hl : lv_has ls 5 [(0, .ref m0), (1, .int (jI ((ev : Nat) : Int))), (2, .int (jI wh))] := hl
  refine lv_aload_n hx hb dX7_information_0 rfl (lv_at hl 0 rfl) ?_
  refine lv_iload_n hx hb dX7_information_1 rfl (lv_at hl 1 rfl) ?_
  have ct2 := c_X7_isOne l D tys m0 a ms es th ((ev : Nat) : Int) (by first | assumption | exact r32_z _ | (unfold r32; omega)) (by omega) (by omega)
  refine k_goI (va_runV (As := [.int (jI ((ev : Nat) : Int))]) (rest := []) ⟨hx, hb, hml, hown, hts⟩ (ct2.2 _) (cwV 1 hts gX7_information_X7_isOne rfl rfl rfl (by decide +kernel) ⟨Nat.le_of_ble_eq_true rfl, Nat.le_of_ble_eq_true rfl⟩) ⟨(k_pre hK hP hD (is := [0]) rfl rfl).1, va_recv hK.1 hP (ci := 7) (q0 := 0) rfl rfl, (k_pre hK hP hD (is := [0]) rfl rfl).2⟩ rfl rfl hl.1 rfl (lv_room (Nat.le_of_ble_eq_true rfl)) dX7_information_2 ⟨Nat.le_of_ble_eq_true rfl, Nat.le_of_ble_eq_true rfl⟩) ct2.1 hP hD hS hA [0] rfl rfl (fun H locs hP hD hS => ?_)
  have hP : va_P D vwCl [(m0, oR (jI ((ms : Nat) : Int)) (jI ((es : Nat) : Int)) th a)] H := hP
  have hD : va_D A [(m0, oR (jI ((ms : Nat) : Int)) (jI ((es : Nat) : Int)) th a)] := hD
  refine n_ifB_eq (tgt := 21) hx hb dX7_information_5 (by decide) (fun h5 => Bool.noConfusion ((inB_t (by omega) (by omega)).symm.trans h5)) (fun h5 => ?_)
  refine lv_iload_n hx hb dX7_information_8 rfl (lv_at hl 2 rfl) ?_
  refine n_iconst hx hb dX7_information_9 ?_
  refine n_iconst hx hb dX7_information_10 ?_
  have ct11 := c_X7_isIn l D tys wh 0 4 (by first | assumption | exact r32_z _ | (unfold r32; omega)) (by first | assumption | exact r32_z _ | (unfold r32; omega)) (by first | assumption | exact r32_z _ | (unfold r32; omega))
  refine k_goI (va_runS (As := [.int (jI wh), .int (jI 0), .int (jI 4)]) (rest := []) ⟨hx, hb, hml, hown, hts⟩ (ct11.2 _) (va_cwS 3 hts gX7_information_X7_isIn rfl rfl rfl (by decide +kernel) ⟨Nat.le_of_ble_eq_true rfl, Nat.le_of_ble_eq_true rfl⟩) (k_pre hK hP hD (is := []) rfl rfl) rfl rfl hl.1 rfl (lv_room (Nat.le_of_ble_eq_true rfl)) dX7_information_11 ⟨Nat.le_of_ble_eq_true rfl, Nat.le_of_ble_eq_true rfl⟩) ct11.1 hP hD hS hA [] rfl rfl (fun H locs hP hD hS => ?_)
  have hP : va_P D vwCl [(m0, oR (jI ((ms : Nat) : Int)) (jI ((es : Nat) : Int)) th a)] H := hP
  have hD : va_D A [(m0, oR (jI ((ms : Nat) : Int)) (jI ((es : Nat) : Int)) th a)] := hD
  refine n_ifB_eq (tgt := 21) hx hb dX7_information_14 (by decide) (fun h14 => ?_) (fun h14 => Bool.noConfusion (h9.symm.trans h14))
  refine n_iconst hx hb dX7_information_21 ?_
  refine lv_istore_n (lv' := [(3, .int (jI 0)), (0, .ref m0), (1, .int (jI ((ev : Nat) : Int))), (2, .int (jI wh))]) hx hb dX7_information_22 rfl hl (by decide) rfl (fun ls hl => ?_)
  refine lv_iload_n hx hb dX7_information_23 rfl (lv_at hl 0 rfl) ?_
  refine n_if_eq (tgt := 39) hx hb (by unfold r32; decide) dX7_information_24 (by decide) (fun h24 => ?_) (fun h24 => False.elim (by revert h24; decide))
  refine n_iconst hx hb dX7_information_39 ?_
  refine lv_istore (lv' := [(4, .int (jI 0)), (3, .int (jI 0)), (0, .ref m0), (1, .int (jI ((ev : Nat) : Int))), (2, .int (jI wh))]) hx hb dX7_information_40 hl (by decide) rfl (fun ls hl => ?_)
  refine lv_iload hx hb dX7_information_42 (lv_at hl 0 rfl) ?_
  refine n_if_eq (tgt := 63) hx hb (by unfold r32; decide) dX7_information_44 (by decide) (fun h44 => ?_) (fun h44 => False.elim (by revert h44; decide))
  refine lv_aload_n hx hb dX7_information_63 rfl (lv_at hl 2 rfl) ?_
  refine lv_aload_n hx hb dX7_information_64 rfl (lv_at hl 2 rfl) ?_
  refine lv_iload_n hx hb dX7_information_65 rfl (lv_at hl 3 rfl) ?_
  have ct66 := c_X7_isOne l D tys m0 a ms es th ((ev : Nat) : Int) (by first | assumption | exact r32_z _ | (unfold r32; omega)) (by omega) (by omega)
  refine k_goI (va_runV (As := [.int (jI ((ev : Nat) : Int))]) (rest := [.ref m0]) ⟨hx, hb, hml, hown, hts⟩ (ct66.2 _) (cwV 1 hts gX7_information_X7_isOne rfl rfl rfl (by decide +kernel) ⟨Nat.le_of_ble_eq_true rfl, Nat.le_of_ble_eq_true rfl⟩) ⟨(k_pre hK hP hD (is := [0]) rfl rfl).1, va_recv hK.1 hP (ci := 7) (q0 := 0) rfl rfl, (k_pre hK hP hD (is := [0]) rfl rfl).2⟩ rfl rfl hl.1 rfl (lv_room (Nat.le_of_ble_eq_true rfl)) dX7_information_66 ⟨Nat.le_of_ble_eq_true rfl, Nat.le_of_ble_eq_true rfl⟩) ct66.1 hP hD hS hA [0] rfl rfl (fun H locs hP hD hS => ?_)
  have hP : va_P D vwCl [(m0, oR (jI ((ms : Nat) : Int)) (jI ((es : Nat) : Int)) th a)] H := hP
  have hD : va_D A [(m0, oR (jI ((ms : Nat) : Int)) (jI ((es : Nat) : Int)) th a)] := hD
  refine n_ifB_ne (tgt := 76) hx hb dX7_information_69 (by decide) (fun h69 => ?_) (fun h69 => Bool.noConfusion ((inB_t (by omega) (by omega)).symm.trans h69))
  refine lv_iload_n hx hb dX7_information_76 rfl (lv_at hl 1 rfl) ?_
  refine n_if_ne (tgt := 84) hx hb (by unfold r32; decide) dX7_information_77 (by decide) (fun h77 => False.elim (by revert h77; decide)) (fun h77 => ?_)
  refine n_iconst hx hb dX7_information_80 ?_
  refine lv_goto (tgt := 94) hx hb dX7_information_81 (by decide) ?_
  have ct94 := c_X7_failsT l D tys m0 a ms es th 2 (by unfold r32; decide) (by decide)
  refine k_goI (va_runV (As := [.int (jI 2)]) (rest := []) ⟨hx, hb, hml, hown, hts⟩ (ct94.2 _) (cwV 1 hts gX7_information_X7_fails rfl rfl rfl (by decide +kernel) ⟨Nat.le_of_ble_eq_true rfl, Nat.le_of_ble_eq_true rfl⟩) ⟨(k_pre hK hP hD (is := [0]) rfl rfl).1, va_recv hK.1 hP (ci := 7) (q0 := 0) rfl rfl, (k_pre hK hP hD (is := [0]) rfl rfl).2⟩ rfl rfl hl.1 rfl (lv_room (Nat.le_of_ble_eq_true rfl)) dX7_information_94 ⟨Nat.le_of_ble_eq_true rfl, Nat.le_of_ble_eq_true rfl⟩) ct94.1 hP hD hS hA [0] rfl rfl (fun H locs hP hD hS => ?_)
  have hP : va_P D vwCl [(m0, oR (jI ((ms : Nat) : Int)) (jI ((es : Nat) : Int)) (jI 2) a)] H := hP
  have hD : va_D A [(m0, oR (jI ((ms : Nat) : Int)) (jI ((es : Nat) : Int)) (jI 2) a)] := hD
  refine n_ifB_eq (tgt := 104) hx hb dX7_information_97 (by decide) (fun h97 => Bool.noConfusion h97) (fun h97 => ?_)
  refine n_iconst hx hb dX7_information_100 ?_
  refine lv_goto (tgt := 111) hx hb dX7_information_101 (by decide) ?_
  exact k_iret hx hb hr hlocks dX7_information_111 hP hS rfl

set_option maxHeartbeats 8000000 in
set_option maxRecDepth 100000 in
/--  -/
theorem c_X7_information3 (l : Launch) (D : va_G) (tys : List (ClassId × FieldType)) {cI cJ cZ : ClassId} (htI : tys[0]? = some (cI, .int)) (htJ : tys[1]? = some (cJ, .long)) (htZ : tys[2]? = some (cZ, .boolean)) (m0 : Nat) (a : Nat → Nat) (ms es : Nat) (th : Int32) (gM : Nat → Zp) (gB : Nat → Zp) (gT : Nat → Nat) (gN : Nat → Nat) (gK : Nat → Zp) (gD : Nat → Bool) (gH : Nat → Zp) (gU : Nat → Zp) (gF : Nat → Zp) (gX : Nat → Bool) (gW : Nat → Zp) (q1 : ms ≤ 6) (q2 : es ≤ 6) (ev wh : Nat) (q3 : ev < es) (q4 : wh ≤ 4) (qT : gT ev ≤ 20) (qN : gN ev ≤ 30) (htm : ∀ k, k < gN ev → (gK (6 * (30 * ev + k) + 0)).val ≤ gT ev) (st : S5) (hbeh : beh (fun i => gM (7 * ev + i)) (s5at gB ev) (fun k c => gK (6 * (30 * ev + k) + c)) (fun k => gD (30 * ev + k)) (gN ev) (gT ev) = some st) (h9 : det5 st = 0) : CtE (S := (Nat → Zp) × (Nat → Zp) × (Nat → Zp) × (Nat → Bool) × (Nat → Zp)) l D tys yX7_information wsX7_information 4 110 [.ref m0, .int (jI ((ev : Nat) : Int)), .int (jI ((wh : Nat) : Int))] (fun (r : Int32) (_ : (Nat → Zp) × (Nat → Zp) × (Nat → Zp) × (Nat → Bool) × (Nat → Zp)) => r = jI 0) [(m0, oR (jI ((ms : Nat) : Int)) (jI ((es : Nat) : Int)) th a), ((a 1), .inl (cI, 42, .inl (fun i => vI (gM i)))), ((a 2), .inl (cI, 30, .inl (fun i => vI (gB i)))), ((a 3), .inl (cI, 6, .inl (fun i => jI ((gT i : Nat) : Int)))), ((a 5), .inl (cI, 6, .inl (fun i => jI ((gN i : Nat) : Int)))), ((a 6), .inl (cI, 1080, .inl (fun i => vI (gK i)))), ((a 7), .inl (cZ, 180, .inl (fun i => jI (iB (gD i))))), ((a 8), .inl (cJ, 105, .inr (.inl (fun i => vL (gH i))))), ((a 9), .inl (cJ, 105, .inr (.inl (fun i => vL (gU i))))), ((a 10), .inl (cJ, 90, .inr (.inl (fun i => vL (gF i))))), ((a 11), .inl (cZ, 30, .inl (fun i => jI (iB (gX i))))), ((a 12), .inl (cJ, 5, .inr (.inl (fun i => vL (gW i)))))] (fun u => [(m0, oR (jI ((ms : Nat) : Int)) (jI ((es : Nat) : Int)) (jI 3) a), ((a 1), .inl (cI, 42, .inl (fun i => vI (gM i)))), ((a 2), .inl (cI, 30, .inl (fun i => vI (gB i)))), ((a 3), .inl (cI, 6, .inl (fun i => jI ((gT i : Nat) : Int)))), ((a 5), .inl (cI, 6, .inl (fun i => jI ((gN i : Nat) : Int)))), ((a 6), .inl (cI, 1080, .inl (fun i => vI (gK i)))), ((a 7), .inl (cZ, 180, .inl (fun i => jI (iB (gD i))))), ((a 8), .inl (cJ, 105, .inr (.inl (fun i => vL (u.1 i))))), ((a 9), .inl (cJ, 105, .inr (.inl (fun i => vL (u.2.1 i))))), ((a 10), .inl (cJ, 90, .inr (.inl (fun i => vL (u.2.2.1 i))))), ((a 11), .inl (cZ, 30, .inl (fun i => jI (iB (u.2.2.2.1 i))))), ((a 12), .inl (cJ, 5, .inr (.inl (fun i => vL (u.2.2.2.2 i)))))]) := by
  refine CtE.of (cc := cX7_information) (maxL := 5) (by decide +kernel) rfl (fun _ => rfl) (Nat.le_of_ble_eq_true rfl) ?_
  intro p e s m below meth c A ls hcx hK hP hD hA hl
  obtain ⟨hx, hb, hr, hml, hown, hts, hlocks⟩ := hcx
  have hS : va_S A s.heap s.heap [] := va_S.rf
  have hown : s.vm.findClass RX7 = some m.cls := hown
  have hl : lv_has ls 5 [(0, .ref m0), (1, .int (jI ((ev : Nat) : Int))), (2, .int (jI ((wh : Nat) : Int)))] := hl
  have f48 := hts (.fieldLink RX7 48 "FieldFilterModel" "now" "[J") (by decide +kernel)
  have iX7 : ∀ w ∈ u_ws RX7 TX7 20, w ∈ wsX7_information := by decide +kernel
  refine lv_aload_n hx hb dX7_information_0 rfl (lv_at hl 0 rfl) ?_
  refine lv_iload_n hx hb dX7_information_1 rfl (lv_at hl 1 rfl) ?_
  have ct2 := c_X7_isOne l D tys m0 a ms es th ((ev : Nat) : Int) (by first | assumption | exact r32_z _ | (unfold r32; omega)) (by omega) (by omega)
  refine k_goI (va_runV (As := [.int (jI ((ev : Nat) : Int))]) (rest := []) ⟨hx, hb, hml, hown, hts⟩ (ct2.2 _) (cwV 1 hts gX7_information_X7_isOne rfl rfl rfl (by decide +kernel) ⟨Nat.le_of_ble_eq_true rfl, Nat.le_of_ble_eq_true rfl⟩) ⟨(k_pre hK hP hD (is := [0]) rfl rfl).1, va_recv hK.1 hP (ci := 7) (q0 := 0) rfl rfl, (k_pre hK hP hD (is := [0]) rfl rfl).2⟩ rfl rfl hl.1 rfl (lv_room (Nat.le_of_ble_eq_true rfl)) dX7_information_2 ⟨Nat.le_of_ble_eq_true rfl, Nat.le_of_ble_eq_true rfl⟩) ct2.1 hP hD hS hA [0] rfl rfl (fun H locs hP hD hS => ?_)
  have hP : va_P D vwCl [(m0, oR (jI ((ms : Nat) : Int)) (jI ((es : Nat) : Int)) th a), ((a 1), .inl (cI, 42, .inl (fun i => vI (gM i)))), ((a 2), .inl (cI, 30, .inl (fun i => vI (gB i)))), ((a 3), .inl (cI, 6, .inl (fun i => jI ((gT i : Nat) : Int)))), ((a 5), .inl (cI, 6, .inl (fun i => jI ((gN i : Nat) : Int)))), ((a 6), .inl (cI, 1080, .inl (fun i => vI (gK i)))), ((a 7), .inl (cZ, 180, .inl (fun i => jI (iB (gD i))))), ((a 8), .inl (cJ, 105, .inr (.inl (fun i => vL (gH i))))), ((a 9), .inl (cJ, 105, .inr (.inl (fun i => vL (gU i))))), ((a 10), .inl (cJ, 90, .inr (.inl (fun i => vL (gF i))))), ((a 11), .inl (cZ, 30, .inl (fun i => jI (iB (gX i))))), ((a 12), .inl (cJ, 5, .inr (.inl (fun i => vL (gW i)))))] H := hP
  have hD : va_D A [(m0, oR (jI ((ms : Nat) : Int)) (jI ((es : Nat) : Int)) th a), ((a 1), .inl (cI, 42, .inl (fun i => vI (gM i)))), ((a 2), .inl (cI, 30, .inl (fun i => vI (gB i)))), ((a 3), .inl (cI, 6, .inl (fun i => jI ((gT i : Nat) : Int)))), ((a 5), .inl (cI, 6, .inl (fun i => jI ((gN i : Nat) : Int)))), ((a 6), .inl (cI, 1080, .inl (fun i => vI (gK i)))), ((a 7), .inl (cZ, 180, .inl (fun i => jI (iB (gD i))))), ((a 8), .inl (cJ, 105, .inr (.inl (fun i => vL (gH i))))), ((a 9), .inl (cJ, 105, .inr (.inl (fun i => vL (gU i))))), ((a 10), .inl (cJ, 90, .inr (.inl (fun i => vL (gF i))))), ((a 11), .inl (cZ, 30, .inl (fun i => jI (iB (gX i))))), ((a 12), .inl (cJ, 5, .inr (.inl (fun i => vL (gW i)))))] := hD
  refine n_ifB_eq (tgt := 21) hx hb dX7_information_5 (by decide) (fun h5 => Bool.noConfusion ((inB_t (by omega) (by omega)).symm.trans h5)) (fun h5 => ?_)
  refine lv_iload_n hx hb dX7_information_8 rfl (lv_at hl 2 rfl) ?_
  refine n_iconst hx hb dX7_information_9 ?_
  refine n_iconst hx hb dX7_information_10 ?_
  have ct11 := c_X7_isIn l D tys ((wh : Nat) : Int) 0 4 (by first | assumption | exact r32_z _ | (unfold r32; omega)) (by first | assumption | exact r32_z _ | (unfold r32; omega)) (by first | assumption | exact r32_z _ | (unfold r32; omega))
  refine k_goI (va_runS (As := [.int (jI ((wh : Nat) : Int)), .int (jI 0), .int (jI 4)]) (rest := []) ⟨hx, hb, hml, hown, hts⟩ (ct11.2 _) (va_cwS 3 hts gX7_information_X7_isIn rfl rfl rfl (by decide +kernel) ⟨Nat.le_of_ble_eq_true rfl, Nat.le_of_ble_eq_true rfl⟩) (k_pre hK hP hD (is := []) rfl rfl) rfl rfl hl.1 rfl (lv_room (Nat.le_of_ble_eq_true rfl)) dX7_information_11 ⟨Nat.le_of_ble_eq_true rfl, Nat.le_of_ble_eq_true rfl⟩) ct11.1 hP hD hS hA [] rfl rfl (fun H locs hP hD hS => ?_)
  have hP : va_P D vwCl [(m0, oR (jI ((ms : Nat) : Int)) (jI ((es : Nat) : Int)) th a), ((a 1), .inl (cI, 42, .inl (fun i => vI (gM i)))), ((a 2), .inl (cI, 30, .inl (fun i => vI (gB i)))), ((a 3), .inl (cI, 6, .inl (fun i => jI ((gT i : Nat) : Int)))), ((a 5), .inl (cI, 6, .inl (fun i => jI ((gN i : Nat) : Int)))), ((a 6), .inl (cI, 1080, .inl (fun i => vI (gK i)))), ((a 7), .inl (cZ, 180, .inl (fun i => jI (iB (gD i))))), ((a 8), .inl (cJ, 105, .inr (.inl (fun i => vL (gH i))))), ((a 9), .inl (cJ, 105, .inr (.inl (fun i => vL (gU i))))), ((a 10), .inl (cJ, 90, .inr (.inl (fun i => vL (gF i))))), ((a 11), .inl (cZ, 30, .inl (fun i => jI (iB (gX i))))), ((a 12), .inl (cJ, 5, .inr (.inl (fun i => vL (gW i)))))] H := hP
  have hD : va_D A [(m0, oR (jI ((ms : Nat) : Int)) (jI ((es : Nat) : Int)) th a), ((a 1), .inl (cI, 42, .inl (fun i => vI (gM i)))), ((a 2), .inl (cI, 30, .inl (fun i => vI (gB i)))), ((a 3), .inl (cI, 6, .inl (fun i => jI ((gT i : Nat) : Int)))), ((a 5), .inl (cI, 6, .inl (fun i => jI ((gN i : Nat) : Int)))), ((a 6), .inl (cI, 1080, .inl (fun i => vI (gK i)))), ((a 7), .inl (cZ, 180, .inl (fun i => jI (iB (gD i))))), ((a 8), .inl (cJ, 105, .inr (.inl (fun i => vL (gH i))))), ((a 9), .inl (cJ, 105, .inr (.inl (fun i => vL (gU i))))), ((a 10), .inl (cJ, 90, .inr (.inl (fun i => vL (gF i))))), ((a 11), .inl (cZ, 30, .inl (fun i => jI (iB (gX i))))), ((a 12), .inl (cJ, 5, .inr (.inl (fun i => vL (gW i)))))] := hD
  refine n_ifB_eq (tgt := 21) hx hb dX7_information_14 (by decide) (fun h14 => Bool.noConfusion ((inB_t (by omega) (by omega)).symm.trans h14)) (fun h14 => ?_)
  refine n_iconst hx hb dX7_information_17 ?_
  refine lv_goto (tgt := 22) hx hb dX7_information_18 (by decide) ?_
  refine lv_istore_n (lv' := [(3, .int (jI 1)), (0, .ref m0), (1, .int (jI ((ev : Nat) : Int))), (2, .int (jI ((wh : Nat) : Int)))]) hx hb dX7_information_22 rfl hl (by decide) rfl (fun ls hl => ?_)
  refine lv_iload_n hx hb dX7_information_23 rfl (lv_at hl 0 rfl) ?_
  refine n_if_eq (tgt := 39) hx hb (by unfold r32; decide) dX7_information_24 (by decide) (fun h24 => False.elim (by revert h24; decide)) (fun h24 => ?_)
  refine lv_aload_n hx hb dX7_information_27 rfl (lv_at hl 1 rfl) ?_
  refine lv_iload_n hx hb dX7_information_28 rfl (lv_at hl 2 rfl) ?_
  have ctg := c_X7_goes l D tys htI htJ htZ m0 a ms es th gM gB gT gN gK gD gH gU gF gX gW ev (by omega) (by omega) (by omega)
  refine k_goE (va_runV (As := [.int (jI ((ev : Nat) : Int))]) (rest := []) ⟨hx, hb, hml, hown, hts⟩ (ctg.2 _) (cwV 1 hts gX7_information_X7_goes rfl rfl rfl (by decide +kernel) ⟨Nat.le_of_ble_eq_true rfl, Nat.le_of_ble_eq_true rfl⟩) ⟨(k_pre hK hP hD (is := [0, 1, 2, 3, 4, 5, 6, 7, 8, 9, 10, 11]) rfl rfl).1, va_recv hK.1 hP (ci := 7) (q0 := 0) rfl rfl, (k_pre hK hP hD (is := [0, 1, 2, 3, 4, 5, 6, 7, 8, 9, 10, 11]) rfl rfl).2⟩ rfl rfl hl.1 rfl (lv_room (Nat.le_of_ble_eq_true rfl)) dX7_information_29 ⟨Nat.le_of_ble_eq_true rfl, Nat.le_of_ble_eq_true rfl⟩) ctg.1 hP hD hS hA [0, 1, 2, 3, 4, 5, 6, 7, 8, 9, 10, 11] rfl rfl (fun r u H locs hpost hP hD hS => ?_)
  obtain ⟨gH', gU', gF', gX', gW'⟩ := u
  have hP : va_P D vwCl [(m0, oR (jI ((ms : Nat) : Int)) (jI ((es : Nat) : Int)) th a), ((a 1), .inl (cI, 42, .inl (fun i => vI (gM i)))), ((a 2), .inl (cI, 30, .inl (fun i => vI (gB i)))), ((a 3), .inl (cI, 6, .inl (fun i => jI ((gT i : Nat) : Int)))), ((a 5), .inl (cI, 6, .inl (fun i => jI ((gN i : Nat) : Int)))), ((a 6), .inl (cI, 1080, .inl (fun i => vI (gK i)))), ((a 7), .inl (cZ, 180, .inl (fun i => jI (iB (gD i))))), ((a 8), .inl (cJ, 105, .inr (.inl (fun i => vL (gH' i))))), ((a 9), .inl (cJ, 105, .inr (.inl (fun i => vL (gU' i))))), ((a 10), .inl (cJ, 90, .inr (.inl (fun i => vL (gF' i))))), ((a 11), .inl (cZ, 30, .inl (fun i => jI (iB (gX' i))))), ((a 12), .inl (cJ, 5, .inr (.inl (fun i => vL (gW' i)))))] H := hP
  have hD : va_D A [(m0, oR (jI ((ms : Nat) : Int)) (jI ((es : Nat) : Int)) th a), ((a 1), .inl (cI, 42, .inl (fun i => vI (gM i)))), ((a 2), .inl (cI, 30, .inl (fun i => vI (gB i)))), ((a 3), .inl (cI, 6, .inl (fun i => jI ((gT i : Nat) : Int)))), ((a 5), .inl (cI, 6, .inl (fun i => jI ((gN i : Nat) : Int)))), ((a 6), .inl (cI, 1080, .inl (fun i => vI (gK i)))), ((a 7), .inl (cZ, 180, .inl (fun i => jI (iB (gD i))))), ((a 8), .inl (cJ, 105, .inr (.inl (fun i => vL (gH' i))))), ((a 9), .inl (cJ, 105, .inr (.inl (fun i => vL (gU' i))))), ((a 10), .inl (cJ, 90, .inr (.inl (fun i => vL (gF' i))))), ((a 11), .inl (cZ, 30, .inl (fun i => jI (iB (gX' i))))), ((a 12), .inl (cJ, 5, .inr (.inl (fun i => vL (gW' i)))))] := hD
  rcases hpost with ⟨h8, rfl⟩ | ⟨rfl, hb1, hb2, hb3⟩
  · have q := h8.symm.trans hbeh; cases q
  have hst : s5 gW' = st := Option.some.inj (hb1.symm.trans hbeh)
  have hd : gW' 2 * gW' 4 - gW' 3 * gW' 3 = 0 := by have q := h9; rw [← hst] at q; exact q
  refine n_ifB_eq (tgt := 39) hx hb dX7_information_32 (by decide) (fun h32 => Bool.noConfusion h32) (fun h32 => ?_)
  refine n_iconst hx hb dX7_information_35 ?_
  refine lv_goto (tgt := 40) hx hb dX7_information_36 (by decide) ?_
  refine lv_istore (lv' := [(4, .int (jI 1)), (3, .int (jI 1)), (0, .ref m0), (1, .int (jI ((ev : Nat) : Int))), (2, .int (jI ((wh : Nat) : Int)))]) hx hb dX7_information_40 hl (by decide) rfl (fun ls hl => ?_)
  refine lv_iload hx hb dX7_information_42 (lv_at hl 0 rfl) ?_
  refine n_if_eq (tgt := 63) hx hb (by unfold r32; decide) dX7_information_44 (by decide) (fun h44 => False.elim (by revert h44; decide)) (fun h44 => ?_)
  refine lv_aload_n hx hb dX7_information_47 rfl (lv_at hl 2 rfl) ?_
  refine va_get (D := D) (ci := 7) (v := .ref (a 12)) (C := RX7) (T := TX7) (N := 20) hx hb hts iX7 hown hK.1 hP 0 rfl rfl 14 (by decide) f48 (fun _ h9 => h9) rfl dX7_information_48 ?_
  have ct51 := c_X7_inverts0 l D tys htJ (a 12) gW' _ rfl hd
  refine k_goI (va_runS (As := [.ref (a 12)]) (rest := []) ⟨hx, hb, hml, hown, hts⟩ (ct51.2 _) (va_cwS 1 hts gX7_information_X7_inverts rfl rfl rfl (by decide +kernel) ⟨Nat.le_of_ble_eq_true rfl, Nat.le_of_ble_eq_true rfl⟩) (k_pre hK hP hD (is := [11]) rfl rfl) rfl rfl hl.1 rfl (lv_room (Nat.le_of_ble_eq_true rfl)) dX7_information_51 ⟨Nat.le_of_ble_eq_true rfl, Nat.le_of_ble_eq_true rfl⟩) ct51.1 hP hD hS hA [11] rfl rfl (fun H locs hP hD hS => ?_)
  have hP : va_P D vwCl [(m0, oR (jI ((ms : Nat) : Int)) (jI ((es : Nat) : Int)) th a), ((a 1), .inl (cI, 42, .inl (fun i => vI (gM i)))), ((a 2), .inl (cI, 30, .inl (fun i => vI (gB i)))), ((a 3), .inl (cI, 6, .inl (fun i => jI ((gT i : Nat) : Int)))), ((a 5), .inl (cI, 6, .inl (fun i => jI ((gN i : Nat) : Int)))), ((a 6), .inl (cI, 1080, .inl (fun i => vI (gK i)))), ((a 7), .inl (cZ, 180, .inl (fun i => jI (iB (gD i))))), ((a 8), .inl (cJ, 105, .inr (.inl (fun i => vL (gH' i))))), ((a 9), .inl (cJ, 105, .inr (.inl (fun i => vL (gU' i))))), ((a 10), .inl (cJ, 90, .inr (.inl (fun i => vL (gF' i))))), ((a 11), .inl (cZ, 30, .inl (fun i => jI (iB (gX' i))))), ((a 12), .inl (cJ, 5, .inr (.inl (fun i => vL ((invg gW') i)))))] H := hP
  have hD : va_D A [(m0, oR (jI ((ms : Nat) : Int)) (jI ((es : Nat) : Int)) th a), ((a 1), .inl (cI, 42, .inl (fun i => vI (gM i)))), ((a 2), .inl (cI, 30, .inl (fun i => vI (gB i)))), ((a 3), .inl (cI, 6, .inl (fun i => jI ((gT i : Nat) : Int)))), ((a 5), .inl (cI, 6, .inl (fun i => jI ((gN i : Nat) : Int)))), ((a 6), .inl (cI, 1080, .inl (fun i => vI (gK i)))), ((a 7), .inl (cZ, 180, .inl (fun i => jI (iB (gD i))))), ((a 8), .inl (cJ, 105, .inr (.inl (fun i => vL (gH' i))))), ((a 9), .inl (cJ, 105, .inr (.inl (fun i => vL (gU' i))))), ((a 10), .inl (cJ, 90, .inr (.inl (fun i => vL (gF' i))))), ((a 11), .inl (cZ, 30, .inl (fun i => jI (iB (gX' i))))), ((a 12), .inl (cJ, 5, .inr (.inl (fun i => vL ((invg gW') i)))))] := hD
  refine lv_istore (lv' := [(4, .int (jI (iB false))), (3, .int (jI 1)), (0, .ref m0), (1, .int (jI ((ev : Nat) : Int))), (2, .int (jI ((wh : Nat) : Int)))]) hx hb dX7_information_54 hl (by decide) rfl (fun ls hl => ?_)
  refine lv_aload_n hx hb dX7_information_56 rfl (lv_at hl 2 rfl) ?_
  refine va_get (D := D) (ci := 7) (v := .ref (a 12)) (C := RX7) (T := TX7) (N := 20) hx hb hts iX7 hown hK.1 hP 0 rfl rfl 14 (by decide) f48 (fun _ h9 => h9) rfl dX7_information_57 ?_
  have ct60 := c_X7_times l D tys htJ (a 12) (invg gW')
  refine k_goV (va_runS (As := [.ref (a 12)]) (rest := []) ⟨hx, hb, hml, hown, hts⟩ (ct60.2 _) (va_cwS 1 hts gX7_information_X7_times rfl rfl rfl (by decide +kernel) ⟨Nat.le_of_ble_eq_true rfl, Nat.le_of_ble_eq_true rfl⟩) (k_pre hK hP hD (is := [11]) rfl rfl) rfl rfl hl.1 rfl (lv_room (Nat.le_of_ble_eq_true rfl)) dX7_information_60 ⟨Nat.le_of_ble_eq_true rfl, Nat.le_of_ble_eq_true rfl⟩) ct60.1 hP hD hS hA [11] rfl rfl (fun H locs hP hD hS => ?_)
  have hP : va_P D vwCl [(m0, oR (jI ((ms : Nat) : Int)) (jI ((es : Nat) : Int)) th a), ((a 1), .inl (cI, 42, .inl (fun i => vI (gM i)))), ((a 2), .inl (cI, 30, .inl (fun i => vI (gB i)))), ((a 3), .inl (cI, 6, .inl (fun i => jI ((gT i : Nat) : Int)))), ((a 5), .inl (cI, 6, .inl (fun i => jI ((gN i : Nat) : Int)))), ((a 6), .inl (cI, 1080, .inl (fun i => vI (gK i)))), ((a 7), .inl (cZ, 180, .inl (fun i => jI (iB (gD i))))), ((a 8), .inl (cJ, 105, .inr (.inl (fun i => vL (gH' i))))), ((a 9), .inl (cJ, 105, .inr (.inl (fun i => vL (gU' i))))), ((a 10), .inl (cJ, 90, .inr (.inl (fun i => vL (gF' i))))), ((a 11), .inl (cZ, 30, .inl (fun i => jI (iB (gX' i))))), ((a 12), .inl (cJ, 5, .inr (.inl (fun i => vL ((timg (invg gW')) i)))))] H := hP
  have hD : va_D A [(m0, oR (jI ((ms : Nat) : Int)) (jI ((es : Nat) : Int)) th a), ((a 1), .inl (cI, 42, .inl (fun i => vI (gM i)))), ((a 2), .inl (cI, 30, .inl (fun i => vI (gB i)))), ((a 3), .inl (cI, 6, .inl (fun i => jI ((gT i : Nat) : Int)))), ((a 5), .inl (cI, 6, .inl (fun i => jI ((gN i : Nat) : Int)))), ((a 6), .inl (cI, 1080, .inl (fun i => vI (gK i)))), ((a 7), .inl (cZ, 180, .inl (fun i => jI (iB (gD i))))), ((a 8), .inl (cJ, 105, .inr (.inl (fun i => vL (gH' i))))), ((a 9), .inl (cJ, 105, .inr (.inl (fun i => vL (gU' i))))), ((a 10), .inl (cJ, 90, .inr (.inl (fun i => vL (gF' i))))), ((a 11), .inl (cZ, 30, .inl (fun i => jI (iB (gX' i))))), ((a 12), .inl (cJ, 5, .inr (.inl (fun i => vL ((timg (invg gW')) i)))))] := hD
  refine lv_aload_n hx hb dX7_information_63 rfl (lv_at hl 2 rfl) ?_
  refine lv_aload_n hx hb dX7_information_64 rfl (lv_at hl 2 rfl) ?_
  refine lv_iload_n hx hb dX7_information_65 rfl (lv_at hl 3 rfl) ?_
  have ct66 := c_X7_isOne l D tys m0 a ms es th ((ev : Nat) : Int) (by first | assumption | exact r32_z _ | (unfold r32; omega)) (by omega) (by omega)
  refine k_goI (va_runV (As := [.int (jI ((ev : Nat) : Int))]) (rest := [.ref m0]) ⟨hx, hb, hml, hown, hts⟩ (ct66.2 _) (cwV 1 hts gX7_information_X7_isOne rfl rfl rfl (by decide +kernel) ⟨Nat.le_of_ble_eq_true rfl, Nat.le_of_ble_eq_true rfl⟩) ⟨(k_pre hK hP hD (is := [0]) rfl rfl).1, va_recv hK.1 hP (ci := 7) (q0 := 0) rfl rfl, (k_pre hK hP hD (is := [0]) rfl rfl).2⟩ rfl rfl hl.1 rfl (lv_room (Nat.le_of_ble_eq_true rfl)) dX7_information_66 ⟨Nat.le_of_ble_eq_true rfl, Nat.le_of_ble_eq_true rfl⟩) ct66.1 hP hD hS hA [0] rfl rfl (fun H locs hP hD hS => ?_)
  have hP : va_P D vwCl [(m0, oR (jI ((ms : Nat) : Int)) (jI ((es : Nat) : Int)) th a), ((a 1), .inl (cI, 42, .inl (fun i => vI (gM i)))), ((a 2), .inl (cI, 30, .inl (fun i => vI (gB i)))), ((a 3), .inl (cI, 6, .inl (fun i => jI ((gT i : Nat) : Int)))), ((a 5), .inl (cI, 6, .inl (fun i => jI ((gN i : Nat) : Int)))), ((a 6), .inl (cI, 1080, .inl (fun i => vI (gK i)))), ((a 7), .inl (cZ, 180, .inl (fun i => jI (iB (gD i))))), ((a 8), .inl (cJ, 105, .inr (.inl (fun i => vL (gH' i))))), ((a 9), .inl (cJ, 105, .inr (.inl (fun i => vL (gU' i))))), ((a 10), .inl (cJ, 90, .inr (.inl (fun i => vL (gF' i))))), ((a 11), .inl (cZ, 30, .inl (fun i => jI (iB (gX' i))))), ((a 12), .inl (cJ, 5, .inr (.inl (fun i => vL ((timg (invg gW')) i)))))] H := hP
  have hD : va_D A [(m0, oR (jI ((ms : Nat) : Int)) (jI ((es : Nat) : Int)) th a), ((a 1), .inl (cI, 42, .inl (fun i => vI (gM i)))), ((a 2), .inl (cI, 30, .inl (fun i => vI (gB i)))), ((a 3), .inl (cI, 6, .inl (fun i => jI ((gT i : Nat) : Int)))), ((a 5), .inl (cI, 6, .inl (fun i => jI ((gN i : Nat) : Int)))), ((a 6), .inl (cI, 1080, .inl (fun i => vI (gK i)))), ((a 7), .inl (cZ, 180, .inl (fun i => jI (iB (gD i))))), ((a 8), .inl (cJ, 105, .inr (.inl (fun i => vL (gH' i))))), ((a 9), .inl (cJ, 105, .inr (.inl (fun i => vL (gU' i))))), ((a 10), .inl (cJ, 90, .inr (.inl (fun i => vL (gF' i))))), ((a 11), .inl (cZ, 30, .inl (fun i => jI (iB (gX' i))))), ((a 12), .inl (cJ, 5, .inr (.inl (fun i => vL ((timg (invg gW')) i)))))] := hD
  refine n_ifB_ne (tgt := 76) hx hb dX7_information_69 (by decide) (fun h69 => ?_) (fun h69 => Bool.noConfusion ((inB_t (by omega) (by omega)).symm.trans h69))
  refine lv_iload_n hx hb dX7_information_76 rfl (lv_at hl 1 rfl) ?_
  refine n_if_ne (tgt := 84) hx hb (by unfold r32; decide) dX7_information_77 (by decide) (fun h77 => ?_) (fun h77 => False.elim (by revert h77; decide))
  refine lv_iload hx hb dX7_information_84 (lv_at hl 0 rfl) ?_
  refine n_ifB_eq (tgt := 93) hx hb dX7_information_86 (by decide) (fun h86 => ?_) (fun h86 => Bool.noConfusion h86)
  refine n_iconst hx hb dX7_information_93 ?_
  have ct94 := c_X7_failsT l D tys m0 a ms es th 3 (by unfold r32; decide) (by decide)
  refine k_goI (va_runV (As := [.int (jI 3)]) (rest := []) ⟨hx, hb, hml, hown, hts⟩ (ct94.2 _) (cwV 1 hts gX7_information_X7_fails rfl rfl rfl (by decide +kernel) ⟨Nat.le_of_ble_eq_true rfl, Nat.le_of_ble_eq_true rfl⟩) ⟨(k_pre hK hP hD (is := [0]) rfl rfl).1, va_recv hK.1 hP (ci := 7) (q0 := 0) rfl rfl, (k_pre hK hP hD (is := [0]) rfl rfl).2⟩ rfl rfl hl.1 rfl (lv_room (Nat.le_of_ble_eq_true rfl)) dX7_information_94 ⟨Nat.le_of_ble_eq_true rfl, Nat.le_of_ble_eq_true rfl⟩) ct94.1 hP hD hS hA [0] rfl rfl (fun H locs hP hD hS => ?_)
  have hP : va_P D vwCl [(m0, oR (jI ((ms : Nat) : Int)) (jI ((es : Nat) : Int)) (jI 3) a), ((a 1), .inl (cI, 42, .inl (fun i => vI (gM i)))), ((a 2), .inl (cI, 30, .inl (fun i => vI (gB i)))), ((a 3), .inl (cI, 6, .inl (fun i => jI ((gT i : Nat) : Int)))), ((a 5), .inl (cI, 6, .inl (fun i => jI ((gN i : Nat) : Int)))), ((a 6), .inl (cI, 1080, .inl (fun i => vI (gK i)))), ((a 7), .inl (cZ, 180, .inl (fun i => jI (iB (gD i))))), ((a 8), .inl (cJ, 105, .inr (.inl (fun i => vL (gH' i))))), ((a 9), .inl (cJ, 105, .inr (.inl (fun i => vL (gU' i))))), ((a 10), .inl (cJ, 90, .inr (.inl (fun i => vL (gF' i))))), ((a 11), .inl (cZ, 30, .inl (fun i => jI (iB (gX' i))))), ((a 12), .inl (cJ, 5, .inr (.inl (fun i => vL ((timg (invg gW')) i)))))] H := hP
  have hD : va_D A [(m0, oR (jI ((ms : Nat) : Int)) (jI ((es : Nat) : Int)) (jI 3) a), ((a 1), .inl (cI, 42, .inl (fun i => vI (gM i)))), ((a 2), .inl (cI, 30, .inl (fun i => vI (gB i)))), ((a 3), .inl (cI, 6, .inl (fun i => jI ((gT i : Nat) : Int)))), ((a 5), .inl (cI, 6, .inl (fun i => jI ((gN i : Nat) : Int)))), ((a 6), .inl (cI, 1080, .inl (fun i => vI (gK i)))), ((a 7), .inl (cZ, 180, .inl (fun i => jI (iB (gD i))))), ((a 8), .inl (cJ, 105, .inr (.inl (fun i => vL (gH' i))))), ((a 9), .inl (cJ, 105, .inr (.inl (fun i => vL (gU' i))))), ((a 10), .inl (cJ, 90, .inr (.inl (fun i => vL (gF' i))))), ((a 11), .inl (cZ, 30, .inl (fun i => jI (iB (gX' i))))), ((a 12), .inl (cJ, 5, .inr (.inl (fun i => vL ((timg (invg gW')) i)))))] := hD
  refine n_ifB_eq (tgt := 104) hx hb dX7_information_97 (by decide) (fun h97 => Bool.noConfusion h97) (fun h97 => ?_)
  refine n_iconst hx hb dX7_information_100 ?_
  refine lv_goto (tgt := 111) hx hb dX7_information_101 (by decide) ?_
  exact e_iret (gH', gU', gF', gX', timg (invg gW')) hx hb hr hlocks dX7_information_111 hP hS rfl

set_option maxHeartbeats 8000000 in
set_option maxRecDepth 100000 in
/--  -/
theorem c_X7_information0 (l : Launch) (D : va_G) (tys : List (ClassId × FieldType)) {cI cJ cZ : ClassId} (htI : tys[0]? = some (cI, .int)) (htJ : tys[1]? = some (cJ, .long)) (htZ : tys[2]? = some (cZ, .boolean)) (m0 : Nat) (a : Nat → Nat) (ms es : Nat) (th : Int32) (gM : Nat → Zp) (gB : Nat → Zp) (gT : Nat → Nat) (gN : Nat → Nat) (gK : Nat → Zp) (gD : Nat → Bool) (gH : Nat → Zp) (gU : Nat → Zp) (gF : Nat → Zp) (gX : Nat → Bool) (gW : Nat → Zp) (q1 : ms ≤ 6) (q2 : es ≤ 6) (ev wh : Nat) (q3 : ev < es) (q4 : wh ≤ 4) (qT : gT ev ≤ 20) (qN : gN ev ≤ 30) (htm : ∀ k, k < gN ev → (gK (6 * (30 * ev + k) + 0)).val ≤ gT ev) (st : S5) (hbeh : beh (fun i => gM (7 * ev + i)) (s5at gB ev) (fun k c => gK (6 * (30 * ev + k) + c)) (fun k => gD (30 * ev + k)) (gN ev) (gT ev) = some st) (h9 : ¬ det5 st = 0) : CtE (S := (Nat → Zp) × (Nat → Zp) × (Nat → Zp) × (Nat → Bool) × (Nat → Zp)) l D tys yX7_information wsX7_information 4 110 [.ref m0, .int (jI ((ev : Nat) : Int)), .int (jI ((wh : Nat) : Int))] (fun (r : Int32) (_ : (Nat → Zp) × (Nat → Zp) × (Nat → Zp) × (Nat → Bool) × (Nat → Zp)) => r = vI (comp5 (tim5 (inv5 st)) wh)) [(m0, oR (jI ((ms : Nat) : Int)) (jI ((es : Nat) : Int)) th a), ((a 1), .inl (cI, 42, .inl (fun i => vI (gM i)))), ((a 2), .inl (cI, 30, .inl (fun i => vI (gB i)))), ((a 3), .inl (cI, 6, .inl (fun i => jI ((gT i : Nat) : Int)))), ((a 5), .inl (cI, 6, .inl (fun i => jI ((gN i : Nat) : Int)))), ((a 6), .inl (cI, 1080, .inl (fun i => vI (gK i)))), ((a 7), .inl (cZ, 180, .inl (fun i => jI (iB (gD i))))), ((a 8), .inl (cJ, 105, .inr (.inl (fun i => vL (gH i))))), ((a 9), .inl (cJ, 105, .inr (.inl (fun i => vL (gU i))))), ((a 10), .inl (cJ, 90, .inr (.inl (fun i => vL (gF i))))), ((a 11), .inl (cZ, 30, .inl (fun i => jI (iB (gX i))))), ((a 12), .inl (cJ, 5, .inr (.inl (fun i => vL (gW i)))))] (fun u => [(m0, oR (jI ((ms : Nat) : Int)) (jI ((es : Nat) : Int)) (jI 0) a), ((a 1), .inl (cI, 42, .inl (fun i => vI (gM i)))), ((a 2), .inl (cI, 30, .inl (fun i => vI (gB i)))), ((a 3), .inl (cI, 6, .inl (fun i => jI ((gT i : Nat) : Int)))), ((a 5), .inl (cI, 6, .inl (fun i => jI ((gN i : Nat) : Int)))), ((a 6), .inl (cI, 1080, .inl (fun i => vI (gK i)))), ((a 7), .inl (cZ, 180, .inl (fun i => jI (iB (gD i))))), ((a 8), .inl (cJ, 105, .inr (.inl (fun i => vL (u.1 i))))), ((a 9), .inl (cJ, 105, .inr (.inl (fun i => vL (u.2.1 i))))), ((a 10), .inl (cJ, 90, .inr (.inl (fun i => vL (u.2.2.1 i))))), ((a 11), .inl (cZ, 30, .inl (fun i => jI (iB (u.2.2.2.1 i))))), ((a 12), .inl (cJ, 5, .inr (.inl (fun i => vL (u.2.2.2.2 i)))))]) := by
  refine CtE.of (cc := cX7_information) (maxL := 5) (by decide +kernel) rfl (fun _ => rfl) (Nat.le_of_ble_eq_true rfl) ?_
  intro p e s m below meth c A ls hcx hK hP hD hA hl
  obtain ⟨hx, hb, hr, hml, hown, hts, hlocks⟩ := hcx
  have hS : va_S A s.heap s.heap [] := va_S.rf
  have hown : s.vm.findClass RX7 = some m.cls := hown
  have hl : lv_has ls 5 [(0, .ref m0), (1, .int (jI ((ev : Nat) : Int))), (2, .int (jI ((wh : Nat) : Int)))] := hl
  have f48 := hts (.fieldLink RX7 48 "FieldFilterModel" "now" "[J") (by decide +kernel)
  have iX7 : ∀ w ∈ u_ws RX7 TX7 20, w ∈ wsX7_information := by decide +kernel
  refine lv_aload_n hx hb dX7_information_0 rfl (lv_at hl 0 rfl) ?_
  refine lv_iload_n hx hb dX7_information_1 rfl (lv_at hl 1 rfl) ?_
  have ct2 := c_X7_isOne l D tys m0 a ms es th ((ev : Nat) : Int) (by first | assumption | exact r32_z _ | (unfold r32; omega)) (by omega) (by omega)
  refine k_goI (va_runV (As := [.int (jI ((ev : Nat) : Int))]) (rest := []) ⟨hx, hb, hml, hown, hts⟩ (ct2.2 _) (cwV 1 hts gX7_information_X7_isOne rfl rfl rfl (by decide +kernel) ⟨Nat.le_of_ble_eq_true rfl, Nat.le_of_ble_eq_true rfl⟩) ⟨(k_pre hK hP hD (is := [0]) rfl rfl).1, va_recv hK.1 hP (ci := 7) (q0 := 0) rfl rfl, (k_pre hK hP hD (is := [0]) rfl rfl).2⟩ rfl rfl hl.1 rfl (lv_room (Nat.le_of_ble_eq_true rfl)) dX7_information_2 ⟨Nat.le_of_ble_eq_true rfl, Nat.le_of_ble_eq_true rfl⟩) ct2.1 hP hD hS hA [0] rfl rfl (fun H locs hP hD hS => ?_)
  have hP : va_P D vwCl [(m0, oR (jI ((ms : Nat) : Int)) (jI ((es : Nat) : Int)) th a), ((a 1), .inl (cI, 42, .inl (fun i => vI (gM i)))), ((a 2), .inl (cI, 30, .inl (fun i => vI (gB i)))), ((a 3), .inl (cI, 6, .inl (fun i => jI ((gT i : Nat) : Int)))), ((a 5), .inl (cI, 6, .inl (fun i => jI ((gN i : Nat) : Int)))), ((a 6), .inl (cI, 1080, .inl (fun i => vI (gK i)))), ((a 7), .inl (cZ, 180, .inl (fun i => jI (iB (gD i))))), ((a 8), .inl (cJ, 105, .inr (.inl (fun i => vL (gH i))))), ((a 9), .inl (cJ, 105, .inr (.inl (fun i => vL (gU i))))), ((a 10), .inl (cJ, 90, .inr (.inl (fun i => vL (gF i))))), ((a 11), .inl (cZ, 30, .inl (fun i => jI (iB (gX i))))), ((a 12), .inl (cJ, 5, .inr (.inl (fun i => vL (gW i)))))] H := hP
  have hD : va_D A [(m0, oR (jI ((ms : Nat) : Int)) (jI ((es : Nat) : Int)) th a), ((a 1), .inl (cI, 42, .inl (fun i => vI (gM i)))), ((a 2), .inl (cI, 30, .inl (fun i => vI (gB i)))), ((a 3), .inl (cI, 6, .inl (fun i => jI ((gT i : Nat) : Int)))), ((a 5), .inl (cI, 6, .inl (fun i => jI ((gN i : Nat) : Int)))), ((a 6), .inl (cI, 1080, .inl (fun i => vI (gK i)))), ((a 7), .inl (cZ, 180, .inl (fun i => jI (iB (gD i))))), ((a 8), .inl (cJ, 105, .inr (.inl (fun i => vL (gH i))))), ((a 9), .inl (cJ, 105, .inr (.inl (fun i => vL (gU i))))), ((a 10), .inl (cJ, 90, .inr (.inl (fun i => vL (gF i))))), ((a 11), .inl (cZ, 30, .inl (fun i => jI (iB (gX i))))), ((a 12), .inl (cJ, 5, .inr (.inl (fun i => vL (gW i)))))] := hD
  refine n_ifB_eq (tgt := 21) hx hb dX7_information_5 (by decide) (fun h5 => Bool.noConfusion ((inB_t (by omega) (by omega)).symm.trans h5)) (fun h5 => ?_)
  refine lv_iload_n hx hb dX7_information_8 rfl (lv_at hl 2 rfl) ?_
  refine n_iconst hx hb dX7_information_9 ?_
  refine n_iconst hx hb dX7_information_10 ?_
  have ct11 := c_X7_isIn l D tys ((wh : Nat) : Int) 0 4 (by first | assumption | exact r32_z _ | (unfold r32; omega)) (by first | assumption | exact r32_z _ | (unfold r32; omega)) (by first | assumption | exact r32_z _ | (unfold r32; omega))
  refine k_goI (va_runS (As := [.int (jI ((wh : Nat) : Int)), .int (jI 0), .int (jI 4)]) (rest := []) ⟨hx, hb, hml, hown, hts⟩ (ct11.2 _) (va_cwS 3 hts gX7_information_X7_isIn rfl rfl rfl (by decide +kernel) ⟨Nat.le_of_ble_eq_true rfl, Nat.le_of_ble_eq_true rfl⟩) (k_pre hK hP hD (is := []) rfl rfl) rfl rfl hl.1 rfl (lv_room (Nat.le_of_ble_eq_true rfl)) dX7_information_11 ⟨Nat.le_of_ble_eq_true rfl, Nat.le_of_ble_eq_true rfl⟩) ct11.1 hP hD hS hA [] rfl rfl (fun H locs hP hD hS => ?_)
  have hP : va_P D vwCl [(m0, oR (jI ((ms : Nat) : Int)) (jI ((es : Nat) : Int)) th a), ((a 1), .inl (cI, 42, .inl (fun i => vI (gM i)))), ((a 2), .inl (cI, 30, .inl (fun i => vI (gB i)))), ((a 3), .inl (cI, 6, .inl (fun i => jI ((gT i : Nat) : Int)))), ((a 5), .inl (cI, 6, .inl (fun i => jI ((gN i : Nat) : Int)))), ((a 6), .inl (cI, 1080, .inl (fun i => vI (gK i)))), ((a 7), .inl (cZ, 180, .inl (fun i => jI (iB (gD i))))), ((a 8), .inl (cJ, 105, .inr (.inl (fun i => vL (gH i))))), ((a 9), .inl (cJ, 105, .inr (.inl (fun i => vL (gU i))))), ((a 10), .inl (cJ, 90, .inr (.inl (fun i => vL (gF i))))), ((a 11), .inl (cZ, 30, .inl (fun i => jI (iB (gX i))))), ((a 12), .inl (cJ, 5, .inr (.inl (fun i => vL (gW i)))))] H := hP
  have hD : va_D A [(m0, oR (jI ((ms : Nat) : Int)) (jI ((es : Nat) : Int)) th a), ((a 1), .inl (cI, 42, .inl (fun i => vI (gM i)))), ((a 2), .inl (cI, 30, .inl (fun i => vI (gB i)))), ((a 3), .inl (cI, 6, .inl (fun i => jI ((gT i : Nat) : Int)))), ((a 5), .inl (cI, 6, .inl (fun i => jI ((gN i : Nat) : Int)))), ((a 6), .inl (cI, 1080, .inl (fun i => vI (gK i)))), ((a 7), .inl (cZ, 180, .inl (fun i => jI (iB (gD i))))), ((a 8), .inl (cJ, 105, .inr (.inl (fun i => vL (gH i))))), ((a 9), .inl (cJ, 105, .inr (.inl (fun i => vL (gU i))))), ((a 10), .inl (cJ, 90, .inr (.inl (fun i => vL (gF i))))), ((a 11), .inl (cZ, 30, .inl (fun i => jI (iB (gX i))))), ((a 12), .inl (cJ, 5, .inr (.inl (fun i => vL (gW i)))))] := hD
  refine n_ifB_eq (tgt := 21) hx hb dX7_information_14 (by decide) (fun h14 => Bool.noConfusion ((inB_t (by omega) (by omega)).symm.trans h14)) (fun h14 => ?_)
  refine n_iconst hx hb dX7_information_17 ?_
  refine lv_goto (tgt := 22) hx hb dX7_information_18 (by decide) ?_
  refine lv_istore_n (lv' := [(3, .int (jI 1)), (0, .ref m0), (1, .int (jI ((ev : Nat) : Int))), (2, .int (jI ((wh : Nat) : Int)))]) hx hb dX7_information_22 rfl hl (by decide) rfl (fun ls hl => ?_)
  refine lv_iload_n hx hb dX7_information_23 rfl (lv_at hl 0 rfl) ?_
  refine n_if_eq (tgt := 39) hx hb (by unfold r32; decide) dX7_information_24 (by decide) (fun h24 => False.elim (by revert h24; decide)) (fun h24 => ?_)
  refine lv_aload_n hx hb dX7_information_27 rfl (lv_at hl 1 rfl) ?_
  refine lv_iload_n hx hb dX7_information_28 rfl (lv_at hl 2 rfl) ?_
  have ctg := c_X7_goes l D tys htI htJ htZ m0 a ms es th gM gB gT gN gK gD gH gU gF gX gW ev (by omega) (by omega) (by omega)
  refine k_goE (va_runV (As := [.int (jI ((ev : Nat) : Int))]) (rest := []) ⟨hx, hb, hml, hown, hts⟩ (ctg.2 _) (cwV 1 hts gX7_information_X7_goes rfl rfl rfl (by decide +kernel) ⟨Nat.le_of_ble_eq_true rfl, Nat.le_of_ble_eq_true rfl⟩) ⟨(k_pre hK hP hD (is := [0, 1, 2, 3, 4, 5, 6, 7, 8, 9, 10, 11]) rfl rfl).1, va_recv hK.1 hP (ci := 7) (q0 := 0) rfl rfl, (k_pre hK hP hD (is := [0, 1, 2, 3, 4, 5, 6, 7, 8, 9, 10, 11]) rfl rfl).2⟩ rfl rfl hl.1 rfl (lv_room (Nat.le_of_ble_eq_true rfl)) dX7_information_29 ⟨Nat.le_of_ble_eq_true rfl, Nat.le_of_ble_eq_true rfl⟩) ctg.1 hP hD hS hA [0, 1, 2, 3, 4, 5, 6, 7, 8, 9, 10, 11] rfl rfl (fun r u H locs hpost hP hD hS => ?_)
  obtain ⟨gH', gU', gF', gX', gW'⟩ := u
  have hP : va_P D vwCl [(m0, oR (jI ((ms : Nat) : Int)) (jI ((es : Nat) : Int)) th a), ((a 1), .inl (cI, 42, .inl (fun i => vI (gM i)))), ((a 2), .inl (cI, 30, .inl (fun i => vI (gB i)))), ((a 3), .inl (cI, 6, .inl (fun i => jI ((gT i : Nat) : Int)))), ((a 5), .inl (cI, 6, .inl (fun i => jI ((gN i : Nat) : Int)))), ((a 6), .inl (cI, 1080, .inl (fun i => vI (gK i)))), ((a 7), .inl (cZ, 180, .inl (fun i => jI (iB (gD i))))), ((a 8), .inl (cJ, 105, .inr (.inl (fun i => vL (gH' i))))), ((a 9), .inl (cJ, 105, .inr (.inl (fun i => vL (gU' i))))), ((a 10), .inl (cJ, 90, .inr (.inl (fun i => vL (gF' i))))), ((a 11), .inl (cZ, 30, .inl (fun i => jI (iB (gX' i))))), ((a 12), .inl (cJ, 5, .inr (.inl (fun i => vL (gW' i)))))] H := hP
  have hD : va_D A [(m0, oR (jI ((ms : Nat) : Int)) (jI ((es : Nat) : Int)) th a), ((a 1), .inl (cI, 42, .inl (fun i => vI (gM i)))), ((a 2), .inl (cI, 30, .inl (fun i => vI (gB i)))), ((a 3), .inl (cI, 6, .inl (fun i => jI ((gT i : Nat) : Int)))), ((a 5), .inl (cI, 6, .inl (fun i => jI ((gN i : Nat) : Int)))), ((a 6), .inl (cI, 1080, .inl (fun i => vI (gK i)))), ((a 7), .inl (cZ, 180, .inl (fun i => jI (iB (gD i))))), ((a 8), .inl (cJ, 105, .inr (.inl (fun i => vL (gH' i))))), ((a 9), .inl (cJ, 105, .inr (.inl (fun i => vL (gU' i))))), ((a 10), .inl (cJ, 90, .inr (.inl (fun i => vL (gF' i))))), ((a 11), .inl (cZ, 30, .inl (fun i => jI (iB (gX' i))))), ((a 12), .inl (cJ, 5, .inr (.inl (fun i => vL (gW' i)))))] := hD
  rcases hpost with ⟨h8, rfl⟩ | ⟨rfl, hb1, hb2, hb3⟩
  · have q := h8.symm.trans hbeh; cases q
  have hst : s5 gW' = st := Option.some.inj (hb1.symm.trans hbeh)
  have hd : ¬ gW' 2 * gW' 4 - gW' 3 * gW' 3 = 0 := by have q := h9; rw [← hst] at q; exact q
  refine n_ifB_eq (tgt := 39) hx hb dX7_information_32 (by decide) (fun h32 => Bool.noConfusion h32) (fun h32 => ?_)
  refine n_iconst hx hb dX7_information_35 ?_
  refine lv_goto (tgt := 40) hx hb dX7_information_36 (by decide) ?_
  refine lv_istore (lv' := [(4, .int (jI 1)), (3, .int (jI 1)), (0, .ref m0), (1, .int (jI ((ev : Nat) : Int))), (2, .int (jI ((wh : Nat) : Int)))]) hx hb dX7_information_40 hl (by decide) rfl (fun ls hl => ?_)
  refine lv_iload hx hb dX7_information_42 (lv_at hl 0 rfl) ?_
  refine n_if_eq (tgt := 63) hx hb (by unfold r32; decide) dX7_information_44 (by decide) (fun h44 => False.elim (by revert h44; decide)) (fun h44 => ?_)
  refine lv_aload_n hx hb dX7_information_47 rfl (lv_at hl 2 rfl) ?_
  refine va_get (D := D) (ci := 7) (v := .ref (a 12)) (C := RX7) (T := TX7) (N := 20) hx hb hts iX7 hown hK.1 hP 0 rfl rfl 14 (by decide) f48 (fun _ h9 => h9) rfl dX7_information_48 ?_
  have ct51 := c_X7_inverts1 l D tys htJ (a 12) gW' _ rfl hd
  refine k_goI (va_runS (As := [.ref (a 12)]) (rest := []) ⟨hx, hb, hml, hown, hts⟩ (ct51.2 _) (va_cwS 1 hts gX7_information_X7_inverts rfl rfl rfl (by decide +kernel) ⟨Nat.le_of_ble_eq_true rfl, Nat.le_of_ble_eq_true rfl⟩) (k_pre hK hP hD (is := [11]) rfl rfl) rfl rfl hl.1 rfl (lv_room (Nat.le_of_ble_eq_true rfl)) dX7_information_51 ⟨Nat.le_of_ble_eq_true rfl, Nat.le_of_ble_eq_true rfl⟩) ct51.1 hP hD hS hA [11] rfl rfl (fun H locs hP hD hS => ?_)
  have hP : va_P D vwCl [(m0, oR (jI ((ms : Nat) : Int)) (jI ((es : Nat) : Int)) th a), ((a 1), .inl (cI, 42, .inl (fun i => vI (gM i)))), ((a 2), .inl (cI, 30, .inl (fun i => vI (gB i)))), ((a 3), .inl (cI, 6, .inl (fun i => jI ((gT i : Nat) : Int)))), ((a 5), .inl (cI, 6, .inl (fun i => jI ((gN i : Nat) : Int)))), ((a 6), .inl (cI, 1080, .inl (fun i => vI (gK i)))), ((a 7), .inl (cZ, 180, .inl (fun i => jI (iB (gD i))))), ((a 8), .inl (cJ, 105, .inr (.inl (fun i => vL (gH' i))))), ((a 9), .inl (cJ, 105, .inr (.inl (fun i => vL (gU' i))))), ((a 10), .inl (cJ, 90, .inr (.inl (fun i => vL (gF' i))))), ((a 11), .inl (cZ, 30, .inl (fun i => jI (iB (gX' i))))), ((a 12), .inl (cJ, 5, .inr (.inl (fun i => vL ((invg gW') i)))))] H := hP
  have hD : va_D A [(m0, oR (jI ((ms : Nat) : Int)) (jI ((es : Nat) : Int)) th a), ((a 1), .inl (cI, 42, .inl (fun i => vI (gM i)))), ((a 2), .inl (cI, 30, .inl (fun i => vI (gB i)))), ((a 3), .inl (cI, 6, .inl (fun i => jI ((gT i : Nat) : Int)))), ((a 5), .inl (cI, 6, .inl (fun i => jI ((gN i : Nat) : Int)))), ((a 6), .inl (cI, 1080, .inl (fun i => vI (gK i)))), ((a 7), .inl (cZ, 180, .inl (fun i => jI (iB (gD i))))), ((a 8), .inl (cJ, 105, .inr (.inl (fun i => vL (gH' i))))), ((a 9), .inl (cJ, 105, .inr (.inl (fun i => vL (gU' i))))), ((a 10), .inl (cJ, 90, .inr (.inl (fun i => vL (gF' i))))), ((a 11), .inl (cZ, 30, .inl (fun i => jI (iB (gX' i))))), ((a 12), .inl (cJ, 5, .inr (.inl (fun i => vL ((invg gW') i)))))] := hD
  refine lv_istore (lv' := [(4, .int (jI (iB true))), (3, .int (jI 1)), (0, .ref m0), (1, .int (jI ((ev : Nat) : Int))), (2, .int (jI ((wh : Nat) : Int)))]) hx hb dX7_information_54 hl (by decide) rfl (fun ls hl => ?_)
  refine lv_aload_n hx hb dX7_information_56 rfl (lv_at hl 2 rfl) ?_
  refine va_get (D := D) (ci := 7) (v := .ref (a 12)) (C := RX7) (T := TX7) (N := 20) hx hb hts iX7 hown hK.1 hP 0 rfl rfl 14 (by decide) f48 (fun _ h9 => h9) rfl dX7_information_57 ?_
  have ct60 := c_X7_times l D tys htJ (a 12) (invg gW')
  refine k_goV (va_runS (As := [.ref (a 12)]) (rest := []) ⟨hx, hb, hml, hown, hts⟩ (ct60.2 _) (va_cwS 1 hts gX7_information_X7_times rfl rfl rfl (by decide +kernel) ⟨Nat.le_of_ble_eq_true rfl, Nat.le_of_ble_eq_true rfl⟩) (k_pre hK hP hD (is := [11]) rfl rfl) rfl rfl hl.1 rfl (lv_room (Nat.le_of_ble_eq_true rfl)) dX7_information_60 ⟨Nat.le_of_ble_eq_true rfl, Nat.le_of_ble_eq_true rfl⟩) ct60.1 hP hD hS hA [11] rfl rfl (fun H locs hP hD hS => ?_)
  have hP : va_P D vwCl [(m0, oR (jI ((ms : Nat) : Int)) (jI ((es : Nat) : Int)) th a), ((a 1), .inl (cI, 42, .inl (fun i => vI (gM i)))), ((a 2), .inl (cI, 30, .inl (fun i => vI (gB i)))), ((a 3), .inl (cI, 6, .inl (fun i => jI ((gT i : Nat) : Int)))), ((a 5), .inl (cI, 6, .inl (fun i => jI ((gN i : Nat) : Int)))), ((a 6), .inl (cI, 1080, .inl (fun i => vI (gK i)))), ((a 7), .inl (cZ, 180, .inl (fun i => jI (iB (gD i))))), ((a 8), .inl (cJ, 105, .inr (.inl (fun i => vL (gH' i))))), ((a 9), .inl (cJ, 105, .inr (.inl (fun i => vL (gU' i))))), ((a 10), .inl (cJ, 90, .inr (.inl (fun i => vL (gF' i))))), ((a 11), .inl (cZ, 30, .inl (fun i => jI (iB (gX' i))))), ((a 12), .inl (cJ, 5, .inr (.inl (fun i => vL ((timg (invg gW')) i)))))] H := hP
  have hD : va_D A [(m0, oR (jI ((ms : Nat) : Int)) (jI ((es : Nat) : Int)) th a), ((a 1), .inl (cI, 42, .inl (fun i => vI (gM i)))), ((a 2), .inl (cI, 30, .inl (fun i => vI (gB i)))), ((a 3), .inl (cI, 6, .inl (fun i => jI ((gT i : Nat) : Int)))), ((a 5), .inl (cI, 6, .inl (fun i => jI ((gN i : Nat) : Int)))), ((a 6), .inl (cI, 1080, .inl (fun i => vI (gK i)))), ((a 7), .inl (cZ, 180, .inl (fun i => jI (iB (gD i))))), ((a 8), .inl (cJ, 105, .inr (.inl (fun i => vL (gH' i))))), ((a 9), .inl (cJ, 105, .inr (.inl (fun i => vL (gU' i))))), ((a 10), .inl (cJ, 90, .inr (.inl (fun i => vL (gF' i))))), ((a 11), .inl (cZ, 30, .inl (fun i => jI (iB (gX' i))))), ((a 12), .inl (cJ, 5, .inr (.inl (fun i => vL ((timg (invg gW')) i)))))] := hD
  refine lv_aload_n hx hb dX7_information_63 rfl (lv_at hl 2 rfl) ?_
  refine lv_aload_n hx hb dX7_information_64 rfl (lv_at hl 2 rfl) ?_
  refine lv_iload_n hx hb dX7_information_65 rfl (lv_at hl 3 rfl) ?_
  have ct66 := c_X7_isOne l D tys m0 a ms es th ((ev : Nat) : Int) (by first | assumption | exact r32_z _ | (unfold r32; omega)) (by omega) (by omega)
  refine k_goI (va_runV (As := [.int (jI ((ev : Nat) : Int))]) (rest := [.ref m0]) ⟨hx, hb, hml, hown, hts⟩ (ct66.2 _) (cwV 1 hts gX7_information_X7_isOne rfl rfl rfl (by decide +kernel) ⟨Nat.le_of_ble_eq_true rfl, Nat.le_of_ble_eq_true rfl⟩) ⟨(k_pre hK hP hD (is := [0]) rfl rfl).1, va_recv hK.1 hP (ci := 7) (q0 := 0) rfl rfl, (k_pre hK hP hD (is := [0]) rfl rfl).2⟩ rfl rfl hl.1 rfl (lv_room (Nat.le_of_ble_eq_true rfl)) dX7_information_66 ⟨Nat.le_of_ble_eq_true rfl, Nat.le_of_ble_eq_true rfl⟩) ct66.1 hP hD hS hA [0] rfl rfl (fun H locs hP hD hS => ?_)
  have hP : va_P D vwCl [(m0, oR (jI ((ms : Nat) : Int)) (jI ((es : Nat) : Int)) th a), ((a 1), .inl (cI, 42, .inl (fun i => vI (gM i)))), ((a 2), .inl (cI, 30, .inl (fun i => vI (gB i)))), ((a 3), .inl (cI, 6, .inl (fun i => jI ((gT i : Nat) : Int)))), ((a 5), .inl (cI, 6, .inl (fun i => jI ((gN i : Nat) : Int)))), ((a 6), .inl (cI, 1080, .inl (fun i => vI (gK i)))), ((a 7), .inl (cZ, 180, .inl (fun i => jI (iB (gD i))))), ((a 8), .inl (cJ, 105, .inr (.inl (fun i => vL (gH' i))))), ((a 9), .inl (cJ, 105, .inr (.inl (fun i => vL (gU' i))))), ((a 10), .inl (cJ, 90, .inr (.inl (fun i => vL (gF' i))))), ((a 11), .inl (cZ, 30, .inl (fun i => jI (iB (gX' i))))), ((a 12), .inl (cJ, 5, .inr (.inl (fun i => vL ((timg (invg gW')) i)))))] H := hP
  have hD : va_D A [(m0, oR (jI ((ms : Nat) : Int)) (jI ((es : Nat) : Int)) th a), ((a 1), .inl (cI, 42, .inl (fun i => vI (gM i)))), ((a 2), .inl (cI, 30, .inl (fun i => vI (gB i)))), ((a 3), .inl (cI, 6, .inl (fun i => jI ((gT i : Nat) : Int)))), ((a 5), .inl (cI, 6, .inl (fun i => jI ((gN i : Nat) : Int)))), ((a 6), .inl (cI, 1080, .inl (fun i => vI (gK i)))), ((a 7), .inl (cZ, 180, .inl (fun i => jI (iB (gD i))))), ((a 8), .inl (cJ, 105, .inr (.inl (fun i => vL (gH' i))))), ((a 9), .inl (cJ, 105, .inr (.inl (fun i => vL (gU' i))))), ((a 10), .inl (cJ, 90, .inr (.inl (fun i => vL (gF' i))))), ((a 11), .inl (cZ, 30, .inl (fun i => jI (iB (gX' i))))), ((a 12), .inl (cJ, 5, .inr (.inl (fun i => vL ((timg (invg gW')) i)))))] := hD
  refine n_ifB_ne (tgt := 76) hx hb dX7_information_69 (by decide) (fun h69 => ?_) (fun h69 => Bool.noConfusion ((inB_t (by omega) (by omega)).symm.trans h69))
  refine lv_iload_n hx hb dX7_information_76 rfl (lv_at hl 1 rfl) ?_
  refine n_if_ne (tgt := 84) hx hb (by unfold r32; decide) dX7_information_77 (by decide) (fun h77 => ?_) (fun h77 => False.elim (by revert h77; decide))
  refine lv_iload hx hb dX7_information_84 (lv_at hl 0 rfl) ?_
  refine n_ifB_eq (tgt := 93) hx hb dX7_information_86 (by decide) (fun h86 => Bool.noConfusion h86) (fun h86 => ?_)
  refine n_iconst hx hb dX7_information_89 ?_
  refine lv_goto (tgt := 94) hx hb dX7_information_90 (by decide) ?_
  have ct94 := c_X7_failsF l D tys m0 a ms es th
  refine k_goI (va_runV (As := [.int (jI 0)]) (rest := []) ⟨hx, hb, hml, hown, hts⟩ (ct94.2 _) (cwV 1 hts gX7_information_X7_fails rfl rfl rfl (by decide +kernel) ⟨Nat.le_of_ble_eq_true rfl, Nat.le_of_ble_eq_true rfl⟩) ⟨(k_pre hK hP hD (is := [0]) rfl rfl).1, va_recv hK.1 hP (ci := 7) (q0 := 0) rfl rfl, (k_pre hK hP hD (is := [0]) rfl rfl).2⟩ rfl rfl hl.1 rfl (lv_room (Nat.le_of_ble_eq_true rfl)) dX7_information_94 ⟨Nat.le_of_ble_eq_true rfl, Nat.le_of_ble_eq_true rfl⟩) ct94.1 hP hD hS hA [0] rfl rfl (fun H locs hP hD hS => ?_)
  have hP : va_P D vwCl [(m0, oR (jI ((ms : Nat) : Int)) (jI ((es : Nat) : Int)) (jI 0) a), ((a 1), .inl (cI, 42, .inl (fun i => vI (gM i)))), ((a 2), .inl (cI, 30, .inl (fun i => vI (gB i)))), ((a 3), .inl (cI, 6, .inl (fun i => jI ((gT i : Nat) : Int)))), ((a 5), .inl (cI, 6, .inl (fun i => jI ((gN i : Nat) : Int)))), ((a 6), .inl (cI, 1080, .inl (fun i => vI (gK i)))), ((a 7), .inl (cZ, 180, .inl (fun i => jI (iB (gD i))))), ((a 8), .inl (cJ, 105, .inr (.inl (fun i => vL (gH' i))))), ((a 9), .inl (cJ, 105, .inr (.inl (fun i => vL (gU' i))))), ((a 10), .inl (cJ, 90, .inr (.inl (fun i => vL (gF' i))))), ((a 11), .inl (cZ, 30, .inl (fun i => jI (iB (gX' i))))), ((a 12), .inl (cJ, 5, .inr (.inl (fun i => vL ((timg (invg gW')) i)))))] H := hP
  have hD : va_D A [(m0, oR (jI ((ms : Nat) : Int)) (jI ((es : Nat) : Int)) (jI 0) a), ((a 1), .inl (cI, 42, .inl (fun i => vI (gM i)))), ((a 2), .inl (cI, 30, .inl (fun i => vI (gB i)))), ((a 3), .inl (cI, 6, .inl (fun i => jI ((gT i : Nat) : Int)))), ((a 5), .inl (cI, 6, .inl (fun i => jI ((gN i : Nat) : Int)))), ((a 6), .inl (cI, 1080, .inl (fun i => vI (gK i)))), ((a 7), .inl (cZ, 180, .inl (fun i => jI (iB (gD i))))), ((a 8), .inl (cJ, 105, .inr (.inl (fun i => vL (gH' i))))), ((a 9), .inl (cJ, 105, .inr (.inl (fun i => vL (gU' i))))), ((a 10), .inl (cJ, 90, .inr (.inl (fun i => vL (gF' i))))), ((a 11), .inl (cZ, 30, .inl (fun i => jI (iB (gX' i))))), ((a 12), .inl (cJ, 5, .inr (.inl (fun i => vL ((timg (invg gW')) i)))))] := hD
  refine n_ifB_eq (tgt := 104) hx hb dX7_information_97 (by decide) (fun h97 => ?_) (fun h97 => Bool.noConfusion h97)
  refine lv_aload_n hx hb dX7_information_104 rfl (lv_at hl 2 rfl) ?_
  refine va_get (D := D) (ci := 7) (v := .ref (a 12)) (C := RX7) (T := TX7) (N := 20) hx hb hts iX7 hown hK.1 hP 0 rfl rfl 14 (by decide) f48 (fun _ h9 => h9) rfl dX7_information_105 ?_
  refine lv_iload_n hx hb dX7_information_108 rfl (lv_at hl 4 rfl) ?_
  refine n_lald (i := wh) hx hb hK hP 11 1 rfl htJ rfl (by omega) (Nat.le_of_ble_eq_true rfl) dX7_information_109 ?_
  refine n_l2i hx hb dX7_information_110 ?_
  exact e_iret (gH', gU', gF', gX', timg (invg gW')) hx hb hr hlocks dX7_information_111 hP hS (by rw [comp_s5 (timg (invg gW')) (by omega), s5_timg, s5_invg, hst])
