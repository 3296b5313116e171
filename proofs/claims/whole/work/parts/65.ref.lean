/-! the reference: measure, drop, gain refused -/
set_option maxHeartbeats 4000000 in
set_option maxRecDepth 100000 in
/--  -/
theorem c_X7_measure1 (l : Launch) (D : va_G) (tys : List (ClassId × FieldType)) {cI cJ cZ : ClassId} (htI : tys[0]? = some (cI, .int)) (htJ : tys[1]? = some (cJ, .long)) (htZ : tys[2]? = some (cZ, .boolean)) (m0 : Nat) (a : Nat → Nat) (ms es : Nat) (th : Int32) (gM : Nat → Zp) (gB : Nat → Zp) (gT : Nat → Nat) (gG : Nat → Zp) (gN : Nat → Nat) (gK : Nat → Zp) (gD : Nat → Bool) (gH : Nat → Zp) (gU : Nat → Zp) (gF : Nat → Zp) (gX : Nat → Bool) (gW : Nat → Zp) (q1 : ms ≤ 6) (q2 : es ≤ 6) (ev h0 h1 zz rr : Int) (q3 : r32 ev) (q5 : r32 h0) (q6 : r32 h1) (q7 : r32 zz) (q8 : r32 rr) (h9 : (inB 0 (((es : Nat) : Int) - 1) ev) = false) : CtI l D tys yX7_measure wsX7_measure 5 139 [.ref m0, .int (jI ev), .int (jI h0), .int (jI h1), .int (jI zz), .int (jI rr)] (jI 0) [(m0, oR (jI ((ms : Nat) : Int)) (jI ((es : Nat) : Int)) th a), ((a 1), .inl (cI, 42, .inl (fun i => vI (gM i)))), ((a 2), .inl (cI, 30, .inl (fun i => vI (gB i)))), ((a 3), .inl (cI, 6, .inl (fun i => jI ((gT i : Nat) : Int)))), ((a 4), .inl (cI, 6, .inl (fun i => vI (gG i)))), ((a 5), .inl (cI, 6, .inl (fun i => jI ((gN i : Nat) : Int)))), ((a 6), .inl (cI, 1080, .inl (fun i => vI (gK i)))), ((a 7), .inl (cZ, 180, .inl (fun i => jI (iB (gD i))))), ((a 8), .inl (cJ, 105, .inr (.inl (fun i => vL (gH i))))), ((a 9), .inl (cJ, 105, .inr (.inl (fun i => vL (gU i))))), ((a 10), .inl (cJ, 90, .inr (.inl (fun i => vL (gF i))))), ((a 11), .inl (cZ, 30, .inl (fun i => jI (iB (gX i))))), ((a 12), .inl (cJ, 5, .inr (.inl (fun i => vL (gW i)))))] [(m0, oR (jI ((ms : Nat) : Int)) (jI ((es : Nat) : Int)) (jI 1) a), ((a 1), .inl (cI, 42, .inl (fun i => vI (gM i)))), ((a 2), .inl (cI, 30, .inl (fun i => vI (gB i)))), ((a 3), .inl (cI, 6, .inl (fun i => jI ((gT i : Nat) : Int)))), ((a 4), .inl (cI, 6, .inl (fun i => vI (gG i)))), ((a 5), .inl (cI, 6, .inl (fun i => jI ((gN i : Nat) : Int)))), ((a 6), .inl (cI, 1080, .inl (fun i => vI (gK i)))), ((a 7), .inl (cZ, 180, .inl (fun i => jI (iB (gD i))))), ((a 8), .inl (cJ, 105, .inr (.inl (fun i => vL (gH i))))), ((a 9), .inl (cJ, 105, .inr (.inl (fun i => vL (gU i))))), ((a 10), .inl (cJ, 90, .inr (.inl (fun i => vL (gF i))))), ((a 11), .inl (cZ, 30, .inl (fun i => jI (iB (gX i))))), ((a 12), .inl (cJ, 5, .inr (.inl (fun i => vL (gW i)))))] := by
  refine CtI.of (cc := cX7_measure) (maxL := 6) (by decide +kernel) rfl rfl (Nat.le_of_ble_eq_true rfl) ?_
  intro p e s m below meth c A ls hcx hK hP hD hA hl
  obtain ⟨hx, hb, hr, hml, hown, hts, hlocks⟩ := hcx
  have hS : va_S A s.heap s.heap [] := va_S.rf
  have hown : s.vm.findClass RX7 = some m.cls := hown
  have hl : lv_has ls 6 [(0, .ref m0), (1, .int (jI ev)), (2, .int (jI h0)), (3, .int (jI h1)), (4, .int (jI zz)), (5, .int (jI rr))] := hl
  refine lv_aload_n hx hb dX7_measure_0 rfl (lv_at hl 0 rfl) ?_
  refine lv_iload_n hx hb dX7_measure_1 rfl (lv_at hl 1 rfl) ?_
  refine lv_aload_n hx hb dX7_measure_2 rfl (lv_at hl 0 rfl) ?_
  refine lv_iload_n hx hb dX7_measure_3 rfl (lv_at hl 1 rfl) ?_
  have ct4 := c_X7_isOne l D tys m0 a ms es th ev (by first | assumption | exact r32_z _ | (unfold r32; omega)) (by omega) (by omega)
  refine k_goI (va_runV (As := [.int (jI ev)]) (rest := [.int (jI ev), .ref m0]) ⟨hx, hb, hml, hown, hts⟩ (ct4.2 _) (cwV 1 hts gX7_measure_X7_isOne rfl rfl rfl (by decide +kernel) ⟨Nat.le_of_ble_eq_true rfl, Nat.le_of_ble_eq_true rfl⟩) ⟨(k_pre hK hP hD (is := [0]) rfl rfl).1, va_recv hK.1 hP (ci := 7) (q0 := 0) rfl rfl, (k_pre hK hP hD (is := [0]) rfl rfl).2⟩ rfl rfl hl.1 rfl (lv_room (Nat.le_of_ble_eq_true rfl)) dX7_measure_4 ⟨Nat.le_of_ble_eq_true rfl, Nat.le_of_ble_eq_true rfl⟩) ct4.1 hP hD hS hA [0] rfl rfl (fun H locs hP hD hS => ?_)
  have hP : va_P D vwCl [(m0, oR (jI ((ms : Nat) : Int)) (jI ((es : Nat) : Int)) th a), ((a 1), .inl (cI, 42, .inl (fun i => vI (gM i)))), ((a 2), .inl (cI, 30, .inl (fun i => vI (gB i)))), ((a 3), .inl (cI, 6, .inl (fun i => jI ((gT i : Nat) : Int)))), ((a 4), .inl (cI, 6, .inl (fun i => vI (gG i)))), ((a 5), .inl (cI, 6, .inl (fun i => jI ((gN i : Nat) : Int)))), ((a 6), .inl (cI, 1080, .inl (fun i => vI (gK i)))), ((a 7), .inl (cZ, 180, .inl (fun i => jI (iB (gD i))))), ((a 8), .inl (cJ, 105, .inr (.inl (fun i => vL (gH i))))), ((a 9), .inl (cJ, 105, .inr (.inl (fun i => vL (gU i))))), ((a 10), .inl (cJ, 90, .inr (.inl (fun i => vL (gF i))))), ((a 11), .inl (cZ, 30, .inl (fun i => jI (iB (gX i))))), ((a 12), .inl (cJ, 5, .inr (.inl (fun i => vL (gW i)))))] H := hP
  have hD : va_D A [(m0, oR (jI ((ms : Nat) : Int)) (jI ((es : Nat) : Int)) th a), ((a 1), .inl (cI, 42, .inl (fun i => vI (gM i)))), ((a 2), .inl (cI, 30, .inl (fun i => vI (gB i)))), ((a 3), .inl (cI, 6, .inl (fun i => jI ((gT i : Nat) : Int)))), ((a 4), .inl (cI, 6, .inl (fun i => vI (gG i)))), ((a 5), .inl (cI, 6, .inl (fun i => jI ((gN i : Nat) : Int)))), ((a 6), .inl (cI, 1080, .inl (fun i => vI (gK i)))), ((a 7), .inl (cZ, 180, .inl (fun i => jI (iB (gD i))))), ((a 8), .inl (cJ, 105, .inr (.inl (fun i => vL (gH i))))), ((a 9), .inl (cJ, 105, .inr (.inl (fun i => vL (gU i))))), ((a 10), .inl (cJ, 90, .inr (.inl (fun i => vL (gF i))))), ((a 11), .inl (cZ, 30, .inl (fun i => jI (iB (gX i))))), ((a 12), .inl (cJ, 5, .inr (.inl (fun i => vL (gW i)))))] := hD
  refine n_ifB_eq (tgt := 19) hx hb dX7_measure_7 (by decide) (fun h7 => ?_) (fun h7 => Bool.noConfusion (h9.symm.trans h7))
  refine n_iconst hx hb dX7_measure_19 ?_
  refine lv_iload_n hx hb dX7_measure_20 rfl (lv_at hl 2 rfl) ?_
  refine lv_iload_n hx hb dX7_measure_21 rfl (lv_at hl 3 rfl) ?_
  refine lv_iload hx hb dX7_measure_22 (lv_at hl 4 rfl) ?_
  refine lv_iload hx hb dX7_measure_24 (lv_at hl 5 rfl) ?_
  have ct26 := c_X7_late1 l D tys htI htJ htZ m0 a ms es th gM gB gT gG gN gK gD gH gU gF gX gW (by omega) (by omega) ev 0 h0 h1 zz rr (by first | assumption | exact r32_z _ | (unfold r32; omega)) h9
  refine k_goI (va_runV (As := [.int (jI ev), .int (jI 0), .int (jI h0), .int (jI h1), .int (jI zz), .int (jI rr)]) (rest := []) ⟨hx, hb, hml, hown, hts⟩ (ct26.2 _) (cwV 6 hts gX7_measure_X7_late rfl rfl rfl (by decide +kernel) ⟨Nat.le_of_ble_eq_true rfl, Nat.le_of_ble_eq_true rfl⟩) ⟨(k_pre hK hP hD (is := [0, 1, 2, 3, 4, 5, 6, 7, 8, 9, 10, 11, 12]) rfl rfl).1, va_recv hK.1 hP (ci := 7) (q0 := 0) rfl rfl, (k_pre hK hP hD (is := [0, 1, 2, 3, 4, 5, 6, 7, 8, 9, 10, 11, 12]) rfl rfl).2⟩ rfl rfl hl.1 rfl (lv_room (Nat.le_of_ble_eq_true rfl)) dX7_measure_26 ⟨Nat.le_of_ble_eq_true rfl, Nat.le_of_ble_eq_true rfl⟩) ct26.1 hP hD hS hA [0, 1, 2, 3, 4, 5, 6, 7, 8, 9, 10, 11, 12] rfl rfl (fun H locs hP hD hS => ?_)
  have hP : va_P D vwCl [(m0, oR (jI ((ms : Nat) : Int)) (jI ((es : Nat) : Int)) (jI 1) a), ((a 1), .inl (cI, 42, .inl (fun i => vI (gM i)))), ((a 2), .inl (cI, 30, .inl (fun i => vI (gB i)))), ((a 3), .inl (cI, 6, .inl (fun i => jI ((gT i : Nat) : Int)))), ((a 4), .inl (cI, 6, .inl (fun i => vI (gG i)))), ((a 5), .inl (cI, 6, .inl (fun i => jI ((gN i : Nat) : Int)))), ((a 6), .inl (cI, 1080, .inl (fun i => vI (gK i)))), ((a 7), .inl (cZ, 180, .inl (fun i => jI (iB (gD i))))), ((a 8), .inl (cJ, 105, .inr (.inl (fun i => vL (gH i))))), ((a 9), .inl (cJ, 105, .inr (.inl (fun i => vL (gU i))))), ((a 10), .inl (cJ, 90, .inr (.inl (fun i => vL (gF i))))), ((a 11), .inl (cZ, 30, .inl (fun i => jI (iB (gX i))))), ((a 12), .inl (cJ, 5, .inr (.inl (fun i => vL (gW i)))))] H := hP
  have hD : va_D A [(m0, oR (jI ((ms : Nat) : Int)) (jI ((es : Nat) : Int)) (jI 1) a), ((a 1), .inl (cI, 42, .inl (fun i => vI (gM i)))), ((a 2), .inl (cI, 30, .inl (fun i => vI (gB i)))), ((a 3), .inl (cI, 6, .inl (fun i => jI ((gT i : Nat) : Int)))), ((a 4), .inl (cI, 6, .inl (fun i => vI (gG i)))), ((a 5), .inl (cI, 6, .inl (fun i => jI ((gN i : Nat) : Int)))), ((a 6), .inl (cI, 1080, .inl (fun i => vI (gK i)))), ((a 7), .inl (cZ, 180, .inl (fun i => jI (iB (gD i))))), ((a 8), .inl (cJ, 105, .inr (.inl (fun i => vL (gH i))))), ((a 9), .inl (cJ, 105, .inr (.inl (fun i => vL (gU i))))), ((a 10), .inl (cJ, 90, .inr (.inl (fun i => vL (gF i))))), ((a 11), .inl (cZ, 30, .inl (fun i => jI (iB (gX i))))), ((a 12), .inl (cJ, 5, .inr (.inl (fun i => vL (gW i)))))] := hD
  exact k_iret hx hb hr hlocks dX7_measure_29 hP hS rfl

set_option maxHeartbeats 4000000 in
set_option maxRecDepth 100000 in
/--  -/
theorem c_X7_measure2 (l : Launch) (D : va_G) (tys : List (ClassId × FieldType)) {cI cJ cZ : ClassId} (htI : tys[0]? = some (cI, .int)) (htJ : tys[1]? = some (cJ, .long)) (htZ : tys[2]? = some (cZ, .boolean)) (m0 : Nat) (a : Nat → Nat) (ms es : Nat) (th : Int32) (gM : Nat → Zp) (gB : Nat → Zp) (gT : Nat → Nat) (gG : Nat → Zp) (gN : Nat → Nat) (gK : Nat → Zp) (gD : Nat → Bool) (gH : Nat → Zp) (gU : Nat → Zp) (gF : Nat → Zp) (gX : Nat → Bool) (gW : Nat → Zp) (q1 : ms ≤ 6) (q2 : es ≤ 6) (ev : Nat) (h0 h1 zz rr : Int) (q3 : ev < es) (q5 : r32 h0) (q6 : r32 h1) (q7 : r32 zz) (q8 : r32 rr) (qT : gT ev ≤ 20) (h8 : ((inB 0 10006 h0) && ((inB 0 10006 h1) && ((inB 0 10006 zz) && ((inB 0 10006 rr))))) = false) : CtI l D tys yX7_measure wsX7_measure 5 139 [.ref m0, .int (jI ((ev : Nat) : Int)), .int (jI h0), .int (jI h1), .int (jI zz), .int (jI rr)] (jI 0) [(m0, oR (jI ((ms : Nat) : Int)) (jI ((es : Nat) : Int)) th a), ((a 1), .inl (cI, 42, .inl (fun i => vI (gM i)))), ((a 2), .inl (cI, 30, .inl (fun i => vI (gB i)))), ((a 3), .inl (cI, 6, .inl (fun i => jI ((gT i : Nat) : Int)))), ((a 4), .inl (cI, 6, .inl (fun i => vI (gG i)))), ((a 5), .inl (cI, 6, .inl (fun i => jI ((gN i : Nat) : Int)))), ((a 6), .inl (cI, 1080, .inl (fun i => vI (gK i)))), ((a 7), .inl (cZ, 180, .inl (fun i => jI (iB (gD i))))), ((a 8), .inl (cJ, 105, .inr (.inl (fun i => vL (gH i))))), ((a 9), .inl (cJ, 105, .inr (.inl (fun i => vL (gU i))))), ((a 10), .inl (cJ, 90, .inr (.inl (fun i => vL (gF i))))), ((a 11), .inl (cZ, 30, .inl (fun i => jI (iB (gX i))))), ((a 12), .inl (cJ, 5, .inr (.inl (fun i => vL (gW i)))))] [(m0, oR (jI ((ms : Nat) : Int)) (jI ((es : Nat) : Int)) (jI 2) a), ((a 1), .inl (cI, 42, .inl (fun i => vI (gM i)))), ((a 2), .inl (cI, 30, .inl (fun i => vI (gB i)))), ((a 3), .inl (cI, 6, .inl (fun i => jI ((gT i : Nat) : Int)))), ((a 4), .inl (cI, 6, .inl (fun i => vI (gG i)))), ((a 5), .inl (cI, 6, .inl (fun i => jI ((gN i : Nat) : Int)))), ((a 6), .inl (cI, 1080, .inl (fun i => vI (gK i)))), ((a 7), .inl (cZ, 180, .inl (fun i => jI (iB (gD i))))), ((a 8), .inl (cJ, 105, .inr (.inl (fun i => vL (gH i))))), ((a 9), .inl (cJ, 105, .inr (.inl (fun i => vL (gU i))))), ((a 10), .inl (cJ, 90, .inr (.inl (fun i => vL (gF i))))), ((a 11), .inl (cZ, 30, .inl (fun i => jI (iB (gX i))))), ((a 12), .inl (cJ, 5, .inr (.inl (fun i => vL (gW i)))))] := by
  refine CtI.of (cc := cX7_measure) (maxL := 6) (by decide +kernel) rfl rfl (Nat.le_of_ble_eq_true rfl) ?_
  intro p e s m below meth c A ls hcx hK hP hD hA hl
  obtain ⟨hx, hb, hr, hml, hown, hts, hlocks⟩ := hcx
  have hS : va_S A s.heap s.heap [] := va_S.rf
  have hown : s.vm.findClass RX7 = some m.cls := hown
  have hl : lv_has ls 6 [(0, .ref m0), (1, .int (jI ((ev : Nat) : Int))), (2, .int (jI h0)), (3, .int (jI h1)), (4, .int (jI zz)), (5, .int (jI rr))] := hl
  have f19 := hts (.fieldLink RX7 19 "FieldFilterModel" "time" "[I") (by decide +kernel)
  have iX7 : ∀ w ∈ u_ws RX7 TX7 20, w ∈ wsX7_measure := by decide +kernel
  refine lv_aload_n hx hb dX7_measure_0 rfl (lv_at hl 0 rfl) ?_
  refine lv_iload_n hx hb dX7_measure_1 rfl (lv_at hl 1 rfl) ?_
  refine lv_aload_n hx hb dX7_measure_2 rfl (lv_at hl 0 rfl) ?_
  refine lv_iload_n hx hb dX7_measure_3 rfl (lv_at hl 1 rfl) ?_
  have ct4 := c_X7_isOne l D tys m0 a ms es th ((ev : Nat) : Int) (by first | assumption | exact r32_z _ | (unfold r32; omega)) (by omega) (by omega)
  refine k_goI (va_runV (As := [.int (jI ((ev : Nat) : Int))]) (rest := [.int (jI ((ev : Nat) : Int)), .ref m0]) ⟨hx, hb, hml, hown, hts⟩ (ct4.2 _) (cwV 1 hts gX7_measure_X7_isOne rfl rfl rfl (by decide +kernel) ⟨Nat.le_of_ble_eq_true rfl, Nat.le_of_ble_eq_true rfl⟩) ⟨(k_pre hK hP hD (is := [0]) rfl rfl).1, va_recv hK.1 hP (ci := 7) (q0 := 0) rfl rfl, (k_pre hK hP hD (is := [0]) rfl rfl).2⟩ rfl rfl hl.1 rfl (lv_room (Nat.le_of_ble_eq_true rfl)) dX7_measure_4 ⟨Nat.le_of_ble_eq_true rfl, Nat.le_of_ble_eq_true rfl⟩) ct4.1 hP hD hS hA [0] rfl rfl (fun H locs hP hD hS => ?_)
  have hP : va_P D vwCl [(m0, oR (jI ((ms : Nat) : Int)) (jI ((es : Nat) : Int)) th a), ((a 1), .inl (cI, 42, .inl (fun i => vI (gM i)))), ((a 2), .inl (cI, 30, .inl (fun i => vI (gB i)))), ((a 3), .inl (cI, 6, .inl (fun i => jI ((gT i : Nat) : Int)))), ((a 4), .inl (cI, 6, .inl (fun i => vI (gG i)))), ((a 5), .inl (cI, 6, .inl (fun i => jI ((gN i : Nat) : Int)))), ((a 6), .inl (cI, 1080, .inl (fun i => vI (gK i)))), ((a 7), .inl (cZ, 180, .inl (fun i => jI (iB (gD i))))), ((a 8), .inl (cJ, 105, .inr (.inl (fun i => vL (gH i))))), ((a 9), .inl (cJ, 105, .inr (.inl (fun i => vL (gU i))))), ((a 10), .inl (cJ, 90, .inr (.inl (fun i => vL (gF i))))), ((a 11), .inl (cZ, 30, .inl (fun i => jI (iB (gX i))))), ((a 12), .inl (cJ, 5, .inr (.inl (fun i => vL (gW i)))))] H := hP
  have hD : va_D A [(m0, oR (jI ((ms : Nat) : Int)) (jI ((es : Nat) : Int)) th a), ((a 1), .inl (cI, 42, .inl (fun i => vI (gM i)))), ((a 2), .inl (cI, 30, .inl (fun i => vI (gB i)))), ((a 3), .inl (cI, 6, .inl (fun i => jI ((gT i : Nat) : Int)))), ((a 4), .inl (cI, 6, .inl (fun i => vI (gG i)))), ((a 5), .inl (cI, 6, .inl (fun i => jI ((gN i : Nat) : Int)))), ((a 6), .inl (cI, 1080, .inl (fun i => vI (gK i)))), ((a 7), .inl (cZ, 180, .inl (fun i => jI (iB (gD i))))), ((a 8), .inl (cJ, 105, .inr (.inl (fun i => vL (gH i))))), ((a 9), .inl (cJ, 105, .inr (.inl (fun i => vL (gU i))))), ((a 10), .inl (cJ, 90, .inr (.inl (fun i => vL (gF i))))), ((a 11), .inl (cZ, 30, .inl (fun i => jI (iB (gX i))))), ((a 12), .inl (cJ, 5, .inr (.inl (fun i => vL (gW i)))))] := hD
  refine n_ifB_eq (tgt := 19) hx hb dX7_measure_7 (by decide) (fun h7 => Bool.noConfusion ((inB_t (by omega) (by omega)).symm.trans h7)) (fun h7 => ?_)
  refine lv_aload_n hx hb dX7_measure_10 rfl (lv_at hl 0 rfl) ?_
  refine va_get (D := D) (ci := 7) (v := .ref (a 3)) (C := RX7) (T := TX7) (N := 20) hx hb hts iX7 hown hK.1 hP 0 rfl rfl 5 (by decide) f19 (fun _ h9 => h9) rfl dX7_measure_11 ?_
  refine lv_iload_n hx hb dX7_measure_14 rfl (lv_at hl 1 rfl) ?_
  refine n_iald (i := ev) hx hb hK hP 3 0 rfl htI (by omega) (by omega) (Nat.le_of_ble_eq_true rfl) dX7_measure_15 ?_
  refine lv_goto (tgt := 20) hx hb dX7_measure_16 (by decide) ?_
  refine lv_iload_n hx hb dX7_measure_20 rfl (lv_at hl 2 rfl) ?_
  refine lv_iload_n hx hb dX7_measure_21 rfl (lv_at hl 3 rfl) ?_
  refine lv_iload hx hb dX7_measure_22 (lv_at hl 4 rfl) ?_
  refine lv_iload hx hb dX7_measure_24 (lv_at hl 5 rfl) ?_
  have ct26 := c_X7_late2 l D tys htI htJ htZ m0 a ms es th gM gB gT gG gN gK gD gH gU gF gX gW (by omega) (by omega) ev ((gT ev : Nat) : Int) h0 h1 zz rr q3 (by first | assumption | exact r32_z _ | (unfold r32; omega)) (by first | assumption | exact r32_z _ | (unfold r32; omega)) (by first | assumption | exact r32_z _ | (unfold r32; omega)) (by first | assumption | exact r32_z _ | (unfold r32; omega)) (by first | assumption | exact r32_z _ | (unfold r32; omega)) qT (by rw [h8, Bool.and_false])
  refine k_goI (va_runV (As := [.int (jI ((ev : Nat) : Int)), .int (jI ((gT ev : Nat) : Int)), .int (jI h0), .int (jI h1), .int (jI zz), .int (jI rr)]) (rest := []) ⟨hx, hb, hml, hown, hts⟩ (ct26.2 _) (cwV 6 hts gX7_measure_X7_late rfl rfl rfl (by decide +kernel) ⟨Nat.le_of_ble_eq_true rfl, Nat.le_of_ble_eq_true rfl⟩) ⟨(k_pre hK hP hD (is := [0, 1, 2, 3, 4, 5, 6, 7, 8, 9, 10, 11, 12]) rfl rfl).1, va_recv hK.1 hP (ci := 7) (q0 := 0) rfl rfl, (k_pre hK hP hD (is := [0, 1, 2, 3, 4, 5, 6, 7, 8, 9, 10, 11, 12]) rfl rfl).2⟩ rfl rfl hl.1 rfl (lv_room (Nat.le_of_ble_eq_true rfl)) dX7_measure_26 ⟨Nat.le_of_ble_eq_true rfl, Nat.le_of_ble_eq_true rfl⟩) ct26.1 hP hD hS hA [0, 1, 2, 3, 4, 5, 6, 7, 8, 9, 10, 11, 12] rfl rfl (fun H locs hP hD hS => ?_)
  have hP : va_P D vwCl [(m0, oR (jI ((ms : Nat) : Int)) (jI ((es : Nat) : Int)) (jI 2) a), ((a 1), .inl (cI, 42, .inl (fun i => vI (gM i)))), ((a 2), .inl (cI, 30, .inl (fun i => vI (gB i)))), ((a 3), .inl (cI, 6, .inl (fun i => jI ((gT i : Nat) : Int)))), ((a 4), .inl (cI, 6, .inl (fun i => vI (gG i)))), ((a 5), .inl (cI, 6, .inl (fun i => jI ((gN i : Nat) : Int)))), ((a 6), .inl (cI, 1080, .inl (fun i => vI (gK i)))), ((a 7), .inl (cZ, 180, .inl (fun i => jI (iB (gD i))))), ((a 8), .inl (cJ, 105, .inr (.inl (fun i => vL (gH i))))), ((a 9), .inl (cJ, 105, .inr (.inl (fun i => vL (gU i))))), ((a 10), .inl (cJ, 90, .inr (.inl (fun i => vL (gF i))))), ((a 11), .inl (cZ, 30, .inl (fun i => jI (iB (gX i))))), ((a 12), .inl (cJ, 5, .inr (.inl (fun i => vL (gW i)))))] H := hP
  have hD : va_D A [(m0, oR (jI ((ms : Nat) : Int)) (jI ((es : Nat) : Int)) (jI 2) a), ((a 1), .inl (cI, 42, .inl (fun i => vI (gM i)))), ((a 2), .inl (cI, 30, .inl (fun i => vI (gB i)))), ((a 3), .inl (cI, 6, .inl (fun i => jI ((gT i : Nat) : Int)))), ((a 4), .inl (cI, 6, .inl (fun i => vI (gG i)))), ((a 5), .inl (cI, 6, .inl (fun i => jI ((gN i : Nat) : Int)))), ((a 6), .inl (cI, 1080, .inl (fun i => vI (gK i)))), ((a 7), .inl (cZ, 180, .inl (fun i => jI (iB (gD i))))), ((a 8), .inl (cJ, 105, .inr (.inl (fun i => vL (gH i))))), ((a 9), .inl (cJ, 105, .inr (.inl (fun i => vL (gU i))))), ((a 10), .inl (cJ, 90, .inr (.inl (fun i => vL (gF i))))), ((a 11), .inl (cZ, 30, .inl (fun i => jI (iB (gX i))))), ((a 12), .inl (cJ, 5, .inr (.inl (fun i => vL (gW i)))))] := hD
  exact k_iret hx hb hr hlocks dX7_measure_29 hP hS rfl

set_option maxHeartbeats 4000000 in
set_option maxRecDepth 100000 in
/--  -/
theorem c_X7_measure3 (l : Launch) (D : va_G) (tys : List (ClassId × FieldType)) {cI cJ cZ : ClassId} (htI : tys[0]? = some (cI, .int)) (htJ : tys[1]? = some (cJ, .long)) (htZ : tys[2]? = some (cZ, .boolean)) (m0 : Nat) (a : Nat → Nat) (ms es : Nat) (th : Int32) (gM : Nat → Zp) (gB : Nat → Zp) (gT : Nat → Nat) (gG : Nat → Zp) (gN : Nat → Nat) (gK : Nat → Zp) (gD : Nat → Bool) (gH : Nat → Zp) (gU : Nat → Zp) (gF : Nat → Zp) (gX : Nat → Bool) (gW : Nat → Zp) (q1 : ms ≤ 6) (q2 : es ≤ 6) (ev : Nat) (h0 h1 zz rr : Zp) (q3 : ev < es) (qT : gT ev ≤ 20) (qN : gN ev ≤ 30) (h9 : gN ev = 30) : CtI l D tys yX7_measure wsX7_measure 5 139 [.ref m0, .int (jI ((ev : Nat) : Int)), .int (vI h0), .int (vI h1), .int (vI zz), .int (vI rr)] (jI 0) [(m0, oR (jI ((ms : Nat) : Int)) (jI ((es : Nat) : Int)) th a), ((a 1), .inl (cI, 42, .inl (fun i => vI (gM i)))), ((a 2), .inl (cI, 30, .inl (fun i => vI (gB i)))), ((a 3), .inl (cI, 6, .inl (fun i => jI ((gT i : Nat) : Int)))), ((a 4), .inl (cI, 6, .inl (fun i => vI (gG i)))), ((a 5), .inl (cI, 6, .inl (fun i => jI ((gN i : Nat) : Int)))), ((a 6), .inl (cI, 1080, .inl (fun i => vI (gK i)))), ((a 7), .inl (cZ, 180, .inl (fun i => jI (iB (gD i))))), ((a 8), .inl (cJ, 105, .inr (.inl (fun i => vL (gH i))))), ((a 9), .inl (cJ, 105, .inr (.inl (fun i => vL (gU i))))), ((a 10), .inl (cJ, 90, .inr (.inl (fun i => vL (gF i))))), ((a 11), .inl (cZ, 30, .inl (fun i => jI (iB (gX i))))), ((a 12), .inl (cJ, 5, .inr (.inl (fun i => vL (gW i)))))] [(m0, oR (jI ((ms : Nat) : Int)) (jI ((es : Nat) : Int)) (jI 3) a), ((a 1), .inl (cI, 42, .inl (fun i => vI (gM i)))), ((a 2), .inl (cI, 30, .inl (fun i => vI (gB i)))), ((a 3), .inl (cI, 6, .inl (fun i => jI ((gT i : Nat) : Int)))), ((a 4), .inl (cI, 6, .inl (fun i => vI (gG i)))), ((a 5), .inl (cI, 6, .inl (fun i => jI ((gN i : Nat) : Int)))), ((a 6), .inl (cI, 1080, .inl (fun i => vI (gK i)))), ((a 7), .inl (cZ, 180, .inl (fun i => jI (iB (gD i))))), ((a 8), .inl (cJ, 105, .inr (.inl (fun i => vL (gH i))))), ((a 9), .inl (cJ, 105, .inr (.inl (fun i => vL (gU i))))), ((a 10), .inl (cJ, 90, .inr (.inl (fun i => vL (gF i))))), ((a 11), .inl (cZ, 30, .inl (fun i => jI (iB (gX i))))), ((a 12), .inl (cJ, 5, .inr (.inl (fun i => vL (gW i)))))] := by
  refine CtI.of (cc := cX7_measure) (maxL := 6) (by decide +kernel) rfl rfl (Nat.le_of_ble_eq_true rfl) ?_
  intro p e s m below meth c A ls hcx hK hP hD hA hl
  obtain ⟨hx, hb, hr, hml, hown, hts, hlocks⟩ := hcx
  have hS : va_S A s.heap s.heap [] := va_S.rf
  have hown : s.vm.findClass RX7 = some m.cls := hown
  have hl : lv_has ls 6 [(0, .ref m0), (1, .int (jI ((ev : Nat) : Int))), (2, .int (vI h0)), (3, .int (vI h1)), (4, .int (vI zz)), (5, .int (vI rr))] := hl
  have f19 := hts (.fieldLink RX7 19 "FieldFilterModel" "time" "[I") (by decide +kernel)
  have iX7 : ∀ w ∈ u_ws RX7 TX7 20, w ∈ wsX7_measure := by decide +kernel
  refine lv_aload_n hx hb dX7_measure_0 rfl (lv_at hl 0 rfl) ?_
  refine lv_iload_n hx hb dX7_measure_1 rfl (lv_at hl 1 rfl) ?_
  refine lv_aload_n hx hb dX7_measure_2 rfl (lv_at hl 0 rfl) ?_
  refine lv_iload_n hx hb dX7_measure_3 rfl (lv_at hl 1 rfl) ?_
  have ct4 := c_X7_isOne l D tys m0 a ms es th ((ev : Nat) : Int) (by first | assumption | exact r32_z _ | (unfold r32; omega)) (by omega) (by omega)
  refine k_goI (va_runV (As := [.int (jI ((ev : Nat) : Int))]) (rest := [.int (jI ((ev : Nat) : Int)), .ref m0]) ⟨hx, hb, hml, hown, hts⟩ (ct4.2 _) (cwV 1 hts gX7_measure_X7_isOne rfl rfl rfl (by decide +kernel) ⟨Nat.le_of_ble_eq_true rfl, Nat.le_of_ble_eq_true rfl⟩) ⟨(k_pre hK hP hD (is := [0]) rfl rfl).1, va_recv hK.1 hP (ci := 7) (q0 := 0) rfl rfl, (k_pre hK hP hD (is := [0]) rfl rfl).2⟩ rfl rfl hl.1 rfl (lv_room (Nat.le_of_ble_eq_true rfl)) dX7_measure_4 ⟨Nat.le_of_ble_eq_true rfl, Nat.le_of_ble_eq_true rfl⟩) ct4.1 hP hD hS hA [0] rfl rfl (fun H locs hP hD hS => ?_)
  have hP : va_P D vwCl [(m0, oR (jI ((ms : Nat) : Int)) (jI ((es : Nat) : Int)) th a), ((a 1), .inl (cI, 42, .inl (fun i => vI (gM i)))), ((a 2), .inl (cI, 30, .inl (fun i => vI (gB i)))), ((a 3), .inl (cI, 6, .inl (fun i => jI ((gT i : Nat) : Int)))), ((a 4), .inl (cI, 6, .inl (fun i => vI (gG i)))), ((a 5), .inl (cI, 6, .inl (fun i => jI ((gN i : Nat) : Int)))), ((a 6), .inl (cI, 1080, .inl (fun i => vI (gK i)))), ((a 7), .inl (cZ, 180, .inl (fun i => jI (iB (gD i))))), ((a 8), .inl (cJ, 105, .inr (.inl (fun i => vL (gH i))))), ((a 9), .inl (cJ, 105, .inr (.inl (fun i => vL (gU i))))), ((a 10), .inl (cJ, 90, .inr (.inl (fun i => vL (gF i))))), ((a 11), .inl (cZ, 30, .inl (fun i => jI (iB (gX i))))), ((a 12), .inl (cJ, 5, .inr (.inl (fun i => vL (gW i)))))] H := hP
  have hD : va_D A [(m0, oR (jI ((ms : Nat) : Int)) (jI ((es : Nat) : Int)) th a), ((a 1), .inl (cI, 42, .inl (fun i => vI (gM i)))), ((a 2), .inl (cI, 30, .inl (fun i => vI (gB i)))), ((a 3), .inl (cI, 6, .inl (fun i => jI ((gT i : Nat) : Int)))), ((a 4), .inl (cI, 6, .inl (fun i => vI (gG i)))), ((a 5), .inl (cI, 6, .inl (fun i => jI ((gN i : Nat) : Int)))), ((a 6), .inl (cI, 1080, .inl (fun i => vI (gK i)))), ((a 7), .inl (cZ, 180, .inl (fun i => jI (iB (gD i))))), ((a 8), .inl (cJ, 105, .inr (.inl (fun i => vL (gH i))))), ((a 9), .inl (cJ, 105, .inr (.inl (fun i => vL (gU i))))), ((a 10), .inl (cJ, 90, .inr (.inl (fun i => vL (gF i))))), ((a 11), .inl (cZ, 30, .inl (fun i => jI (iB (gX i))))), ((a 12), .inl (cJ, 5, .inr (.inl (fun i => vL (gW i)))))] := hD
  refine n_ifB_eq (tgt := 19) hx hb dX7_measure_7 (by decide) (fun h7 => Bool.noConfusion ((inB_t (by omega) (by omega)).symm.trans h7)) (fun h7 => ?_)
  refine lv_aload_n hx hb dX7_measure_10 rfl (lv_at hl 0 rfl) ?_
  refine va_get (D := D) (ci := 7) (v := .ref (a 3)) (C := RX7) (T := TX7) (N := 20) hx hb hts iX7 hown hK.1 hP 0 rfl rfl 5 (by decide) f19 (fun _ h9 => h9) rfl dX7_measure_11 ?_
  refine lv_iload_n hx hb dX7_measure_14 rfl (lv_at hl 1 rfl) ?_
  refine n_iald (i := ev) hx hb hK hP 3 0 rfl htI rfl (by omega) (Nat.le_of_ble_eq_true rfl) dX7_measure_15 ?_
  rw [show jI ((gT ev : Nat) : Int) = vI (zc ((gT ev : Nat) : Int)) from congrArg jI (zc_small (by omega) (by omega)).symm]
  refine lv_goto (tgt := 20) hx hb dX7_measure_16 (by decide) ?_
  refine lv_iload_n hx hb dX7_measure_20 rfl (lv_at hl 2 rfl) ?_
  refine lv_iload_n hx hb dX7_measure_21 rfl (lv_at hl 3 rfl) ?_
  refine lv_iload hx hb dX7_measure_22 (lv_at hl 4 rfl) ?_
  refine lv_iload hx hb dX7_measure_24 (lv_at hl 5 rfl) ?_
  have ct26 := c_X7_late3 l D tys htI htJ htZ m0 a ms es th gM gB gT gG gN gK gD gH gU gF gX gW (by omega) (by omega) ev (zc ((gT ev : Nat) : Int)) h0 h1 zz rr q3 (by rw [zc_small (by omega) (by omega)]; omega) qT qN h9
  refine k_goI (va_runV (As := [.int (jI ((ev : Nat) : Int)), .int (vI (zc ((gT ev : Nat) : Int))), .int (vI h0), .int (vI h1), .int (vI zz), .int (vI rr)]) (rest := []) ⟨hx, hb, hml, hown, hts⟩ (ct26.2 _) (cwV 6 hts gX7_measure_X7_late rfl rfl rfl (by decide +kernel) ⟨Nat.le_of_ble_eq_true rfl, Nat.le_of_ble_eq_true rfl⟩) ⟨(k_pre hK hP hD (is := [0, 1, 2, 3, 4, 5, 6, 7, 8, 9, 10, 11, 12]) rfl rfl).1, va_recv hK.1 hP (ci := 7) (q0 := 0) rfl rfl, (k_pre hK hP hD (is := [0, 1, 2, 3, 4, 5, 6, 7, 8, 9, 10, 11, 12]) rfl rfl).2⟩ rfl rfl hl.1 rfl (lv_room (Nat.le_of_ble_eq_true rfl)) dX7_measure_26 ⟨Nat.le_of_ble_eq_true rfl, Nat.le_of_ble_eq_true rfl⟩) ct26.1 hP hD hS hA [0, 1, 2, 3, 4, 5, 6, 7, 8, 9, 10, 11, 12] rfl rfl (fun H locs hP hD hS => ?_)
  have hP : va_P D vwCl [(m0, oR (jI ((ms : Nat) : Int)) (jI ((es : Nat) : Int)) (jI 3) a), ((a 1), .inl (cI, 42, .inl (fun i => vI (gM i)))), ((a 2), .inl (cI, 30, .inl (fun i => vI (gB i)))), ((a 3), .inl (cI, 6, .inl (fun i => jI ((gT i : Nat) : Int)))), ((a 4), .inl (cI, 6, .inl (fun i => vI (gG i)))), ((a 5), .inl (cI, 6, .inl (fun i => jI ((gN i : Nat) : Int)))), ((a 6), .inl (cI, 1080, .inl (fun i => vI (gK i)))), ((a 7), .inl (cZ, 180, .inl (fun i => jI (iB (gD i))))), ((a 8), .inl (cJ, 105, .inr (.inl (fun i => vL (gH i))))), ((a 9), .inl (cJ, 105, .inr (.inl (fun i => vL (gU i))))), ((a 10), .inl (cJ, 90, .inr (.inl (fun i => vL (gF i))))), ((a 11), .inl (cZ, 30, .inl (fun i => jI (iB (gX i))))), ((a 12), .inl (cJ, 5, .inr (.inl (fun i => vL (gW i)))))] H := hP
  have hD : va_D A [(m0, oR (jI ((ms : Nat) : Int)) (jI ((es : Nat) : Int)) (jI 3) a), ((a 1), .inl (cI, 42, .inl (fun i => vI (gM i)))), ((a 2), .inl (cI, 30, .inl (fun i => vI (gB i)))), ((a 3), .inl (cI, 6, .inl (fun i => jI ((gT i : Nat) : Int)))), ((a 4), .inl (cI, 6, .inl (fun i => vI (gG i)))), ((a 5), .inl (cI, 6, .inl (fun i => jI ((gN i : Nat) : Int)))), ((a 6), .inl (cI, 1080, .inl (fun i => vI (gK i)))), ((a 7), .inl (cZ, 180, .inl (fun i => jI (iB (gD i))))), ((a 8), .inl (cJ, 105, .inr (.inl (fun i => vL (gH i))))), ((a 9), .inl (cJ, 105, .inr (.inl (fun i => vL (gU i))))), ((a 10), .inl (cJ, 90, .inr (.inl (fun i => vL (gF i))))), ((a 11), .inl (cZ, 30, .inl (fun i => jI (iB (gX i))))), ((a 12), .inl (cJ, 5, .inr (.inl (fun i => vL (gW i)))))] := hD
  exact k_iret hx hb hr hlocks dX7_measure_29 hP hS rfl

set_option maxHeartbeats 8000000 in
set_option maxRecDepth 100000 in
/--  -/
theorem c_X7_measure4 (l : Launch) (D : va_G) (tys : List (ClassId × FieldType)) {cI cJ cZ : ClassId} (htI : tys[0]? = some (cI, .int)) (htJ : tys[1]? = some (cJ, .long)) (htZ : tys[2]? = some (cZ, .boolean)) (m0 : Nat) (a : Nat → Nat) (ms es : Nat) (th : Int32) (gM : Nat → Zp) (gB : Nat → Zp) (gT : Nat → Nat) (gG : Nat → Zp) (gN : Nat → Nat) (gK : Nat → Zp) (gD : Nat → Bool) (gH : Nat → Zp) (gU : Nat → Zp) (gF : Nat → Zp) (gX : Nat → Bool) (gW : Nat → Zp) (q1 : ms ≤ 6) (q2 : es ≤ 6) (ev : Nat) (h0 h1 zz rr : Zp) (q3 : ev < es) (qT : gT ev ≤ 20) (qN : gN ev ≤ 30) (h9 : gN ev < 30) (hbeh : beh (fun i => gM (7 * ev + i)) (s5at gB ev) (fun k c => (told6 gK (6 * (30 * ev + gN ev)) (zc ((gT ev : Nat) : Int)) h0 h1 zz rr (gG ev)) (6 * (30 * ev + k) + c)) (fun k => gD (30 * ev + k)) ((va_up gN ev (gN ev + 1)) ev) (gT ev) = none) : CtE (S := (Nat → Zp) × (Nat → Zp) × (Nat → Zp) × (Nat → Bool) × (Nat → Zp)) l D tys yX7_measure wsX7_measure 5 139 [.ref m0, .int (jI ((ev : Nat) : Int)), .int (vI h0), .int (vI h1), .int (vI zz), .int (vI rr)] (fun (r : Int32) (_ : (Nat → Zp) × (Nat → Zp) × (Nat → Zp) × (Nat → Bool) × (Nat → Zp)) => r = jI 0) [(m0, oR (jI ((ms : Nat) : Int)) (jI ((es : Nat) : Int)) th a), ((a 1), .inl (cI, 42, .inl (fun i => vI (gM i)))), ((a 2), .inl (cI, 30, .inl (fun i => vI (gB i)))), ((a 3), .inl (cI, 6, .inl (fun i => jI ((gT i : Nat) : Int)))), ((a 4), .inl (cI, 6, .inl (fun i => vI (gG i)))), ((a 5), .inl (cI, 6, .inl (fun i => jI ((gN i : Nat) : Int)))), ((a 6), .inl (cI, 1080, .inl (fun i => vI (gK i)))), ((a 7), .inl (cZ, 180, .inl (fun i => jI (iB (gD i))))), ((a 8), .inl (cJ, 105, .inr (.inl (fun i => vL (gH i))))), ((a 9), .inl (cJ, 105, .inr (.inl (fun i => vL (gU i))))), ((a 10), .inl (cJ, 90, .inr (.inl (fun i => vL (gF i))))), ((a 11), .inl (cZ, 30, .inl (fun i => jI (iB (gX i))))), ((a 12), .inl (cJ, 5, .inr (.inl (fun i => vL (gW i)))))] (fun u => [(m0, oR (jI ((ms : Nat) : Int)) (jI ((es : Nat) : Int)) (jI 3) a), ((a 1), .inl (cI, 42, .inl (fun i => vI (gM i)))), ((a 2), .inl (cI, 30, .inl (fun i => vI (gB i)))), ((a 3), .inl (cI, 6, .inl (fun i => jI ((gT i : Nat) : Int)))), ((a 4), .inl (cI, 6, .inl (fun i => vI (gG i)))), ((a 5), .inl (cI, 6, .inl (fun i => jI (((va_up (va_up gN ev (gN ev + 1)) ev (gN ev)) i : Nat) : Int)))), ((a 6), .inl (cI, 1080, .inl (fun i => vI ((told6 gK (6 * (30 * ev + gN ev)) (zc ((gT ev : Nat) : Int)) h0 h1 zz rr (gG ev)) i)))), ((a 7), .inl (cZ, 180, .inl (fun i => jI (iB (gD i))))), ((a 8), .inl (cJ, 105, .inr (.inl (fun i => vL (u.1 i))))), ((a 9), .inl (cJ, 105, .inr (.inl (fun i => vL (u.2.1 i))))), ((a 10), .inl (cJ, 90, .inr (.inl (fun i => vL (u.2.2.1 i))))), ((a 11), .inl (cZ, 30, .inl (fun i => jI (iB (u.2.2.2.1 i))))), ((a 12), .inl (cJ, 5, .inr (.inl (fun i => vL (u.2.2.2.2 i)))))]) := by
  refine CtE.of (cc := cX7_measure) (maxL := 6) (by decide +kernel) rfl (fun _ => rfl) (Nat.le_of_ble_eq_true rfl) ?_
  intro p e s m below meth c A ls hcx hK hP hD hA hl
  obtain ⟨hx, hb, hr, hml, hown, hts, hlocks⟩ := hcx
  have hS : va_S A s.heap s.heap [] := va_S.rf
  have hown : s.vm.findClass RX7 = some m.cls := hown
  have hl : lv_has ls 6 [(0, .ref m0), (1, .int (jI ((ev : Nat) : Int))), (2, .int (vI h0)), (3, .int (vI h1)), (4, .int (vI zz)), (5, .int (vI rr))] := hl
  have f19 := hts (.fieldLink RX7 19 "FieldFilterModel" "time" "[I") (by decide +kernel)
  have iX7 : ∀ w ∈ u_ws RX7 TX7 20, w ∈ wsX7_measure := by decide +kernel
  refine lv_aload_n hx hb dX7_measure_0 rfl (lv_at hl 0 rfl) ?_
  refine lv_iload_n hx hb dX7_measure_1 rfl (lv_at hl 1 rfl) ?_
  refine lv_aload_n hx hb dX7_measure_2 rfl (lv_at hl 0 rfl) ?_
  refine lv_iload_n hx hb dX7_measure_3 rfl (lv_at hl 1 rfl) ?_
  have ct4 := c_X7_isOne l D tys m0 a ms es th ((ev : Nat) : Int) (by first | assumption | exact r32_z _ | (unfold r32; omega)) (by omega) (by omega)
  refine k_goI (va_runV (As := [.int (jI ((ev : Nat) : Int))]) (rest := [.int (jI ((ev : Nat) : Int)), .ref m0]) ⟨hx, hb, hml, hown, hts⟩ (ct4.2 _) (cwV 1 hts gX7_measure_X7_isOne rfl rfl rfl (by decide +kernel) ⟨Nat.le_of_ble_eq_true rfl, Nat.le_of_ble_eq_true rfl⟩) ⟨(k_pre hK hP hD (is := [0]) rfl rfl).1, va_recv hK.1 hP (ci := 7) (q0 := 0) rfl rfl, (k_pre hK hP hD (is := [0]) rfl rfl).2⟩ rfl rfl hl.1 rfl (lv_room (Nat.le_of_ble_eq_true rfl)) dX7_measure_4 ⟨Nat.le_of_ble_eq_true rfl, Nat.le_of_ble_eq_true rfl⟩) ct4.1 hP hD hS hA [0] rfl rfl (fun H locs hP hD hS => ?_)
  have hP : va_P D vwCl [(m0, oR (jI ((ms : Nat) : Int)) (jI ((es : Nat) : Int)) th a), ((a 1), .inl (cI, 42, .inl (fun i => vI (gM i)))), ((a 2), .inl (cI, 30, .inl (fun i => vI (gB i)))), ((a 3), .inl (cI, 6, .inl (fun i => jI ((gT i : Nat) : Int)))), ((a 4), .inl (cI, 6, .inl (fun i => vI (gG i)))), ((a 5), .inl (cI, 6, .inl (fun i => jI ((gN i : Nat) : Int)))), ((a 6), .inl (cI, 1080, .inl (fun i => vI (gK i)))), ((a 7), .inl (cZ, 180, .inl (fun i => jI (iB (gD i))))), ((a 8), .inl (cJ, 105, .inr (.inl (fun i => vL (gH i))))), ((a 9), .inl (cJ, 105, .inr (.inl (fun i => vL (gU i))))), ((a 10), .inl (cJ, 90, .inr (.inl (fun i => vL (gF i))))), ((a 11), .inl (cZ, 30, .inl (fun i => jI (iB (gX i))))), ((a 12), .inl (cJ, 5, .inr (.inl (fun i => vL (gW i)))))] H := hP
  have hD : va_D A [(m0, oR (jI ((ms : Nat) : Int)) (jI ((es : Nat) : Int)) th a), ((a 1), .inl (cI, 42, .inl (fun i => vI (gM i)))), ((a 2), .inl (cI, 30, .inl (fun i => vI (gB i)))), ((a 3), .inl (cI, 6, .inl (fun i => jI ((gT i : Nat) : Int)))), ((a 4), .inl (cI, 6, .inl (fun i => vI (gG i)))), ((a 5), .inl (cI, 6, .inl (fun i => jI ((gN i : Nat) : Int)))), ((a 6), .inl (cI, 1080, .inl (fun i => vI (gK i)))), ((a 7), .inl (cZ, 180, .inl (fun i => jI (iB (gD i))))), ((a 8), .inl (cJ, 105, .inr (.inl (fun i => vL (gH i))))), ((a 9), .inl (cJ, 105, .inr (.inl (fun i => vL (gU i))))), ((a 10), .inl (cJ, 90, .inr (.inl (fun i => vL (gF i))))), ((a 11), .inl (cZ, 30, .inl (fun i => jI (iB (gX i))))), ((a 12), .inl (cJ, 5, .inr (.inl (fun i => vL (gW i)))))] := hD
  refine n_ifB_eq (tgt := 19) hx hb dX7_measure_7 (by decide) (fun h7 => Bool.noConfusion ((inB_t (by omega) (by omega)).symm.trans h7)) (fun h7 => ?_)
  refine lv_aload_n hx hb dX7_measure_10 rfl (lv_at hl 0 rfl) ?_
  refine va_get (D := D) (ci := 7) (v := .ref (a 3)) (C := RX7) (T := TX7) (N := 20) hx hb hts iX7 hown hK.1 hP 0 rfl rfl 5 (by decide) f19 (fun _ h9 => h9) rfl dX7_measure_11 ?_
  refine lv_iload_n hx hb dX7_measure_14 rfl (lv_at hl 1 rfl) ?_
  refine n_iald (i := ev) hx hb hK hP 3 0 rfl htI rfl (by omega) (Nat.le_of_ble_eq_true rfl) dX7_measure_15 ?_
  rw [show jI ((gT ev : Nat) : Int) = vI (zc ((gT ev : Nat) : Int)) from congrArg jI (zc_small (by omega) (by omega)).symm]
  refine lv_goto (tgt := 20) hx hb dX7_measure_16 (by decide) ?_
  refine lv_iload_n hx hb dX7_measure_20 rfl (lv_at hl 2 rfl) ?_
  refine lv_iload_n hx hb dX7_measure_21 rfl (lv_at hl 3 rfl) ?_
  refine lv_iload hx hb dX7_measure_22 (lv_at hl 4 rfl) ?_
  refine lv_iload hx hb dX7_measure_24 (lv_at hl 5 rfl) ?_
  have ctl := c_X7_late4 l D tys htI htJ htZ m0 a ms es th gM gB gT gG gN gK gD gH gU gF gX gW (by omega) (by omega) ev (zc ((gT ev : Nat) : Int)) h0 h1 zz rr q3 (by rw [zc_small (by omega) (by omega)]; omega) qT qN h9 hbeh
  refine k_goE (va_runV (As := [.int (jI ((ev : Nat) : Int)), .int (vI (zc ((gT ev : Nat) : Int))), .int (vI h0), .int (vI h1), .int (vI zz), .int (vI rr)]) (rest := []) ⟨hx, hb, hml, hown, hts⟩ (ctl.2 _) (cwV 6 hts gX7_measure_X7_late rfl rfl rfl (by decide +kernel) ⟨Nat.le_of_ble_eq_true rfl, Nat.le_of_ble_eq_true rfl⟩) ⟨(k_pre hK hP hD (is := [0, 1, 2, 3, 4, 5, 6, 7, 8, 9, 10, 11, 12]) rfl rfl).1, va_recv hK.1 hP (ci := 7) (q0 := 0) rfl rfl, (k_pre hK hP hD (is := [0, 1, 2, 3, 4, 5, 6, 7, 8, 9, 10, 11, 12]) rfl rfl).2⟩ rfl rfl hl.1 rfl (lv_room (Nat.le_of_ble_eq_true rfl)) dX7_measure_26 ⟨Nat.le_of_ble_eq_true rfl, Nat.le_of_ble_eq_true rfl⟩) ctl.1 hP hD hS hA [0, 1, 2, 3, 4, 5, 6, 7, 8, 9, 10, 11, 12] rfl rfl (fun r u H locs hpost hP hD hS => ?_)
  obtain ⟨gH', gU', gF', gX', gW'⟩ := u; subst hpost
  have hP : va_P D vwCl [(m0, oR (jI ((ms : Nat) : Int)) (jI ((es : Nat) : Int)) (jI 3) a), ((a 1), .inl (cI, 42, .inl (fun i => vI (gM i)))), ((a 2), .inl (cI, 30, .inl (fun i => vI (gB i)))), ((a 3), .inl (cI, 6, .inl (fun i => jI ((gT i : Nat) : Int)))), ((a 4), .inl (cI, 6, .inl (fun i => vI (gG i)))), ((a 5), .inl (cI, 6, .inl (fun i => jI (((va_up (va_up gN ev (gN ev + 1)) ev (gN ev)) i : Nat) : Int)))), ((a 6), .inl (cI, 1080, .inl (fun i => vI ((told6 gK (6 * (30 * ev + gN ev)) (zc ((gT ev : Nat) : Int)) h0 h1 zz rr (gG ev)) i)))), ((a 7), .inl (cZ, 180, .inl (fun i => jI (iB (gD i))))), ((a 8), .inl (cJ, 105, .inr (.inl (fun i => vL (gH' i))))), ((a 9), .inl (cJ, 105, .inr (.inl (fun i => vL (gU' i))))), ((a 10), .inl (cJ, 90, .inr (.inl (fun i => vL (gF' i))))), ((a 11), .inl (cZ, 30, .inl (fun i => jI (iB (gX' i))))), ((a 12), .inl (cJ, 5, .inr (.inl (fun i => vL (gW' i)))))] H := hP
  have hD : va_D A [(m0, oR (jI ((ms : Nat) : Int)) (jI ((es : Nat) : Int)) (jI 3) a), ((a 1), .inl (cI, 42, .inl (fun i => vI (gM i)))), ((a 2), .inl (cI, 30, .inl (fun i => vI (gB i)))), ((a 3), .inl (cI, 6, .inl (fun i => jI ((gT i : Nat) : Int)))), ((a 4), .inl (cI, 6, .inl (fun i => vI (gG i)))), ((a 5), .inl (cI, 6, .inl (fun i => jI (((va_up (va_up gN ev (gN ev + 1)) ev (gN ev)) i : Nat) : Int)))), ((a 6), .inl (cI, 1080, .inl (fun i => vI ((told6 gK (6 * (30 * ev + gN ev)) (zc ((gT ev : Nat) : Int)) h0 h1 zz rr (gG ev)) i)))), ((a 7), .inl (cZ, 180, .inl (fun i => jI (iB (gD i))))), ((a 8), .inl (cJ, 105, .inr (.inl (fun i => vL (gH' i))))), ((a 9), .inl (cJ, 105, .inr (.inl (fun i => vL (gU' i))))), ((a 10), .inl (cJ, 90, .inr (.inl (fun i => vL (gF' i))))), ((a 11), .inl (cZ, 30, .inl (fun i => jI (iB (gX' i))))), ((a 12), .inl (cJ, 5, .inr (.inl (fun i => vL (gW' i)))))] := hD
  exact e_iret (gH', gU', gF', gX', gW') hx hb hr hlocks dX7_measure_29 hP hS rfl

set_option maxHeartbeats 8000000 in
set_option maxRecDepth 100000 in
/--  -/
theorem c_X7_measure0 (l : Launch) (D : va_G) (tys : List (ClassId × FieldType)) {cI cJ cZ : ClassId} (htI : tys[0]? = some (cI, .int)) (htJ : tys[1]? = some (cJ, .long)) (htZ : tys[2]? = some (cZ, .boolean)) (m0 : Nat) (a : Nat → Nat) (ms es : Nat) (th : Int32) (gM : Nat → Zp) (gB : Nat → Zp) (gT : Nat → Nat) (gG : Nat → Zp) (gN : Nat → Nat) (gK : Nat → Zp) (gD : Nat → Bool) (gH : Nat → Zp) (gU : Nat → Zp) (gF : Nat → Zp) (gX : Nat → Bool) (gW : Nat → Zp) (q1 : ms ≤ 6) (q2 : es ≤ 6) (ev : Nat) (h0 h1 zz rr : Zp) (q3 : ev < es) (qT : gT ev ≤ 20) (qN : gN ev ≤ 30) (h9 : gN ev < 30) (st : S5) (hbeh : beh (fun i => gM (7 * ev + i)) (s5at gB ev) (fun k c => (told6 gK (6 * (30 * ev + gN ev)) (zc ((gT ev : Nat) : Int)) h0 h1 zz rr (gG ev)) (6 * (30 * ev + k) + c)) (fun k => gD (30 * ev + k)) ((va_up gN ev (gN ev + 1)) ev) (gT ev) = some st) : CtE (S := (Nat → Zp) × (Nat → Zp) × (Nat → Zp) × (Nat → Bool) × (Nat → Zp)) l D tys yX7_measure wsX7_measure 5 139 [.ref m0, .int (jI ((ev : Nat) : Int)), .int (vI h0), .int (vI h1), .int (vI zz), .int (vI rr)] (fun (r : Int32) (u : (Nat → Zp) × (Nat → Zp) × (Nat → Zp) × (Nat → Bool) × (Nat → Zp)) => r = jI ((gN ev : Nat) : Int) ∧ beh (fun i => gM (7 * ev + i)) (s5at gB ev) (fun k c => (told6 gK (6 * (30 * ev + gN ev)) (zc ((gT ev : Nat) : Int)) h0 h1 zz rr (gG ev)) (6 * (30 * ev + k) + c)) (fun k => gD (30 * ev + k)) ((va_up gN ev (gN ev + 1)) ev) (gT ev) = some (s5 u.2.2.2.2) ∧ Rows (fun i => gM (7 * ev + i)) (s5at gB ev) (fun k c => (told6 gK (6 * (30 * ev + gN ev)) (zc ((gT ev : Nat) : Int)) h0 h1 zz rr (gG ev)) (6 * (30 * ev + k) + c)) (fun k => gD (30 * ev + k)) ((va_up gN ev (gN ev + 1)) ev) u.1 u.2.1 (gT ev + 1) ∧ Outs (fun i => gM (7 * ev + i)) (s5at gB ev) (fun k c => (told6 gK (6 * (30 * ev + gN ev)) (zc ((gT ev : Nat) : Int)) h0 h1 zz rr (gG ev)) (6 * (30 * ev + k) + c)) (fun k => gD (30 * ev + k)) ((va_up gN ev (gN ev + 1)) ev) u.2.2.1 u.2.2.2.1 (fun k => ((told6 gK (6 * (30 * ev + gN ev)) (zc ((gT ev : Nat) : Int)) h0 h1 zz rr (gG ev)) (6 * (30 * ev + k) + 0)).val ≤ gT ev)) [(m0, oR (jI ((ms : Nat) : Int)) (jI ((es : Nat) : Int)) th a), ((a 1), .inl (cI, 42, .inl (fun i => vI (gM i)))), ((a 2), .inl (cI, 30, .inl (fun i => vI (gB i)))), ((a 3), .inl (cI, 6, .inl (fun i => jI ((gT i : Nat) : Int)))), ((a 4), .inl (cI, 6, .inl (fun i => vI (gG i)))), ((a 5), .inl (cI, 6, .inl (fun i => jI ((gN i : Nat) : Int)))), ((a 6), .inl (cI, 1080, .inl (fun i => vI (gK i)))), ((a 7), .inl (cZ, 180, .inl (fun i => jI (iB (gD i))))), ((a 8), .inl (cJ, 105, .inr (.inl (fun i => vL (gH i))))), ((a 9), .inl (cJ, 105, .inr (.inl (fun i => vL (gU i))))), ((a 10), .inl (cJ, 90, .inr (.inl (fun i => vL (gF i))))), ((a 11), .inl (cZ, 30, .inl (fun i => jI (iB (gX i))))), ((a 12), .inl (cJ, 5, .inr (.inl (fun i => vL (gW i)))))] (fun u => [(m0, oR (jI ((ms : Nat) : Int)) (jI ((es : Nat) : Int)) (jI 0) a), ((a 1), .inl (cI, 42, .inl (fun i => vI (gM i)))), ((a 2), .inl (cI, 30, .inl (fun i => vI (gB i)))), ((a 3), .inl (cI, 6, .inl (fun i => jI ((gT i : Nat) : Int)))), ((a 4), .inl (cI, 6, .inl (fun i => vI (gG i)))), ((a 5), .inl (cI, 6, .inl (fun i => jI (((va_up (va_up gN ev (gN ev + 1)) ev (gN ev + 1)) i : Nat) : Int)))), ((a 6), .inl (cI, 1080, .inl (fun i => vI ((told6 gK (6 * (30 * ev + gN ev)) (zc ((gT ev : Nat) : Int)) h0 h1 zz rr (gG ev)) i)))), ((a 7), .inl (cZ, 180, .inl (fun i => jI (iB (gD i))))), ((a 8), .inl (cJ, 105, .inr (.inl (fun i => vL (u.1 i))))), ((a 9), .inl (cJ, 105, .inr (.inl (fun i => vL (u.2.1 i))))), ((a 10), .inl (cJ, 90, .inr (.inl (fun i => vL (u.2.2.1 i))))), ((a 11), .inl (cZ, 30, .inl (fun i => jI (iB (u.2.2.2.1 i))))), ((a 12), .inl (cJ, 5, .inr (.inl (fun i => vL (u.2.2.2.2 i)))))]) := by
  refine CtE.of (cc := cX7_measure) (maxL := 6) (by decide +kernel) rfl (fun _ => rfl) (Nat.le_of_ble_eq_true rfl) ?_
  intro p e s m below meth c A ls hcx hK hP hD hA hl
  obtain ⟨hx, hb, hr, hml, hown, hts, hlocks⟩ := hcx
  have hS : va_S A s.heap s.heap [] := va_S.rf
  have hown : s.vm.findClass RX7 = some m.cls := hown
  have hl : lv_has ls 6 [(0, .ref m0), (1, .int (jI ((ev : Nat) : Int))), (2, .int (vI h0)), (3, .int (vI h1)), (4, .int (vI zz)), (5, .int (vI rr))] := hl
  have f19 := hts (.fieldLink RX7 19 "FieldFilterModel" "time" "[I") (by decide +kernel)
  have iX7 : ∀ w ∈ u_ws RX7 TX7 20, w ∈ wsX7_measure := by decide +kernel
  refine lv_aload_n hx hb dX7_measure_0 rfl (lv_at hl 0 rfl) ?_
  refine lv_iload_n hx hb dX7_measure_1 rfl (lv_at hl 1 rfl) ?_
  refine lv_aload_n hx hb dX7_measure_2 rfl (lv_at hl 0 rfl) ?_
  refine lv_iload_n hx hb dX7_measure_3 rfl (lv_at hl 1 rfl) ?_
  have ct4 := c_X7_isOne l D tys m0 a ms es th ((ev : Nat) : Int) (by first | assumption | exact r32_z _ | (unfold r32; omega)) (by omega) (by omega)
  refine k_goI (va_runV (As := [.int (jI ((ev : Nat) : Int))]) (rest := [.int (jI ((ev : Nat) : Int)), .ref m0]) ⟨hx, hb, hml, hown, hts⟩ (ct4.2 _) (cwV 1 hts gX7_measure_X7_isOne rfl rfl rfl (by decide +kernel) ⟨Nat.le_of_ble_eq_true rfl, Nat.le_of_ble_eq_true rfl⟩) ⟨(k_pre hK hP hD (is := [0]) rfl rfl).1, va_recv hK.1 hP (ci := 7) (q0 := 0) rfl rfl, (k_pre hK hP hD (is := [0]) rfl rfl).2⟩ rfl rfl hl.1 rfl (lv_room (Nat.le_of_ble_eq_true rfl)) dX7_measure_4 ⟨Nat.le_of_ble_eq_true rfl, Nat.le_of_ble_eq_true rfl⟩) ct4.1 hP hD hS hA [0] rfl rfl (fun H locs hP hD hS => ?_)
  have hP : va_P D vwCl [(m0, oR (jI ((ms : Nat) : Int)) (jI ((es : Nat) : Int)) th a), ((a 1), .inl (cI, 42, .inl (fun i => vI (gM i)))), ((a 2), .inl (cI, 30, .inl (fun i => vI (gB i)))), ((a 3), .inl (cI, 6, .inl (fun i => jI ((gT i : Nat) : Int)))), ((a 4), .inl (cI, 6, .inl (fun i => vI (gG i)))), ((a 5), .inl (cI, 6, .inl (fun i => jI ((gN i : Nat) : Int)))), ((a 6), .inl (cI, 1080, .inl (fun i => vI (gK i)))), ((a 7), .inl (cZ, 180, .inl (fun i => jI (iB (gD i))))), ((a 8), .inl (cJ, 105, .inr (.inl (fun i => vL (gH i))))), ((a 9), .inl (cJ, 105, .inr (.inl (fun i => vL (gU i))))), ((a 10), .inl (cJ, 90, .inr (.inl (fun i => vL (gF i))))), ((a 11), .inl (cZ, 30, .inl (fun i => jI (iB (gX i))))), ((a 12), .inl (cJ, 5, .inr (.inl (fun i => vL (gW i)))))] H := hP
  have hD : va_D A [(m0, oR (jI ((ms : Nat) : Int)) (jI ((es : Nat) : Int)) th a), ((a 1), .inl (cI, 42, .inl (fun i => vI (gM i)))), ((a 2), .inl (cI, 30, .inl (fun i => vI (gB i)))), ((a 3), .inl (cI, 6, .inl (fun i => jI ((gT i : Nat) : Int)))), ((a 4), .inl (cI, 6, .inl (fun i => vI (gG i)))), ((a 5), .inl (cI, 6, .inl (fun i => jI ((gN i : Nat) : Int)))), ((a 6), .inl (cI, 1080, .inl (fun i => vI (gK i)))), ((a 7), .inl (cZ, 180, .inl (fun i => jI (iB (gD i))))), ((a 8), .inl (cJ, 105, .inr (.inl (fun i => vL (gH i))))), ((a 9), .inl (cJ, 105, .inr (.inl (fun i => vL (gU i))))), ((a 10), .inl (cJ, 90, .inr (.inl (fun i => vL (gF i))))), ((a 11), .inl (cZ, 30, .inl (fun i => jI (iB (gX i))))), ((a 12), .inl (cJ, 5, .inr (.inl (fun i => vL (gW i)))))] := hD
  refine n_ifB_eq (tgt := 19) hx hb dX7_measure_7 (by decide) (fun h7 => Bool.noConfusion ((inB_t (by omega) (by omega)).symm.trans h7)) (fun h7 => ?_)
  refine lv_aload_n hx hb dX7_measure_10 rfl (lv_at hl 0 rfl) ?_
  refine va_get (D := D) (ci := 7) (v := .ref (a 3)) (C := RX7) (T := TX7) (N := 20) hx hb hts iX7 hown hK.1 hP 0 rfl rfl 5 (by decide) f19 (fun _ h9 => h9) rfl dX7_measure_11 ?_
  refine lv_iload_n hx hb dX7_measure_14 rfl (lv_at hl 1 rfl) ?_
  refine n_iald (i := ev) hx hb hK hP 3 0 rfl htI rfl (by omega) (Nat.le_of_ble_eq_true rfl) dX7_measure_15 ?_
  rw [show jI ((gT ev : Nat) : Int) = vI (zc ((gT ev : Nat) : Int)) from congrArg jI (zc_small (by omega) (by omega)).symm]
  refine lv_goto (tgt := 20) hx hb dX7_measure_16 (by decide) ?_
  refine lv_iload_n hx hb dX7_measure_20 rfl (lv_at hl 2 rfl) ?_
  refine lv_iload_n hx hb dX7_measure_21 rfl (lv_at hl 3 rfl) ?_
  refine lv_iload hx hb dX7_measure_22 (lv_at hl 4 rfl) ?_
  refine lv_iload hx hb dX7_measure_24 (lv_at hl 5 rfl) ?_
  have ctl := c_X7_late0 l D tys htI htJ htZ m0 a ms es th gM gB gT gG gN gK gD gH gU gF gX gW (by omega) (by omega) ev (zc ((gT ev : Nat) : Int)) h0 h1 zz rr q3 (by rw [zc_small (by omega) (by omega)]; omega) qT qN h9 st hbeh
  refine k_goE (va_runV (As := [.int (jI ((ev : Nat) : Int)), .int (vI (zc ((gT ev : Nat) : Int))), .int (vI h0), .int (vI h1), .int (vI zz), .int (vI rr)]) (rest := []) ⟨hx, hb, hml, hown, hts⟩ (ctl.2 _) (cwV 6 hts gX7_measure_X7_late rfl rfl rfl (by decide +kernel) ⟨Nat.le_of_ble_eq_true rfl, Nat.le_of_ble_eq_true rfl⟩) ⟨(k_pre hK hP hD (is := [0, 1, 2, 3, 4, 5, 6, 7, 8, 9, 10, 11, 12]) rfl rfl).1, va_recv hK.1 hP (ci := 7) (q0 := 0) rfl rfl, (k_pre hK hP hD (is := [0, 1, 2, 3, 4, 5, 6, 7, 8, 9, 10, 11, 12]) rfl rfl).2⟩ rfl rfl hl.1 rfl (lv_room (Nat.le_of_ble_eq_true rfl)) dX7_measure_26 ⟨Nat.le_of_ble_eq_true rfl, Nat.le_of_ble_eq_true rfl⟩) ctl.1 hP hD hS hA [0, 1, 2, 3, 4, 5, 6, 7, 8, 9, 10, 11, 12] rfl rfl (fun r u H locs hpost hP hD hS => ?_)
  obtain ⟨gH', gU', gF', gX', gW'⟩ := u; obtain ⟨hr, hpost⟩ := hpost
  have hP : va_P D vwCl [(m0, oR (jI ((ms : Nat) : Int)) (jI ((es : Nat) : Int)) (jI 0) a), ((a 1), .inl (cI, 42, .inl (fun i => vI (gM i)))), ((a 2), .inl (cI, 30, .inl (fun i => vI (gB i)))), ((a 3), .inl (cI, 6, .inl (fun i => jI ((gT i : Nat) : Int)))), ((a 4), .inl (cI, 6, .inl (fun i => vI (gG i)))), ((a 5), .inl (cI, 6, .inl (fun i => jI (((va_up (va_up gN ev (gN ev + 1)) ev (gN ev + 1)) i : Nat) : Int)))), ((a 6), .inl (cI, 1080, .inl (fun i => vI ((told6 gK (6 * (30 * ev + gN ev)) (zc ((gT ev : Nat) : Int)) h0 h1 zz rr (gG ev)) i)))), ((a 7), .inl (cZ, 180, .inl (fun i => jI (iB (gD i))))), ((a 8), .inl (cJ, 105, .inr (.inl (fun i => vL (gH' i))))), ((a 9), .inl (cJ, 105, .inr (.inl (fun i => vL (gU' i))))), ((a 10), .inl (cJ, 90, .inr (.inl (fun i => vL (gF' i))))), ((a 11), .inl (cZ, 30, .inl (fun i => jI (iB (gX' i))))), ((a 12), .inl (cJ, 5, .inr (.inl (fun i => vL (gW' i)))))] H := hP
  have hD : va_D A [(m0, oR (jI ((ms : Nat) : Int)) (jI ((es : Nat) : Int)) (jI 0) a), ((a 1), .inl (cI, 42, .inl (fun i => vI (gM i)))), ((a 2), .inl (cI, 30, .inl (fun i => vI (gB i)))), ((a 3), .inl (cI, 6, .inl (fun i => jI ((gT i : Nat) : Int)))), ((a 4), .inl (cI, 6, .inl (fun i => vI (gG i)))), ((a 5), .inl (cI, 6, .inl (fun i => jI (((va_up (va_up gN ev (gN ev + 1)) ev (gN ev + 1)) i : Nat) : Int)))), ((a 6), .inl (cI, 1080, .inl (fun i => vI ((told6 gK (6 * (30 * ev + gN ev)) (zc ((gT ev : Nat) : Int)) h0 h1 zz rr (gG ev)) i)))), ((a 7), .inl (cZ, 180, .inl (fun i => jI (iB (gD i))))), ((a 8), .inl (cJ, 105, .inr (.inl (fun i => vL (gH' i))))), ((a 9), .inl (cJ, 105, .inr (.inl (fun i => vL (gU' i))))), ((a 10), .inl (cJ, 90, .inr (.inl (fun i => vL (gF' i))))), ((a 11), .inl (cZ, 30, .inl (fun i => jI (iB (gX' i))))), ((a 12), .inl (cJ, 5, .inr (.inl (fun i => vL (gW' i)))))] := hD
  subst hr
  exact e_iret (gH', gU', gF', gX', gW') hx hb hr hlocks dX7_measure_29 hP hS ⟨rfl, hpost⟩

set_option maxHeartbeats 4000000 in
set_option maxRecDepth 100000 in
/--  -/
theorem c_X7_drop1 (l : Launch) (D : va_G) (tys : List (ClassId × FieldType)) {cI cJ cZ : ClassId} (htI : tys[0]? = some (cI, .int)) (htJ : tys[1]? = some (cJ, .long)) (htZ : tys[2]? = some (cZ, .boolean)) (m0 : Nat) (a : Nat → Nat) (ms es : Nat) (th : Int32) (gN : Nat → Nat) (gD : Nat → Bool) (q1 : ms ≤ 6) (q2 : es ≤ 6) (ev kv : Int) (q3 : r32 ev) (q4 : r32 kv) (h9 : (inB 0 (((es : Nat) : Int) - 1) ev) = false) : CtV l D tys yX7_drop wsX7_drop 3 65 [.ref m0, .int (jI ev), .int (jI kv)] [(m0, oR (jI ((ms : Nat) : Int)) (jI ((es : Nat) : Int)) th a), ((a 5), .inl (cI, 6, .inl (fun i => jI ((gN i : Nat) : Int)))), ((a 7), .inl (cZ, 180, .inl (fun i => jI (iB (gD i)))))] [(m0, oR (jI ((ms : Nat) : Int)) (jI ((es : Nat) : Int)) (jI 1) a), ((a 5), .inl (cI, 6, .inl (fun i => jI ((gN i : Nat) : Int)))), ((a 7), .inl (cZ, 180, .inl (fun i => jI (iB (gD i)))))] := by
  refine CtV.of (cc := cX7_drop) (maxL := 5) (by decide +kernel) rfl rfl (Nat.le_of_ble_eq_true rfl) ?_
  intro p e s m below meth c A ls hcx hK hP hD hA hl
  obtain ⟨hx, hb, hr, hml, hown, hts, hlocks⟩ := hcx
  have hS : va_S A s.heap s.heap [] := va_S.rf
  have hown : s.vm.findClass RX7 = some m.cls := hown
  have hl : lv_has ls 5 [(0, .ref m0), (1, .int (jI ev)), (2, .int (jI kv))] := hl
  refine n_bipush hx hb dX7_drop_0 (by decide) ?_
  refine lv_iload_n hx hb dX7_drop_2 rfl (lv_at hl 1 rfl) ?_
  refine n_imul hx hb dX7_drop_3 ?_
  refine lv_iload_n hx hb dX7_drop_4 rfl (lv_at hl 2 rfl) ?_
  refine n_iadd hx hb dX7_drop_5 ?_
  refine lv_istore_n (lv' := [(3, .int (jI ((30 * ev) + kv))), (0, .ref m0), (1, .int (jI ev)), (2, .int (jI kv))]) hx hb dX7_drop_6 rfl hl (by decide) rfl (fun ls hl => ?_)
  refine lv_aload_n hx hb dX7_drop_7 rfl (lv_at hl 1 rfl) ?_
  refine lv_iload_n hx hb dX7_drop_8 rfl (lv_at hl 2 rfl) ?_
  refine lv_iload_n hx hb dX7_drop_9 rfl (lv_at hl 3 rfl) ?_
  have ct10 := c_X7_isMeasured1 l D tys htI htJ htZ m0 a ms es th gN (by omega) (by omega) ev kv (by first | assumption | exact r32_z _ | (unfold r32; omega)) (by first | assumption | exact r32_z _ | (unfold r32; omega)) h9
  refine k_goI (va_runV (As := [.int (jI ev), .int (jI kv)]) (rest := []) ⟨hx, hb, hml, hown, hts⟩ (ct10.2 _) (cwV 2 hts gX7_drop_X7_isMeasured rfl rfl rfl (by decide +kernel) ⟨Nat.le_of_ble_eq_true rfl, Nat.le_of_ble_eq_true rfl⟩) ⟨(k_pre hK hP hD (is := [0, 1]) rfl rfl).1, va_recv hK.1 hP (ci := 7) (q0 := 0) rfl rfl, (k_pre hK hP hD (is := [0, 1]) rfl rfl).2⟩ rfl rfl hl.1 rfl (lv_room (Nat.le_of_ble_eq_true rfl)) dX7_drop_10 ⟨Nat.le_of_ble_eq_true rfl, Nat.le_of_ble_eq_true rfl⟩) ct10.1 hP hD hS hA [0, 1] rfl rfl (fun H locs hP hD hS => ?_)
  have hP : va_P D vwCl [(m0, oR (jI ((ms : Nat) : Int)) (jI ((es : Nat) : Int)) th a), ((a 5), .inl (cI, 6, .inl (fun i => jI ((gN i : Nat) : Int)))), ((a 7), .inl (cZ, 180, .inl (fun i => jI (iB (gD i)))))] H := hP
  have hD : va_D A [(m0, oR (jI ((ms : Nat) : Int)) (jI ((es : Nat) : Int)) th a), ((a 5), .inl (cI, 6, .inl (fun i => jI ((gN i : Nat) : Int)))), ((a 7), .inl (cZ, 180, .inl (fun i => jI (iB (gD i)))))] := hD
  refine n_ifB_eq (tgt := 29) hx hb dX7_drop_13 (by decide) (fun h13 => ?_) (fun h13 => Bool.noConfusion h13)
  refine n_iconst hx hb dX7_drop_29 ?_
  refine lv_istore (lv' := [(4, .int (jI 0)), (3, .int (jI ((30 * ev) + kv))), (0, .ref m0), (1, .int (jI ev)), (2, .int (jI kv))]) hx hb dX7_drop_30 hl (by decide) rfl (fun ls hl => ?_)
  refine lv_iload hx hb dX7_drop_32 (lv_at hl 0 rfl) ?_
  refine n_if_eq (tgt := 59) hx hb (by unfold r32; decide) dX7_drop_34 (by decide) (fun h34 => ?_) (fun h34 => False.elim (by revert h34; decide))
  refine lv_aload_n hx hb dX7_drop_59 rfl (lv_at hl 2 rfl) ?_
  refine lv_aload_n hx hb dX7_drop_60 rfl (lv_at hl 2 rfl) ?_
  refine lv_iload_n hx hb dX7_drop_61 rfl (lv_at hl 3 rfl) ?_
  refine lv_iload_n hx hb dX7_drop_62 rfl (lv_at hl 4 rfl) ?_
  have ct63 := c_X7_isMeasured1 l D tys htI htJ htZ m0 a ms es th gN (by omega) (by omega) ev kv (by first | assumption | exact r32_z _ | (unfold r32; omega)) (by first | assumption | exact r32_z _ | (unfold r32; omega)) h9
  refine k_goI (va_runV (As := [.int (jI ev), .int (jI kv)]) (rest := [.ref m0]) ⟨hx, hb, hml, hown, hts⟩ (ct63.2 _) (cwV 2 hts gX7_drop_X7_isMeasured rfl rfl rfl (by decide +kernel) ⟨Nat.le_of_ble_eq_true rfl, Nat.le_of_ble_eq_true rfl⟩) ⟨(k_pre hK hP hD (is := [0, 1]) rfl rfl).1, va_recv hK.1 hP (ci := 7) (q0 := 0) rfl rfl, (k_pre hK hP hD (is := [0, 1]) rfl rfl).2⟩ rfl rfl hl.1 rfl (lv_room (Nat.le_of_ble_eq_true rfl)) dX7_drop_63 ⟨Nat.le_of_ble_eq_true rfl, Nat.le_of_ble_eq_true rfl⟩) ct63.1 hP hD hS hA [0, 1] rfl rfl (fun H locs hP hD hS => ?_)
  have hP : va_P D vwCl [(m0, oR (jI ((ms : Nat) : Int)) (jI ((es : Nat) : Int)) th a), ((a 5), .inl (cI, 6, .inl (fun i => jI ((gN i : Nat) : Int)))), ((a 7), .inl (cZ, 180, .inl (fun i => jI (iB (gD i)))))] H := hP
  have hD : va_D A [(m0, oR (jI ((ms : Nat) : Int)) (jI ((es : Nat) : Int)) th a), ((a 5), .inl (cI, 6, .inl (fun i => jI ((gN i : Nat) : Int)))), ((a 7), .inl (cZ, 180, .inl (fun i => jI (iB (gD i)))))] := hD
  refine n_ifB_ne (tgt := 73) hx hb dX7_drop_66 (by decide) (fun h66 => Bool.noConfusion h66) (fun h66 => ?_)
  refine n_iconst hx hb dX7_drop_69 ?_
  refine lv_goto (tgt := 83) hx hb dX7_drop_70 (by decide) ?_
  have ct83 := c_X7_failsT l D tys m0 a ms es th 1 (by unfold r32; decide) (by decide)
  refine k_goI (va_runV (As := [.int (jI 1)]) (rest := []) ⟨hx, hb, hml, hown, hts⟩ (ct83.2 _) (cwV 1 hts gX7_drop_X7_fails rfl rfl rfl (by decide +kernel) ⟨Nat.le_of_ble_eq_true rfl, Nat.le_of_ble_eq_true rfl⟩) ⟨(k_pre hK hP hD (is := [0]) rfl rfl).1, va_recv hK.1 hP (ci := 7) (q0 := 0) rfl rfl, (k_pre hK hP hD (is := [0]) rfl rfl).2⟩ rfl rfl hl.1 rfl (lv_room (Nat.le_of_ble_eq_true rfl)) dX7_drop_83 ⟨Nat.le_of_ble_eq_true rfl, Nat.le_of_ble_eq_true rfl⟩) ct83.1 hP hD hS hA [0] rfl rfl (fun H locs hP hD hS => ?_)
  have hP : va_P D vwCl [(m0, oR (jI ((ms : Nat) : Int)) (jI ((es : Nat) : Int)) (jI 1) a), ((a 5), .inl (cI, 6, .inl (fun i => jI ((gN i : Nat) : Int)))), ((a 7), .inl (cZ, 180, .inl (fun i => jI (iB (gD i)))))] H := hP
  have hD : va_D A [(m0, oR (jI ((ms : Nat) : Int)) (jI ((es : Nat) : Int)) (jI 1) a), ((a 5), .inl (cI, 6, .inl (fun i => jI ((gN i : Nat) : Int)))), ((a 7), .inl (cZ, 180, .inl (fun i => jI (iB (gD i)))))] := hD
  refine lv_pop hx hb dX7_drop_86 rfl ?_
  exact k_vret hx hb hr hlocks dX7_drop_87 hP hS

set_option maxHeartbeats 4000000 in
set_option maxRecDepth 100000 in
/--  -/
theorem c_X7_drop2 (l : Launch) (D : va_G) (tys : List (ClassId × FieldType)) {cI cJ cZ : ClassId} (htI : tys[0]? = some (cI, .int)) (htJ : tys[1]? = some (cJ, .long)) (htZ : tys[2]? = some (cZ, .boolean)) (m0 : Nat) (a : Nat → Nat) (ms es : Nat) (th : Int32) (gN : Nat → Nat) (gD : Nat → Bool) (q1 : ms ≤ 6) (q2 : es ≤ 6) (ev : Nat) (kv : Int) (q3 : ev < es) (q4 : r32 kv) (q5 : gN ev ≤ 30) (h9 : (inB 0 (((gN ev : Nat) : Int) - 1) kv) = false) : CtV l D tys yX7_drop wsX7_drop 3 65 [.ref m0, .int (jI ((ev : Nat) : Int)), .int (jI kv)] [(m0, oR (jI ((ms : Nat) : Int)) (jI ((es : Nat) : Int)) th a), ((a 5), .inl (cI, 6, .inl (fun i => jI ((gN i : Nat) : Int)))), ((a 7), .inl (cZ, 180, .inl (fun i => jI (iB (gD i)))))] [(m0, oR (jI ((ms : Nat) : Int)) (jI ((es : Nat) : Int)) (jI 1) a), ((a 5), .inl (cI, 6, .inl (fun i => jI ((gN i : Nat) : Int)))), ((a 7), .inl (cZ, 180, .inl (fun i => jI (iB (gD i)))))] := by
  refine CtV.of (cc := cX7_drop) (maxL := 5) (by decide +kernel) rfl rfl (Nat.le_of_ble_eq_true rfl) ?_
  intro p e s m below meth c A ls hcx hK hP hD hA hl
  obtain ⟨hx, hb, hr, hml, hown, hts, hlocks⟩ := hcx
  have hS : va_S A s.heap s.heap [] := va_S.rf
  have hown : s.vm.findClass RX7 = some m.cls := hown
  have hl : lv_has ls 5 [(0, .ref m0), (1, .int (jI ((ev : Nat) : Int))), (2, .int (jI kv))] := hl
  refine n_bipush hx hb dX7_drop_0 (by decide) ?_
  refine lv_iload_n hx hb dX7_drop_2 rfl (lv_at hl 1 rfl) ?_
  refine n_imul hx hb dX7_drop_3 ?_
  refine lv_iload_n hx hb dX7_drop_4 rfl (lv_at hl 2 rfl) ?_
  refine n_iadd hx hb dX7_drop_5 ?_
  refine lv_istore_n (lv' := [(3, .int (jI ((30 * ((ev : Nat) : Int)) + kv))), (0, .ref m0), (1, .int (jI ((ev : Nat) : Int))), (2, .int (jI kv))]) hx hb dX7_drop_6 rfl hl (by decide) rfl (fun ls hl => ?_)
  refine lv_aload_n hx hb dX7_drop_7 rfl (lv_at hl 1 rfl) ?_
  refine lv_iload_n hx hb dX7_drop_8 rfl (lv_at hl 2 rfl) ?_
  refine lv_iload_n hx hb dX7_drop_9 rfl (lv_at hl 3 rfl) ?_
  have ct10 := c_X7_isMeasured2 l D tys htI htJ htZ m0 a ms es th gN (by omega) (by omega) ev kv (by omega) (by first | assumption | exact r32_z _ | (unfold r32; omega)) (by omega) h9
  refine k_goI (va_runV (As := [.int (jI ((ev : Nat) : Int)), .int (jI kv)]) (rest := []) ⟨hx, hb, hml, hown, hts⟩ (ct10.2 _) (cwV 2 hts gX7_drop_X7_isMeasured rfl rfl rfl (by decide +kernel) ⟨Nat.le_of_ble_eq_true rfl, Nat.le_of_ble_eq_true rfl⟩) ⟨(k_pre hK hP hD (is := [0, 1]) rfl rfl).1, va_recv hK.1 hP (ci := 7) (q0 := 0) rfl rfl, (k_pre hK hP hD (is := [0, 1]) rfl rfl).2⟩ rfl rfl hl.1 rfl (lv_room (Nat.le_of_ble_eq_true rfl)) dX7_drop_10 ⟨Nat.le_of_ble_eq_true rfl, Nat.le_of_ble_eq_true rfl⟩) ct10.1 hP hD hS hA [0, 1] rfl rfl (fun H locs hP hD hS => ?_)
  have hP : va_P D vwCl [(m0, oR (jI ((ms : Nat) : Int)) (jI ((es : Nat) : Int)) th a), ((a 5), .inl (cI, 6, .inl (fun i => jI ((gN i : Nat) : Int)))), ((a 7), .inl (cZ, 180, .inl (fun i => jI (iB (gD i)))))] H := hP
  have hD : va_D A [(m0, oR (jI ((ms : Nat) : Int)) (jI ((es : Nat) : Int)) th a), ((a 5), .inl (cI, 6, .inl (fun i => jI ((gN i : Nat) : Int)))), ((a 7), .inl (cZ, 180, .inl (fun i => jI (iB (gD i)))))] := hD
  refine n_ifB_eq (tgt := 29) hx hb dX7_drop_13 (by decide) (fun h13 => ?_) (fun h13 => Bool.noConfusion h13)
  refine n_iconst hx hb dX7_drop_29 ?_
  refine lv_istore (lv' := [(4, .int (jI 0)), (3, .int (jI ((30 * ((ev : Nat) : Int)) + kv))), (0, .ref m0), (1, .int (jI ((ev : Nat) : Int))), (2, .int (jI kv))]) hx hb dX7_drop_30 hl (by decide) rfl (fun ls hl => ?_)
  refine lv_iload hx hb dX7_drop_32 (lv_at hl 0 rfl) ?_
  refine n_if_eq (tgt := 59) hx hb (by unfold r32; decide) dX7_drop_34 (by decide) (fun h34 => ?_) (fun h34 => False.elim (by revert h34; decide))
  refine lv_aload_n hx hb dX7_drop_59 rfl (lv_at hl 2 rfl) ?_
  refine lv_aload_n hx hb dX7_drop_60 rfl (lv_at hl 2 rfl) ?_
  refine lv_iload_n hx hb dX7_drop_61 rfl (lv_at hl 3 rfl) ?_
  refine lv_iload_n hx hb dX7_drop_62 rfl (lv_at hl 4 rfl) ?_
  have ct63 := c_X7_isMeasured2 l D tys htI htJ htZ m0 a ms es th gN (by omega) (by omega) ev kv (by omega) (by first | assumption | exact r32_z _ | (unfold r32; omega)) (by omega) h9
  refine k_goI (va_runV (As := [.int (jI ((ev : Nat) : Int)), .int (jI kv)]) (rest := [.ref m0]) ⟨hx, hb, hml, hown, hts⟩ (ct63.2 _) (cwV 2 hts gX7_drop_X7_isMeasured rfl rfl rfl (by decide +kernel) ⟨Nat.le_of_ble_eq_true rfl, Nat.le_of_ble_eq_true rfl⟩) ⟨(k_pre hK hP hD (is := [0, 1]) rfl rfl).1, va_recv hK.1 hP (ci := 7) (q0 := 0) rfl rfl, (k_pre hK hP hD (is := [0, 1]) rfl rfl).2⟩ rfl rfl hl.1 rfl (lv_room (Nat.le_of_ble_eq_true rfl)) dX7_drop_63 ⟨Nat.le_of_ble_eq_true rfl, Nat.le_of_ble_eq_true rfl⟩) ct63.1 hP hD hS hA [0, 1] rfl rfl (fun H locs hP hD hS => ?_)
  have hP : va_P D vwCl [(m0, oR (jI ((ms : Nat) : Int)) (jI ((es : Nat) : Int)) th a), ((a 5), .inl (cI, 6, .inl (fun i => jI ((gN i : Nat) : Int)))), ((a 7), .inl (cZ, 180, .inl (fun i => jI (iB (gD i)))))] H := hP
  have hD : va_D A [(m0, oR (jI ((ms : Nat) : Int)) (jI ((es : Nat) : Int)) th a), ((a 5), .inl (cI, 6, .inl (fun i => jI ((gN i : Nat) : Int)))), ((a 7), .inl (cZ, 180, .inl (fun i => jI (iB (gD i)))))] := hD
  refine n_ifB_ne (tgt := 73) hx hb dX7_drop_66 (by decide) (fun h66 => Bool.noConfusion h66) (fun h66 => ?_)
  refine n_iconst hx hb dX7_drop_69 ?_
  refine lv_goto (tgt := 83) hx hb dX7_drop_70 (by decide) ?_
  have ct83 := c_X7_failsT l D tys m0 a ms es th 1 (by unfold r32; decide) (by decide)
  refine k_goI (va_runV (As := [.int (jI 1)]) (rest := []) ⟨hx, hb, hml, hown, hts⟩ (ct83.2 _) (cwV 1 hts gX7_drop_X7_fails rfl rfl rfl (by decide +kernel) ⟨Nat.le_of_ble_eq_true rfl, Nat.le_of_ble_eq_true rfl⟩) ⟨(k_pre hK hP hD (is := [0]) rfl rfl).1, va_recv hK.1 hP (ci := 7) (q0 := 0) rfl rfl, (k_pre hK hP hD (is := [0]) rfl rfl).2⟩ rfl rfl hl.1 rfl (lv_room (Nat.le_of_ble_eq_true rfl)) dX7_drop_83 ⟨Nat.le_of_ble_eq_true rfl, Nat.le_of_ble_eq_true rfl⟩) ct83.1 hP hD hS hA [0] rfl rfl (fun H locs hP hD hS => ?_)
  have hP : va_P D vwCl [(m0, oR (jI ((ms : Nat) : Int)) (jI ((es : Nat) : Int)) (jI 1) a), ((a 5), .inl (cI, 6, .inl (fun i => jI ((gN i : Nat) : Int)))), ((a 7), .inl (cZ, 180, .inl (fun i => jI (iB (gD i)))))] H := hP
  have hD : va_D A [(m0, oR (jI ((ms : Nat) : Int)) (jI ((es : Nat) : Int)) (jI 1) a), ((a 5), .inl (cI, 6, .inl (fun i => jI ((gN i : Nat) : Int)))), ((a 7), .inl (cZ, 180, .inl (fun i => jI (iB (gD i)))))] := hD
  refine lv_pop hx hb dX7_drop_86 rfl ?_
  exact k_vret hx hb hr hlocks dX7_drop_87 hP hS

set_option maxHeartbeats 4000000 in
set_option maxRecDepth 100000 in
/--  -/
theorem c_X7_drop3 (l : Launch) (D : va_G) (tys : List (ClassId × FieldType)) {cI cJ cZ : ClassId} (htI : tys[0]? = some (cI, .int)) (htJ : tys[1]? = some (cJ, .long)) (htZ : tys[2]? = some (cZ, .boolean)) (m0 : Nat) (a : Nat → Nat) (ms es : Nat) (th : Int32) (gN : Nat → Nat) (gD : Nat → Bool) (q1 : ms ≤ 6) (q2 : es ≤ 6) (ev kv : Nat) (q3 : ev < es) (q5 : gN ev ≤ 30) (q4 : kv < gN ev) (h9 : gD (30 * ev + kv) = true) : CtV l D tys yX7_drop wsX7_drop 3 65 [.ref m0, .int (jI ((ev : Nat) : Int)), .int (jI ((kv : Nat) : Int))] [(m0, oR (jI ((ms : Nat) : Int)) (jI ((es : Nat) : Int)) th a), ((a 5), .inl (cI, 6, .inl (fun i => jI ((gN i : Nat) : Int)))), ((a 7), .inl (cZ, 180, .inl (fun i => jI (iB (gD i)))))] [(m0, oR (jI ((ms : Nat) : Int)) (jI ((es : Nat) : Int)) (jI 2) a), ((a 5), .inl (cI, 6, .inl (fun i => jI ((gN i : Nat) : Int)))), ((a 7), .inl (cZ, 180, .inl (fun i => jI (iB (gD i)))))] := by
  refine CtV.of (cc := cX7_drop) (maxL := 5) (by decide +kernel) rfl rfl (Nat.le_of_ble_eq_true rfl) ?_
  intro p e s m below meth c A ls hcx hK hP hD hA hl
  obtain ⟨hx, hb, hr, hml, hown, hts, hlocks⟩ := hcx
  have hS : va_S A s.heap s.heap [] := va_S.rf
  have hown : s.vm.findClass RX7 = some m.cls := hown
  have hl : lv_has ls 5 [(0, .ref m0), (1, .int (jI ((ev : Nat) : Int))), (2, .int (jI ((kv : Nat) : Int)))] := hl
  have f31 := hts (.fieldLink RX7 31 "FieldFilterModel" "isDropped" "[Z") (by decide +kernel)
  have iX7 : ∀ w ∈ u_ws RX7 TX7 20, w ∈ wsX7_drop := by decide +kernel
  refine n_bipush hx hb dX7_drop_0 (by decide) ?_
  refine lv_iload_n hx hb dX7_drop_2 rfl (lv_at hl 1 rfl) ?_
  refine n_imul hx hb dX7_drop_3 ?_
  refine lv_iload_n hx hb dX7_drop_4 rfl (lv_at hl 2 rfl) ?_
  refine n_iadd hx hb dX7_drop_5 ?_
  refine lv_istore_n (lv' := [(3, .int (jI ((30 * ((ev : Nat) : Int)) + ((kv : Nat) : Int)))), (0, .ref m0), (1, .int (jI ((ev : Nat) : Int))), (2, .int (jI ((kv : Nat) : Int)))]) hx hb dX7_drop_6 rfl hl (by decide) rfl (fun ls hl => ?_)
  refine lv_aload_n hx hb dX7_drop_7 rfl (lv_at hl 1 rfl) ?_
  refine lv_iload_n hx hb dX7_drop_8 rfl (lv_at hl 2 rfl) ?_
  refine lv_iload_n hx hb dX7_drop_9 rfl (lv_at hl 3 rfl) ?_
  have ct10 := c_X7_isMeasured0 l D tys htI htJ htZ m0 a ms es th gN (by omega) (by omega) ev ((kv : Nat) : Int) (by omega) (by first | assumption | exact r32_z _ | (unfold r32; omega)) (by omega) (inB_t (by omega) (by omega))
  refine k_goI (va_runV (As := [.int (jI ((ev : Nat) : Int)), .int (jI ((kv : Nat) : Int))]) (rest := []) ⟨hx, hb, hml, hown, hts⟩ (ct10.2 _) (cwV 2 hts gX7_drop_X7_isMeasured rfl rfl rfl (by decide +kernel) ⟨Nat.le_of_ble_eq_true rfl, Nat.le_of_ble_eq_true rfl⟩) ⟨(k_pre hK hP hD (is := [0, 1]) rfl rfl).1, va_recv hK.1 hP (ci := 7) (q0 := 0) rfl rfl, (k_pre hK hP hD (is := [0, 1]) rfl rfl).2⟩ rfl rfl hl.1 rfl (lv_room (Nat.le_of_ble_eq_true rfl)) dX7_drop_10 ⟨Nat.le_of_ble_eq_true rfl, Nat.le_of_ble_eq_true rfl⟩) ct10.1 hP hD hS hA [0, 1] rfl rfl (fun H locs hP hD hS => ?_)
  have hP : va_P D vwCl [(m0, oR (jI ((ms : Nat) : Int)) (jI ((es : Nat) : Int)) th a), ((a 5), .inl (cI, 6, .inl (fun i => jI ((gN i : Nat) : Int)))), ((a 7), .inl (cZ, 180, .inl (fun i => jI (iB (gD i)))))] H := hP
  have hD : va_D A [(m0, oR (jI ((ms : Nat) : Int)) (jI ((es : Nat) : Int)) th a), ((a 5), .inl (cI, 6, .inl (fun i => jI ((gN i : Nat) : Int)))), ((a 7), .inl (cZ, 180, .inl (fun i => jI (iB (gD i)))))] := hD
  refine n_ifB_eq (tgt := 29) hx hb dX7_drop_13 (by decide) (fun h13 => Bool.noConfusion h13) (fun h13 => ?_)
  refine lv_aload_n hx hb dX7_drop_16 rfl (lv_at hl 1 rfl) ?_
  refine va_get (D := D) (ci := 7) (v := .ref (a 7)) (C := RX7) (T := TX7) (N := 20) hx hb hts iX7 hown hK.1 hP 0 rfl rfl 9 (by decide) f31 (fun _ h9 => h9) rfl dX7_drop_17 ?_
  refine lv_iload_n hx hb dX7_drop_20 rfl (lv_at hl 0 rfl) ?_
  refine n_zald (i := (30 * ev + kv)) hx hb hK hP 2 2 rfl htZ (by omega) (by omega) (Nat.le_of_ble_eq_true rfl) dX7_drop_21 ?_
  refine n_ifB_ne (tgt := 29) hx hb dX7_drop_22 (by decide) (fun h22 => ?_) (fun h22 => Bool.noConfusion (h9.symm.trans h22))
  refine n_iconst hx hb dX7_drop_29 ?_
  refine lv_istore (lv' := [(4, .int (jI 0)), (3, .int (jI ((30 * ((ev : Nat) : Int)) + ((kv : Nat) : Int)))), (0, .ref m0), (1, .int (jI ((ev : Nat) : Int))), (2, .int (jI ((kv : Nat) : Int)))]) hx hb dX7_drop_30 hl (by decide) rfl (fun ls hl => ?_)
  refine lv_iload hx hb dX7_drop_32 (lv_at hl 0 rfl) ?_
  refine n_if_eq (tgt := 59) hx hb (by unfold r32; decide) dX7_drop_34 (by decide) (fun h34 => ?_) (fun h34 => False.elim (by revert h34; decide))
  refine lv_aload_n hx hb dX7_drop_59 rfl (lv_at hl 2 rfl) ?_
  refine lv_aload_n hx hb dX7_drop_60 rfl (lv_at hl 2 rfl) ?_
  refine lv_iload_n hx hb dX7_drop_61 rfl (lv_at hl 3 rfl) ?_
  refine lv_iload_n hx hb dX7_drop_62 rfl (lv_at hl 4 rfl) ?_
  have ct63 := c_X7_isMeasured0 l D tys htI htJ htZ m0 a ms es th gN (by omega) (by omega) ev ((kv : Nat) : Int) (by omega) (by first | assumption | exact r32_z _ | (unfold r32; omega)) (by omega) (inB_t (by omega) (by omega))
  refine k_goI (va_runV (As := [.int (jI ((ev : Nat) : Int)), .int (jI ((kv : Nat) : Int))]) (rest := [.ref m0]) ⟨hx, hb, hml, hown, hts⟩ (ct63.2 _) (cwV 2 hts gX7_drop_X7_isMeasured rfl rfl rfl (by decide +kernel) ⟨Nat.le_of_ble_eq_true rfl, Nat.le_of_ble_eq_true rfl⟩) ⟨(k_pre hK hP hD (is := [0, 1]) rfl rfl).1, va_recv hK.1 hP (ci := 7) (q0 := 0) rfl rfl, (k_pre hK hP hD (is := [0, 1]) rfl rfl).2⟩ rfl rfl hl.1 rfl (lv_room (Nat.le_of_ble_eq_true rfl)) dX7_drop_63 ⟨Nat.le_of_ble_eq_true rfl, Nat.le_of_ble_eq_true rfl⟩) ct63.1 hP hD hS hA [0, 1] rfl rfl (fun H locs hP hD hS => ?_)
  have hP : va_P D vwCl [(m0, oR (jI ((ms : Nat) : Int)) (jI ((es : Nat) : Int)) th a), ((a 5), .inl (cI, 6, .inl (fun i => jI ((gN i : Nat) : Int)))), ((a 7), .inl (cZ, 180, .inl (fun i => jI (iB (gD i)))))] H := hP
  have hD : va_D A [(m0, oR (jI ((ms : Nat) : Int)) (jI ((es : Nat) : Int)) th a), ((a 5), .inl (cI, 6, .inl (fun i => jI ((gN i : Nat) : Int)))), ((a 7), .inl (cZ, 180, .inl (fun i => jI (iB (gD i)))))] := hD
  refine n_ifB_ne (tgt := 73) hx hb dX7_drop_66 (by decide) (fun h66 => ?_) (fun h66 => Bool.noConfusion h66)
  refine lv_iload hx hb dX7_drop_73 (lv_at hl 0 rfl) ?_
  refine n_if_eq (tgt := 82) hx hb (by unfold r32; decide) dX7_drop_75 (by decide) (fun h75 => ?_) (fun h75 => False.elim (by revert h75; decide))
  refine n_iconst hx hb dX7_drop_82 ?_
  have ct83 := c_X7_failsT l D tys m0 a ms es th 2 (by unfold r32; decide) (by decide)
  refine k_goI (va_runV (As := [.int (jI 2)]) (rest := []) ⟨hx, hb, hml, hown, hts⟩ (ct83.2 _) (cwV 1 hts gX7_drop_X7_fails rfl rfl rfl (by decide +kernel) ⟨Nat.le_of_ble_eq_true rfl, Nat.le_of_ble_eq_true rfl⟩) ⟨(k_pre hK hP hD (is := [0]) rfl rfl).1, va_recv hK.1 hP (ci := 7) (q0 := 0) rfl rfl, (k_pre hK hP hD (is := [0]) rfl rfl).2⟩ rfl rfl hl.1 rfl (lv_room (Nat.le_of_ble_eq_true rfl)) dX7_drop_83 ⟨Nat.le_of_ble_eq_true rfl, Nat.le_of_ble_eq_true rfl⟩) ct83.1 hP hD hS hA [0] rfl rfl (fun H locs hP hD hS => ?_)
  have hP : va_P D vwCl [(m0, oR (jI ((ms : Nat) : Int)) (jI ((es : Nat) : Int)) (jI 2) a), ((a 5), .inl (cI, 6, .inl (fun i => jI ((gN i : Nat) : Int)))), ((a 7), .inl (cZ, 180, .inl (fun i => jI (iB (gD i)))))] H := hP
  have hD : va_D A [(m0, oR (jI ((ms : Nat) : Int)) (jI ((es : Nat) : Int)) (jI 2) a), ((a 5), .inl (cI, 6, .inl (fun i => jI ((gN i : Nat) : Int)))), ((a 7), .inl (cZ, 180, .inl (fun i => jI (iB (gD i)))))] := hD
  refine lv_pop hx hb dX7_drop_86 rfl ?_
  exact k_vret hx hb hr hlocks dX7_drop_87 hP hS

set_option maxHeartbeats 8000000 in
set_option maxRecDepth 100000 in
/--  -/
theorem c_X7_drop4 (l : Launch) (D : va_G) (tys : List (ClassId × FieldType)) {cI cJ cZ : ClassId} (htI : tys[0]? = some (cI, .int)) (htJ : tys[1]? = some (cJ, .long)) (htZ : tys[2]? = some (cZ, .boolean)) (m0 : Nat) (a : Nat → Nat) (ms es : Nat) (th : Int32) (gM : Nat → Zp) (gB : Nat → Zp) (gT : Nat → Nat) (gN : Nat → Nat) (gK : Nat → Zp) (gD : Nat → Bool) (gH : Nat → Zp) (gU : Nat → Zp) (gF : Nat → Zp) (gX : Nat → Bool) (gW : Nat → Zp) (q1 : ms ≤ 6) (q2 : es ≤ 6) (ev kv : Nat) (q3 : ev < es) (q5 : gN ev ≤ 30) (q4 : kv < gN ev) (qT : gT ev ≤ 20) (h9 : gD (30 * ev + kv) = false) (hbeh : beh (fun i => gM (7 * ev + i)) (s5at gB ev) (fun k c => gK (6 * (30 * ev + k) + c)) (fun k => (va_up gD (30 * ev + kv) true) (30 * ev + k)) (gN ev) (gT ev) = none) : CtF (S := (Nat → Zp) × (Nat → Zp) × (Nat → Zp) × (Nat → Bool) × (Nat → Zp)) l D tys yX7_drop wsX7_drop 4 110 [.ref m0, .int (jI ((ev : Nat) : Int)), .int (jI ((kv : Nat) : Int))] (fun (_ : (Nat → Zp) × (Nat → Zp) × (Nat → Zp) × (Nat → Bool) × (Nat → Zp)) => True) [(m0, oR (jI ((ms : Nat) : Int)) (jI ((es : Nat) : Int)) th a), ((a 1), .inl (cI, 42, .inl (fun i => vI (gM i)))), ((a 2), .inl (cI, 30, .inl (fun i => vI (gB i)))), ((a 3), .inl (cI, 6, .inl (fun i => jI ((gT i : Nat) : Int)))), ((a 5), .inl (cI, 6, .inl (fun i => jI ((gN i : Nat) : Int)))), ((a 6), .inl (cI, 1080, .inl (fun i => vI (gK i)))), ((a 7), .inl (cZ, 180, .inl (fun i => jI (iB (gD i))))), ((a 8), .inl (cJ, 105, .inr (.inl (fun i => vL (gH i))))), ((a 9), .inl (cJ, 105, .inr (.inl (fun i => vL (gU i))))), ((a 10), .inl (cJ, 90, .inr (.inl (fun i => vL (gF i))))), ((a 11), .inl (cZ, 30, .inl (fun i => jI (iB (gX i))))), ((a 12), .inl (cJ, 5, .inr (.inl (fun i => vL (gW i)))))] (fun u => [(m0, oR (jI ((ms : Nat) : Int)) (jI ((es : Nat) : Int)) (jI 2) a), ((a 1), .inl (cI, 42, .inl (fun i => vI (gM i)))), ((a 2), .inl (cI, 30, .inl (fun i => vI (gB i)))), ((a 3), .inl (cI, 6, .inl (fun i => jI ((gT i : Nat) : Int)))), ((a 5), .inl (cI, 6, .inl (fun i => jI ((gN i : Nat) : Int)))), ((a 6), .inl (cI, 1080, .inl (fun i => vI (gK i)))), ((a 7), .inl (cZ, 180, .inl (fun i => jI (iB ((va_up (va_up gD (30 * ev + kv) true) (30 * ev + kv) false) i))))), ((a 8), .inl (cJ, 105, .inr (.inl (fun i => vL (u.1 i))))), ((a 9), .inl (cJ, 105, .inr (.inl (fun i => vL (u.2.1 i))))), ((a 10), .inl (cJ, 90, .inr (.inl (fun i => vL (u.2.2.1 i))))), ((a 11), .inl (cZ, 30, .inl (fun i => jI (iB (u.2.2.2.1 i))))), ((a 12), .inl (cJ, 5, .inr (.inl (fun i => vL (u.2.2.2.2 i)))))]) := by
  refine CtF.of (cc := cX7_drop) (maxL := 5) (by decide +kernel) rfl (fun _ => rfl) (Nat.le_of_ble_eq_true rfl) ?_
  intro p e s m below meth c A ls hcx hK hP hD hA hl
  obtain ⟨hx, hb, hr, hml, hown, hts, hlocks⟩ := hcx
  have hS : va_S A s.heap s.heap [] := va_S.rf
  have hown : s.vm.findClass RX7 = some m.cls := hown
  have hl : lv_has ls 5 [(0, .ref m0), (1, .int (jI ((ev : Nat) : Int))), (2, .int (jI ((kv : Nat) : Int)))] := hl
  have f31 := hts (.fieldLink RX7 31 "FieldFilterModel" "isDropped" "[Z") (by decide +kernel)
  have iX7 : ∀ w ∈ u_ws RX7 TX7 20, w ∈ wsX7_drop := by decide +kernel
  refine n_bipush hx hb dX7_drop_0 (by decide) ?_
  refine lv_iload_n hx hb dX7_drop_2 rfl (lv_at hl 1 rfl) ?_
  refine n_imul hx hb dX7_drop_3 ?_
  refine lv_iload_n hx hb dX7_drop_4 rfl (lv_at hl 2 rfl) ?_
  refine n_iadd hx hb dX7_drop_5 ?_
  refine lv_istore_n (lv' := [(3, .int (jI ((30 * ((ev : Nat) : Int)) + ((kv : Nat) : Int)))), (0, .ref m0), (1, .int (jI ((ev : Nat) : Int))), (2, .int (jI ((kv : Nat) : Int)))]) hx hb dX7_drop_6 rfl hl (by decide) rfl (fun ls hl => ?_)
  refine lv_aload_n hx hb dX7_drop_7 rfl (lv_at hl 1 rfl) ?_
  refine lv_iload_n hx hb dX7_drop_8 rfl (lv_at hl 2 rfl) ?_
  refine lv_iload_n hx hb dX7_drop_9 rfl (lv_at hl 3 rfl) ?_
  have ct10 := c_X7_isMeasured0 l D tys htI htJ htZ m0 a ms es th gN (by omega) (by omega) ev ((kv : Nat) : Int) (by omega) (by first | assumption | exact r32_z _ | (unfold r32; omega)) (by omega) (inB_t (by omega) (by omega))
  refine k_goI (va_runV (As := [.int (jI ((ev : Nat) : Int)), .int (jI ((kv : Nat) : Int))]) (rest := []) ⟨hx, hb, hml, hown, hts⟩ (ct10.2 _) (cwV 2 hts gX7_drop_X7_isMeasured rfl rfl rfl (by decide +kernel) ⟨Nat.le_of_ble_eq_true rfl, Nat.le_of_ble_eq_true rfl⟩) ⟨(k_pre hK hP hD (is := [0, 4]) rfl rfl).1, va_recv hK.1 hP (ci := 7) (q0 := 0) rfl rfl, (k_pre hK hP hD (is := [0, 4]) rfl rfl).2⟩ rfl rfl hl.1 rfl (lv_room (Nat.le_of_ble_eq_true rfl)) dX7_drop_10 ⟨Nat.le_of_ble_eq_true rfl, Nat.le_of_ble_eq_true rfl⟩) ct10.1 hP hD hS hA [0, 4] rfl rfl (fun H locs hP hD hS => ?_)
  have hP : va_P D vwCl [(m0, oR (jI ((ms : Nat) : Int)) (jI ((es : Nat) : Int)) th a), ((a 1), .inl (cI, 42, .inl (fun i => vI (gM i)))), ((a 2), .inl (cI, 30, .inl (fun i => vI (gB i)))), ((a 3), .inl (cI, 6, .inl (fun i => jI ((gT i : Nat) : Int)))), ((a 5), .inl (cI, 6, .inl (fun i => jI ((gN i : Nat) : Int)))), ((a 6), .inl (cI, 1080, .inl (fun i => vI (gK i)))), ((a 7), .inl (cZ, 180, .inl (fun i => jI (iB (gD i))))), ((a 8), .inl (cJ, 105, .inr (.inl (fun i => vL (gH i))))), ((a 9), .inl (cJ, 105, .inr (.inl (fun i => vL (gU i))))), ((a 10), .inl (cJ, 90, .inr (.inl (fun i => vL (gF i))))), ((a 11), .inl (cZ, 30, .inl (fun i => jI (iB (gX i))))), ((a 12), .inl (cJ, 5, .inr (.inl (fun i => vL (gW i)))))] H := hP
  have hD : va_D A [(m0, oR (jI ((ms : Nat) : Int)) (jI ((es : Nat) : Int)) th a), ((a 1), .inl (cI, 42, .inl (fun i => vI (gM i)))), ((a 2), .inl (cI, 30, .inl (fun i => vI (gB i)))), ((a 3), .inl (cI, 6, .inl (fun i => jI ((gT i : Nat) : Int)))), ((a 5), .inl (cI, 6, .inl (fun i => jI ((gN i : Nat) : Int)))), ((a 6), .inl (cI, 1080, .inl (fun i => vI (gK i)))), ((a 7), .inl (cZ, 180, .inl (fun i => jI (iB (gD i))))), ((a 8), .inl (cJ, 105, .inr (.inl (fun i => vL (gH i))))), ((a 9), .inl (cJ, 105, .inr (.inl (fun i => vL (gU i))))), ((a 10), .inl (cJ, 90, .inr (.inl (fun i => vL (gF i))))), ((a 11), .inl (cZ, 30, .inl (fun i => jI (iB (gX i))))), ((a 12), .inl (cJ, 5, .inr (.inl (fun i => vL (gW i)))))] := hD
  refine n_ifB_eq (tgt := 29) hx hb dX7_drop_13 (by decide) (fun h13 => Bool.noConfusion h13) (fun h13 => ?_)
  refine lv_aload_n hx hb dX7_drop_16 rfl (lv_at hl 1 rfl) ?_
  refine va_get (D := D) (ci := 7) (v := .ref (a 7)) (C := RX7) (T := TX7) (N := 20) hx hb hts iX7 hown hK.1 hP 0 rfl rfl 9 (by decide) f31 (fun _ h9 => h9) rfl dX7_drop_17 ?_
  refine lv_iload_n hx hb dX7_drop_20 rfl (lv_at hl 0 rfl) ?_
  refine n_zald (i := (30 * ev + kv)) hx hb hK hP 6 2 rfl htZ (by omega) (by omega) (Nat.le_of_ble_eq_true rfl) dX7_drop_21 ?_
  refine n_ifB_ne (tgt := 29) hx hb dX7_drop_22 (by decide) (fun h22 => Bool.noConfusion (h9.symm.trans h22)) (fun h22 => ?_)
  refine n_iconst hx hb dX7_drop_25 ?_
  refine lv_goto (tgt := 30) hx hb dX7_drop_26 (by decide) ?_
  refine lv_istore (lv' := [(4, .int (jI 1)), (3, .int (jI ((30 * ((ev : Nat) : Int)) + ((kv : Nat) : Int)))), (0, .ref m0), (1, .int (jI ((ev : Nat) : Int))), (2, .int (jI ((kv : Nat) : Int)))]) hx hb dX7_drop_30 hl (by decide) rfl (fun ls hl => ?_)
  refine lv_iload hx hb dX7_drop_32 (lv_at hl 0 rfl) ?_
  refine n_if_eq (tgt := 59) hx hb (by unfold r32; decide) dX7_drop_34 (by decide) (fun h34 => False.elim (by revert h34; decide)) (fun h34 => ?_)
  refine lv_aload_n hx hb dX7_drop_37 rfl (lv_at hl 2 rfl) ?_
  refine va_get (D := D) (ci := 7) (v := .ref (a 7)) (C := RX7) (T := TX7) (N := 20) hx hb hts iX7 hown hK.1 hP 0 rfl rfl 9 (by decide) f31 (fun _ h9 => h9) rfl dX7_drop_38 ?_
  refine lv_iload_n hx hb dX7_drop_41 rfl (lv_at hl 1 rfl) ?_
  refine n_iconst hx hb dX7_drop_42 ?_
  refine n_zast (i := (30 * ev + kv)) (b := true) hx hb hK hP hD hS 6 2 rfl htZ rfl (by omega) (by omega) (Nat.le_of_ble_eq_true rfl) dX7_drop_43 (fun H locs hP hD hS => ?_)
  have hP : va_P D vwCl [(m0, oR (jI ((ms : Nat) : Int)) (jI ((es : Nat) : Int)) th a), ((a 1), .inl (cI, 42, .inl (fun i => vI (gM i)))), ((a 2), .inl (cI, 30, .inl (fun i => vI (gB i)))), ((a 3), .inl (cI, 6, .inl (fun i => jI ((gT i : Nat) : Int)))), ((a 5), .inl (cI, 6, .inl (fun i => jI ((gN i : Nat) : Int)))), ((a 6), .inl (cI, 1080, .inl (fun i => vI (gK i)))), ((a 7), .inl (cZ, 180, .inl (fun i => jI (iB ((va_up gD (30 * ev + kv) true) i))))), ((a 8), .inl (cJ, 105, .inr (.inl (fun i => vL (gH i))))), ((a 9), .inl (cJ, 105, .inr (.inl (fun i => vL (gU i))))), ((a 10), .inl (cJ, 90, .inr (.inl (fun i => vL (gF i))))), ((a 11), .inl (cZ, 30, .inl (fun i => jI (iB (gX i))))), ((a 12), .inl (cJ, 5, .inr (.inl (fun i => vL (gW i)))))] H := hP
  have hD : va_D A [(m0, oR (jI ((ms : Nat) : Int)) (jI ((es : Nat) : Int)) th a), ((a 1), .inl (cI, 42, .inl (fun i => vI (gM i)))), ((a 2), .inl (cI, 30, .inl (fun i => vI (gB i)))), ((a 3), .inl (cI, 6, .inl (fun i => jI ((gT i : Nat) : Int)))), ((a 5), .inl (cI, 6, .inl (fun i => jI ((gN i : Nat) : Int)))), ((a 6), .inl (cI, 1080, .inl (fun i => vI (gK i)))), ((a 7), .inl (cZ, 180, .inl (fun i => jI (iB ((va_up gD (30 * ev + kv) true) i))))), ((a 8), .inl (cJ, 105, .inr (.inl (fun i => vL (gH i))))), ((a 9), .inl (cJ, 105, .inr (.inl (fun i => vL (gU i))))), ((a 10), .inl (cJ, 90, .inr (.inl (fun i => vL (gF i))))), ((a 11), .inl (cZ, 30, .inl (fun i => jI (iB (gX i))))), ((a 12), .inl (cJ, 5, .inr (.inl (fun i => vL (gW i)))))] := hD
  refine lv_aload_n hx hb dX7_drop_44 rfl (lv_at hl 2 rfl) ?_
  refine lv_iload_n hx hb dX7_drop_45 rfl (lv_at hl 3 rfl) ?_
  have ctg := c_X7_goes l D tys htI htJ htZ m0 a ms es th gM gB gT gN gK (va_up gD (30 * ev + kv) true) gH gU gF gX gW ev (by omega) (by omega) (by omega)
  refine k_goE (va_runV (As := [.int (jI ((ev : Nat) : Int))]) (rest := []) ⟨hx, hb, hml, hown, hts⟩ (ctg.2 _) (cwV 1 hts gX7_drop_X7_goes rfl rfl rfl (by decide +kernel) ⟨Nat.le_of_ble_eq_true rfl, Nat.le_of_ble_eq_true rfl⟩) ⟨(k_pre hK hP hD (is := [0, 1, 2, 3, 4, 5, 6, 7, 8, 9, 10, 11]) rfl rfl).1, va_recv hK.1 hP (ci := 7) (q0 := 0) rfl rfl, (k_pre hK hP hD (is := [0, 1, 2, 3, 4, 5, 6, 7, 8, 9, 10, 11]) rfl rfl).2⟩ rfl rfl hl.1 rfl (lv_room (Nat.le_of_ble_eq_true rfl)) dX7_drop_46 ⟨Nat.le_of_ble_eq_true rfl, Nat.le_of_ble_eq_true rfl⟩) ctg.1 hP hD hS hA [0, 1, 2, 3, 4, 5, 6, 7, 8, 9, 10, 11] rfl rfl (fun r u H locs hpost hP hD hS => ?_)
  obtain ⟨gH', gU', gF', gX', gW'⟩ := u
  have hP : va_P D vwCl [(m0, oR (jI ((ms : Nat) : Int)) (jI ((es : Nat) : Int)) th a), ((a 1), .inl (cI, 42, .inl (fun i => vI (gM i)))), ((a 2), .inl (cI, 30, .inl (fun i => vI (gB i)))), ((a 3), .inl (cI, 6, .inl (fun i => jI ((gT i : Nat) : Int)))), ((a 5), .inl (cI, 6, .inl (fun i => jI ((gN i : Nat) : Int)))), ((a 6), .inl (cI, 1080, .inl (fun i => vI (gK i)))), ((a 7), .inl (cZ, 180, .inl (fun i => jI (iB ((va_up gD (30 * ev + kv) true) i))))), ((a 8), .inl (cJ, 105, .inr (.inl (fun i => vL (gH' i))))), ((a 9), .inl (cJ, 105, .inr (.inl (fun i => vL (gU' i))))), ((a 10), .inl (cJ, 90, .inr (.inl (fun i => vL (gF' i))))), ((a 11), .inl (cZ, 30, .inl (fun i => jI (iB (gX' i))))), ((a 12), .inl (cJ, 5, .inr (.inl (fun i => vL (gW' i)))))] H := hP
  have hD : va_D A [(m0, oR (jI ((ms : Nat) : Int)) (jI ((es : Nat) : Int)) th a), ((a 1), .inl (cI, 42, .inl (fun i => vI (gM i)))), ((a 2), .inl (cI, 30, .inl (fun i => vI (gB i)))), ((a 3), .inl (cI, 6, .inl (fun i => jI ((gT i : Nat) : Int)))), ((a 5), .inl (cI, 6, .inl (fun i => jI ((gN i : Nat) : Int)))), ((a 6), .inl (cI, 1080, .inl (fun i => vI (gK i)))), ((a 7), .inl (cZ, 180, .inl (fun i => jI (iB ((va_up gD (30 * ev + kv) true) i))))), ((a 8), .inl (cJ, 105, .inr (.inl (fun i => vL (gH' i))))), ((a 9), .inl (cJ, 105, .inr (.inl (fun i => vL (gU' i))))), ((a 10), .inl (cJ, 90, .inr (.inl (fun i => vL (gF' i))))), ((a 11), .inl (cZ, 30, .inl (fun i => jI (iB (gX' i))))), ((a 12), .inl (cJ, 5, .inr (.inl (fun i => vL (gW' i)))))] := hD
  rcases hpost with ⟨h8, rfl⟩ | ⟨rfl, hb1, hb2, hb3⟩
  rotate_left
  · have q := hb1.symm.trans hbeh; cases q
  refine lv_istore (lv' := [(4, .int (jI (iB false))), (3, .int (jI ((30 * ((ev : Nat) : Int)) + ((kv : Nat) : Int)))), (0, .ref m0), (1, .int (jI ((ev : Nat) : Int))), (2, .int (jI ((kv : Nat) : Int)))]) hx hb dX7_drop_49 hl (by decide) rfl (fun ls hl => ?_)
  refine lv_aload_n hx hb dX7_drop_51 rfl (lv_at hl 2 rfl) ?_
  refine va_get (D := D) (ci := 7) (v := .ref (a 7)) (C := RX7) (T := TX7) (N := 20) hx hb hts iX7 hown hK.1 hP 0 rfl rfl 9 (by decide) f31 (fun _ h9 => h9) rfl dX7_drop_52 ?_
  refine lv_iload_n hx hb dX7_drop_55 rfl (lv_at hl 1 rfl) ?_
  refine lv_iload hx hb dX7_drop_56 (lv_at hl 0 rfl) ?_
  refine n_zast (i := (30 * ev + kv)) (b := false) hx hb hK hP hD hS 6 2 rfl htZ rfl (by omega) (by omega) (Nat.le_of_ble_eq_true rfl) dX7_drop_58 (fun H locs hP hD hS => ?_)
  have hP : va_P D vwCl [(m0, oR (jI ((ms : Nat) : Int)) (jI ((es : Nat) : Int)) th a), ((a 1), .inl (cI, 42, .inl (fun i => vI (gM i)))), ((a 2), .inl (cI, 30, .inl (fun i => vI (gB i)))), ((a 3), .inl (cI, 6, .inl (fun i => jI ((gT i : Nat) : Int)))), ((a 5), .inl (cI, 6, .inl (fun i => jI ((gN i : Nat) : Int)))), ((a 6), .inl (cI, 1080, .inl (fun i => vI (gK i)))), ((a 7), .inl (cZ, 180, .inl (fun i => jI (iB ((va_up (va_up gD (30 * ev + kv) true) (30 * ev + kv) false) i))))), ((a 8), .inl (cJ, 105, .inr (.inl (fun i => vL (gH' i))))), ((a 9), .inl (cJ, 105, .inr (.inl (fun i => vL (gU' i))))), ((a 10), .inl (cJ, 90, .inr (.inl (fun i => vL (gF' i))))), ((a 11), .inl (cZ, 30, .inl (fun i => jI (iB (gX' i))))), ((a 12), .inl (cJ, 5, .inr (.inl (fun i => vL (gW' i)))))] H := hP
  have hD : va_D A [(m0, oR (jI ((ms : Nat) : Int)) (jI ((es : Nat) : Int)) th a), ((a 1), .inl (cI, 42, .inl (fun i => vI (gM i)))), ((a 2), .inl (cI, 30, .inl (fun i => vI (gB i)))), ((a 3), .inl (cI, 6, .inl (fun i => jI ((gT i : Nat) : Int)))), ((a 5), .inl (cI, 6, .inl (fun i => jI ((gN i : Nat) : Int)))), ((a 6), .inl (cI, 1080, .inl (fun i => vI (gK i)))), ((a 7), .inl (cZ, 180, .inl (fun i => jI (iB ((va_up (va_up gD (30 * ev + kv) true) (30 * ev + kv) false) i))))), ((a 8), .inl (cJ, 105, .inr (.inl (fun i => vL (gH' i))))), ((a 9), .inl (cJ, 105, .inr (.inl (fun i => vL (gU' i))))), ((a 10), .inl (cJ, 90, .inr (.inl (fun i => vL (gF' i))))), ((a 11), .inl (cZ, 30, .inl (fun i => jI (iB (gX' i))))), ((a 12), .inl (cJ, 5, .inr (.inl (fun i => vL (gW' i)))))] := hD
  refine lv_aload_n hx hb dX7_drop_59 rfl (lv_at hl 2 rfl) ?_
  refine lv_aload_n hx hb dX7_drop_60 rfl (lv_at hl 2 rfl) ?_
  refine lv_iload_n hx hb dX7_drop_61 rfl (lv_at hl 3 rfl) ?_
  refine lv_iload_n hx hb dX7_drop_62 rfl (lv_at hl 4 rfl) ?_
  have ct63 := c_X7_isMeasured0 l D tys htI htJ htZ m0 a ms es th gN (by omega) (by omega) ev ((kv : Nat) : Int) (by omega) (by first | assumption | exact r32_z _ | (unfold r32; omega)) (by omega) (inB_t (by omega) (by omega))
  refine k_goI (va_runV (As := [.int (jI ((ev : Nat) : Int)), .int (jI ((kv : Nat) : Int))]) (rest := [.ref m0]) ⟨hx, hb, hml, hown, hts⟩ (ct63.2 _) (cwV 2 hts gX7_drop_X7_isMeasured rfl rfl rfl (by decide +kernel) ⟨Nat.le_of_ble_eq_true rfl, Nat.le_of_ble_eq_true rfl⟩) ⟨(k_pre hK hP hD (is := [0, 4]) rfl rfl).1, va_recv hK.1 hP (ci := 7) (q0 := 0) rfl rfl, (k_pre hK hP hD (is := [0, 4]) rfl rfl).2⟩ rfl rfl hl.1 rfl (lv_room (Nat.le_of_ble_eq_true rfl)) dX7_drop_63 ⟨Nat.le_of_ble_eq_true rfl, Nat.le_of_ble_eq_true rfl⟩) ct63.1 hP hD hS hA [0, 4] rfl rfl (fun H locs hP hD hS => ?_)
  have hP : va_P D vwCl [(m0, oR (jI ((ms : Nat) : Int)) (jI ((es : Nat) : Int)) th a), ((a 1), .inl (cI, 42, .inl (fun i => vI (gM i)))), ((a 2), .inl (cI, 30, .inl (fun i => vI (gB i)))), ((a 3), .inl (cI, 6, .inl (fun i => jI ((gT i : Nat) : Int)))), ((a 5), .inl (cI, 6, .inl (fun i => jI ((gN i : Nat) : Int)))), ((a 6), .inl (cI, 1080, .inl (fun i => vI (gK i)))), ((a 7), .inl (cZ, 180, .inl (fun i => jI (iB ((va_up (va_up gD (30 * ev + kv) true) (30 * ev + kv) false) i))))), ((a 8), .inl (cJ, 105, .inr (.inl (fun i => vL (gH' i))))), ((a 9), .inl (cJ, 105, .inr (.inl (fun i => vL (gU' i))))), ((a 10), .inl (cJ, 90, .inr (.inl (fun i => vL (gF' i))))), ((a 11), .inl (cZ, 30, .inl (fun i => jI (iB (gX' i))))), ((a 12), .inl (cJ, 5, .inr (.inl (fun i => vL (gW' i)))))] H := hP
  have hD : va_D A [(m0, oR (jI ((ms : Nat) : Int)) (jI ((es : Nat) : Int)) th a), ((a 1), .inl (cI, 42, .inl (fun i => vI (gM i)))), ((a 2), .inl (cI, 30, .inl (fun i => vI (gB i)))), ((a 3), .inl (cI, 6, .inl (fun i => jI ((gT i : Nat) : Int)))), ((a 5), .inl (cI, 6, .inl (fun i => jI ((gN i : Nat) : Int)))), ((a 6), .inl (cI, 1080, .inl (fun i => vI (gK i)))), ((a 7), .inl (cZ, 180, .inl (fun i => jI (iB ((va_up (va_up gD (30 * ev + kv) true) (30 * ev + kv) false) i))))), ((a 8), .inl (cJ, 105, .inr (.inl (fun i => vL (gH' i))))), ((a 9), .inl (cJ, 105, .inr (.inl (fun i => vL (gU' i))))), ((a 10), .inl (cJ, 90, .inr (.inl (fun i => vL (gF' i))))), ((a 11), .inl (cZ, 30, .inl (fun i => jI (iB (gX' i))))), ((a 12), .inl (cJ, 5, .inr (.inl (fun i => vL (gW' i)))))] := hD
  refine n_ifB_ne (tgt := 73) hx hb dX7_drop_66 (by decide) (fun h66 => ?_) (fun h66 => Bool.noConfusion h66)
  refine lv_iload hx hb dX7_drop_73 (lv_at hl 0 rfl) ?_
  refine n_ifB_eq (tgt := 82) hx hb dX7_drop_75 (by decide) (fun h75 => ?_) (fun h75 => Bool.noConfusion h75)
  refine n_iconst hx hb dX7_drop_82 ?_
  have ct83 := c_X7_failsT l D tys m0 a ms es th 2 (by unfold r32; decide) (by decide)
  refine k_goI (va_runV (As := [.int (jI 2)]) (rest := []) ⟨hx, hb, hml, hown, hts⟩ (ct83.2 _) (cwV 1 hts gX7_drop_X7_fails rfl rfl rfl (by decide +kernel) ⟨Nat.le_of_ble_eq_true rfl, Nat.le_of_ble_eq_true rfl⟩) ⟨(k_pre hK hP hD (is := [0]) rfl rfl).1, va_recv hK.1 hP (ci := 7) (q0 := 0) rfl rfl, (k_pre hK hP hD (is := [0]) rfl rfl).2⟩ rfl rfl hl.1 rfl (lv_room (Nat.le_of_ble_eq_true rfl)) dX7_drop_83 ⟨Nat.le_of_ble_eq_true rfl, Nat.le_of_ble_eq_true rfl⟩) ct83.1 hP hD hS hA [0] rfl rfl (fun H locs hP hD hS => ?_)
  have hP : va_P D vwCl [(m0, oR (jI ((ms : Nat) : Int)) (jI ((es : Nat) : Int)) (jI 2) a), ((a 1), .inl (cI, 42, .inl (fun i => vI (gM i)))), ((a 2), .inl (cI, 30, .inl (fun i => vI (gB i)))), ((a 3), .inl (cI, 6, .inl (fun i => jI ((gT i : Nat) : Int)))), ((a 5), .inl (cI, 6, .inl (fun i => jI ((gN i : Nat) : Int)))), ((a 6), .inl (cI, 1080, .inl (fun i => vI (gK i)))), ((a 7), .inl (cZ, 180, .inl (fun i => jI (iB ((va_up (va_up gD (30 * ev + kv) true) (30 * ev + kv) false) i))))), ((a 8), .inl (cJ, 105, .inr (.inl (fun i => vL (gH' i))))), ((a 9), .inl (cJ, 105, .inr (.inl (fun i => vL (gU' i))))), ((a 10), .inl (cJ, 90, .inr (.inl (fun i => vL (gF' i))))), ((a 11), .inl (cZ, 30, .inl (fun i => jI (iB (gX' i))))), ((a 12), .inl (cJ, 5, .inr (.inl (fun i => vL (gW' i)))))] H := hP
  have hD : va_D A [(m0, oR (jI ((ms : Nat) : Int)) (jI ((es : Nat) : Int)) (jI 2) a), ((a 1), .inl (cI, 42, .inl (fun i => vI (gM i)))), ((a 2), .inl (cI, 30, .inl (fun i => vI (gB i)))), ((a 3), .inl (cI, 6, .inl (fun i => jI ((gT i : Nat) : Int)))), ((a 5), .inl (cI, 6, .inl (fun i => jI ((gN i : Nat) : Int)))), ((a 6), .inl (cI, 1080, .inl (fun i => vI (gK i)))), ((a 7), .inl (cZ, 180, .inl (fun i => jI (iB ((va_up (va_up gD (30 * ev + kv) true) (30 * ev + kv) false) i))))), ((a 8), .inl (cJ, 105, .inr (.inl (fun i => vL (gH' i))))), ((a 9), .inl (cJ, 105, .inr (.inl (fun i => vL (gU' i))))), ((a 10), .inl (cJ, 90, .inr (.inl (fun i => vL (gF' i))))), ((a 11), .inl (cZ, 30, .inl (fun i => jI (iB (gX' i))))), ((a 12), .inl (cJ, 5, .inr (.inl (fun i => vL (gW' i)))))] := hD
  refine lv_pop hx hb dX7_drop_86 rfl ?_
  exact e_vret (gH', gU', gF', gX', gW') hx hb hr hlocks dX7_drop_87 hP hS trivial

set_option maxHeartbeats 8000000 in
set_option maxRecDepth 100000 in
/--  -/
theorem c_X7_drop0 (l : Launch) (D : va_G) (tys : List (ClassId × FieldType)) {cI cJ cZ : ClassId} (htI : tys[0]? = some (cI, .int)) (htJ : tys[1]? = some (cJ, .long)) (htZ : tys[2]? = some (cZ, .boolean)) (m0 : Nat) (a : Nat → Nat) (ms es : Nat) (th : Int32) (gM : Nat → Zp) (gB : Nat → Zp) (gT : Nat → Nat) (gN : Nat → Nat) (gK : Nat → Zp) (gD : Nat → Bool) (gH : Nat → Zp) (gU : Nat → Zp) (gF : Nat → Zp) (gX : Nat → Bool) (gW : Nat → Zp) (q1 : ms ≤ 6) (q2 : es ≤ 6) (ev kv : Nat) (q3 : ev < es) (q5 : gN ev ≤ 30) (q4 : kv < gN ev) (qT : gT ev ≤ 20) (h9 : gD (30 * ev + kv) = false) (st : S5) (hbeh : beh (fun i => gM (7 * ev + i)) (s5at gB ev) (fun k c => gK (6 * (30 * ev + k) + c)) (fun k => (va_up gD (30 * ev + kv) true) (30 * ev + k)) (gN ev) (gT ev) = some st) : CtF (S := (Nat → Zp) × (Nat → Zp) × (Nat → Zp) × (Nat → Bool) × (Nat → Zp)) l D tys yX7_drop wsX7_drop 4 110 [.ref m0, .int (jI ((ev : Nat) : Int)), .int (jI ((kv : Nat) : Int))] (fun (u : (Nat → Zp) × (Nat → Zp) × (Nat → Zp) × (Nat → Bool) × (Nat → Zp)) => beh (fun i => gM (7 * ev + i)) (s5at gB ev) (fun k c => gK (6 * (30 * ev + k) + c)) (fun k => (va_up gD (30 * ev + kv) true) (30 * ev + k)) (gN ev) (gT ev) = some (s5 u.2.2.2.2) ∧ Rows (fun i => gM (7 * ev + i)) (s5at gB ev) (fun k c => gK (6 * (30 * ev + k) + c)) (fun k => (va_up gD (30 * ev + kv) true) (30 * ev + k)) (gN ev) u.1 u.2.1 (gT ev + 1) ∧ Outs (fun i => gM (7 * ev + i)) (s5at gB ev) (fun k c => gK (6 * (30 * ev + k) + c)) (fun k => (va_up gD (30 * ev + kv) true) (30 * ev + k)) (gN ev) u.2.2.1 u.2.2.2.1 (fun k => (gK (6 * (30 * ev + k) + 0)).val ≤ gT ev)) [(m0, oR (jI ((ms : Nat) : Int)) (jI ((es : Nat) : Int)) th a), ((a 1), .inl (cI, 42, .inl (fun i => vI (gM i)))), ((a 2), .inl (cI, 30, .inl (fun i => vI (gB i)))), ((a 3), .inl (cI, 6, .inl (fun i => jI ((gT i : Nat) : Int)))), ((a 5), .inl (cI, 6, .inl (fun i => jI ((gN i : Nat) : Int)))), ((a 6), .inl (cI, 1080, .inl (fun i => vI (gK i)))), ((a 7), .inl (cZ, 180, .inl (fun i => jI (iB (gD i))))), ((a 8), .inl (cJ, 105, .inr (.inl (fun i => vL (gH i))))), ((a 9), .inl (cJ, 105, .inr (.inl (fun i => vL (gU i))))), ((a 10), .inl (cJ, 90, .inr (.inl (fun i => vL (gF i))))), ((a 11), .inl (cZ, 30, .inl (fun i => jI (iB (gX i))))), ((a 12), .inl (cJ, 5, .inr (.inl (fun i => vL (gW i)))))] (fun u => [(m0, oR (jI ((ms : Nat) : Int)) (jI ((es : Nat) : Int)) (jI 0) a), ((a 1), .inl (cI, 42, .inl (fun i => vI (gM i)))), ((a 2), .inl (cI, 30, .inl (fun i => vI (gB i)))), ((a 3), .inl (cI, 6, .inl (fun i => jI ((gT i : Nat) : Int)))), ((a 5), .inl (cI, 6, .inl (fun i => jI ((gN i : Nat) : Int)))), ((a 6), .inl (cI, 1080, .inl (fun i => vI (gK i)))), ((a 7), .inl (cZ, 180, .inl (fun i => jI (iB ((va_up (va_up gD (30 * ev + kv) true) (30 * ev + kv) true) i))))), ((a 8), .inl (cJ, 105, .inr (.inl (fun i => vL (u.1 i))))), ((a 9), .inl (cJ, 105, .inr (.inl (fun i => vL (u.2.1 i))))), ((a 10), .inl (cJ, 90, .inr (.inl (fun i => vL (u.2.2.1 i))))), ((a 11), .inl (cZ, 30, .inl (fun i => jI (iB (u.2.2.2.1 i))))), ((a 12), .inl (cJ, 5, .inr (.inl (fun i => vL (u.2.2.2.2 i)))))]) := by
  refine CtF.of (cc := cX7_drop) (maxL := 5) (by decide +kernel) rfl (fun _ => rfl) (Nat.le_of_ble_eq_true rfl) ?_
  intro p e s m below meth c A ls hcx hK hP hD hA hl
  obtain ⟨hx, hb, hr, hml, hown, hts, hlocks⟩ := hcx
  have hS : va_S A s.heap s.heap [] := va_S.rf
  have hown : s.vm.findClass RX7 = some m.cls := hown
  have hl : lv_has ls 5 [(0, .ref m0), (1, .int (jI ((ev : Nat) : Int))), (2, .int (jI ((kv : Nat) : Int)))] := hl
  have f31 := hts (.fieldLink RX7 31 "FieldFilterModel" "isDropped" "[Z") (by decide +kernel)
  have iX7 : ∀ w ∈ u_ws RX7 TX7 20, w ∈ wsX7_drop := by decide +kernel
  refine n_bipush hx hb dX7_drop_0 (by decide) ?_
  refine lv_iload_n hx hb dX7_drop_2 rfl (lv_at hl 1 rfl) ?_
  refine n_imul hx hb dX7_drop_3 ?_
  refine lv_iload_n hx hb dX7_drop_4 rfl (lv_at hl 2 rfl) ?_
  refine n_iadd hx hb dX7_drop_5 ?_
  refine lv_istore_n (lv' := [(3, .int (jI ((30 * ((ev : Nat) : Int)) + ((kv : Nat) : Int)))), (0, .ref m0), (1, .int (jI ((ev : Nat) : Int))), (2, .int (jI ((kv : Nat) : Int)))]) hx hb dX7_drop_6 rfl hl (by decide) rfl (fun ls hl => ?_)
  refine lv_aload_n hx hb dX7_drop_7 rfl (lv_at hl 1 rfl) ?_
  refine lv_iload_n hx hb dX7_drop_8 rfl (lv_at hl 2 rfl) ?_
  refine lv_iload_n hx hb dX7_drop_9 rfl (lv_at hl 3 rfl) ?_
  have ct10 := c_X7_isMeasured0 l D tys htI htJ htZ m0 a ms es th gN (by omega) (by omega) ev ((kv : Nat) : Int) (by omega) (by first | assumption | exact r32_z _ | (unfold r32; omega)) (by omega) (inB_t (by omega) (by omega))
  refine k_goI (va_runV (As := [.int (jI ((ev : Nat) : Int)), .int (jI ((kv : Nat) : Int))]) (rest := []) ⟨hx, hb, hml, hown, hts⟩ (ct10.2 _) (cwV 2 hts gX7_drop_X7_isMeasured rfl rfl rfl (by decide +kernel) ⟨Nat.le_of_ble_eq_true rfl, Nat.le_of_ble_eq_true rfl⟩) ⟨(k_pre hK hP hD (is := [0, 4]) rfl rfl).1, va_recv hK.1 hP (ci := 7) (q0 := 0) rfl rfl, (k_pre hK hP hD (is := [0, 4]) rfl rfl).2⟩ rfl rfl hl.1 rfl (lv_room (Nat.le_of_ble_eq_true rfl)) dX7_drop_10 ⟨Nat.le_of_ble_eq_true rfl, Nat.le_of_ble_eq_true rfl⟩) ct10.1 hP hD hS hA [0, 4] rfl rfl (fun H locs hP hD hS => ?_)
  have hP : va_P D vwCl [(m0, oR (jI ((ms : Nat) : Int)) (jI ((es : Nat) : Int)) th a), ((a 1), .inl (cI, 42, .inl (fun i => vI (gM i)))), ((a 2), .inl (cI, 30, .inl (fun i => vI (gB i)))), ((a 3), .inl (cI, 6, .inl (fun i => jI ((gT i : Nat) : Int)))), ((a 5), .inl (cI, 6, .inl (fun i => jI ((gN i : Nat) : Int)))), ((a 6), .inl (cI, 1080, .inl (fun i => vI (gK i)))), ((a 7), .inl (cZ, 180, .inl (fun i => jI (iB (gD i))))), ((a 8), .inl (cJ, 105, .inr (.inl (fun i => vL (gH i))))), ((a 9), .inl (cJ, 105, .inr (.inl (fun i => vL (gU i))))), ((a 10), .inl (cJ, 90, .inr (.inl (fun i => vL (gF i))))), ((a 11), .inl (cZ, 30, .inl (fun i => jI (iB (gX i))))), ((a 12), .inl (cJ, 5, .inr (.inl (fun i => vL (gW i)))))] H := hP
  have hD : va_D A [(m0, oR (jI ((ms : Nat) : Int)) (jI ((es : Nat) : Int)) th a), ((a 1), .inl (cI, 42, .inl (fun i => vI (gM i)))), ((a 2), .inl (cI, 30, .inl (fun i => vI (gB i)))), ((a 3), .inl (cI, 6, .inl (fun i => jI ((gT i : Nat) : Int)))), ((a 5), .inl (cI, 6, .inl (fun i => jI ((gN i : Nat) : Int)))), ((a 6), .inl (cI, 1080, .inl (fun i => vI (gK i)))), ((a 7), .inl (cZ, 180, .inl (fun i => jI (iB (gD i))))), ((a 8), .inl (cJ, 105, .inr (.inl (fun i => vL (gH i))))), ((a 9), .inl (cJ, 105, .inr (.inl (fun i => vL (gU i))))), ((a 10), .inl (cJ, 90, .inr (.inl (fun i => vL (gF i))))), ((a 11), .inl (cZ, 30, .inl (fun i => jI (iB (gX i))))), ((a 12), .inl (cJ, 5, .inr (.inl (fun i => vL (gW i)))))] := hD
  refine n_ifB_eq (tgt := 29) hx hb dX7_drop_13 (by decide) (fun h13 => Bool.noConfusion h13) (fun h13 => ?_)
  refine lv_aload_n hx hb dX7_drop_16 rfl (lv_at hl 1 rfl) ?_
  refine va_get (D := D) (ci := 7) (v := .ref (a 7)) (C := RX7) (T := TX7) (N := 20) hx hb hts iX7 hown hK.1 hP 0 rfl rfl 9 (by decide) f31 (fun _ h9 => h9) rfl dX7_drop_17 ?_
  refine lv_iload_n hx hb dX7_drop_20 rfl (lv_at hl 0 rfl) ?_
  refine n_zald (i := (30 * ev + kv)) hx hb hK hP 6 2 rfl htZ (by omega) (by omega) (Nat.le_of_ble_eq_true rfl) dX7_drop_21 ?_
  refine n_ifB_ne (tgt := 29) hx hb dX7_drop_22 (by decide) (fun h22 => Bool.noConfusion (h9.symm.trans h22)) (fun h22 => ?_)
  refine n_iconst hx hb dX7_drop_25 ?_
  refine lv_goto (tgt := 30) hx hb dX7_drop_26 (by decide) ?_
  refine lv_istore (lv' := [(4, .int (jI 1)), (3, .int (jI ((30 * ((ev : Nat) : Int)) + ((kv : Nat) : Int)))), (0, .ref m0), (1, .int (jI ((ev : Nat) : Int))), (2, .int (jI ((kv : Nat) : Int)))]) hx hb dX7_drop_30 hl (by decide) rfl (fun ls hl => ?_)
  refine lv_iload hx hb dX7_drop_32 (lv_at hl 0 rfl) ?_
  refine n_if_eq (tgt := 59) hx hb (by unfold r32; decide) dX7_drop_34 (by decide) (fun h34 => False.elim (by revert h34; decide)) (fun h34 => ?_)
  refine lv_aload_n hx hb dX7_drop_37 rfl (lv_at hl 2 rfl) ?_
  refine va_get (D := D) (ci := 7) (v := .ref (a 7)) (C := RX7) (T := TX7) (N := 20) hx hb hts iX7 hown hK.1 hP 0 rfl rfl 9 (by decide) f31 (fun _ h9 => h9) rfl dX7_drop_38 ?_
  refine lv_iload_n hx hb dX7_drop_41 rfl (lv_at hl 1 rfl) ?_
  refine n_iconst hx hb dX7_drop_42 ?_
  refine n_zast (i := (30 * ev + kv)) (b := true) hx hb hK hP hD hS 6 2 rfl htZ rfl (by omega) (by omega) (Nat.le_of_ble_eq_true rfl) dX7_drop_43 (fun H locs hP hD hS => ?_)
  have hP : va_P D vwCl [(m0, oR (jI ((ms : Nat) : Int)) (jI ((es : Nat) : Int)) th a), ((a 1), .inl (cI, 42, .inl (fun i => vI (gM i)))), ((a 2), .inl (cI, 30, .inl (fun i => vI (gB i)))), ((a 3), .inl (cI, 6, .inl (fun i => jI ((gT i : Nat) : Int)))), ((a 5), .inl (cI, 6, .inl (fun i => jI ((gN i : Nat) : Int)))), ((a 6), .inl (cI, 1080, .inl (fun i => vI (gK i)))), ((a 7), .inl (cZ, 180, .inl (fun i => jI (iB ((va_up gD (30 * ev + kv) true) i))))), ((a 8), .inl (cJ, 105, .inr (.inl (fun i => vL (gH i))))), ((a 9), .inl (cJ, 105, .inr (.inl (fun i => vL (gU i))))), ((a 10), .inl (cJ, 90, .inr (.inl (fun i => vL (gF i))))), ((a 11), .inl (cZ, 30, .inl (fun i => jI (iB (gX i))))), ((a 12), .inl (cJ, 5, .inr (.inl (fun i => vL (gW i)))))] H := hP
  have hD : va_D A [(m0, oR (jI ((ms : Nat) : Int)) (jI ((es : Nat) : Int)) th a), ((a 1), .inl (cI, 42, .inl (fun i => vI (gM i)))), ((a 2), .inl (cI, 30, .inl (fun i => vI (gB i)))), ((a 3), .inl (cI, 6, .inl (fun i => jI ((gT i : Nat) : Int)))), ((a 5), .inl (cI, 6, .inl (fun i => jI ((gN i : Nat) : Int)))), ((a 6), .inl (cI, 1080, .inl (fun i => vI (gK i)))), ((a 7), .inl (cZ, 180, .inl (fun i => jI (iB ((va_up gD (30 * ev + kv) true) i))))), ((a 8), .inl (cJ, 105, .inr (.inl (fun i => vL (gH i))))), ((a 9), .inl (cJ, 105, .inr (.inl (fun i => vL (gU i))))), ((a 10), .inl (cJ, 90, .inr (.inl (fun i => vL (gF i))))), ((a 11), .inl (cZ, 30, .inl (fun i => jI (iB (gX i))))), ((a 12), .inl (cJ, 5, .inr (.inl (fun i => vL (gW i)))))] := hD
  refine lv_aload_n hx hb dX7_drop_44 rfl (lv_at hl 2 rfl) ?_
  refine lv_iload_n hx hb dX7_drop_45 rfl (lv_at hl 3 rfl) ?_
  have ctg := c_X7_goes l D tys htI htJ htZ m0 a ms es th gM gB gT gN gK (va_up gD (30 * ev + kv) true) gH gU gF gX gW ev (by omega) (by omega) (by omega)
  refine k_goE (va_runV (As := [.int (jI ((ev : Nat) : Int))]) (rest := []) ⟨hx, hb, hml, hown, hts⟩ (ctg.2 _) (cwV 1 hts gX7_drop_X7_goes rfl rfl rfl (by decide +kernel) ⟨Nat.le_of_ble_eq_true rfl, Nat.le_of_ble_eq_true rfl⟩) ⟨(k_pre hK hP hD (is := [0, 1, 2, 3, 4, 5, 6, 7, 8, 9, 10, 11]) rfl rfl).1, va_recv hK.1 hP (ci := 7) (q0 := 0) rfl rfl, (k_pre hK hP hD (is := [0, 1, 2, 3, 4, 5, 6, 7, 8, 9, 10, 11]) rfl rfl).2⟩ rfl rfl hl.1 rfl (lv_room (Nat.le_of_ble_eq_true rfl)) dX7_drop_46 ⟨Nat.le_of_ble_eq_true rfl, Nat.le_of_ble_eq_true rfl⟩) ctg.1 hP hD hS hA [0, 1, 2, 3, 4, 5, 6, 7, 8, 9, 10, 11] rfl rfl (fun r u H locs hpost hP hD hS => ?_)
  obtain ⟨gH', gU', gF', gX', gW'⟩ := u
  have hP : va_P D vwCl [(m0, oR (jI ((ms : Nat) : Int)) (jI ((es : Nat) : Int)) th a), ((a 1), .inl (cI, 42, .inl (fun i => vI (gM i)))), ((a 2), .inl (cI, 30, .inl (fun i => vI (gB i)))), ((a 3), .inl (cI, 6, .inl (fun i => jI ((gT i : Nat) : Int)))), ((a 5), .inl (cI, 6, .inl (fun i => jI ((gN i : Nat) : Int)))), ((a 6), .inl (cI, 1080, .inl (fun i => vI (gK i)))), ((a 7), .inl (cZ, 180, .inl (fun i => jI (iB ((va_up gD (30 * ev + kv) true) i))))), ((a 8), .inl (cJ, 105, .inr (.inl (fun i => vL (gH' i))))), ((a 9), .inl (cJ, 105, .inr (.inl (fun i => vL (gU' i))))), ((a 10), .inl (cJ, 90, .inr (.inl (fun i => vL (gF' i))))), ((a 11), .inl (cZ, 30, .inl (fun i => jI (iB (gX' i))))), ((a 12), .inl (cJ, 5, .inr (.inl (fun i => vL (gW' i)))))] H := hP
  have hD : va_D A [(m0, oR (jI ((ms : Nat) : Int)) (jI ((es : Nat) : Int)) th a), ((a 1), .inl (cI, 42, .inl (fun i => vI (gM i)))), ((a 2), .inl (cI, 30, .inl (fun i => vI (gB i)))), ((a 3), .inl (cI, 6, .inl (fun i => jI ((gT i : Nat) : Int)))), ((a 5), .inl (cI, 6, .inl (fun i => jI ((gN i : Nat) : Int)))), ((a 6), .inl (cI, 1080, .inl (fun i => vI (gK i)))), ((a 7), .inl (cZ, 180, .inl (fun i => jI (iB ((va_up gD (30 * ev + kv) true) i))))), ((a 8), .inl (cJ, 105, .inr (.inl (fun i => vL (gH' i))))), ((a 9), .inl (cJ, 105, .inr (.inl (fun i => vL (gU' i))))), ((a 10), .inl (cJ, 90, .inr (.inl (fun i => vL (gF' i))))), ((a 11), .inl (cZ, 30, .inl (fun i => jI (iB (gX' i))))), ((a 12), .inl (cJ, 5, .inr (.inl (fun i => vL (gW' i)))))] := hD
  rcases hpost with ⟨h8, rfl⟩ | ⟨rfl, hb1, hb2, hb3⟩
  · have q := h8.symm.trans hbeh; cases q
  refine lv_istore (lv' := [(4, .int (jI (iB true))), (3, .int (jI ((30 * ((ev : Nat) : Int)) + ((kv : Nat) : Int)))), (0, .ref m0), (1, .int (jI ((ev : Nat) : Int))), (2, .int (jI ((kv : Nat) : Int)))]) hx hb dX7_drop_49 hl (by decide) rfl (fun ls hl => ?_)
  refine lv_aload_n hx hb dX7_drop_51 rfl (lv_at hl 2 rfl) ?_
  refine va_get (D := D) (ci := 7) (v := .ref (a 7)) (C := RX7) (T := TX7) (N := 20) hx hb hts iX7 hown hK.1 hP 0 rfl rfl 9 (by decide) f31 (fun _ h9 => h9) rfl dX7_drop_52 ?_
  refine lv_iload_n hx hb dX7_drop_55 rfl (lv_at hl 1 rfl) ?_
  refine lv_iload hx hb dX7_drop_56 (lv_at hl 0 rfl) ?_
  refine n_zast (i := (30 * ev + kv)) (b := true) hx hb hK hP hD hS 6 2 rfl htZ rfl (by omega) (by omega) (Nat.le_of_ble_eq_true rfl) dX7_drop_58 (fun H locs hP hD hS => ?_)
  have hP : va_P D vwCl [(m0, oR (jI ((ms : Nat) : Int)) (jI ((es : Nat) : Int)) th a), ((a 1), .inl (cI, 42, .inl (fun i => vI (gM i)))), ((a 2), .inl (cI, 30, .inl (fun i => vI (gB i)))), ((a 3), .inl (cI, 6, .inl (fun i => jI ((gT i : Nat) : Int)))), ((a 5), .inl (cI, 6, .inl (fun i => jI ((gN i : Nat) : Int)))), ((a 6), .inl (cI, 1080, .inl (fun i => vI (gK i)))), ((a 7), .inl (cZ, 180, .inl (fun i => jI (iB ((va_up (va_up gD (30 * ev + kv) true) (30 * ev + kv) true) i))))), ((a 8), .inl (cJ, 105, .inr (.inl (fun i => vL (gH' i))))), ((a 9), .inl (cJ, 105, .inr (.inl (fun i => vL (gU' i))))), ((a 10), .inl (cJ, 90, .inr (.inl (fun i => vL (gF' i))))), ((a 11), .inl (cZ, 30, .inl (fun i => jI (iB (gX' i))))), ((a 12), .inl (cJ, 5, .inr (.inl (fun i => vL (gW' i)))))] H := hP
  have hD : va_D A [(m0, oR (jI ((ms : Nat) : Int)) (jI ((es : Nat) : Int)) th a), ((a 1), .inl (cI, 42, .inl (fun i => vI (gM i)))), ((a 2), .inl (cI, 30, .inl (fun i => vI (gB i)))), ((a 3), .inl (cI, 6, .inl (fun i => jI ((gT i : Nat) : Int)))), ((a 5), .inl (cI, 6, .inl (fun i => jI ((gN i : Nat) : Int)))), ((a 6), .inl (cI, 1080, .inl (fun i => vI (gK i)))), ((a 7), .inl (cZ, 180, .inl (fun i => jI (iB ((va_up (va_up gD (30 * ev + kv) true) (30 * ev + kv) true) i))))), ((a 8), .inl (cJ, 105, .inr (.inl (fun i => vL (gH' i))))), ((a 9), .inl (cJ, 105, .inr (.inl (fun i => vL (gU' i))))), ((a 10), .inl (cJ, 90, .inr (.inl (fun i => vL (gF' i))))), ((a 11), .inl (cZ, 30, .inl (fun i => jI (iB (gX' i))))), ((a 12), .inl (cJ, 5, .inr (.inl (fun i => vL (gW' i)))))] := hD
  refine lv_aload_n hx hb dX7_drop_59 rfl (lv_at hl 2 rfl) ?_
  refine lv_aload_n hx hb dX7_drop_60 rfl (lv_at hl 2 rfl) ?_
  refine lv_iload_n hx hb dX7_drop_61 rfl (lv_at hl 3 rfl) ?_
  refine lv_iload_n hx hb dX7_drop_62 rfl (lv_at hl 4 rfl) ?_
  have ct63 := c_X7_isMeasured0 l D tys htI htJ htZ m0 a ms es th gN (by omega) (by omega) ev ((kv : Nat) : Int) (by omega) (by first | assumption | exact r32_z _ | (unfold r32; omega)) (by omega) (inB_t (by omega) (by omega))
  refine k_goI (va_runV (As := [.int (jI ((ev : Nat) : Int)), .int (jI ((kv : Nat) : Int))]) (rest := [.ref m0]) ⟨hx, hb, hml, hown, hts⟩ (ct63.2 _) (cwV 2 hts gX7_drop_X7_isMeasured rfl rfl rfl (by decide +kernel) ⟨Nat.le_of_ble_eq_true rfl, Nat.le_of_ble_eq_true rfl⟩) ⟨(k_pre hK hP hD (is := [0, 4]) rfl rfl).1, va_recv hK.1 hP (ci := 7) (q0 := 0) rfl rfl, (k_pre hK hP hD (is := [0, 4]) rfl rfl).2⟩ rfl rfl hl.1 rfl (lv_room (Nat.le_of_ble_eq_true rfl)) dX7_drop_63 ⟨Nat.le_of_ble_eq_true rfl, Nat.le_of_ble_eq_true rfl⟩) ct63.1 hP hD hS hA [0, 4] rfl rfl (fun H locs hP hD hS => ?_)
  have hP : va_P D vwCl [(m0, oR (jI ((ms : Nat) : Int)) (jI ((es : Nat) : Int)) th a), ((a 1), .inl (cI, 42, .inl (fun i => vI (gM i)))), ((a 2), .inl (cI, 30, .inl (fun i => vI (gB i)))), ((a 3), .inl (cI, 6, .inl (fun i => jI ((gT i : Nat) : Int)))), ((a 5), .inl (cI, 6, .inl (fun i => jI ((gN i : Nat) : Int)))), ((a 6), .inl (cI, 1080, .inl (fun i => vI (gK i)))), ((a 7), .inl (cZ, 180, .inl (fun i => jI (iB ((va_up (va_up gD (30 * ev + kv) true) (30 * ev + kv) true) i))))), ((a 8), .inl (cJ, 105, .inr (.inl (fun i => vL (gH' i))))), ((a 9), .inl (cJ, 105, .inr (.inl (fun i => vL (gU' i))))), ((a 10), .inl (cJ, 90, .inr (.inl (fun i => vL (gF' i))))), ((a 11), .inl (cZ, 30, .inl (fun i => jI (iB (gX' i))))), ((a 12), .inl (cJ, 5, .inr (.inl (fun i => vL (gW' i)))))] H := hP
  have hD : va_D A [(m0, oR (jI ((ms : Nat) : Int)) (jI ((es : Nat) : Int)) th a), ((a 1), .inl (cI, 42, .inl (fun i => vI (gM i)))), ((a 2), .inl (cI, 30, .inl (fun i => vI (gB i)))), ((a 3), .inl (cI, 6, .inl (fun i => jI ((gT i : Nat) : Int)))), ((a 5), .inl (cI, 6, .inl (fun i => jI ((gN i : Nat) : Int)))), ((a 6), .inl (cI, 1080, .inl (fun i => vI (gK i)))), ((a 7), .inl (cZ, 180, .inl (fun i => jI (iB ((va_up (va_up gD (30 * ev + kv) true) (30 * ev + kv) true) i))))), ((a 8), .inl (cJ, 105, .inr (.inl (fun i => vL (gH' i))))), ((a 9), .inl (cJ, 105, .inr (.inl (fun i => vL (gU' i))))), ((a 10), .inl (cJ, 90, .inr (.inl (fun i => vL (gF' i))))), ((a 11), .inl (cZ, 30, .inl (fun i => jI (iB (gX' i))))), ((a 12), .inl (cJ, 5, .inr (.inl (fun i => vL (gW' i)))))] := hD
  refine n_ifB_ne (tgt := 73) hx hb dX7_drop_66 (by decide) (fun h66 => ?_) (fun h66 => Bool.noConfusion h66)
  refine lv_iload hx hb dX7_drop_73 (lv_at hl 0 rfl) ?_
  refine n_ifB_eq (tgt := 82) hx hb dX7_drop_75 (by decide) (fun h75 => Bool.noConfusion h75) (fun h75 => ?_)
  refine n_iconst hx hb dX7_drop_78 ?_
  refine lv_goto (tgt := 83) hx hb dX7_drop_79 (by decide) ?_
  have ct83 := c_X7_failsF l D tys m0 a ms es th
  refine k_goI (va_runV (As := [.int (jI 0)]) (rest := []) ⟨hx, hb, hml, hown, hts⟩ (ct83.2 _) (cwV 1 hts gX7_drop_X7_fails rfl rfl rfl (by decide +kernel) ⟨Nat.le_of_ble_eq_true rfl, Nat.le_of_ble_eq_true rfl⟩) ⟨(k_pre hK hP hD (is := [0]) rfl rfl).1, va_recv hK.1 hP (ci := 7) (q0 := 0) rfl rfl, (k_pre hK hP hD (is := [0]) rfl rfl).2⟩ rfl rfl hl.1 rfl (lv_room (Nat.le_of_ble_eq_true rfl)) dX7_drop_83 ⟨Nat.le_of_ble_eq_true rfl, Nat.le_of_ble_eq_true rfl⟩) ct83.1 hP hD hS hA [0] rfl rfl (fun H locs hP hD hS => ?_)
  have hP : va_P D vwCl [(m0, oR (jI ((ms : Nat) : Int)) (jI ((es : Nat) : Int)) (jI 0) a), ((a 1), .inl (cI, 42, .inl (fun i => vI (gM i)))), ((a 2), .inl (cI, 30, .inl (fun i => vI (gB i)))), ((a 3), .inl (cI, 6, .inl (fun i => jI ((gT i : Nat) : Int)))), ((a 5), .inl (cI, 6, .inl (fun i => jI ((gN i : Nat) : Int)))), ((a 6), .inl (cI, 1080, .inl (fun i => vI (gK i)))), ((a 7), .inl (cZ, 180, .inl (fun i => jI (iB ((va_up (va_up gD (30 * ev + kv) true) (30 * ev + kv) true) i))))), ((a 8), .inl (cJ, 105, .inr (.inl (fun i => vL (gH' i))))), ((a 9), .inl (cJ, 105, .inr (.inl (fun i => vL (gU' i))))), ((a 10), .inl (cJ, 90, .inr (.inl (fun i => vL (gF' i))))), ((a 11), .inl (cZ, 30, .inl (fun i => jI (iB (gX' i))))), ((a 12), .inl (cJ, 5, .inr (.inl (fun i => vL (gW' i)))))] H := hP
  have hD : va_D A [(m0, oR (jI ((ms : Nat) : Int)) (jI ((es : Nat) : Int)) (jI 0) a), ((a 1), .inl (cI, 42, .inl (fun i => vI (gM i)))), ((a 2), .inl (cI, 30, .inl (fun i => vI (gB i)))), ((a 3), .inl (cI, 6, .inl (fun i => jI ((gT i : Nat) : Int)))), ((a 5), .inl (cI, 6, .inl (fun i => jI ((gN i : Nat) : Int)))), ((a 6), .inl (cI, 1080, .inl (fun i => vI (gK i)))), ((a 7), .inl (cZ, 180, .inl (fun i => jI (iB ((va_up (va_up gD (30 * ev + kv) true) (30 * ev + kv) true) i))))), ((a 8), .inl (cJ, 105, .inr (.inl (fun i => vL (gH' i))))), ((a 9), .inl (cJ, 105, .inr (.inl (fun i => vL (gU' i))))), ((a 10), .inl (cJ, 90, .inr (.inl (fun i => vL (gF' i))))), ((a 11), .inl (cZ, 30, .inl (fun i => jI (iB (gX' i))))), ((a 12), .inl (cJ, 5, .inr (.inl (fun i => vL (gW' i)))))] := hD
  refine lv_pop hx hb dX7_drop_86 rfl ?_
  exact e_vret (gH', gU', gF', gX', gW') hx hb hr hlocks dX7_drop_87 hP hS ⟨hb1, hb2, hb3⟩

set_option maxHeartbeats 4000000 in
set_option maxRecDepth 100000 in
/--  -/
theorem c_X7_gain1 (l : Launch) (D : va_G) (tys : List (ClassId × FieldType)) {cI cJ cZ : ClassId} (htI : tys[0]? = some (cI, .int)) (htJ : tys[1]? = some (cJ, .long)) (htZ : tys[2]? = some (cZ, .boolean)) (m0 : Nat) (a : Nat → Nat) (ms es : Nat) (th : Int32) (q1 : ms ≤ 6) (q2 : es ≤ 6) (ev h0 h1 rr wh : Int) (q3 : r32 ev) (q5 : r32 h0) (q6 : r32 h1) (q7 : r32 rr) (q8 : r32 wh) (h9 : (inB 0 (((es : Nat) : Int) - 1) ev) = false) : CtI l D tys yX7_gain wsX7_gain 2 43 [.ref m0, .int (jI ev), .int (jI h0), .int (jI h1), .int (jI rr), .int (jI wh)] (jI 0) [(m0, oR (jI ((ms : Nat) : Int)) (jI ((es : Nat) : Int)) th a)] [(m0, oR (jI ((ms : Nat) : Int)) (jI ((es : Nat) : Int)) (jI 1) a)] := by
  refine CtI.of (cc := cX7_gain) (maxL := 13) (by decide +kernel) rfl rfl (Nat.le_of_ble_eq_true rfl) ?_
  intro p e s m below meth c A ls hcx hK hP hD hA hl
  obtain ⟨hx, hb, hr, hml, hown, hts, hlocks⟩ := hcx
  have hS : va_S A s.heap s.heap [] := va_S.rf
  have hown : s.vm.findClass RX7 = some m.cls := hown
  have hl : lv_has ls 13 [(0, .ref m0), (1, .int (jI ev)), (2, .int (jI h0)), (3, .int (jI h1)), (4, .int (jI rr)), (5, .int (jI wh))] := hl
  refine lv_iload_n hx hb dX7_gain_0 rfl (lv_at hl 2 rfl) ?_
  have ct1 := c_X7_isField l D tys h0 (by first | assumption | exact r32_z _ | (unfold r32; omega))
  refine k_goI (va_runS (As := [.int (jI h0)]) (rest := []) ⟨hx, hb, hml, hown, hts⟩ (ct1.2 _) (va_cwS 1 hts gX7_gain_X7_isField rfl rfl rfl (by decide +kernel) ⟨Nat.le_of_ble_eq_true rfl, Nat.le_of_ble_eq_true rfl⟩) (k_pre hK hP hD (is := []) rfl rfl) rfl rfl hl.1 rfl (lv_room (Nat.le_of_ble_eq_true rfl)) dX7_gain_1 ⟨Nat.le_of_ble_eq_true rfl, Nat.le_of_ble_eq_true rfl⟩) ct1.1 hP hD hS hA [] rfl rfl (fun H locs hP hD hS => ?_)
  have hP : va_P D vwCl [(m0, oR (jI ((ms : Nat) : Int)) (jI ((es : Nat) : Int)) th a)] H := hP
  have hD : va_D A [(m0, oR (jI ((ms : Nat) : Int)) (jI ((es : Nat) : Int)) th a)] := hD
  refine n_ifB_eq (tgt := 36) hx hb dX7_gain_4 (by decide) (fun h4 => ?_) (fun h4 => ?_)
  · refine n_iconst hx hb dX7_gain_36 ?_
    refine lv_istore (lv' := [(6, .int (jI 0)), (0, .ref m0), (1, .int (jI ev)), (2, .int (jI h0)), (3, .int (jI h1)), (4, .int (jI rr)), (5, .int (jI wh))]) hx hb dX7_gain_37 hl (by decide) rfl (fun ls hl => ?_)
    refine lv_lconst (v := jL 0) hx hb dX7_gain_39 rfl ?_
    refine lv_lstore (lv' := [(7, .long (jL 0)), (6, .int (jI 0)), (0, .ref m0), (1, .int (jI ev)), (2, .int (jI h0)), (3, .int (jI h1)), (4, .int (jI rr)), (5, .int (jI wh))]) hx hb dX7_gain_40 hl (by decide) rfl (fun ls hl => ?_)
    refine lv_lconst (v := jL 0) hx hb dX7_gain_42 rfl ?_
    refine lv_lstore (lv' := [(9, .long (jL 0)), (7, .long (jL 0)), (6, .int (jI 0)), (0, .ref m0), (1, .int (jI ev)), (2, .int (jI h0)), (3, .int (jI h1)), (4, .int (jI rr)), (5, .int (jI wh))]) hx hb dX7_gain_43 hl (by decide) rfl (fun ls hl => ?_)
    refine lv_lconst (v := jL 0) hx hb dX7_gain_45 rfl ?_
    refine lv_lstore (lv' := [(11, .long (jL 0)), (9, .long (jL 0)), (7, .long (jL 0)), (6, .int (jI 0)), (0, .ref m0), (1, .int (jI ev)), (2, .int (jI h0)), (3, .int (jI h1)), (4, .int (jI rr)), (5, .int (jI wh))]) hx hb dX7_gain_46 hl (by decide) rfl (fun ls hl => ?_)
    refine lv_aload_n hx hb dX7_gain_48 rfl (lv_at hl 4 rfl) ?_
    refine lv_iload_n hx hb dX7_gain_49 rfl (lv_at hl 5 rfl) ?_
    have ct50 := c_X7_isOne l D tys m0 a ms es th ev (by first | assumption | exact r32_z _ | (unfold r32; omega)) (by omega) (by omega)
    refine k_goI (va_runV (As := [.int (jI ev)]) (rest := []) ⟨hx, hb, hml, hown, hts⟩ (ct50.2 _) (cwV 1 hts gX7_gain_X7_isOne rfl rfl rfl (by decide +kernel) ⟨Nat.le_of_ble_eq_true rfl, Nat.le_of_ble_eq_true rfl⟩) ⟨(k_pre hK hP hD (is := [0]) rfl rfl).1, va_recv hK.1 hP (ci := 7) (q0 := 0) rfl rfl, (k_pre hK hP hD (is := [0]) rfl rfl).2⟩ rfl rfl hl.1 rfl (lv_room (Nat.le_of_ble_eq_true rfl)) dX7_gain_50 ⟨Nat.le_of_ble_eq_true rfl, Nat.le_of_ble_eq_true rfl⟩) ct50.1 hP hD hS hA [0] rfl rfl (fun H locs hP hD hS => ?_)
    have hP : va_P D vwCl [(m0, oR (jI ((ms : Nat) : Int)) (jI ((es : Nat) : Int)) th a)] H := hP
    have hD : va_D A [(m0, oR (jI ((ms : Nat) : Int)) (jI ((es : Nat) : Int)) th a)] := hD
    refine n_ifB_eq (tgt := 137) hx hb dX7_gain_53 (by decide) (fun h53 => ?_) (fun h53 => Bool.noConfusion (h9.symm.trans h53))
    refine lv_aload_n hx hb dX7_gain_137 rfl (lv_at hl 4 rfl) ?_
    refine lv_aload_n hx hb dX7_gain_138 rfl (lv_at hl 4 rfl) ?_
    refine lv_iload_n hx hb dX7_gain_139 rfl (lv_at hl 5 rfl) ?_
    have ct140 := c_X7_isOne l D tys m0 a ms es th ev (by first | assumption | exact r32_z _ | (unfold r32; omega)) (by omega) (by omega)
    refine k_goI (va_runV (As := [.int (jI ev)]) (rest := [.ref m0]) ⟨hx, hb, hml, hown, hts⟩ (ct140.2 _) (cwV 1 hts gX7_gain_X7_isOne rfl rfl rfl (by decide +kernel) ⟨Nat.le_of_ble_eq_true rfl, Nat.le_of_ble_eq_true rfl⟩) ⟨(k_pre hK hP hD (is := [0]) rfl rfl).1, va_recv hK.1 hP (ci := 7) (q0 := 0) rfl rfl, (k_pre hK hP hD (is := [0]) rfl rfl).2⟩ rfl rfl hl.1 rfl (lv_room (Nat.le_of_ble_eq_true rfl)) dX7_gain_140 ⟨Nat.le_of_ble_eq_true rfl, Nat.le_of_ble_eq_true rfl⟩) ct140.1 hP hD hS hA [0] rfl rfl (fun H locs hP hD hS => ?_)
    have hP : va_P D vwCl [(m0, oR (jI ((ms : Nat) : Int)) (jI ((es : Nat) : Int)) th a)] H := hP
    have hD : va_D A [(m0, oR (jI ((ms : Nat) : Int)) (jI ((es : Nat) : Int)) th a)] := hD
    refine n_ifB_ne (tgt := 150) hx hb dX7_gain_143 (by decide) (fun h143 => Bool.noConfusion (h9.symm.trans h143)) (fun h143 => ?_)
    refine n_iconst hx hb dX7_gain_146 ?_
    refine lv_goto (tgt := 171) hx hb dX7_gain_147 (by decide) ?_
    have ct171 := c_X7_failsT l D tys m0 a ms es th 1 (by unfold r32; decide) (by decide)
    refine k_goI (va_runV (As := [.int (jI 1)]) (rest := []) ⟨hx, hb, hml, hown, hts⟩ (ct171.2 _) (cwV 1 hts gX7_gain_X7_fails rfl rfl rfl (by decide +kernel) ⟨Nat.le_of_ble_eq_true rfl, Nat.le_of_ble_eq_true rfl⟩) ⟨(k_pre hK hP hD (is := [0]) rfl rfl).1, va_recv hK.1 hP (ci := 7) (q0 := 0) rfl rfl, (k_pre hK hP hD (is := [0]) rfl rfl).2⟩ rfl rfl hl.1 rfl (lv_room (Nat.le_of_ble_eq_true rfl)) dX7_gain_171 ⟨Nat.le_of_ble_eq_true rfl, Nat.le_of_ble_eq_true rfl⟩) ct171.1 hP hD hS hA [0] rfl rfl (fun H locs hP hD hS => ?_)
    have hP : va_P D vwCl [(m0, oR (jI ((ms : Nat) : Int)) (jI ((es : Nat) : Int)) (jI 1) a)] H := hP
    have hD : va_D A [(m0, oR (jI ((ms : Nat) : Int)) (jI ((es : Nat) : Int)) (jI 1) a)] := hD
    refine n_ifB_eq (tgt := 179) hx hb dX7_gain_174 (by decide) (fun h174 => Bool.noConfusion h174) (fun h174 => ?_)
    refine n_iconst hx hb dX7_gain_177 ?_
    exact k_iret hx hb hr hlocks dX7_gain_178 hP hS rfl
  · refine lv_iload_n hx hb dX7_gain_7 rfl (lv_at hl 3 rfl) ?_
    have ct8 := c_X7_isField l D tys h1 (by first | assumption | exact r32_z _ | (unfold r32; omega))
    refine k_goI (va_runS (As := [.int (jI h1)]) (rest := []) ⟨hx, hb, hml, hown, hts⟩ (ct8.2 _) (va_cwS 1 hts gX7_gain_X7_isField rfl rfl rfl (by decide +kernel) ⟨Nat.le_of_ble_eq_true rfl, Nat.le_of_ble_eq_true rfl⟩) (k_pre hK hP hD (is := []) rfl rfl) rfl rfl hl.1 rfl (lv_room (Nat.le_of_ble_eq_true rfl)) dX7_gain_8 ⟨Nat.le_of_ble_eq_true rfl, Nat.le_of_ble_eq_true rfl⟩) ct8.1 hP hD hS hA [] rfl rfl (fun H locs hP hD hS => ?_)
    have hP : va_P D vwCl [(m0, oR (jI ((ms : Nat) : Int)) (jI ((es : Nat) : Int)) th a)] H := hP
    have hD : va_D A [(m0, oR (jI ((ms : Nat) : Int)) (jI ((es : Nat) : Int)) th a)] := hD
    refine n_ifB_eq (tgt := 36) hx hb dX7_gain_11 (by decide) (fun h11 => ?_) (fun h11 => ?_)
    · refine n_iconst hx hb dX7_gain_36 ?_
      refine lv_istore (lv' := [(6, .int (jI 0)), (0, .ref m0), (1, .int (jI ev)), (2, .int (jI h0)), (3, .int (jI h1)), (4, .int (jI rr)), (5, .int (jI wh))]) hx hb dX7_gain_37 hl (by decide) rfl (fun ls hl => ?_)
      refine lv_lconst (v := jL 0) hx hb dX7_gain_39 rfl ?_
      refine lv_lstore (lv' := [(7, .long (jL 0)), (6, .int (jI 0)), (0, .ref m0), (1, .int (jI ev)), (2, .int (jI h0)), (3, .int (jI h1)), (4, .int (jI rr)), (5, .int (jI wh))]) hx hb dX7_gain_40 hl (by decide) rfl (fun ls hl => ?_)
      refine lv_lconst (v := jL 0) hx hb dX7_gain_42 rfl ?_
      refine lv_lstore (lv' := [(9, .long (jL 0)), (7, .long (jL 0)), (6, .int (jI 0)), (0, .ref m0), (1, .int (jI ev)), (2, .int (jI h0)), (3, .int (jI h1)), (4, .int (jI rr)), (5, .int (jI wh))]) hx hb dX7_gain_43 hl (by decide) rfl (fun ls hl => ?_)
      refine lv_lconst (v := jL 0) hx hb dX7_gain_45 rfl ?_
      refine lv_lstore (lv' := [(11, .long (jL 0)), (9, .long (jL 0)), (7, .long (jL 0)), (6, .int (jI 0)), (0, .ref m0), (1, .int (jI ev)), (2, .int (jI h0)), (3, .int (jI h1)), (4, .int (jI rr)), (5, .int (jI wh))]) hx hb dX7_gain_46 hl (by decide) rfl (fun ls hl => ?_)
      refine lv_aload_n hx hb dX7_gain_48 rfl (lv_at hl 4 rfl) ?_
      refine lv_iload_n hx hb dX7_gain_49 rfl (lv_at hl 5 rfl) ?_
      have ct50 := c_X7_isOne l D tys m0 a ms es th ev (by first | assumption | exact r32_z _ | (unfold r32; omega)) (by omega) (by omega)
      refine k_goI (va_runV (As := [.int (jI ev)]) (rest := []) ⟨hx, hb, hml, hown, hts⟩ (ct50.2 _) (cwV 1 hts gX7_gain_X7_isOne rfl rfl rfl (by decide +kernel) ⟨Nat.le_of_ble_eq_true rfl, Nat.le_of_ble_eq_true rfl⟩) ⟨(k_pre hK hP hD (is := [0]) rfl rfl).1, va_recv hK.1 hP (ci := 7) (q0 := 0) rfl rfl, (k_pre hK hP hD (is := [0]) rfl rfl).2⟩ rfl rfl hl.1 rfl (lv_room (Nat.le_of_ble_eq_true rfl)) dX7_gain_50 ⟨Nat.le_of_ble_eq_true rfl, Nat.le_of_ble_eq_true rfl⟩) ct50.1 hP hD hS hA [0] rfl rfl (fun H locs hP hD hS => ?_)
      have hP : va_P D vwCl [(m0, oR (jI ((ms : Nat) : Int)) (jI ((es : Nat) : Int)) th a)] H := hP
      have hD : va_D A [(m0, oR (jI ((ms : Nat) : Int)) (jI ((es : Nat) : Int)) th a)] := hD
      refine n_ifB_eq (tgt := 137) hx hb dX7_gain_53 (by decide) (fun h53 => ?_) (fun h53 => Bool.noConfusion (h9.symm.trans h53))
      refine lv_aload_n hx hb dX7_gain_137 rfl (lv_at hl 4 rfl) ?_
      refine lv_aload_n hx hb dX7_gain_138 rfl (lv_at hl 4 rfl) ?_
      refine lv_iload_n hx hb dX7_gain_139 rfl (lv_at hl 5 rfl) ?_
      have ct140 := c_X7_isOne l D tys m0 a ms es th ev (by first | assumption | exact r32_z _ | (unfold r32; omega)) (by omega) (by omega)
      refine k_goI (va_runV (As := [.int (jI ev)]) (rest := [.ref m0]) ⟨hx, hb, hml, hown, hts⟩ (ct140.2 _) (cwV 1 hts gX7_gain_X7_isOne rfl rfl rfl (by decide +kernel) ⟨Nat.le_of_ble_eq_true rfl, Nat.le_of_ble_eq_true rfl⟩) ⟨(k_pre hK hP hD (is := [0]) rfl rfl).1, va_recv hK.1 hP (ci := 7) (q0 := 0) rfl rfl, (k_pre hK hP hD (is := [0]) rfl rfl).2⟩ rfl rfl hl.1 rfl (lv_room (Nat.le_of_ble_eq_true rfl)) dX7_gain_140 ⟨Nat.le_of_ble_eq_true rfl, Nat.le_of_ble_eq_true rfl⟩) ct140.1 hP hD hS hA [0] rfl rfl (fun H locs hP hD hS => ?_)
      have hP : va_P D vwCl [(m0, oR (jI ((ms : Nat) : Int)) (jI ((es : Nat) : Int)) th a)] H := hP
      have hD : va_D A [(m0, oR (jI ((ms : Nat) : Int)) (jI ((es : Nat) : Int)) th a)] := hD
      refine n_ifB_ne (tgt := 150) hx hb dX7_gain_143 (by decide) (fun h143 => Bool.noConfusion (h9.symm.trans h143)) (fun h143 => ?_)
      refine n_iconst hx hb dX7_gain_146 ?_
      refine lv_goto (tgt := 171) hx hb dX7_gain_147 (by decide) ?_
      have ct171 := c_X7_failsT l D tys m0 a ms es th 1 (by unfold r32; decide) (by decide)
      refine k_goI (va_runV (As := [.int (jI 1)]) (rest := []) ⟨hx, hb, hml, hown, hts⟩ (ct171.2 _) (cwV 1 hts gX7_gain_X7_fails rfl rfl rfl (by decide +kernel) ⟨Nat.le_of_ble_eq_true rfl, Nat.le_of_ble_eq_true rfl⟩) ⟨(k_pre hK hP hD (is := [0]) rfl rfl).1, va_recv hK.1 hP (ci := 7) (q0 := 0) rfl rfl, (k_pre hK hP hD (is := [0]) rfl rfl).2⟩ rfl rfl hl.1 rfl (lv_room (Nat.le_of_ble_eq_true rfl)) dX7_gain_171 ⟨Nat.le_of_ble_eq_true rfl, Nat.le_of_ble_eq_true rfl⟩) ct171.1 hP hD hS hA [0] rfl rfl (fun H locs hP hD hS => ?_)
      have hP : va_P D vwCl [(m0, oR (jI ((ms : Nat) : Int)) (jI ((es : Nat) : Int)) (jI 1) a)] H := hP
      have hD : va_D A [(m0, oR (jI ((ms : Nat) : Int)) (jI ((es : Nat) : Int)) (jI 1) a)] := hD
      refine n_ifB_eq (tgt := 179) hx hb dX7_gain_174 (by decide) (fun h174 => Bool.noConfusion h174) (fun h174 => ?_)
      refine n_iconst hx hb dX7_gain_177 ?_
      exact k_iret hx hb hr hlocks dX7_gain_178 hP hS rfl
    · refine lv_iload hx hb dX7_gain_14 (lv_at hl 4 rfl) ?_
      have ct16 := c_X7_isField l D tys rr (by first | assumption | exact r32_z _ | (unfold r32; omega))
      refine k_goI (va_runS (As := [.int (jI rr)]) (rest := []) ⟨hx, hb, hml, hown, hts⟩ (ct16.2 _) (va_cwS 1 hts gX7_gain_X7_isField rfl rfl rfl (by decide +kernel) ⟨Nat.le_of_ble_eq_true rfl, Nat.le_of_ble_eq_true rfl⟩) (k_pre hK hP hD (is := []) rfl rfl) rfl rfl hl.1 rfl (lv_room (Nat.le_of_ble_eq_true rfl)) dX7_gain_16 ⟨Nat.le_of_ble_eq_true rfl, Nat.le_of_ble_eq_true rfl⟩) ct16.1 hP hD hS hA [] rfl rfl (fun H locs hP hD hS => ?_)
      have hP : va_P D vwCl [(m0, oR (jI ((ms : Nat) : Int)) (jI ((es : Nat) : Int)) th a)] H := hP
      have hD : va_D A [(m0, oR (jI ((ms : Nat) : Int)) (jI ((es : Nat) : Int)) th a)] := hD
      refine n_ifB_eq (tgt := 36) hx hb dX7_gain_19 (by decide) (fun h19 => ?_) (fun h19 => ?_)
      · refine n_iconst hx hb dX7_gain_36 ?_
        refine lv_istore (lv' := [(6, .int (jI 0)), (0, .ref m0), (1, .int (jI ev)), (2, .int (jI h0)), (3, .int (jI h1)), (4, .int (jI rr)), (5, .int (jI wh))]) hx hb dX7_gain_37 hl (by decide) rfl (fun ls hl => ?_)
        refine lv_lconst (v := jL 0) hx hb dX7_gain_39 rfl ?_
        refine lv_lstore (lv' := [(7, .long (jL 0)), (6, .int (jI 0)), (0, .ref m0), (1, .int (jI ev)), (2, .int (jI h0)), (3, .int (jI h1)), (4, .int (jI rr)), (5, .int (jI wh))]) hx hb dX7_gain_40 hl (by decide) rfl (fun ls hl => ?_)
        refine lv_lconst (v := jL 0) hx hb dX7_gain_42 rfl ?_
        refine lv_lstore (lv' := [(9, .long (jL 0)), (7, .long (jL 0)), (6, .int (jI 0)), (0, .ref m0), (1, .int (jI ev)), (2, .int (jI h0)), (3, .int (jI h1)), (4, .int (jI rr)), (5, .int (jI wh))]) hx hb dX7_gain_43 hl (by decide) rfl (fun ls hl => ?_)
        refine lv_lconst (v := jL 0) hx hb dX7_gain_45 rfl ?_
        refine lv_lstore (lv' := [(11, .long (jL 0)), (9, .long (jL 0)), (7, .long (jL 0)), (6, .int (jI 0)), (0, .ref m0), (1, .int (jI ev)), (2, .int (jI h0)), (3, .int (jI h1)), (4, .int (jI rr)), (5, .int (jI wh))]) hx hb dX7_gain_46 hl (by decide) rfl (fun ls hl => ?_)
        refine lv_aload_n hx hb dX7_gain_48 rfl (lv_at hl 4 rfl) ?_
        refine lv_iload_n hx hb dX7_gain_49 rfl (lv_at hl 5 rfl) ?_
        have ct50 := c_X7_isOne l D tys m0 a ms es th ev (by first | assumption | exact r32_z _ | (unfold r32; omega)) (by omega) (by omega)
        refine k_goI (va_runV (As := [.int (jI ev)]) (rest := []) ⟨hx, hb, hml, hown, hts⟩ (ct50.2 _) (cwV 1 hts gX7_gain_X7_isOne rfl rfl rfl (by decide +kernel) ⟨Nat.le_of_ble_eq_true rfl, Nat.le_of_ble_eq_true rfl⟩) ⟨(k_pre hK hP hD (is := [0]) rfl rfl).1, va_recv hK.1 hP (ci := 7) (q0 := 0) rfl rfl, (k_pre hK hP hD (is := [0]) rfl rfl).2⟩ rfl rfl hl.1 rfl (lv_room (Nat.le_of_ble_eq_true rfl)) dX7_gain_50 ⟨Nat.le_of_ble_eq_true rfl, Nat.le_of_ble_eq_true rfl⟩) ct50.1 hP hD hS hA [0] rfl rfl (fun H locs hP hD hS => ?_)
        have hP : va_P D vwCl [(m0, oR (jI ((ms : Nat) : Int)) (jI ((es : Nat) : Int)) th a)] H := hP
        have hD : va_D A [(m0, oR (jI ((ms : Nat) : Int)) (jI ((es : Nat) : Int)) th a)] := hD
        refine n_ifB_eq (tgt := 137) hx hb dX7_gain_53 (by decide) (fun h53 => ?_) (fun h53 => Bool.noConfusion (h9.symm.trans h53))
        refine lv_aload_n hx hb dX7_gain_137 rfl (lv_at hl 4 rfl) ?_
        refine lv_aload_n hx hb dX7_gain_138 rfl (lv_at hl 4 rfl) ?_
        refine lv_iload_n hx hb dX7_gain_139 rfl (lv_at hl 5 rfl) ?_
        have ct140 := c_X7_isOne l D tys m0 a ms es th ev (by first | assumption | exact r32_z _ | (unfold r32; omega)) (by omega) (by omega)
        refine k_goI (va_runV (As := [.int (jI ev)]) (rest := [.ref m0]) ⟨hx, hb, hml, hown, hts⟩ (ct140.2 _) (cwV 1 hts gX7_gain_X7_isOne rfl rfl rfl (by decide +kernel) ⟨Nat.le_of_ble_eq_true rfl, Nat.le_of_ble_eq_true rfl⟩) ⟨(k_pre hK hP hD (is := [0]) rfl rfl).1, va_recv hK.1 hP (ci := 7) (q0 := 0) rfl rfl, (k_pre hK hP hD (is := [0]) rfl rfl).2⟩ rfl rfl hl.1 rfl (lv_room (Nat.le_of_ble_eq_true rfl)) dX7_gain_140 ⟨Nat.le_of_ble_eq_true rfl, Nat.le_of_ble_eq_true rfl⟩) ct140.1 hP hD hS hA [0] rfl rfl (fun H locs hP hD hS => ?_)
        have hP : va_P D vwCl [(m0, oR (jI ((ms : Nat) : Int)) (jI ((es : Nat) : Int)) th a)] H := hP
        have hD : va_D A [(m0, oR (jI ((ms : Nat) : Int)) (jI ((es : Nat) : Int)) th a)] := hD
        refine n_ifB_ne (tgt := 150) hx hb dX7_gain_143 (by decide) (fun h143 => Bool.noConfusion (h9.symm.trans h143)) (fun h143 => ?_)
        refine n_iconst hx hb dX7_gain_146 ?_
        refine lv_goto (tgt := 171) hx hb dX7_gain_147 (by decide) ?_
        have ct171 := c_X7_failsT l D tys m0 a ms es th 1 (by unfold r32; decide) (by decide)
        refine k_goI (va_runV (As := [.int (jI 1)]) (rest := []) ⟨hx, hb, hml, hown, hts⟩ (ct171.2 _) (cwV 1 hts gX7_gain_X7_fails rfl rfl rfl (by decide +kernel) ⟨Nat.le_of_ble_eq_true rfl, Nat.le_of_ble_eq_true rfl⟩) ⟨(k_pre hK hP hD (is := [0]) rfl rfl).1, va_recv hK.1 hP (ci := 7) (q0 := 0) rfl rfl, (k_pre hK hP hD (is := [0]) rfl rfl).2⟩ rfl rfl hl.1 rfl (lv_room (Nat.le_of_ble_eq_true rfl)) dX7_gain_171 ⟨Nat.le_of_ble_eq_true rfl, Nat.le_of_ble_eq_true rfl⟩) ct171.1 hP hD hS hA [0] rfl rfl (fun H locs hP hD hS => ?_)
        have hP : va_P D vwCl [(m0, oR (jI ((ms : Nat) : Int)) (jI ((es : Nat) : Int)) (jI 1) a)] H := hP
        have hD : va_D A [(m0, oR (jI ((ms : Nat) : Int)) (jI ((es : Nat) : Int)) (jI 1) a)] := hD
        refine n_ifB_eq (tgt := 179) hx hb dX7_gain_174 (by decide) (fun h174 => Bool.noConfusion h174) (fun h174 => ?_)
        refine n_iconst hx hb dX7_gain_177 ?_
        exact k_iret hx hb hr hlocks dX7_gain_178 hP hS rfl
      · refine lv_iload hx hb dX7_gain_22 (lv_at hl 5 rfl) ?_
        refine n_iconst hx hb dX7_gain_24 ?_
        refine n_iconst hx hb dX7_gain_25 ?_
        have ct26 := c_X7_isIn l D tys wh 0 1 (by first | assumption | exact r32_z _ | (unfold r32; omega)) (by first | assumption | exact r32_z _ | (unfold r32; omega)) (by first | assumption | exact r32_z _ | (unfold r32; omega))
        refine k_goI (va_runS (As := [.int (jI wh), .int (jI 0), .int (jI 1)]) (rest := []) ⟨hx, hb, hml, hown, hts⟩ (ct26.2 _) (va_cwS 3 hts gX7_gain_X7_isIn rfl rfl rfl (by decide +kernel) ⟨Nat.le_of_ble_eq_true rfl, Nat.le_of_ble_eq_true rfl⟩) (k_pre hK hP hD (is := []) rfl rfl) rfl rfl hl.1 rfl (lv_room (Nat.le_of_ble_eq_true rfl)) dX7_gain_26 ⟨Nat.le_of_ble_eq_true rfl, Nat.le_of_ble_eq_true rfl⟩) ct26.1 hP hD hS hA [] rfl rfl (fun H locs hP hD hS => ?_)
        have hP : va_P D vwCl [(m0, oR (jI ((ms : Nat) : Int)) (jI ((es : Nat) : Int)) th a)] H := hP
        have hD : va_D A [(m0, oR (jI ((ms : Nat) : Int)) (jI ((es : Nat) : Int)) th a)] := hD
        refine n_ifB_eq (tgt := 36) hx hb dX7_gain_29 (by decide) (fun h29 => ?_) (fun h29 => ?_)
        · refine n_iconst hx hb dX7_gain_36 ?_
          refine lv_istore (lv' := [(6, .int (jI 0)), (0, .ref m0), (1, .int (jI ev)), (2, .int (jI h0)), (3, .int (jI h1)), (4, .int (jI rr)), (5, .int (jI wh))]) hx hb dX7_gain_37 hl (by decide) rfl (fun ls hl => ?_)
          refine lv_lconst (v := jL 0) hx hb dX7_gain_39 rfl ?_
          refine lv_lstore (lv' := [(7, .long (jL 0)), (6, .int (jI 0)), (0, .ref m0), (1, .int (jI ev)), (2, .int (jI h0)), (3, .int (jI h1)), (4, .int (jI rr)), (5, .int (jI wh))]) hx hb dX7_gain_40 hl (by decide) rfl (fun ls hl => ?_)
          refine lv_lconst (v := jL 0) hx hb dX7_gain_42 rfl ?_
          refine lv_lstore (lv' := [(9, .long (jL 0)), (7, .long (jL 0)), (6, .int (jI 0)), (0, .ref m0), (1, .int (jI ev)), (2, .int (jI h0)), (3, .int (jI h1)), (4, .int (jI rr)), (5, .int (jI wh))]) hx hb dX7_gain_43 hl (by decide) rfl (fun ls hl => ?_)
          refine lv_lconst (v := jL 0) hx hb dX7_gain_45 rfl ?_
          refine lv_lstore (lv' := [(11, .long (jL 0)), (9, .long (jL 0)), (7, .long (jL 0)), (6, .int (jI 0)), (0, .ref m0), (1, .int (jI ev)), (2, .int (jI h0)), (3, .int (jI h1)), (4, .int (jI rr)), (5, .int (jI wh))]) hx hb dX7_gain_46 hl (by decide) rfl (fun ls hl => ?_)
          refine lv_aload_n hx hb dX7_gain_48 rfl (lv_at hl 4 rfl) ?_
          refine lv_iload_n hx hb dX7_gain_49 rfl (lv_at hl 5 rfl) ?_
          have ct50 := c_X7_isOne l D tys m0 a ms es th ev (by first | assumption | exact r32_z _ | (unfold r32; omega)) (by omega) (by omega)
          refine k_goI (va_runV (As := [.int (jI ev)]) (rest := []) ⟨hx, hb, hml, hown, hts⟩ (ct50.2 _) (cwV 1 hts gX7_gain_X7_isOne rfl rfl rfl (by decide +kernel) ⟨Nat.le_of_ble_eq_true rfl, Nat.le_of_ble_eq_true rfl⟩) ⟨(k_pre hK hP hD (is := [0]) rfl rfl).1, va_recv hK.1 hP (ci := 7) (q0 := 0) rfl rfl, (k_pre hK hP hD (is := [0]) rfl rfl).2⟩ rfl rfl hl.1 rfl (lv_room (Nat.le_of_ble_eq_true rfl)) dX7_gain_50 ⟨Nat.le_of_ble_eq_true rfl, Nat.le_of_ble_eq_true rfl⟩) ct50.1 hP hD hS hA [0] rfl rfl (fun H locs hP hD hS => ?_)
          have hP : va_P D vwCl [(m0, oR (jI ((ms : Nat) : Int)) (jI ((es : Nat) : Int)) th a)] H := hP
          have hD : va_D A [(m0, oR (jI ((ms : Nat) : Int)) (jI ((es : Nat) : Int)) th a)] := hD
          refine n_ifB_eq (tgt := 137) hx hb dX7_gain_53 (by decide) (fun h53 => ?_) (fun h53 => Bool.noConfusion (h9.symm.trans h53))
          refine lv_aload_n hx hb dX7_gain_137 rfl (lv_at hl 4 rfl) ?_
          refine lv_aload_n hx hb dX7_gain_138 rfl (lv_at hl 4 rfl) ?_
          refine lv_iload_n hx hb dX7_gain_139 rfl (lv_at hl 5 rfl) ?_
          have ct140 := c_X7_isOne l D tys m0 a ms es th ev (by first | assumption | exact r32_z _ | (unfold r32; omega)) (by omega) (by omega)
          refine k_goI (va_runV (As := [.int (jI ev)]) (rest := [.ref m0]) ⟨hx, hb, hml, hown, hts⟩ (ct140.2 _) (cwV 1 hts gX7_gain_X7_isOne rfl rfl rfl (by decide +kernel) ⟨Nat.le_of_ble_eq_true rfl, Nat.le_of_ble_eq_true rfl⟩) ⟨(k_pre hK hP hD (is := [0]) rfl rfl).1, va_recv hK.1 hP (ci := 7) (q0 := 0) rfl rfl, (k_pre hK hP hD (is := [0]) rfl rfl).2⟩ rfl rfl hl.1 rfl (lv_room (Nat.le_of_ble_eq_true rfl)) dX7_gain_140 ⟨Nat.le_of_ble_eq_true rfl, Nat.le_of_ble_eq_true rfl⟩) ct140.1 hP hD hS hA [0] rfl rfl (fun H locs hP hD hS => ?_)
          have hP : va_P D vwCl [(m0, oR (jI ((ms : Nat) : Int)) (jI ((es : Nat) : Int)) th a)] H := hP
          have hD : va_D A [(m0, oR (jI ((ms : Nat) : Int)) (jI ((es : Nat) : Int)) th a)] := hD
          refine n_ifB_ne (tgt := 150) hx hb dX7_gain_143 (by decide) (fun h143 => Bool.noConfusion (h9.symm.trans h143)) (fun h143 => ?_)
          refine n_iconst hx hb dX7_gain_146 ?_
          refine lv_goto (tgt := 171) hx hb dX7_gain_147 (by decide) ?_
          have ct171 := c_X7_failsT l D tys m0 a ms es th 1 (by unfold r32; decide) (by decide)
          refine k_goI (va_runV (As := [.int (jI 1)]) (rest := []) ⟨hx, hb, hml, hown, hts⟩ (ct171.2 _) (cwV 1 hts gX7_gain_X7_fails rfl rfl rfl (by decide +kernel) ⟨Nat.le_of_ble_eq_true rfl, Nat.le_of_ble_eq_true rfl⟩) ⟨(k_pre hK hP hD (is := [0]) rfl rfl).1, va_recv hK.1 hP (ci := 7) (q0 := 0) rfl rfl, (k_pre hK hP hD (is := [0]) rfl rfl).2⟩ rfl rfl hl.1 rfl (lv_room (Nat.le_of_ble_eq_true rfl)) dX7_gain_171 ⟨Nat.le_of_ble_eq_true rfl, Nat.le_of_ble_eq_true rfl⟩) ct171.1 hP hD hS hA [0] rfl rfl (fun H locs hP hD hS => ?_)
          have hP : va_P D vwCl [(m0, oR (jI ((ms : Nat) : Int)) (jI ((es : Nat) : Int)) (jI 1) a)] H := hP
          have hD : va_D A [(m0, oR (jI ((ms : Nat) : Int)) (jI ((es : Nat) : Int)) (jI 1) a)] := hD
          refine n_ifB_eq (tgt := 179) hx hb dX7_gain_174 (by decide) (fun h174 => Bool.noConfusion h174) (fun h174 => ?_)
          refine n_iconst hx hb dX7_gain_177 ?_
          exact k_iret hx hb hr hlocks dX7_gain_178 hP hS rfl
        · refine n_iconst hx hb dX7_gain_32 ?_
          refine lv_goto (tgt := 37) hx hb dX7_gain_33 (by decide) ?_
          refine lv_istore (lv' := [(6, .int (jI 1)), (0, .ref m0), (1, .int (jI ev)), (2, .int (jI h0)), (3, .int (jI h1)), (4, .int (jI rr)), (5, .int (jI wh))]) hx hb dX7_gain_37 hl (by decide) rfl (fun ls hl => ?_)
          refine lv_lconst (v := jL 0) hx hb dX7_gain_39 rfl ?_
          refine lv_lstore (lv' := [(7, .long (jL 0)), (6, .int (jI 1)), (0, .ref m0), (1, .int (jI ev)), (2, .int (jI h0)), (3, .int (jI h1)), (4, .int (jI rr)), (5, .int (jI wh))]) hx hb dX7_gain_40 hl (by decide) rfl (fun ls hl => ?_)
          refine lv_lconst (v := jL 0) hx hb dX7_gain_42 rfl ?_
          refine lv_lstore (lv' := [(9, .long (jL 0)), (7, .long (jL 0)), (6, .int (jI 1)), (0, .ref m0), (1, .int (jI ev)), (2, .int (jI h0)), (3, .int (jI h1)), (4, .int (jI rr)), (5, .int (jI wh))]) hx hb dX7_gain_43 hl (by decide) rfl (fun ls hl => ?_)
          refine lv_lconst (v := jL 0) hx hb dX7_gain_45 rfl ?_
          refine lv_lstore (lv' := [(11, .long (jL 0)), (9, .long (jL 0)), (7, .long (jL 0)), (6, .int (jI 1)), (0, .ref m0), (1, .int (jI ev)), (2, .int (jI h0)), (3, .int (jI h1)), (4, .int (jI rr)), (5, .int (jI wh))]) hx hb dX7_gain_46 hl (by decide) rfl (fun ls hl => ?_)
          refine lv_aload_n hx hb dX7_gain_48 rfl (lv_at hl 4 rfl) ?_
          refine lv_iload_n hx hb dX7_gain_49 rfl (lv_at hl 5 rfl) ?_
          have ct50 := c_X7_isOne l D tys m0 a ms es th ev (by first | assumption | exact r32_z _ | (unfold r32; omega)) (by omega) (by omega)
          refine k_goI (va_runV (As := [.int (jI ev)]) (rest := []) ⟨hx, hb, hml, hown, hts⟩ (ct50.2 _) (cwV 1 hts gX7_gain_X7_isOne rfl rfl rfl (by decide +kernel) ⟨Nat.le_of_ble_eq_true rfl, Nat.le_of_ble_eq_true rfl⟩) ⟨(k_pre hK hP hD (is := [0]) rfl rfl).1, va_recv hK.1 hP (ci := 7) (q0 := 0) rfl rfl, (k_pre hK hP hD (is := [0]) rfl rfl).2⟩ rfl rfl hl.1 rfl (lv_room (Nat.le_of_ble_eq_true rfl)) dX7_gain_50 ⟨Nat.le_of_ble_eq_true rfl, Nat.le_of_ble_eq_true rfl⟩) ct50.1 hP hD hS hA [0] rfl rfl (fun H locs hP hD hS => ?_)
          have hP : va_P D vwCl [(m0, oR (jI ((ms : Nat) : Int)) (jI ((es : Nat) : Int)) th a)] H := hP
          have hD : va_D A [(m0, oR (jI ((ms : Nat) : Int)) (jI ((es : Nat) : Int)) th a)] := hD
          refine n_ifB_eq (tgt := 137) hx hb dX7_gain_53 (by decide) (fun h53 => ?_) (fun h53 => Bool.noConfusion (h9.symm.trans h53))
          refine lv_aload_n hx hb dX7_gain_137 rfl (lv_at hl 4 rfl) ?_
          refine lv_aload_n hx hb dX7_gain_138 rfl (lv_at hl 4 rfl) ?_
          refine lv_iload_n hx hb dX7_gain_139 rfl (lv_at hl 5 rfl) ?_
          have ct140 := c_X7_isOne l D tys m0 a ms es th ev (by first | assumption | exact r32_z _ | (unfold r32; omega)) (by omega) (by omega)
          refine k_goI (va_runV (As := [.int (jI ev)]) (rest := [.ref m0]) ⟨hx, hb, hml, hown, hts⟩ (ct140.2 _) (cwV 1 hts gX7_gain_X7_isOne rfl rfl rfl (by decide +kernel) ⟨Nat.le_of_ble_eq_true rfl, Nat.le_of_ble_eq_true rfl⟩) ⟨(k_pre hK hP hD (is := [0]) rfl rfl).1, va_recv hK.1 hP (ci := 7) (q0 := 0) rfl rfl, (k_pre hK hP hD (is := [0]) rfl rfl).2⟩ rfl rfl hl.1 rfl (lv_room (Nat.le_of_ble_eq_true rfl)) dX7_gain_140 ⟨Nat.le_of_ble_eq_true rfl, Nat.le_of_ble_eq_true rfl⟩) ct140.1 hP hD hS hA [0] rfl rfl (fun H locs hP hD hS => ?_)
          have hP : va_P D vwCl [(m0, oR (jI ((ms : Nat) : Int)) (jI ((es : Nat) : Int)) th a)] H := hP
          have hD : va_D A [(m0, oR (jI ((ms : Nat) : Int)) (jI ((es : Nat) : Int)) th a)] := hD
          refine n_ifB_ne (tgt := 150) hx hb dX7_gain_143 (by decide) (fun h143 => Bool.noConfusion (h9.symm.trans h143)) (fun h143 => ?_)
          refine n_iconst hx hb dX7_gain_146 ?_
          refine lv_goto (tgt := 171) hx hb dX7_gain_147 (by decide) ?_
          have ct171 := c_X7_failsT l D tys m0 a ms es th 1 (by unfold r32; decide) (by decide)
          refine k_goI (va_runV (As := [.int (jI 1)]) (rest := []) ⟨hx, hb, hml, hown, hts⟩ (ct171.2 _) (cwV 1 hts gX7_gain_X7_fails rfl rfl rfl (by decide +kernel) ⟨Nat.le_of_ble_eq_true rfl, Nat.le_of_ble_eq_true rfl⟩) ⟨(k_pre hK hP hD (is := [0]) rfl rfl).1, va_recv hK.1 hP (ci := 7) (q0 := 0) rfl rfl, (k_pre hK hP hD (is := [0]) rfl rfl).2⟩ rfl rfl hl.1 rfl (lv_room (Nat.le_of_ble_eq_true rfl)) dX7_gain_171 ⟨Nat.le_of_ble_eq_true rfl, Nat.le_of_ble_eq_true rfl⟩) ct171.1 hP hD hS hA [0] rfl rfl (fun H locs hP hD hS => ?_)
          have hP : va_P D vwCl [(m0, oR (jI ((ms : Nat) : Int)) (jI ((es : Nat) : Int)) (jI 1) a)] H := hP
          have hD : va_D A [(m0, oR (jI ((ms : Nat) : Int)) (jI ((es : Nat) : Int)) (jI 1) a)] := hD
          refine n_ifB_eq (tgt := 179) hx hb dX7_gain_174 (by decide) (fun h174 => Bool.noConfusion h174) (fun h174 => ?_)
          refine n_iconst hx hb dX7_gain_177 ?_
          exact k_iret hx hb hr hlocks dX7_gain_178 hP hS rfl

set_option maxHeartbeats 4000000 in
set_option maxRecDepth 100000 in
/--  -/
theorem c_X7_gain2 (l : Launch) (D : va_G) (tys : List (ClassId × FieldType)) {cI cJ cZ : ClassId} (htI : tys[0]? = some (cI, .int)) (htJ : tys[1]? = some (cJ, .long)) (htZ : tys[2]? = some (cZ, .boolean)) (m0 : Nat) (a : Nat → Nat) (ms es : Nat) (th : Int32) (q1 : ms ≤ 6) (q2 : es ≤ 6) (ev : Nat) (h0 h1 rr wh : Int) (q3 : ev < es) (q5 : r32 h0) (q6 : r32 h1) (q7 : r32 rr) (q8 : r32 wh) (h8 : ((inB 0 10006 h0) && ((inB 0 10006 h1) && ((inB 0 10006 rr) && (inB 0 1 wh)))) = false) : CtI l D tys yX7_gain wsX7_gain 2 43 [.ref m0, .int (jI ((ev : Nat) : Int)), .int (jI h0), .int (jI h1), .int (jI rr), .int (jI wh)] (jI 0) [(m0, oR (jI ((ms : Nat) : Int)) (jI ((es : Nat) : Int)) th a)] [(m0, oR (jI ((ms : Nat) : Int)) (jI ((es : Nat) : Int)) (jI 2) a)] := by
  refine CtI.of (cc := cX7_gain) (maxL := 13) (by decide +kernel) rfl rfl (Nat.le_of_ble_eq_true rfl) ?_
  intro p e s m below meth c A ls hcx hK hP hD hA hl
  obtain ⟨hx, hb, hr, hml, hown, hts, hlocks⟩ := hcx
  have hS : va_S A s.heap s.heap [] := va_S.rf
  have hown : s.vm.findClass RX7 = some m.cls := hown
  have hl : lv_has ls 13 [(0, .ref m0), (1, .int (jI ((ev : Nat) : Int))), (2, .int (jI h0)), (3, .int (jI h1)), (4, .int (jI rr)), (5, .int (jI wh))] := hl
  refine lv_iload_n hx hb dX7_gain_0 rfl (lv_at hl 2 rfl) ?_
  have ct1 := c_X7_isField l D tys h0 (by first | assumption | exact r32_z _ | (unfold r32; omega))
  refine k_goI (va_runS (As := [.int (jI h0)]) (rest := []) ⟨hx, hb, hml, hown, hts⟩ (ct1.2 _) (va_cwS 1 hts gX7_gain_X7_isField rfl rfl rfl (by decide +kernel) ⟨Nat.le_of_ble_eq_true rfl, Nat.le_of_ble_eq_true rfl⟩) (k_pre hK hP hD (is := []) rfl rfl) rfl rfl hl.1 rfl (lv_room (Nat.le_of_ble_eq_true rfl)) dX7_gain_1 ⟨Nat.le_of_ble_eq_true rfl, Nat.le_of_ble_eq_true rfl⟩) ct1.1 hP hD hS hA [] rfl rfl (fun H locs hP hD hS => ?_)
  have hP : va_P D vwCl [(m0, oR (jI ((ms : Nat) : Int)) (jI ((es : Nat) : Int)) th a)] H := hP
  have hD : va_D A [(m0, oR (jI ((ms : Nat) : Int)) (jI ((es : Nat) : Int)) th a)] := hD
  refine n_ifB_eq (tgt := 36) hx hb dX7_gain_4 (by decide) (fun h4 => ?_) (fun h4 => ?_)
  · refine n_iconst hx hb dX7_gain_36 ?_
    refine lv_istore (lv' := [(6, .int (jI 0)), (0, .ref m0), (1, .int (jI ((ev : Nat) : Int))), (2, .int (jI h0)), (3, .int (jI h1)), (4, .int (jI rr)), (5, .int (jI wh))]) hx hb dX7_gain_37 hl (by decide) rfl (fun ls hl => ?_)
    refine lv_lconst (v := jL 0) hx hb dX7_gain_39 rfl ?_
    refine lv_lstore (lv' := [(7, .long (jL 0)), (6, .int (jI 0)), (0, .ref m0), (1, .int (jI ((ev : Nat) : Int))), (2, .int (jI h0)), (3, .int (jI h1)), (4, .int (jI rr)), (5, .int (jI wh))]) hx hb dX7_gain_40 hl (by decide) rfl (fun ls hl => ?_)
    refine lv_lconst (v := jL 0) hx hb dX7_gain_42 rfl ?_
    refine lv_lstore (lv' := [(9, .long (jL 0)), (7, .long (jL 0)), (6, .int (jI 0)), (0, .ref m0), (1, .int (jI ((ev : Nat) : Int))), (2, .int (jI h0)), (3, .int (jI h1)), (4, .int (jI rr)), (5, .int (jI wh))]) hx hb dX7_gain_43 hl (by decide) rfl (fun ls hl => ?_)
    refine lv_lconst (v := jL 0) hx hb dX7_gain_45 rfl ?_
    refine lv_lstore (lv' := [(11, .long (jL 0)), (9, .long (jL 0)), (7, .long (jL 0)), (6, .int (jI 0)), (0, .ref m0), (1, .int (jI ((ev : Nat) : Int))), (2, .int (jI h0)), (3, .int (jI h1)), (4, .int (jI rr)), (5, .int (jI wh))]) hx hb dX7_gain_46 hl (by decide) rfl (fun ls hl => ?_)
    refine lv_aload_n hx hb dX7_gain_48 rfl (lv_at hl 4 rfl) ?_
    refine lv_iload_n hx hb dX7_gain_49 rfl (lv_at hl 5 rfl) ?_
    have ct50 := c_X7_isOne l D tys m0 a ms es th ((ev : Nat) : Int) (by first | assumption | exact r32_z _ | (unfold r32; omega)) (by omega) (by omega)
    refine k_goI (va_runV (As := [.int (jI ((ev : Nat) : Int))]) (rest := []) ⟨hx, hb, hml, hown, hts⟩ (ct50.2 _) (cwV 1 hts gX7_gain_X7_isOne rfl rfl rfl (by decide +kernel) ⟨Nat.le_of_ble_eq_true rfl, Nat.le_of_ble_eq_true rfl⟩) ⟨(k_pre hK hP hD (is := [0]) rfl rfl).1, va_recv hK.1 hP (ci := 7) (q0 := 0) rfl rfl, (k_pre hK hP hD (is := [0]) rfl rfl).2⟩ rfl rfl hl.1 rfl (lv_room (Nat.le_of_ble_eq_true rfl)) dX7_gain_50 ⟨Nat.le_of_ble_eq_true rfl, Nat.le_of_ble_eq_true rfl⟩) ct50.1 hP hD hS hA [0] rfl rfl (fun H locs hP hD hS => ?_)
    have hP : va_P D vwCl [(m0, oR (jI ((ms : Nat) : Int)) (jI ((es : Nat) : Int)) th a)] H := hP
    have hD : va_D A [(m0, oR (jI ((ms : Nat) : Int)) (jI ((es : Nat) : Int)) th a)] := hD
    refine n_ifB_eq (tgt := 137) hx hb dX7_gain_53 (by decide) (fun h53 => Bool.noConfusion ((inB_t (by omega) (by omega)).symm.trans h53)) (fun h53 => ?_)
    refine lv_iload hx hb dX7_gain_56 (lv_at hl 3 rfl) ?_
    refine n_if_eq (tgt := 137) hx hb (by unfold r32; decide) dX7_gain_58 (by decide) (fun h58 => ?_) (fun h58 => False.elim (by revert h58; decide))
    refine lv_aload_n hx hb dX7_gain_137 rfl (lv_at hl 4 rfl) ?_
    refine lv_aload_n hx hb dX7_gain_138 rfl (lv_at hl 4 rfl) ?_
    refine lv_iload_n hx hb dX7_gain_139 rfl (lv_at hl 5 rfl) ?_
    have ct140 := c_X7_isOne l D tys m0 a ms es th ((ev : Nat) : Int) (by first | assumption | exact r32_z _ | (unfold r32; omega)) (by omega) (by omega)
    refine k_goI (va_runV (As := [.int (jI ((ev : Nat) : Int))]) (rest := [.ref m0]) ⟨hx, hb, hml, hown, hts⟩ (ct140.2 _) (cwV 1 hts gX7_gain_X7_isOne rfl rfl rfl (by decide +kernel) ⟨Nat.le_of_ble_eq_true rfl, Nat.le_of_ble_eq_true rfl⟩) ⟨(k_pre hK hP hD (is := [0]) rfl rfl).1, va_recv hK.1 hP (ci := 7) (q0 := 0) rfl rfl, (k_pre hK hP hD (is := [0]) rfl rfl).2⟩ rfl rfl hl.1 rfl (lv_room (Nat.le_of_ble_eq_true rfl)) dX7_gain_140 ⟨Nat.le_of_ble_eq_true rfl, Nat.le_of_ble_eq_true rfl⟩) ct140.1 hP hD hS hA [0] rfl rfl (fun H locs hP hD hS => ?_)
    have hP : va_P D vwCl [(m0, oR (jI ((ms : Nat) : Int)) (jI ((es : Nat) : Int)) th a)] H := hP
    have hD : va_D A [(m0, oR (jI ((ms : Nat) : Int)) (jI ((es : Nat) : Int)) th a)] := hD
    refine n_ifB_ne (tgt := 150) hx hb dX7_gain_143 (by decide) (fun h143 => ?_) (fun h143 => Bool.noConfusion ((inB_t (by omega) (by omega)).symm.trans h143))
    refine lv_iload hx hb dX7_gain_150 (lv_at hl 3 rfl) ?_
    refine n_if_ne (tgt := 159) hx hb (by unfold r32; decide) dX7_gain_152 (by decide) (fun h152 => False.elim (by revert h152; decide)) (fun h152 => ?_)
    refine n_iconst hx hb dX7_gain_155 ?_
    refine lv_goto (tgt := 171) hx hb dX7_gain_156 (by decide) ?_
    have ct171 := c_X7_failsT l D tys m0 a ms es th 2 (by unfold r32; decide) (by decide)
    refine k_goI (va_runV (As := [.int (jI 2)]) (rest := []) ⟨hx, hb, hml, hown, hts⟩ (ct171.2 _) (cwV 1 hts gX7_gain_X7_fails rfl rfl rfl (by decide +kernel) ⟨Nat.le_of_ble_eq_true rfl, Nat.le_of_ble_eq_true rfl⟩) ⟨(k_pre hK hP hD (is := [0]) rfl rfl).1, va_recv hK.1 hP (ci := 7) (q0 := 0) rfl rfl, (k_pre hK hP hD (is := [0]) rfl rfl).2⟩ rfl rfl hl.1 rfl (lv_room (Nat.le_of_ble_eq_true rfl)) dX7_gain_171 ⟨Nat.le_of_ble_eq_true rfl, Nat.le_of_ble_eq_true rfl⟩) ct171.1 hP hD hS hA [0] rfl rfl (fun H locs hP hD hS => ?_)
    have hP : va_P D vwCl [(m0, oR (jI ((ms : Nat) : Int)) (jI ((es : Nat) : Int)) (jI 2) a)] H := hP
    have hD : va_D A [(m0, oR (jI ((ms : Nat) : Int)) (jI ((es : Nat) : Int)) (jI 2) a)] := hD
    refine n_ifB_eq (tgt := 179) hx hb dX7_gain_174 (by decide) (fun h174 => Bool.noConfusion h174) (fun h174 => ?_)
    refine n_iconst hx hb dX7_gain_177 ?_
    exact k_iret hx hb hr hlocks dX7_gain_178 hP hS rfl
  · refine lv_iload_n hx hb dX7_gain_7 rfl (lv_at hl 3 rfl) ?_
    have ct8 := c_X7_isField l D tys h1 (by first | assumption | exact r32_z _ | (unfold r32; omega))
    refine k_goI (va_runS (As := [.int (jI h1)]) (rest := []) ⟨hx, hb, hml, hown, hts⟩ (ct8.2 _) (va_cwS 1 hts gX7_gain_X7_isField rfl rfl rfl (by decide +kernel) ⟨Nat.le_of_ble_eq_true rfl, Nat.le_of_ble_eq_true rfl⟩) (k_pre hK hP hD (is := []) rfl rfl) rfl rfl hl.1 rfl (lv_room (Nat.le_of_ble_eq_true rfl)) dX7_gain_8 ⟨Nat.le_of_ble_eq_true rfl, Nat.le_of_ble_eq_true rfl⟩) ct8.1 hP hD hS hA [] rfl rfl (fun H locs hP hD hS => ?_)
    have hP : va_P D vwCl [(m0, oR (jI ((ms : Nat) : Int)) (jI ((es : Nat) : Int)) th a)] H := hP
    have hD : va_D A [(m0, oR (jI ((ms : Nat) : Int)) (jI ((es : Nat) : Int)) th a)] := hD
    refine n_ifB_eq (tgt := 36) hx hb dX7_gain_11 (by decide) (fun h11 => ?_) (fun h11 => ?_)
    · refine n_iconst hx hb dX7_gain_36 ?_
      refine lv_istore (lv' := [(6, .int (jI 0)), (0, .ref m0), (1, .int (jI ((ev : Nat) : Int))), (2, .int (jI h0)), (3, .int (jI h1)), (4, .int (jI rr)), (5, .int (jI wh))]) hx hb dX7_gain_37 hl (by decide) rfl (fun ls hl => ?_)
      refine lv_lconst (v := jL 0) hx hb dX7_gain_39 rfl ?_
      refine lv_lstore (lv' := [(7, .long (jL 0)), (6, .int (jI 0)), (0, .ref m0), (1, .int (jI ((ev : Nat) : Int))), (2, .int (jI h0)), (3, .int (jI h1)), (4, .int (jI rr)), (5, .int (jI wh))]) hx hb dX7_gain_40 hl (by decide) rfl (fun ls hl => ?_)
      refine lv_lconst (v := jL 0) hx hb dX7_gain_42 rfl ?_
      refine lv_lstore (lv' := [(9, .long (jL 0)), (7, .long (jL 0)), (6, .int (jI 0)), (0, .ref m0), (1, .int (jI ((ev : Nat) : Int))), (2, .int (jI h0)), (3, .int (jI h1)), (4, .int (jI rr)), (5, .int (jI wh))]) hx hb dX7_gain_43 hl (by decide) rfl (fun ls hl => ?_)
      refine lv_lconst (v := jL 0) hx hb dX7_gain_45 rfl ?_
      refine lv_lstore (lv' := [(11, .long (jL 0)), (9, .long (jL 0)), (7, .long (jL 0)), (6, .int (jI 0)), (0, .ref m0), (1, .int (jI ((ev : Nat) : Int))), (2, .int (jI h0)), (3, .int (jI h1)), (4, .int (jI rr)), (5, .int (jI wh))]) hx hb dX7_gain_46 hl (by decide) rfl (fun ls hl => ?_)
      refine lv_aload_n hx hb dX7_gain_48 rfl (lv_at hl 4 rfl) ?_
      refine lv_iload_n hx hb dX7_gain_49 rfl (lv_at hl 5 rfl) ?_
      have ct50 := c_X7_isOne l D tys m0 a ms es th ((ev : Nat) : Int) (by first | assumption | exact r32_z _ | (unfold r32; omega)) (by omega) (by omega)
      refine k_goI (va_runV (As := [.int (jI ((ev : Nat) : Int))]) (rest := []) ⟨hx, hb, hml, hown, hts⟩ (ct50.2 _) (cwV 1 hts gX7_gain_X7_isOne rfl rfl rfl (by decide +kernel) ⟨Nat.le_of_ble_eq_true rfl, Nat.le_of_ble_eq_true rfl⟩) ⟨(k_pre hK hP hD (is := [0]) rfl rfl).1, va_recv hK.1 hP (ci := 7) (q0 := 0) rfl rfl, (k_pre hK hP hD (is := [0]) rfl rfl).2⟩ rfl rfl hl.1 rfl (lv_room (Nat.le_of_ble_eq_true rfl)) dX7_gain_50 ⟨Nat.le_of_ble_eq_true rfl, Nat.le_of_ble_eq_true rfl⟩) ct50.1 hP hD hS hA [0] rfl rfl (fun H locs hP hD hS => ?_)
      have hP : va_P D vwCl [(m0, oR (jI ((ms : Nat) : Int)) (jI ((es : Nat) : Int)) th a)] H := hP
      have hD : va_D A [(m0, oR (jI ((ms : Nat) : Int)) (jI ((es : Nat) : Int)) th a)] := hD
      refine n_ifB_eq (tgt := 137) hx hb dX7_gain_53 (by decide) (fun h53 => Bool.noConfusion ((inB_t (by omega) (by omega)).symm.trans h53)) (fun h53 => ?_)
      refine lv_iload hx hb dX7_gain_56 (lv_at hl 3 rfl) ?_
      refine n_if_eq (tgt := 137) hx hb (by unfold r32; decide) dX7_gain_58 (by decide) (fun h58 => ?_) (fun h58 => False.elim (by revert h58; decide))
      refine lv_aload_n hx hb dX7_gain_137 rfl (lv_at hl 4 rfl) ?_
      refine lv_aload_n hx hb dX7_gain_138 rfl (lv_at hl 4 rfl) ?_
      refine lv_iload_n hx hb dX7_gain_139 rfl (lv_at hl 5 rfl) ?_
      have ct140 := c_X7_isOne l D tys m0 a ms es th ((ev : Nat) : Int) (by first | assumption | exact r32_z _ | (unfold r32; omega)) (by omega) (by omega)
      refine k_goI (va_runV (As := [.int (jI ((ev : Nat) : Int))]) (rest := [.ref m0]) ⟨hx, hb, hml, hown, hts⟩ (ct140.2 _) (cwV 1 hts gX7_gain_X7_isOne rfl rfl rfl (by decide +kernel) ⟨Nat.le_of_ble_eq_true rfl, Nat.le_of_ble_eq_true rfl⟩) ⟨(k_pre hK hP hD (is := [0]) rfl rfl).1, va_recv hK.1 hP (ci := 7) (q0 := 0) rfl rfl, (k_pre hK hP hD (is := [0]) rfl rfl).2⟩ rfl rfl hl.1 rfl (lv_room (Nat.le_of_ble_eq_true rfl)) dX7_gain_140 ⟨Nat.le_of_ble_eq_true rfl, Nat.le_of_ble_eq_true rfl⟩) ct140.1 hP hD hS hA [0] rfl rfl (fun H locs hP hD hS => ?_)
      have hP : va_P D vwCl [(m0, oR (jI ((ms : Nat) : Int)) (jI ((es : Nat) : Int)) th a)] H := hP
      have hD : va_D A [(m0, oR (jI ((ms : Nat) : Int)) (jI ((es : Nat) : Int)) th a)] := hD
      refine n_ifB_ne (tgt := 150) hx hb dX7_gain_143 (by decide) (fun h143 => ?_) (fun h143 => Bool.noConfusion ((inB_t (by omega) (by omega)).symm.trans h143))
      refine lv_iload hx hb dX7_gain_150 (lv_at hl 3 rfl) ?_
      refine n_if_ne (tgt := 159) hx hb (by unfold r32; decide) dX7_gain_152 (by decide) (fun h152 => False.elim (by revert h152; decide)) (fun h152 => ?_)
      refine n_iconst hx hb dX7_gain_155 ?_
      refine lv_goto (tgt := 171) hx hb dX7_gain_156 (by decide) ?_
      have ct171 := c_X7_failsT l D tys m0 a ms es th 2 (by unfold r32; decide) (by decide)
      refine k_goI (va_runV (As := [.int (jI 2)]) (rest := []) ⟨hx, hb, hml, hown, hts⟩ (ct171.2 _) (cwV 1 hts gX7_gain_X7_fails rfl rfl rfl (by decide +kernel) ⟨Nat.le_of_ble_eq_true rfl, Nat.le_of_ble_eq_true rfl⟩) ⟨(k_pre hK hP hD (is := [0]) rfl rfl).1, va_recv hK.1 hP (ci := 7) (q0 := 0) rfl rfl, (k_pre hK hP hD (is := [0]) rfl rfl).2⟩ rfl rfl hl.1 rfl (lv_room (Nat.le_of_ble_eq_true rfl)) dX7_gain_171 ⟨Nat.le_of_ble_eq_true rfl, Nat.le_of_ble_eq_true rfl⟩) ct171.1 hP hD hS hA [0] rfl rfl (fun H locs hP hD hS => ?_)
      have hP : va_P D vwCl [(m0, oR (jI ((ms : Nat) : Int)) (jI ((es : Nat) : Int)) (jI 2) a)] H := hP
      have hD : va_D A [(m0, oR (jI ((ms : Nat) : Int)) (jI ((es : Nat) : Int)) (jI 2) a)] := hD
      refine n_ifB_eq (tgt := 179) hx hb dX7_gain_174 (by decide) (fun h174 => Bool.noConfusion h174) (fun h174 => ?_)
      refine n_iconst hx hb dX7_gain_177 ?_
      exact k_iret hx hb hr hlocks dX7_gain_178 hP hS rfl
    · refine lv_iload hx hb dX7_gain_14 (lv_at hl 4 rfl) ?_
      have ct16 := c_X7_isField l D tys rr (by first | assumption | exact r32_z _ | (unfold r32; omega))
      refine k_goI (va_runS (As := [.int (jI rr)]) (rest := []) ⟨hx, hb, hml, hown, hts⟩ (ct16.2 _) (va_cwS 1 hts gX7_gain_X7_isField rfl rfl rfl (by decide +kernel) ⟨Nat.le_of_ble_eq_true rfl, Nat.le_of_ble_eq_true rfl⟩) (k_pre hK hP hD (is := []) rfl rfl) rfl rfl hl.1 rfl (lv_room (Nat.le_of_ble_eq_true rfl)) dX7_gain_16 ⟨Nat.le_of_ble_eq_true rfl, Nat.le_of_ble_eq_true rfl⟩) ct16.1 hP hD hS hA [] rfl rfl (fun H locs hP hD hS => ?_)
      have hP : va_P D vwCl [(m0, oR (jI ((ms : Nat) : Int)) (jI ((es : Nat) : Int)) th a)] H := hP
      have hD : va_D A [(m0, oR (jI ((ms : Nat) : Int)) (jI ((es : Nat) : Int)) th a)] := hD
      refine n_ifB_eq (tgt := 36) hx hb dX7_gain_19 (by decide) (fun h19 => ?_) (fun h19 => ?_)
      · refine n_iconst hx hb dX7_gain_36 ?_
        refine lv_istore (lv' := [(6, .int (jI 0)), (0, .ref m0), (1, .int (jI ((ev : Nat) : Int))), (2, .int (jI h0)), (3, .int (jI h1)), (4, .int (jI rr)), (5, .int (jI wh))]) hx hb dX7_gain_37 hl (by decide) rfl (fun ls hl => ?_)
        refine lv_lconst (v := jL 0) hx hb dX7_gain_39 rfl ?_
        refine lv_lstore (lv' := [(7, .long (jL 0)), (6, .int (jI 0)), (0, .ref m0), (1, .int (jI ((ev : Nat) : Int))), (2, .int (jI h0)), (3, .int (jI h1)), (4, .int (jI rr)), (5, .int (jI wh))]) hx hb dX7_gain_40 hl (by decide) rfl (fun ls hl => ?_)
        refine lv_lconst (v := jL 0) hx hb dX7_gain_42 rfl ?_
        refine lv_lstore (lv' := [(9, .long (jL 0)), (7, .long (jL 0)), (6, .int (jI 0)), (0, .ref m0), (1, .int (jI ((ev : Nat) : Int))), (2, .int (jI h0)), (3, .int (jI h1)), (4, .int (jI rr)), (5, .int (jI wh))]) hx hb dX7_gain_43 hl (by decide) rfl (fun ls hl => ?_)
        refine lv_lconst (v := jL 0) hx hb dX7_gain_45 rfl ?_
        refine lv_lstore (lv' := [(11, .long (jL 0)), (9, .long (jL 0)), (7, .long (jL 0)), (6, .int (jI 0)), (0, .ref m0), (1, .int (jI ((ev : Nat) : Int))), (2, .int (jI h0)), (3, .int (jI h1)), (4, .int (jI rr)), (5, .int (jI wh))]) hx hb dX7_gain_46 hl (by decide) rfl (fun ls hl => ?_)
        refine lv_aload_n hx hb dX7_gain_48 rfl (lv_at hl 4 rfl) ?_
        refine lv_iload_n hx hb dX7_gain_49 rfl (lv_at hl 5 rfl) ?_
        have ct50 := c_X7_isOne l D tys m0 a ms es th ((ev : Nat) : Int) (by first | assumption | exact r32_z _ | (unfold r32; omega)) (by omega) (by omega)
        refine k_goI (va_runV (As := [.int (jI ((ev : Nat) : Int))]) (rest := []) ⟨hx, hb, hml, hown, hts⟩ (ct50.2 _) (cwV 1 hts gX7_gain_X7_isOne rfl rfl rfl (by decide +kernel) ⟨Nat.le_of_ble_eq_true rfl, Nat.le_of_ble_eq_true rfl⟩) ⟨(k_pre hK hP hD (is := [0]) rfl rfl).1, va_recv hK.1 hP (ci := 7) (q0 := 0) rfl rfl, (k_pre hK hP hD (is := [0]) rfl rfl).2⟩ rfl rfl hl.1 rfl (lv_room (Nat.le_of_ble_eq_true rfl)) dX7_gain_50 ⟨Nat.le_of_ble_eq_true rfl, Nat.le_of_ble_eq_true rfl⟩) ct50.1 hP hD hS hA [0] rfl rfl (fun H locs hP hD hS => ?_)
        have hP : va_P D vwCl [(m0, oR (jI ((ms : Nat) : Int)) (jI ((es : Nat) : Int)) th a)] H := hP
        have hD : va_D A [(m0, oR (jI ((ms : Nat) : Int)) (jI ((es : Nat) : Int)) th a)] := hD
        refine n_ifB_eq (tgt := 137) hx hb dX7_gain_53 (by decide) (fun h53 => Bool.noConfusion ((inB_t (by omega) (by omega)).symm.trans h53)) (fun h53 => ?_)
        refine lv_iload hx hb dX7_gain_56 (lv_at hl 3 rfl) ?_
        refine n_if_eq (tgt := 137) hx hb (by unfold r32; decide) dX7_gain_58 (by decide) (fun h58 => ?_) (fun h58 => False.elim (by revert h58; decide))
        refine lv_aload_n hx hb dX7_gain_137 rfl (lv_at hl 4 rfl) ?_
        refine lv_aload_n hx hb dX7_gain_138 rfl (lv_at hl 4 rfl) ?_
        refine lv_iload_n hx hb dX7_gain_139 rfl (lv_at hl 5 rfl) ?_
        have ct140 := c_X7_isOne l D tys m0 a ms es th ((ev : Nat) : Int) (by first | assumption | exact r32_z _ | (unfold r32; omega)) (by omega) (by omega)
        refine k_goI (va_runV (As := [.int (jI ((ev : Nat) : Int))]) (rest := [.ref m0]) ⟨hx, hb, hml, hown, hts⟩ (ct140.2 _) (cwV 1 hts gX7_gain_X7_isOne rfl rfl rfl (by decide +kernel) ⟨Nat.le_of_ble_eq_true rfl, Nat.le_of_ble_eq_true rfl⟩) ⟨(k_pre hK hP hD (is := [0]) rfl rfl).1, va_recv hK.1 hP (ci := 7) (q0 := 0) rfl rfl, (k_pre hK hP hD (is := [0]) rfl rfl).2⟩ rfl rfl hl.1 rfl (lv_room (Nat.le_of_ble_eq_true rfl)) dX7_gain_140 ⟨Nat.le_of_ble_eq_true rfl, Nat.le_of_ble_eq_true rfl⟩) ct140.1 hP hD hS hA [0] rfl rfl (fun H locs hP hD hS => ?_)
        have hP : va_P D vwCl [(m0, oR (jI ((ms : Nat) : Int)) (jI ((es : Nat) : Int)) th a)] H := hP
        have hD : va_D A [(m0, oR (jI ((ms : Nat) : Int)) (jI ((es : Nat) : Int)) th a)] := hD
        refine n_ifB_ne (tgt := 150) hx hb dX7_gain_143 (by decide) (fun h143 => ?_) (fun h143 => Bool.noConfusion ((inB_t (by omega) (by omega)).symm.trans h143))
        refine lv_iload hx hb dX7_gain_150 (lv_at hl 3 rfl) ?_
        refine n_if_ne (tgt := 159) hx hb (by unfold r32; decide) dX7_gain_152 (by decide) (fun h152 => False.elim (by revert h152; decide)) (fun h152 => ?_)
        refine n_iconst hx hb dX7_gain_155 ?_
        refine lv_goto (tgt := 171) hx hb dX7_gain_156 (by decide) ?_
        have ct171 := c_X7_failsT l D tys m0 a ms es th 2 (by unfold r32; decide) (by decide)
        refine k_goI (va_runV (As := [.int (jI 2)]) (rest := []) ⟨hx, hb, hml, hown, hts⟩ (ct171.2 _) (cwV 1 hts gX7_gain_X7_fails rfl rfl rfl (by decide +kernel) ⟨Nat.le_of_ble_eq_true rfl, Nat.le_of_ble_eq_true rfl⟩) ⟨(k_pre hK hP hD (is := [0]) rfl rfl).1, va_recv hK.1 hP (ci := 7) (q0 := 0) rfl rfl, (k_pre hK hP hD (is := [0]) rfl rfl).2⟩ rfl rfl hl.1 rfl (lv_room (Nat.le_of_ble_eq_true rfl)) dX7_gain_171 ⟨Nat.le_of_ble_eq_true rfl, Nat.le_of_ble_eq_true rfl⟩) ct171.1 hP hD hS hA [0] rfl rfl (fun H locs hP hD hS => ?_)
        have hP : va_P D vwCl [(m0, oR (jI ((ms : Nat) : Int)) (jI ((es : Nat) : Int)) (jI 2) a)] H := hP
        have hD : va_D A [(m0, oR (jI ((ms : Nat) : Int)) (jI ((es : Nat) : Int)) (jI 2) a)] := hD
        refine n_ifB_eq (tgt := 179) hx hb dX7_gain_174 (by decide) (fun h174 => Bool.noConfusion h174) (fun h174 => ?_)
        refine n_iconst hx hb dX7_gain_177 ?_
        exact k_iret hx hb hr hlocks dX7_gain_178 hP hS rfl
      · refine lv_iload hx hb dX7_gain_22 (lv_at hl 5 rfl) ?_
        refine n_iconst hx hb dX7_gain_24 ?_
        refine n_iconst hx hb dX7_gain_25 ?_
        have ct26 := c_X7_isIn l D tys wh 0 1 (by first | assumption | exact r32_z _ | (unfold r32; omega)) (by first | assumption | exact r32_z _ | (unfold r32; omega)) (by first | assumption | exact r32_z _ | (unfold r32; omega))
        refine k_goI (va_runS (As := [.int (jI wh), .int (jI 0), .int (jI 1)]) (rest := []) ⟨hx, hb, hml, hown, hts⟩ (ct26.2 _) (va_cwS 3 hts gX7_gain_X7_isIn rfl rfl rfl (by decide +kernel) ⟨Nat.le_of_ble_eq_true rfl, Nat.le_of_ble_eq_true rfl⟩) (k_pre hK hP hD (is := []) rfl rfl) rfl rfl hl.1 rfl (lv_room (Nat.le_of_ble_eq_true rfl)) dX7_gain_26 ⟨Nat.le_of_ble_eq_true rfl, Nat.le_of_ble_eq_true rfl⟩) ct26.1 hP hD hS hA [] rfl rfl (fun H locs hP hD hS => ?_)
        have hP : va_P D vwCl [(m0, oR (jI ((ms : Nat) : Int)) (jI ((es : Nat) : Int)) th a)] H := hP
        have hD : va_D A [(m0, oR (jI ((ms : Nat) : Int)) (jI ((es : Nat) : Int)) th a)] := hD
        refine n_ifB_eq (tgt := 36) hx hb dX7_gain_29 (by decide) (fun h29 => ?_) (fun h29 => ?_)
        · refine n_iconst hx hb dX7_gain_36 ?_
          refine lv_istore (lv' := [(6, .int (jI 0)), (0, .ref m0), (1, .int (jI ((ev : Nat) : Int))), (2, .int (jI h0)), (3, .int (jI h1)), (4, .int (jI rr)), (5, .int (jI wh))]) hx hb dX7_gain_37 hl (by decide) rfl (fun ls hl => ?_)
          refine lv_lconst (v := jL 0) hx hb dX7_gain_39 rfl ?_
          refine lv_lstore (lv' := [(7, .long (jL 0)), (6, .int (jI 0)), (0, .ref m0), (1, .int (jI ((ev : Nat) : Int))), (2, .int (jI h0)), (3, .int (jI h1)), (4, .int (jI rr)), (5, .int (jI wh))]) hx hb dX7_gain_40 hl (by decide) rfl (fun ls hl => ?_)
          refine lv_lconst (v := jL 0) hx hb dX7_gain_42 rfl ?_
          refine lv_lstore (lv' := [(9, .long (jL 0)), (7, .long (jL 0)), (6, .int (jI 0)), (0, .ref m0), (1, .int (jI ((ev : Nat) : Int))), (2, .int (jI h0)), (3, .int (jI h1)), (4, .int (jI rr)), (5, .int (jI wh))]) hx hb dX7_gain_43 hl (by decide) rfl (fun ls hl => ?_)
          refine lv_lconst (v := jL 0) hx hb dX7_gain_45 rfl ?_
          refine lv_lstore (lv' := [(11, .long (jL 0)), (9, .long (jL 0)), (7, .long (jL 0)), (6, .int (jI 0)), (0, .ref m0), (1, .int (jI ((ev : Nat) : Int))), (2, .int (jI h0)), (3, .int (jI h1)), (4, .int (jI rr)), (5, .int (jI wh))]) hx hb dX7_gain_46 hl (by decide) rfl (fun ls hl => ?_)
          refine lv_aload_n hx hb dX7_gain_48 rfl (lv_at hl 4 rfl) ?_
          refine lv_iload_n hx hb dX7_gain_49 rfl (lv_at hl 5 rfl) ?_
          have ct50 := c_X7_isOne l D tys m0 a ms es th ((ev : Nat) : Int) (by first | assumption | exact r32_z _ | (unfold r32; omega)) (by omega) (by omega)
          refine k_goI (va_runV (As := [.int (jI ((ev : Nat) : Int))]) (rest := []) ⟨hx, hb, hml, hown, hts⟩ (ct50.2 _) (cwV 1 hts gX7_gain_X7_isOne rfl rfl rfl (by decide +kernel) ⟨Nat.le_of_ble_eq_true rfl, Nat.le_of_ble_eq_true rfl⟩) ⟨(k_pre hK hP hD (is := [0]) rfl rfl).1, va_recv hK.1 hP (ci := 7) (q0 := 0) rfl rfl, (k_pre hK hP hD (is := [0]) rfl rfl).2⟩ rfl rfl hl.1 rfl (lv_room (Nat.le_of_ble_eq_true rfl)) dX7_gain_50 ⟨Nat.le_of_ble_eq_true rfl, Nat.le_of_ble_eq_true rfl⟩) ct50.1 hP hD hS hA [0] rfl rfl (fun H locs hP hD hS => ?_)
          have hP : va_P D vwCl [(m0, oR (jI ((ms : Nat) : Int)) (jI ((es : Nat) : Int)) th a)] H := hP
          have hD : va_D A [(m0, oR (jI ((ms : Nat) : Int)) (jI ((es : Nat) : Int)) th a)] := hD
          refine n_ifB_eq (tgt := 137) hx hb dX7_gain_53 (by decide) (fun h53 => Bool.noConfusion ((inB_t (by omega) (by omega)).symm.trans h53)) (fun h53 => ?_)
          refine lv_iload hx hb dX7_gain_56 (lv_at hl 3 rfl) ?_
          refine n_if_eq (tgt := 137) hx hb (by unfold r32; decide) dX7_gain_58 (by decide) (fun h58 => ?_) (fun h58 => False.elim (by revert h58; decide))
          refine lv_aload_n hx hb dX7_gain_137 rfl (lv_at hl 4 rfl) ?_
          refine lv_aload_n hx hb dX7_gain_138 rfl (lv_at hl 4 rfl) ?_
          refine lv_iload_n hx hb dX7_gain_139 rfl (lv_at hl 5 rfl) ?_
          have ct140 := c_X7_isOne l D tys m0 a ms es th ((ev : Nat) : Int) (by first | assumption | exact r32_z _ | (unfold r32; omega)) (by omega) (by omega)
          refine k_goI (va_runV (As := [.int (jI ((ev : Nat) : Int))]) (rest := [.ref m0]) ⟨hx, hb, hml, hown, hts⟩ (ct140.2 _) (cwV 1 hts gX7_gain_X7_isOne rfl rfl rfl (by decide +kernel) ⟨Nat.le_of_ble_eq_true rfl, Nat.le_of_ble_eq_true rfl⟩) ⟨(k_pre hK hP hD (is := [0]) rfl rfl).1, va_recv hK.1 hP (ci := 7) (q0 := 0) rfl rfl, (k_pre hK hP hD (is := [0]) rfl rfl).2⟩ rfl rfl hl.1 rfl (lv_room (Nat.le_of_ble_eq_true rfl)) dX7_gain_140 ⟨Nat.le_of_ble_eq_true rfl, Nat.le_of_ble_eq_true rfl⟩) ct140.1 hP hD hS hA [0] rfl rfl (fun H locs hP hD hS => ?_)
          have hP : va_P D vwCl [(m0, oR (jI ((ms : Nat) : Int)) (jI ((es : Nat) : Int)) th a)] H := hP
          have hD : va_D A [(m0, oR (jI ((ms : Nat) : Int)) (jI ((es : Nat) : Int)) th a)] := hD
          refine n_ifB_ne (tgt := 150) hx hb dX7_gain_143 (by decide) (fun h143 => ?_) (fun h143 => Bool.noConfusion ((inB_t (by omega) (by omega)).symm.trans h143))
          refine lv_iload hx hb dX7_gain_150 (lv_at hl 3 rfl) ?_
          refine n_if_ne (tgt := 159) hx hb (by unfold r32; decide) dX7_gain_152 (by decide) (fun h152 => False.elim (by revert h152; decide)) (fun h152 => ?_)
          refine n_iconst hx hb dX7_gain_155 ?_
          refine lv_goto (tgt := 171) hx hb dX7_gain_156 (by decide) ?_
          have ct171 := c_X7_failsT l D tys m0 a ms es th 2 (by unfold r32; decide) (by decide)
          refine k_goI (va_runV (As := [.int (jI 2)]) (rest := []) ⟨hx, hb, hml, hown, hts⟩ (ct171.2 _) (cwV 1 hts gX7_gain_X7_fails rfl rfl rfl (by decide +kernel) ⟨Nat.le_of_ble_eq_true rfl, Nat.le_of_ble_eq_true rfl⟩) ⟨(k_pre hK hP hD (is := [0]) rfl rfl).1, va_recv hK.1 hP (ci := 7) (q0 := 0) rfl rfl, (k_pre hK hP hD (is := [0]) rfl rfl).2⟩ rfl rfl hl.1 rfl (lv_room (Nat.le_of_ble_eq_true rfl)) dX7_gain_171 ⟨Nat.le_of_ble_eq_true rfl, Nat.le_of_ble_eq_true rfl⟩) ct171.1 hP hD hS hA [0] rfl rfl (fun H locs hP hD hS => ?_)
          have hP : va_P D vwCl [(m0, oR (jI ((ms : Nat) : Int)) (jI ((es : Nat) : Int)) (jI 2) a)] H := hP
          have hD : va_D A [(m0, oR (jI ((ms : Nat) : Int)) (jI ((es : Nat) : Int)) (jI 2) a)] := hD
          refine n_ifB_eq (tgt := 179) hx hb dX7_gain_174 (by decide) (fun h174 => Bool.noConfusion h174) (fun h174 => ?_)
          refine n_iconst hx hb dX7_gain_177 ?_
          exact k_iret hx hb hr hlocks dX7_gain_178 hP hS rfl
        · exact absurd h8 (by rw [h4, h11, h19, h29]; decide)
