/-! the reference: ahead, aheadAnew -/
set_option maxHeartbeats 4000000 in
set_option maxRecDepth 100000 in
/--  -/
theorem c_X7_ahead1 (l : Launch) (D : va_G) (tys : List (ClassId × FieldType)) {cI cJ cZ : ClassId} (htI : tys[0]? = some (cI, .int)) (htJ : tys[1]? = some (cJ, .long)) (htZ : tys[2]? = some (cZ, .boolean)) (m0 : Nat) (a : Nat → Nat) (ms es : Nat) (th : Int32) (q1 : ms ≤ 6) (q2 : es ≤ 6) (ev tt wh : Int) (q3 : r32 ev) (q4 : r32 tt) (q5 : r32 wh) (h9 : (inB 0 (((es : Nat) : Int) - 1) ev) = false) : CtI l D tys yX7_ahead wsX7_ahead 2 43 [.ref m0, .int (jI ev), .int (jI tt), .int (jI wh)] (jI 0) [(m0, oR (jI ((ms : Nat) : Int)) (jI ((es : Nat) : Int)) th a)] [(m0, oR (jI ((ms : Nat) : Int)) (jI ((es : Nat) : Int)) (jI 1) a)] := by
  refine CtI.of (cc := cX7_ahead) (maxL := 5) (by decide +kernel) rfl rfl (Nat.le_of_ble_eq_true rfl) ?_
  intro p e s m below meth c A ls hcx hK hP hD hA hl
  obtain ⟨hx, hb, hr, hml, hown, hts, hlocks⟩ := hcx
  have hS : va_S A s.heap s.heap [] := va_S.rf
  have hown : s.vm.findClass RX7 = some m.cls := hown
  have hl : lv_has ls 5 [(0, .ref m0), (1, .int (jI ev)), (2, .int (jI tt)), (3, .int (jI wh))] := hl
  refine lv_iload_n hx hb dX7_ahead_0 rfl (lv_at hl 2 rfl) ?_
  refine n_iconst hx hb dX7_ahead_1 ?_
  refine lv_ldc (v := jI 1000000000) hx hb hown (hts (.constant RX7 137 (jI 1000000000)) (by decide +kernel)) dX7_ahead_2 ?_
  have ct4 := c_X7_isIn l D tys tt 0 1000000000 (by first | assumption | exact r32_z _ | (unfold r32; omega)) (by first | assumption | exact r32_z _ | (unfold r32; omega)) (by first | assumption | exact r32_z _ | (unfold r32; omega))
  refine k_goI (va_runS (As := [.int (jI tt), .int (jI 0), .int (jI 1000000000)]) (rest := []) ⟨hx, hb, hml, hown, hts⟩ (ct4.2 _) (va_cwS 3 hts gX7_ahead_X7_isIn rfl rfl rfl (by decide +kernel) ⟨Nat.le_of_ble_eq_true rfl, Nat.le_of_ble_eq_true rfl⟩) (k_pre hK hP hD (is := []) rfl rfl) rfl rfl hl.1 rfl (lv_room (Nat.le_of_ble_eq_true rfl)) dX7_ahead_4 ⟨Nat.le_of_ble_eq_true rfl, Nat.le_of_ble_eq_true rfl⟩) ct4.1 hP hD hS hA [] rfl rfl (fun H locs hP hD hS => ?_)
  have hP : va_P D vwCl [(m0, oR (jI ((ms : Nat) : Int)) (jI ((es : Nat) : Int)) th a)] H := hP
  have hD : va_D A [(m0, oR (jI ((ms : Nat) : Int)) (jI ((es : Nat) : Int)) th a)] := hD
  refine n_ifB_eq (tgt := 23) hx hb dX7_ahead_7 (by decide) (fun h7 => ?_) (fun h7 => ?_)
  · refine n_iconst hx hb dX7_ahead_23 ?_
    refine lv_istore (lv' := [(4, .int (jI 0)), (0, .ref m0), (1, .int (jI ev)), (2, .int (jI tt)), (3, .int (jI wh))]) hx hb dX7_ahead_24 hl (by decide) rfl (fun ls hl => ?_)
    refine lv_aload_n hx hb dX7_ahead_26 rfl (lv_at hl 1 rfl) ?_
    refine lv_aload_n hx hb dX7_ahead_27 rfl (lv_at hl 1 rfl) ?_
    refine lv_iload_n hx hb dX7_ahead_28 rfl (lv_at hl 2 rfl) ?_
    have ct29 := c_X7_isOne l D tys m0 a ms es th ev (by first | assumption | exact r32_z _ | (unfold r32; omega)) (by omega) (by omega)
    refine k_goI (va_runV (As := [.int (jI ev)]) (rest := [.ref m0]) ⟨hx, hb, hml, hown, hts⟩ (ct29.2 _) (cwV 1 hts gX7_ahead_X7_isOne rfl rfl rfl (by decide +kernel) ⟨Nat.le_of_ble_eq_true rfl, Nat.le_of_ble_eq_true rfl⟩) ⟨(k_pre hK hP hD (is := [0]) rfl rfl).1, va_recv hK.1 hP (ci := 7) (q0 := 0) rfl rfl, (k_pre hK hP hD (is := [0]) rfl rfl).2⟩ rfl rfl hl.1 rfl (lv_room (Nat.le_of_ble_eq_true rfl)) dX7_ahead_29 ⟨Nat.le_of_ble_eq_true rfl, Nat.le_of_ble_eq_true rfl⟩) ct29.1 hP hD hS hA [0] rfl rfl (fun H locs hP hD hS => ?_)
    have hP : va_P D vwCl [(m0, oR (jI ((ms : Nat) : Int)) (jI ((es : Nat) : Int)) th a)] H := hP
    have hD : va_D A [(m0, oR (jI ((ms : Nat) : Int)) (jI ((es : Nat) : Int)) th a)] := hD
    refine n_ifB_ne (tgt := 39) hx hb dX7_ahead_32 (by decide) (fun h32 => Bool.noConfusion (h9.symm.trans h32)) (fun h32 => ?_)
    refine n_iconst hx hb dX7_ahead_35 ?_
    refine lv_goto (tgt := 49) hx hb dX7_ahead_36 (by decide) ?_
    have ct49 := c_X7_failsT l D tys m0 a ms es th 1 (by unfold r32; decide) (by decide)
    refine k_goI (va_runV (As := [.int (jI 1)]) (rest := []) ⟨hx, hb, hml, hown, hts⟩ (ct49.2 _) (cwV 1 hts gX7_ahead_X7_fails rfl rfl rfl (by decide +kernel) ⟨Nat.le_of_ble_eq_true rfl, Nat.le_of_ble_eq_true rfl⟩) ⟨(k_pre hK hP hD (is := [0]) rfl rfl).1, va_recv hK.1 hP (ci := 7) (q0 := 0) rfl rfl, (k_pre hK hP hD (is := [0]) rfl rfl).2⟩ rfl rfl hl.1 rfl (lv_room (Nat.le_of_ble_eq_true rfl)) dX7_ahead_49 ⟨Nat.le_of_ble_eq_true rfl, Nat.le_of_ble_eq_true rfl⟩) ct49.1 hP hD hS hA [0] rfl rfl (fun H locs hP hD hS => ?_)
    have hP : va_P D vwCl [(m0, oR (jI ((ms : Nat) : Int)) (jI ((es : Nat) : Int)) (jI 1) a)] H := hP
    have hD : va_D A [(m0, oR (jI ((ms : Nat) : Int)) (jI ((es : Nat) : Int)) (jI 1) a)] := hD
    refine n_ifB_eq (tgt := 59) hx hb dX7_ahead_52 (by decide) (fun h52 => Bool.noConfusion h52) (fun h52 => ?_)
    refine n_iconst hx hb dX7_ahead_55 ?_
    refine lv_goto (tgt := 66) hx hb dX7_ahead_56 (by decide) ?_
    exact k_iret hx hb hr hlocks dX7_ahead_66 hP hS rfl
  · refine lv_iload_n hx hb dX7_ahead_10 rfl (lv_at hl 3 rfl) ?_
    refine n_iconst hx hb dX7_ahead_11 ?_
    refine n_iconst hx hb dX7_ahead_12 ?_
    have ct13 := c_X7_isIn l D tys wh 0 4 (by first | assumption | exact r32_z _ | (unfold r32; omega)) (by first | assumption | exact r32_z _ | (unfold r32; omega)) (by first | assumption | exact r32_z _ | (unfold r32; omega))
    refine k_goI (va_runS (As := [.int (jI wh), .int (jI 0), .int (jI 4)]) (rest := []) ⟨hx, hb, hml, hown, hts⟩ (ct13.2 _) (va_cwS 3 hts gX7_ahead_X7_isIn rfl rfl rfl (by decide +kernel) ⟨Nat.le_of_ble_eq_true rfl, Nat.le_of_ble_eq_true rfl⟩) (k_pre hK hP hD (is := []) rfl rfl) rfl rfl hl.1 rfl (lv_room (Nat.le_of_ble_eq_true rfl)) dX7_ahead_13 ⟨Nat.le_of_ble_eq_true rfl, Nat.le_of_ble_eq_true rfl⟩) ct13.1 hP hD hS hA [] rfl rfl (fun H locs hP hD hS => ?_)
    have hP : va_P D vwCl [(m0, oR (jI ((ms : Nat) : Int)) (jI ((es : Nat) : Int)) th a)] H := hP
    have hD : va_D A [(m0, oR (jI ((ms : Nat) : Int)) (jI ((es : Nat) : Int)) th a)] := hD
    refine n_ifB_eq (tgt := 23) hx hb dX7_ahead_16 (by decide) (fun h16 => ?_) (fun h16 => ?_)
    · refine n_iconst hx hb dX7_ahead_23 ?_
      refine lv_istore (lv' := [(4, .int (jI 0)), (0, .ref m0), (1, .int (jI ev)), (2, .int (jI tt)), (3, .int (jI wh))]) hx hb dX7_ahead_24 hl (by decide) rfl (fun ls hl => ?_)
      refine lv_aload_n hx hb dX7_ahead_26 rfl (lv_at hl 1 rfl) ?_
      refine lv_aload_n hx hb dX7_ahead_27 rfl (lv_at hl 1 rfl) ?_
      refine lv_iload_n hx hb dX7_ahead_28 rfl (lv_at hl 2 rfl) ?_
      have ct29 := c_X7_isOne l D tys m0 a ms es th ev (by first | assumption | exact r32_z _ | (unfold r32; omega)) (by omega) (by omega)
      refine k_goI (va_runV (As := [.int (jI ev)]) (rest := [.ref m0]) ⟨hx, hb, hml, hown, hts⟩ (ct29.2 _) (cwV 1 hts gX7_ahead_X7_isOne rfl rfl rfl (by decide +kernel) ⟨Nat.le_of_ble_eq_true rfl, Nat.le_of_ble_eq_true rfl⟩) ⟨(k_pre hK hP hD (is := [0]) rfl rfl).1, va_recv hK.1 hP (ci := 7) (q0 := 0) rfl rfl, (k_pre hK hP hD (is := [0]) rfl rfl).2⟩ rfl rfl hl.1 rfl (lv_room (Nat.le_of_ble_eq_true rfl)) dX7_ahead_29 ⟨Nat.le_of_ble_eq_true rfl, Nat.le_of_ble_eq_true rfl⟩) ct29.1 hP hD hS hA [0] rfl rfl (fun H locs hP hD hS => ?_)
      have hP : va_P D vwCl [(m0, oR (jI ((ms : Nat) : Int)) (jI ((es : Nat) : Int)) th a)] H := hP
      have hD : va_D A [(m0, oR (jI ((ms : Nat) : Int)) (jI ((es : Nat) : Int)) th a)] := hD
      refine n_ifB_ne (tgt := 39) hx hb dX7_ahead_32 (by decide) (fun h32 => Bool.noConfusion (h9.symm.trans h32)) (fun h32 => ?_)
      refine n_iconst hx hb dX7_ahead_35 ?_
      refine lv_goto (tgt := 49) hx hb dX7_ahead_36 (by decide) ?_
      have ct49 := c_X7_failsT l D tys m0 a ms es th 1 (by unfold r32; decide) (by decide)
      refine k_goI (va_runV (As := [.int (jI 1)]) (rest := []) ⟨hx, hb, hml, hown, hts⟩ (ct49.2 _) (cwV 1 hts gX7_ahead_X7_fails rfl rfl rfl (by decide +kernel) ⟨Nat.le_of_ble_eq_true rfl, Nat.le_of_ble_eq_true rfl⟩) ⟨(k_pre hK hP hD (is := [0]) rfl rfl).1, va_recv hK.1 hP (ci := 7) (q0 := 0) rfl rfl, (k_pre hK hP hD (is := [0]) rfl rfl).2⟩ rfl rfl hl.1 rfl (lv_room (Nat.le_of_ble_eq_true rfl)) dX7_ahead_49 ⟨Nat.le_of_ble_eq_true rfl, Nat.le_of_ble_eq_true rfl⟩) ct49.1 hP hD hS hA [0] rfl rfl (fun H locs hP hD hS => ?_)
      have hP : va_P D vwCl [(m0, oR (jI ((ms : Nat) : Int)) (jI ((es : Nat) : Int)) (jI 1) a)] H := hP
      have hD : va_D A [(m0, oR (jI ((ms : Nat) : Int)) (jI ((es : Nat) : Int)) (jI 1) a)] := hD
      refine n_ifB_eq (tgt := 59) hx hb dX7_ahead_52 (by decide) (fun h52 => Bool.noConfusion h52) (fun h52 => ?_)
      refine n_iconst hx hb dX7_ahead_55 ?_
      refine lv_goto (tgt := 66) hx hb dX7_ahead_56 (by decide) ?_
      exact k_iret hx hb hr hlocks dX7_ahead_66 hP hS rfl
    · refine n_iconst hx hb dX7_ahead_19 ?_
      refine lv_goto (tgt := 24) hx hb dX7_ahead_20 (by decide) ?_
      refine lv_istore (lv' := [(4, .int (jI 1)), (0, .ref m0), (1, .int (jI ev)), (2, .int (jI tt)), (3, .int (jI wh))]) hx hb dX7_ahead_24 hl (by decide) rfl (fun ls hl => ?_)
      refine lv_aload_n hx hb dX7_ahead_26 rfl (lv_at hl 1 rfl) ?_
      refine lv_aload_n hx hb dX7_ahead_27 rfl (lv_at hl 1 rfl) ?_
      refine lv_iload_n hx hb dX7_ahead_28 rfl (lv_at hl 2 rfl) ?_
      have ct29 := c_X7_isOne l D tys m0 a ms es th ev (by first | assumption | exact r32_z _ | (unfold r32; omega)) (by omega) (by omega)
      refine k_goI (va_runV (As := [.int (jI ev)]) (rest := [.ref m0]) ⟨hx, hb, hml, hown, hts⟩ (ct29.2 _) (cwV 1 hts gX7_ahead_X7_isOne rfl rfl rfl (by decide +kernel) ⟨Nat.le_of_ble_eq_true rfl, Nat.le_of_ble_eq_true rfl⟩) ⟨(k_pre hK hP hD (is := [0]) rfl rfl).1, va_recv hK.1 hP (ci := 7) (q0 := 0) rfl rfl, (k_pre hK hP hD (is := [0]) rfl rfl).2⟩ rfl rfl hl.1 rfl (lv_room (Nat.le_of_ble_eq_true rfl)) dX7_ahead_29 ⟨Nat.le_of_ble_eq_true rfl, Nat.le_of_ble_eq_true rfl⟩) ct29.1 hP hD hS hA [0] rfl rfl (fun H locs hP hD hS => ?_)
      have hP : va_P D vwCl [(m0, oR (jI ((ms : Nat) : Int)) (jI ((es : Nat) : Int)) th a)] H := hP
      have hD : va_D A [(m0, oR (jI ((ms : Nat) : Int)) (jI ((es : Nat) : Int)) th a)] := hD
      refine n_ifB_ne (tgt := 39) hx hb dX7_ahead_32 (by decide) (fun h32 => Bool.noConfusion (h9.symm.trans h32)) (fun h32 => ?_)
      refine n_iconst hx hb dX7_ahead_35 ?_
      refine lv_goto (tgt := 49) hx hb dX7_ahead_36 (by decide) ?_
      have ct49 := c_X7_failsT l D tys m0 a ms es th 1 (by unfold r32; decide) (by decide)
      refine k_goI (va_runV (As := [.int (jI 1)]) (rest := []) ⟨hx, hb, hml, hown, hts⟩ (ct49.2 _) (cwV 1 hts gX7_ahead_X7_fails rfl rfl rfl (by decide +kernel) ⟨Nat.le_of_ble_eq_true rfl, Nat.le_of_ble_eq_true rfl⟩) ⟨(k_pre hK hP hD (is := [0]) rfl rfl).1, va_recv hK.1 hP (ci := 7) (q0 := 0) rfl rfl, (k_pre hK hP hD (is := [0]) rfl rfl).2⟩ rfl rfl hl.1 rfl (lv_room (Nat.le_of_ble_eq_true rfl)) dX7_ahead_49 ⟨Nat.le_of_ble_eq_true rfl, Nat.le_of_ble_eq_true rfl⟩) ct49.1 hP hD hS hA [0] rfl rfl (fun H locs hP hD hS => ?_)
      have hP : va_P D vwCl [(m0, oR (jI ((ms : Nat) : Int)) (jI ((es : Nat) : Int)) (jI 1) a)] H := hP
      have hD : va_D A [(m0, oR (jI ((ms : Nat) : Int)) (jI ((es : Nat) : Int)) (jI 1) a)] := hD
      refine n_ifB_eq (tgt := 59) hx hb dX7_ahead_52 (by decide) (fun h52 => Bool.noConfusion h52) (fun h52 => ?_)
      refine n_iconst hx hb dX7_ahead_55 ?_
      refine lv_goto (tgt := 66) hx hb dX7_ahead_56 (by decide) ?_
      exact k_iret hx hb hr hlocks dX7_ahead_66 hP hS rfl

set_option maxHeartbeats 4000000 in
set_option maxRecDepth 100000 in
/--  -/
theorem c_X7_ahead2 (l : Launch) (D : va_G) (tys : List (ClassId × FieldType)) {cI cJ cZ : ClassId} (htI : tys[0]? = some (cI, .int)) (htJ : tys[1]? = some (cJ, .long)) (htZ : tys[2]? = some (cZ, .boolean)) (m0 : Nat) (a : Nat → Nat) (ms es : Nat) (th : Int32) (q1 : ms ≤ 6) (q2 : es ≤ 6) (ev : Nat) (tt wh : Int) (q3 : ev < es) (q4 : r32 tt) (q5 : r32 wh) (hbad : ((inB 0 1000000000 tt) && (inB 0 4 wh)) = false) : CtI l D tys yX7_ahead wsX7_ahead 2 43 [.ref m0, .int (jI ((ev : Nat) : Int)), .int (jI tt), .int (jI wh)] (jI 0) [(m0, oR (jI ((ms : Nat) : Int)) (jI ((es : Nat) : Int)) th a)] [(m0, oR (jI ((ms : Nat) : Int)) (jI ((es : Nat) : Int)) (jI 2) a)] := by
  refine CtI.of (cc := cX7_ahead) (maxL := 5) (by decide +kernel) rfl rfl (Nat.le_of_ble_eq_true rfl) ?_
  intro p e s m below meth c A ls hcx hK hP hD hA hl
  obtain ⟨hx, hb, hr, hml, hown, hts, hlocks⟩ := hcx
  have hS : va_S A s.heap s.heap [] := va_S.rf
  have hown : s.vm.findClass RX7 = some m.cls := hown
  have hl : lv_has ls 5 [(0, .ref m0), (1, .int (jI ((ev : Nat) : Int))), (2, .int (jI tt)), (3, .int (jI wh))] := hl
  refine lv_iload_n hx hb dX7_ahead_0 rfl (lv_at hl 2 rfl) ?_
  refine n_iconst hx hb dX7_ahead_1 ?_
  refine lv_ldc (v := jI 1000000000) hx hb hown (hts (.constant RX7 137 (jI 1000000000)) (by decide +kernel)) dX7_ahead_2 ?_
  have ct4 := c_X7_isIn l D tys tt 0 1000000000 (by first | assumption | exact r32_z _ | (unfold r32; omega)) (by first | assumption | exact r32_z _ | (unfold r32; omega)) (by first | assumption | exact r32_z _ | (unfold r32; omega))
  refine k_goI (va_runS (As := [.int (jI tt), .int (jI 0), .int (jI 1000000000)]) (rest := []) ⟨hx, hb, hml, hown, hts⟩ (ct4.2 _) (va_cwS 3 hts gX7_ahead_X7_isIn rfl rfl rfl (by decide +kernel) ⟨Nat.le_of_ble_eq_true rfl, Nat.le_of_ble_eq_true rfl⟩) (k_pre hK hP hD (is := []) rfl rfl) rfl rfl hl.1 rfl (lv_room (Nat.le_of_ble_eq_true rfl)) dX7_ahead_4 ⟨Nat.le_of_ble_eq_true rfl, Nat.le_of_ble_eq_true rfl⟩) ct4.1 hP hD hS hA [] rfl rfl (fun H locs hP hD hS => ?_)
  have hP : va_P D vwCl [(m0, oR (jI ((ms : Nat) : Int)) (jI ((es : Nat) : Int)) th a)] H := hP
  have hD : va_D A [(m0, oR (jI ((ms : Nat) : Int)) (jI ((es : Nat) : Int)) th a)] := hD
  refine n_ifB_eq (tgt := 23) hx hb dX7_ahead_7 (by decide) (fun h7 => ?_) (fun h7 => ?_)
  · refine n_iconst hx hb dX7_ahead_23 ?_
    refine lv_istore (lv' := [(4, .int (jI 0)), (0, .ref m0), (1, .int (jI ((ev : Nat) : Int))), (2, .int (jI tt)), (3, .int (jI wh))]) hx hb dX7_ahead_24 hl (by decide) rfl (fun ls hl => ?_)
    refine lv_aload_n hx hb dX7_ahead_26 rfl (lv_at hl 1 rfl) ?_
    refine lv_aload_n hx hb dX7_ahead_27 rfl (lv_at hl 1 rfl) ?_
    refine lv_iload_n hx hb dX7_ahead_28 rfl (lv_at hl 2 rfl) ?_
    have ct29 := c_X7_isOne l D tys m0 a ms es th ((ev : Nat) : Int) (by first | assumption | exact r32_z _ | (unfold r32; omega)) (by omega) (by omega)
    refine k_goI (va_runV (As := [.int (jI ((ev : Nat) : Int))]) (rest := [.ref m0]) ⟨hx, hb, hml, hown, hts⟩ (ct29.2 _) (cwV 1 hts gX7_ahead_X7_isOne rfl rfl rfl (by decide +kernel) ⟨Nat.le_of_ble_eq_true rfl, Nat.le_of_ble_eq_true rfl⟩) ⟨(k_pre hK hP hD (is := [0]) rfl rfl).1, va_recv hK.1 hP (ci := 7) (q0 := 0) rfl rfl, (k_pre hK hP hD (is := [0]) rfl rfl).2⟩ rfl rfl hl.1 rfl (lv_room (Nat.le_of_ble_eq_true rfl)) dX7_ahead_29 ⟨Nat.le_of_ble_eq_true rfl, Nat.le_of_ble_eq_true rfl⟩) ct29.1 hP hD hS hA [0] rfl rfl (fun H locs hP hD hS => ?_)
    have hP : va_P D vwCl [(m0, oR (jI ((ms : Nat) : Int)) (jI ((es : Nat) : Int)) th a)] H := hP
    have hD : va_D A [(m0, oR (jI ((ms : Nat) : Int)) (jI ((es : Nat) : Int)) th a)] := hD
    refine n_ifB_ne (tgt := 39) hx hb dX7_ahead_32 (by decide) (fun h32 => ?_) (fun h32 => Bool.noConfusion ((inB_t (by omega) (by omega)).symm.trans h32))
    refine lv_iload hx hb dX7_ahead_39 (lv_at hl 0 rfl) ?_
    refine n_if_eq (tgt := 48) hx hb (by unfold r32; decide) dX7_ahead_41 (by decide) (fun h41 => ?_) (fun h41 => False.elim (by revert h41; decide))
    refine n_iconst hx hb dX7_ahead_48 ?_
    have ct49 := c_X7_failsT l D tys m0 a ms es th 2 (by unfold r32; decide) (by decide)
    refine k_goI (va_runV (As := [.int (jI 2)]) (rest := []) ⟨hx, hb, hml, hown, hts⟩ (ct49.2 _) (cwV 1 hts gX7_ahead_X7_fails rfl rfl rfl (by decide +kernel) ⟨Nat.le_of_ble_eq_true rfl, Nat.le_of_ble_eq_true rfl⟩) ⟨(k_pre hK hP hD (is := [0]) rfl rfl).1, va_recv hK.1 hP (ci := 7) (q0 := 0) rfl rfl, (k_pre hK hP hD (is := [0]) rfl rfl).2⟩ rfl rfl hl.1 rfl (lv_room (Nat.le_of_ble_eq_true rfl)) dX7_ahead_49 ⟨Nat.le_of_ble_eq_true rfl, Nat.le_of_ble_eq_true rfl⟩) ct49.1 hP hD hS hA [0] rfl rfl (fun H locs hP hD hS => ?_)
    have hP : va_P D vwCl [(m0, oR (jI ((ms : Nat) : Int)) (jI ((es : Nat) : Int)) (jI 2) a)] H := hP
    have hD : va_D A [(m0, oR (jI ((ms : Nat) : Int)) (jI ((es : Nat) : Int)) (jI 2) a)] := hD
    refine n_ifB_eq (tgt := 59) hx hb dX7_ahead_52 (by decide) (fun h52 => Bool.noConfusion h52) (fun h52 => ?_)
    refine n_iconst hx hb dX7_ahead_55 ?_
    refine lv_goto (tgt := 66) hx hb dX7_ahead_56 (by decide) ?_
    exact k_iret hx hb hr hlocks dX7_ahead_66 hP hS rfl
  · refine lv_iload_n hx hb dX7_ahead_10 rfl (lv_at hl 3 rfl) ?_
    refine n_iconst hx hb dX7_ahead_11 ?_
    refine n_iconst hx hb dX7_ahead_12 ?_
    have ct13 := c_X7_isIn l D tys wh 0 4 (by first | assumption | exact r32_z _ | (unfold r32; omega)) (by first | assumption | exact r32_z _ | (unfold r32; omega)) (by first | assumption | exact r32_z _ | (unfold r32; omega))
    refine k_goI (va_runS (As := [.int (jI wh), .int (jI 0), .int (jI 4)]) (rest := []) ⟨hx, hb, hml, hown, hts⟩ (ct13.2 _) (va_cwS 3 hts gX7_ahead_X7_isIn rfl rfl rfl (by decide +kernel) ⟨Nat.le_of_ble_eq_true rfl, Nat.le_of_ble_eq_true rfl⟩) (k_pre hK hP hD (is := []) rfl rfl) rfl rfl hl.1 rfl (lv_room (Nat.le_of_ble_eq_true rfl)) dX7_ahead_13 ⟨Nat.le_of_ble_eq_true rfl, Nat.le_of_ble_eq_true rfl⟩) ct13.1 hP hD hS hA [] rfl rfl (fun H locs hP hD hS => ?_)
    have hP : va_P D vwCl [(m0, oR (jI ((ms : Nat) : Int)) (jI ((es : Nat) : Int)) th a)] H := hP
    have hD : va_D A [(m0, oR (jI ((ms : Nat) : Int)) (jI ((es : Nat) : Int)) th a)] := hD
    refine n_ifB_eq (tgt := 23) hx hb dX7_ahead_16 (by decide) (fun h16 => ?_) (fun h16 => ?_)
    · refine n_iconst hx hb dX7_ahead_23 ?_
      refine lv_istore (lv' := [(4, .int (jI 0)), (0, .ref m0), (1, .int (jI ((ev : Nat) : Int))), (2, .int (jI tt)), (3, .int (jI wh))]) hx hb dX7_ahead_24 hl (by decide) rfl (fun ls hl => ?_)
      refine lv_aload_n hx hb dX7_ahead_26 rfl (lv_at hl 1 rfl) ?_
      refine lv_aload_n hx hb dX7_ahead_27 rfl (lv_at hl 1 rfl) ?_
      refine lv_iload_n hx hb dX7_ahead_28 rfl (lv_at hl 2 rfl) ?_
      have ct29 := c_X7_isOne l D tys m0 a ms es th ((ev : Nat) : Int) (by first | assumption | exact r32_z _ | (unfold r32; omega)) (by omega) (by omega)
      refine k_goI (va_runV (As := [.int (jI ((ev : Nat) : Int))]) (rest := [.ref m0]) ⟨hx, hb, hml, hown, hts⟩ (ct29.2 _) (cwV 1 hts gX7_ahead_X7_isOne rfl rfl rfl (by decide +kernel) ⟨Nat.le_of_ble_eq_true rfl, Nat.le_of_ble_eq_true rfl⟩) ⟨(k_pre hK hP hD (is := [0]) rfl rfl).1, va_recv hK.1 hP (ci := 7) (q0 := 0) rfl rfl, (k_pre hK hP hD (is := [0]) rfl rfl).2⟩ rfl rfl hl.1 rfl (lv_room (Nat.le_of_ble_eq_true rfl)) dX7_ahead_29 ⟨Nat.le_of_ble_eq_true rfl, Nat.le_of_ble_eq_true rfl⟩) ct29.1 hP hD hS hA [0] rfl rfl (fun H locs hP hD hS => ?_)
      have hP : va_P D vwCl [(m0, oR (jI ((ms : Nat) : Int)) (jI ((es : Nat) : Int)) th a)] H := hP
      have hD : va_D A [(m0, oR (jI ((ms : Nat) : Int)) (jI ((es : Nat) : Int)) th a)] := hD
      refine n_ifB_ne (tgt := 39) hx hb dX7_ahead_32 (by decide) (fun h32 => ?_) (fun h32 => Bool.noConfusion ((inB_t (by omega) (by omega)).symm.trans h32))
      refine lv_iload hx hb dX7_ahead_39 (lv_at hl 0 rfl) ?_
      refine n_if_eq (tgt := 48) hx hb (by unfold r32; decide) dX7_ahead_41 (by decide) (fun h41 => ?_) (fun h41 => False.elim (by revert h41; decide))
      refine n_iconst hx hb dX7_ahead_48 ?_
      have ct49 := c_X7_failsT l D tys m0 a ms es th 2 (by unfold r32; decide) (by decide)
      refine k_goI (va_runV (As := [.int (jI 2)]) (rest := []) ⟨hx, hb, hml, hown, hts⟩ (ct49.2 _) (cwV 1 hts gX7_ahead_X7_fails rfl rfl rfl (by decide +kernel) ⟨Nat.le_of_ble_eq_true rfl, Nat.le_of_ble_eq_true rfl⟩) ⟨(k_pre hK hP hD (is := [0]) rfl rfl).1, va_recv hK.1 hP (ci := 7) (q0 := 0) rfl rfl, (k_pre hK hP hD (is := [0]) rfl rfl).2⟩ rfl rfl hl.1 rfl (lv_room (Nat.le_of_ble_eq_true rfl)) dX7_ahead_49 ⟨Nat.le_of_ble_eq_true rfl, Nat.le_of_ble_eq_true rfl⟩) ct49.1 hP hD hS hA [0] rfl rfl (fun H locs hP hD hS => ?_)
      have hP : va_P D vwCl [(m0, oR (jI ((ms : Nat) : Int)) (jI ((es : Nat) : Int)) (jI 2) a)] H := hP
      have hD : va_D A [(m0, oR (jI ((ms : Nat) : Int)) (jI ((es : Nat) : Int)) (jI 2) a)] := hD
      refine n_ifB_eq (tgt := 59) hx hb dX7_ahead_52 (by decide) (fun h52 => Bool.noConfusion h52) (fun h52 => ?_)
      refine n_iconst hx hb dX7_ahead_55 ?_
      refine lv_goto (tgt := 66) hx hb dX7_ahead_56 (by decide) ?_
      exact k_iret hx hb hr hlocks dX7_ahead_66 hP hS rfl
    · exact absurd hbad (by rw [h7, h16]; decide)

set_option maxHeartbeats 8000000 in
set_option maxRecDepth 100000 in
/--  -/
theorem c_X7_ahead0 (l : Launch) (D : va_G) (tys : List (ClassId × FieldType)) {cI cJ cZ : ClassId} (htI : tys[0]? = some (cI, .int)) (htJ : tys[1]? = some (cJ, .long)) (htZ : tys[2]? = some (cZ, .boolean)) (m0 : Nat) (a : Nat → Nat) (ms es : Nat) (th : Int32) (gM : Nat → Zp) (gB : Nat → Zp) (gT : Nat → Nat) (gN : Nat → Nat) (gK : Nat → Zp) (gD : Nat → Bool) (gH : Nat → Zp) (gU : Nat → Zp) (gF : Nat → Zp) (gX : Nat → Bool) (gW : Nat → Zp) (gP : Nat → Zp) (gA : Nat → Zp) (gR : Nat → Zp) (q1 : ms ≤ 6) (q2 : es ≤ 6) (ev times wh : Nat) (q3 : ev < es) (q4 : times ≤ 1000000000) (q5 : wh ≤ 4) (qT : gT ev ≤ 20) (qN : gN ev ≤ 30) (htm : ∀ k, k < gN ev → (gK (6 * (30 * ev + k) + 0)).val ≤ gT ev) (st : S5) (hbeh : beh (fun i => gM (7 * ev + i)) (s5at gB ev) (fun k c => gK (6 * (30 * ev + k) + c)) (fun k => gD (30 * ev + k)) (gN ev) (gT ev) = some st)  : CtE (S := (Nat → Zp) × (Nat → Zp) × (Nat → Zp) × (Nat → Bool) × (Nat → Zp) × (Nat → Zp) × (Nat → Zp) × (Nat → Zp)) l D tys yX7_ahead wsX7_ahead 5 148 [.ref m0, .int (jI ((ev : Nat) : Int)), .int (jI ((times : Nat) : Int)), .int (jI ((wh : Nat) : Int))] (fun (r : Int32) (_ : (Nat → Zp) × (Nat → Zp) × (Nat → Zp) × (Nat → Bool) × (Nat → Zp) × (Nat → Zp) × (Nat → Zp) × (Nat → Zp)) => r = vI (comp5 (itN (prd (fun i => gM (7 * ev + i))) times st) wh)) [(m0, oR (jI ((ms : Nat) : Int)) (jI ((es : Nat) : Int)) th a), ((a 1), .inl (cI, 42, .inl (fun i => vI (gM i)))), ((a 2), .inl (cI, 30, .inl (fun i => vI (gB i)))), ((a 3), .inl (cI, 6, .inl (fun i => jI ((gT i : Nat) : Int)))), ((a 5), .inl (cI, 6, .inl (fun i => jI ((gN i : Nat) : Int)))), ((a 6), .inl (cI, 1080, .inl (fun i => vI (gK i)))), ((a 7), .inl (cZ, 180, .inl (fun i => jI (iB (gD i))))), ((a 8), .inl (cJ, 105, .inr (.inl (fun i => vL (gH i))))), ((a 9), .inl (cJ, 105, .inr (.inl (fun i => vL (gU i))))), ((a 10), .inl (cJ, 90, .inr (.inl (fun i => vL (gF i))))), ((a 11), .inl (cZ, 30, .inl (fun i => jI (iB (gX i))))), ((a 12), .inl (cJ, 5, .inr (.inl (fun i => vL (gW i))))), ((a 14), .inl (cJ, 16, .inr (.inl (fun i => vL (gP i))))), ((a 15), .inl (cJ, 16, .inr (.inl (fun i => vL (gA i))))), ((a 16), .inl (cJ, 16, .inr (.inl (fun i => vL (gR i)))))] (fun u => [(m0, oR (jI ((ms : Nat) : Int)) (jI ((es : Nat) : Int)) (jI 0) a), ((a 1), .inl (cI, 42, .inl (fun i => vI (gM i)))), ((a 2), .inl (cI, 30, .inl (fun i => vI (gB i)))), ((a 3), .inl (cI, 6, .inl (fun i => jI ((gT i : Nat) : Int)))), ((a 5), .inl (cI, 6, .inl (fun i => jI ((gN i : Nat) : Int)))), ((a 6), .inl (cI, 1080, .inl (fun i => vI (gK i)))), ((a 7), .inl (cZ, 180, .inl (fun i => jI (iB (gD i))))), ((a 8), .inl (cJ, 105, .inr (.inl (fun i => vL (u.1 i))))), ((a 9), .inl (cJ, 105, .inr (.inl (fun i => vL (u.2.1 i))))), ((a 10), .inl (cJ, 90, .inr (.inl (fun i => vL (u.2.2.1 i))))), ((a 11), .inl (cZ, 30, .inl (fun i => jI (iB (u.2.2.2.1 i))))), ((a 12), .inl (cJ, 5, .inr (.inl (fun i => vL (u.2.2.2.2.1 i))))), ((a 14), .inl (cJ, 16, .inr (.inl (fun i => vL (u.2.2.2.2.2.1 i))))), ((a 15), .inl (cJ, 16, .inr (.inl (fun i => vL (u.2.2.2.2.2.2.1 i))))), ((a 16), .inl (cJ, 16, .inr (.inl (fun i => vL (u.2.2.2.2.2.2.2 i)))))]) := by
  refine CtE.of (cc := cX7_ahead) (maxL := 5) (by decide +kernel) rfl (fun _ => rfl) (Nat.le_of_ble_eq_true rfl) ?_
  intro p e s m below meth c A ls hcx hK hP hD hA hl
  obtain ⟨hx, hb, hr, hml, hown, hts, hlocks⟩ := hcx
  have hS : va_S A s.heap s.heap [] := va_S.rf
  have hown : s.vm.findClass RX7 = some m.cls := hown
  have hl : lv_has ls 5 [(0, .ref m0), (1, .int (jI ((ev : Nat) : Int))), (2, .int (jI ((times : Nat) : Int))), (3, .int (jI ((wh : Nat) : Int)))] := hl
  refine lv_iload_n hx hb dX7_ahead_0 rfl (lv_at hl 2 rfl) ?_
  refine n_iconst hx hb dX7_ahead_1 ?_
  refine lv_ldc (v := jI 1000000000) hx hb hown (hts (.constant RX7 137 (jI 1000000000)) (by decide +kernel)) dX7_ahead_2 ?_
  have ct4 := c_X7_isIn l D tys ((times : Nat) : Int) 0 1000000000 (by first | assumption | exact r32_z _ | (unfold r32; omega)) (by first | assumption | exact r32_z _ | (unfold r32; omega)) (by first | assumption | exact r32_z _ | (unfold r32; omega))
  refine k_goI (va_runS (As := [.int (jI ((times : Nat) : Int)), .int (jI 0), .int (jI 1000000000)]) (rest := []) ⟨hx, hb, hml, hown, hts⟩ (ct4.2 _) (va_cwS 3 hts gX7_ahead_X7_isIn rfl rfl rfl (by decide +kernel) ⟨Nat.le_of_ble_eq_true rfl, Nat.le_of_ble_eq_true rfl⟩) (k_pre hK hP hD (is := []) rfl rfl) rfl rfl hl.1 rfl (lv_room (Nat.le_of_ble_eq_true rfl)) dX7_ahead_4 ⟨Nat.le_of_ble_eq_true rfl, Nat.le_of_ble_eq_true rfl⟩) ct4.1 hP hD hS hA [] rfl rfl (fun H locs hP hD hS => ?_)
  have hP : va_P D vwCl [(m0, oR (jI ((ms : Nat) : Int)) (jI ((es : Nat) : Int)) th a), ((a 1), .inl (cI, 42, .inl (fun i => vI (gM i)))), ((a 2), .inl (cI, 30, .inl (fun i => vI (gB i)))), ((a 3), .inl (cI, 6, .inl (fun i => jI ((gT i : Nat) : Int)))), ((a 5), .inl (cI, 6, .inl (fun i => jI ((gN i : Nat) : Int)))), ((a 6), .inl (cI, 1080, .inl (fun i => vI (gK i)))), ((a 7), .inl (cZ, 180, .inl (fun i => jI (iB (gD i))))), ((a 8), .inl (cJ, 105, .inr (.inl (fun i => vL (gH i))))), ((a 9), .inl (cJ, 105, .inr (.inl (fun i => vL (gU i))))), ((a 10), .inl (cJ, 90, .inr (.inl (fun i => vL (gF i))))), ((a 11), .inl (cZ, 30, .inl (fun i => jI (iB (gX i))))), ((a 12), .inl (cJ, 5, .inr (.inl (fun i => vL (gW i))))), ((a 14), .inl (cJ, 16, .inr (.inl (fun i => vL (gP i))))), ((a 15), .inl (cJ, 16, .inr (.inl (fun i => vL (gA i))))), ((a 16), .inl (cJ, 16, .inr (.inl (fun i => vL (gR i)))))] H := hP
  have hD : va_D A [(m0, oR (jI ((ms : Nat) : Int)) (jI ((es : Nat) : Int)) th a), ((a 1), .inl (cI, 42, .inl (fun i => vI (gM i)))), ((a 2), .inl (cI, 30, .inl (fun i => vI (gB i)))), ((a 3), .inl (cI, 6, .inl (fun i => jI ((gT i : Nat) : Int)))), ((a 5), .inl (cI, 6, .inl (fun i => jI ((gN i : Nat) : Int)))), ((a 6), .inl (cI, 1080, .inl (fun i => vI (gK i)))), ((a 7), .inl (cZ, 180, .inl (fun i => jI (iB (gD i))))), ((a 8), .inl (cJ, 105, .inr (.inl (fun i => vL (gH i))))), ((a 9), .inl (cJ, 105, .inr (.inl (fun i => vL (gU i))))), ((a 10), .inl (cJ, 90, .inr (.inl (fun i => vL (gF i))))), ((a 11), .inl (cZ, 30, .inl (fun i => jI (iB (gX i))))), ((a 12), .inl (cJ, 5, .inr (.inl (fun i => vL (gW i))))), ((a 14), .inl (cJ, 16, .inr (.inl (fun i => vL (gP i))))), ((a 15), .inl (cJ, 16, .inr (.inl (fun i => vL (gA i))))), ((a 16), .inl (cJ, 16, .inr (.inl (fun i => vL (gR i)))))] := hD
  refine n_ifB_eq (tgt := 23) hx hb dX7_ahead_7 (by decide) (fun h7 => Bool.noConfusion ((inB_t (by omega) (by omega)).symm.trans h7)) (fun h7 => ?_)
  refine lv_iload_n hx hb dX7_ahead_10 rfl (lv_at hl 3 rfl) ?_
  refine n_iconst hx hb dX7_ahead_11 ?_
  refine n_iconst hx hb dX7_ahead_12 ?_
  have ct13 := c_X7_isIn l D tys ((wh : Nat) : Int) 0 4 (by first | assumption | exact r32_z _ | (unfold r32; omega)) (by first | assumption | exact r32_z _ | (unfold r32; omega)) (by first | assumption | exact r32_z _ | (unfold r32; omega))
  refine k_goI (va_runS (As := [.int (jI ((wh : Nat) : Int)), .int (jI 0), .int (jI 4)]) (rest := []) ⟨hx, hb, hml, hown, hts⟩ (ct13.2 _) (va_cwS 3 hts gX7_ahead_X7_isIn rfl rfl rfl (by decide +kernel) ⟨Nat.le_of_ble_eq_true rfl, Nat.le_of_ble_eq_true rfl⟩) (k_pre hK hP hD (is := []) rfl rfl) rfl rfl hl.1 rfl (lv_room (Nat.le_of_ble_eq_true rfl)) dX7_ahead_13 ⟨Nat.le_of_ble_eq_true rfl, Nat.le_of_ble_eq_true rfl⟩) ct13.1 hP hD hS hA [] rfl rfl (fun H locs hP hD hS => ?_)
  have hP : va_P D vwCl [(m0, oR (jI ((ms : Nat) : Int)) (jI ((es : Nat) : Int)) th a), ((a 1), .inl (cI, 42, .inl (fun i => vI (gM i)))), ((a 2), .inl (cI, 30, .inl (fun i => vI (gB i)))), ((a 3), .inl (cI, 6, .inl (fun i => jI ((gT i : Nat) : Int)))), ((a 5), .inl (cI, 6, .inl (fun i => jI ((gN i : Nat) : Int)))), ((a 6), .inl (cI, 1080, .inl (fun i => vI (gK i)))), ((a 7), .inl (cZ, 180, .inl (fun i => jI (iB (gD i))))), ((a 8), .inl (cJ, 105, .inr (.inl (fun i => vL (gH i))))), ((a 9), .inl (cJ, 105, .inr (.inl (fun i => vL (gU i))))), ((a 10), .inl (cJ, 90, .inr (.inl (fun i => vL (gF i))))), ((a 11), .inl (cZ, 30, .inl (fun i => jI (iB (gX i))))), ((a 12), .inl (cJ, 5, .inr (.inl (fun i => vL (gW i))))), ((a 14), .inl (cJ, 16, .inr (.inl (fun i => vL (gP i))))), ((a 15), .inl (cJ, 16, .inr (.inl (fun i => vL (gA i))))), ((a 16), .inl (cJ, 16, .inr (.inl (fun i => vL (gR i)))))] H := hP
  have hD : va_D A [(m0, oR (jI ((ms : Nat) : Int)) (jI ((es : Nat) : Int)) th a), ((a 1), .inl (cI, 42, .inl (fun i => vI (gM i)))), ((a 2), .inl (cI, 30, .inl (fun i => vI (gB i)))), ((a 3), .inl (cI, 6, .inl (fun i => jI ((gT i : Nat) : Int)))), ((a 5), .inl (cI, 6, .inl (fun i => jI ((gN i : Nat) : Int)))), ((a 6), .inl (cI, 1080, .inl (fun i => vI (gK i)))), ((a 7), .inl (cZ, 180, .inl (fun i => jI (iB (gD i))))), ((a 8), .inl (cJ, 105, .inr (.inl (fun i => vL (gH i))))), ((a 9), .inl (cJ, 105, .inr (.inl (fun i => vL (gU i))))), ((a 10), .inl (cJ, 90, .inr (.inl (fun i => vL (gF i))))), ((a 11), .inl (cZ, 30, .inl (fun i => jI (iB (gX i))))), ((a 12), .inl (cJ, 5, .inr (.inl (fun i => vL (gW i))))), ((a 14), .inl (cJ, 16, .inr (.inl (fun i => vL (gP i))))), ((a 15), .inl (cJ, 16, .inr (.inl (fun i => vL (gA i))))), ((a 16), .inl (cJ, 16, .inr (.inl (fun i => vL (gR i)))))] := hD
  refine n_ifB_eq (tgt := 23) hx hb dX7_ahead_16 (by decide) (fun h16 => Bool.noConfusion ((inB_t (by omega) (by omega)).symm.trans h16)) (fun h16 => ?_)
  refine n_iconst hx hb dX7_ahead_19 ?_
  refine lv_goto (tgt := 24) hx hb dX7_ahead_20 (by decide) ?_
  refine lv_istore (lv' := [(4, .int (jI 1)), (0, .ref m0), (1, .int (jI ((ev : Nat) : Int))), (2, .int (jI ((times : Nat) : Int))), (3, .int (jI ((wh : Nat) : Int)))]) hx hb dX7_ahead_24 hl (by decide) rfl (fun ls hl => ?_)
  refine lv_aload_n hx hb dX7_ahead_26 rfl (lv_at hl 1 rfl) ?_
  refine lv_aload_n hx hb dX7_ahead_27 rfl (lv_at hl 1 rfl) ?_
  refine lv_iload_n hx hb dX7_ahead_28 rfl (lv_at hl 2 rfl) ?_
  have ct29 := c_X7_isOne l D tys m0 a ms es th ((ev : Nat) : Int) (by first | assumption | exact r32_z _ | (unfold r32; omega)) (by omega) (by omega)
  refine k_goI (va_runV (As := [.int (jI ((ev : Nat) : Int))]) (rest := [.ref m0]) ⟨hx, hb, hml, hown, hts⟩ (ct29.2 _) (cwV 1 hts gX7_ahead_X7_isOne rfl rfl rfl (by decide +kernel) ⟨Nat.le_of_ble_eq_true rfl, Nat.le_of_ble_eq_true rfl⟩) ⟨(k_pre hK hP hD (is := [0]) rfl rfl).1, va_recv hK.1 hP (ci := 7) (q0 := 0) rfl rfl, (k_pre hK hP hD (is := [0]) rfl rfl).2⟩ rfl rfl hl.1 rfl (lv_room (Nat.le_of_ble_eq_true rfl)) dX7_ahead_29 ⟨Nat.le_of_ble_eq_true rfl, Nat.le_of_ble_eq_true rfl⟩) ct29.1 hP hD hS hA [0] rfl rfl (fun H locs hP hD hS => ?_)
  have hP : va_P D vwCl [(m0, oR (jI ((ms : Nat) : Int)) (jI ((es : Nat) : Int)) th a), ((a 1), .inl (cI, 42, .inl (fun i => vI (gM i)))), ((a 2), .inl (cI, 30, .inl (fun i => vI (gB i)))), ((a 3), .inl (cI, 6, .inl (fun i => jI ((gT i : Nat) : Int)))), ((a 5), .inl (cI, 6, .inl (fun i => jI ((gN i : Nat) : Int)))), ((a 6), .inl (cI, 1080, .inl (fun i => vI (gK i)))), ((a 7), .inl (cZ, 180, .inl (fun i => jI (iB (gD i))))), ((a 8), .inl (cJ, 105, .inr (.inl (fun i => vL (gH i))))), ((a 9), .inl (cJ, 105, .inr (.inl (fun i => vL (gU i))))), ((a 10), .inl (cJ, 90, .inr (.inl (fun i => vL (gF i))))), ((a 11), .inl (cZ, 30, .inl (fun i => jI (iB (gX i))))), ((a 12), .inl (cJ, 5, .inr (.inl (fun i => vL (gW i))))), ((a 14), .inl (cJ, 16, .inr (.inl (fun i => vL (gP i))))), ((a 15), .inl (cJ, 16, .inr (.inl (fun i => vL (gA i))))), ((a 16), .inl (cJ, 16, .inr (.inl (fun i => vL (gR i)))))] H := hP
  have hD : va_D A [(m0, oR (jI ((ms : Nat) : Int)) (jI ((es : Nat) : Int)) th a), ((a 1), .inl (cI, 42, .inl (fun i => vI (gM i)))), ((a 2), .inl (cI, 30, .inl (fun i => vI (gB i)))), ((a 3), .inl (cI, 6, .inl (fun i => jI ((gT i : Nat) : Int)))), ((a 5), .inl (cI, 6, .inl (fun i => jI ((gN i : Nat) : Int)))), ((a 6), .inl (cI, 1080, .inl (fun i => vI (gK i)))), ((a 7), .inl (cZ, 180, .inl (fun i => jI (iB (gD i))))), ((a 8), .inl (cJ, 105, .inr (.inl (fun i => vL (gH i))))), ((a 9), .inl (cJ, 105, .inr (.inl (fun i => vL (gU i))))), ((a 10), .inl (cJ, 90, .inr (.inl (fun i => vL (gF i))))), ((a 11), .inl (cZ, 30, .inl (fun i => jI (iB (gX i))))), ((a 12), .inl (cJ, 5, .inr (.inl (fun i => vL (gW i))))), ((a 14), .inl (cJ, 16, .inr (.inl (fun i => vL (gP i))))), ((a 15), .inl (cJ, 16, .inr (.inl (fun i => vL (gA i))))), ((a 16), .inl (cJ, 16, .inr (.inl (fun i => vL (gR i)))))] := hD
  refine n_ifB_ne (tgt := 39) hx hb dX7_ahead_32 (by decide) (fun h32 => ?_) (fun h32 => Bool.noConfusion ((inB_t (by omega) (by omega)).symm.trans h32))
  refine lv_iload hx hb dX7_ahead_39 (lv_at hl 0 rfl) ?_
  refine n_if_eq (tgt := 48) hx hb (by unfold r32; decide) dX7_ahead_41 (by decide) (fun h41 => False.elim (by revert h41; decide)) (fun h41 => ?_)
  refine n_iconst hx hb dX7_ahead_44 ?_
  refine lv_goto (tgt := 49) hx hb dX7_ahead_45 (by decide) ?_
  have ct49 := c_X7_failsF l D tys m0 a ms es th
  refine k_goI (va_runV (As := [.int (jI 0)]) (rest := []) ⟨hx, hb, hml, hown, hts⟩ (ct49.2 _) (cwV 1 hts gX7_ahead_X7_fails rfl rfl rfl (by decide +kernel) ⟨Nat.le_of_ble_eq_true rfl, Nat.le_of_ble_eq_true rfl⟩) ⟨(k_pre hK hP hD (is := [0]) rfl rfl).1, va_recv hK.1 hP (ci := 7) (q0 := 0) rfl rfl, (k_pre hK hP hD (is := [0]) rfl rfl).2⟩ rfl rfl hl.1 rfl (lv_room (Nat.le_of_ble_eq_true rfl)) dX7_ahead_49 ⟨Nat.le_of_ble_eq_true rfl, Nat.le_of_ble_eq_true rfl⟩) ct49.1 hP hD hS hA [0] rfl rfl (fun H locs hP hD hS => ?_)
  have hP : va_P D vwCl [(m0, oR (jI ((ms : Nat) : Int)) (jI ((es : Nat) : Int)) (jI 0) a), ((a 1), .inl (cI, 42, .inl (fun i => vI (gM i)))), ((a 2), .inl (cI, 30, .inl (fun i => vI (gB i)))), ((a 3), .inl (cI, 6, .inl (fun i => jI ((gT i : Nat) : Int)))), ((a 5), .inl (cI, 6, .inl (fun i => jI ((gN i : Nat) : Int)))), ((a 6), .inl (cI, 1080, .inl (fun i => vI (gK i)))), ((a 7), .inl (cZ, 180, .inl (fun i => jI (iB (gD i))))), ((a 8), .inl (cJ, 105, .inr (.inl (fun i => vL (gH i))))), ((a 9), .inl (cJ, 105, .inr (.inl (fun i => vL (gU i))))), ((a 10), .inl (cJ, 90, .inr (.inl (fun i => vL (gF i))))), ((a 11), .inl (cZ, 30, .inl (fun i => jI (iB (gX i))))), ((a 12), .inl (cJ, 5, .inr (.inl (fun i => vL (gW i))))), ((a 14), .inl (cJ, 16, .inr (.inl (fun i => vL (gP i))))), ((a 15), .inl (cJ, 16, .inr (.inl (fun i => vL (gA i))))), ((a 16), .inl (cJ, 16, .inr (.inl (fun i => vL (gR i)))))] H := hP
  have hD : va_D A [(m0, oR (jI ((ms : Nat) : Int)) (jI ((es : Nat) : Int)) (jI 0) a), ((a 1), .inl (cI, 42, .inl (fun i => vI (gM i)))), ((a 2), .inl (cI, 30, .inl (fun i => vI (gB i)))), ((a 3), .inl (cI, 6, .inl (fun i => jI ((gT i : Nat) : Int)))), ((a 5), .inl (cI, 6, .inl (fun i => jI ((gN i : Nat) : Int)))), ((a 6), .inl (cI, 1080, .inl (fun i => vI (gK i)))), ((a 7), .inl (cZ, 180, .inl (fun i => jI (iB (gD i))))), ((a 8), .inl (cJ, 105, .inr (.inl (fun i => vL (gH i))))), ((a 9), .inl (cJ, 105, .inr (.inl (fun i => vL (gU i))))), ((a 10), .inl (cJ, 90, .inr (.inl (fun i => vL (gF i))))), ((a 11), .inl (cZ, 30, .inl (fun i => jI (iB (gX i))))), ((a 12), .inl (cJ, 5, .inr (.inl (fun i => vL (gW i))))), ((a 14), .inl (cJ, 16, .inr (.inl (fun i => vL (gP i))))), ((a 15), .inl (cJ, 16, .inr (.inl (fun i => vL (gA i))))), ((a 16), .inl (cJ, 16, .inr (.inl (fun i => vL (gR i)))))] := hD
  refine n_ifB_eq (tgt := 59) hx hb dX7_ahead_52 (by decide) (fun h52 => ?_) (fun h52 => Bool.noConfusion h52)
  refine lv_aload_n hx hb dX7_ahead_59 rfl (lv_at hl 1 rfl) ?_
  refine lv_iload_n hx hb dX7_ahead_60 rfl (lv_at hl 2 rfl) ?_
  refine lv_iload_n hx hb dX7_ahead_61 rfl (lv_at hl 3 rfl) ?_
  refine lv_iload_n hx hb dX7_ahead_62 rfl (lv_at hl 4 rfl) ?_
  have ctf := c_X7_far l D tys htI htJ htZ m0 a ms es (jI 0) gM gB gT gN gK gD gH gU gF gX gW gP gA gR ev times wh (by omega) (by omega) q5 qT qN htm st hbeh
  refine k_goE (va_runV (As := [.int (jI ((ev : Nat) : Int)), .int (jI ((times : Nat) : Int)), .int (jI ((wh : Nat) : Int))]) (rest := []) ⟨hx, hb, hml, hown, hts⟩ (ctf.2 _) (cwV 3 hts gX7_ahead_X7_far rfl rfl rfl (by decide +kernel) ⟨Nat.le_of_ble_eq_true rfl, Nat.le_of_ble_eq_true rfl⟩) ⟨(k_pre hK hP hD (is := [0, 1, 2, 3, 4, 5, 6, 7, 8, 9, 10, 11, 12, 13, 14]) rfl rfl).1, va_recv hK.1 hP (ci := 7) (q0 := 0) rfl rfl, (k_pre hK hP hD (is := [0, 1, 2, 3, 4, 5, 6, 7, 8, 9, 10, 11, 12, 13, 14]) rfl rfl).2⟩ rfl rfl hl.1 rfl (lv_room (Nat.le_of_ble_eq_true rfl)) dX7_ahead_63 ⟨Nat.le_of_ble_eq_true rfl, Nat.le_of_ble_eq_true rfl⟩) ctf.1 hP hD hS hA [0, 1, 2, 3, 4, 5, 6, 7, 8, 9, 10, 11, 12, 13, 14] rfl rfl (fun r u H locs hv hP hD hS => ?_)
  obtain ⟨gH', gU', gF', gX', gW', gP', gA', gR'⟩ := u
  have hP : va_P D vwCl [(m0, oR (jI ((ms : Nat) : Int)) (jI ((es : Nat) : Int)) (jI 0) a), ((a 1), .inl (cI, 42, .inl (fun i => vI (gM i)))), ((a 2), .inl (cI, 30, .inl (fun i => vI (gB i)))), ((a 3), .inl (cI, 6, .inl (fun i => jI ((gT i : Nat) : Int)))), ((a 5), .inl (cI, 6, .inl (fun i => jI ((gN i : Nat) : Int)))), ((a 6), .inl (cI, 1080, .inl (fun i => vI (gK i)))), ((a 7), .inl (cZ, 180, .inl (fun i => jI (iB (gD i))))), ((a 8), .inl (cJ, 105, .inr (.inl (fun i => vL (gH' i))))), ((a 9), .inl (cJ, 105, .inr (.inl (fun i => vL (gU' i))))), ((a 10), .inl (cJ, 90, .inr (.inl (fun i => vL (gF' i))))), ((a 11), .inl (cZ, 30, .inl (fun i => jI (iB (gX' i))))), ((a 12), .inl (cJ, 5, .inr (.inl (fun i => vL (gW' i))))), ((a 14), .inl (cJ, 16, .inr (.inl (fun i => vL (gP' i))))), ((a 15), .inl (cJ, 16, .inr (.inl (fun i => vL (gA' i))))), ((a 16), .inl (cJ, 16, .inr (.inl (fun i => vL (gR' i)))))] H := hP
  have hD : va_D A [(m0, oR (jI ((ms : Nat) : Int)) (jI ((es : Nat) : Int)) (jI 0) a), ((a 1), .inl (cI, 42, .inl (fun i => vI (gM i)))), ((a 2), .inl (cI, 30, .inl (fun i => vI (gB i)))), ((a 3), .inl (cI, 6, .inl (fun i => jI ((gT i : Nat) : Int)))), ((a 5), .inl (cI, 6, .inl (fun i => jI ((gN i : Nat) : Int)))), ((a 6), .inl (cI, 1080, .inl (fun i => vI (gK i)))), ((a 7), .inl (cZ, 180, .inl (fun i => jI (iB (gD i))))), ((a 8), .inl (cJ, 105, .inr (.inl (fun i => vL (gH' i))))), ((a 9), .inl (cJ, 105, .inr (.inl (fun i => vL (gU' i))))), ((a 10), .inl (cJ, 90, .inr (.inl (fun i => vL (gF' i))))), ((a 11), .inl (cZ, 30, .inl (fun i => jI (iB (gX' i))))), ((a 12), .inl (cJ, 5, .inr (.inl (fun i => vL (gW' i))))), ((a 14), .inl (cJ, 16, .inr (.inl (fun i => vL (gP' i))))), ((a 15), .inl (cJ, 16, .inr (.inl (fun i => vL (gA' i))))), ((a 16), .inl (cJ, 16, .inr (.inl (fun i => vL (gR' i)))))] := hD
  exact e_iret (gH', gU', gF', gX', gW', gP', gA', gR') hx hb hr hlocks dX7_ahead_66 hP hS hv

set_option maxHeartbeats 4000000 in
set_option maxRecDepth 100000 in
/--  -/
theorem c_X7_aheadAnew1 (l : Launch) (D : va_G) (tys : List (ClassId × FieldType)) {cI cJ cZ : ClassId} (htI : tys[0]? = some (cI, .int)) (htJ : tys[1]? = some (cJ, .long)) (htZ : tys[2]? = some (cZ, .boolean)) (m0 : Nat) (a : Nat → Nat) (ms es : Nat) (th : Int32) (q1 : ms ≤ 6) (q2 : es ≤ 6) (ev tt wh : Int) (q3 : r32 ev) (q4 : r32 tt) (q5 : r32 wh) (h9 : (inB 0 (((es : Nat) : Int) - 1) ev) = false) : CtI l D tys yX7_aheadAnew wsX7_aheadAnew 2 43 [.ref m0, .int (jI ev), .int (jI tt), .int (jI wh)] (jI 0) [(m0, oR (jI ((ms : Nat) : Int)) (jI ((es : Nat) : Int)) th a)] [(m0, oR (jI ((ms : Nat) : Int)) (jI ((es : Nat) : Int)) (jI 1) a)] := by
  refine CtI.of (cc := cX7_aheadAnew) (maxL := 5) (by decide +kernel) rfl rfl (Nat.le_of_ble_eq_true rfl) ?_
  intro p e s m below meth c A ls hcx hK hP hD hA hl
  obtain ⟨hx, hb, hr, hml, hown, hts, hlocks⟩ := hcx
  have hS : va_S A s.heap s.heap [] := va_S.rf
  have hown : s.vm.findClass RX7 = some m.cls := hown
  have hl : lv_has ls 5 [(0, .ref m0), (1, .int (jI ev)), (2, .int (jI tt)), (3, .int (jI wh))] := hl
  refine lv_iload_n hx hb dX7_aheadAnew_0 rfl (lv_at hl 2 rfl) ?_
  refine n_iconst hx hb dX7_aheadAnew_1 ?_
  refine n_sipush hx hb dX7_aheadAnew_2 (by decide) ?_
  have ct5 := c_X7_isIn l D tys tt 0 200 (by first | assumption | exact r32_z _ | (unfold r32; omega)) (by first | assumption | exact r32_z _ | (unfold r32; omega)) (by first | assumption | exact r32_z _ | (unfold r32; omega))
  refine k_goI (va_runS (As := [.int (jI tt), .int (jI 0), .int (jI 200)]) (rest := []) ⟨hx, hb, hml, hown, hts⟩ (ct5.2 _) (va_cwS 3 hts gX7_aheadAnew_X7_isIn rfl rfl rfl (by decide +kernel) ⟨Nat.le_of_ble_eq_true rfl, Nat.le_of_ble_eq_true rfl⟩) (k_pre hK hP hD (is := []) rfl rfl) rfl rfl hl.1 rfl (lv_room (Nat.le_of_ble_eq_true rfl)) dX7_aheadAnew_5 ⟨Nat.le_of_ble_eq_true rfl, Nat.le_of_ble_eq_true rfl⟩) ct5.1 hP hD hS hA [] rfl rfl (fun H locs hP hD hS => ?_)
  have hP : va_P D vwCl [(m0, oR (jI ((ms : Nat) : Int)) (jI ((es : Nat) : Int)) th a)] H := hP
  have hD : va_D A [(m0, oR (jI ((ms : Nat) : Int)) (jI ((es : Nat) : Int)) th a)] := hD
  refine n_ifB_eq (tgt := 24) hx hb dX7_aheadAnew_8 (by decide) (fun h8 => ?_) (fun h8 => ?_)
  · refine n_iconst hx hb dX7_aheadAnew_24 ?_
    refine lv_istore (lv' := [(4, .int (jI 0)), (0, .ref m0), (1, .int (jI ev)), (2, .int (jI tt)), (3, .int (jI wh))]) hx hb dX7_aheadAnew_25 hl (by decide) rfl (fun ls hl => ?_)
    refine lv_aload_n hx hb dX7_aheadAnew_27 rfl (lv_at hl 1 rfl) ?_
    refine lv_aload_n hx hb dX7_aheadAnew_28 rfl (lv_at hl 1 rfl) ?_
    refine lv_iload_n hx hb dX7_aheadAnew_29 rfl (lv_at hl 2 rfl) ?_
    have ct30 := c_X7_isOne l D tys m0 a ms es th ev (by first | assumption | exact r32_z _ | (unfold r32; omega)) (by omega) (by omega)
    refine k_goI (va_runV (As := [.int (jI ev)]) (rest := [.ref m0]) ⟨hx, hb, hml, hown, hts⟩ (ct30.2 _) (cwV 1 hts gX7_aheadAnew_X7_isOne rfl rfl rfl (by decide +kernel) ⟨Nat.le_of_ble_eq_true rfl, Nat.le_of_ble_eq_true rfl⟩) ⟨(k_pre hK hP hD (is := [0]) rfl rfl).1, va_recv hK.1 hP (ci := 7) (q0 := 0) rfl rfl, (k_pre hK hP hD (is := [0]) rfl rfl).2⟩ rfl rfl hl.1 rfl (lv_room (Nat.le_of_ble_eq_true rfl)) dX7_aheadAnew_30 ⟨Nat.le_of_ble_eq_true rfl, Nat.le_of_ble_eq_true rfl⟩) ct30.1 hP hD hS hA [0] rfl rfl (fun H locs hP hD hS => ?_)
    have hP : va_P D vwCl [(m0, oR (jI ((ms : Nat) : Int)) (jI ((es : Nat) : Int)) th a)] H := hP
    have hD : va_D A [(m0, oR (jI ((ms : Nat) : Int)) (jI ((es : Nat) : Int)) th a)] := hD
    refine n_ifB_ne (tgt := 40) hx hb dX7_aheadAnew_33 (by decide) (fun h33 => Bool.noConfusion (h9.symm.trans h33)) (fun h33 => ?_)
    refine n_iconst hx hb dX7_aheadAnew_36 ?_
    refine lv_goto (tgt := 50) hx hb dX7_aheadAnew_37 (by decide) ?_
    have ct50 := c_X7_failsT l D tys m0 a ms es th 1 (by unfold r32; decide) (by decide)
    refine k_goI (va_runV (As := [.int (jI 1)]) (rest := []) ⟨hx, hb, hml, hown, hts⟩ (ct50.2 _) (cwV 1 hts gX7_aheadAnew_X7_fails rfl rfl rfl (by decide +kernel) ⟨Nat.le_of_ble_eq_true rfl, Nat.le_of_ble_eq_true rfl⟩) ⟨(k_pre hK hP hD (is := [0]) rfl rfl).1, va_recv hK.1 hP (ci := 7) (q0 := 0) rfl rfl, (k_pre hK hP hD (is := [0]) rfl rfl).2⟩ rfl rfl hl.1 rfl (lv_room (Nat.le_of_ble_eq_true rfl)) dX7_aheadAnew_50 ⟨Nat.le_of_ble_eq_true rfl, Nat.le_of_ble_eq_true rfl⟩) ct50.1 hP hD hS hA [0] rfl rfl (fun H locs hP hD hS => ?_)
    have hP : va_P D vwCl [(m0, oR (jI ((ms : Nat) : Int)) (jI ((es : Nat) : Int)) (jI 1) a)] H := hP
    have hD : va_D A [(m0, oR (jI ((ms : Nat) : Int)) (jI ((es : Nat) : Int)) (jI 1) a)] := hD
    refine n_ifB_eq (tgt := 60) hx hb dX7_aheadAnew_53 (by decide) (fun h53 => Bool.noConfusion h53) (fun h53 => ?_)
    refine n_iconst hx hb dX7_aheadAnew_56 ?_
    refine lv_goto (tgt := 67) hx hb dX7_aheadAnew_57 (by decide) ?_
    exact k_iret hx hb hr hlocks dX7_aheadAnew_67 hP hS rfl
  · refine lv_iload_n hx hb dX7_aheadAnew_11 rfl (lv_at hl 3 rfl) ?_
    refine n_iconst hx hb dX7_aheadAnew_12 ?_
    refine n_iconst hx hb dX7_aheadAnew_13 ?_
    have ct14 := c_X7_isIn l D tys wh 0 4 (by first | assumption | exact r32_z _ | (unfold r32; omega)) (by first | assumption | exact r32_z _ | (unfold r32; omega)) (by first | assumption | exact r32_z _ | (unfold r32; omega))
    refine k_goI (va_runS (As := [.int (jI wh), .int (jI 0), .int (jI 4)]) (rest := []) ⟨hx, hb, hml, hown, hts⟩ (ct14.2 _) (va_cwS 3 hts gX7_aheadAnew_X7_isIn rfl rfl rfl (by decide +kernel) ⟨Nat.le_of_ble_eq_true rfl, Nat.le_of_ble_eq_true rfl⟩) (k_pre hK hP hD (is := []) rfl rfl) rfl rfl hl.1 rfl (lv_room (Nat.le_of_ble_eq_true rfl)) dX7_aheadAnew_14 ⟨Nat.le_of_ble_eq_true rfl, Nat.le_of_ble_eq_true rfl⟩) ct14.1 hP hD hS hA [] rfl rfl (fun H locs hP hD hS => ?_)
    have hP : va_P D vwCl [(m0, oR (jI ((ms : Nat) : Int)) (jI ((es : Nat) : Int)) th a)] H := hP
    have hD : va_D A [(m0, oR (jI ((ms : Nat) : Int)) (jI ((es : Nat) : Int)) th a)] := hD
    refine n_ifB_eq (tgt := 24) hx hb dX7_aheadAnew_17 (by decide) (fun h17 => ?_) (fun h17 => ?_)
    · refine n_iconst hx hb dX7_aheadAnew_24 ?_
      refine lv_istore (lv' := [(4, .int (jI 0)), (0, .ref m0), (1, .int (jI ev)), (2, .int (jI tt)), (3, .int (jI wh))]) hx hb dX7_aheadAnew_25 hl (by decide) rfl (fun ls hl => ?_)
      refine lv_aload_n hx hb dX7_aheadAnew_27 rfl (lv_at hl 1 rfl) ?_
      refine lv_aload_n hx hb dX7_aheadAnew_28 rfl (lv_at hl 1 rfl) ?_
      refine lv_iload_n hx hb dX7_aheadAnew_29 rfl (lv_at hl 2 rfl) ?_
      have ct30 := c_X7_isOne l D tys m0 a ms es th ev (by first | assumption | exact r32_z _ | (unfold r32; omega)) (by omega) (by omega)
      refine k_goI (va_runV (As := [.int (jI ev)]) (rest := [.ref m0]) ⟨hx, hb, hml, hown, hts⟩ (ct30.2 _) (cwV 1 hts gX7_aheadAnew_X7_isOne rfl rfl rfl (by decide +kernel) ⟨Nat.le_of_ble_eq_true rfl, Nat.le_of_ble_eq_true rfl⟩) ⟨(k_pre hK hP hD (is := [0]) rfl rfl).1, va_recv hK.1 hP (ci := 7) (q0 := 0) rfl rfl, (k_pre hK hP hD (is := [0]) rfl rfl).2⟩ rfl rfl hl.1 rfl (lv_room (Nat.le_of_ble_eq_true rfl)) dX7_aheadAnew_30 ⟨Nat.le_of_ble_eq_true rfl, Nat.le_of_ble_eq_true rfl⟩) ct30.1 hP hD hS hA [0] rfl rfl (fun H locs hP hD hS => ?_)
      have hP : va_P D vwCl [(m0, oR (jI ((ms : Nat) : Int)) (jI ((es : Nat) : Int)) th a)] H := hP
      have hD : va_D A [(m0, oR (jI ((ms : Nat) : Int)) (jI ((es : Nat) : Int)) th a)] := hD
      refine n_ifB_ne (tgt := 40) hx hb dX7_aheadAnew_33 (by decide) (fun h33 => Bool.noConfusion (h9.symm.trans h33)) (fun h33 => ?_)
      refine n_iconst hx hb dX7_aheadAnew_36 ?_
      refine lv_goto (tgt := 50) hx hb dX7_aheadAnew_37 (by decide) ?_
      have ct50 := c_X7_failsT l D tys m0 a ms es th 1 (by unfold r32; decide) (by decide)
      refine k_goI (va_runV (As := [.int (jI 1)]) (rest := []) ⟨hx, hb, hml, hown, hts⟩ (ct50.2 _) (cwV 1 hts gX7_aheadAnew_X7_fails rfl rfl rfl (by decide +kernel) ⟨Nat.le_of_ble_eq_true rfl, Nat.le_of_ble_eq_true rfl⟩) ⟨(k_pre hK hP hD (is := [0]) rfl rfl).1, va_recv hK.1 hP (ci := 7) (q0 := 0) rfl rfl, (k_pre hK hP hD (is := [0]) rfl rfl).2⟩ rfl rfl hl.1 rfl (lv_room (Nat.le_of_ble_eq_true rfl)) dX7_aheadAnew_50 ⟨Nat.le_of_ble_eq_true rfl, Nat.le_of_ble_eq_true rfl⟩) ct50.1 hP hD hS hA [0] rfl rfl (fun H locs hP hD hS => ?_)
      have hP : va_P D vwCl [(m0, oR (jI ((ms : Nat) : Int)) (jI ((es : Nat) : Int)) (jI 1) a)] H := hP
      have hD : va_D A [(m0, oR (jI ((ms : Nat) : Int)) (jI ((es : Nat) : Int)) (jI 1) a)] := hD
      refine n_ifB_eq (tgt := 60) hx hb dX7_aheadAnew_53 (by decide) (fun h53 => Bool.noConfusion h53) (fun h53 => ?_)
      refine n_iconst hx hb dX7_aheadAnew_56 ?_
      refine lv_goto (tgt := 67) hx hb dX7_aheadAnew_57 (by decide) ?_
      exact k_iret hx hb hr hlocks dX7_aheadAnew_67 hP hS rfl
    · refine n_iconst hx hb dX7_aheadAnew_20 ?_
      refine lv_goto (tgt := 25) hx hb dX7_aheadAnew_21 (by decide) ?_
      refine lv_istore (lv' := [(4, .int (jI 1)), (0, .ref m0), (1, .int (jI ev)), (2, .int (jI tt)), (3, .int (jI wh))]) hx hb dX7_aheadAnew_25 hl (by decide) rfl (fun ls hl => ?_)
      refine lv_aload_n hx hb dX7_aheadAnew_27 rfl (lv_at hl 1 rfl) ?_
      refine lv_aload_n hx hb dX7_aheadAnew_28 rfl (lv_at hl 1 rfl) ?_
      refine lv_iload_n hx hb dX7_aheadAnew_29 rfl (lv_at hl 2 rfl) ?_
      have ct30 := c_X7_isOne l D tys m0 a ms es th ev (by first | assumption | exact r32_z _ | (unfold r32; omega)) (by omega) (by omega)
      refine k_goI (va_runV (As := [.int (jI ev)]) (rest := [.ref m0]) ⟨hx, hb, hml, hown, hts⟩ (ct30.2 _) (cwV 1 hts gX7_aheadAnew_X7_isOne rfl rfl rfl (by decide +kernel) ⟨Nat.le_of_ble_eq_true rfl, Nat.le_of_ble_eq_true rfl⟩) ⟨(k_pre hK hP hD (is := [0]) rfl rfl).1, va_recv hK.1 hP (ci := 7) (q0 := 0) rfl rfl, (k_pre hK hP hD (is := [0]) rfl rfl).2⟩ rfl rfl hl.1 rfl (lv_room (Nat.le_of_ble_eq_true rfl)) dX7_aheadAnew_30 ⟨Nat.le_of_ble_eq_true rfl, Nat.le_of_ble_eq_true rfl⟩) ct30.1 hP hD hS hA [0] rfl rfl (fun H locs hP hD hS => ?_)
      have hP : va_P D vwCl [(m0, oR (jI ((ms : Nat) : Int)) (jI ((es : Nat) : Int)) th a)] H := hP
      have hD : va_D A [(m0, oR (jI ((ms : Nat) : Int)) (jI ((es : Nat) : Int)) th a)] := hD
      refine n_ifB_ne (tgt := 40) hx hb dX7_aheadAnew_33 (by decide) (fun h33 => Bool.noConfusion (h9.symm.trans h33)) (fun h33 => ?_)
      refine n_iconst hx hb dX7_aheadAnew_36 ?_
      refine lv_goto (tgt := 50) hx hb dX7_aheadAnew_37 (by decide) ?_
      have ct50 := c_X7_failsT l D tys m0 a ms es th 1 (by unfold r32; decide) (by decide)
      refine k_goI (va_runV (As := [.int (jI 1)]) (rest := []) ⟨hx, hb, hml, hown, hts⟩ (ct50.2 _) (cwV 1 hts gX7_aheadAnew_X7_fails rfl rfl rfl (by decide +kernel) ⟨Nat.le_of_ble_eq_true rfl, Nat.le_of_ble_eq_true rfl⟩) ⟨(k_pre hK hP hD (is := [0]) rfl rfl).1, va_recv hK.1 hP (ci := 7) (q0 := 0) rfl rfl, (k_pre hK hP hD (is := [0]) rfl rfl).2⟩ rfl rfl hl.1 rfl (lv_room (Nat.le_of_ble_eq_true rfl)) dX7_aheadAnew_50 ⟨Nat.le_of_ble_eq_true rfl, Nat.le_of_ble_eq_true rfl⟩) ct50.1 hP hD hS hA [0] rfl rfl (fun H locs hP hD hS => ?_)
      have hP : va_P D vwCl [(m0, oR (jI ((ms : Nat) : Int)) (jI ((es : Nat) : Int)) (jI 1) a)] H := hP
      have hD : va_D A [(m0, oR (jI ((ms : Nat) : Int)) (jI ((es : Nat) : Int)) (jI 1) a)] := hD
      refine n_ifB_eq (tgt := 60) hx hb dX7_aheadAnew_53 (by decide) (fun h53 => Bool.noConfusion h53) (fun h53 => ?_)
      refine n_iconst hx hb dX7_aheadAnew_56 ?_
      refine lv_goto (tgt := 67) hx hb dX7_aheadAnew_57 (by decide) ?_
      exact k_iret hx hb hr hlocks dX7_aheadAnew_67 hP hS rfl

set_option maxHeartbeats 4000000 in
set_option maxRecDepth 100000 in
/--  -/
theorem c_X7_aheadAnew2 (l : Launch) (D : va_G) (tys : List (ClassId × FieldType)) {cI cJ cZ : ClassId} (htI : tys[0]? = some (cI, .int)) (htJ : tys[1]? = some (cJ, .long)) (htZ : tys[2]? = some (cZ, .boolean)) (m0 : Nat) (a : Nat → Nat) (ms es : Nat) (th : Int32) (q1 : ms ≤ 6) (q2 : es ≤ 6) (ev : Nat) (tt wh : Int) (q3 : ev < es) (q4 : r32 tt) (q5 : r32 wh) (hbad : ((inB 0 200 tt) && (inB 0 4 wh)) = false) : CtI l D tys yX7_aheadAnew wsX7_aheadAnew 2 43 [.ref m0, .int (jI ((ev : Nat) : Int)), .int (jI tt), .int (jI wh)] (jI 0) [(m0, oR (jI ((ms : Nat) : Int)) (jI ((es : Nat) : Int)) th a)] [(m0, oR (jI ((ms : Nat) : Int)) (jI ((es : Nat) : Int)) (jI 2) a)] := by
  refine CtI.of (cc := cX7_aheadAnew) (maxL := 5) (by decide +kernel) rfl rfl (Nat.le_of_ble_eq_true rfl) ?_
  intro p e s m below meth c A ls hcx hK hP hD hA hl
  obtain ⟨hx, hb, hr, hml, hown, hts, hlocks⟩ := hcx
  have hS : va_S A s.heap s.heap [] := va_S.rf
  have hown : s.vm.findClass RX7 = some m.cls := hown
  have hl : lv_has ls 5 [(0, .ref m0), (1, .int (jI ((ev : Nat) : Int))), (2, .int (jI tt)), (3, .int (jI wh))] := hl
  refine lv_iload_n hx hb dX7_aheadAnew_0 rfl (lv_at hl 2 rfl) ?_
  refine n_iconst hx hb dX7_aheadAnew_1 ?_
  refine n_sipush hx hb dX7_aheadAnew_2 (by decide) ?_
  have ct5 := c_X7_isIn l D tys tt 0 200 (by first | assumption | exact r32_z _ | (unfold r32; omega)) (by first | assumption | exact r32_z _ | (unfold r32; omega)) (by first | assumption | exact r32_z _ | (unfold r32; omega))
  refine k_goI (va_runS (As := [.int (jI tt), .int (jI 0), .int (jI 200)]) (rest := []) ⟨hx, hb, hml, hown, hts⟩ (ct5.2 _) (va_cwS 3 hts gX7_aheadAnew_X7_isIn rfl rfl rfl (by decide +kernel) ⟨Nat.le_of_ble_eq_true rfl, Nat.le_of_ble_eq_true rfl⟩) (k_pre hK hP hD (is := []) rfl rfl) rfl rfl hl.1 rfl (lv_room (Nat.le_of_ble_eq_true rfl)) dX7_aheadAnew_5 ⟨Nat.le_of_ble_eq_true rfl, Nat.le_of_ble_eq_true rfl⟩) ct5.1 hP hD hS hA [] rfl rfl (fun H locs hP hD hS => ?_)
  have hP : va_P D vwCl [(m0, oR (jI ((ms : Nat) : Int)) (jI ((es : Nat) : Int)) th a)] H := hP
  have hD : va_D A [(m0, oR (jI ((ms : Nat) : Int)) (jI ((es : Nat) : Int)) th a)] := hD
  refine n_ifB_eq (tgt := 24) hx hb dX7_aheadAnew_8 (by decide) (fun h8 => ?_) (fun h8 => ?_)
  · refine n_iconst hx hb dX7_aheadAnew_24 ?_
    refine lv_istore (lv' := [(4, .int (jI 0)), (0, .ref m0), (1, .int (jI ((ev : Nat) : Int))), (2, .int (jI tt)), (3, .int (jI wh))]) hx hb dX7_aheadAnew_25 hl (by decide) rfl (fun ls hl => ?_)
    refine lv_aload_n hx hb dX7_aheadAnew_27 rfl (lv_at hl 1 rfl) ?_
    refine lv_aload_n hx hb dX7_aheadAnew_28 rfl (lv_at hl 1 rfl) ?_
    refine lv_iload_n hx hb dX7_aheadAnew_29 rfl (lv_at hl 2 rfl) ?_
    have ct30 := c_X7_isOne l D tys m0 a ms es th ((ev : Nat) : Int) (by first | assumption | exact r32_z _ | (unfold r32; omega)) (by omega) (by omega)
    refine k_goI (va_runV (As := [.int (jI ((ev : Nat) : Int))]) (rest := [.ref m0]) ⟨hx, hb, hml, hown, hts⟩ (ct30.2 _) (cwV 1 hts gX7_aheadAnew_X7_isOne rfl rfl rfl (by decide +kernel) ⟨Nat.le_of_ble_eq_true rfl, Nat.le_of_ble_eq_true rfl⟩) ⟨(k_pre hK hP hD (is := [0]) rfl rfl).1, va_recv hK.1 hP (ci := 7) (q0 := 0) rfl rfl, (k_pre hK hP hD (is := [0]) rfl rfl).2⟩ rfl rfl hl.1 rfl (lv_room (Nat.le_of_ble_eq_true rfl)) dX7_aheadAnew_30 ⟨Nat.le_of_ble_eq_true rfl, Nat.le_of_ble_eq_true rfl⟩) ct30.1 hP hD hS hA [0] rfl rfl (fun H locs hP hD hS => ?_)
    have hP : va_P D vwCl [(m0, oR (jI ((ms : Nat) : Int)) (jI ((es : Nat) : Int)) th a)] H := hP
    have hD : va_D A [(m0, oR (jI ((ms : Nat) : Int)) (jI ((es : Nat) : Int)) th a)] := hD
    refine n_ifB_ne (tgt := 40) hx hb dX7_aheadAnew_33 (by decide) (fun h33 => ?_) (fun h33 => Bool.noConfusion ((inB_t (by omega) (by omega)).symm.trans h33))
    refine lv_iload hx hb dX7_aheadAnew_40 (lv_at hl 0 rfl) ?_
    refine n_if_eq (tgt := 49) hx hb (by unfold r32; decide) dX7_aheadAnew_42 (by decide) (fun h42 => ?_) (fun h42 => False.elim (by revert h42; decide))
    refine n_iconst hx hb dX7_aheadAnew_49 ?_
    have ct50 := c_X7_failsT l D tys m0 a ms es th 2 (by unfold r32; decide) (by decide)
    refine k_goI (va_runV (As := [.int (jI 2)]) (rest := []) ⟨hx, hb, hml, hown, hts⟩ (ct50.2 _) (cwV 1 hts gX7_aheadAnew_X7_fails rfl rfl rfl (by decide +kernel) ⟨Nat.le_of_ble_eq_true rfl, Nat.le_of_ble_eq_true rfl⟩) ⟨(k_pre hK hP hD (is := [0]) rfl rfl).1, va_recv hK.1 hP (ci := 7) (q0 := 0) rfl rfl, (k_pre hK hP hD (is := [0]) rfl rfl).2⟩ rfl rfl hl.1 rfl (lv_room (Nat.le_of_ble_eq_true rfl)) dX7_aheadAnew_50 ⟨Nat.le_of_ble_eq_true rfl, Nat.le_of_ble_eq_true rfl⟩) ct50.1 hP hD hS hA [0] rfl rfl (fun H locs hP hD hS => ?_)
    have hP : va_P D vwCl [(m0, oR (jI ((ms : Nat) : Int)) (jI ((es : Nat) : Int)) (jI 2) a)] H := hP
    have hD : va_D A [(m0, oR (jI ((ms : Nat) : Int)) (jI ((es : Nat) : Int)) (jI 2) a)] := hD
    refine n_ifB_eq (tgt := 60) hx hb dX7_aheadAnew_53 (by decide) (fun h53 => Bool.noConfusion h53) (fun h53 => ?_)
    refine n_iconst hx hb dX7_aheadAnew_56 ?_
    refine lv_goto (tgt := 67) hx hb dX7_aheadAnew_57 (by decide) ?_
    exact k_iret hx hb hr hlocks dX7_aheadAnew_67 hP hS rfl
  · refine lv_iload_n hx hb dX7_aheadAnew_11 rfl (lv_at hl 3 rfl) ?_
    refine n_iconst hx hb dX7_aheadAnew_12 ?_
    refine n_iconst hx hb dX7_aheadAnew_13 ?_
    have ct14 := c_X7_isIn l D tys wh 0 4 (by first | assumption | exact r32_z _ | (unfold r32; omega)) (by first | assumption | exact r32_z _ | (unfold r32; omega)) (by first | assumption | exact r32_z _ | (unfold r32; omega))
    refine k_goI (va_runS (As := [.int (jI wh), .int (jI 0), .int (jI 4)]) (rest := []) ⟨hx, hb, hml, hown, hts⟩ (ct14.2 _) (va_cwS 3 hts gX7_aheadAnew_X7_isIn rfl rfl rfl (by decide +kernel) ⟨Nat.le_of_ble_eq_true rfl, Nat.le_of_ble_eq_true rfl⟩) (k_pre hK hP hD (is := []) rfl rfl) rfl rfl hl.1 rfl (lv_room (Nat.le_of_ble_eq_true rfl)) dX7_aheadAnew_14 ⟨Nat.le_of_ble_eq_true rfl, Nat.le_of_ble_eq_true rfl⟩) ct14.1 hP hD hS hA [] rfl rfl (fun H locs hP hD hS => ?_)
    have hP : va_P D vwCl [(m0, oR (jI ((ms : Nat) : Int)) (jI ((es : Nat) : Int)) th a)] H := hP
    have hD : va_D A [(m0, oR (jI ((ms : Nat) : Int)) (jI ((es : Nat) : Int)) th a)] := hD
    refine n_ifB_eq (tgt := 24) hx hb dX7_aheadAnew_17 (by decide) (fun h17 => ?_) (fun h17 => ?_)
    · refine n_iconst hx hb dX7_aheadAnew_24 ?_
      refine lv_istore (lv' := [(4, .int (jI 0)), (0, .ref m0), (1, .int (jI ((ev : Nat) : Int))), (2, .int (jI tt)), (3, .int (jI wh))]) hx hb dX7_aheadAnew_25 hl (by decide) rfl (fun ls hl => ?_)
      refine lv_aload_n hx hb dX7_aheadAnew_27 rfl (lv_at hl 1 rfl) ?_
      refine lv_aload_n hx hb dX7_aheadAnew_28 rfl (lv_at hl 1 rfl) ?_
      refine lv_iload_n hx hb dX7_aheadAnew_29 rfl (lv_at hl 2 rfl) ?_
      have ct30 := c_X7_isOne l D tys m0 a ms es th ((ev : Nat) : Int) (by first | assumption | exact r32_z _ | (unfold r32; omega)) (by omega) (by omega)
      refine k_goI (va_runV (As := [.int (jI ((ev : Nat) : Int))]) (rest := [.ref m0]) ⟨hx, hb, hml, hown, hts⟩ (ct30.2 _) (cwV 1 hts gX7_aheadAnew_X7_isOne rfl rfl rfl (by decide +kernel) ⟨Nat.le_of_ble_eq_true rfl, Nat.le_of_ble_eq_true rfl⟩) ⟨(k_pre hK hP hD (is := [0]) rfl rfl).1, va_recv hK.1 hP (ci := 7) (q0 := 0) rfl rfl, (k_pre hK hP hD (is := [0]) rfl rfl).2⟩ rfl rfl hl.1 rfl (lv_room (Nat.le_of_ble_eq_true rfl)) dX7_aheadAnew_30 ⟨Nat.le_of_ble_eq_true rfl, Nat.le_of_ble_eq_true rfl⟩) ct30.1 hP hD hS hA [0] rfl rfl (fun H locs hP hD hS => ?_)
      have hP : va_P D vwCl [(m0, oR (jI ((ms : Nat) : Int)) (jI ((es : Nat) : Int)) th a)] H := hP
      have hD : va_D A [(m0, oR (jI ((ms : Nat) : Int)) (jI ((es : Nat) : Int)) th a)] := hD
      refine n_ifB_ne (tgt := 40) hx hb dX7_aheadAnew_33 (by decide) (fun h33 => ?_) (fun h33 => Bool.noConfusion ((inB_t (by omega) (by omega)).symm.trans h33))
      refine lv_iload hx hb dX7_aheadAnew_40 (lv_at hl 0 rfl) ?_
      refine n_if_eq (tgt := 49) hx hb (by unfold r32; decide) dX7_aheadAnew_42 (by decide) (fun h42 => ?_) (fun h42 => False.elim (by revert h42; decide))
      refine n_iconst hx hb dX7_aheadAnew_49 ?_
      have ct50 := c_X7_failsT l D tys m0 a ms es th 2 (by unfold r32; decide) (by decide)
      refine k_goI (va_runV (As := [.int (jI 2)]) (rest := []) ⟨hx, hb, hml, hown, hts⟩ (ct50.2 _) (cwV 1 hts gX7_aheadAnew_X7_fails rfl rfl rfl (by decide +kernel) ⟨Nat.le_of_ble_eq_true rfl, Nat.le_of_ble_eq_true rfl⟩) ⟨(k_pre hK hP hD (is := [0]) rfl rfl).1, va_recv hK.1 hP (ci := 7) (q0 := 0) rfl rfl, (k_pre hK hP hD (is := [0]) rfl rfl).2⟩ rfl rfl hl.1 rfl (lv_room (Nat.le_of_ble_eq_true rfl)) dX7_aheadAnew_50 ⟨Nat.le_of_ble_eq_true rfl, Nat.le_of_ble_eq_true rfl⟩) ct50.1 hP hD hS hA [0] rfl rfl (fun H locs hP hD hS => ?_)
      have hP : va_P D vwCl [(m0, oR (jI ((ms : Nat) : Int)) (jI ((es : Nat) : Int)) (jI 2) a)] H := hP
      have hD : va_D A [(m0, oR (jI ((ms : Nat) : Int)) (jI ((es : Nat) : Int)) (jI 2) a)] := hD
      refine n_ifB_eq (tgt := 60) hx hb dX7_aheadAnew_53 (by decide) (fun h53 => Bool.noConfusion h53) (fun h53 => ?_)
      refine n_iconst hx hb dX7_aheadAnew_56 ?_
      refine lv_goto (tgt := 67) hx hb dX7_aheadAnew_57 (by decide) ?_
      exact k_iret hx hb hr hlocks dX7_aheadAnew_67 hP hS rfl
    · exact absurd hbad (by rw [h8, h17]; decide)

set_option maxHeartbeats 8000000 in
set_option maxRecDepth 100000 in
/--  -/
theorem c_X7_aheadAnew0 (l : Launch) (D : va_G) (tys : List (ClassId × FieldType)) {cI cJ cZ : ClassId} (htI : tys[0]? = some (cI, .int)) (htJ : tys[1]? = some (cJ, .long)) (htZ : tys[2]? = some (cZ, .boolean)) (m0 : Nat) (a : Nat → Nat) (ms es : Nat) (th : Int32) (gM : Nat → Zp) (gB : Nat → Zp) (gT : Nat → Nat) (gN : Nat → Nat) (gK : Nat → Zp) (gD : Nat → Bool) (gH : Nat → Zp) (gU : Nat → Zp) (gF : Nat → Zp) (gX : Nat → Bool) (gW : Nat → Zp) (gP : Nat → Zp) (gA : Nat → Zp) (gR : Nat → Zp) (q1 : ms ≤ 6) (q2 : es ≤ 6) (ev times wh : Nat) (q3 : ev < es) (q4 : times ≤ 200) (q5 : wh ≤ 4) (qT : gT ev ≤ 20) (qN : gN ev ≤ 30) (htm : ∀ k, k < gN ev → (gK (6 * (30 * ev + k) + 0)).val ≤ gT ev) (st : S5) (hbeh : beh (fun i => gM (7 * ev + i)) (s5at gB ev) (fun k c => gK (6 * (30 * ev + k) + c)) (fun k => gD (30 * ev + k)) (gN ev) (gT ev) = some st)  : CtE (S := (Nat → Zp) × (Nat → Zp) × (Nat → Zp) × (Nat → Bool) × (Nat → Zp) × (Nat → Zp) × (Nat → Zp) × (Nat → Zp)) l D tys yX7_aheadAnew wsX7_aheadAnew 5 148 [.ref m0, .int (jI ((ev : Nat) : Int)), .int (jI ((times : Nat) : Int)), .int (jI ((wh : Nat) : Int))] (fun (r : Int32) (_ : (Nat → Zp) × (Nat → Zp) × (Nat → Zp) × (Nat → Bool) × (Nat → Zp) × (Nat → Zp) × (Nat → Zp) × (Nat → Zp)) => r = vI (comp5 (itN (prd (fun i => gM (7 * ev + i))) times st) wh)) [(m0, oR (jI ((ms : Nat) : Int)) (jI ((es : Nat) : Int)) th a), ((a 1), .inl (cI, 42, .inl (fun i => vI (gM i)))), ((a 2), .inl (cI, 30, .inl (fun i => vI (gB i)))), ((a 3), .inl (cI, 6, .inl (fun i => jI ((gT i : Nat) : Int)))), ((a 5), .inl (cI, 6, .inl (fun i => jI ((gN i : Nat) : Int)))), ((a 6), .inl (cI, 1080, .inl (fun i => vI (gK i)))), ((a 7), .inl (cZ, 180, .inl (fun i => jI (iB (gD i))))), ((a 8), .inl (cJ, 105, .inr (.inl (fun i => vL (gH i))))), ((a 9), .inl (cJ, 105, .inr (.inl (fun i => vL (gU i))))), ((a 10), .inl (cJ, 90, .inr (.inl (fun i => vL (gF i))))), ((a 11), .inl (cZ, 30, .inl (fun i => jI (iB (gX i))))), ((a 12), .inl (cJ, 5, .inr (.inl (fun i => vL (gW i))))), ((a 14), .inl (cJ, 16, .inr (.inl (fun i => vL (gP i))))), ((a 15), .inl (cJ, 16, .inr (.inl (fun i => vL (gA i))))), ((a 16), .inl (cJ, 16, .inr (.inl (fun i => vL (gR i)))))] (fun u => [(m0, oR (jI ((ms : Nat) : Int)) (jI ((es : Nat) : Int)) (jI 0) a), ((a 1), .inl (cI, 42, .inl (fun i => vI (gM i)))), ((a 2), .inl (cI, 30, .inl (fun i => vI (gB i)))), ((a 3), .inl (cI, 6, .inl (fun i => jI ((gT i : Nat) : Int)))), ((a 5), .inl (cI, 6, .inl (fun i => jI ((gN i : Nat) : Int)))), ((a 6), .inl (cI, 1080, .inl (fun i => vI (gK i)))), ((a 7), .inl (cZ, 180, .inl (fun i => jI (iB (gD i))))), ((a 8), .inl (cJ, 105, .inr (.inl (fun i => vL (u.1 i))))), ((a 9), .inl (cJ, 105, .inr (.inl (fun i => vL (u.2.1 i))))), ((a 10), .inl (cJ, 90, .inr (.inl (fun i => vL (u.2.2.1 i))))), ((a 11), .inl (cZ, 30, .inl (fun i => jI (iB (u.2.2.2.1 i))))), ((a 12), .inl (cJ, 5, .inr (.inl (fun i => vL (u.2.2.2.2.1 i))))), ((a 14), .inl (cJ, 16, .inr (.inl (fun i => vL (u.2.2.2.2.2.1 i))))), ((a 15), .inl (cJ, 16, .inr (.inl (fun i => vL (u.2.2.2.2.2.2.1 i))))), ((a 16), .inl (cJ, 16, .inr (.inl (fun i => vL (u.2.2.2.2.2.2.2 i)))))]) := by
  refine CtE.of (cc := cX7_aheadAnew) (maxL := 5) (by decide +kernel) rfl (fun _ => rfl) (Nat.le_of_ble_eq_true rfl) ?_
  intro p e s m below meth c A ls hcx hK hP hD hA hl
  obtain ⟨hx, hb, hr, hml, hown, hts, hlocks⟩ := hcx
  have hS : va_S A s.heap s.heap [] := va_S.rf
  have hown : s.vm.findClass RX7 = some m.cls := hown
  have hl : lv_has ls 5 [(0, .ref m0), (1, .int (jI ((ev : Nat) : Int))), (2, .int (jI ((times : Nat) : Int))), (3, .int (jI ((wh : Nat) : Int)))] := hl
  refine lv_iload_n hx hb dX7_aheadAnew_0 rfl (lv_at hl 2 rfl) ?_
  refine n_iconst hx hb dX7_aheadAnew_1 ?_
  refine n_sipush hx hb dX7_aheadAnew_2 (by decide) ?_
  have ct5 := c_X7_isIn l D tys ((times : Nat) : Int) 0 200 (by first | assumption | exact r32_z _ | (unfold r32; omega)) (by first | assumption | exact r32_z _ | (unfold r32; omega)) (by first | assumption | exact r32_z _ | (unfold r32; omega))
  refine k_goI (va_runS (As := [.int (jI ((times : Nat) : Int)), .int (jI 0), .int (jI 200)]) (rest := []) ⟨hx, hb, hml, hown, hts⟩ (ct5.2 _) (va_cwS 3 hts gX7_aheadAnew_X7_isIn rfl rfl rfl (by decide +kernel) ⟨Nat.le_of_ble_eq_true rfl, Nat.le_of_ble_eq_true rfl⟩) (k_pre hK hP hD (is := []) rfl rfl) rfl rfl hl.1 rfl (lv_room (Nat.le_of_ble_eq_true rfl)) dX7_aheadAnew_5 ⟨Nat.le_of_ble_eq_true rfl, Nat.le_of_ble_eq_true rfl⟩) ct5.1 hP hD hS hA [] rfl rfl (fun H locs hP hD hS => ?_)
  have hP : va_P D vwCl [(m0, oR (jI ((ms : Nat) : Int)) (jI ((es : Nat) : Int)) th a), ((a 1), .inl (cI, 42, .inl (fun i => vI (gM i)))), ((a 2), .inl (cI, 30, .inl (fun i => vI (gB i)))), ((a 3), .inl (cI, 6, .inl (fun i => jI ((gT i : Nat) : Int)))), ((a 5), .inl (cI, 6, .inl (fun i => jI ((gN i : Nat) : Int)))), ((a 6), .inl (cI, 1080, .inl (fun i => vI (gK i)))), ((a 7), .inl (cZ, 180, .inl (fun i => jI (iB (gD i))))), ((a 8), .inl (cJ, 105, .inr (.inl (fun i => vL (gH i))))), ((a 9), .inl (cJ, 105, .inr (.inl (fun i => vL (gU i))))), ((a 10), .inl (cJ, 90, .inr (.inl (fun i => vL (gF i))))), ((a 11), .inl (cZ, 30, .inl (fun i => jI (iB (gX i))))), ((a 12), .inl (cJ, 5, .inr (.inl (fun i => vL (gW i))))), ((a 14), .inl (cJ, 16, .inr (.inl (fun i => vL (gP i))))), ((a 15), .inl (cJ, 16, .inr (.inl (fun i => vL (gA i))))), ((a 16), .inl (cJ, 16, .inr (.inl (fun i => vL (gR i)))))] H := hP
  have hD : va_D A [(m0, oR (jI ((ms : Nat) : Int)) (jI ((es : Nat) : Int)) th a), ((a 1), .inl (cI, 42, .inl (fun i => vI (gM i)))), ((a 2), .inl (cI, 30, .inl (fun i => vI (gB i)))), ((a 3), .inl (cI, 6, .inl (fun i => jI ((gT i : Nat) : Int)))), ((a 5), .inl (cI, 6, .inl (fun i => jI ((gN i : Nat) : Int)))), ((a 6), .inl (cI, 1080, .inl (fun i => vI (gK i)))), ((a 7), .inl (cZ, 180, .inl (fun i => jI (iB (gD i))))), ((a 8), .inl (cJ, 105, .inr (.inl (fun i => vL (gH i))))), ((a 9), .inl (cJ, 105, .inr (.inl (fun i => vL (gU i))))), ((a 10), .inl (cJ, 90, .inr (.inl (fun i => vL (gF i))))), ((a 11), .inl (cZ, 30, .inl (fun i => jI (iB (gX i))))), ((a 12), .inl (cJ, 5, .inr (.inl (fun i => vL (gW i))))), ((a 14), .inl (cJ, 16, .inr (.inl (fun i => vL (gP i))))), ((a 15), .inl (cJ, 16, .inr (.inl (fun i => vL (gA i))))), ((a 16), .inl (cJ, 16, .inr (.inl (fun i => vL (gR i)))))] := hD
  refine n_ifB_eq (tgt := 24) hx hb dX7_aheadAnew_8 (by decide) (fun h8 => Bool.noConfusion ((inB_t (by omega) (by omega)).symm.trans h8)) (fun h8 => ?_)
  refine lv_iload_n hx hb dX7_aheadAnew_11 rfl (lv_at hl 3 rfl) ?_
  refine n_iconst hx hb dX7_aheadAnew_12 ?_
  refine n_iconst hx hb dX7_aheadAnew_13 ?_
  have ct14 := c_X7_isIn l D tys ((wh : Nat) : Int) 0 4 (by first | assumption | exact r32_z _ | (unfold r32; omega)) (by first | assumption | exact r32_z _ | (unfold r32; omega)) (by first | assumption | exact r32_z _ | (unfold r32; omega))
  refine k_goI (va_runS (As := [.int (jI ((wh : Nat) : Int)), .int (jI 0), .int (jI 4)]) (rest := []) ⟨hx, hb, hml, hown, hts⟩ (ct14.2 _) (va_cwS 3 hts gX7_aheadAnew_X7_isIn rfl rfl rfl (by decide +kernel) ⟨Nat.le_of_ble_eq_true rfl, Nat.le_of_ble_eq_true rfl⟩) (k_pre hK hP hD (is := []) rfl rfl) rfl rfl hl.1 rfl (lv_room (Nat.le_of_ble_eq_true rfl)) dX7_aheadAnew_14 ⟨Nat.le_of_ble_eq_true rfl, Nat.le_of_ble_eq_true rfl⟩) ct14.1 hP hD hS hA [] rfl rfl (fun H locs hP hD hS => ?_)
  have hP : va_P D vwCl [(m0, oR (jI ((ms : Nat) : Int)) (jI ((es : Nat) : Int)) th a), ((a 1), .inl (cI, 42, .inl (fun i => vI (gM i)))), ((a 2), .inl (cI, 30, .inl (fun i => vI (gB i)))), ((a 3), .inl (cI, 6, .inl (fun i => jI ((gT i : Nat) : Int)))), ((a 5), .inl (cI, 6, .inl (fun i => jI ((gN i : Nat) : Int)))), ((a 6), .inl (cI, 1080, .inl (fun i => vI (gK i)))), ((a 7), .inl (cZ, 180, .inl (fun i => jI (iB (gD i))))), ((a 8), .inl (cJ, 105, .inr (.inl (fun i => vL (gH i))))), ((a 9), .inl (cJ, 105, .inr (.inl (fun i => vL (gU i))))), ((a 10), .inl (cJ, 90, .inr (.inl (fun i => vL (gF i))))), ((a 11), .inl (cZ, 30, .inl (fun i => jI (iB (gX i))))), ((a 12), .inl (cJ, 5, .inr (.inl (fun i => vL (gW i))))), ((a 14), .inl (cJ, 16, .inr (.inl (fun i => vL (gP i))))), ((a 15), .inl (cJ, 16, .inr (.inl (fun i => vL (gA i))))), ((a 16), .inl (cJ, 16, .inr (.inl (fun i => vL (gR i)))))] H := hP
  have hD : va_D A [(m0, oR (jI ((ms : Nat) : Int)) (jI ((es : Nat) : Int)) th a), ((a 1), .inl (cI, 42, .inl (fun i => vI (gM i)))), ((a 2), .inl (cI, 30, .inl (fun i => vI (gB i)))), ((a 3), .inl (cI, 6, .inl (fun i => jI ((gT i : Nat) : Int)))), ((a 5), .inl (cI, 6, .inl (fun i => jI ((gN i : Nat) : Int)))), ((a 6), .inl (cI, 1080, .inl (fun i => vI (gK i)))), ((a 7), .inl (cZ, 180, .inl (fun i => jI (iB (gD i))))), ((a 8), .inl (cJ, 105, .inr (.inl (fun i => vL (gH i))))), ((a 9), .inl (cJ, 105, .inr (.inl (fun i => vL (gU i))))), ((a 10), .inl (cJ, 90, .inr (.inl (fun i => vL (gF i))))), ((a 11), .inl (cZ, 30, .inl (fun i => jI (iB (gX i))))), ((a 12), .inl (cJ, 5, .inr (.inl (fun i => vL (gW i))))), ((a 14), .inl (cJ, 16, .inr (.inl (fun i => vL (gP i))))), ((a 15), .inl (cJ, 16, .inr (.inl (fun i => vL (gA i))))), ((a 16), .inl (cJ, 16, .inr (.inl (fun i => vL (gR i)))))] := hD
  refine n_ifB_eq (tgt := 24) hx hb dX7_aheadAnew_17 (by decide) (fun h17 => Bool.noConfusion ((inB_t (by omega) (by omega)).symm.trans h17)) (fun h17 => ?_)
  refine n_iconst hx hb dX7_aheadAnew_20 ?_
  refine lv_goto (tgt := 25) hx hb dX7_aheadAnew_21 (by decide) ?_
  refine lv_istore (lv' := [(4, .int (jI 1)), (0, .ref m0), (1, .int (jI ((ev : Nat) : Int))), (2, .int (jI ((times : Nat) : Int))), (3, .int (jI ((wh : Nat) : Int)))]) hx hb dX7_aheadAnew_25 hl (by decide) rfl (fun ls hl => ?_)
  refine lv_aload_n hx hb dX7_aheadAnew_27 rfl (lv_at hl 1 rfl) ?_
  refine lv_aload_n hx hb dX7_aheadAnew_28 rfl (lv_at hl 1 rfl) ?_
  refine lv_iload_n hx hb dX7_aheadAnew_29 rfl (lv_at hl 2 rfl) ?_
  have ct30 := c_X7_isOne l D tys m0 a ms es th ((ev : Nat) : Int) (by first | assumption | exact r32_z _ | (unfold r32; omega)) (by omega) (by omega)
  refine k_goI (va_runV (As := [.int (jI ((ev : Nat) : Int))]) (rest := [.ref m0]) ⟨hx, hb, hml, hown, hts⟩ (ct30.2 _) (cwV 1 hts gX7_aheadAnew_X7_isOne rfl rfl rfl (by decide +kernel) ⟨Nat.le_of_ble_eq_true rfl, Nat.le_of_ble_eq_true rfl⟩) ⟨(k_pre hK hP hD (is := [0]) rfl rfl).1, va_recv hK.1 hP (ci := 7) (q0 := 0) rfl rfl, (k_pre hK hP hD (is := [0]) rfl rfl).2⟩ rfl rfl hl.1 rfl (lv_room (Nat.le_of_ble_eq_true rfl)) dX7_aheadAnew_30 ⟨Nat.le_of_ble_eq_true rfl, Nat.le_of_ble_eq_true rfl⟩) ct30.1 hP hD hS hA [0] rfl rfl (fun H locs hP hD hS => ?_)
  have hP : va_P D vwCl [(m0, oR (jI ((ms : Nat) : Int)) (jI ((es : Nat) : Int)) th a), ((a 1), .inl (cI, 42, .inl (fun i => vI (gM i)))), ((a 2), .inl (cI, 30, .inl (fun i => vI (gB i)))), ((a 3), .inl (cI, 6, .inl (fun i => jI ((gT i : Nat) : Int)))), ((a 5), .inl (cI, 6, .inl (fun i => jI ((gN i : Nat) : Int)))), ((a 6), .inl (cI, 1080, .inl (fun i => vI (gK i)))), ((a 7), .inl (cZ, 180, .inl (fun i => jI (iB (gD i))))), ((a 8), .inl (cJ, 105, .inr (.inl (fun i => vL (gH i))))), ((a 9), .inl (cJ, 105, .inr (.inl (fun i => vL (gU i))))), ((a 10), .inl (cJ, 90, .inr (.inl (fun i => vL (gF i))))), ((a 11), .inl (cZ, 30, .inl (fun i => jI (iB (gX i))))), ((a 12), .inl (cJ, 5, .inr (.inl (fun i => vL (gW i))))), ((a 14), .inl (cJ, 16, .inr (.inl (fun i => vL (gP i))))), ((a 15), .inl (cJ, 16, .inr (.inl (fun i => vL (gA i))))), ((a 16), .inl (cJ, 16, .inr (.inl (fun i => vL (gR i)))))] H := hP
  have hD : va_D A [(m0, oR (jI ((ms : Nat) : Int)) (jI ((es : Nat) : Int)) th a), ((a 1), .inl (cI, 42, .inl (fun i => vI (gM i)))), ((a 2), .inl (cI, 30, .inl (fun i => vI (gB i)))), ((a 3), .inl (cI, 6, .inl (fun i => jI ((gT i : Nat) : Int)))), ((a 5), .inl (cI, 6, .inl (fun i => jI ((gN i : Nat) : Int)))), ((a 6), .inl (cI, 1080, .inl (fun i => vI (gK i)))), ((a 7), .inl (cZ, 180, .inl (fun i => jI (iB (gD i))))), ((a 8), .inl (cJ, 105, .inr (.inl (fun i => vL (gH i))))), ((a 9), .inl (cJ, 105, .inr (.inl (fun i => vL (gU i))))), ((a 10), .inl (cJ, 90, .inr (.inl (fun i => vL (gF i))))), ((a 11), .inl (cZ, 30, .inl (fun i => jI (iB (gX i))))), ((a 12), .inl (cJ, 5, .inr (.inl (fun i => vL (gW i))))), ((a 14), .inl (cJ, 16, .inr (.inl (fun i => vL (gP i))))), ((a 15), .inl (cJ, 16, .inr (.inl (fun i => vL (gA i))))), ((a 16), .inl (cJ, 16, .inr (.inl (fun i => vL (gR i)))))] := hD
  refine n_ifB_ne (tgt := 40) hx hb dX7_aheadAnew_33 (by decide) (fun h33 => ?_) (fun h33 => Bool.noConfusion ((inB_t (by omega) (by omega)).symm.trans h33))
  refine lv_iload hx hb dX7_aheadAnew_40 (lv_at hl 0 rfl) ?_
  refine n_if_eq (tgt := 49) hx hb (by unfold r32; decide) dX7_aheadAnew_42 (by decide) (fun h42 => False.elim (by revert h42; decide)) (fun h42 => ?_)
  refine n_iconst hx hb dX7_aheadAnew_45 ?_
  refine lv_goto (tgt := 50) hx hb dX7_aheadAnew_46 (by decide) ?_
  have ct50 := c_X7_failsF l D tys m0 a ms es th
  refine k_goI (va_runV (As := [.int (jI 0)]) (rest := []) ⟨hx, hb, hml, hown, hts⟩ (ct50.2 _) (cwV 1 hts gX7_aheadAnew_X7_fails rfl rfl rfl (by decide +kernel) ⟨Nat.le_of_ble_eq_true rfl, Nat.le_of_ble_eq_true rfl⟩) ⟨(k_pre hK hP hD (is := [0]) rfl rfl).1, va_recv hK.1 hP (ci := 7) (q0 := 0) rfl rfl, (k_pre hK hP hD (is := [0]) rfl rfl).2⟩ rfl rfl hl.1 rfl (lv_room (Nat.le_of_ble_eq_true rfl)) dX7_aheadAnew_50 ⟨Nat.le_of_ble_eq_true rfl, Nat.le_of_ble_eq_true rfl⟩) ct50.1 hP hD hS hA [0] rfl rfl (fun H locs hP hD hS => ?_)
  have hP : va_P D vwCl [(m0, oR (jI ((ms : Nat) : Int)) (jI ((es : Nat) : Int)) (jI 0) a), ((a 1), .inl (cI, 42, .inl (fun i => vI (gM i)))), ((a 2), .inl (cI, 30, .inl (fun i => vI (gB i)))), ((a 3), .inl (cI, 6, .inl (fun i => jI ((gT i : Nat) : Int)))), ((a 5), .inl (cI, 6, .inl (fun i => jI ((gN i : Nat) : Int)))), ((a 6), .inl (cI, 1080, .inl (fun i => vI (gK i)))), ((a 7), .inl (cZ, 180, .inl (fun i => jI (iB (gD i))))), ((a 8), .inl (cJ, 105, .inr (.inl (fun i => vL (gH i))))), ((a 9), .inl (cJ, 105, .inr (.inl (fun i => vL (gU i))))), ((a 10), .inl (cJ, 90, .inr (.inl (fun i => vL (gF i))))), ((a 11), .inl (cZ, 30, .inl (fun i => jI (iB (gX i))))), ((a 12), .inl (cJ, 5, .inr (.inl (fun i => vL (gW i))))), ((a 14), .inl (cJ, 16, .inr (.inl (fun i => vL (gP i))))), ((a 15), .inl (cJ, 16, .inr (.inl (fun i => vL (gA i))))), ((a 16), .inl (cJ, 16, .inr (.inl (fun i => vL (gR i)))))] H := hP
  have hD : va_D A [(m0, oR (jI ((ms : Nat) : Int)) (jI ((es : Nat) : Int)) (jI 0) a), ((a 1), .inl (cI, 42, .inl (fun i => vI (gM i)))), ((a 2), .inl (cI, 30, .inl (fun i => vI (gB i)))), ((a 3), .inl (cI, 6, .inl (fun i => jI ((gT i : Nat) : Int)))), ((a 5), .inl (cI, 6, .inl (fun i => jI ((gN i : Nat) : Int)))), ((a 6), .inl (cI, 1080, .inl (fun i => vI (gK i)))), ((a 7), .inl (cZ, 180, .inl (fun i => jI (iB (gD i))))), ((a 8), .inl (cJ, 105, .inr (.inl (fun i => vL (gH i))))), ((a 9), .inl (cJ, 105, .inr (.inl (fun i => vL (gU i))))), ((a 10), .inl (cJ, 90, .inr (.inl (fun i => vL (gF i))))), ((a 11), .inl (cZ, 30, .inl (fun i => jI (iB (gX i))))), ((a 12), .inl (cJ, 5, .inr (.inl (fun i => vL (gW i))))), ((a 14), .inl (cJ, 16, .inr (.inl (fun i => vL (gP i))))), ((a 15), .inl (cJ, 16, .inr (.inl (fun i => vL (gA i))))), ((a 16), .inl (cJ, 16, .inr (.inl (fun i => vL (gR i)))))] := hD
  refine n_ifB_eq (tgt := 60) hx hb dX7_aheadAnew_53 (by decide) (fun h53 => ?_) (fun h53 => Bool.noConfusion h53)
  refine lv_aload_n hx hb dX7_aheadAnew_60 rfl (lv_at hl 1 rfl) ?_
  refine lv_iload_n hx hb dX7_aheadAnew_61 rfl (lv_at hl 2 rfl) ?_
  refine lv_iload_n hx hb dX7_aheadAnew_62 rfl (lv_at hl 3 rfl) ?_
  refine lv_iload_n hx hb dX7_aheadAnew_63 rfl (lv_at hl 4 rfl) ?_
  have ctf := c_X7_far l D tys htI htJ htZ m0 a ms es (jI 0) gM gB gT gN gK gD gH gU gF gX gW gP gA gR ev times wh (by omega) (by omega) q5 qT qN htm st hbeh
  refine k_goE (va_runV (As := [.int (jI ((ev : Nat) : Int)), .int (jI ((times : Nat) : Int)), .int (jI ((wh : Nat) : Int))]) (rest := []) ⟨hx, hb, hml, hown, hts⟩ (ctf.2 _) (cwV 3 hts gX7_aheadAnew_X7_far rfl rfl rfl (by decide +kernel) ⟨Nat.le_of_ble_eq_true rfl, Nat.le_of_ble_eq_true rfl⟩) ⟨(k_pre hK hP hD (is := [0, 1, 2, 3, 4, 5, 6, 7, 8, 9, 10, 11, 12, 13, 14]) rfl rfl).1, va_recv hK.1 hP (ci := 7) (q0 := 0) rfl rfl, (k_pre hK hP hD (is := [0, 1, 2, 3, 4, 5, 6, 7, 8, 9, 10, 11, 12, 13, 14]) rfl rfl).2⟩ rfl rfl hl.1 rfl (lv_room (Nat.le_of_ble_eq_true rfl)) dX7_aheadAnew_64 ⟨Nat.le_of_ble_eq_true rfl, Nat.le_of_ble_eq_true rfl⟩) ctf.1 hP hD hS hA [0, 1, 2, 3, 4, 5, 6, 7, 8, 9, 10, 11, 12, 13, 14] rfl rfl (fun r u H locs hv hP hD hS => ?_)
  obtain ⟨gH', gU', gF', gX', gW', gP', gA', gR'⟩ := u
  have hP : va_P D vwCl [(m0, oR (jI ((ms : Nat) : Int)) (jI ((es : Nat) : Int)) (jI 0) a), ((a 1), .inl (cI, 42, .inl (fun i => vI (gM i)))), ((a 2), .inl (cI, 30, .inl (fun i => vI (gB i)))), ((a 3), .inl (cI, 6, .inl (fun i => jI ((gT i : Nat) : Int)))), ((a 5), .inl (cI, 6, .inl (fun i => jI ((gN i : Nat) : Int)))), ((a 6), .inl (cI, 1080, .inl (fun i => vI (gK i)))), ((a 7), .inl (cZ, 180, .inl (fun i => jI (iB (gD i))))), ((a 8), .inl (cJ, 105, .inr (.inl (fun i => vL (gH' i))))), ((a 9), .inl (cJ, 105, .inr (.inl (fun i => vL (gU' i))))), ((a 10), .inl (cJ, 90, .inr (.inl (fun i => vL (gF' i))))), ((a 11), .inl (cZ, 30, .inl (fun i => jI (iB (gX' i))))), ((a 12), .inl (cJ, 5, .inr (.inl (fun i => vL (gW' i))))), ((a 14), .inl (cJ, 16, .inr (.inl (fun i => vL (gP' i))))), ((a 15), .inl (cJ, 16, .inr (.inl (fun i => vL (gA' i))))), ((a 16), .inl (cJ, 16, .inr (.inl (fun i => vL (gR' i)))))] H := hP
  have hD : va_D A [(m0, oR (jI ((ms : Nat) : Int)) (jI ((es : Nat) : Int)) (jI 0) a), ((a 1), .inl (cI, 42, .inl (fun i => vI (gM i)))), ((a 2), .inl (cI, 30, .inl (fun i => vI (gB i)))), ((a 3), .inl (cI, 6, .inl (fun i => jI ((gT i : Nat) : Int)))), ((a 5), .inl (cI, 6, .inl (fun i => jI ((gN i : Nat) : Int)))), ((a 6), .inl (cI, 1080, .inl (fun i => vI (gK i)))), ((a 7), .inl (cZ, 180, .inl (fun i => jI (iB (gD i))))), ((a 8), .inl (cJ, 105, .inr (.inl (fun i => vL (gH' i))))), ((a 9), .inl (cJ, 105, .inr (.inl (fun i => vL (gU' i))))), ((a 10), .inl (cJ, 90, .inr (.inl (fun i => vL (gF' i))))), ((a 11), .inl (cZ, 30, .inl (fun i => jI (iB (gX' i))))), ((a 12), .inl (cJ, 5, .inr (.inl (fun i => vL (gW' i))))), ((a 14), .inl (cJ, 16, .inr (.inl (fun i => vL (gP' i))))), ((a 15), .inl (cJ, 16, .inr (.inl (fun i => vL (gA' i))))), ((a 16), .inl (cJ, 16, .inr (.inl (fun i => vL (gR' i)))))] := hD
  exact e_iret (gH', gU', gF', gX', gW', gP', gA', gR') hx hb hr hlocks dX7_aheadAnew_67 hP hS hv
