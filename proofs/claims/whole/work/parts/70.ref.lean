/-! the reference: begin -/
set_option maxHeartbeats 4000000 in
set_option maxRecDepth 100000 in
/--  -/
theorem c_X7_begin1 (l : Launch) (D : va_G) (tys : List (ClassId × FieldType)) {cI cJ cZ : ClassId} (htI : tys[0]? = some (cI, .int)) (htJ : tys[1]? = some (cJ, .long)) (htZ : tys[2]? = some (cZ, .boolean)) (m0 : Nat) (a : Nat → Nat) (ms es : Nat) (th : Int32) (gE : Nat → Zp) (gM : Nat → Zp) (gB : Nat → Zp) (gG : Nat → Zp) (q1 : ms ≤ 6) (q2 : es ≤ 6) (mo x0 x1 p0 p1 p2 : Int) (q3 : r32 mo) (r0 : r32 x0) (r1 : r32 x1) (r2 : r32 p0) (r3 : r32 p1) (r4 : r32 p2) (h9 : (inB 0 (((ms : Nat) : Int) - 1) mo) = false) : CtI l D tys yX7_begin wsX7_begin 2 43 [.ref m0, .int (jI mo), .int (jI x0), .int (jI x1), .int (jI p0), .int (jI p1), .int (jI p2)] (jI 0) [(m0, oR (jI ((ms : Nat) : Int)) (jI ((es : Nat) : Int)) th a), ((a 0), .inl (cI, 42, .inl (fun i => vI (gE i)))), ((a 1), .inl (cI, 42, .inl (fun i => vI (gM i)))), ((a 2), .inl (cI, 30, .inl (fun i => vI (gB i)))), ((a 4), .inl (cI, 6, .inl (fun i => vI (gG i))))] [(m0, oR (jI ((ms : Nat) : Int)) (jI ((es : Nat) : Int)) (jI 1) a), ((a 0), .inl (cI, 42, .inl (fun i => vI (gE i)))), ((a 1), .inl (cI, 42, .inl (fun i => vI (gM i)))), ((a 2), .inl (cI, 30, .inl (fun i => vI (gB i)))), ((a 4), .inl (cI, 6, .inl (fun i => vI (gG i))))] := by
  refine CtI.of (cc := cX7_begin) (maxL := 10) (by decide +kernel) rfl rfl (Nat.le_of_ble_eq_true rfl) ?_
  intro p e s m below meth c A ls hcx hK hP hD hA hl
  obtain ⟨hx, hb, hr, hml, hown, hts, hlocks⟩ := hcx
  have hS : va_S A s.heap s.heap [] := va_S.rf
  have hown : s.vm.findClass RX7 = some m.cls := hown
  have hl : lv_has ls 10 [(0, .ref m0), (1, .int (jI mo)), (2, .int (jI x0)), (3, .int (jI x1)), (4, .int (jI p0)), (5, .int (jI p1)), (6, .int (jI p2))] := hl
  refine lv_iload_n hx hb dX7_begin_0 rfl (lv_at hl 2 rfl) ?_
  have ct1 := c_X7_isField l D tys x0 (by first | assumption | exact r32_z _ | (unfold r32; omega))
  refine k_goI (va_runS (As := [.int (jI x0)]) (rest := []) ⟨hx, hb, hml, hown, hts⟩ (ct1.2 _) (va_cwS 1 hts gX7_begin_X7_isField rfl rfl rfl (by decide +kernel) ⟨Nat.le_of_ble_eq_true rfl, Nat.le_of_ble_eq_true rfl⟩) (k_pre hK hP hD (is := []) rfl rfl) rfl rfl hl.1 rfl (lv_room (Nat.le_of_ble_eq_true rfl)) dX7_begin_1 ⟨Nat.le_of_ble_eq_true rfl, Nat.le_of_ble_eq_true rfl⟩) ct1.1 hP hD hS hA [] rfl rfl (fun H locs hP hD hS => ?_)
  have hP : va_P D vwCl [(m0, oR (jI ((ms : Nat) : Int)) (jI ((es : Nat) : Int)) th a), ((a 0), .inl (cI, 42, .inl (fun i => vI (gE i)))), ((a 1), .inl (cI, 42, .inl (fun i => vI (gM i)))), ((a 2), .inl (cI, 30, .inl (fun i => vI (gB i)))), ((a 4), .inl (cI, 6, .inl (fun i => vI (gG i))))] H := hP
  have hD : va_D A [(m0, oR (jI ((ms : Nat) : Int)) (jI ((es : Nat) : Int)) th a), ((a 0), .inl (cI, 42, .inl (fun i => vI (gE i)))), ((a 1), .inl (cI, 42, .inl (fun i => vI (gM i)))), ((a 2), .inl (cI, 30, .inl (fun i => vI (gB i)))), ((a 4), .inl (cI, 6, .inl (fun i => vI (gG i))))] := hD
  refine n_ifB_eq (tgt := 42) hx hb dX7_begin_4 (by decide) (fun h4 => ?_) (fun h4 => ?_)
  · refine n_iconst hx hb dX7_begin_42 ?_
    refine lv_istore (lv' := [(7, .int (jI 0)), (0, .ref m0), (1, .int (jI mo)), (2, .int (jI x0)), (3, .int (jI x1)), (4, .int (jI p0)), (5, .int (jI p1)), (6, .int (jI p2))]) hx hb dX7_begin_43 hl (by decide) rfl (fun ls hl => ?_)
    refine lv_aload_n hx hb dX7_begin_45 rfl (lv_at hl 1 rfl) ?_
    refine lv_aload_n hx hb dX7_begin_46 rfl (lv_at hl 1 rfl) ?_
    refine lv_iload_n hx hb dX7_begin_47 rfl (lv_at hl 2 rfl) ?_
    have ct48 := c_X7_isModel l D tys m0 a ms es th mo (by first | assumption | exact r32_z _ | (unfold r32; omega)) (by omega) (by omega)
    refine k_goI (va_runV (As := [.int (jI mo)]) (rest := [.ref m0]) ⟨hx, hb, hml, hown, hts⟩ (ct48.2 _) (cwV 1 hts gX7_begin_X7_isModel rfl rfl rfl (by decide +kernel) ⟨Nat.le_of_ble_eq_true rfl, Nat.le_of_ble_eq_true rfl⟩) ⟨(k_pre hK hP hD (is := [0]) rfl rfl).1, va_recv hK.1 hP (ci := 7) (q0 := 0) rfl rfl, (k_pre hK hP hD (is := [0]) rfl rfl).2⟩ rfl rfl hl.1 rfl (lv_room (Nat.le_of_ble_eq_true rfl)) dX7_begin_48 ⟨Nat.le_of_ble_eq_true rfl, Nat.le_of_ble_eq_true rfl⟩) ct48.1 hP hD hS hA [0] rfl rfl (fun H locs hP hD hS => ?_)
    have hP : va_P D vwCl [(m0, oR (jI ((ms : Nat) : Int)) (jI ((es : Nat) : Int)) th a), ((a 0), .inl (cI, 42, .inl (fun i => vI (gE i)))), ((a 1), .inl (cI, 42, .inl (fun i => vI (gM i)))), ((a 2), .inl (cI, 30, .inl (fun i => vI (gB i)))), ((a 4), .inl (cI, 6, .inl (fun i => vI (gG i))))] H := hP
    have hD : va_D A [(m0, oR (jI ((ms : Nat) : Int)) (jI ((es : Nat) : Int)) th a), ((a 0), .inl (cI, 42, .inl (fun i => vI (gE i)))), ((a 1), .inl (cI, 42, .inl (fun i => vI (gM i)))), ((a 2), .inl (cI, 30, .inl (fun i => vI (gB i)))), ((a 4), .inl (cI, 6, .inl (fun i => vI (gG i))))] := hD
    refine n_ifB_ne (tgt := 58) hx hb dX7_begin_51 (by decide) (fun h51 => Bool.noConfusion (h9.symm.trans h51)) (fun h51 => ?_)
    refine n_iconst hx hb dX7_begin_54 ?_
    refine lv_goto (tgt := 81) hx hb dX7_begin_55 (by decide) ?_
    have ct81 := c_X7_failsT l D tys m0 a ms es th 1 (by unfold r32; decide) (by decide)
    refine k_goI (va_runV (As := [.int (jI 1)]) (rest := []) ⟨hx, hb, hml, hown, hts⟩ (ct81.2 _) (cwV 1 hts gX7_begin_X7_fails rfl rfl rfl (by decide +kernel) ⟨Nat.le_of_ble_eq_true rfl, Nat.le_of_ble_eq_true rfl⟩) ⟨(k_pre hK hP hD (is := [0]) rfl rfl).1, va_recv hK.1 hP (ci := 7) (q0 := 0) rfl rfl, (k_pre hK hP hD (is := [0]) rfl rfl).2⟩ rfl rfl hl.1 rfl (lv_room (Nat.le_of_ble_eq_true rfl)) dX7_begin_81 ⟨Nat.le_of_ble_eq_true rfl, Nat.le_of_ble_eq_true rfl⟩) ct81.1 hP hD hS hA [0] rfl rfl (fun H locs hP hD hS => ?_)
    have hP : va_P D vwCl [(m0, oR (jI ((ms : Nat) : Int)) (jI ((es : Nat) : Int)) (jI 1) a), ((a 0), .inl (cI, 42, .inl (fun i => vI (gE i)))), ((a 1), .inl (cI, 42, .inl (fun i => vI (gM i)))), ((a 2), .inl (cI, 30, .inl (fun i => vI (gB i)))), ((a 4), .inl (cI, 6, .inl (fun i => vI (gG i))))] H := hP
    have hD : va_D A [(m0, oR (jI ((ms : Nat) : Int)) (jI ((es : Nat) : Int)) (jI 1) a), ((a 0), .inl (cI, 42, .inl (fun i => vI (gE i)))), ((a 1), .inl (cI, 42, .inl (fun i => vI (gM i)))), ((a 2), .inl (cI, 30, .inl (fun i => vI (gB i)))), ((a 4), .inl (cI, 6, .inl (fun i => vI (gG i))))] := hD
    refine n_ifB_eq (tgt := 89) hx hb dX7_begin_84 (by decide) (fun h84 => Bool.noConfusion h84) (fun h84 => ?_)
    refine n_iconst hx hb dX7_begin_87 ?_
    exact k_iret hx hb hr hlocks dX7_begin_88 hP hS rfl
  · refine lv_iload_n hx hb dX7_begin_7 rfl (lv_at hl 3 rfl) ?_
    have ct8 := c_X7_isField l D tys x1 (by first | assumption | exact r32_z _ | (unfold r32; omega))
    refine k_goI (va_runS (As := [.int (jI x1)]) (rest := []) ⟨hx, hb, hml, hown, hts⟩ (ct8.2 _) (va_cwS 1 hts gX7_begin_X7_isField rfl rfl rfl (by decide +kernel) ⟨Nat.le_of_ble_eq_true rfl, Nat.le_of_ble_eq_true rfl⟩) (k_pre hK hP hD (is := []) rfl rfl) rfl rfl hl.1 rfl (lv_room (Nat.le_of_ble_eq_true rfl)) dX7_begin_8 ⟨Nat.le_of_ble_eq_true rfl, Nat.le_of_ble_eq_true rfl⟩) ct8.1 hP hD hS hA [] rfl rfl (fun H locs hP hD hS => ?_)
    have hP : va_P D vwCl [(m0, oR (jI ((ms : Nat) : Int)) (jI ((es : Nat) : Int)) th a), ((a 0), .inl (cI, 42, .inl (fun i => vI (gE i)))), ((a 1), .inl (cI, 42, .inl (fun i => vI (gM i)))), ((a 2), .inl (cI, 30, .inl (fun i => vI (gB i)))), ((a 4), .inl (cI, 6, .inl (fun i => vI (gG i))))] H := hP
    have hD : va_D A [(m0, oR (jI ((ms : Nat) : Int)) (jI ((es : Nat) : Int)) th a), ((a 0), .inl (cI, 42, .inl (fun i => vI (gE i)))), ((a 1), .inl (cI, 42, .inl (fun i => vI (gM i)))), ((a 2), .inl (cI, 30, .inl (fun i => vI (gB i)))), ((a 4), .inl (cI, 6, .inl (fun i => vI (gG i))))] := hD
    refine n_ifB_eq (tgt := 42) hx hb dX7_begin_11 (by decide) (fun h11 => ?_) (fun h11 => ?_)
    · refine n_iconst hx hb dX7_begin_42 ?_
      refine lv_istore (lv' := [(7, .int (jI 0)), (0, .ref m0), (1, .int (jI mo)), (2, .int (jI x0)), (3, .int (jI x1)), (4, .int (jI p0)), (5, .int (jI p1)), (6, .int (jI p2))]) hx hb dX7_begin_43 hl (by decide) rfl (fun ls hl => ?_)
      refine lv_aload_n hx hb dX7_begin_45 rfl (lv_at hl 1 rfl) ?_
      refine lv_aload_n hx hb dX7_begin_46 rfl (lv_at hl 1 rfl) ?_
      refine lv_iload_n hx hb dX7_begin_47 rfl (lv_at hl 2 rfl) ?_
      have ct48 := c_X7_isModel l D tys m0 a ms es th mo (by first | assumption | exact r32_z _ | (unfold r32; omega)) (by omega) (by omega)
      refine k_goI (va_runV (As := [.int (jI mo)]) (rest := [.ref m0]) ⟨hx, hb, hml, hown, hts⟩ (ct48.2 _) (cwV 1 hts gX7_begin_X7_isModel rfl rfl rfl (by decide +kernel) ⟨Nat.le_of_ble_eq_true rfl, Nat.le_of_ble_eq_true rfl⟩) ⟨(k_pre hK hP hD (is := [0]) rfl rfl).1, va_recv hK.1 hP (ci := 7) (q0 := 0) rfl rfl, (k_pre hK hP hD (is := [0]) rfl rfl).2⟩ rfl rfl hl.1 rfl (lv_room (Nat.le_of_ble_eq_true rfl)) dX7_begin_48 ⟨Nat.le_of_ble_eq_true rfl, Nat.le_of_ble_eq_true rfl⟩) ct48.1 hP hD hS hA [0] rfl rfl (fun H locs hP hD hS => ?_)
      have hP : va_P D vwCl [(m0, oR (jI ((ms : Nat) : Int)) (jI ((es : Nat) : Int)) th a), ((a 0), .inl (cI, 42, .inl (fun i => vI (gE i)))), ((a 1), .inl (cI, 42, .inl (fun i => vI (gM i)))), ((a 2), .inl (cI, 30, .inl (fun i => vI (gB i)))), ((a 4), .inl (cI, 6, .inl (fun i => vI (gG i))))] H := hP
      have hD : va_D A [(m0, oR (jI ((ms : Nat) : Int)) (jI ((es : Nat) : Int)) th a), ((a 0), .inl (cI, 42, .inl (fun i => vI (gE i)))), ((a 1), .inl (cI, 42, .inl (fun i => vI (gM i)))), ((a 2), .inl (cI, 30, .inl (fun i => vI (gB i)))), ((a 4), .inl (cI, 6, .inl (fun i => vI (gG i))))] := hD
      refine n_ifB_ne (tgt := 58) hx hb dX7_begin_51 (by decide) (fun h51 => Bool.noConfusion (h9.symm.trans h51)) (fun h51 => ?_)
      refine n_iconst hx hb dX7_begin_54 ?_
      refine lv_goto (tgt := 81) hx hb dX7_begin_55 (by decide) ?_
      have ct81 := c_X7_failsT l D tys m0 a ms es th 1 (by unfold r32; decide) (by decide)
      refine k_goI (va_runV (As := [.int (jI 1)]) (rest := []) ⟨hx, hb, hml, hown, hts⟩ (ct81.2 _) (cwV 1 hts gX7_begin_X7_fails rfl rfl rfl (by decide +kernel) ⟨Nat.le_of_ble_eq_true rfl, Nat.le_of_ble_eq_true rfl⟩) ⟨(k_pre hK hP hD (is := [0]) rfl rfl).1, va_recv hK.1 hP (ci := 7) (q0 := 0) rfl rfl, (k_pre hK hP hD (is := [0]) rfl rfl).2⟩ rfl rfl hl.1 rfl (lv_room (Nat.le_of_ble_eq_true rfl)) dX7_begin_81 ⟨Nat.le_of_ble_eq_true rfl, Nat.le_of_ble_eq_true rfl⟩) ct81.1 hP hD hS hA [0] rfl rfl (fun H locs hP hD hS => ?_)
      have hP : va_P D vwCl [(m0, oR (jI ((ms : Nat) : Int)) (jI ((es : Nat) : Int)) (jI 1) a), ((a 0), .inl (cI, 42, .inl (fun i => vI (gE i)))), ((a 1), .inl (cI, 42, .inl (fun i => vI (gM i)))), ((a 2), .inl (cI, 30, .inl (fun i => vI (gB i)))), ((a 4), .inl (cI, 6, .inl (fun i => vI (gG i))))] H := hP
      have hD : va_D A [(m0, oR (jI ((ms : Nat) : Int)) (jI ((es : Nat) : Int)) (jI 1) a), ((a 0), .inl (cI, 42, .inl (fun i => vI (gE i)))), ((a 1), .inl (cI, 42, .inl (fun i => vI (gM i)))), ((a 2), .inl (cI, 30, .inl (fun i => vI (gB i)))), ((a 4), .inl (cI, 6, .inl (fun i => vI (gG i))))] := hD
      refine n_ifB_eq (tgt := 89) hx hb dX7_begin_84 (by decide) (fun h84 => Bool.noConfusion h84) (fun h84 => ?_)
      refine n_iconst hx hb dX7_begin_87 ?_
      exact k_iret hx hb hr hlocks dX7_begin_88 hP hS rfl
    · refine lv_iload hx hb dX7_begin_14 (lv_at hl 4 rfl) ?_
      have ct16 := c_X7_isField l D tys p0 (by first | assumption | exact r32_z _ | (unfold r32; omega))
      refine k_goI (va_runS (As := [.int (jI p0)]) (rest := []) ⟨hx, hb, hml, hown, hts⟩ (ct16.2 _) (va_cwS 1 hts gX7_begin_X7_isField rfl rfl rfl (by decide +kernel) ⟨Nat.le_of_ble_eq_true rfl, Nat.le_of_ble_eq_true rfl⟩) (k_pre hK hP hD (is := []) rfl rfl) rfl rfl hl.1 rfl (lv_room (Nat.le_of_ble_eq_true rfl)) dX7_begin_16 ⟨Nat.le_of_ble_eq_true rfl, Nat.le_of_ble_eq_true rfl⟩) ct16.1 hP hD hS hA [] rfl rfl (fun H locs hP hD hS => ?_)
      have hP : va_P D vwCl [(m0, oR (jI ((ms : Nat) : Int)) (jI ((es : Nat) : Int)) th a), ((a 0), .inl (cI, 42, .inl (fun i => vI (gE i)))), ((a 1), .inl (cI, 42, .inl (fun i => vI (gM i)))), ((a 2), .inl (cI, 30, .inl (fun i => vI (gB i)))), ((a 4), .inl (cI, 6, .inl (fun i => vI (gG i))))] H := hP
      have hD : va_D A [(m0, oR (jI ((ms : Nat) : Int)) (jI ((es : Nat) : Int)) th a), ((a 0), .inl (cI, 42, .inl (fun i => vI (gE i)))), ((a 1), .inl (cI, 42, .inl (fun i => vI (gM i)))), ((a 2), .inl (cI, 30, .inl (fun i => vI (gB i)))), ((a 4), .inl (cI, 6, .inl (fun i => vI (gG i))))] := hD
      refine n_ifB_eq (tgt := 42) hx hb dX7_begin_19 (by decide) (fun h19 => ?_) (fun h19 => ?_)
      · refine n_iconst hx hb dX7_begin_42 ?_
        refine lv_istore (lv' := [(7, .int (jI 0)), (0, .ref m0), (1, .int (jI mo)), (2, .int (jI x0)), (3, .int (jI x1)), (4, .int (jI p0)), (5, .int (jI p1)), (6, .int (jI p2))]) hx hb dX7_begin_43 hl (by decide) rfl (fun ls hl => ?_)
        refine lv_aload_n hx hb dX7_begin_45 rfl (lv_at hl 1 rfl) ?_
        refine lv_aload_n hx hb dX7_begin_46 rfl (lv_at hl 1 rfl) ?_
        refine lv_iload_n hx hb dX7_begin_47 rfl (lv_at hl 2 rfl) ?_
        have ct48 := c_X7_isModel l D tys m0 a ms es th mo (by first | assumption | exact r32_z _ | (unfold r32; omega)) (by omega) (by omega)
        refine k_goI (va_runV (As := [.int (jI mo)]) (rest := [.ref m0]) ⟨hx, hb, hml, hown, hts⟩ (ct48.2 _) (cwV 1 hts gX7_begin_X7_isModel rfl rfl rfl (by decide +kernel) ⟨Nat.le_of_ble_eq_true rfl, Nat.le_of_ble_eq_true rfl⟩) ⟨(k_pre hK hP hD (is := [0]) rfl rfl).1, va_recv hK.1 hP (ci := 7) (q0 := 0) rfl rfl, (k_pre hK hP hD (is := [0]) rfl rfl).2⟩ rfl rfl hl.1 rfl (lv_room (Nat.le_of_ble_eq_true rfl)) dX7_begin_48 ⟨Nat.le_of_ble_eq_true rfl, Nat.le_of_ble_eq_true rfl⟩) ct48.1 hP hD hS hA [0] rfl rfl (fun H locs hP hD hS => ?_)
        have hP : va_P D vwCl [(m0, oR (jI ((ms : Nat) : Int)) (jI ((es : Nat) : Int)) th a), ((a 0), .inl (cI, 42, .inl (fun i => vI (gE i)))), ((a 1), .inl (cI, 42, .inl (fun i => vI (gM i)))), ((a 2), .inl (cI, 30, .inl (fun i => vI (gB i)))), ((a 4), .inl (cI, 6, .inl (fun i => vI (gG i))))] H := hP
        have hD : va_D A [(m0, oR (jI ((ms : Nat) : Int)) (jI ((es : Nat) : Int)) th a), ((a 0), .inl (cI, 42, .inl (fun i => vI (gE i)))), ((a 1), .inl (cI, 42, .inl (fun i => vI (gM i)))), ((a 2), .inl (cI, 30, .inl (fun i => vI (gB i)))), ((a 4), .inl (cI, 6, .inl (fun i => vI (gG i))))] := hD
        refine n_ifB_ne (tgt := 58) hx hb dX7_begin_51 (by decide) (fun h51 => Bool.noConfusion (h9.symm.trans h51)) (fun h51 => ?_)
        refine n_iconst hx hb dX7_begin_54 ?_
        refine lv_goto (tgt := 81) hx hb dX7_begin_55 (by decide) ?_
        have ct81 := c_X7_failsT l D tys m0 a ms es th 1 (by unfold r32; decide) (by decide)
        refine k_goI (va_runV (As := [.int (jI 1)]) (rest := []) ⟨hx, hb, hml, hown, hts⟩ (ct81.2 _) (cwV 1 hts gX7_begin_X7_fails rfl rfl rfl (by decide +kernel) ⟨Nat.le_of_ble_eq_true rfl, Nat.le_of_ble_eq_true rfl⟩) ⟨(k_pre hK hP hD (is := [0]) rfl rfl).1, va_recv hK.1 hP (ci := 7) (q0 := 0) rfl rfl, (k_pre hK hP hD (is := [0]) rfl rfl).2⟩ rfl rfl hl.1 rfl (lv_room (Nat.le_of_ble_eq_true rfl)) dX7_begin_81 ⟨Nat.le_of_ble_eq_true rfl, Nat.le_of_ble_eq_true rfl⟩) ct81.1 hP hD hS hA [0] rfl rfl (fun H locs hP hD hS => ?_)
        have hP : va_P D vwCl [(m0, oR (jI ((ms : Nat) : Int)) (jI ((es : Nat) : Int)) (jI 1) a), ((a 0), .inl (cI, 42, .inl (fun i => vI (gE i)))), ((a 1), .inl (cI, 42, .inl (fun i => vI (gM i)))), ((a 2), .inl (cI, 30, .inl (fun i => vI (gB i)))), ((a 4), .inl (cI, 6, .inl (fun i => vI (gG i))))] H := hP
        have hD : va_D A [(m0, oR (jI ((ms : Nat) : Int)) (jI ((es : Nat) : Int)) (jI 1) a), ((a 0), .inl (cI, 42, .inl (fun i => vI (gE i)))), ((a 1), .inl (cI, 42, .inl (fun i => vI (gM i)))), ((a 2), .inl (cI, 30, .inl (fun i => vI (gB i)))), ((a 4), .inl (cI, 6, .inl (fun i => vI (gG i))))] := hD
        refine n_ifB_eq (tgt := 89) hx hb dX7_begin_84 (by decide) (fun h84 => Bool.noConfusion h84) (fun h84 => ?_)
        refine n_iconst hx hb dX7_begin_87 ?_
        exact k_iret hx hb hr hlocks dX7_begin_88 hP hS rfl
      · refine lv_iload hx hb dX7_begin_22 (lv_at hl 5 rfl) ?_
        have ct24 := c_X7_isField l D tys p1 (by first | assumption | exact r32_z _ | (unfold r32; omega))
        refine k_goI (va_runS (As := [.int (jI p1)]) (rest := []) ⟨hx, hb, hml, hown, hts⟩ (ct24.2 _) (va_cwS 1 hts gX7_begin_X7_isField rfl rfl rfl (by decide +kernel) ⟨Nat.le_of_ble_eq_true rfl, Nat.le_of_ble_eq_true rfl⟩) (k_pre hK hP hD (is := []) rfl rfl) rfl rfl hl.1 rfl (lv_room (Nat.le_of_ble_eq_true rfl)) dX7_begin_24 ⟨Nat.le_of_ble_eq_true rfl, Nat.le_of_ble_eq_true rfl⟩) ct24.1 hP hD hS hA [] rfl rfl (fun H locs hP hD hS => ?_)
        have hP : va_P D vwCl [(m0, oR (jI ((ms : Nat) : Int)) (jI ((es : Nat) : Int)) th a), ((a 0), .inl (cI, 42, .inl (fun i => vI (gE i)))), ((a 1), .inl (cI, 42, .inl (fun i => vI (gM i)))), ((a 2), .inl (cI, 30, .inl (fun i => vI (gB i)))), ((a 4), .inl (cI, 6, .inl (fun i => vI (gG i))))] H := hP
        have hD : va_D A [(m0, oR (jI ((ms : Nat) : Int)) (jI ((es : Nat) : Int)) th a), ((a 0), .inl (cI, 42, .inl (fun i => vI (gE i)))), ((a 1), .inl (cI, 42, .inl (fun i => vI (gM i)))), ((a 2), .inl (cI, 30, .inl (fun i => vI (gB i)))), ((a 4), .inl (cI, 6, .inl (fun i => vI (gG i))))] := hD
        refine n_ifB_eq (tgt := 42) hx hb dX7_begin_27 (by decide) (fun h27 => ?_) (fun h27 => ?_)
        · refine n_iconst hx hb dX7_begin_42 ?_
          refine lv_istore (lv' := [(7, .int (jI 0)), (0, .ref m0), (1, .int (jI mo)), (2, .int (jI x0)), (3, .int (jI x1)), (4, .int (jI p0)), (5, .int (jI p1)), (6, .int (jI p2))]) hx hb dX7_begin_43 hl (by decide) rfl (fun ls hl => ?_)
          refine lv_aload_n hx hb dX7_begin_45 rfl (lv_at hl 1 rfl) ?_
          refine lv_aload_n hx hb dX7_begin_46 rfl (lv_at hl 1 rfl) ?_
          refine lv_iload_n hx hb dX7_begin_47 rfl (lv_at hl 2 rfl) ?_
          have ct48 := c_X7_isModel l D tys m0 a ms es th mo (by first | assumption | exact r32_z _ | (unfold r32; omega)) (by omega) (by omega)
          refine k_goI (va_runV (As := [.int (jI mo)]) (rest := [.ref m0]) ⟨hx, hb, hml, hown, hts⟩ (ct48.2 _) (cwV 1 hts gX7_begin_X7_isModel rfl rfl rfl (by decide +kernel) ⟨Nat.le_of_ble_eq_true rfl, Nat.le_of_ble_eq_true rfl⟩) ⟨(k_pre hK hP hD (is := [0]) rfl rfl).1, va_recv hK.1 hP (ci := 7) (q0 := 0) rfl rfl, (k_pre hK hP hD (is := [0]) rfl rfl).2⟩ rfl rfl hl.1 rfl (lv_room (Nat.le_of_ble_eq_true rfl)) dX7_begin_48 ⟨Nat.le_of_ble_eq_true rfl, Nat.le_of_ble_eq_true rfl⟩) ct48.1 hP hD hS hA [0] rfl rfl (fun H locs hP hD hS => ?_)
          have hP : va_P D vwCl [(m0, oR (jI ((ms : Nat) : Int)) (jI ((es : Nat) : Int)) th a), ((a 0), .inl (cI, 42, .inl (fun i => vI (gE i)))), ((a 1), .inl (cI, 42, .inl (fun i => vI (gM i)))), ((a 2), .inl (cI, 30, .inl (fun i => vI (gB i)))), ((a 4), .inl (cI, 6, .inl (fun i => vI (gG i))))] H := hP
          have hD : va_D A [(m0, oR (jI ((ms : Nat) : Int)) (jI ((es : Nat) : Int)) th a), ((a 0), .inl (cI, 42, .inl (fun i => vI (gE i)))), ((a 1), .inl (cI, 42, .inl (fun i => vI (gM i)))), ((a 2), .inl (cI, 30, .inl (fun i => vI (gB i)))), ((a 4), .inl (cI, 6, .inl (fun i => vI (gG i))))] := hD
          refine n_ifB_ne (tgt := 58) hx hb dX7_begin_51 (by decide) (fun h51 => Bool.noConfusion (h9.symm.trans h51)) (fun h51 => ?_)
          refine n_iconst hx hb dX7_begin_54 ?_
          refine lv_goto (tgt := 81) hx hb dX7_begin_55 (by decide) ?_
          have ct81 := c_X7_failsT l D tys m0 a ms es th 1 (by unfold r32; decide) (by decide)
          refine k_goI (va_runV (As := [.int (jI 1)]) (rest := []) ⟨hx, hb, hml, hown, hts⟩ (ct81.2 _) (cwV 1 hts gX7_begin_X7_fails rfl rfl rfl (by decide +kernel) ⟨Nat.le_of_ble_eq_true rfl, Nat.le_of_ble_eq_true rfl⟩) ⟨(k_pre hK hP hD (is := [0]) rfl rfl).1, va_recv hK.1 hP (ci := 7) (q0 := 0) rfl rfl, (k_pre hK hP hD (is := [0]) rfl rfl).2⟩ rfl rfl hl.1 rfl (lv_room (Nat.le_of_ble_eq_true rfl)) dX7_begin_81 ⟨Nat.le_of_ble_eq_true rfl, Nat.le_of_ble_eq_true rfl⟩) ct81.1 hP hD hS hA [0] rfl rfl (fun H locs hP hD hS => ?_)
          have hP : va_P D vwCl [(m0, oR (jI ((ms : Nat) : Int)) (jI ((es : Nat) : Int)) (jI 1) a), ((a 0), .inl (cI, 42, .inl (fun i => vI (gE i)))), ((a 1), .inl (cI, 42, .inl (fun i => vI (gM i)))), ((a 2), .inl (cI, 30, .inl (fun i => vI (gB i)))), ((a 4), .inl (cI, 6, .inl (fun i => vI (gG i))))] H := hP
          have hD : va_D A [(m0, oR (jI ((ms : Nat) : Int)) (jI ((es : Nat) : Int)) (jI 1) a), ((a 0), .inl (cI, 42, .inl (fun i => vI (gE i)))), ((a 1), .inl (cI, 42, .inl (fun i => vI (gM i)))), ((a 2), .inl (cI, 30, .inl (fun i => vI (gB i)))), ((a 4), .inl (cI, 6, .inl (fun i => vI (gG i))))] := hD
          refine n_ifB_eq (tgt := 89) hx hb dX7_begin_84 (by decide) (fun h84 => Bool.noConfusion h84) (fun h84 => ?_)
          refine n_iconst hx hb dX7_begin_87 ?_
          exact k_iret hx hb hr hlocks dX7_begin_88 hP hS rfl
        · refine lv_iload hx hb dX7_begin_30 (lv_at hl 6 rfl) ?_
          have ct32 := c_X7_isField l D tys p2 (by first | assumption | exact r32_z _ | (unfold r32; omega))
          refine k_goI (va_runS (As := [.int (jI p2)]) (rest := []) ⟨hx, hb, hml, hown, hts⟩ (ct32.2 _) (va_cwS 1 hts gX7_begin_X7_isField rfl rfl rfl (by decide +kernel) ⟨Nat.le_of_ble_eq_true rfl, Nat.le_of_ble_eq_true rfl⟩) (k_pre hK hP hD (is := []) rfl rfl) rfl rfl hl.1 rfl (lv_room (Nat.le_of_ble_eq_true rfl)) dX7_begin_32 ⟨Nat.le_of_ble_eq_true rfl, Nat.le_of_ble_eq_true rfl⟩) ct32.1 hP hD hS hA [] rfl rfl (fun H locs hP hD hS => ?_)
          have hP : va_P D vwCl [(m0, oR (jI ((ms : Nat) : Int)) (jI ((es : Nat) : Int)) th a), ((a 0), .inl (cI, 42, .inl (fun i => vI (gE i)))), ((a 1), .inl (cI, 42, .inl (fun i => vI (gM i)))), ((a 2), .inl (cI, 30, .inl (fun i => vI (gB i)))), ((a 4), .inl (cI, 6, .inl (fun i => vI (gG i))))] H := hP
          have hD : va_D A [(m0, oR (jI ((ms : Nat) : Int)) (jI ((es : Nat) : Int)) th a), ((a 0), .inl (cI, 42, .inl (fun i => vI (gE i)))), ((a 1), .inl (cI, 42, .inl (fun i => vI (gM i)))), ((a 2), .inl (cI, 30, .inl (fun i => vI (gB i)))), ((a 4), .inl (cI, 6, .inl (fun i => vI (gG i))))] := hD
          refine n_ifB_eq (tgt := 42) hx hb dX7_begin_35 (by decide) (fun h35 => ?_) (fun h35 => ?_)
          · refine n_iconst hx hb dX7_begin_42 ?_
            refine lv_istore (lv' := [(7, .int (jI 0)), (0, .ref m0), (1, .int (jI mo)), (2, .int (jI x0)), (3, .int (jI x1)), (4, .int (jI p0)), (5, .int (jI p1)), (6, .int (jI p2))]) hx hb dX7_begin_43 hl (by decide) rfl (fun ls hl => ?_)
            refine lv_aload_n hx hb dX7_begin_45 rfl (lv_at hl 1 rfl) ?_
            refine lv_aload_n hx hb dX7_begin_46 rfl (lv_at hl 1 rfl) ?_
            refine lv_iload_n hx hb dX7_begin_47 rfl (lv_at hl 2 rfl) ?_
            have ct48 := c_X7_isModel l D tys m0 a ms es th mo (by first | assumption | exact r32_z _ | (unfold r32; omega)) (by omega) (by omega)
            refine k_goI (va_runV (As := [.int (jI mo)]) (rest := [.ref m0]) ⟨hx, hb, hml, hown, hts⟩ (ct48.2 _) (cwV 1 hts gX7_begin_X7_isModel rfl rfl rfl (by decide +kernel) ⟨Nat.le_of_ble_eq_true rfl, Nat.le_of_ble_eq_true rfl⟩) ⟨(k_pre hK hP hD (is := [0]) rfl rfl).1, va_recv hK.1 hP (ci := 7) (q0 := 0) rfl rfl, (k_pre hK hP hD (is := [0]) rfl rfl).2⟩ rfl rfl hl.1 rfl (lv_room (Nat.le_of_ble_eq_true rfl)) dX7_begin_48 ⟨Nat.le_of_ble_eq_true rfl, Nat.le_of_ble_eq_true rfl⟩) ct48.1 hP hD hS hA [0] rfl rfl (fun H locs hP hD hS => ?_)
            have hP : va_P D vwCl [(m0, oR (jI ((ms : Nat) : Int)) (jI ((es : Nat) : Int)) th a), ((a 0), .inl (cI, 42, .inl (fun i => vI (gE i)))), ((a 1), .inl (cI, 42, .inl (fun i => vI (gM i)))), ((a 2), .inl (cI, 30, .inl (fun i => vI (gB i)))), ((a 4), .inl (cI, 6, .inl (fun i => vI (gG i))))] H := hP
            have hD : va_D A [(m0, oR (jI ((ms : Nat) : Int)) (jI ((es : Nat) : Int)) th a), ((a 0), .inl (cI, 42, .inl (fun i => vI (gE i)))), ((a 1), .inl (cI, 42, .inl (fun i => vI (gM i)))), ((a 2), .inl (cI, 30, .inl (fun i => vI (gB i)))), ((a 4), .inl (cI, 6, .inl (fun i => vI (gG i))))] := hD
            refine n_ifB_ne (tgt := 58) hx hb dX7_begin_51 (by decide) (fun h51 => Bool.noConfusion (h9.symm.trans h51)) (fun h51 => ?_)
            refine n_iconst hx hb dX7_begin_54 ?_
            refine lv_goto (tgt := 81) hx hb dX7_begin_55 (by decide) ?_
            have ct81 := c_X7_failsT l D tys m0 a ms es th 1 (by unfold r32; decide) (by decide)
            refine k_goI (va_runV (As := [.int (jI 1)]) (rest := []) ⟨hx, hb, hml, hown, hts⟩ (ct81.2 _) (cwV 1 hts gX7_begin_X7_fails rfl rfl rfl (by decide +kernel) ⟨Nat.le_of_ble_eq_true rfl, Nat.le_of_ble_eq_true rfl⟩) ⟨(k_pre hK hP hD (is := [0]) rfl rfl).1, va_recv hK.1 hP (ci := 7) (q0 := 0) rfl rfl, (k_pre hK hP hD (is := [0]) rfl rfl).2⟩ rfl rfl hl.1 rfl (lv_room (Nat.le_of_ble_eq_true rfl)) dX7_begin_81 ⟨Nat.le_of_ble_eq_true rfl, Nat.le_of_ble_eq_true rfl⟩) ct81.1 hP hD hS hA [0] rfl rfl (fun H locs hP hD hS => ?_)
            have hP : va_P D vwCl [(m0, oR (jI ((ms : Nat) : Int)) (jI ((es : Nat) : Int)) (jI 1) a), ((a 0), .inl (cI, 42, .inl (fun i => vI (gE i)))), ((a 1), .inl (cI, 42, .inl (fun i => vI (gM i)))), ((a 2), .inl (cI, 30, .inl (fun i => vI (gB i)))), ((a 4), .inl (cI, 6, .inl (fun i => vI (gG i))))] H := hP
            have hD : va_D A [(m0, oR (jI ((ms : Nat) : Int)) (jI ((es : Nat) : Int)) (jI 1) a), ((a 0), .inl (cI, 42, .inl (fun i => vI (gE i)))), ((a 1), .inl (cI, 42, .inl (fun i => vI (gM i)))), ((a 2), .inl (cI, 30, .inl (fun i => vI (gB i)))), ((a 4), .inl (cI, 6, .inl (fun i => vI (gG i))))] := hD
            refine n_ifB_eq (tgt := 89) hx hb dX7_begin_84 (by decide) (fun h84 => Bool.noConfusion h84) (fun h84 => ?_)
            refine n_iconst hx hb dX7_begin_87 ?_
            exact k_iret hx hb hr hlocks dX7_begin_88 hP hS rfl
          · refine n_iconst hx hb dX7_begin_38 ?_
            refine lv_goto (tgt := 43) hx hb dX7_begin_39 (by decide) ?_
            refine lv_istore (lv' := [(7, .int (jI 1)), (0, .ref m0), (1, .int (jI mo)), (2, .int (jI x0)), (3, .int (jI x1)), (4, .int (jI p0)), (5, .int (jI p1)), (6, .int (jI p2))]) hx hb dX7_begin_43 hl (by decide) rfl (fun ls hl => ?_)
            refine lv_aload_n hx hb dX7_begin_45 rfl (lv_at hl 1 rfl) ?_
            refine lv_aload_n hx hb dX7_begin_46 rfl (lv_at hl 1 rfl) ?_
            refine lv_iload_n hx hb dX7_begin_47 rfl (lv_at hl 2 rfl) ?_
            have ct48 := c_X7_isModel l D tys m0 a ms es th mo (by first | assumption | exact r32_z _ | (unfold r32; omega)) (by omega) (by omega)
            refine k_goI (va_runV (As := [.int (jI mo)]) (rest := [.ref m0]) ⟨hx, hb, hml, hown, hts⟩ (ct48.2 _) (cwV 1 hts gX7_begin_X7_isModel rfl rfl rfl (by decide +kernel) ⟨Nat.le_of_ble_eq_true rfl, Nat.le_of_ble_eq_true rfl⟩) ⟨(k_pre hK hP hD (is := [0]) rfl rfl).1, va_recv hK.1 hP (ci := 7) (q0 := 0) rfl rfl, (k_pre hK hP hD (is := [0]) rfl rfl).2⟩ rfl rfl hl.1 rfl (lv_room (Nat.le_of_ble_eq_true rfl)) dX7_begin_48 ⟨Nat.le_of_ble_eq_true rfl, Nat.le_of_ble_eq_true rfl⟩) ct48.1 hP hD hS hA [0] rfl rfl (fun H locs hP hD hS => ?_)
            have hP : va_P D vwCl [(m0, oR (jI ((ms : Nat) : Int)) (jI ((es : Nat) : Int)) th a), ((a 0), .inl (cI, 42, .inl (fun i => vI (gE i)))), ((a 1), .inl (cI, 42, .inl (fun i => vI (gM i)))), ((a 2), .inl (cI, 30, .inl (fun i => vI (gB i)))), ((a 4), .inl (cI, 6, .inl (fun i => vI (gG i))))] H := hP
            have hD : va_D A [(m0, oR (jI ((ms : Nat) : Int)) (jI ((es : Nat) : Int)) th a), ((a 0), .inl (cI, 42, .inl (fun i => vI (gE i)))), ((a 1), .inl (cI, 42, .inl (fun i => vI (gM i)))), ((a 2), .inl (cI, 30, .inl (fun i => vI (gB i)))), ((a 4), .inl (cI, 6, .inl (fun i => vI (gG i))))] := hD
            refine n_ifB_ne (tgt := 58) hx hb dX7_begin_51 (by decide) (fun h51 => Bool.noConfusion (h9.symm.trans h51)) (fun h51 => ?_)
            refine n_iconst hx hb dX7_begin_54 ?_
            refine lv_goto (tgt := 81) hx hb dX7_begin_55 (by decide) ?_
            have ct81 := c_X7_failsT l D tys m0 a ms es th 1 (by unfold r32; decide) (by decide)
            refine k_goI (va_runV (As := [.int (jI 1)]) (rest := []) ⟨hx, hb, hml, hown, hts⟩ (ct81.2 _) (cwV 1 hts gX7_begin_X7_fails rfl rfl rfl (by decide +kernel) ⟨Nat.le_of_ble_eq_true rfl, Nat.le_of_ble_eq_true rfl⟩) ⟨(k_pre hK hP hD (is := [0]) rfl rfl).1, va_recv hK.1 hP (ci := 7) (q0 := 0) rfl rfl, (k_pre hK hP hD (is := [0]) rfl rfl).2⟩ rfl rfl hl.1 rfl (lv_room (Nat.le_of_ble_eq_true rfl)) dX7_begin_81 ⟨Nat.le_of_ble_eq_true rfl, Nat.le_of_ble_eq_true rfl⟩) ct81.1 hP hD hS hA [0] rfl rfl (fun H locs hP hD hS => ?_)
            have hP : va_P D vwCl [(m0, oR (jI ((ms : Nat) : Int)) (jI ((es : Nat) : Int)) (jI 1) a), ((a 0), .inl (cI, 42, .inl (fun i => vI (gE i)))), ((a 1), .inl (cI, 42, .inl (fun i => vI (gM i)))), ((a 2), .inl (cI, 30, .inl (fun i => vI (gB i)))), ((a 4), .inl (cI, 6, .inl (fun i => vI (gG i))))] H := hP
            have hD : va_D A [(m0, oR (jI ((ms : Nat) : Int)) (jI ((es : Nat) : Int)) (jI 1) a), ((a 0), .inl (cI, 42, .inl (fun i => vI (gE i)))), ((a 1), .inl (cI, 42, .inl (fun i => vI (gM i)))), ((a 2), .inl (cI, 30, .inl (fun i => vI (gB i)))), ((a 4), .inl (cI, 6, .inl (fun i => vI (gG i))))] := hD
            refine n_ifB_eq (tgt := 89) hx hb dX7_begin_84 (by decide) (fun h84 => Bool.noConfusion h84) (fun h84 => ?_)
            refine n_iconst hx hb dX7_begin_87 ?_
            exact k_iret hx hb hr hlocks dX7_begin_88 hP hS rfl

set_option maxHeartbeats 4000000 in
set_option maxRecDepth 100000 in
/--  -/
theorem c_X7_begin2 (l : Launch) (D : va_G) (tys : List (ClassId × FieldType)) {cI cJ cZ : ClassId} (htI : tys[0]? = some (cI, .int)) (htJ : tys[1]? = some (cJ, .long)) (htZ : tys[2]? = some (cZ, .boolean)) (m0 : Nat) (a : Nat → Nat) (ms es : Nat) (th : Int32) (gE : Nat → Zp) (gM : Nat → Zp) (gB : Nat → Zp) (gG : Nat → Zp) (q1 : ms ≤ 6) (q2 : es ≤ 6) (mo x0 x1 p0 p1 p2 : Int) (q3 : r32 mo) (r0 : r32 x0) (r1 : r32 x1) (r2 : r32 p0) (r3 : r32 p1) (r4 : r32 p2) (h9 : (inB 0 (((ms : Nat) : Int) - 1) mo) = true) (h8 : ((inB 0 10006 x0) && ((inB 0 10006 x1) && ((inB 0 10006 p0) && ((inB 0 10006 p1) && ((inB 0 10006 p2)))))) = false) : CtI l D tys yX7_begin wsX7_begin 2 43 [.ref m0, .int (jI mo), .int (jI x0), .int (jI x1), .int (jI p0), .int (jI p1), .int (jI p2)] (jI 0) [(m0, oR (jI ((ms : Nat) : Int)) (jI ((es : Nat) : Int)) th a), ((a 0), .inl (cI, 42, .inl (fun i => vI (gE i)))), ((a 1), .inl (cI, 42, .inl (fun i => vI (gM i)))), ((a 2), .inl (cI, 30, .inl (fun i => vI (gB i)))), ((a 4), .inl (cI, 6, .inl (fun i => vI (gG i))))] [(m0, oR (jI ((ms : Nat) : Int)) (jI ((es : Nat) : Int)) (jI 2) a), ((a 0), .inl (cI, 42, .inl (fun i => vI (gE i)))), ((a 1), .inl (cI, 42, .inl (fun i => vI (gM i)))), ((a 2), .inl (cI, 30, .inl (fun i => vI (gB i)))), ((a 4), .inl (cI, 6, .inl (fun i => vI (gG i))))] := by
  refine CtI.of (cc := cX7_begin) (maxL := 10) (by decide +kernel) rfl rfl (Nat.le_of_ble_eq_true rfl) ?_
  intro p e s m below meth c A ls hcx hK hP hD hA hl
  obtain ⟨hx, hb, hr, hml, hown, hts, hlocks⟩ := hcx
  have hS : va_S A s.heap s.heap [] := va_S.rf
  have hown : s.vm.findClass RX7 = some m.cls := hown
  have hl : lv_has ls 10 [(0, .ref m0), (1, .int (jI mo)), (2, .int (jI x0)), (3, .int (jI x1)), (4, .int (jI p0)), (5, .int (jI p1)), (6, .int (jI p2))] := hl
  refine lv_iload_n hx hb dX7_begin_0 rfl (lv_at hl 2 rfl) ?_
  have ct1 := c_X7_isField l D tys x0 (by first | assumption | exact r32_z _ | (unfold r32; omega))
  refine k_goI (va_runS (As := [.int (jI x0)]) (rest := []) ⟨hx, hb, hml, hown, hts⟩ (ct1.2 _) (va_cwS 1 hts gX7_begin_X7_isField rfl rfl rfl (by decide +kernel) ⟨Nat.le_of_ble_eq_true rfl, Nat.le_of_ble_eq_true rfl⟩) (k_pre hK hP hD (is := []) rfl rfl) rfl rfl hl.1 rfl (lv_room (Nat.le_of_ble_eq_true rfl)) dX7_begin_1 ⟨Nat.le_of_ble_eq_true rfl, Nat.le_of_ble_eq_true rfl⟩) ct1.1 hP hD hS hA [] rfl rfl (fun H locs hP hD hS => ?_)
  have hP : va_P D vwCl [(m0, oR (jI ((ms : Nat) : Int)) (jI ((es : Nat) : Int)) th a), ((a 0), .inl (cI, 42, .inl (fun i => vI (gE i)))), ((a 1), .inl (cI, 42, .inl (fun i => vI (gM i)))), ((a 2), .inl (cI, 30, .inl (fun i => vI (gB i)))), ((a 4), .inl (cI, 6, .inl (fun i => vI (gG i))))] H := hP
  have hD : va_D A [(m0, oR (jI ((ms : Nat) : Int)) (jI ((es : Nat) : Int)) th a), ((a 0), .inl (cI, 42, .inl (fun i => vI (gE i)))), ((a 1), .inl (cI, 42, .inl (fun i => vI (gM i)))), ((a 2), .inl (cI, 30, .inl (fun i => vI (gB i)))), ((a 4), .inl (cI, 6, .inl (fun i => vI (gG i))))] := hD
  refine n_ifB_eq (tgt := 42) hx hb dX7_begin_4 (by decide) (fun h4 => ?_) (fun h4 => ?_)
  · refine n_iconst hx hb dX7_begin_42 ?_
    refine lv_istore (lv' := [(7, .int (jI 0)), (0, .ref m0), (1, .int (jI mo)), (2, .int (jI x0)), (3, .int (jI x1)), (4, .int (jI p0)), (5, .int (jI p1)), (6, .int (jI p2))]) hx hb dX7_begin_43 hl (by decide) rfl (fun ls hl => ?_)
    refine lv_aload_n hx hb dX7_begin_45 rfl (lv_at hl 1 rfl) ?_
    refine lv_aload_n hx hb dX7_begin_46 rfl (lv_at hl 1 rfl) ?_
    refine lv_iload_n hx hb dX7_begin_47 rfl (lv_at hl 2 rfl) ?_
    have ct48 := c_X7_isModel l D tys m0 a ms es th mo (by first | assumption | exact r32_z _ | (unfold r32; omega)) (by omega) (by omega)
    refine k_goI (va_runV (As := [.int (jI mo)]) (rest := [.ref m0]) ⟨hx, hb, hml, hown, hts⟩ (ct48.2 _) (cwV 1 hts gX7_begin_X7_isModel rfl rfl rfl (by decide +kernel) ⟨Nat.le_of_ble_eq_true rfl, Nat.le_of_ble_eq_true rfl⟩) ⟨(k_pre hK hP hD (is := [0]) rfl rfl).1, va_recv hK.1 hP (ci := 7) (q0 := 0) rfl rfl, (k_pre hK hP hD (is := [0]) rfl rfl).2⟩ rfl rfl hl.1 rfl (lv_room (Nat.le_of_ble_eq_true rfl)) dX7_begin_48 ⟨Nat.le_of_ble_eq_true rfl, Nat.le_of_ble_eq_true rfl⟩) ct48.1 hP hD hS hA [0] rfl rfl (fun H locs hP hD hS => ?_)
    have hP : va_P D vwCl [(m0, oR (jI ((ms : Nat) : Int)) (jI ((es : Nat) : Int)) th a), ((a 0), .inl (cI, 42, .inl (fun i => vI (gE i)))), ((a 1), .inl (cI, 42, .inl (fun i => vI (gM i)))), ((a 2), .inl (cI, 30, .inl (fun i => vI (gB i)))), ((a 4), .inl (cI, 6, .inl (fun i => vI (gG i))))] H := hP
    have hD : va_D A [(m0, oR (jI ((ms : Nat) : Int)) (jI ((es : Nat) : Int)) th a), ((a 0), .inl (cI, 42, .inl (fun i => vI (gE i)))), ((a 1), .inl (cI, 42, .inl (fun i => vI (gM i)))), ((a 2), .inl (cI, 30, .inl (fun i => vI (gB i)))), ((a 4), .inl (cI, 6, .inl (fun i => vI (gG i))))] := hD
    refine n_ifB_ne (tgt := 58) hx hb dX7_begin_51 (by decide) (fun h51 => ?_) (fun h51 => Bool.noConfusion (h9.symm.trans h51))
    refine lv_iload hx hb dX7_begin_58 (lv_at hl 0 rfl) ?_
    refine n_if_ne (tgt := 67) hx hb (by unfold r32; decide) dX7_begin_60 (by decide) (fun h60 => False.elim (by revert h60; decide)) (fun h60 => ?_)
    refine n_iconst hx hb dX7_begin_63 ?_
    refine lv_goto (tgt := 81) hx hb dX7_begin_64 (by decide) ?_
    have ct81 := c_X7_failsT l D tys m0 a ms es th 2 (by unfold r32; decide) (by decide)
    refine k_goI (va_runV (As := [.int (jI 2)]) (rest := []) ⟨hx, hb, hml, hown, hts⟩ (ct81.2 _) (cwV 1 hts gX7_begin_X7_fails rfl rfl rfl (by decide +kernel) ⟨Nat.le_of_ble_eq_true rfl, Nat.le_of_ble_eq_true rfl⟩) ⟨(k_pre hK hP hD (is := [0]) rfl rfl).1, va_recv hK.1 hP (ci := 7) (q0 := 0) rfl rfl, (k_pre hK hP hD (is := [0]) rfl rfl).2⟩ rfl rfl hl.1 rfl (lv_room (Nat.le_of_ble_eq_true rfl)) dX7_begin_81 ⟨Nat.le_of_ble_eq_true rfl, Nat.le_of_ble_eq_true rfl⟩) ct81.1 hP hD hS hA [0] rfl rfl (fun H locs hP hD hS => ?_)
    have hP : va_P D vwCl [(m0, oR (jI ((ms : Nat) : Int)) (jI ((es : Nat) : Int)) (jI 2) a), ((a 0), .inl (cI, 42, .inl (fun i => vI (gE i)))), ((a 1), .inl (cI, 42, .inl (fun i => vI (gM i)))), ((a 2), .inl (cI, 30, .inl (fun i => vI (gB i)))), ((a 4), .inl (cI, 6, .inl (fun i => vI (gG i))))] H := hP
    have hD : va_D A [(m0, oR (jI ((ms : Nat) : Int)) (jI ((es : Nat) : Int)) (jI 2) a), ((a 0), .inl (cI, 42, .inl (fun i => vI (gE i)))), ((a 1), .inl (cI, 42, .inl (fun i => vI (gM i)))), ((a 2), .inl (cI, 30, .inl (fun i => vI (gB i)))), ((a 4), .inl (cI, 6, .inl (fun i => vI (gG i))))] := hD
    refine n_ifB_eq (tgt := 89) hx hb dX7_begin_84 (by decide) (fun h84 => Bool.noConfusion h84) (fun h84 => ?_)
    refine n_iconst hx hb dX7_begin_87 ?_
    exact k_iret hx hb hr hlocks dX7_begin_88 hP hS rfl
  · refine lv_iload_n hx hb dX7_begin_7 rfl (lv_at hl 3 rfl) ?_
    have ct8 := c_X7_isField l D tys x1 (by first | assumption | exact r32_z _ | (unfold r32; omega))
    refine k_goI (va_runS (As := [.int (jI x1)]) (rest := []) ⟨hx, hb, hml, hown, hts⟩ (ct8.2 _) (va_cwS 1 hts gX7_begin_X7_isField rfl rfl rfl (by decide +kernel) ⟨Nat.le_of_ble_eq_true rfl, Nat.le_of_ble_eq_true rfl⟩) (k_pre hK hP hD (is := []) rfl rfl) rfl rfl hl.1 rfl (lv_room (Nat.le_of_ble_eq_true rfl)) dX7_begin_8 ⟨Nat.le_of_ble_eq_true rfl, Nat.le_of_ble_eq_true rfl⟩) ct8.1 hP hD hS hA [] rfl rfl (fun H locs hP hD hS => ?_)
    have hP : va_P D vwCl [(m0, oR (jI ((ms : Nat) : Int)) (jI ((es : Nat) : Int)) th a), ((a 0), .inl (cI, 42, .inl (fun i => vI (gE i)))), ((a 1), .inl (cI, 42, .inl (fun i => vI (gM i)))), ((a 2), .inl (cI, 30, .inl (fun i => vI (gB i)))), ((a 4), .inl (cI, 6, .inl (fun i => vI (gG i))))] H := hP
    have hD : va_D A [(m0, oR (jI ((ms : Nat) : Int)) (jI ((es : Nat) : Int)) th a), ((a 0), .inl (cI, 42, .inl (fun i => vI (gE i)))), ((a 1), .inl (cI, 42, .inl (fun i => vI (gM i)))), ((a 2), .inl (cI, 30, .inl (fun i => vI (gB i)))), ((a 4), .inl (cI, 6, .inl (fun i => vI (gG i))))] := hD
    refine n_ifB_eq (tgt := 42) hx hb dX7_begin_11 (by decide) (fun h11 => ?_) (fun h11 => ?_)
    · refine n_iconst hx hb dX7_begin_42 ?_
      refine lv_istore (lv' := [(7, .int (jI 0)), (0, .ref m0), (1, .int (jI mo)), (2, .int (jI x0)), (3, .int (jI x1)), (4, .int (jI p0)), (5, .int (jI p1)), (6, .int (jI p2))]) hx hb dX7_begin_43 hl (by decide) rfl (fun ls hl => ?_)
      refine lv_aload_n hx hb dX7_begin_45 rfl (lv_at hl 1 rfl) ?_
      refine lv_aload_n hx hb dX7_begin_46 rfl (lv_at hl 1 rfl) ?_
      refine lv_iload_n hx hb dX7_begin_47 rfl (lv_at hl 2 rfl) ?_
      have ct48 := c_X7_isModel l D tys m0 a ms es th mo (by first | assumption | exact r32_z _ | (unfold r32; omega)) (by omega) (by omega)
      refine k_goI (va_runV (As := [.int (jI mo)]) (rest := [.ref m0]) ⟨hx, hb, hml, hown, hts⟩ (ct48.2 _) (cwV 1 hts gX7_begin_X7_isModel rfl rfl rfl (by decide +kernel) ⟨Nat.le_of_ble_eq_true rfl, Nat.le_of_ble_eq_true rfl⟩) ⟨(k_pre hK hP hD (is := [0]) rfl rfl).1, va_recv hK.1 hP (ci := 7) (q0 := 0) rfl rfl, (k_pre hK hP hD (is := [0]) rfl rfl).2⟩ rfl rfl hl.1 rfl (lv_room (Nat.le_of_ble_eq_true rfl)) dX7_begin_48 ⟨Nat.le_of_ble_eq_true rfl, Nat.le_of_ble_eq_true rfl⟩) ct48.1 hP hD hS hA [0] rfl rfl (fun H locs hP hD hS => ?_)
      have hP : va_P D vwCl [(m0, oR (jI ((ms : Nat) : Int)) (jI ((es : Nat) : Int)) th a), ((a 0), .inl (cI, 42, .inl (fun i => vI (gE i)))), ((a 1), .inl (cI, 42, .inl (fun i => vI (gM i)))), ((a 2), .inl (cI, 30, .inl (fun i => vI (gB i)))), ((a 4), .inl (cI, 6, .inl (fun i => vI (gG i))))] H := hP
      have hD : va_D A [(m0, oR (jI ((ms : Nat) : Int)) (jI ((es : Nat) : Int)) th a), ((a 0), .inl (cI, 42, .inl (fun i => vI (gE i)))), ((a 1), .inl (cI, 42, .inl (fun i => vI (gM i)))), ((a 2), .inl (cI, 30, .inl (fun i => vI (gB i)))), ((a 4), .inl (cI, 6, .inl (fun i => vI (gG i))))] := hD
      refine n_ifB_ne (tgt := 58) hx hb dX7_begin_51 (by decide) (fun h51 => ?_) (fun h51 => Bool.noConfusion (h9.symm.trans h51))
      refine lv_iload hx hb dX7_begin_58 (lv_at hl 0 rfl) ?_
      refine n_if_ne (tgt := 67) hx hb (by unfold r32; decide) dX7_begin_60 (by decide) (fun h60 => False.elim (by revert h60; decide)) (fun h60 => ?_)
      refine n_iconst hx hb dX7_begin_63 ?_
      refine lv_goto (tgt := 81) hx hb dX7_begin_64 (by decide) ?_
      have ct81 := c_X7_failsT l D tys m0 a ms es th 2 (by unfold r32; decide) (by decide)
      refine k_goI (va_runV (As := [.int (jI 2)]) (rest := []) ⟨hx, hb, hml, hown, hts⟩ (ct81.2 _) (cwV 1 hts gX7_begin_X7_fails rfl rfl rfl (by decide +kernel) ⟨Nat.le_of_ble_eq_true rfl, Nat.le_of_ble_eq_true rfl⟩) ⟨(k_pre hK hP hD (is := [0]) rfl rfl).1, va_recv hK.1 hP (ci := 7) (q0 := 0) rfl rfl, (k_pre hK hP hD (is := [0]) rfl rfl).2⟩ rfl rfl hl.1 rfl (lv_room (Nat.le_of_ble_eq_true rfl)) dX7_begin_81 ⟨Nat.le_of_ble_eq_true rfl, Nat.le_of_ble_eq_true rfl⟩) ct81.1 hP hD hS hA [0] rfl rfl (fun H locs hP hD hS => ?_)
      have hP : va_P D vwCl [(m0, oR (jI ((ms : Nat) : Int)) (jI ((es : Nat) : Int)) (jI 2) a), ((a 0), .inl (cI, 42, .inl (fun i => vI (gE i)))), ((a 1), .inl (cI, 42, .inl (fun i => vI (gM i)))), ((a 2), .inl (cI, 30, .inl (fun i => vI (gB i)))), ((a 4), .inl (cI, 6, .inl (fun i => vI (gG i))))] H := hP
      have hD : va_D A [(m0, oR (jI ((ms : Nat) : Int)) (jI ((es : Nat) : Int)) (jI 2) a), ((a 0), .inl (cI, 42, .inl (fun i => vI (gE i)))), ((a 1), .inl (cI, 42, .inl (fun i => vI (gM i)))), ((a 2), .inl (cI, 30, .inl (fun i => vI (gB i)))), ((a 4), .inl (cI, 6, .inl (fun i => vI (gG i))))] := hD
      refine n_ifB_eq (tgt := 89) hx hb dX7_begin_84 (by decide) (fun h84 => Bool.noConfusion h84) (fun h84 => ?_)
      refine n_iconst hx hb dX7_begin_87 ?_
      exact k_iret hx hb hr hlocks dX7_begin_88 hP hS rfl
    · refine lv_iload hx hb dX7_begin_14 (lv_at hl 4 rfl) ?_
      have ct16 := c_X7_isField l D tys p0 (by first | assumption | exact r32_z _ | (unfold r32; omega))
      refine k_goI (va_runS (As := [.int (jI p0)]) (rest := []) ⟨hx, hb, hml, hown, hts⟩ (ct16.2 _) (va_cwS 1 hts gX7_begin_X7_isField rfl rfl rfl (by decide +kernel) ⟨Nat.le_of_ble_eq_true rfl, Nat.le_of_ble_eq_true rfl⟩) (k_pre hK hP hD (is := []) rfl rfl) rfl rfl hl.1 rfl (lv_room (Nat.le_of_ble_eq_true rfl)) dX7_begin_16 ⟨Nat.le_of_ble_eq_true rfl, Nat.le_of_ble_eq_true rfl⟩) ct16.1 hP hD hS hA [] rfl rfl (fun H locs hP hD hS => ?_)
      have hP : va_P D vwCl [(m0, oR (jI ((ms : Nat) : Int)) (jI ((es : Nat) : Int)) th a), ((a 0), .inl (cI, 42, .inl (fun i => vI (gE i)))), ((a 1), .inl (cI, 42, .inl (fun i => vI (gM i)))), ((a 2), .inl (cI, 30, .inl (fun i => vI (gB i)))), ((a 4), .inl (cI, 6, .inl (fun i => vI (gG i))))] H := hP
      have hD : va_D A [(m0, oR (jI ((ms : Nat) : Int)) (jI ((es : Nat) : Int)) th a), ((a 0), .inl (cI, 42, .inl (fun i => vI (gE i)))), ((a 1), .inl (cI, 42, .inl (fun i => vI (gM i)))), ((a 2), .inl (cI, 30, .inl (fun i => vI (gB i)))), ((a 4), .inl (cI, 6, .inl (fun i => vI (gG i))))] := hD
      refine n_ifB_eq (tgt := 42) hx hb dX7_begin_19 (by decide) (fun h19 => ?_) (fun h19 => ?_)
      · refine n_iconst hx hb dX7_begin_42 ?_
        refine lv_istore (lv' := [(7, .int (jI 0)), (0, .ref m0), (1, .int (jI mo)), (2, .int (jI x0)), (3, .int (jI x1)), (4, .int (jI p0)), (5, .int (jI p1)), (6, .int (jI p2))]) hx hb dX7_begin_43 hl (by decide) rfl (fun ls hl => ?_)
        refine lv_aload_n hx hb dX7_begin_45 rfl (lv_at hl 1 rfl) ?_
        refine lv_aload_n hx hb dX7_begin_46 rfl (lv_at hl 1 rfl) ?_
        refine lv_iload_n hx hb dX7_begin_47 rfl (lv_at hl 2 rfl) ?_
        have ct48 := c_X7_isModel l D tys m0 a ms es th mo (by first | assumption | exact r32_z _ | (unfold r32; omega)) (by omega) (by omega)
        refine k_goI (va_runV (As := [.int (jI mo)]) (rest := [.ref m0]) ⟨hx, hb, hml, hown, hts⟩ (ct48.2 _) (cwV 1 hts gX7_begin_X7_isModel rfl rfl rfl (by decide +kernel) ⟨Nat.le_of_ble_eq_true rfl, Nat.le_of_ble_eq_true rfl⟩) ⟨(k_pre hK hP hD (is := [0]) rfl rfl).1, va_recv hK.1 hP (ci := 7) (q0 := 0) rfl rfl, (k_pre hK hP hD (is := [0]) rfl rfl).2⟩ rfl rfl hl.1 rfl (lv_room (Nat.le_of_ble_eq_true rfl)) dX7_begin_48 ⟨Nat.le_of_ble_eq_true rfl, Nat.le_of_ble_eq_true rfl⟩) ct48.1 hP hD hS hA [0] rfl rfl (fun H locs hP hD hS => ?_)
        have hP : va_P D vwCl [(m0, oR (jI ((ms : Nat) : Int)) (jI ((es : Nat) : Int)) th a), ((a 0), .inl (cI, 42, .inl (fun i => vI (gE i)))), ((a 1), .inl (cI, 42, .inl (fun i => vI (gM i)))), ((a 2), .inl (cI, 30, .inl (fun i => vI (gB i)))), ((a 4), .inl (cI, 6, .inl (fun i => vI (gG i))))] H := hP
        have hD : va_D A [(m0, oR (jI ((ms : Nat) : Int)) (jI ((es : Nat) : Int)) th a), ((a 0), .inl (cI, 42, .inl (fun i => vI (gE i)))), ((a 1), .inl (cI, 42, .inl (fun i => vI (gM i)))), ((a 2), .inl (cI, 30, .inl (fun i => vI (gB i)))), ((a 4), .inl (cI, 6, .inl (fun i => vI (gG i))))] := hD
        refine n_ifB_ne (tgt := 58) hx hb dX7_begin_51 (by decide) (fun h51 => ?_) (fun h51 => Bool.noConfusion (h9.symm.trans h51))
        refine lv_iload hx hb dX7_begin_58 (lv_at hl 0 rfl) ?_
        refine n_if_ne (tgt := 67) hx hb (by unfold r32; decide) dX7_begin_60 (by decide) (fun h60 => False.elim (by revert h60; decide)) (fun h60 => ?_)
        refine n_iconst hx hb dX7_begin_63 ?_
        refine lv_goto (tgt := 81) hx hb dX7_begin_64 (by decide) ?_
        have ct81 := c_X7_failsT l D tys m0 a ms es th 2 (by unfold r32; decide) (by decide)
        refine k_goI (va_runV (As := [.int (jI 2)]) (rest := []) ⟨hx, hb, hml, hown, hts⟩ (ct81.2 _) (cwV 1 hts gX7_begin_X7_fails rfl rfl rfl (by decide +kernel) ⟨Nat.le_of_ble_eq_true rfl, Nat.le_of_ble_eq_true rfl⟩) ⟨(k_pre hK hP hD (is := [0]) rfl rfl).1, va_recv hK.1 hP (ci := 7) (q0 := 0) rfl rfl, (k_pre hK hP hD (is := [0]) rfl rfl).2⟩ rfl rfl hl.1 rfl (lv_room (Nat.le_of_ble_eq_true rfl)) dX7_begin_81 ⟨Nat.le_of_ble_eq_true rfl, Nat.le_of_ble_eq_true rfl⟩) ct81.1 hP hD hS hA [0] rfl rfl (fun H locs hP hD hS => ?_)
        have hP : va_P D vwCl [(m0, oR (jI ((ms : Nat) : Int)) (jI ((es : Nat) : Int)) (jI 2) a), ((a 0), .inl (cI, 42, .inl (fun i => vI (gE i)))), ((a 1), .inl (cI, 42, .inl (fun i => vI (gM i)))), ((a 2), .inl (cI, 30, .inl (fun i => vI (gB i)))), ((a 4), .inl (cI, 6, .inl (fun i => vI (gG i))))] H := hP
        have hD : va_D A [(m0, oR (jI ((ms : Nat) : Int)) (jI ((es : Nat) : Int)) (jI 2) a), ((a 0), .inl (cI, 42, .inl (fun i => vI (gE i)))), ((a 1), .inl (cI, 42, .inl (fun i => vI (gM i)))), ((a 2), .inl (cI, 30, .inl (fun i => vI (gB i)))), ((a 4), .inl (cI, 6, .inl (fun i => vI (gG i))))] := hD
        refine n_ifB_eq (tgt := 89) hx hb dX7_begin_84 (by decide) (fun h84 => Bool.noConfusion h84) (fun h84 => ?_)
        refine n_iconst hx hb dX7_begin_87 ?_
        exact k_iret hx hb hr hlocks dX7_begin_88 hP hS rfl
      · refine lv_iload hx hb dX7_begin_22 (lv_at hl 5 rfl) ?_
        have ct24 := c_X7_isField l D tys p1 (by first | assumption | exact r32_z _ | (unfold r32; omega))
        refine k_goI (va_runS (As := [.int (jI p1)]) (rest := []) ⟨hx, hb, hml, hown, hts⟩ (ct24.2 _) (va_cwS 1 hts gX7_begin_X7_isField rfl rfl rfl (by decide +kernel) ⟨Nat.le_of_ble_eq_true rfl, Nat.le_of_ble_eq_true rfl⟩) (k_pre hK hP hD (is := []) rfl rfl) rfl rfl hl.1 rfl (lv_room (Nat.le_of_ble_eq_true rfl)) dX7_begin_24 ⟨Nat.le_of_ble_eq_true rfl, Nat.le_of_ble_eq_true rfl⟩) ct24.1 hP hD hS hA [] rfl rfl (fun H locs hP hD hS => ?_)
        have hP : va_P D vwCl [(m0, oR (jI ((ms : Nat) : Int)) (jI ((es : Nat) : Int)) th a), ((a 0), .inl (cI, 42, .inl (fun i => vI (gE i)))), ((a 1), .inl (cI, 42, .inl (fun i => vI (gM i)))), ((a 2), .inl (cI, 30, .inl (fun i => vI (gB i)))), ((a 4), .inl (cI, 6, .inl (fun i => vI (gG i))))] H := hP
        have hD : va_D A [(m0, oR (jI ((ms : Nat) : Int)) (jI ((es : Nat) : Int)) th a), ((a 0), .inl (cI, 42, .inl (fun i => vI (gE i)))), ((a 1), .inl (cI, 42, .inl (fun i => vI (gM i)))), ((a 2), .inl (cI, 30, .inl (fun i => vI (gB i)))), ((a 4), .inl (cI, 6, .inl (fun i => vI (gG i))))] := hD
        refine n_ifB_eq (tgt := 42) hx hb dX7_begin_27 (by decide) (fun h27 => ?_) (fun h27 => ?_)
        · refine n_iconst hx hb dX7_begin_42 ?_
          refine lv_istore (lv' := [(7, .int (jI 0)), (0, .ref m0), (1, .int (jI mo)), (2, .int (jI x0)), (3, .int (jI x1)), (4, .int (jI p0)), (5, .int (jI p1)), (6, .int (jI p2))]) hx hb dX7_begin_43 hl (by decide) rfl (fun ls hl => ?_)
          refine lv_aload_n hx hb dX7_begin_45 rfl (lv_at hl 1 rfl) ?_
          refine lv_aload_n hx hb dX7_begin_46 rfl (lv_at hl 1 rfl) ?_
          refine lv_iload_n hx hb dX7_begin_47 rfl (lv_at hl 2 rfl) ?_
          have ct48 := c_X7_isModel l D tys m0 a ms es th mo (by first | assumption | exact r32_z _ | (unfold r32; omega)) (by omega) (by omega)
          refine k_goI (va_runV (As := [.int (jI mo)]) (rest := [.ref m0]) ⟨hx, hb, hml, hown, hts⟩ (ct48.2 _) (cwV 1 hts gX7_begin_X7_isModel rfl rfl rfl (by decide +kernel) ⟨Nat.le_of_ble_eq_true rfl, Nat.le_of_ble_eq_true rfl⟩) ⟨(k_pre hK hP hD (is := [0]) rfl rfl).1, va_recv hK.1 hP (ci := 7) (q0 := 0) rfl rfl, (k_pre hK hP hD (is := [0]) rfl rfl).2⟩ rfl rfl hl.1 rfl (lv_room (Nat.le_of_ble_eq_true rfl)) dX7_begin_48 ⟨Nat.le_of_ble_eq_true rfl, Nat.le_of_ble_eq_true rfl⟩) ct48.1 hP hD hS hA [0] rfl rfl (fun H locs hP hD hS => ?_)
          have hP : va_P D vwCl [(m0, oR (jI ((ms : Nat) : Int)) (jI ((es : Nat) : Int)) th a), ((a 0), .inl (cI, 42, .inl (fun i => vI (gE i)))), ((a 1), .inl (cI, 42, .inl (fun i => vI (gM i)))), ((a 2), .inl (cI, 30, .inl (fun i => vI (gB i)))), ((a 4), .inl (cI, 6, .inl (fun i => vI (gG i))))] H := hP
          have hD : va_D A [(m0, oR (jI ((ms : Nat) : Int)) (jI ((es : Nat) : Int)) th a), ((a 0), .inl (cI, 42, .inl (fun i => vI (gE i)))), ((a 1), .inl (cI, 42, .inl (fun i => vI (gM i)))), ((a 2), .inl (cI, 30, .inl (fun i => vI (gB i)))), ((a 4), .inl (cI, 6, .inl (fun i => vI (gG i))))] := hD
          refine n_ifB_ne (tgt := 58) hx hb dX7_begin_51 (by decide) (fun h51 => ?_) (fun h51 => Bool.noConfusion (h9.symm.trans h51))
          refine lv_iload hx hb dX7_begin_58 (lv_at hl 0 rfl) ?_
          refine n_if_ne (tgt := 67) hx hb (by unfold r32; decide) dX7_begin_60 (by decide) (fun h60 => False.elim (by revert h60; decide)) (fun h60 => ?_)
          refine n_iconst hx hb dX7_begin_63 ?_
          refine lv_goto (tgt := 81) hx hb dX7_begin_64 (by decide) ?_
          have ct81 := c_X7_failsT l D tys m0 a ms es th 2 (by unfold r32; decide) (by decide)
          refine k_goI (va_runV (As := [.int (jI 2)]) (rest := []) ⟨hx, hb, hml, hown, hts⟩ (ct81.2 _) (cwV 1 hts gX7_begin_X7_fails rfl rfl rfl (by decide +kernel) ⟨Nat.le_of_ble_eq_true rfl, Nat.le_of_ble_eq_true rfl⟩) ⟨(k_pre hK hP hD (is := [0]) rfl rfl).1, va_recv hK.1 hP (ci := 7) (q0 := 0) rfl rfl, (k_pre hK hP hD (is := [0]) rfl rfl).2⟩ rfl rfl hl.1 rfl (lv_room (Nat.le_of_ble_eq_true rfl)) dX7_begin_81 ⟨Nat.le_of_ble_eq_true rfl, Nat.le_of_ble_eq_true rfl⟩) ct81.1 hP hD hS hA [0] rfl rfl (fun H locs hP hD hS => ?_)
          have hP : va_P D vwCl [(m0, oR (jI ((ms : Nat) : Int)) (jI ((es : Nat) : Int)) (jI 2) a), ((a 0), .inl (cI, 42, .inl (fun i => vI (gE i)))), ((a 1), .inl (cI, 42, .inl (fun i => vI (gM i)))), ((a 2), .inl (cI, 30, .inl (fun i => vI (gB i)))), ((a 4), .inl (cI, 6, .inl (fun i => vI (gG i))))] H := hP
          have hD : va_D A [(m0, oR (jI ((ms : Nat) : Int)) (jI ((es : Nat) : Int)) (jI 2) a), ((a 0), .inl (cI, 42, .inl (fun i => vI (gE i)))), ((a 1), .inl (cI, 42, .inl (fun i => vI (gM i)))), ((a 2), .inl (cI, 30, .inl (fun i => vI (gB i)))), ((a 4), .inl (cI, 6, .inl (fun i => vI (gG i))))] := hD
          refine n_ifB_eq (tgt := 89) hx hb dX7_begin_84 (by decide) (fun h84 => Bool.noConfusion h84) (fun h84 => ?_)
          refine n_iconst hx hb dX7_begin_87 ?_
          exact k_iret hx hb hr hlocks dX7_begin_88 hP hS rfl
        · refine lv_iload hx hb dX7_begin_30 (lv_at hl 6 rfl) ?_
          have ct32 := c_X7_isField l D tys p2 (by first | assumption | exact r32_z _ | (unfold r32; omega))
          refine k_goI (va_runS (As := [.int (jI p2)]) (rest := []) ⟨hx, hb, hml, hown, hts⟩ (ct32.2 _) (va_cwS 1 hts gX7_begin_X7_isField rfl rfl rfl (by decide +kernel) ⟨Nat.le_of_ble_eq_true rfl, Nat.le_of_ble_eq_true rfl⟩) (k_pre hK hP hD (is := []) rfl rfl) rfl rfl hl.1 rfl (lv_room (Nat.le_of_ble_eq_true rfl)) dX7_begin_32 ⟨Nat.le_of_ble_eq_true rfl, Nat.le_of_ble_eq_true rfl⟩) ct32.1 hP hD hS hA [] rfl rfl (fun H locs hP hD hS => ?_)
          have hP : va_P D vwCl [(m0, oR (jI ((ms : Nat) : Int)) (jI ((es : Nat) : Int)) th a), ((a 0), .inl (cI, 42, .inl (fun i => vI (gE i)))), ((a 1), .inl (cI, 42, .inl (fun i => vI (gM i)))), ((a 2), .inl (cI, 30, .inl (fun i => vI (gB i)))), ((a 4), .inl (cI, 6, .inl (fun i => vI (gG i))))] H := hP
          have hD : va_D A [(m0, oR (jI ((ms : Nat) : Int)) (jI ((es : Nat) : Int)) th a), ((a 0), .inl (cI, 42, .inl (fun i => vI (gE i)))), ((a 1), .inl (cI, 42, .inl (fun i => vI (gM i)))), ((a 2), .inl (cI, 30, .inl (fun i => vI (gB i)))), ((a 4), .inl (cI, 6, .inl (fun i => vI (gG i))))] := hD
          refine n_ifB_eq (tgt := 42) hx hb dX7_begin_35 (by decide) (fun h35 => ?_) (fun h35 => ?_)
          · refine n_iconst hx hb dX7_begin_42 ?_
            refine lv_istore (lv' := [(7, .int (jI 0)), (0, .ref m0), (1, .int (jI mo)), (2, .int (jI x0)), (3, .int (jI x1)), (4, .int (jI p0)), (5, .int (jI p1)), (6, .int (jI p2))]) hx hb dX7_begin_43 hl (by decide) rfl (fun ls hl => ?_)
            refine lv_aload_n hx hb dX7_begin_45 rfl (lv_at hl 1 rfl) ?_
            refine lv_aload_n hx hb dX7_begin_46 rfl (lv_at hl 1 rfl) ?_
            refine lv_iload_n hx hb dX7_begin_47 rfl (lv_at hl 2 rfl) ?_
            have ct48 := c_X7_isModel l D tys m0 a ms es th mo (by first | assumption | exact r32_z _ | (unfold r32; omega)) (by omega) (by omega)
            refine k_goI (va_runV (As := [.int (jI mo)]) (rest := [.ref m0]) ⟨hx, hb, hml, hown, hts⟩ (ct48.2 _) (cwV 1 hts gX7_begin_X7_isModel rfl rfl rfl (by decide +kernel) ⟨Nat.le_of_ble_eq_true rfl, Nat.le_of_ble_eq_true rfl⟩) ⟨(k_pre hK hP hD (is := [0]) rfl rfl).1, va_recv hK.1 hP (ci := 7) (q0 := 0) rfl rfl, (k_pre hK hP hD (is := [0]) rfl rfl).2⟩ rfl rfl hl.1 rfl (lv_room (Nat.le_of_ble_eq_true rfl)) dX7_begin_48 ⟨Nat.le_of_ble_eq_true rfl, Nat.le_of_ble_eq_true rfl⟩) ct48.1 hP hD hS hA [0] rfl rfl (fun H locs hP hD hS => ?_)
            have hP : va_P D vwCl [(m0, oR (jI ((ms : Nat) : Int)) (jI ((es : Nat) : Int)) th a), ((a 0), .inl (cI, 42, .inl (fun i => vI (gE i)))), ((a 1), .inl (cI, 42, .inl (fun i => vI (gM i)))), ((a 2), .inl (cI, 30, .inl (fun i => vI (gB i)))), ((a 4), .inl (cI, 6, .inl (fun i => vI (gG i))))] H := hP
            have hD : va_D A [(m0, oR (jI ((ms : Nat) : Int)) (jI ((es : Nat) : Int)) th a), ((a 0), .inl (cI, 42, .inl (fun i => vI (gE i)))), ((a 1), .inl (cI, 42, .inl (fun i => vI (gM i)))), ((a 2), .inl (cI, 30, .inl (fun i => vI (gB i)))), ((a 4), .inl (cI, 6, .inl (fun i => vI (gG i))))] := hD
            refine n_ifB_ne (tgt := 58) hx hb dX7_begin_51 (by decide) (fun h51 => ?_) (fun h51 => Bool.noConfusion (h9.symm.trans h51))
            refine lv_iload hx hb dX7_begin_58 (lv_at hl 0 rfl) ?_
            refine n_if_ne (tgt := 67) hx hb (by unfold r32; decide) dX7_begin_60 (by decide) (fun h60 => False.elim (by revert h60; decide)) (fun h60 => ?_)
            refine n_iconst hx hb dX7_begin_63 ?_
            refine lv_goto (tgt := 81) hx hb dX7_begin_64 (by decide) ?_
            have ct81 := c_X7_failsT l D tys m0 a ms es th 2 (by unfold r32; decide) (by decide)
            refine k_goI (va_runV (As := [.int (jI 2)]) (rest := []) ⟨hx, hb, hml, hown, hts⟩ (ct81.2 _) (cwV 1 hts gX7_begin_X7_fails rfl rfl rfl (by decide +kernel) ⟨Nat.le_of_ble_eq_true rfl, Nat.le_of_ble_eq_true rfl⟩) ⟨(k_pre hK hP hD (is := [0]) rfl rfl).1, va_recv hK.1 hP (ci := 7) (q0 := 0) rfl rfl, (k_pre hK hP hD (is := [0]) rfl rfl).2⟩ rfl rfl hl.1 rfl (lv_room (Nat.le_of_ble_eq_true rfl)) dX7_begin_81 ⟨Nat.le_of_ble_eq_true rfl, Nat.le_of_ble_eq_true rfl⟩) ct81.1 hP hD hS hA [0] rfl rfl (fun H locs hP hD hS => ?_)
            have hP : va_P D vwCl [(m0, oR (jI ((ms : Nat) : Int)) (jI ((es : Nat) : Int)) (jI 2) a), ((a 0), .inl (cI, 42, .inl (fun i => vI (gE i)))), ((a 1), .inl (cI, 42, .inl (fun i => vI (gM i)))), ((a 2), .inl (cI, 30, .inl (fun i => vI (gB i)))), ((a 4), .inl (cI, 6, .inl (fun i => vI (gG i))))] H := hP
            have hD : va_D A [(m0, oR (jI ((ms : Nat) : Int)) (jI ((es : Nat) : Int)) (jI 2) a), ((a 0), .inl (cI, 42, .inl (fun i => vI (gE i)))), ((a 1), .inl (cI, 42, .inl (fun i => vI (gM i)))), ((a 2), .inl (cI, 30, .inl (fun i => vI (gB i)))), ((a 4), .inl (cI, 6, .inl (fun i => vI (gG i))))] := hD
            refine n_ifB_eq (tgt := 89) hx hb dX7_begin_84 (by decide) (fun h84 => Bool.noConfusion h84) (fun h84 => ?_)
            refine n_iconst hx hb dX7_begin_87 ?_
            exact k_iret hx hb hr hlocks dX7_begin_88 hP hS rfl
          · exact absurd h8 (by rw [h4, h11, h19, h27, h35]; decide)

set_option maxHeartbeats 4000000 in
set_option maxRecDepth 100000 in
/--  -/
theorem c_X7_begin3 (l : Launch) (D : va_G) (tys : List (ClassId × FieldType)) {cI cJ cZ : ClassId} (htI : tys[0]? = some (cI, .int)) (htJ : tys[1]? = some (cJ, .long)) (htZ : tys[2]? = some (cZ, .boolean)) (m0 : Nat) (a : Nat → Nat) (ms es : Nat) (th : Int32) (gE : Nat → Zp) (gM : Nat → Zp) (gB : Nat → Zp) (gG : Nat → Zp) (q1 : ms ≤ 6) (q2 : es ≤ 6) (mo : Nat) (x0 x1 p0 p1 p2 : Zp) (q3 : mo < ms) (h9 : es = 6) : CtI l D tys yX7_begin wsX7_begin 2 43 [.ref m0, .int (jI ((mo : Nat) : Int)), .int (vI x0), .int (vI x1), .int (vI p0), .int (vI p1), .int (vI p2)] (jI 0) [(m0, oR (jI ((ms : Nat) : Int)) (jI ((es : Nat) : Int)) th a), ((a 0), .inl (cI, 42, .inl (fun i => vI (gE i)))), ((a 1), .inl (cI, 42, .inl (fun i => vI (gM i)))), ((a 2), .inl (cI, 30, .inl (fun i => vI (gB i)))), ((a 4), .inl (cI, 6, .inl (fun i => vI (gG i))))] [(m0, oR (jI ((ms : Nat) : Int)) (jI ((es : Nat) : Int)) (jI 3) a), ((a 0), .inl (cI, 42, .inl (fun i => vI (gE i)))), ((a 1), .inl (cI, 42, .inl (fun i => vI (gM i)))), ((a 2), .inl (cI, 30, .inl (fun i => vI (gB i)))), ((a 4), .inl (cI, 6, .inl (fun i => vI (gG i))))] := by
  refine CtI.of (cc := cX7_begin) (maxL := 10) (by decide +kernel) rfl rfl (Nat.le_of_ble_eq_true rfl) ?_
  intro p e s m below meth c A ls hcx hK hP hD hA hl
  obtain ⟨hx, hb, hr, hml, hown, hts, hlocks⟩ := hcx
  have hS : va_S A s.heap s.heap [] := va_S.rf
  have hown : s.vm.findClass RX7 = some m.cls := hown
  have hl : lv_has ls 10 [(0, .ref m0), (1, .int (jI ((mo : Nat) : Int))), (2, .int (vI x0)), (3, .int (vI x1)), (4, .int (vI p0)), (5, .int (vI p1)), (6, .int (vI p2))] := hl
  have f74 := hts (.fieldLink RX7 74 "FieldFilterModel" "estimators" "I") (by decide +kernel)
  have iX7 : ∀ w ∈ u_ws RX7 TX7 20, w ∈ wsX7_begin := by decide +kernel
  refine lv_iload_n hx hb dX7_begin_0 rfl (lv_at hl 2 rfl) ?_
  have ct1 := c_X7_isField l D tys (zv x0) (by have h9 := (rp_v x0); exact ⟨by have := h9.1; omega, by have := h9.2.1; omega⟩)
  refine k_goI (va_runS (As := [.int (vI x0)]) (rest := []) ⟨hx, hb, hml, hown, hts⟩ (ct1.2 _) (va_cwS 1 hts gX7_begin_X7_isField rfl rfl rfl (by decide +kernel) ⟨Nat.le_of_ble_eq_true rfl, Nat.le_of_ble_eq_true rfl⟩) (k_pre hK hP hD (is := []) rfl rfl) rfl rfl hl.1 rfl (lv_room (Nat.le_of_ble_eq_true rfl)) dX7_begin_1 ⟨Nat.le_of_ble_eq_true rfl, Nat.le_of_ble_eq_true rfl⟩) ct1.1 hP hD hS hA [] rfl rfl (fun H locs hP hD hS => ?_)
  have hP : va_P D vwCl [(m0, oR (jI ((ms : Nat) : Int)) (jI ((es : Nat) : Int)) th a), ((a 0), .inl (cI, 42, .inl (fun i => vI (gE i)))), ((a 1), .inl (cI, 42, .inl (fun i => vI (gM i)))), ((a 2), .inl (cI, 30, .inl (fun i => vI (gB i)))), ((a 4), .inl (cI, 6, .inl (fun i => vI (gG i))))] H := hP
  have hD : va_D A [(m0, oR (jI ((ms : Nat) : Int)) (jI ((es : Nat) : Int)) th a), ((a 0), .inl (cI, 42, .inl (fun i => vI (gE i)))), ((a 1), .inl (cI, 42, .inl (fun i => vI (gM i)))), ((a 2), .inl (cI, 30, .inl (fun i => vI (gB i)))), ((a 4), .inl (cI, 6, .inl (fun i => vI (gG i))))] := hD
  refine n_ifB_eq (tgt := 42) hx hb dX7_begin_4 (by decide) (fun h4 => Bool.noConfusion ((inB_t (zv_0 _) (zv_le _)).symm.trans h4)) (fun h4 => ?_)
  refine lv_iload_n hx hb dX7_begin_7 rfl (lv_at hl 3 rfl) ?_
  have ct8 := c_X7_isField l D tys (zv x1) (by have h9 := (rp_v x1); exact ⟨by have := h9.1; omega, by have := h9.2.1; omega⟩)
  refine k_goI (va_runS (As := [.int (vI x1)]) (rest := []) ⟨hx, hb, hml, hown, hts⟩ (ct8.2 _) (va_cwS 1 hts gX7_begin_X7_isField rfl rfl rfl (by decide +kernel) ⟨Nat.le_of_ble_eq_true rfl, Nat.le_of_ble_eq_true rfl⟩) (k_pre hK hP hD (is := []) rfl rfl) rfl rfl hl.1 rfl (lv_room (Nat.le_of_ble_eq_true rfl)) dX7_begin_8 ⟨Nat.le_of_ble_eq_true rfl, Nat.le_of_ble_eq_true rfl⟩) ct8.1 hP hD hS hA [] rfl rfl (fun H locs hP hD hS => ?_)
  have hP : va_P D vwCl [(m0, oR (jI ((ms : Nat) : Int)) (jI ((es : Nat) : Int)) th a), ((a 0), .inl (cI, 42, .inl (fun i => vI (gE i)))), ((a 1), .inl (cI, 42, .inl (fun i => vI (gM i)))), ((a 2), .inl (cI, 30, .inl (fun i => vI (gB i)))), ((a 4), .inl (cI, 6, .inl (fun i => vI (gG i))))] H := hP
  have hD : va_D A [(m0, oR (jI ((ms : Nat) : Int)) (jI ((es : Nat) : Int)) th a), ((a 0), .inl (cI, 42, .inl (fun i => vI (gE i)))), ((a 1), .inl (cI, 42, .inl (fun i => vI (gM i)))), ((a 2), .inl (cI, 30, .inl (fun i => vI (gB i)))), ((a 4), .inl (cI, 6, .inl (fun i => vI (gG i))))] := hD
  refine n_ifB_eq (tgt := 42) hx hb dX7_begin_11 (by decide) (fun h11 => Bool.noConfusion ((inB_t (zv_0 _) (zv_le _)).symm.trans h11)) (fun h11 => ?_)
  refine lv_iload hx hb dX7_begin_14 (lv_at hl 4 rfl) ?_
  have ct16 := c_X7_isField l D tys (zv p0) (by have h9 := (rp_v p0); exact ⟨by have := h9.1; omega, by have := h9.2.1; omega⟩)
  refine k_goI (va_runS (As := [.int (vI p0)]) (rest := []) ⟨hx, hb, hml, hown, hts⟩ (ct16.2 _) (va_cwS 1 hts gX7_begin_X7_isField rfl rfl rfl (by decide +kernel) ⟨Nat.le_of_ble_eq_true rfl, Nat.le_of_ble_eq_true rfl⟩) (k_pre hK hP hD (is := []) rfl rfl) rfl rfl hl.1 rfl (lv_room (Nat.le_of_ble_eq_true rfl)) dX7_begin_16 ⟨Nat.le_of_ble_eq_true rfl, Nat.le_of_ble_eq_true rfl⟩) ct16.1 hP hD hS hA [] rfl rfl (fun H locs hP hD hS => ?_)
  have hP : va_P D vwCl [(m0, oR (jI ((ms : Nat) : Int)) (jI ((es : Nat) : Int)) th a), ((a 0), .inl (cI, 42, .inl (fun i => vI (gE i)))), ((a 1), .inl (cI, 42, .inl (fun i => vI (gM i)))), ((a 2), .inl (cI, 30, .inl (fun i => vI (gB i)))), ((a 4), .inl (cI, 6, .inl (fun i => vI (gG i))))] H := hP
  have hD : va_D A [(m0, oR (jI ((ms : Nat) : Int)) (jI ((es : Nat) : Int)) th a), ((a 0), .inl (cI, 42, .inl (fun i => vI (gE i)))), ((a 1), .inl (cI, 42, .inl (fun i => vI (gM i)))), ((a 2), .inl (cI, 30, .inl (fun i => vI (gB i)))), ((a 4), .inl (cI, 6, .inl (fun i => vI (gG i))))] := hD
  refine n_ifB_eq (tgt := 42) hx hb dX7_begin_19 (by decide) (fun h19 => Bool.noConfusion ((inB_t (zv_0 _) (zv_le _)).symm.trans h19)) (fun h19 => ?_)
  refine lv_iload hx hb dX7_begin_22 (lv_at hl 5 rfl) ?_
  have ct24 := c_X7_isField l D tys (zv p1) (by have h9 := (rp_v p1); exact ⟨by have := h9.1; omega, by have := h9.2.1; omega⟩)
  refine k_goI (va_runS (As := [.int (vI p1)]) (rest := []) ⟨hx, hb, hml, hown, hts⟩ (ct24.2 _) (va_cwS 1 hts gX7_begin_X7_isField rfl rfl rfl (by decide +kernel) ⟨Nat.le_of_ble_eq_true rfl, Nat.le_of_ble_eq_true rfl⟩) (k_pre hK hP hD (is := []) rfl rfl) rfl rfl hl.1 rfl (lv_room (Nat.le_of_ble_eq_true rfl)) dX7_begin_24 ⟨Nat.le_of_ble_eq_true rfl, Nat.le_of_ble_eq_true rfl⟩) ct24.1 hP hD hS hA [] rfl rfl (fun H locs hP hD hS => ?_)
  have hP : va_P D vwCl [(m0, oR (jI ((ms : Nat) : Int)) (jI ((es : Nat) : Int)) th a), ((a 0), .inl (cI, 42, .inl (fun i => vI (gE i)))), ((a 1), .inl (cI, 42, .inl (fun i => vI (gM i)))), ((a 2), .inl (cI, 30, .inl (fun i => vI (gB i)))), ((a 4), .inl (cI, 6, .inl (fun i => vI (gG i))))] H := hP
  have hD : va_D A [(m0, oR (jI ((ms : Nat) : Int)) (jI ((es : Nat) : Int)) th a), ((a 0), .inl (cI, 42, .inl (fun i => vI (gE i)))), ((a 1), .inl (cI, 42, .inl (fun i => vI (gM i)))), ((a 2), .inl (cI, 30, .inl (fun i => vI (gB i)))), ((a 4), .inl (cI, 6, .inl (fun i => vI (gG i))))] := hD
  refine n_ifB_eq (tgt := 42) hx hb dX7_begin_27 (by decide) (fun h27 => Bool.noConfusion ((inB_t (zv_0 _) (zv_le _)).symm.trans h27)) (fun h27 => ?_)
  refine lv_iload hx hb dX7_begin_30 (lv_at hl 6 rfl) ?_
  have ct32 := c_X7_isField l D tys (zv p2) (by have h9 := (rp_v p2); exact ⟨by have := h9.1; omega, by have := h9.2.1; omega⟩)
  refine k_goI (va_runS (As := [.int (vI p2)]) (rest := []) ⟨hx, hb, hml, hown, hts⟩ (ct32.2 _) (va_cwS 1 hts gX7_begin_X7_isField rfl rfl rfl (by decide +kernel) ⟨Nat.le_of_ble_eq_true rfl, Nat.le_of_ble_eq_true rfl⟩) (k_pre hK hP hD (is := []) rfl rfl) rfl rfl hl.1 rfl (lv_room (Nat.le_of_ble_eq_true rfl)) dX7_begin_32 ⟨Nat.le_of_ble_eq_true rfl, Nat.le_of_ble_eq_true rfl⟩) ct32.1 hP hD hS hA [] rfl rfl (fun H locs hP hD hS => ?_)
  have hP : va_P D vwCl [(m0, oR (jI ((ms : Nat) : Int)) (jI ((es : Nat) : Int)) th a), ((a 0), .inl (cI, 42, .inl (fun i => vI (gE i)))), ((a 1), .inl (cI, 42, .inl (fun i => vI (gM i)))), ((a 2), .inl (cI, 30, .inl (fun i => vI (gB i)))), ((a 4), .inl (cI, 6, .inl (fun i => vI (gG i))))] H := hP
  have hD : va_D A [(m0, oR (jI ((ms : Nat) : Int)) (jI ((es : Nat) : Int)) th a), ((a 0), .inl (cI, 42, .inl (fun i => vI (gE i)))), ((a 1), .inl (cI, 42, .inl (fun i => vI (gM i)))), ((a 2), .inl (cI, 30, .inl (fun i => vI (gB i)))), ((a 4), .inl (cI, 6, .inl (fun i => vI (gG i))))] := hD
  refine n_ifB_eq (tgt := 42) hx hb dX7_begin_35 (by decide) (fun h35 => Bool.noConfusion ((inB_t (zv_0 _) (zv_le _)).symm.trans h35)) (fun h35 => ?_)
  refine n_iconst hx hb dX7_begin_38 ?_
  refine lv_goto (tgt := 43) hx hb dX7_begin_39 (by decide) ?_
  refine lv_istore (lv' := [(7, .int (jI 1)), (0, .ref m0), (1, .int (jI ((mo : Nat) : Int))), (2, .int (vI x0)), (3, .int (vI x1)), (4, .int (vI p0)), (5, .int (vI p1)), (6, .int (vI p2))]) hx hb dX7_begin_43 hl (by decide) rfl (fun ls hl => ?_)
  refine lv_aload_n hx hb dX7_begin_45 rfl (lv_at hl 1 rfl) ?_
  refine lv_aload_n hx hb dX7_begin_46 rfl (lv_at hl 1 rfl) ?_
  refine lv_iload_n hx hb dX7_begin_47 rfl (lv_at hl 2 rfl) ?_
  have ct48 := c_X7_isModel l D tys m0 a ms es th ((mo : Nat) : Int) (by first | assumption | exact r32_z _ | (unfold r32; omega)) (by omega) (by omega)
  refine k_goI (va_runV (As := [.int (jI ((mo : Nat) : Int))]) (rest := [.ref m0]) ⟨hx, hb, hml, hown, hts⟩ (ct48.2 _) (cwV 1 hts gX7_begin_X7_isModel rfl rfl rfl (by decide +kernel) ⟨Nat.le_of_ble_eq_true rfl, Nat.le_of_ble_eq_true rfl⟩) ⟨(k_pre hK hP hD (is := [0]) rfl rfl).1, va_recv hK.1 hP (ci := 7) (q0 := 0) rfl rfl, (k_pre hK hP hD (is := [0]) rfl rfl).2⟩ rfl rfl hl.1 rfl (lv_room (Nat.le_of_ble_eq_true rfl)) dX7_begin_48 ⟨Nat.le_of_ble_eq_true rfl, Nat.le_of_ble_eq_true rfl⟩) ct48.1 hP hD hS hA [0] rfl rfl (fun H locs hP hD hS => ?_)
  have hP : va_P D vwCl [(m0, oR (jI ((ms : Nat) : Int)) (jI ((es : Nat) : Int)) th a), ((a 0), .inl (cI, 42, .inl (fun i => vI (gE i)))), ((a 1), .inl (cI, 42, .inl (fun i => vI (gM i)))), ((a 2), .inl (cI, 30, .inl (fun i => vI (gB i)))), ((a 4), .inl (cI, 6, .inl (fun i => vI (gG i))))] H := hP
  have hD : va_D A [(m0, oR (jI ((ms : Nat) : Int)) (jI ((es : Nat) : Int)) th a), ((a 0), .inl (cI, 42, .inl (fun i => vI (gE i)))), ((a 1), .inl (cI, 42, .inl (fun i => vI (gM i)))), ((a 2), .inl (cI, 30, .inl (fun i => vI (gB i)))), ((a 4), .inl (cI, 6, .inl (fun i => vI (gG i))))] := hD
  refine n_ifB_ne (tgt := 58) hx hb dX7_begin_51 (by decide) (fun h51 => ?_) (fun h51 => Bool.noConfusion ((inB_t (by omega) (by omega)).symm.trans h51))
  refine lv_iload hx hb dX7_begin_58 (lv_at hl 0 rfl) ?_
  refine n_if_ne (tgt := 67) hx hb (by unfold r32; decide) dX7_begin_60 (by decide) (fun h60 => ?_) (fun h60 => False.elim (by revert h60; decide))
  refine lv_aload_n hx hb dX7_begin_67 rfl (lv_at hl 1 rfl) ?_
  refine va_get (D := D) (ci := 7) (v := .int (jI ((es : Nat) : Int))) (C := RX7) (T := TX7) (N := 20) hx hb hts iX7 hown hK.1 hP 0 rfl rfl 2 (by decide) f74 (fun _ h9 => h9) rfl dX7_begin_68 ?_
  refine n_bipush hx hb dX7_begin_71 (by decide) ?_
  refine n_icmp_ne (tgt := 80) hx hb (by unfold r32; omega) (by unfold r32; decide) dX7_begin_73 (by decide) (fun h73 => False.elim (by omega)) (fun h73 => ?_)
  refine n_iconst hx hb dX7_begin_76 ?_
  refine lv_goto (tgt := 81) hx hb dX7_begin_77 (by decide) ?_
  have ct81 := c_X7_failsT l D tys m0 a ms es th 3 (by unfold r32; decide) (by decide)
  refine k_goI (va_runV (As := [.int (jI 3)]) (rest := []) ⟨hx, hb, hml, hown, hts⟩ (ct81.2 _) (cwV 1 hts gX7_begin_X7_fails rfl rfl rfl (by decide +kernel) ⟨Nat.le_of_ble_eq_true rfl, Nat.le_of_ble_eq_true rfl⟩) ⟨(k_pre hK hP hD (is := [0]) rfl rfl).1, va_recv hK.1 hP (ci := 7) (q0 := 0) rfl rfl, (k_pre hK hP hD (is := [0]) rfl rfl).2⟩ rfl rfl hl.1 rfl (lv_room (Nat.le_of_ble_eq_true rfl)) dX7_begin_81 ⟨Nat.le_of_ble_eq_true rfl, Nat.le_of_ble_eq_true rfl⟩) ct81.1 hP hD hS hA [0] rfl rfl (fun H locs hP hD hS => ?_)
  have hP : va_P D vwCl [(m0, oR (jI ((ms : Nat) : Int)) (jI ((es : Nat) : Int)) (jI 3) a), ((a 0), .inl (cI, 42, .inl (fun i => vI (gE i)))), ((a 1), .inl (cI, 42, .inl (fun i => vI (gM i)))), ((a 2), .inl (cI, 30, .inl (fun i => vI (gB i)))), ((a 4), .inl (cI, 6, .inl (fun i => vI (gG i))))] H := hP
  have hD : va_D A [(m0, oR (jI ((ms : Nat) : Int)) (jI ((es : Nat) : Int)) (jI 3) a), ((a 0), .inl (cI, 42, .inl (fun i => vI (gE i)))), ((a 1), .inl (cI, 42, .inl (fun i => vI (gM i)))), ((a 2), .inl (cI, 30, .inl (fun i => vI (gB i)))), ((a 4), .inl (cI, 6, .inl (fun i => vI (gG i))))] := hD
  refine n_ifB_eq (tgt := 89) hx hb dX7_begin_84 (by decide) (fun h84 => Bool.noConfusion h84) (fun h84 => ?_)
  refine n_iconst hx hb dX7_begin_87 ?_
  exact k_iret hx hb hr hlocks dX7_begin_88 hP hS rfl

def put7 (g : Nat → Zp) (b : Nat) (f : Nat → Zp) : Nat → Zp := va_up (va_up (va_up (va_up (va_up (va_up (va_up g (b + 0) (f 0)) (b + 1) (f 1)) (b + 2) (f 2)) (b + 3) (f 3)) (b + 4) (f 4)) (b + 5) (f 5)) (b + 6) (f 6)
def putB (g : Nat → Zp) (b : Nat) (x0 x1 p0 p1 p2 : Zp) : Nat → Zp := va_up (va_up (va_up (va_up (va_up g b x0) (b + 1) x1) (b + 2) p0) (b + 3) p1) (b + 4) p2

set_option maxHeartbeats 4000000 in
set_option maxRecDepth 100000 in
/--  -/
theorem c_X7_begin0 (l : Launch) (D : va_G) (tys : List (ClassId × FieldType)) {cI cJ cZ : ClassId} (htI : tys[0]? = some (cI, .int)) (htJ : tys[1]? = some (cJ, .long)) (htZ : tys[2]? = some (cZ, .boolean)) (m0 : Nat) (a : Nat → Nat) (ms es : Nat) (th : Int32) (gE : Nat → Zp) (gM : Nat → Zp) (gB : Nat → Zp) (gG : Nat → Zp) (q1 : ms ≤ 6) (q2 : es ≤ 6) (mo : Nat) (x0 x1 p0 p1 p2 : Zp) (q3 : mo < ms) (h9 : ¬ es = 6) : CtI l D tys yX7_begin wsX7_begin 2 43 [.ref m0, .int (jI ((mo : Nat) : Int)), .int (vI x0), .int (vI x1), .int (vI p0), .int (vI p1), .int (vI p2)] (jI ((es : Nat) : Int)) [(m0, oR (jI ((ms : Nat) : Int)) (jI ((es : Nat) : Int)) th a), ((a 0), .inl (cI, 42, .inl (fun i => vI (gE i)))), ((a 1), .inl (cI, 42, .inl (fun i => vI (gM i)))), ((a 2), .inl (cI, 30, .inl (fun i => vI (gB i)))), ((a 4), .inl (cI, 6, .inl (fun i => vI (gG i))))] [(m0, oR (jI ((ms : Nat) : Int)) (jI ((es + 1 : Nat) : Int)) (jI 0) a), ((a 0), .inl (cI, 42, .inl (fun i => vI (gE i)))), ((a 1), .inl (cI, 42, .inl (fun i => vI ((put7 gM (7 * es) (fun i => gE (7 * mo + i))) i)))), ((a 2), .inl (cI, 30, .inl (fun i => vI ((putB gB (5 * es) x0 x1 p0 p1 p2) i)))), ((a 4), .inl (cI, 6, .inl (fun i => vI ((va_up gG es 10006) i))))] := by
  refine CtI.of (cc := cX7_begin) (maxL := 10) (by decide +kernel) rfl rfl (Nat.le_of_ble_eq_true rfl) ?_
  intro p e s m below meth c A ls hcx hK hP hD hA hl
  obtain ⟨hx, hb, hr, hml, hown, hts, hlocks⟩ := hcx
  have hS : va_S A s.heap s.heap [] := va_S.rf
  have hown : s.vm.findClass RX7 = some m.cls := hown
  have hl : lv_has ls 10 [(0, .ref m0), (1, .int (jI ((mo : Nat) : Int))), (2, .int (vI x0)), (3, .int (vI x1)), (4, .int (vI p0)), (5, .int (vI p1)), (6, .int (vI p2))] := hl
  have f74 := hts (.fieldLink RX7 74 "FieldFilterModel" "estimators" "I") (by decide +kernel)
  have iX7 : ∀ w ∈ u_ws RX7 TX7 20, w ∈ wsX7_begin := by decide +kernel
  have f13 := hts (.fieldLink RX7 13 "FieldFilterModel" "model" "[I") (by decide +kernel)
  have f7 := hts (.fieldLink RX7 7 "FieldFilterModel" "entry" "[I") (by decide +kernel)
  have f16 := hts (.fieldLink RX7 16 "FieldFilterModel" "began" "[I") (by decide +kernel)
  have f22 := hts (.fieldLink RX7 22 "FieldFilterModel" "gate" "[I") (by decide +kernel)
  refine lv_iload_n hx hb dX7_begin_0 rfl (lv_at hl 2 rfl) ?_
  have ct1 := c_X7_isField l D tys (zv x0) (by have h9 := (rp_v x0); exact ⟨by have := h9.1; omega, by have := h9.2.1; omega⟩)
  refine k_goI (va_runS (As := [.int (vI x0)]) (rest := []) ⟨hx, hb, hml, hown, hts⟩ (ct1.2 _) (va_cwS 1 hts gX7_begin_X7_isField rfl rfl rfl (by decide +kernel) ⟨Nat.le_of_ble_eq_true rfl, Nat.le_of_ble_eq_true rfl⟩) (k_pre hK hP hD (is := []) rfl rfl) rfl rfl hl.1 rfl (lv_room (Nat.le_of_ble_eq_true rfl)) dX7_begin_1 ⟨Nat.le_of_ble_eq_true rfl, Nat.le_of_ble_eq_true rfl⟩) ct1.1 hP hD hS hA [] rfl rfl (fun H locs hP hD hS => ?_)
  have hP : va_P D vwCl [(m0, oR (jI ((ms : Nat) : Int)) (jI ((es : Nat) : Int)) th a), ((a 0), .inl (cI, 42, .inl (fun i => vI (gE i)))), ((a 1), .inl (cI, 42, .inl (fun i => vI (gM i)))), ((a 2), .inl (cI, 30, .inl (fun i => vI (gB i)))), ((a 4), .inl (cI, 6, .inl (fun i => vI (gG i))))] H := hP
  have hD : va_D A [(m0, oR (jI ((ms : Nat) : Int)) (jI ((es : Nat) : Int)) th a), ((a 0), .inl (cI, 42, .inl (fun i => vI (gE i)))), ((a 1), .inl (cI, 42, .inl (fun i => vI (gM i)))), ((a 2), .inl (cI, 30, .inl (fun i => vI (gB i)))), ((a 4), .inl (cI, 6, .inl (fun i => vI (gG i))))] := hD
  refine n_ifB_eq (tgt := 42) hx hb dX7_begin_4 (by decide) (fun h4 => Bool.noConfusion ((inB_t (zv_0 _) (zv_le _)).symm.trans h4)) (fun h4 => ?_)
  refine lv_iload_n hx hb dX7_begin_7 rfl (lv_at hl 3 rfl) ?_
  have ct8 := c_X7_isField l D tys (zv x1) (by have h9 := (rp_v x1); exact ⟨by have := h9.1; omega, by have := h9.2.1; omega⟩)
  refine k_goI (va_runS (As := [.int (vI x1)]) (rest := []) ⟨hx, hb, hml, hown, hts⟩ (ct8.2 _) (va_cwS 1 hts gX7_begin_X7_isField rfl rfl rfl (by decide +kernel) ⟨Nat.le_of_ble_eq_true rfl, Nat.le_of_ble_eq_true rfl⟩) (k_pre hK hP hD (is := []) rfl rfl) rfl rfl hl.1 rfl (lv_room (Nat.le_of_ble_eq_true rfl)) dX7_begin_8 ⟨Nat.le_of_ble_eq_true rfl, Nat.le_of_ble_eq_true rfl⟩) ct8.1 hP hD hS hA [] rfl rfl (fun H locs hP hD hS => ?_)
  have hP : va_P D vwCl [(m0, oR (jI ((ms : Nat) : Int)) (jI ((es : Nat) : Int)) th a), ((a 0), .inl (cI, 42, .inl (fun i => vI (gE i)))), ((a 1), .inl (cI, 42, .inl (fun i => vI (gM i)))), ((a 2), .inl (cI, 30, .inl (fun i => vI (gB i)))), ((a 4), .inl (cI, 6, .inl (fun i => vI (gG i))))] H := hP
  have hD : va_D A [(m0, oR (jI ((ms : Nat) : Int)) (jI ((es : Nat) : Int)) th a), ((a 0), .inl (cI, 42, .inl (fun i => vI (gE i)))), ((a 1), .inl (cI, 42, .inl (fun i => vI (gM i)))), ((a 2), .inl (cI, 30, .inl (fun i => vI (gB i)))), ((a 4), .inl (cI, 6, .inl (fun i => vI (gG i))))] := hD
  refine n_ifB_eq (tgt := 42) hx hb dX7_begin_11 (by decide) (fun h11 => Bool.noConfusion ((inB_t (zv_0 _) (zv_le _)).symm.trans h11)) (fun h11 => ?_)
  refine lv_iload hx hb dX7_begin_14 (lv_at hl 4 rfl) ?_
  have ct16 := c_X7_isField l D tys (zv p0) (by have h9 := (rp_v p0); exact ⟨by have := h9.1; omega, by have := h9.2.1; omega⟩)
  refine k_goI (va_runS (As := [.int (vI p0)]) (rest := []) ⟨hx, hb, hml, hown, hts⟩ (ct16.2 _) (va_cwS 1 hts gX7_begin_X7_isField rfl rfl rfl (by decide +kernel) ⟨Nat.le_of_ble_eq_true rfl, Nat.le_of_ble_eq_true rfl⟩) (k_pre hK hP hD (is := []) rfl rfl) rfl rfl hl.1 rfl (lv_room (Nat.le_of_ble_eq_true rfl)) dX7_begin_16 ⟨Nat.le_of_ble_eq_true rfl, Nat.le_of_ble_eq_true rfl⟩) ct16.1 hP hD hS hA [] rfl rfl (fun H locs hP hD hS => ?_)
  have hP : va_P D vwCl [(m0, oR (jI ((ms : Nat) : Int)) (jI ((es : Nat) : Int)) th a), ((a 0), .inl (cI, 42, .inl (fun i => vI (gE i)))), ((a 1), .inl (cI, 42, .inl (fun i => vI (gM i)))), ((a 2), .inl (cI, 30, .inl (fun i => vI (gB i)))), ((a 4), .inl (cI, 6, .inl (fun i => vI (gG i))))] H := hP
  have hD : va_D A [(m0, oR (jI ((ms : Nat) : Int)) (jI ((es : Nat) : Int)) th a), ((a 0), .inl (cI, 42, .inl (fun i => vI (gE i)))), ((a 1), .inl (cI, 42, .inl (fun i => vI (gM i)))), ((a 2), .inl (cI, 30, .inl (fun i => vI (gB i)))), ((a 4), .inl (cI, 6, .inl (fun i => vI (gG i))))] := hD
  refine n_ifB_eq (tgt := 42) hx hb dX7_begin_19 (by decide) (fun h19 => Bool.noConfusion ((inB_t (zv_0 _) (zv_le _)).symm.trans h19)) (fun h19 => ?_)
  refine lv_iload hx hb dX7_begin_22 (lv_at hl 5 rfl) ?_
  have ct24 := c_X7_isField l D tys (zv p1) (by have h9 := (rp_v p1); exact ⟨by have := h9.1; omega, by have := h9.2.1; omega⟩)
  refine k_goI (va_runS (As := [.int (vI p1)]) (rest := []) ⟨hx, hb, hml, hown, hts⟩ (ct24.2 _) (va_cwS 1 hts gX7_begin_X7_isField rfl rfl rfl (by decide +kernel) ⟨Nat.le_of_ble_eq_true rfl, Nat.le_of_ble_eq_true rfl⟩) (k_pre hK hP hD (is := []) rfl rfl) rfl rfl hl.1 rfl (lv_room (Nat.le_of_ble_eq_true rfl)) dX7_begin_24 ⟨Nat.le_of_ble_eq_true rfl, Nat.le_of_ble_eq_true rfl⟩) ct24.1 hP hD hS hA [] rfl rfl (fun H locs hP hD hS => ?_)
  have hP : va_P D vwCl [(m0, oR (jI ((ms : Nat) : Int)) (jI ((es : Nat) : Int)) th a), ((a 0), .inl (cI, 42, .inl (fun i => vI (gE i)))), ((a 1), .inl (cI, 42, .inl (fun i => vI (gM i)))), ((a 2), .inl (cI, 30, .inl (fun i => vI (gB i)))), ((a 4), .inl (cI, 6, .inl (fun i => vI (gG i))))] H := hP
  have hD : va_D A [(m0, oR (jI ((ms : Nat) : Int)) (jI ((es : Nat) : Int)) th a), ((a 0), .inl (cI, 42, .inl (fun i => vI (gE i)))), ((a 1), .inl (cI, 42, .inl (fun i => vI (gM i)))), ((a 2), .inl (cI, 30, .inl (fun i => vI (gB i)))), ((a 4), .inl (cI, 6, .inl (fun i => vI (gG i))))] := hD
  refine n_ifB_eq (tgt := 42) hx hb dX7_begin_27 (by decide) (fun h27 => Bool.noConfusion ((inB_t (zv_0 _) (zv_le _)).symm.trans h27)) (fun h27 => ?_)
  refine lv_iload hx hb dX7_begin_30 (lv_at hl 6 rfl) ?_
  have ct32 := c_X7_isField l D tys (zv p2) (by have h9 := (rp_v p2); exact ⟨by have := h9.1; omega, by have := h9.2.1; omega⟩)
  refine k_goI (va_runS (As := [.int (vI p2)]) (rest := []) ⟨hx, hb, hml, hown, hts⟩ (ct32.2 _) (va_cwS 1 hts gX7_begin_X7_isField rfl rfl rfl (by decide +kernel) ⟨Nat.le_of_ble_eq_true rfl, Nat.le_of_ble_eq_true rfl⟩) (k_pre hK hP hD (is := []) rfl rfl) rfl rfl hl.1 rfl (lv_room (Nat.le_of_ble_eq_true rfl)) dX7_begin_32 ⟨Nat.le_of_ble_eq_true rfl, Nat.le_of_ble_eq_true rfl⟩) ct32.1 hP hD hS hA [] rfl rfl (fun H locs hP hD hS => ?_)
  have hP : va_P D vwCl [(m0, oR (jI ((ms : Nat) : Int)) (jI ((es : Nat) : Int)) th a), ((a 0), .inl (cI, 42, .inl (fun i => vI (gE i)))), ((a 1), .inl (cI, 42, .inl (fun i => vI (gM i)))), ((a 2), .inl (cI, 30, .inl (fun i => vI (gB i)))), ((a 4), .inl (cI, 6, .inl (fun i => vI (gG i))))] H := hP
  have hD : va_D A [(m0, oR (jI ((ms : Nat) : Int)) (jI ((es : Nat) : Int)) th a), ((a 0), .inl (cI, 42, .inl (fun i => vI (gE i)))), ((a 1), .inl (cI, 42, .inl (fun i => vI (gM i)))), ((a 2), .inl (cI, 30, .inl (fun i => vI (gB i)))), ((a 4), .inl (cI, 6, .inl (fun i => vI (gG i))))] := hD
  refine n_ifB_eq (tgt := 42) hx hb dX7_begin_35 (by decide) (fun h35 => Bool.noConfusion ((inB_t (zv_0 _) (zv_le _)).symm.trans h35)) (fun h35 => ?_)
  refine n_iconst hx hb dX7_begin_38 ?_
  refine lv_goto (tgt := 43) hx hb dX7_begin_39 (by decide) ?_
  refine lv_istore (lv' := [(7, .int (jI 1)), (0, .ref m0), (1, .int (jI ((mo : Nat) : Int))), (2, .int (vI x0)), (3, .int (vI x1)), (4, .int (vI p0)), (5, .int (vI p1)), (6, .int (vI p2))]) hx hb dX7_begin_43 hl (by decide) rfl (fun ls hl => ?_)
  refine lv_aload_n hx hb dX7_begin_45 rfl (lv_at hl 1 rfl) ?_
  refine lv_aload_n hx hb dX7_begin_46 rfl (lv_at hl 1 rfl) ?_
  refine lv_iload_n hx hb dX7_begin_47 rfl (lv_at hl 2 rfl) ?_
  have ct48 := c_X7_isModel l D tys m0 a ms es th ((mo : Nat) : Int) (by first | assumption | exact r32_z _ | (unfold r32; omega)) (by omega) (by omega)
  refine k_goI (va_runV (As := [.int (jI ((mo : Nat) : Int))]) (rest := [.ref m0]) ⟨hx, hb, hml, hown, hts⟩ (ct48.2 _) (cwV 1 hts gX7_begin_X7_isModel rfl rfl rfl (by decide +kernel) ⟨Nat.le_of_ble_eq_true rfl, Nat.le_of_ble_eq_true rfl⟩) ⟨(k_pre hK hP hD (is := [0]) rfl rfl).1, va_recv hK.1 hP (ci := 7) (q0 := 0) rfl rfl, (k_pre hK hP hD (is := [0]) rfl rfl).2⟩ rfl rfl hl.1 rfl (lv_room (Nat.le_of_ble_eq_true rfl)) dX7_begin_48 ⟨Nat.le_of_ble_eq_true rfl, Nat.le_of_ble_eq_true rfl⟩) ct48.1 hP hD hS hA [0] rfl rfl (fun H locs hP hD hS => ?_)
  have hP : va_P D vwCl [(m0, oR (jI ((ms : Nat) : Int)) (jI ((es : Nat) : Int)) th a), ((a 0), .inl (cI, 42, .inl (fun i => vI (gE i)))), ((a 1), .inl (cI, 42, .inl (fun i => vI (gM i)))), ((a 2), .inl (cI, 30, .inl (fun i => vI (gB i)))), ((a 4), .inl (cI, 6, .inl (fun i => vI (gG i))))] H := hP
  have hD : va_D A [(m0, oR (jI ((ms : Nat) : Int)) (jI ((es : Nat) : Int)) th a), ((a 0), .inl (cI, 42, .inl (fun i => vI (gE i)))), ((a 1), .inl (cI, 42, .inl (fun i => vI (gM i)))), ((a 2), .inl (cI, 30, .inl (fun i => vI (gB i)))), ((a 4), .inl (cI, 6, .inl (fun i => vI (gG i))))] := hD
  refine n_ifB_ne (tgt := 58) hx hb dX7_begin_51 (by decide) (fun h51 => ?_) (fun h51 => Bool.noConfusion ((inB_t (by omega) (by omega)).symm.trans h51))
  refine lv_iload hx hb dX7_begin_58 (lv_at hl 0 rfl) ?_
  refine n_if_ne (tgt := 67) hx hb (by unfold r32; decide) dX7_begin_60 (by decide) (fun h60 => ?_) (fun h60 => False.elim (by revert h60; decide))
  refine lv_aload_n hx hb dX7_begin_67 rfl (lv_at hl 1 rfl) ?_
  refine va_get (D := D) (ci := 7) (v := .int (jI ((es : Nat) : Int))) (C := RX7) (T := TX7) (N := 20) hx hb hts iX7 hown hK.1 hP 0 rfl rfl 2 (by decide) f74 (fun _ h9 => h9) rfl dX7_begin_68 ?_
  refine n_bipush hx hb dX7_begin_71 (by decide) ?_
  refine n_icmp_ne (tgt := 80) hx hb (by unfold r32; omega) (by unfold r32; decide) dX7_begin_73 (by decide) (fun h73 => ?_) (fun h73 => False.elim (h9 (by omega)))
  refine n_iconst hx hb dX7_begin_80 ?_
  have ct81 := c_X7_failsF l D tys m0 a ms es th
  refine k_goI (va_runV (As := [.int (jI 0)]) (rest := []) ⟨hx, hb, hml, hown, hts⟩ (ct81.2 _) (cwV 1 hts gX7_begin_X7_fails rfl rfl rfl (by decide +kernel) ⟨Nat.le_of_ble_eq_true rfl, Nat.le_of_ble_eq_true rfl⟩) ⟨(k_pre hK hP hD (is := [0]) rfl rfl).1, va_recv hK.1 hP (ci := 7) (q0 := 0) rfl rfl, (k_pre hK hP hD (is := [0]) rfl rfl).2⟩ rfl rfl hl.1 rfl (lv_room (Nat.le_of_ble_eq_true rfl)) dX7_begin_81 ⟨Nat.le_of_ble_eq_true rfl, Nat.le_of_ble_eq_true rfl⟩) ct81.1 hP hD hS hA [0] rfl rfl (fun H locs hP hD hS => ?_)
  have hP : va_P D vwCl [(m0, oR (jI ((ms : Nat) : Int)) (jI ((es : Nat) : Int)) (jI 0) a), ((a 0), .inl (cI, 42, .inl (fun i => vI (gE i)))), ((a 1), .inl (cI, 42, .inl (fun i => vI (gM i)))), ((a 2), .inl (cI, 30, .inl (fun i => vI (gB i)))), ((a 4), .inl (cI, 6, .inl (fun i => vI (gG i))))] H := hP
  have hD : va_D A [(m0, oR (jI ((ms : Nat) : Int)) (jI ((es : Nat) : Int)) (jI 0) a), ((a 0), .inl (cI, 42, .inl (fun i => vI (gE i)))), ((a 1), .inl (cI, 42, .inl (fun i => vI (gM i)))), ((a 2), .inl (cI, 30, .inl (fun i => vI (gB i)))), ((a 4), .inl (cI, 6, .inl (fun i => vI (gG i))))] := hD
  refine n_ifB_eq (tgt := 89) hx hb dX7_begin_84 (by decide) (fun h84 => ?_) (fun h84 => Bool.noConfusion h84)
  refine lv_aload_n hx hb dX7_begin_89 rfl (lv_at hl 1 rfl) ?_
  refine va_get (D := D) (ci := 7) (v := .int (jI ((es : Nat) : Int))) (C := RX7) (T := TX7) (N := 20) hx hb hts iX7 hown hK.1 hP 0 rfl rfl 2 (by decide) f74 (fun _ h9 => h9) rfl dX7_begin_90 ?_
  refine lv_istore (lv' := [(8, .int (jI ((es : Nat) : Int))), (7, .int (jI 1)), (0, .ref m0), (1, .int (jI ((mo : Nat) : Int))), (2, .int (vI x0)), (3, .int (vI x1)), (4, .int (vI p0)), (5, .int (vI p1)), (6, .int (vI p2))]) hx hb dX7_begin_93 hl (by decide) rfl (fun ls hl => ?_)
  refine n_iconst hx hb dX7_begin_95 ?_
  refine lv_istore (lv' := [(9, .int (jI 0)), (8, .int (jI ((es : Nat) : Int))), (7, .int (jI 1)), (0, .ref m0), (1, .int (jI ((mo : Nat) : Int))), (2, .int (vI x0)), (3, .int (vI x1)), (4, .int (vI p0)), (5, .int (vI p1)), (6, .int (vI p2))]) hx hb dX7_begin_96 hl (by decide) rfl (fun ls hl => ?_)
  refine lv_iload hx hb dX7_begin_98 (lv_at hl 0 rfl) ?_
  refine n_bipush hx hb dX7_begin_100 (by decide) ?_
  refine n_icmp_ge (tgt := 136) hx hb (by unfold r32; decide) (by unfold r32; decide) dX7_begin_102 (by decide) (fun h102 => False.elim (by revert h102; decide)) (fun h102 => ?_)
  refine lv_aload_n hx hb dX7_begin_105 rfl (lv_at hl 3 rfl) ?_
  refine va_get (D := D) (ci := 7) (v := .ref (a 1)) (C := RX7) (T := TX7) (N := 20) hx hb hts iX7 hown hK.1 hP 0 rfl rfl 3 (by decide) f13 (fun _ h9 => h9) rfl dX7_begin_106 ?_
  refine n_bipush hx hb dX7_begin_109 (by decide) ?_
  refine lv_iload hx hb dX7_begin_111 (lv_at hl 1 rfl) ?_
  refine n_imul hx hb dX7_begin_113 ?_
  refine lv_iload hx hb dX7_begin_114 (lv_at hl 0 rfl) ?_
  refine n_iadd hx hb dX7_begin_116 ?_
  refine lv_aload_n hx hb dX7_begin_117 rfl (lv_at hl 3 rfl) ?_
  refine va_get (D := D) (ci := 7) (v := .ref (a 0)) (C := RX7) (T := TX7) (N := 20) hx hb hts iX7 hown hK.1 hP 0 rfl rfl 1 (by decide) f7 (fun _ h9 => h9) rfl dX7_begin_118 ?_
  refine n_bipush hx hb dX7_begin_121 (by decide) ?_
  refine lv_iload_n hx hb dX7_begin_123 rfl (lv_at hl 4 rfl) ?_
  refine n_imul hx hb dX7_begin_124 ?_
  refine lv_iload hx hb dX7_begin_125 (lv_at hl 0 rfl) ?_
  refine n_iadd hx hb dX7_begin_127 ?_
  refine n_iald (i := (7 * mo + 0)) hx hb hK hP 1 0 rfl htI (by omega) (by omega) (Nat.le_of_ble_eq_true rfl) dX7_begin_128 ?_
  refine n_ziast (i := (7 * es + 0)) (x := (gE (7 * mo + 0))) hx hb hK hP hD hS 2 0 rfl htI (by omega) (by omega) (Nat.le_of_ble_eq_true rfl) dX7_begin_129 (fun H locs hP hD hS => ?_)
  have hP : va_P D vwCl [(m0, oR (jI ((ms : Nat) : Int)) (jI ((es : Nat) : Int)) (jI 0) a), ((a 0), .inl (cI, 42, .inl (fun i => vI (gE i)))), ((a 1), .inl (cI, 42, .inl (fun i => vI ((va_up gM (7 * es + 0) (gE (7 * mo + 0))) i)))), ((a 2), .inl (cI, 30, .inl (fun i => vI (gB i)))), ((a 4), .inl (cI, 6, .inl (fun i => vI (gG i))))] H := hP
  have hD : va_D A [(m0, oR (jI ((ms : Nat) : Int)) (jI ((es : Nat) : Int)) (jI 0) a), ((a 0), .inl (cI, 42, .inl (fun i => vI (gE i)))), ((a 1), .inl (cI, 42, .inl (fun i => vI ((va_up gM (7 * es + 0) (gE (7 * mo + 0))) i)))), ((a 2), .inl (cI, 30, .inl (fun i => vI (gB i)))), ((a 4), .inl (cI, 6, .inl (fun i => vI (gG i))))] := hD
  refine lv_iinc (v := jI 1) (lv' := [(9, .int (jI 1)), (8, .int (jI ((es : Nat) : Int))), (7, .int (jI 1)), (0, .ref m0), (1, .int (jI ((mo : Nat) : Int))), (2, .int (vI x0)), (3, .int (vI x1)), (4, .int (vI p0)), (5, .int (vI p1)), (6, .int (vI p2))]) hx hb dX7_begin_130 hl (k := 0) rfl (jI_add 0 1) (by decide) rfl (fun ls hl => ?_)
  refine lv_goto (tgt := 98) hx hb dX7_begin_133 (by decide) ?_
  refine lv_iload hx hb dX7_begin_98 (lv_at hl 0 rfl) ?_
  refine n_bipush hx hb dX7_begin_100 (by decide) ?_
  refine n_icmp_ge (tgt := 136) hx hb (by unfold r32; decide) (by unfold r32; decide) dX7_begin_102 (by decide) (fun h102 => False.elim (by revert h102; decide)) (fun h102 => ?_)
  refine lv_aload_n hx hb dX7_begin_105 rfl (lv_at hl 3 rfl) ?_
  refine va_get (D := D) (ci := 7) (v := .ref (a 1)) (C := RX7) (T := TX7) (N := 20) hx hb hts iX7 hown hK.1 hP 0 rfl rfl 3 (by decide) f13 (fun _ h9 => h9) rfl dX7_begin_106 ?_
  refine n_bipush hx hb dX7_begin_109 (by decide) ?_
  refine lv_iload hx hb dX7_begin_111 (lv_at hl 1 rfl) ?_
  refine n_imul hx hb dX7_begin_113 ?_
  refine lv_iload hx hb dX7_begin_114 (lv_at hl 0 rfl) ?_
  refine n_iadd hx hb dX7_begin_116 ?_
  refine lv_aload_n hx hb dX7_begin_117 rfl (lv_at hl 3 rfl) ?_
  refine va_get (D := D) (ci := 7) (v := .ref (a 0)) (C := RX7) (T := TX7) (N := 20) hx hb hts iX7 hown hK.1 hP 0 rfl rfl 1 (by decide) f7 (fun _ h9 => h9) rfl dX7_begin_118 ?_
  refine n_bipush hx hb dX7_begin_121 (by decide) ?_
  refine lv_iload_n hx hb dX7_begin_123 rfl (lv_at hl 4 rfl) ?_
  refine n_imul hx hb dX7_begin_124 ?_
  refine lv_iload hx hb dX7_begin_125 (lv_at hl 0 rfl) ?_
  refine n_iadd hx hb dX7_begin_127 ?_
  refine n_iald (i := (7 * mo + 1)) hx hb hK hP 1 0 rfl htI (by omega) (by omega) (Nat.le_of_ble_eq_true rfl) dX7_begin_128 ?_
  refine n_ziast (i := (7 * es + 1)) (x := (gE (7 * mo + 1))) hx hb hK hP hD hS 2 0 rfl htI (by omega) (by omega) (Nat.le_of_ble_eq_true rfl) dX7_begin_129 (fun H locs hP hD hS => ?_)
  have hP : va_P D vwCl [(m0, oR (jI ((ms : Nat) : Int)) (jI ((es : Nat) : Int)) (jI 0) a), ((a 0), .inl (cI, 42, .inl (fun i => vI (gE i)))), ((a 1), .inl (cI, 42, .inl (fun i => vI ((va_up (va_up gM (7 * es + 0) (gE (7 * mo + 0))) (7 * es + 1) (gE (7 * mo + 1))) i)))), ((a 2), .inl (cI, 30, .inl (fun i => vI (gB i)))), ((a 4), .inl (cI, 6, .inl (fun i => vI (gG i))))] H := hP
  have hD : va_D A [(m0, oR (jI ((ms : Nat) : Int)) (jI ((es : Nat) : Int)) (jI 0) a), ((a 0), .inl (cI, 42, .inl (fun i => vI (gE i)))), ((a 1), .inl (cI, 42, .inl (fun i => vI ((va_up (va_up gM (7 * es + 0) (gE (7 * mo + 0))) (7 * es + 1) (gE (7 * mo + 1))) i)))), ((a 2), .inl (cI, 30, .inl (fun i => vI (gB i)))), ((a 4), .inl (cI, 6, .inl (fun i => vI (gG i))))] := hD
  refine lv_iinc (v := jI 2) (lv' := [(9, .int (jI 2)), (8, .int (jI ((es : Nat) : Int))), (7, .int (jI 1)), (0, .ref m0), (1, .int (jI ((mo : Nat) : Int))), (2, .int (vI x0)), (3, .int (vI x1)), (4, .int (vI p0)), (5, .int (vI p1)), (6, .int (vI p2))]) hx hb dX7_begin_130 hl (k := 0) rfl (jI_add 1 1) (by decide) rfl (fun ls hl => ?_)
  refine lv_goto (tgt := 98) hx hb dX7_begin_133 (by decide) ?_
  refine lv_iload hx hb dX7_begin_98 (lv_at hl 0 rfl) ?_
  refine n_bipush hx hb dX7_begin_100 (by decide) ?_
  refine n_icmp_ge (tgt := 136) hx hb (by unfold r32; decide) (by unfold r32; decide) dX7_begin_102 (by decide) (fun h102 => False.elim (by revert h102; decide)) (fun h102 => ?_)
  refine lv_aload_n hx hb dX7_begin_105 rfl (lv_at hl 3 rfl) ?_
  refine va_get (D := D) (ci := 7) (v := .ref (a 1)) (C := RX7) (T := TX7) (N := 20) hx hb hts iX7 hown hK.1 hP 0 rfl rfl 3 (by decide) f13 (fun _ h9 => h9) rfl dX7_begin_106 ?_
  refine n_bipush hx hb dX7_begin_109 (by decide) ?_
  refine lv_iload hx hb dX7_begin_111 (lv_at hl 1 rfl) ?_
  refine n_imul hx hb dX7_begin_113 ?_
  refine lv_iload hx hb dX7_begin_114 (lv_at hl 0 rfl) ?_
  refine n_iadd hx hb dX7_begin_116 ?_
  refine lv_aload_n hx hb dX7_begin_117 rfl (lv_at hl 3 rfl) ?_
  refine va_get (D := D) (ci := 7) (v := .ref (a 0)) (C := RX7) (T := TX7) (N := 20) hx hb hts iX7 hown hK.1 hP 0 rfl rfl 1 (by decide) f7 (fun _ h9 => h9) rfl dX7_begin_118 ?_
  refine n_bipush hx hb dX7_begin_121 (by decide) ?_
  refine lv_iload_n hx hb dX7_begin_123 rfl (lv_at hl 4 rfl) ?_
  refine n_imul hx hb dX7_begin_124 ?_
  refine lv_iload hx hb dX7_begin_125 (lv_at hl 0 rfl) ?_
  refine n_iadd hx hb dX7_begin_127 ?_
  refine n_iald (i := (7 * mo + 2)) hx hb hK hP 1 0 rfl htI (by omega) (by omega) (Nat.le_of_ble_eq_true rfl) dX7_begin_128 ?_
  refine n_ziast (i := (7 * es + 2)) (x := (gE (7 * mo + 2))) hx hb hK hP hD hS 2 0 rfl htI (by omega) (by omega) (Nat.le_of_ble_eq_true rfl) dX7_begin_129 (fun H locs hP hD hS => ?_)
  have hP : va_P D vwCl [(m0, oR (jI ((ms : Nat) : Int)) (jI ((es : Nat) : Int)) (jI 0) a), ((a 0), .inl (cI, 42, .inl (fun i => vI (gE i)))), ((a 1), .inl (cI, 42, .inl (fun i => vI ((va_up (va_up (va_up gM (7 * es + 0) (gE (7 * mo + 0))) (7 * es + 1) (gE (7 * mo + 1))) (7 * es + 2) (gE (7 * mo + 2))) i)))), ((a 2), .inl (cI, 30, .inl (fun i => vI (gB i)))), ((a 4), .inl (cI, 6, .inl (fun i => vI (gG i))))] H := hP
  have hD : va_D A [(m0, oR (jI ((ms : Nat) : Int)) (jI ((es : Nat) : Int)) (jI 0) a), ((a 0), .inl (cI, 42, .inl (fun i => vI (gE i)))), ((a 1), .inl (cI, 42, .inl (fun i => vI ((va_up (va_up (va_up gM (7 * es + 0) (gE (7 * mo + 0))) (7 * es + 1) (gE (7 * mo + 1))) (7 * es + 2) (gE (7 * mo + 2))) i)))), ((a 2), .inl (cI, 30, .inl (fun i => vI (gB i)))), ((a 4), .inl (cI, 6, .inl (fun i => vI (gG i))))] := hD
  refine lv_iinc (v := jI 3) (lv' := [(9, .int (jI 3)), (8, .int (jI ((es : Nat) : Int))), (7, .int (jI 1)), (0, .ref m0), (1, .int (jI ((mo : Nat) : Int))), (2, .int (vI x0)), (3, .int (vI x1)), (4, .int (vI p0)), (5, .int (vI p1)), (6, .int (vI p2))]) hx hb dX7_begin_130 hl (k := 0) rfl (jI_add 2 1) (by decide) rfl (fun ls hl => ?_)
  refine lv_goto (tgt := 98) hx hb dX7_begin_133 (by decide) ?_
  refine lv_iload hx hb dX7_begin_98 (lv_at hl 0 rfl) ?_
  refine n_bipush hx hb dX7_begin_100 (by decide) ?_
  refine n_icmp_ge (tgt := 136) hx hb (by unfold r32; decide) (by unfold r32; decide) dX7_begin_102 (by decide) (fun h102 => False.elim (by revert h102; decide)) (fun h102 => ?_)
  refine lv_aload_n hx hb dX7_begin_105 rfl (lv_at hl 3 rfl) ?_
  refine va_get (D := D) (ci := 7) (v := .ref (a 1)) (C := RX7) (T := TX7) (N := 20) hx hb hts iX7 hown hK.1 hP 0 rfl rfl 3 (by decide) f13 (fun _ h9 => h9) rfl dX7_begin_106 ?_
  refine n_bipush hx hb dX7_begin_109 (by decide) ?_
  refine lv_iload hx hb dX7_begin_111 (lv_at hl 1 rfl) ?_
  refine n_imul hx hb dX7_begin_113 ?_
  refine lv_iload hx hb dX7_begin_114 (lv_at hl 0 rfl) ?_
  refine n_iadd hx hb dX7_begin_116 ?_
  refine lv_aload_n hx hb dX7_begin_117 rfl (lv_at hl 3 rfl) ?_
  refine va_get (D := D) (ci := 7) (v := .ref (a 0)) (C := RX7) (T := TX7) (N := 20) hx hb hts iX7 hown hK.1 hP 0 rfl rfl 1 (by decide) f7 (fun _ h9 => h9) rfl dX7_begin_118 ?_
  refine n_bipush hx hb dX7_begin_121 (by decide) ?_
  refine lv_iload_n hx hb dX7_begin_123 rfl (lv_at hl 4 rfl) ?_
  refine n_imul hx hb dX7_begin_124 ?_
  refine lv_iload hx hb dX7_begin_125 (lv_at hl 0 rfl) ?_
  refine n_iadd hx hb dX7_begin_127 ?_
  refine n_iald (i := (7 * mo + 3)) hx hb hK hP 1 0 rfl htI (by omega) (by omega) (Nat.le_of_ble_eq_true rfl) dX7_begin_128 ?_
  refine n_ziast (i := (7 * es + 3)) (x := (gE (7 * mo + 3))) hx hb hK hP hD hS 2 0 rfl htI (by omega) (by omega) (Nat.le_of_ble_eq_true rfl) dX7_begin_129 (fun H locs hP hD hS => ?_)
  have hP : va_P D vwCl [(m0, oR (jI ((ms : Nat) : Int)) (jI ((es : Nat) : Int)) (jI 0) a), ((a 0), .inl (cI, 42, .inl (fun i => vI (gE i)))), ((a 1), .inl (cI, 42, .inl (fun i => vI ((va_up (va_up (va_up (va_up gM (7 * es + 0) (gE (7 * mo + 0))) (7 * es + 1) (gE (7 * mo + 1))) (7 * es + 2) (gE (7 * mo + 2))) (7 * es + 3) (gE (7 * mo + 3))) i)))), ((a 2), .inl (cI, 30, .inl (fun i => vI (gB i)))), ((a 4), .inl (cI, 6, .inl (fun i => vI (gG i))))] H := hP
  have hD : va_D A [(m0, oR (jI ((ms : Nat) : Int)) (jI ((es : Nat) : Int)) (jI 0) a), ((a 0), .inl (cI, 42, .inl (fun i => vI (gE i)))), ((a 1), .inl (cI, 42, .inl (fun i => vI ((va_up (va_up (va_up (va_up gM (7 * es + 0) (gE (7 * mo + 0))) (7 * es + 1) (gE (7 * mo + 1))) (7 * es + 2) (gE (7 * mo + 2))) (7 * es + 3) (gE (7 * mo + 3))) i)))), ((a 2), .inl (cI, 30, .inl (fun i => vI (gB i)))), ((a 4), .inl (cI, 6, .inl (fun i => vI (gG i))))] := hD
  refine lv_iinc (v := jI 4) (lv' := [(9, .int (jI 4)), (8, .int (jI ((es : Nat) : Int))), (7, .int (jI 1)), (0, .ref m0), (1, .int (jI ((mo : Nat) : Int))), (2, .int (vI x0)), (3, .int (vI x1)), (4, .int (vI p0)), (5, .int (vI p1)), (6, .int (vI p2))]) hx hb dX7_begin_130 hl (k := 0) rfl (jI_add 3 1) (by decide) rfl (fun ls hl => ?_)
  refine lv_goto (tgt := 98) hx hb dX7_begin_133 (by decide) ?_
  refine lv_iload hx hb dX7_begin_98 (lv_at hl 0 rfl) ?_
  refine n_bipush hx hb dX7_begin_100 (by decide) ?_
  refine n_icmp_ge (tgt := 136) hx hb (by unfold r32; decide) (by unfold r32; decide) dX7_begin_102 (by decide) (fun h102 => False.elim (by revert h102; decide)) (fun h102 => ?_)
  refine lv_aload_n hx hb dX7_begin_105 rfl (lv_at hl 3 rfl) ?_
  refine va_get (D := D) (ci := 7) (v := .ref (a 1)) (C := RX7) (T := TX7) (N := 20) hx hb hts iX7 hown hK.1 hP 0 rfl rfl 3 (by decide) f13 (fun _ h9 => h9) rfl dX7_begin_106 ?_
  refine n_bipush hx hb dX7_begin_109 (by decide) ?_
  refine lv_iload hx hb dX7_begin_111 (lv_at hl 1 rfl) ?_
  refine n_imul hx hb dX7_begin_113 ?_
  refine lv_iload hx hb dX7_begin_114 (lv_at hl 0 rfl) ?_
  refine n_iadd hx hb dX7_begin_116 ?_
  refine lv_aload_n hx hb dX7_begin_117 rfl (lv_at hl 3 rfl) ?_
  refine va_get (D := D) (ci := 7) (v := .ref (a 0)) (C := RX7) (T := TX7) (N := 20) hx hb hts iX7 hown hK.1 hP 0 rfl rfl 1 (by decide) f7 (fun _ h9 => h9) rfl dX7_begin_118 ?_
  refine n_bipush hx hb dX7_begin_121 (by decide) ?_
  refine lv_iload_n hx hb dX7_begin_123 rfl (lv_at hl 4 rfl) ?_
  refine n_imul hx hb dX7_begin_124 ?_
  refine lv_iload hx hb dX7_begin_125 (lv_at hl 0 rfl) ?_
  refine n_iadd hx hb dX7_begin_127 ?_
  refine n_iald (i := (7 * mo + 4)) hx hb hK hP 1 0 rfl htI (by omega) (by omega) (Nat.le_of_ble_eq_true rfl) dX7_begin_128 ?_
  refine n_ziast (i := (7 * es + 4)) (x := (gE (7 * mo + 4))) hx hb hK hP hD hS 2 0 rfl htI (by omega) (by omega) (Nat.le_of_ble_eq_true rfl) dX7_begin_129 (fun H locs hP hD hS => ?_)
  have hP : va_P D vwCl [(m0, oR (jI ((ms : Nat) : Int)) (jI ((es : Nat) : Int)) (jI 0) a), ((a 0), .inl (cI, 42, .inl (fun i => vI (gE i)))), ((a 1), .inl (cI, 42, .inl (fun i => vI ((va_up (va_up (va_up (va_up (va_up gM (7 * es + 0) (gE (7 * mo + 0))) (7 * es + 1) (gE (7 * mo + 1))) (7 * es + 2) (gE (7 * mo + 2))) (7 * es + 3) (gE (7 * mo + 3))) (7 * es + 4) (gE (7 * mo + 4))) i)))), ((a 2), .inl (cI, 30, .inl (fun i => vI (gB i)))), ((a 4), .inl (cI, 6, .inl (fun i => vI (gG i))))] H := hP
  have hD : va_D A [(m0, oR (jI ((ms : Nat) : Int)) (jI ((es : Nat) : Int)) (jI 0) a), ((a 0), .inl (cI, 42, .inl (fun i => vI (gE i)))), ((a 1), .inl (cI, 42, .inl (fun i => vI ((va_up (va_up (va_up (va_up (va_up gM (7 * es + 0) (gE (7 * mo + 0))) (7 * es + 1) (gE (7 * mo + 1))) (7 * es + 2) (gE (7 * mo + 2))) (7 * es + 3) (gE (7 * mo + 3))) (7 * es + 4) (gE (7 * mo + 4))) i)))), ((a 2), .inl (cI, 30, .inl (fun i => vI (gB i)))), ((a 4), .inl (cI, 6, .inl (fun i => vI (gG i))))] := hD
  refine lv_iinc (v := jI 5) (lv' := [(9, .int (jI 5)), (8, .int (jI ((es : Nat) : Int))), (7, .int (jI 1)), (0, .ref m0), (1, .int (jI ((mo : Nat) : Int))), (2, .int (vI x0)), (3, .int (vI x1)), (4, .int (vI p0)), (5, .int (vI p1)), (6, .int (vI p2))]) hx hb dX7_begin_130 hl (k := 0) rfl (jI_add 4 1) (by decide) rfl (fun ls hl => ?_)
  refine lv_goto (tgt := 98) hx hb dX7_begin_133 (by decide) ?_
  refine lv_iload hx hb dX7_begin_98 (lv_at hl 0 rfl) ?_
  refine n_bipush hx hb dX7_begin_100 (by decide) ?_
  refine n_icmp_ge (tgt := 136) hx hb (by unfold r32; decide) (by unfold r32; decide) dX7_begin_102 (by decide) (fun h102 => False.elim (by revert h102; decide)) (fun h102 => ?_)
  refine lv_aload_n hx hb dX7_begin_105 rfl (lv_at hl 3 rfl) ?_
  refine va_get (D := D) (ci := 7) (v := .ref (a 1)) (C := RX7) (T := TX7) (N := 20) hx hb hts iX7 hown hK.1 hP 0 rfl rfl 3 (by decide) f13 (fun _ h9 => h9) rfl dX7_begin_106 ?_
  refine n_bipush hx hb dX7_begin_109 (by decide) ?_
  refine lv_iload hx hb dX7_begin_111 (lv_at hl 1 rfl) ?_
  refine n_imul hx hb dX7_begin_113 ?_
  refine lv_iload hx hb dX7_begin_114 (lv_at hl 0 rfl) ?_
  refine n_iadd hx hb dX7_begin_116 ?_
  refine lv_aload_n hx hb dX7_begin_117 rfl (lv_at hl 3 rfl) ?_
  refine va_get (D := D) (ci := 7) (v := .ref (a 0)) (C := RX7) (T := TX7) (N := 20) hx hb hts iX7 hown hK.1 hP 0 rfl rfl 1 (by decide) f7 (fun _ h9 => h9) rfl dX7_begin_118 ?_
  refine n_bipush hx hb dX7_begin_121 (by decide) ?_
  refine lv_iload_n hx hb dX7_begin_123 rfl (lv_at hl 4 rfl) ?_
  refine n_imul hx hb dX7_begin_124 ?_
  refine lv_iload hx hb dX7_begin_125 (lv_at hl 0 rfl) ?_
  refine n_iadd hx hb dX7_begin_127 ?_
  refine n_iald (i := (7 * mo + 5)) hx hb hK hP 1 0 rfl htI (by omega) (by omega) (Nat.le_of_ble_eq_true rfl) dX7_begin_128 ?_
  refine n_ziast (i := (7 * es + 5)) (x := (gE (7 * mo + 5))) hx hb hK hP hD hS 2 0 rfl htI (by omega) (by omega) (Nat.le_of_ble_eq_true rfl) dX7_begin_129 (fun H locs hP hD hS => ?_)
  have hP : va_P D vwCl [(m0, oR (jI ((ms : Nat) : Int)) (jI ((es : Nat) : Int)) (jI 0) a), ((a 0), .inl (cI, 42, .inl (fun i => vI (gE i)))), ((a 1), .inl (cI, 42, .inl (fun i => vI ((va_up (va_up (va_up (va_up (va_up (va_up gM (7 * es + 0) (gE (7 * mo + 0))) (7 * es + 1) (gE (7 * mo + 1))) (7 * es + 2) (gE (7 * mo + 2))) (7 * es + 3) (gE (7 * mo + 3))) (7 * es + 4) (gE (7 * mo + 4))) (7 * es + 5) (gE (7 * mo + 5))) i)))), ((a 2), .inl (cI, 30, .inl (fun i => vI (gB i)))), ((a 4), .inl (cI, 6, .inl (fun i => vI (gG i))))] H := hP
  have hD : va_D A [(m0, oR (jI ((ms : Nat) : Int)) (jI ((es : Nat) : Int)) (jI 0) a), ((a 0), .inl (cI, 42, .inl (fun i => vI (gE i)))), ((a 1), .inl (cI, 42, .inl (fun i => vI ((va_up (va_up (va_up (va_up (va_up (va_up gM (7 * es + 0) (gE (7 * mo + 0))) (7 * es + 1) (gE (7 * mo + 1))) (7 * es + 2) (gE (7 * mo + 2))) (7 * es + 3) (gE (7 * mo + 3))) (7 * es + 4) (gE (7 * mo + 4))) (7 * es + 5) (gE (7 * mo + 5))) i)))), ((a 2), .inl (cI, 30, .inl (fun i => vI (gB i)))), ((a 4), .inl (cI, 6, .inl (fun i => vI (gG i))))] := hD
  refine lv_iinc (v := jI 6) (lv' := [(9, .int (jI 6)), (8, .int (jI ((es : Nat) : Int))), (7, .int (jI 1)), (0, .ref m0), (1, .int (jI ((mo : Nat) : Int))), (2, .int (vI x0)), (3, .int (vI x1)), (4, .int (vI p0)), (5, .int (vI p1)), (6, .int (vI p2))]) hx hb dX7_begin_130 hl (k := 0) rfl (jI_add 5 1) (by decide) rfl (fun ls hl => ?_)
  refine lv_goto (tgt := 98) hx hb dX7_begin_133 (by decide) ?_
  refine lv_iload hx hb dX7_begin_98 (lv_at hl 0 rfl) ?_
  refine n_bipush hx hb dX7_begin_100 (by decide) ?_
  refine n_icmp_ge (tgt := 136) hx hb (by unfold r32; decide) (by unfold r32; decide) dX7_begin_102 (by decide) (fun h102 => False.elim (by revert h102; decide)) (fun h102 => ?_)
  refine lv_aload_n hx hb dX7_begin_105 rfl (lv_at hl 3 rfl) ?_
  refine va_get (D := D) (ci := 7) (v := .ref (a 1)) (C := RX7) (T := TX7) (N := 20) hx hb hts iX7 hown hK.1 hP 0 rfl rfl 3 (by decide) f13 (fun _ h9 => h9) rfl dX7_begin_106 ?_
  refine n_bipush hx hb dX7_begin_109 (by decide) ?_
  refine lv_iload hx hb dX7_begin_111 (lv_at hl 1 rfl) ?_
  refine n_imul hx hb dX7_begin_113 ?_
  refine lv_iload hx hb dX7_begin_114 (lv_at hl 0 rfl) ?_
  refine n_iadd hx hb dX7_begin_116 ?_
  refine lv_aload_n hx hb dX7_begin_117 rfl (lv_at hl 3 rfl) ?_
  refine va_get (D := D) (ci := 7) (v := .ref (a 0)) (C := RX7) (T := TX7) (N := 20) hx hb hts iX7 hown hK.1 hP 0 rfl rfl 1 (by decide) f7 (fun _ h9 => h9) rfl dX7_begin_118 ?_
  refine n_bipush hx hb dX7_begin_121 (by decide) ?_
  refine lv_iload_n hx hb dX7_begin_123 rfl (lv_at hl 4 rfl) ?_
  refine n_imul hx hb dX7_begin_124 ?_
  refine lv_iload hx hb dX7_begin_125 (lv_at hl 0 rfl) ?_
  refine n_iadd hx hb dX7_begin_127 ?_
  refine n_iald (i := (7 * mo + 6)) hx hb hK hP 1 0 rfl htI (by omega) (by omega) (Nat.le_of_ble_eq_true rfl) dX7_begin_128 ?_
  refine n_ziast (i := (7 * es + 6)) (x := (gE (7 * mo + 6))) hx hb hK hP hD hS 2 0 rfl htI (by omega) (by omega) (Nat.le_of_ble_eq_true rfl) dX7_begin_129 (fun H locs hP hD hS => ?_)
  have hP : va_P D vwCl [(m0, oR (jI ((ms : Nat) : Int)) (jI ((es : Nat) : Int)) (jI 0) a), ((a 0), .inl (cI, 42, .inl (fun i => vI (gE i)))), ((a 1), .inl (cI, 42, .inl (fun i => vI ((va_up (va_up (va_up (va_up (va_up (va_up (va_up gM (7 * es + 0) (gE (7 * mo + 0))) (7 * es + 1) (gE (7 * mo + 1))) (7 * es + 2) (gE (7 * mo + 2))) (7 * es + 3) (gE (7 * mo + 3))) (7 * es + 4) (gE (7 * mo + 4))) (7 * es + 5) (gE (7 * mo + 5))) (7 * es + 6) (gE (7 * mo + 6))) i)))), ((a 2), .inl (cI, 30, .inl (fun i => vI (gB i)))), ((a 4), .inl (cI, 6, .inl (fun i => vI (gG i))))] H := hP
  have hD : va_D A [(m0, oR (jI ((ms : Nat) : Int)) (jI ((es : Nat) : Int)) (jI 0) a), ((a 0), .inl (cI, 42, .inl (fun i => vI (gE i)))), ((a 1), .inl (cI, 42, .inl (fun i => vI ((va_up (va_up (va_up (va_up (va_up (va_up (va_up gM (7 * es + 0) (gE (7 * mo + 0))) (7 * es + 1) (gE (7 * mo + 1))) (7 * es + 2) (gE (7 * mo + 2))) (7 * es + 3) (gE (7 * mo + 3))) (7 * es + 4) (gE (7 * mo + 4))) (7 * es + 5) (gE (7 * mo + 5))) (7 * es + 6) (gE (7 * mo + 6))) i)))), ((a 2), .inl (cI, 30, .inl (fun i => vI (gB i)))), ((a 4), .inl (cI, 6, .inl (fun i => vI (gG i))))] := hD
  refine lv_iinc (v := jI 7) (lv' := [(9, .int (jI 7)), (8, .int (jI ((es : Nat) : Int))), (7, .int (jI 1)), (0, .ref m0), (1, .int (jI ((mo : Nat) : Int))), (2, .int (vI x0)), (3, .int (vI x1)), (4, .int (vI p0)), (5, .int (vI p1)), (6, .int (vI p2))]) hx hb dX7_begin_130 hl (k := 0) rfl (jI_add 6 1) (by decide) rfl (fun ls hl => ?_)
  refine lv_goto (tgt := 98) hx hb dX7_begin_133 (by decide) ?_
  refine lv_iload hx hb dX7_begin_98 (lv_at hl 0 rfl) ?_
  refine n_bipush hx hb dX7_begin_100 (by decide) ?_
  refine n_icmp_ge (tgt := 136) hx hb (by unfold r32; decide) (by unfold r32; decide) dX7_begin_102 (by decide) (fun h102 => ?_) (fun h102 => False.elim (by revert h102; decide))
  refine lv_aload_n hx hb dX7_begin_136 rfl (lv_at hl 3 rfl) ?_
  refine va_get (D := D) (ci := 7) (v := .ref (a 2)) (C := RX7) (T := TX7) (N := 20) hx hb hts iX7 hown hK.1 hP 0 rfl rfl 4 (by decide) f16 (fun _ h9 => h9) rfl dX7_begin_137 ?_
  refine n_iconst hx hb dX7_begin_140 ?_
  refine lv_iload hx hb dX7_begin_141 (lv_at hl 1 rfl) ?_
  refine n_imul hx hb dX7_begin_143 ?_
  refine lv_iload_n hx hb dX7_begin_144 rfl (lv_at hl 5 rfl) ?_
  refine n_ziast (i := (5 * es)) (x := x0) hx hb hK hP hD hS 3 0 rfl htI (by omega) (by omega) (Nat.le_of_ble_eq_true rfl) dX7_begin_145 (fun H locs hP hD hS => ?_)
  have hP : va_P D vwCl [(m0, oR (jI ((ms : Nat) : Int)) (jI ((es : Nat) : Int)) (jI 0) a), ((a 0), .inl (cI, 42, .inl (fun i => vI (gE i)))), ((a 1), .inl (cI, 42, .inl (fun i => vI ((va_up (va_up (va_up (va_up (va_up (va_up (va_up gM (7 * es + 0) (gE (7 * mo + 0))) (7 * es + 1) (gE (7 * mo + 1))) (7 * es + 2) (gE (7 * mo + 2))) (7 * es + 3) (gE (7 * mo + 3))) (7 * es + 4) (gE (7 * mo + 4))) (7 * es + 5) (gE (7 * mo + 5))) (7 * es + 6) (gE (7 * mo + 6))) i)))), ((a 2), .inl (cI, 30, .inl (fun i => vI ((va_up gB (5 * es) x0) i)))), ((a 4), .inl (cI, 6, .inl (fun i => vI (gG i))))] H := hP
  have hD : va_D A [(m0, oR (jI ((ms : Nat) : Int)) (jI ((es : Nat) : Int)) (jI 0) a), ((a 0), .inl (cI, 42, .inl (fun i => vI (gE i)))), ((a 1), .inl (cI, 42, .inl (fun i => vI ((va_up (va_up (va_up (va_up (va_up (va_up (va_up gM (7 * es + 0) (gE (7 * mo + 0))) (7 * es + 1) (gE (7 * mo + 1))) (7 * es + 2) (gE (7 * mo + 2))) (7 * es + 3) (gE (7 * mo + 3))) (7 * es + 4) (gE (7 * mo + 4))) (7 * es + 5) (gE (7 * mo + 5))) (7 * es + 6) (gE (7 * mo + 6))) i)))), ((a 2), .inl (cI, 30, .inl (fun i => vI ((va_up gB (5 * es) x0) i)))), ((a 4), .inl (cI, 6, .inl (fun i => vI (gG i))))] := hD
  refine lv_aload_n hx hb dX7_begin_146 rfl (lv_at hl 3 rfl) ?_
  refine va_get (D := D) (ci := 7) (v := .ref (a 2)) (C := RX7) (T := TX7) (N := 20) hx hb hts iX7 hown hK.1 hP 0 rfl rfl 4 (by decide) f16 (fun _ h9 => h9) rfl dX7_begin_147 ?_
  refine n_iconst hx hb dX7_begin_150 ?_
  refine lv_iload hx hb dX7_begin_151 (lv_at hl 1 rfl) ?_
  refine n_imul hx hb dX7_begin_153 ?_
  refine n_iconst hx hb dX7_begin_154 ?_
  refine n_iadd hx hb dX7_begin_155 ?_
  refine lv_iload_n hx hb dX7_begin_156 rfl (lv_at hl 6 rfl) ?_
  refine n_ziast (i := ((5 * es) + 1)) (x := x1) hx hb hK hP hD hS 3 0 rfl htI (by omega) (by omega) (Nat.le_of_ble_eq_true rfl) dX7_begin_157 (fun H locs hP hD hS => ?_)
  have hP : va_P D vwCl [(m0, oR (jI ((ms : Nat) : Int)) (jI ((es : Nat) : Int)) (jI 0) a), ((a 0), .inl (cI, 42, .inl (fun i => vI (gE i)))), ((a 1), .inl (cI, 42, .inl (fun i => vI ((va_up (va_up (va_up (va_up (va_up (va_up (va_up gM (7 * es + 0) (gE (7 * mo + 0))) (7 * es + 1) (gE (7 * mo + 1))) (7 * es + 2) (gE (7 * mo + 2))) (7 * es + 3) (gE (7 * mo + 3))) (7 * es + 4) (gE (7 * mo + 4))) (7 * es + 5) (gE (7 * mo + 5))) (7 * es + 6) (gE (7 * mo + 6))) i)))), ((a 2), .inl (cI, 30, .inl (fun i => vI ((va_up (va_up gB (5 * es) x0) ((5 * es) + 1) x1) i)))), ((a 4), .inl (cI, 6, .inl (fun i => vI (gG i))))] H := hP
  have hD : va_D A [(m0, oR (jI ((ms : Nat) : Int)) (jI ((es : Nat) : Int)) (jI 0) a), ((a 0), .inl (cI, 42, .inl (fun i => vI (gE i)))), ((a 1), .inl (cI, 42, .inl (fun i => vI ((va_up (va_up (va_up (va_up (va_up (va_up (va_up gM (7 * es + 0) (gE (7 * mo + 0))) (7 * es + 1) (gE (7 * mo + 1))) (7 * es + 2) (gE (7 * mo + 2))) (7 * es + 3) (gE (7 * mo + 3))) (7 * es + 4) (gE (7 * mo + 4))) (7 * es + 5) (gE (7 * mo + 5))) (7 * es + 6) (gE (7 * mo + 6))) i)))), ((a 2), .inl (cI, 30, .inl (fun i => vI ((va_up (va_up gB (5 * es) x0) ((5 * es) + 1) x1) i)))), ((a 4), .inl (cI, 6, .inl (fun i => vI (gG i))))] := hD
  refine lv_aload_n hx hb dX7_begin_158 rfl (lv_at hl 3 rfl) ?_
  refine va_get (D := D) (ci := 7) (v := .ref (a 2)) (C := RX7) (T := TX7) (N := 20) hx hb hts iX7 hown hK.1 hP 0 rfl rfl 4 (by decide) f16 (fun _ h9 => h9) rfl dX7_begin_159 ?_
  refine n_iconst hx hb dX7_begin_162 ?_
  refine lv_iload hx hb dX7_begin_163 (lv_at hl 1 rfl) ?_
  refine n_imul hx hb dX7_begin_165 ?_
  refine n_iconst hx hb dX7_begin_166 ?_
  refine n_iadd hx hb dX7_begin_167 ?_
  refine lv_iload hx hb dX7_begin_168 (lv_at hl 7 rfl) ?_
  refine n_ziast (i := (5 * es + 2)) (x := p0) hx hb hK hP hD hS 3 0 rfl htI (by omega) (by omega) (Nat.le_of_ble_eq_true rfl) dX7_begin_170 (fun H locs hP hD hS => ?_)
  have hP : va_P D vwCl [(m0, oR (jI ((ms : Nat) : Int)) (jI ((es : Nat) : Int)) (jI 0) a), ((a 0), .inl (cI, 42, .inl (fun i => vI (gE i)))), ((a 1), .inl (cI, 42, .inl (fun i => vI ((va_up (va_up (va_up (va_up (va_up (va_up (va_up gM (7 * es + 0) (gE (7 * mo + 0))) (7 * es + 1) (gE (7 * mo + 1))) (7 * es + 2) (gE (7 * mo + 2))) (7 * es + 3) (gE (7 * mo + 3))) (7 * es + 4) (gE (7 * mo + 4))) (7 * es + 5) (gE (7 * mo + 5))) (7 * es + 6) (gE (7 * mo + 6))) i)))), ((a 2), .inl (cI, 30, .inl (fun i => vI ((va_up (va_up (va_up gB (5 * es) x0) ((5 * es) + 1) x1) (5 * es + 2) p0) i)))), ((a 4), .inl (cI, 6, .inl (fun i => vI (gG i))))] H := hP
  have hD : va_D A [(m0, oR (jI ((ms : Nat) : Int)) (jI ((es : Nat) : Int)) (jI 0) a), ((a 0), .inl (cI, 42, .inl (fun i => vI (gE i)))), ((a 1), .inl (cI, 42, .inl (fun i => vI ((va_up (va_up (va_up (va_up (va_up (va_up (va_up gM (7 * es + 0) (gE (7 * mo + 0))) (7 * es + 1) (gE (7 * mo + 1))) (7 * es + 2) (gE (7 * mo + 2))) (7 * es + 3) (gE (7 * mo + 3))) (7 * es + 4) (gE (7 * mo + 4))) (7 * es + 5) (gE (7 * mo + 5))) (7 * es + 6) (gE (7 * mo + 6))) i)))), ((a 2), .inl (cI, 30, .inl (fun i => vI ((va_up (va_up (va_up gB (5 * es) x0) ((5 * es) + 1) x1) (5 * es + 2) p0) i)))), ((a 4), .inl (cI, 6, .inl (fun i => vI (gG i))))] := hD
  refine lv_aload_n hx hb dX7_begin_171 rfl (lv_at hl 3 rfl) ?_
  refine va_get (D := D) (ci := 7) (v := .ref (a 2)) (C := RX7) (T := TX7) (N := 20) hx hb hts iX7 hown hK.1 hP 0 rfl rfl 4 (by decide) f16 (fun _ h9 => h9) rfl dX7_begin_172 ?_
  refine n_iconst hx hb dX7_begin_175 ?_
  refine lv_iload hx hb dX7_begin_176 (lv_at hl 1 rfl) ?_
  refine n_imul hx hb dX7_begin_178 ?_
  refine n_iconst hx hb dX7_begin_179 ?_
  refine n_iadd hx hb dX7_begin_180 ?_
  refine lv_iload hx hb dX7_begin_181 (lv_at hl 8 rfl) ?_
  refine n_ziast (i := (5 * es + 3)) (x := p1) hx hb hK hP hD hS 3 0 rfl htI (by omega) (by omega) (Nat.le_of_ble_eq_true rfl) dX7_begin_183 (fun H locs hP hD hS => ?_)
  have hP : va_P D vwCl [(m0, oR (jI ((ms : Nat) : Int)) (jI ((es : Nat) : Int)) (jI 0) a), ((a 0), .inl (cI, 42, .inl (fun i => vI (gE i)))), ((a 1), .inl (cI, 42, .inl (fun i => vI ((va_up (va_up (va_up (va_up (va_up (va_up (va_up gM (7 * es + 0) (gE (7 * mo + 0))) (7 * es + 1) (gE (7 * mo + 1))) (7 * es + 2) (gE (7 * mo + 2))) (7 * es + 3) (gE (7 * mo + 3))) (7 * es + 4) (gE (7 * mo + 4))) (7 * es + 5) (gE (7 * mo + 5))) (7 * es + 6) (gE (7 * mo + 6))) i)))), ((a 2), .inl (cI, 30, .inl (fun i => vI ((va_up (va_up (va_up (va_up gB (5 * es) x0) ((5 * es) + 1) x1) (5 * es + 2) p0) (5 * es + 3) p1) i)))), ((a 4), .inl (cI, 6, .inl (fun i => vI (gG i))))] H := hP
  have hD : va_D A [(m0, oR (jI ((ms : Nat) : Int)) (jI ((es : Nat) : Int)) (jI 0) a), ((a 0), .inl (cI, 42, .inl (fun i => vI (gE i)))), ((a 1), .inl (cI, 42, .inl (fun i => vI ((va_up (va_up (va_up (va_up (va_up (va_up (va_up gM (7 * es + 0) (gE (7 * mo + 0))) (7 * es + 1) (gE (7 * mo + 1))) (7 * es + 2) (gE (7 * mo + 2))) (7 * es + 3) (gE (7 * mo + 3))) (7 * es + 4) (gE (7 * mo + 4))) (7 * es + 5) (gE (7 * mo + 5))) (7 * es + 6) (gE (7 * mo + 6))) i)))), ((a 2), .inl (cI, 30, .inl (fun i => vI ((va_up (va_up (va_up (va_up gB (5 * es) x0) ((5 * es) + 1) x1) (5 * es + 2) p0) (5 * es + 3) p1) i)))), ((a 4), .inl (cI, 6, .inl (fun i => vI (gG i))))] := hD
  refine lv_aload_n hx hb dX7_begin_184 rfl (lv_at hl 3 rfl) ?_
  refine va_get (D := D) (ci := 7) (v := .ref (a 2)) (C := RX7) (T := TX7) (N := 20) hx hb hts iX7 hown hK.1 hP 0 rfl rfl 4 (by decide) f16 (fun _ h9 => h9) rfl dX7_begin_185 ?_
  refine n_iconst hx hb dX7_begin_188 ?_
  refine lv_iload hx hb dX7_begin_189 (lv_at hl 1 rfl) ?_
  refine n_imul hx hb dX7_begin_191 ?_
  refine n_iconst hx hb dX7_begin_192 ?_
  refine n_iadd hx hb dX7_begin_193 ?_
  refine lv_iload hx hb dX7_begin_194 (lv_at hl 9 rfl) ?_
  refine n_ziast (i := (5 * es + 4)) (x := p2) hx hb hK hP hD hS 3 0 rfl htI (by omega) (by omega) (Nat.le_of_ble_eq_true rfl) dX7_begin_196 (fun H locs hP hD hS => ?_)
  have hP : va_P D vwCl [(m0, oR (jI ((ms : Nat) : Int)) (jI ((es : Nat) : Int)) (jI 0) a), ((a 0), .inl (cI, 42, .inl (fun i => vI (gE i)))), ((a 1), .inl (cI, 42, .inl (fun i => vI ((va_up (va_up (va_up (va_up (va_up (va_up (va_up gM (7 * es + 0) (gE (7 * mo + 0))) (7 * es + 1) (gE (7 * mo + 1))) (7 * es + 2) (gE (7 * mo + 2))) (7 * es + 3) (gE (7 * mo + 3))) (7 * es + 4) (gE (7 * mo + 4))) (7 * es + 5) (gE (7 * mo + 5))) (7 * es + 6) (gE (7 * mo + 6))) i)))), ((a 2), .inl (cI, 30, .inl (fun i => vI ((va_up (va_up (va_up (va_up (va_up gB (5 * es) x0) ((5 * es) + 1) x1) (5 * es + 2) p0) (5 * es + 3) p1) (5 * es + 4) p2) i)))), ((a 4), .inl (cI, 6, .inl (fun i => vI (gG i))))] H := hP
  have hD : va_D A [(m0, oR (jI ((ms : Nat) : Int)) (jI ((es : Nat) : Int)) (jI 0) a), ((a 0), .inl (cI, 42, .inl (fun i => vI (gE i)))), ((a 1), .inl (cI, 42, .inl (fun i => vI ((va_up (va_up (va_up (va_up (va_up (va_up (va_up gM (7 * es + 0) (gE (7 * mo + 0))) (7 * es + 1) (gE (7 * mo + 1))) (7 * es + 2) (gE (7 * mo + 2))) (7 * es + 3) (gE (7 * mo + 3))) (7 * es + 4) (gE (7 * mo + 4))) (7 * es + 5) (gE (7 * mo + 5))) (7 * es + 6) (gE (7 * mo + 6))) i)))), ((a 2), .inl (cI, 30, .inl (fun i => vI ((va_up (va_up (va_up (va_up (va_up gB (5 * es) x0) ((5 * es) + 1) x1) (5 * es + 2) p0) (5 * es + 3) p1) (5 * es + 4) p2) i)))), ((a 4), .inl (cI, 6, .inl (fun i => vI (gG i))))] := hD
  refine lv_aload_n hx hb dX7_begin_197 rfl (lv_at hl 3 rfl) ?_
  refine va_get (D := D) (ci := 7) (v := .ref (a 4)) (C := RX7) (T := TX7) (N := 20) hx hb hts iX7 hown hK.1 hP 0 rfl rfl 6 (by decide) f22 (fun _ h9 => h9) rfl dX7_begin_198 ?_
  refine lv_iload hx hb dX7_begin_201 (lv_at hl 1 rfl) ?_
  refine n_sipush hx hb dX7_begin_203 (by decide) ?_
  refine n_ziast (i := es) (x := 10006) hx hb hK hP hD hS 4 0 rfl htI rfl (by omega) (Nat.le_of_ble_eq_true rfl) dX7_begin_206 (fun H locs hP hD hS => ?_)
  have hP : va_P D vwCl [(m0, oR (jI ((ms : Nat) : Int)) (jI ((es : Nat) : Int)) (jI 0) a), ((a 0), .inl (cI, 42, .inl (fun i => vI (gE i)))), ((a 1), .inl (cI, 42, .inl (fun i => vI ((va_up (va_up (va_up (va_up (va_up (va_up (va_up gM (7 * es + 0) (gE (7 * mo + 0))) (7 * es + 1) (gE (7 * mo + 1))) (7 * es + 2) (gE (7 * mo + 2))) (7 * es + 3) (gE (7 * mo + 3))) (7 * es + 4) (gE (7 * mo + 4))) (7 * es + 5) (gE (7 * mo + 5))) (7 * es + 6) (gE (7 * mo + 6))) i)))), ((a 2), .inl (cI, 30, .inl (fun i => vI ((va_up (va_up (va_up (va_up (va_up gB (5 * es) x0) ((5 * es) + 1) x1) (5 * es + 2) p0) (5 * es + 3) p1) (5 * es + 4) p2) i)))), ((a 4), .inl (cI, 6, .inl (fun i => vI ((va_up gG es 10006) i))))] H := hP
  have hD : va_D A [(m0, oR (jI ((ms : Nat) : Int)) (jI ((es : Nat) : Int)) (jI 0) a), ((a 0), .inl (cI, 42, .inl (fun i => vI (gE i)))), ((a 1), .inl (cI, 42, .inl (fun i => vI ((va_up (va_up (va_up (va_up (va_up (va_up (va_up gM (7 * es + 0) (gE (7 * mo + 0))) (7 * es + 1) (gE (7 * mo + 1))) (7 * es + 2) (gE (7 * mo + 2))) (7 * es + 3) (gE (7 * mo + 3))) (7 * es + 4) (gE (7 * mo + 4))) (7 * es + 5) (gE (7 * mo + 5))) (7 * es + 6) (gE (7 * mo + 6))) i)))), ((a 2), .inl (cI, 30, .inl (fun i => vI ((va_up (va_up (va_up (va_up (va_up gB (5 * es) x0) ((5 * es) + 1) x1) (5 * es + 2) p0) (5 * es + 3) p1) (5 * es + 4) p2) i)))), ((a 4), .inl (cI, 6, .inl (fun i => vI ((va_up gG es 10006) i))))] := hD
  refine lv_aload_n hx hb dX7_begin_207 rfl (lv_at hl 3 rfl) ?_
  refine lv_dup hx hb dX7_begin_208 rfl ?_
  refine va_get (D := D) (ci := 7) (v := .int (jI ((es : Nat) : Int))) (C := RX7) (T := TX7) (N := 20) hx hb hts iX7 hown hK.1 hP 0 rfl rfl 2 (by decide) f74 (fun _ h9 => h9) rfl dX7_begin_209 ?_
  refine n_iconst hx hb dX7_begin_212 ?_
  refine n_iadd hx hb dX7_begin_213 ?_
  refine va_put (D := D) (ci := 7) (v := .int (jI (((es : Nat) : Int) + 1))) (ty := .int) (C := RX7) (T := TX7) (N := 20) hx hb hts iX7 tyX7 tyX7_ok nmX7 hown hK.1 hP hD hS 0 rfl rfl 2 (by decide) f74 (fun _ h9 => h9) rfl (by decide +kernel) rfl rfl (Nat.le_of_ble_eq_true rfl) dX7_begin_214 (fun H locs hP hD hS => ?_)
  have hP : va_P D vwCl [(m0, oR (jI ((ms : Nat) : Int)) (jI (((es : Nat) : Int) + 1)) (jI 0) a), ((a 0), .inl (cI, 42, .inl (fun i => vI (gE i)))), ((a 1), .inl (cI, 42, .inl (fun i => vI ((va_up (va_up (va_up (va_up (va_up (va_up (va_up gM (7 * es + 0) (gE (7 * mo + 0))) (7 * es + 1) (gE (7 * mo + 1))) (7 * es + 2) (gE (7 * mo + 2))) (7 * es + 3) (gE (7 * mo + 3))) (7 * es + 4) (gE (7 * mo + 4))) (7 * es + 5) (gE (7 * mo + 5))) (7 * es + 6) (gE (7 * mo + 6))) i)))), ((a 2), .inl (cI, 30, .inl (fun i => vI ((va_up (va_up (va_up (va_up (va_up gB (5 * es) x0) ((5 * es) + 1) x1) (5 * es + 2) p0) (5 * es + 3) p1) (5 * es + 4) p2) i)))), ((a 4), .inl (cI, 6, .inl (fun i => vI ((va_up gG es 10006) i))))] H := hP
  have hD : va_D A [(m0, oR (jI ((ms : Nat) : Int)) (jI (((es : Nat) : Int) + 1)) (jI 0) a), ((a 0), .inl (cI, 42, .inl (fun i => vI (gE i)))), ((a 1), .inl (cI, 42, .inl (fun i => vI ((va_up (va_up (va_up (va_up (va_up (va_up (va_up gM (7 * es + 0) (gE (7 * mo + 0))) (7 * es + 1) (gE (7 * mo + 1))) (7 * es + 2) (gE (7 * mo + 2))) (7 * es + 3) (gE (7 * mo + 3))) (7 * es + 4) (gE (7 * mo + 4))) (7 * es + 5) (gE (7 * mo + 5))) (7 * es + 6) (gE (7 * mo + 6))) i)))), ((a 2), .inl (cI, 30, .inl (fun i => vI ((va_up (va_up (va_up (va_up (va_up gB (5 * es) x0) ((5 * es) + 1) x1) (5 * es + 2) p0) (5 * es + 3) p1) (5 * es + 4) p2) i)))), ((a 4), .inl (cI, 6, .inl (fun i => vI ((va_up gG es 10006) i))))] := hD
  refine lv_iload hx hb dX7_begin_217 (lv_at hl 1 rfl) ?_
  exact k_iret hx hb hr hlocks dX7_begin_219 hP hS rfl
