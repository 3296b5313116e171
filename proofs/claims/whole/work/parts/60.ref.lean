/-! the reference: small ones -/
set_option maxHeartbeats 4000000 in
set_option maxRecDepth 100000 in
/--  -/
theorem c_X7_failsT (l : Launch) (D : va_G) (tys : List (ClassId × FieldType)) (m0 : Nat) (a : Nat → Nat) (ms es : Nat) (th : Int32) (k : Int) (q : r32 k) (h9 : 0 < k) : CtI l D tys yX7_fails wsX7_fails 0 0 [.ref m0, .int (jI k)] (jI (iB true)) [(m0, oR (jI ((ms : Nat) : Int)) (jI ((es : Nat) : Int)) th a)] [(m0, oR (jI ((ms : Nat) : Int)) (jI ((es : Nat) : Int)) (jI k) a)] := by
  refine CtI.of (cc := cX7_fails) (maxL := 2) (by decide +kernel) rfl rfl (Nat.le_of_ble_eq_true rfl) ?_
  intro p e s m below meth c A ls hcx hK hP hD hA hl
  obtain ⟨hx, hb, hr, hml, hown, hts, hlocks⟩ := hcx
  have hS : va_S A s.heap s.heap [] := va_S.rf
  have hown : s.vm.findClass RX7 = some m.cls := hown
  have hl : lv_has ls 2 [(0, .ref m0), (1, .int (jI k))] := hl
  have f63 := hts (.fieldLink RX7 63 "FieldFilterModel" "thrown" "I") (by decide +kernel)
  have iX7 : ∀ w ∈ u_ws RX7 TX7 20, w ∈ wsX7_fails := by decide +kernel
  refine lv_aload_n hx hb dX7_fails_0 rfl (lv_at hl 0 rfl) ?_
  refine lv_iload_n hx hb dX7_fails_1 rfl (lv_at hl 1 rfl) ?_
  refine va_put (D := D) (ci := 7) (v := .int (jI k)) (ty := .int) (C := RX7) (T := TX7) (N := 20) hx hb hts iX7 tyX7 tyX7_ok nmX7 hown hK.1 hP hD hS 0 rfl rfl 19 (by decide) f63 (fun _ h9 => h9) rfl (by decide +kernel) rfl rfl (Nat.le_of_ble_eq_true rfl) dX7_fails_2 (fun H locs hP hD hS => ?_)
  have hP : va_P D vwCl [(m0, oR (jI ((ms : Nat) : Int)) (jI ((es : Nat) : Int)) (jI k) a)] H := hP
  have hD : va_D A [(m0, oR (jI ((ms : Nat) : Int)) (jI ((es : Nat) : Int)) (jI k) a)] := hD
  refine lv_iload_n hx hb dX7_fails_5 rfl (lv_at hl 1 rfl) ?_
  refine n_if_le (tgt := 13) hx hb q dX7_fails_6 (by decide) (fun h6 => False.elim (by omega)) (fun h6 => ?_)
  refine n_iconst hx hb dX7_fails_9 ?_
  refine lv_goto (tgt := 14) hx hb dX7_fails_10 (by decide) ?_
  exact k_zret (b := true) hx hb hr hlocks dX7_fails_14 hP hS rfl rfl

set_option maxHeartbeats 4000000 in
set_option maxRecDepth 100000 in
/--  -/
theorem c_X7_failsF (l : Launch) (D : va_G) (tys : List (ClassId × FieldType)) (m0 : Nat) (a : Nat → Nat) (ms es : Nat) (th : Int32)  : CtI l D tys yX7_fails wsX7_fails 0 0 [.ref m0, .int (jI 0)] (jI (iB false)) [(m0, oR (jI ((ms : Nat) : Int)) (jI ((es : Nat) : Int)) th a)] [(m0, oR (jI ((ms : Nat) : Int)) (jI ((es : Nat) : Int)) (jI 0) a)] := by
  refine CtI.of (cc := cX7_fails) (maxL := 2) (by decide +kernel) rfl rfl (Nat.le_of_ble_eq_true rfl) ?_
  intro p e s m below meth c A ls hcx hK hP hD hA hl
  obtain ⟨hx, hb, hr, hml, hown, hts, hlocks⟩ := hcx
  have hS : va_S A s.heap s.heap [] := va_S.rf
  have hown : s.vm.findClass RX7 = some m.cls := hown
  have hl : lv_has ls 2 [(0, .ref m0), (1, .int (jI 0))] := hl
  have f63 := hts (.fieldLink RX7 63 "FieldFilterModel" "thrown" "I") (by decide +kernel)
  have iX7 : ∀ w ∈ u_ws RX7 TX7 20, w ∈ wsX7_fails := by decide +kernel
  refine lv_aload_n hx hb dX7_fails_0 rfl (lv_at hl 0 rfl) ?_
  refine lv_iload_n hx hb dX7_fails_1 rfl (lv_at hl 1 rfl) ?_
  refine va_put (D := D) (ci := 7) (v := .int (jI 0)) (ty := .int) (C := RX7) (T := TX7) (N := 20) hx hb hts iX7 tyX7 tyX7_ok nmX7 hown hK.1 hP hD hS 0 rfl rfl 19 (by decide) f63 (fun _ h9 => h9) rfl (by decide +kernel) rfl rfl (Nat.le_of_ble_eq_true rfl) dX7_fails_2 (fun H locs hP hD hS => ?_)
  have hP : va_P D vwCl [(m0, oR (jI ((ms : Nat) : Int)) (jI ((es : Nat) : Int)) (jI 0) a)] H := hP
  have hD : va_D A [(m0, oR (jI ((ms : Nat) : Int)) (jI ((es : Nat) : Int)) (jI 0) a)] := hD
  refine lv_iload_n hx hb dX7_fails_5 rfl (lv_at hl 1 rfl) ?_
  refine n_if_le (tgt := 13) hx hb (by unfold r32; decide) dX7_fails_6 (by decide) (fun h6 => ?_) (fun h6 => False.elim (by revert h6; decide))
  refine n_iconst hx hb dX7_fails_13 ?_
  exact k_zret (b := false) hx hb hr hlocks dX7_fails_14 hP hS rfl rfl

set_option maxHeartbeats 4000000 in
set_option maxRecDepth 100000 in
/--  -/
theorem c_X7_isIn (l : Launch) (D : va_G) (tys : List (ClassId × FieldType)) (v lo hi : Int) (q0 : r32 v) (q1 : r32 lo) (q2 : r32 hi) : CtI l D tys yX7_isIn wsX7_isIn 0 0 [.int (jI v), .int (jI lo), .int (jI hi)] (jI (iB (inB lo hi v))) [] [] := by
  refine CtI.of (cc := cX7_isIn) (maxL := 3) (by decide +kernel) rfl rfl (Nat.le_of_ble_eq_true rfl) ?_
  intro p e s m below meth c A ls hcx hK hP hD hA hl
  obtain ⟨hx, hb, hr, hml, hown, hts, hlocks⟩ := hcx
  have hS : va_S A s.heap s.heap [] := va_S.rf
  have hown : s.vm.findClass RX7 = some m.cls := hown
  have hl : lv_has ls 3 [(0, .int (jI v)), (1, .int (jI lo)), (2, .int (jI hi))] := hl
  refine lv_iload_n hx hb dX7_isIn_0 rfl (lv_at hl 0 rfl) ?_
  refine lv_iload_n hx hb dX7_isIn_1 rfl (lv_at hl 1 rfl) ?_
  refine n_icmp_lt (tgt := 14) hx hb q0 q1 dX7_isIn_2 (by decide) (fun h2 => ?_) (fun h2 => ?_)
  · refine n_iconst hx hb dX7_isIn_14 ?_
    exact k_zret (b := false) hx hb hr hlocks dX7_isIn_15 hP hS rfl (congrArg (fun z => jI (iB z)) (inB_f (by omega)).symm)
  · refine lv_iload_n hx hb dX7_isIn_5 rfl (lv_at hl 0 rfl) ?_
    refine lv_iload_n hx hb dX7_isIn_6 rfl (lv_at hl 2 rfl) ?_
    refine n_icmp_gt (tgt := 14) hx hb q0 q2 dX7_isIn_7 (by decide) (fun h7 => ?_) (fun h7 => ?_)
    · refine n_iconst hx hb dX7_isIn_14 ?_
      exact k_zret (b := false) hx hb hr hlocks dX7_isIn_15 hP hS rfl (congrArg (fun z => jI (iB z)) (inB_f (by omega)).symm)
    · refine n_iconst hx hb dX7_isIn_10 ?_
      refine lv_goto (tgt := 15) hx hb dX7_isIn_11 (by decide) ?_
      exact k_zret (b := true) hx hb hr hlocks dX7_isIn_15 hP hS rfl (congrArg (fun z => jI (iB z)) (inB_t (by omega) (by omega)).symm)

set_option maxHeartbeats 4000000 in
set_option maxRecDepth 100000 in
/--  -/
theorem c_X7_isField (l : Launch) (D : va_G) (tys : List (ClassId × FieldType)) (v : Int) (q0 : r32 v) : CtI l D tys yX7_isField wsX7_isField 1 22 [.int (jI v)] (jI (iB (inB 0 10006 v))) [] [] := by
  refine CtI.of (cc := cX7_isField) (maxL := 1) (by decide +kernel) rfl rfl (Nat.le_of_ble_eq_true rfl) ?_
  intro p e s m below meth c A ls hcx hK hP hD hA hl
  obtain ⟨hx, hb, hr, hml, hown, hts, hlocks⟩ := hcx
  have hS : va_S A s.heap s.heap [] := va_S.rf
  have hown : s.vm.findClass RX7 = some m.cls := hown
  have hl : lv_has ls 1 [(0, .int (jI v))] := hl
  refine lv_iload_n hx hb dX7_isField_0 rfl (lv_at hl 0 rfl) ?_
  refine n_iconst hx hb dX7_isField_1 ?_
  refine n_sipush hx hb dX7_isField_2 (by decide) ?_
  have ct5 := c_X7_isIn l D tys v 0 10006 (by first | assumption | exact r32_z _ | (unfold r32; omega)) (by first | assumption | exact r32_z _ | (unfold r32; omega)) (by first | assumption | exact r32_z _ | (unfold r32; omega))
  refine k_goI (va_runS (As := [.int (jI v), .int (jI 0), .int (jI 10006)]) (rest := []) ⟨hx, hb, hml, hown, hts⟩ (ct5.2 _) (va_cwS 3 hts gX7_isField_X7_isIn rfl rfl rfl (by decide +kernel) ⟨Nat.le_of_ble_eq_true rfl, Nat.le_of_ble_eq_true rfl⟩) (k_pre hK hP hD (is := []) rfl rfl) rfl rfl hl.1 rfl (lv_room (Nat.le_of_ble_eq_true rfl)) dX7_isField_5 ⟨Nat.le_of_ble_eq_true rfl, Nat.le_of_ble_eq_true rfl⟩) ct5.1 hP hD hS hA [] rfl rfl (fun H locs hP hD hS => ?_)
  have hP : va_P D vwCl [] H := hP
  have hD : va_D A [] := hD
  exact k_zret hx hb hr hlocks dX7_isField_8 hP hS rfl rfl

set_option maxHeartbeats 4000000 in
set_option maxRecDepth 100000 in
/--  -/
theorem c_X7_isModel (l : Launch) (D : va_G) (tys : List (ClassId × FieldType)) (m0 : Nat) (a : Nat → Nat) (ms es : Nat) (th : Int32) (v : Int) (q0 : r32 v) (q1 : ms ≤ 6) (q2 : es ≤ 6) : CtI l D tys yX7_isModel wsX7_isModel 1 22 [.ref m0, .int (jI v)] (jI (iB (inB 0 ((ms : Int) - 1) v))) [(m0, oR (jI ((ms : Nat) : Int)) (jI ((es : Nat) : Int)) th a)] [(m0, oR (jI ((ms : Nat) : Int)) (jI ((es : Nat) : Int)) th a)] := by
  refine CtI.of (cc := cX7_isModel) (maxL := 2) (by decide +kernel) rfl rfl (Nat.le_of_ble_eq_true rfl) ?_
  intro p e s m below meth c A ls hcx hK hP hD hA hl
  obtain ⟨hx, hb, hr, hml, hown, hts, hlocks⟩ := hcx
  have hS : va_S A s.heap s.heap [] := va_S.rf
  have hown : s.vm.findClass RX7 = some m.cls := hown
  have hl : lv_has ls 2 [(0, .ref m0), (1, .int (jI v))] := hl
  have f71 := hts (.fieldLink RX7 71 "FieldFilterModel" "models" "I") (by decide +kernel)
  have iX7 : ∀ w ∈ u_ws RX7 TX7 20, w ∈ wsX7_isModel := by decide +kernel
  refine lv_iload_n hx hb dX7_isModel_0 rfl (lv_at hl 1 rfl) ?_
  refine n_iconst hx hb dX7_isModel_1 ?_
  refine lv_aload_n hx hb dX7_isModel_2 rfl (lv_at hl 0 rfl) ?_
  refine va_get (D := D) (ci := 7) (v := .int (jI ((ms : Nat) : Int))) (C := RX7) (T := TX7) (N := 20) hx hb hts iX7 hown hK.1 hP 0 rfl rfl 0 (by decide) f71 (fun _ h9 => h9) rfl dX7_isModel_3 ?_
  refine n_iconst hx hb dX7_isModel_6 ?_
  refine n_isub hx hb dX7_isModel_7 ?_
  have ct8 := c_X7_isIn l D tys v 0 (((ms : Nat) : Int) - 1) (by first | assumption | exact r32_z _ | (unfold r32; omega)) (by first | assumption | exact r32_z _ | (unfold r32; omega)) (by first | assumption | exact r32_z _ | (unfold r32; omega))
  refine k_goI (va_runS (As := [.int (jI v), .int (jI 0), .int (jI (((ms : Nat) : Int) - 1))]) (rest := []) ⟨hx, hb, hml, hown, hts⟩ (ct8.2 _) (va_cwS 3 hts gX7_isModel_X7_isIn rfl rfl rfl (by decide +kernel) ⟨Nat.le_of_ble_eq_true rfl, Nat.le_of_ble_eq_true rfl⟩) (k_pre hK hP hD (is := []) rfl rfl) rfl rfl hl.1 rfl (lv_room (Nat.le_of_ble_eq_true rfl)) dX7_isModel_8 ⟨Nat.le_of_ble_eq_true rfl, Nat.le_of_ble_eq_true rfl⟩) ct8.1 hP hD hS hA [] rfl rfl (fun H locs hP hD hS => ?_)
  have hP : va_P D vwCl [(m0, oR (jI ((ms : Nat) : Int)) (jI ((es : Nat) : Int)) th a)] H := hP
  have hD : va_D A [(m0, oR (jI ((ms : Nat) : Int)) (jI ((es : Nat) : Int)) th a)] := hD
  exact k_zret hx hb hr hlocks dX7_isModel_11 hP hS rfl rfl

set_option maxHeartbeats 4000000 in
set_option maxRecDepth 100000 in
/--  -/
theorem c_X7_isOne (l : Launch) (D : va_G) (tys : List (ClassId × FieldType)) (m0 : Nat) (a : Nat → Nat) (ms es : Nat) (th : Int32) (v : Int) (q0 : r32 v) (q1 : ms ≤ 6) (q2 : es ≤ 6) : CtI l D tys yX7_isOne wsX7_isOne 1 22 [.ref m0, .int (jI v)] (jI (iB (inB 0 ((es : Int) - 1) v))) [(m0, oR (jI ((ms : Nat) : Int)) (jI ((es : Nat) : Int)) th a)] [(m0, oR (jI ((ms : Nat) : Int)) (jI ((es : Nat) : Int)) th a)] := by
  refine CtI.of (cc := cX7_isOne) (maxL := 2) (by decide +kernel) rfl rfl (Nat.le_of_ble_eq_true rfl) ?_
  intro p e s m below meth c A ls hcx hK hP hD hA hl
  obtain ⟨hx, hb, hr, hml, hown, hts, hlocks⟩ := hcx
  have hS : va_S A s.heap s.heap [] := va_S.rf
  have hown : s.vm.findClass RX7 = some m.cls := hown
  have hl : lv_has ls 2 [(0, .ref m0), (1, .int (jI v))] := hl
  have f74 := hts (.fieldLink RX7 74 "FieldFilterModel" "estimators" "I") (by decide +kernel)
  have iX7 : ∀ w ∈ u_ws RX7 TX7 20, w ∈ wsX7_isOne := by decide +kernel
  refine lv_iload_n hx hb dX7_isOne_0 rfl (lv_at hl 1 rfl) ?_
  refine n_iconst hx hb dX7_isOne_1 ?_
  refine lv_aload_n hx hb dX7_isOne_2 rfl (lv_at hl 0 rfl) ?_
  refine va_get (D := D) (ci := 7) (v := .int (jI ((es : Nat) : Int))) (C := RX7) (T := TX7) (N := 20) hx hb hts iX7 hown hK.1 hP 0 rfl rfl 2 (by decide) f74 (fun _ h9 => h9) rfl dX7_isOne_3 ?_
  refine n_iconst hx hb dX7_isOne_6 ?_
  refine n_isub hx hb dX7_isOne_7 ?_
  have ct8 := c_X7_isIn l D tys v 0 (((es : Nat) : Int) - 1) (by first | assumption | exact r32_z _ | (unfold r32; omega)) (by first | assumption | exact r32_z _ | (unfold r32; omega)) (by first | assumption | exact r32_z _ | (unfold r32; omega))
  refine k_goI (va_runS (As := [.int (jI v), .int (jI 0), .int (jI (((es : Nat) : Int) - 1))]) (rest := []) ⟨hx, hb, hml, hown, hts⟩ (ct8.2 _) (va_cwS 3 hts gX7_isOne_X7_isIn rfl rfl rfl (by decide +kernel) ⟨Nat.le_of_ble_eq_true rfl, Nat.le_of_ble_eq_true rfl⟩) (k_pre hK hP hD (is := []) rfl rfl) rfl rfl hl.1 rfl (lv_room (Nat.le_of_ble_eq_true rfl)) dX7_isOne_8 ⟨Nat.le_of_ble_eq_true rfl, Nat.le_of_ble_eq_true rfl⟩) ct8.1 hP hD hS hA [] rfl rfl (fun H locs hP hD hS => ?_)
  have hP : va_P D vwCl [(m0, oR (jI ((ms : Nat) : Int)) (jI ((es : Nat) : Int)) th a)] H := hP
  have hD : va_D A [(m0, oR (jI ((ms : Nat) : Int)) (jI ((es : Nat) : Int)) th a)] := hD
  exact k_zret hx hb hr hlocks dX7_isOne_11 hP hS rfl rfl

set_option maxHeartbeats 4000000 in
set_option maxRecDepth 100000 in
/--  -/
theorem c_X7_by (l : Launch) (D : va_G) (tys : List (ClassId × FieldType)) (x : Int) (z : Zp) (M : Nat) (h : Ra x z M) (hM : M < 9223372036854775808) : CtL l D tys yX7_by wsX7_by 0 0 [.long (jL x)] (vL z) [] [] := by
  refine CtL.of (cc := cX7_by) (maxL := 4) (by decide +kernel) rfl rfl (Nat.le_of_ble_eq_true rfl) ?_
  intro p e s m below meth c A ls hcx hK hP hD hA hl
  obtain ⟨hx, hb, hr, hml, hown, hts, hlocks⟩ := hcx
  have hS : va_S A s.heap s.heap [] := va_S.rf
  have hown : s.vm.findClass RX7 = some m.cls := hown
  have hl : lv_has ls 4 [(0, .long (jL x))] := hl
  obtain ⟨g1, g2, hz0⟩ := h
  have hz : zv z = x % 10007 := by rw [← hz0, zv_zc]
  have zx : vL z = jL (zv z) := rfl
  have tm := Int.mul_tdiv_add_tmod x 10007
  have t1 : x.tmod 10007 < 10007 := Int.tmod_lt_of_pos x (by omega)
  have t2 : -10007 < x.tmod 10007 := by
    have q := Int.tmod_lt_of_pos (-x) (b := 10007) (by omega)
    rw [Int.neg_tmod] at q
    omega
  have k77 : (Cond.constantLong RX7 77 (jL 10007)).before _ s = true := hts (.constantLong RX7 77 (10007)) (by decide +kernel)
  refine lv_lload_n hx hb dX7_by_0 rfl (lv_at hl 0 rfl) ?_
  refine lv_ldc2 (v := jL 10007) hx hb hown k77 dX7_by_1 ?_
  refine n_lremK hx hb dX7_by_4 (by omega) (by omega) ?_
  refine lv_lstore_n (lv' := [(2, .long (jL (x.tmod 10007))), (0, .long (jL x))]) hx hb dX7_by_5 rfl hl (by decide) rfl (fun ls hl => ?_)
  refine lv_lload_n hx hb dX7_by_6 rfl (lv_at hl 0 rfl) ?_
  refine lv_lconst (v := jL 0) hx hb dX7_by_7 rfl ?_
  refine W.lcmp hx hb dX7_by_8 ?_
  by_cases q0 : 0 ≤ x.tmod 10007
  · refine lv_if_ge (tgt := 20) hx hb dX7_by_9 (by decide) (fun h9 => ?_) (fun h9 => absurd ((lg_cmp_ge _ _).mpr (by rw [Int64.le_iff_toInt_le, jL_to (by omega) (by omega), jL_to (by omega) (by omega)]; exact q0)) h9)
    refine lv_lload_n hx hb dX7_by_20 rfl (lv_at hl 0 rfl) ?_
    exact k_lret hx hb hr hlocks dX7_by_21 hP hS (by rw [zx, hz]; congr 1; omega)
  · refine lv_if_ge (tgt := 20) hx hb dX7_by_9 (by decide) (fun h9 => absurd (by have h8 := (lg_cmp_ge _ _).mp h9; rw [Int64.le_iff_toInt_le, jL_to (by omega) (by omega), jL_to (by omega) (by omega)] at h8; exact h8) q0) (fun h9 => ?_)
    refine lv_lload_n hx hb dX7_by_12 rfl (lv_at hl 0 rfl) ?_
    refine lv_ldc2 (v := jL 10007) hx hb hown k77 dX7_by_13 ?_
    refine n_ladd hx hb dX7_by_16 ?_
    refine lv_goto (tgt := 21) hx hb dX7_by_17 (by decide) ?_
    exact k_lret hx hb hr hlocks dX7_by_21 hP hS (by rw [zx, hz]; congr 1; omega)

set_option maxHeartbeats 4000000 in
set_option maxRecDepth 100000 in
/--  -/
theorem c_X7_inverse (l : Launch) (D : va_G) (tys : List (ClassId × FieldType)) (z : Zp) : CtL l D tys yX7_inverse wsX7_inverse 1 23 [.long (vL z)] (vL (zinv z)) [] [] := by
  refine CtL.of (cc := cX7_inverse) (maxL := 7) (by decide +kernel) rfl rfl (Nat.le_of_ble_eq_true rfl) ?_
  intro p e s m below meth c A ls hcx hK hP hD hA hl
  obtain ⟨hx, hb, hr, hml, hown, hts, hlocks⟩ := hcx
  have hS : va_S A s.heap s.heap [] := va_S.rf
  have hown : s.vm.findClass RX7 = some m.cls := hown
  have hl : lv_has ls 7 [(0, .long (vL z))] := hl
  have k77 : (Cond.constantLong RX7 77 (jL 10007)).before _ s = true := hts (.constantLong RX7 77 (10007)) (by decide +kernel)
  have loop : ∀ (f n : Nat) (r q : Zp) (ls : Array Slot) (H : Heap) (locs : List Loc), va_P D vwCl [] H → va_D A [] → va_S A s.heap H locs → n < 2 ^ f → n < 2147483648 → vL (pwf f n r q) = vL (zinv z) → lv_has ls 7 [(6, .int (jI (n : Int))), (4, .long (vL q)), (2, .long (vL r))] → W p l e { frames := 1, cells := 0, slots := 0, locals := 23 } s m ([Value.long (vL z)] : List Value).toArray below meth c H locs 0 0 (MQ below (EL D A (vL (zinv z)) []) ([Value.long (vL z)] : List Value).toArray s 0 0 A) (F0 m 13 ls []) := by
    intro f
    induction f with
    | zero =>
      intro n r q ls H locs hP hD hS h1 h2 hv hl
      have h1 : n < 1 := h1
      refine lv_iload hx hb dX7_inverse_13 (lv_at hl 0 rfl) ?_
      refine n_if_le (tgt := 59) hx hb (by unfold r32; omega) dX7_inverse_15 (by decide) (fun h15 => ?_) (fun h15 => False.elim (h15 (by omega)))
      refine lv_lload_n hx hb dX7_inverse_59 rfl (lv_at hl 2 rfl) ?_
      exact k_lret hx hb hr hlocks dX7_inverse_60 hP hS hv
    | succ f ih =>
      intro n r q ls H locs hP hD hS h1 h2 hv hl
      have ih := fun n r q ls => ih n r q ls H locs hP hD hS
      have h1 : n < 2 ^ f * 2 := by rw [← Nat.pow_succ]; exact h1
      have tm : (n : Int).tmod 2 = (n : Int) % 2 := Int.tmod_eq_emod_of_nonneg (by omega)
      by_cases h0 : n = 0
      · refine lv_iload hx hb dX7_inverse_13 (lv_at hl 0 rfl) ?_
        refine n_if_le (tgt := 59) hx hb (by unfold r32; omega) dX7_inverse_15 (by decide) (fun h15 => ?_) (fun h15 => False.elim (h15 (by omega)))
        refine lv_lload_n hx hb dX7_inverse_59 rfl (lv_at hl 2 rfl) ?_
        exact k_lret hx hb hr hlocks dX7_inverse_60 hP hS (by rw [← hv]; show vL r = vL (if n = 0 then r else _); rw [if_pos h0])
      · by_cases ho : n % 2 = 1
        · refine lv_iload hx hb dX7_inverse_13 (lv_at hl 0 rfl) ?_
          refine n_if_le (tgt := 59) hx hb (by unfold r32; omega) dX7_inverse_15 (by decide) (fun h15 => False.elim (h0 (by omega))) (fun h15 => ?_)
          refine lv_iload hx hb dX7_inverse_18 (lv_at hl 0 rfl) ?_
          refine n_iconst hx hb dX7_inverse_20 ?_
          refine n_iremK hx hb dX7_inverse_21 (by omega) (by omega) (by omega) (by omega) ?_
          refine n_iconst hx hb dX7_inverse_22 ?_
          refine n_icmp_ne (tgt := 37) hx hb (by unfold r32; omega) (by unfold r32; omega) dX7_inverse_23 (by decide) (fun h23 => False.elim (h23 (by omega))) (fun h23 => ?_)
          refine lv_lload_n hx hb dX7_inverse_26 rfl (lv_at hl 2 rfl) ?_
          refine lv_lload hx hb dX7_inverse_27 (lv_at hl 1 rfl) ?_
          refine n_lmul hx hb dX7_inverse_29 ?_
          refine lv_ldc2 (v := jL 10007) hx hb hown k77 dX7_inverse_30 ?_
          refine n_lrem hx hb dX7_inverse_33 (rp_mul (rp_v r) (rp_v q)) (Nat.le_of_ble_eq_true rfl) ?_
          refine lv_goto (tgt := 38) hx hb dX7_inverse_34 (by decide) ?_
          refine lv_lstore_n (lv' := [(2, .long (vL (r * q))), (6, .int (jI (n : Int))), (4, .long (vL q))]) hx hb dX7_inverse_38 rfl hl (by decide) rfl (fun ls hl => ?_)
          refine lv_lload hx hb dX7_inverse_39 (lv_at hl 2 rfl) ?_
          refine lv_lload hx hb dX7_inverse_41 (lv_at hl 2 rfl) ?_
          refine n_lmul hx hb dX7_inverse_43 ?_
          refine lv_ldc2 (v := jL 10007) hx hb hown k77 dX7_inverse_44 ?_
          refine n_lrem hx hb dX7_inverse_47 (rp_mul (rp_v q) (rp_v q)) (Nat.le_of_ble_eq_true rfl) ?_
          refine lv_lstore (lv' := [(4, .long (vL (q * q))), (2, .long (vL (r * q))), (6, .int (jI (n : Int)))]) hx hb dX7_inverse_48 hl (by decide) rfl (fun ls hl => ?_)
          refine lv_iload hx hb dX7_inverse_50 (lv_at hl 2 rfl) ?_
          refine n_iconst hx hb dX7_inverse_52 ?_
          refine n_idiv hx hb dX7_inverse_53 (by omega) (by omega) (by omega) (by omega) ?_
          refine lv_istore (lv' := [(6, .int (jI ((n : Int) / 2))), (4, .long (vL (q * q))), (2, .long (vL (r * q)))]) hx hb dX7_inverse_54 hl (by decide) rfl (fun ls hl => ?_)
          refine lv_goto (tgt := 13) hx hb dX7_inverse_56 (by decide) ?_
          refine ih (n / 2) (r * q) (q * q) ls (by omega) (by omega) ?_ (lv_sub hl [0, 1, 2] rfl)
          rw [← hv]
          show vL (pwf f (n / 2) (r * q) (q * q)) = vL (if n = 0 then r else pwf f (n / 2) (if n % 2 = 1 then r * q else r) (q * q))
          rw [if_neg h0, if_pos ho]
        · refine lv_iload hx hb dX7_inverse_13 (lv_at hl 0 rfl) ?_
          refine n_if_le (tgt := 59) hx hb (by unfold r32; omega) dX7_inverse_15 (by decide) (fun h15 => False.elim (h0 (by omega))) (fun h15 => ?_)
          refine lv_iload hx hb dX7_inverse_18 (lv_at hl 0 rfl) ?_
          refine n_iconst hx hb dX7_inverse_20 ?_
          refine n_iremK hx hb dX7_inverse_21 (by omega) (by omega) (by omega) (by omega) ?_
          refine n_iconst hx hb dX7_inverse_22 ?_
          refine n_icmp_ne (tgt := 37) hx hb (by unfold r32; omega) (by unfold r32; omega) dX7_inverse_23 (by decide) (fun h23 => ?_) (fun h23 => False.elim (ho (by omega)))
          refine lv_lload_n hx hb dX7_inverse_37 rfl (lv_at hl 2 rfl) ?_
          refine lv_lstore_n (lv' := [(2, .long (vL r)), (6, .int (jI (n : Int))), (4, .long (vL q))]) hx hb dX7_inverse_38 rfl hl (by decide) rfl (fun ls hl => ?_)
          refine lv_lload hx hb dX7_inverse_39 (lv_at hl 2 rfl) ?_
          refine lv_lload hx hb dX7_inverse_41 (lv_at hl 2 rfl) ?_
          refine n_lmul hx hb dX7_inverse_43 ?_
          refine lv_ldc2 (v := jL 10007) hx hb hown k77 dX7_inverse_44 ?_
          refine n_lrem hx hb dX7_inverse_47 (rp_mul (rp_v q) (rp_v q)) (Nat.le_of_ble_eq_true rfl) ?_
          refine lv_lstore (lv' := [(4, .long (vL (q * q))), (2, .long (vL r)), (6, .int (jI (n : Int)))]) hx hb dX7_inverse_48 hl (by decide) rfl (fun ls hl => ?_)
          refine lv_iload hx hb dX7_inverse_50 (lv_at hl 2 rfl) ?_
          refine n_iconst hx hb dX7_inverse_52 ?_
          refine n_idiv hx hb dX7_inverse_53 (by omega) (by omega) (by omega) (by omega) ?_
          refine lv_istore (lv' := [(6, .int (jI ((n : Int) / 2))), (4, .long (vL (q * q))), (2, .long (vL r))]) hx hb dX7_inverse_54 hl (by decide) rfl (fun ls hl => ?_)
          refine lv_goto (tgt := 13) hx hb dX7_inverse_56 (by decide) ?_
          refine ih (n / 2) r (q * q) ls (by omega) (by omega) ?_ (lv_sub hl [0, 1, 2] rfl)
          rw [← hv]
          show vL (pwf f (n / 2) r (q * q)) = vL (if n = 0 then r else pwf f (n / 2) (if n % 2 = 1 then r * q else r) (q * q))
          rw [if_neg h0, if_neg ho]
  refine lv_lconst (v := jL 1) hx hb dX7_inverse_0 rfl ?_
  refine lv_lstore_n (lv' := [(2, .long (jL 1)), (0, .long (vL z))]) hx hb dX7_inverse_1 rfl hl (by decide) rfl (fun ls hl => ?_)
  refine lv_lload_n hx hb dX7_inverse_2 rfl (lv_at hl 1 rfl) ?_
  have ct3 := c_X7_by l D tys (zv z) _ _ (rp_a (rp_v z)) (Nat.le_of_ble_eq_true rfl)
  refine k_goL (va_runS (As := [.long (vL z)]) (rest := []) ⟨hx, hb, hml, hown, hts⟩ (ct3.2 _) (va_cwS 1 hts gX7_inverse_X7_by rfl rfl rfl (by decide +kernel) ⟨Nat.le_of_ble_eq_true rfl, Nat.le_of_ble_eq_true rfl⟩) (k_pre hK hP hD (is := []) rfl rfl) rfl rfl hl.1 rfl (lv_room (Nat.le_of_ble_eq_true rfl)) dX7_inverse_3 ⟨Nat.le_of_ble_eq_true rfl, Nat.le_of_ble_eq_true rfl⟩) ct3.1 hP hD hS hA [] rfl rfl (fun H locs hP hD hS => ?_)
  have hP : va_P D vwCl [] H := hP
  have hD : va_D A [] := hD
  refine lv_lstore (lv' := [(4, .long (vL z)), (2, .long (jL 1)), (0, .long (vL z))]) hx hb dX7_inverse_6 hl (by decide) rfl (fun ls hl => ?_)
  refine n_sipush hx hb dX7_inverse_8 (by decide) ?_
  refine lv_istore (lv' := [(6, .int (jI 10005)), (4, .long (vL z)), (2, .long (jL 1)), (0, .long (vL z))]) hx hb dX7_inverse_11 hl (by decide) rfl (fun ls hl => ?_)
  exact loop 14 10005 1 z ls H locs hP hD hS (by decide) (by decide) rfl (lv_sub hl [0, 1, 2] rfl)

set_option maxHeartbeats 4000000 in
set_option maxRecDepth 100000 in
/--  -/
theorem c_X7_thrown (l : Launch) (D : va_G) (tys : List (ClassId × FieldType)) (m0 : Nat) (a : Nat → Nat) (ms es : Nat) (th : Int32)  : CtI l D tys yX7_thrown wsX7_thrown 0 0 [.ref m0] th [(m0, oR (jI ((ms : Nat) : Int)) (jI ((es : Nat) : Int)) th a)] [(m0, oR (jI ((ms : Nat) : Int)) (jI ((es : Nat) : Int)) th a)] := by
  refine CtI.of (cc := cX7_thrown) (maxL := 1) (by decide +kernel) rfl rfl (Nat.le_of_ble_eq_true rfl) ?_
  intro p e s m below meth c A ls hcx hK hP hD hA hl
  obtain ⟨hx, hb, hr, hml, hown, hts, hlocks⟩ := hcx
  have hS : va_S A s.heap s.heap [] := va_S.rf
  have hown : s.vm.findClass RX7 = some m.cls := hown
  have hl : lv_has ls 1 [(0, .ref m0)] := hl
  have f63 := hts (.fieldLink RX7 63 "FieldFilterModel" "thrown" "I") (by decide +kernel)
  have iX7 : ∀ w ∈ u_ws RX7 TX7 20, w ∈ wsX7_thrown := by decide +kernel
  refine lv_aload_n hx hb dX7_thrown_0 rfl (lv_at hl 0 rfl) ?_
  refine va_get (D := D) (ci := 7) (v := .int th) (C := RX7) (T := TX7) (N := 20) hx hb hts iX7 hown hK.1 hP 0 rfl rfl 19 (by decide) f63 (fun _ h9 => h9) rfl dX7_thrown_1 ?_
  exact k_iret hx hb hr hlocks dX7_thrown_4 hP hS rfl

set_option maxHeartbeats 4000000 in
set_option maxRecDepth 100000 in
/--  -/
theorem c_X7_modelX (l : Launch) (D : va_G) (tys : List (ClassId × FieldType)) {cI cJ cZ : ClassId} (htI : tys[0]? = some (cI, .int)) (htJ : tys[1]? = some (cJ, .long)) (htZ : tys[2]? = some (cZ, .boolean)) (m0 : Nat) (a : Nat → Nat) (ms es : Nat) (th : Int32) (gE : Nat → Zp) (q1 : ms ≤ 6) (h9 : ms = 6) : CtI l D tys yX7_model wsX7_model 1 21 [.ref m0] (jI 0) [(m0, oR (jI ((ms : Nat) : Int)) (jI ((es : Nat) : Int)) th a), ((a 0), .inl (cI, 42, .inl (fun i => vI (gE i))))] [(m0, oR (jI ((ms : Nat) : Int)) (jI ((es : Nat) : Int)) (jI 1) a), ((a 0), .inl (cI, 42, .inl (fun i => vI (gE i))))] := by
  refine CtI.of (cc := cX7_model) (maxL := 1) (by decide +kernel) rfl rfl (Nat.le_of_ble_eq_true rfl) ?_
  intro p e s m below meth c A ls hcx hK hP hD hA hl
  obtain ⟨hx, hb, hr, hml, hown, hts, hlocks⟩ := hcx
  have hS : va_S A s.heap s.heap [] := va_S.rf
  have hown : s.vm.findClass RX7 = some m.cls := hown
  have hl : lv_has ls 1 [(0, .ref m0)] := hl
  have f71 := hts (.fieldLink RX7 71 "FieldFilterModel" "models" "I") (by decide +kernel)
  have iX7 : ∀ w ∈ u_ws RX7 TX7 20, w ∈ wsX7_model := by decide +kernel
  refine lv_aload_n hx hb dX7_model_0 rfl (lv_at hl 0 rfl) ?_
  refine lv_aload_n hx hb dX7_model_1 rfl (lv_at hl 0 rfl) ?_
  refine va_get (D := D) (ci := 7) (v := .int (jI ((ms : Nat) : Int))) (C := RX7) (T := TX7) (N := 20) hx hb hts iX7 hown hK.1 hP 0 rfl rfl 0 (by decide) f71 (fun _ h9 => h9) rfl dX7_model_2 ?_
  refine n_bipush hx hb dX7_model_5 (by decide) ?_
  refine n_icmp_ne (tgt := 14) hx hb (by unfold r32; omega) (by unfold r32; omega) dX7_model_7 (by decide) (fun h7 => False.elim (h7 (by omega))) (fun h7 => ?_)
  refine n_iconst hx hb dX7_model_10 ?_
  refine lv_goto (tgt := 15) hx hb dX7_model_11 (by decide) ?_
  have ct15 := c_X7_failsT l D tys m0 a ms es th 1 (by unfold r32; decide) (by decide)
  refine k_goI (va_runV (As := [.int (jI 1)]) (rest := []) ⟨hx, hb, hml, hown, hts⟩ (ct15.2 _) (cwV 1 hts gX7_model_X7_fails rfl rfl rfl (by decide +kernel) ⟨Nat.le_of_ble_eq_true rfl, Nat.le_of_ble_eq_true rfl⟩) ⟨(k_pre hK hP hD (is := [0]) rfl rfl).1, va_recv hK.1 hP (ci := 7) (q0 := 0) rfl rfl, (k_pre hK hP hD (is := [0]) rfl rfl).2⟩ rfl rfl hl.1 rfl (lv_room (Nat.le_of_ble_eq_true rfl)) dX7_model_15 ⟨Nat.le_of_ble_eq_true rfl, Nat.le_of_ble_eq_true rfl⟩) ct15.1 hP hD hS hA [0] rfl rfl (fun H locs hP hD hS => ?_)
  have hP : va_P D vwCl [(m0, oR (jI ((ms : Nat) : Int)) (jI ((es : Nat) : Int)) (jI 1) a), ((a 0), .inl (cI, 42, .inl (fun i => vI (gE i))))] H := hP
  have hD : va_D A [(m0, oR (jI ((ms : Nat) : Int)) (jI ((es : Nat) : Int)) (jI 1) a), ((a 0), .inl (cI, 42, .inl (fun i => vI (gE i))))] := hD
  refine n_ifB_eq (tgt := 23) hx hb dX7_model_18 (by decide) (fun h18 => Bool.noConfusion h18) (fun h18 => ?_)
  refine n_iconst hx hb dX7_model_21 ?_
  exact k_iret hx hb hr hlocks dX7_model_22 hP hS rfl

set_option maxHeartbeats 4000000 in
set_option maxRecDepth 100000 in
/--  -/
theorem c_X7_modelK (l : Launch) (D : va_G) (tys : List (ClassId × FieldType)) {cI cJ cZ : ClassId} (htI : tys[0]? = some (cI, .int)) (htJ : tys[1]? = some (cJ, .long)) (htZ : tys[2]? = some (cZ, .boolean)) (m0 : Nat) (a : Nat → Nat) (ms es : Nat) (th : Int32) (gE : Nat → Zp) (q1 : ms ≤ 6) (h9 : ¬ ms = 6) : CtI l D tys yX7_model wsX7_model 1 21 [.ref m0] (jI ((ms : Nat) : Int)) [(m0, oR (jI ((ms : Nat) : Int)) (jI ((es : Nat) : Int)) th a), ((a 0), .inl (cI, 42, .inl (fun i => vI (gE i))))] [(m0, oR (jI ((ms + 1 : Nat) : Int)) (jI ((es : Nat) : Int)) (jI 0) a), ((a 0), .inl (cI, 42, .inl (fun i => vI ((va_up (va_up gE (7 * ms + 0) 1) (7 * ms + 3) 1) i))))] := by
  refine CtI.of (cc := cX7_model) (maxL := 1) (by decide +kernel) rfl rfl (Nat.le_of_ble_eq_true rfl) ?_
  intro p e s m below meth c A ls hcx hK hP hD hA hl
  obtain ⟨hx, hb, hr, hml, hown, hts, hlocks⟩ := hcx
  have hS : va_S A s.heap s.heap [] := va_S.rf
  have hown : s.vm.findClass RX7 = some m.cls := hown
  have hl : lv_has ls 1 [(0, .ref m0)] := hl
  have f71 := hts (.fieldLink RX7 71 "FieldFilterModel" "models" "I") (by decide +kernel)
  have iX7 : ∀ w ∈ u_ws RX7 TX7 20, w ∈ wsX7_model := by decide +kernel
  have f7 := hts (.fieldLink RX7 7 "FieldFilterModel" "entry" "[I") (by decide +kernel)
  refine lv_aload_n hx hb dX7_model_0 rfl (lv_at hl 0 rfl) ?_
  refine lv_aload_n hx hb dX7_model_1 rfl (lv_at hl 0 rfl) ?_
  refine va_get (D := D) (ci := 7) (v := .int (jI ((ms : Nat) : Int))) (C := RX7) (T := TX7) (N := 20) hx hb hts iX7 hown hK.1 hP 0 rfl rfl 0 (by decide) f71 (fun _ h9 => h9) rfl dX7_model_2 ?_
  refine n_bipush hx hb dX7_model_5 (by decide) ?_
  refine n_icmp_ne (tgt := 14) hx hb (by unfold r32; omega) (by unfold r32; omega) dX7_model_7 (by decide) (fun h7 => ?_) (fun h7 => False.elim (h9 (by omega)))
  refine n_iconst hx hb dX7_model_14 ?_
  have ct15 := c_X7_failsF l D tys m0 a ms es th
  refine k_goI (va_runV (As := [.int (jI 0)]) (rest := []) ⟨hx, hb, hml, hown, hts⟩ (ct15.2 _) (cwV 1 hts gX7_model_X7_fails rfl rfl rfl (by decide +kernel) ⟨Nat.le_of_ble_eq_true rfl, Nat.le_of_ble_eq_true rfl⟩) ⟨(k_pre hK hP hD (is := [0]) rfl rfl).1, va_recv hK.1 hP (ci := 7) (q0 := 0) rfl rfl, (k_pre hK hP hD (is := [0]) rfl rfl).2⟩ rfl rfl hl.1 rfl (lv_room (Nat.le_of_ble_eq_true rfl)) dX7_model_15 ⟨Nat.le_of_ble_eq_true rfl, Nat.le_of_ble_eq_true rfl⟩) ct15.1 hP hD hS hA [0] rfl rfl (fun H locs hP hD hS => ?_)
  have hP : va_P D vwCl [(m0, oR (jI ((ms : Nat) : Int)) (jI ((es : Nat) : Int)) (jI 0) a), ((a 0), .inl (cI, 42, .inl (fun i => vI (gE i))))] H := hP
  have hD : va_D A [(m0, oR (jI ((ms : Nat) : Int)) (jI ((es : Nat) : Int)) (jI 0) a), ((a 0), .inl (cI, 42, .inl (fun i => vI (gE i))))] := hD
  refine n_ifB_eq (tgt := 23) hx hb dX7_model_18 (by decide) (fun h18 => ?_) (fun h18 => Bool.noConfusion h18)
  refine lv_aload_n hx hb dX7_model_23 rfl (lv_at hl 0 rfl) ?_
  refine va_get (D := D) (ci := 7) (v := .ref (a 0)) (C := RX7) (T := TX7) (N := 20) hx hb hts iX7 hown hK.1 hP 0 rfl rfl 1 (by decide) f7 (fun _ h9 => h9) rfl dX7_model_24 ?_
  refine n_bipush hx hb dX7_model_27 (by decide) ?_
  refine lv_aload_n hx hb dX7_model_29 rfl (lv_at hl 0 rfl) ?_
  refine va_get (D := D) (ci := 7) (v := .int (jI ((ms : Nat) : Int))) (C := RX7) (T := TX7) (N := 20) hx hb hts iX7 hown hK.1 hP 0 rfl rfl 0 (by decide) f71 (fun _ h9 => h9) rfl dX7_model_30 ?_
  refine n_imul hx hb dX7_model_33 ?_
  refine n_iconst hx hb dX7_model_34 ?_
  refine n_iadd hx hb dX7_model_35 ?_
  refine n_iconst hx hb dX7_model_36 ?_
  refine n_ziast (i := (7 * ms + 0)) (x := 1) hx hb hK hP hD hS 1 0 rfl htI (by omega) (by omega) (Nat.le_of_ble_eq_true rfl) dX7_model_37 (fun H locs hP hD hS => ?_)
  have hP : va_P D vwCl [(m0, oR (jI ((ms : Nat) : Int)) (jI ((es : Nat) : Int)) (jI 0) a), ((a 0), .inl (cI, 42, .inl (fun i => vI ((va_up gE (7 * ms + 0) 1) i))))] H := hP
  have hD : va_D A [(m0, oR (jI ((ms : Nat) : Int)) (jI ((es : Nat) : Int)) (jI 0) a), ((a 0), .inl (cI, 42, .inl (fun i => vI ((va_up gE (7 * ms + 0) 1) i))))] := hD
  refine lv_aload_n hx hb dX7_model_38 rfl (lv_at hl 0 rfl) ?_
  refine va_get (D := D) (ci := 7) (v := .ref (a 0)) (C := RX7) (T := TX7) (N := 20) hx hb hts iX7 hown hK.1 hP 0 rfl rfl 1 (by decide) f7 (fun _ h9 => h9) rfl dX7_model_39 ?_
  refine n_bipush hx hb dX7_model_42 (by decide) ?_
  refine lv_aload_n hx hb dX7_model_44 rfl (lv_at hl 0 rfl) ?_
  refine va_get (D := D) (ci := 7) (v := .int (jI ((ms : Nat) : Int))) (C := RX7) (T := TX7) (N := 20) hx hb hts iX7 hown hK.1 hP 0 rfl rfl 0 (by decide) f71 (fun _ h9 => h9) rfl dX7_model_45 ?_
  refine n_imul hx hb dX7_model_48 ?_
  refine n_iconst hx hb dX7_model_49 ?_
  refine n_iadd hx hb dX7_model_50 ?_
  refine n_iconst hx hb dX7_model_51 ?_
  refine n_ziast (i := (7 * ms + 3)) (x := 1) hx hb hK hP hD hS 1 0 rfl htI (by omega) (by omega) (Nat.le_of_ble_eq_true rfl) dX7_model_52 (fun H locs hP hD hS => ?_)
  have hP : va_P D vwCl [(m0, oR (jI ((ms : Nat) : Int)) (jI ((es : Nat) : Int)) (jI 0) a), ((a 0), .inl (cI, 42, .inl (fun i => vI ((va_up (va_up gE (7 * ms + 0) 1) (7 * ms + 3) 1) i))))] H := hP
  have hD : va_D A [(m0, oR (jI ((ms : Nat) : Int)) (jI ((es : Nat) : Int)) (jI 0) a), ((a 0), .inl (cI, 42, .inl (fun i => vI ((va_up (va_up gE (7 * ms + 0) 1) (7 * ms + 3) 1) i))))] := hD
  refine lv_aload_n hx hb dX7_model_53 rfl (lv_at hl 0 rfl) ?_
  refine lv_dup hx hb dX7_model_54 rfl ?_
  refine va_get (D := D) (ci := 7) (v := .int (jI ((ms : Nat) : Int))) (C := RX7) (T := TX7) (N := 20) hx hb hts iX7 hown hK.1 hP 0 rfl rfl 0 (by decide) f71 (fun _ h9 => h9) rfl dX7_model_55 ?_
  refine n_iconst hx hb dX7_model_58 ?_
  refine n_iadd hx hb dX7_model_59 ?_
  refine va_put (D := D) (ci := 7) (v := .int (jI (((ms : Nat) : Int) + 1))) (ty := .int) (C := RX7) (T := TX7) (N := 20) hx hb hts iX7 tyX7 tyX7_ok nmX7 hown hK.1 hP hD hS 0 rfl rfl 0 (by decide) f71 (fun _ h9 => h9) rfl (by decide +kernel) rfl rfl (Nat.le_of_ble_eq_true rfl) dX7_model_60 (fun H locs hP hD hS => ?_)
  have hP : va_P D vwCl [(m0, oR (jI (((ms : Nat) : Int) + 1)) (jI ((es : Nat) : Int)) (jI 0) a), ((a 0), .inl (cI, 42, .inl (fun i => vI ((va_up (va_up gE (7 * ms + 0) 1) (7 * ms + 3) 1) i))))] H := hP
  have hD : va_D A [(m0, oR (jI (((ms : Nat) : Int) + 1)) (jI ((es : Nat) : Int)) (jI 0) a), ((a 0), .inl (cI, 42, .inl (fun i => vI ((va_up (va_up gE (7 * ms + 0) 1) (7 * ms + 3) 1) i))))] := hD
  refine lv_aload_n hx hb dX7_model_63 rfl (lv_at hl 0 rfl) ?_
  refine va_get (D := D) (ci := 7) (v := .int (jI (((ms : Nat) : Int) + 1))) (C := RX7) (T := TX7) (N := 20) hx hb hts iX7 hown hK.1 hP 0 rfl rfl 0 (by decide) f71 (fun _ h9 => h9) rfl dX7_model_64 ?_
  refine n_iconst hx hb dX7_model_67 ?_
  refine n_isub hx hb dX7_model_68 ?_
  exact k_iret hx hb hr hlocks dX7_model_69 hP hS (congrArg jI (by omega))

set_option maxHeartbeats 4000000 in
set_option maxRecDepth 100000 in
/--  -/
theorem c_X7_entry1 (l : Launch) (D : va_G) (tys : List (ClassId × FieldType)) {cI cJ cZ : ClassId} (htI : tys[0]? = some (cI, .int)) (htJ : tys[1]? = some (cJ, .long)) (htZ : tys[2]? = some (cZ, .boolean)) (m0 : Nat) (a : Nat → Nat) (ms es : Nat) (th : Int32) (gE : Nat → Zp) (q1 : ms ≤ 6) (q2 : es ≤ 6) (mo wh it : Int) (q3 : r32 mo) (q4 : r32 wh) (q5 : r32 it) (h9 : (inB 0 (((ms : Nat) : Int) - 1) mo) = false) : CtI l D tys yX7_entry wsX7_entry 2 43 [.ref m0, .int (jI mo), .int (jI wh), .int (jI it)] (jI 0) [(m0, oR (jI ((ms : Nat) : Int)) (jI ((es : Nat) : Int)) th a), ((a 0), .inl (cI, 42, .inl (fun i => vI (gE i))))] [(m0, oR (jI ((ms : Nat) : Int)) (jI ((es : Nat) : Int)) (jI 1) a), ((a 0), .inl (cI, 42, .inl (fun i => vI (gE i))))] := by
  refine CtI.of (cc := cX7_entry) (maxL := 6) (by decide +kernel) rfl rfl (Nat.le_of_ble_eq_true rfl) ?_
  intro p e s m below meth c A ls hcx hK hP hD hA hl
  obtain ⟨hx, hb, hr, hml, hown, hts, hlocks⟩ := hcx
  have hS : va_S A s.heap s.heap [] := va_S.rf
  have hown : s.vm.findClass RX7 = some m.cls := hown
  have hl : lv_has ls 6 [(0, .ref m0), (1, .int (jI mo)), (2, .int (jI wh)), (3, .int (jI it))] := hl
  refine lv_iload_n hx hb dX7_entry_0 rfl (lv_at hl 2 rfl) ?_
  refine n_iconst hx hb dX7_entry_1 ?_
  refine n_bipush hx hb dX7_entry_2 (by decide) ?_
  have ct4 := c_X7_isIn l D tys wh 0 6 (by first | assumption | exact r32_z _ | (unfold r32; omega)) (by first | assumption | exact r32_z _ | (unfold r32; omega)) (by first | assumption | exact r32_z _ | (unfold r32; omega))
  refine k_goI (va_runS (As := [.int (jI wh), .int (jI 0), .int (jI 6)]) (rest := []) ⟨hx, hb, hml, hown, hts⟩ (ct4.2 _) (va_cwS 3 hts gX7_entry_X7_isIn rfl rfl rfl (by decide +kernel) ⟨Nat.le_of_ble_eq_true rfl, Nat.le_of_ble_eq_true rfl⟩) (k_pre hK hP hD (is := []) rfl rfl) rfl rfl hl.1 rfl (lv_room (Nat.le_of_ble_eq_true rfl)) dX7_entry_4 ⟨Nat.le_of_ble_eq_true rfl, Nat.le_of_ble_eq_true rfl⟩) ct4.1 hP hD hS hA [] rfl rfl (fun H locs hP hD hS => ?_)
  have hP : va_P D vwCl [(m0, oR (jI ((ms : Nat) : Int)) (jI ((es : Nat) : Int)) th a), ((a 0), .inl (cI, 42, .inl (fun i => vI (gE i))))] H := hP
  have hD : va_D A [(m0, oR (jI ((ms : Nat) : Int)) (jI ((es : Nat) : Int)) th a), ((a 0), .inl (cI, 42, .inl (fun i => vI (gE i))))] := hD
  refine n_ifB_eq (tgt := 21) hx hb dX7_entry_7 (by decide) (fun h7 => ?_) (fun h7 => ?_)
  · refine n_iconst hx hb dX7_entry_21 ?_
    refine lv_istore (lv' := [(4, .int (jI 0)), (0, .ref m0), (1, .int (jI mo)), (2, .int (jI wh)), (3, .int (jI it))]) hx hb dX7_entry_22 hl (by decide) rfl (fun ls hl => ?_)
    refine lv_aload_n hx hb dX7_entry_24 rfl (lv_at hl 1 rfl) ?_
    refine lv_aload_n hx hb dX7_entry_25 rfl (lv_at hl 1 rfl) ?_
    refine lv_iload_n hx hb dX7_entry_26 rfl (lv_at hl 2 rfl) ?_
    have ct27 := c_X7_isModel l D tys m0 a ms es th mo (by first | assumption | exact r32_z _ | (unfold r32; omega)) (by omega) (by omega)
    refine k_goI (va_runV (As := [.int (jI mo)]) (rest := [.ref m0]) ⟨hx, hb, hml, hown, hts⟩ (ct27.2 _) (cwV 1 hts gX7_entry_X7_isModel rfl rfl rfl (by decide +kernel) ⟨Nat.le_of_ble_eq_true rfl, Nat.le_of_ble_eq_true rfl⟩) ⟨(k_pre hK hP hD (is := [0]) rfl rfl).1, va_recv hK.1 hP (ci := 7) (q0 := 0) rfl rfl, (k_pre hK hP hD (is := [0]) rfl rfl).2⟩ rfl rfl hl.1 rfl (lv_room (Nat.le_of_ble_eq_true rfl)) dX7_entry_27 ⟨Nat.le_of_ble_eq_true rfl, Nat.le_of_ble_eq_true rfl⟩) ct27.1 hP hD hS hA [0] rfl rfl (fun H locs hP hD hS => ?_)
    have hP : va_P D vwCl [(m0, oR (jI ((ms : Nat) : Int)) (jI ((es : Nat) : Int)) th a), ((a 0), .inl (cI, 42, .inl (fun i => vI (gE i))))] H := hP
    have hD : va_D A [(m0, oR (jI ((ms : Nat) : Int)) (jI ((es : Nat) : Int)) th a), ((a 0), .inl (cI, 42, .inl (fun i => vI (gE i))))] := hD
    refine n_ifB_ne (tgt := 37) hx hb dX7_entry_30 (by decide) (fun h30 => Bool.noConfusion (h9.symm.trans h30)) (fun h30 => ?_)
    refine n_iconst hx hb dX7_entry_33 ?_
    refine lv_goto (tgt := 47) hx hb dX7_entry_34 (by decide) ?_
    have ct47 := c_X7_failsT l D tys m0 a ms es th 1 (by unfold r32; decide) (by decide)
    refine k_goI (va_runV (As := [.int (jI 1)]) (rest := []) ⟨hx, hb, hml, hown, hts⟩ (ct47.2 _) (cwV 1 hts gX7_entry_X7_fails rfl rfl rfl (by decide +kernel) ⟨Nat.le_of_ble_eq_true rfl, Nat.le_of_ble_eq_true rfl⟩) ⟨(k_pre hK hP hD (is := [0]) rfl rfl).1, va_recv hK.1 hP (ci := 7) (q0 := 0) rfl rfl, (k_pre hK hP hD (is := [0]) rfl rfl).2⟩ rfl rfl hl.1 rfl (lv_room (Nat.le_of_ble_eq_true rfl)) dX7_entry_47 ⟨Nat.le_of_ble_eq_true rfl, Nat.le_of_ble_eq_true rfl⟩) ct47.1 hP hD hS hA [0] rfl rfl (fun H locs hP hD hS => ?_)
    have hP : va_P D vwCl [(m0, oR (jI ((ms : Nat) : Int)) (jI ((es : Nat) : Int)) (jI 1) a), ((a 0), .inl (cI, 42, .inl (fun i => vI (gE i))))] H := hP
    have hD : va_D A [(m0, oR (jI ((ms : Nat) : Int)) (jI ((es : Nat) : Int)) (jI 1) a), ((a 0), .inl (cI, 42, .inl (fun i => vI (gE i))))] := hD
    refine n_ifB_eq (tgt := 55) hx hb dX7_entry_50 (by decide) (fun h50 => Bool.noConfusion h50) (fun h50 => ?_)
    refine n_iconst hx hb dX7_entry_53 ?_
    exact k_iret hx hb hr hlocks dX7_entry_54 hP hS rfl
  · refine lv_iload_n hx hb dX7_entry_10 rfl (lv_at hl 3 rfl) ?_
    have ct11 := c_X7_isField l D tys it (by first | assumption | exact r32_z _ | (unfold r32; omega))
    refine k_goI (va_runS (As := [.int (jI it)]) (rest := []) ⟨hx, hb, hml, hown, hts⟩ (ct11.2 _) (va_cwS 1 hts gX7_entry_X7_isField rfl rfl rfl (by decide +kernel) ⟨Nat.le_of_ble_eq_true rfl, Nat.le_of_ble_eq_true rfl⟩) (k_pre hK hP hD (is := []) rfl rfl) rfl rfl hl.1 rfl (lv_room (Nat.le_of_ble_eq_true rfl)) dX7_entry_11 ⟨Nat.le_of_ble_eq_true rfl, Nat.le_of_ble_eq_true rfl⟩) ct11.1 hP hD hS hA [] rfl rfl (fun H locs hP hD hS => ?_)
    have hP : va_P D vwCl [(m0, oR (jI ((ms : Nat) : Int)) (jI ((es : Nat) : Int)) th a), ((a 0), .inl (cI, 42, .inl (fun i => vI (gE i))))] H := hP
    have hD : va_D A [(m0, oR (jI ((ms : Nat) : Int)) (jI ((es : Nat) : Int)) th a), ((a 0), .inl (cI, 42, .inl (fun i => vI (gE i))))] := hD
    refine n_ifB_eq (tgt := 21) hx hb dX7_entry_14 (by decide) (fun h14 => ?_) (fun h14 => ?_)
    · refine n_iconst hx hb dX7_entry_21 ?_
      refine lv_istore (lv' := [(4, .int (jI 0)), (0, .ref m0), (1, .int (jI mo)), (2, .int (jI wh)), (3, .int (jI it))]) hx hb dX7_entry_22 hl (by decide) rfl (fun ls hl => ?_)
      refine lv_aload_n hx hb dX7_entry_24 rfl (lv_at hl 1 rfl) ?_
      refine lv_aload_n hx hb dX7_entry_25 rfl (lv_at hl 1 rfl) ?_
      refine lv_iload_n hx hb dX7_entry_26 rfl (lv_at hl 2 rfl) ?_
      have ct27 := c_X7_isModel l D tys m0 a ms es th mo (by first | assumption | exact r32_z _ | (unfold r32; omega)) (by omega) (by omega)
      refine k_goI (va_runV (As := [.int (jI mo)]) (rest := [.ref m0]) ⟨hx, hb, hml, hown, hts⟩ (ct27.2 _) (cwV 1 hts gX7_entry_X7_isModel rfl rfl rfl (by decide +kernel) ⟨Nat.le_of_ble_eq_true rfl, Nat.le_of_ble_eq_true rfl⟩) ⟨(k_pre hK hP hD (is := [0]) rfl rfl).1, va_recv hK.1 hP (ci := 7) (q0 := 0) rfl rfl, (k_pre hK hP hD (is := [0]) rfl rfl).2⟩ rfl rfl hl.1 rfl (lv_room (Nat.le_of_ble_eq_true rfl)) dX7_entry_27 ⟨Nat.le_of_ble_eq_true rfl, Nat.le_of_ble_eq_true rfl⟩) ct27.1 hP hD hS hA [0] rfl rfl (fun H locs hP hD hS => ?_)
      have hP : va_P D vwCl [(m0, oR (jI ((ms : Nat) : Int)) (jI ((es : Nat) : Int)) th a), ((a 0), .inl (cI, 42, .inl (fun i => vI (gE i))))] H := hP
      have hD : va_D A [(m0, oR (jI ((ms : Nat) : Int)) (jI ((es : Nat) : Int)) th a), ((a 0), .inl (cI, 42, .inl (fun i => vI (gE i))))] := hD
      refine n_ifB_ne (tgt := 37) hx hb dX7_entry_30 (by decide) (fun h30 => Bool.noConfusion (h9.symm.trans h30)) (fun h30 => ?_)
      refine n_iconst hx hb dX7_entry_33 ?_
      refine lv_goto (tgt := 47) hx hb dX7_entry_34 (by decide) ?_
      have ct47 := c_X7_failsT l D tys m0 a ms es th 1 (by unfold r32; decide) (by decide)
      refine k_goI (va_runV (As := [.int (jI 1)]) (rest := []) ⟨hx, hb, hml, hown, hts⟩ (ct47.2 _) (cwV 1 hts gX7_entry_X7_fails rfl rfl rfl (by decide +kernel) ⟨Nat.le_of_ble_eq_true rfl, Nat.le_of_ble_eq_true rfl⟩) ⟨(k_pre hK hP hD (is := [0]) rfl rfl).1, va_recv hK.1 hP (ci := 7) (q0 := 0) rfl rfl, (k_pre hK hP hD (is := [0]) rfl rfl).2⟩ rfl rfl hl.1 rfl (lv_room (Nat.le_of_ble_eq_true rfl)) dX7_entry_47 ⟨Nat.le_of_ble_eq_true rfl, Nat.le_of_ble_eq_true rfl⟩) ct47.1 hP hD hS hA [0] rfl rfl (fun H locs hP hD hS => ?_)
      have hP : va_P D vwCl [(m0, oR (jI ((ms : Nat) : Int)) (jI ((es : Nat) : Int)) (jI 1) a), ((a 0), .inl (cI, 42, .inl (fun i => vI (gE i))))] H := hP
      have hD : va_D A [(m0, oR (jI ((ms : Nat) : Int)) (jI ((es : Nat) : Int)) (jI 1) a), ((a 0), .inl (cI, 42, .inl (fun i => vI (gE i))))] := hD
      refine n_ifB_eq (tgt := 55) hx hb dX7_entry_50 (by decide) (fun h50 => Bool.noConfusion h50) (fun h50 => ?_)
      refine n_iconst hx hb dX7_entry_53 ?_
      exact k_iret hx hb hr hlocks dX7_entry_54 hP hS rfl
    · refine n_iconst hx hb dX7_entry_17 ?_
      refine lv_goto (tgt := 22) hx hb dX7_entry_18 (by decide) ?_
      refine lv_istore (lv' := [(4, .int (jI 1)), (0, .ref m0), (1, .int (jI mo)), (2, .int (jI wh)), (3, .int (jI it))]) hx hb dX7_entry_22 hl (by decide) rfl (fun ls hl => ?_)
      refine lv_aload_n hx hb dX7_entry_24 rfl (lv_at hl 1 rfl) ?_
      refine lv_aload_n hx hb dX7_entry_25 rfl (lv_at hl 1 rfl) ?_
      refine lv_iload_n hx hb dX7_entry_26 rfl (lv_at hl 2 rfl) ?_
      have ct27 := c_X7_isModel l D tys m0 a ms es th mo (by first | assumption | exact r32_z _ | (unfold r32; omega)) (by omega) (by omega)
      refine k_goI (va_runV (As := [.int (jI mo)]) (rest := [.ref m0]) ⟨hx, hb, hml, hown, hts⟩ (ct27.2 _) (cwV 1 hts gX7_entry_X7_isModel rfl rfl rfl (by decide +kernel) ⟨Nat.le_of_ble_eq_true rfl, Nat.le_of_ble_eq_true rfl⟩) ⟨(k_pre hK hP hD (is := [0]) rfl rfl).1, va_recv hK.1 hP (ci := 7) (q0 := 0) rfl rfl, (k_pre hK hP hD (is := [0]) rfl rfl).2⟩ rfl rfl hl.1 rfl (lv_room (Nat.le_of_ble_eq_true rfl)) dX7_entry_27 ⟨Nat.le_of_ble_eq_true rfl, Nat.le_of_ble_eq_true rfl⟩) ct27.1 hP hD hS hA [0] rfl rfl (fun H locs hP hD hS => ?_)
      have hP : va_P D vwCl [(m0, oR (jI ((ms : Nat) : Int)) (jI ((es : Nat) : Int)) th a), ((a 0), .inl (cI, 42, .inl (fun i => vI (gE i))))] H := hP
      have hD : va_D A [(m0, oR (jI ((ms : Nat) : Int)) (jI ((es : Nat) : Int)) th a), ((a 0), .inl (cI, 42, .inl (fun i => vI (gE i))))] := hD
      refine n_ifB_ne (tgt := 37) hx hb dX7_entry_30 (by decide) (fun h30 => Bool.noConfusion (h9.symm.trans h30)) (fun h30 => ?_)
      refine n_iconst hx hb dX7_entry_33 ?_
      refine lv_goto (tgt := 47) hx hb dX7_entry_34 (by decide) ?_
      have ct47 := c_X7_failsT l D tys m0 a ms es th 1 (by unfold r32; decide) (by decide)
      refine k_goI (va_runV (As := [.int (jI 1)]) (rest := []) ⟨hx, hb, hml, hown, hts⟩ (ct47.2 _) (cwV 1 hts gX7_entry_X7_fails rfl rfl rfl (by decide +kernel) ⟨Nat.le_of_ble_eq_true rfl, Nat.le_of_ble_eq_true rfl⟩) ⟨(k_pre hK hP hD (is := [0]) rfl rfl).1, va_recv hK.1 hP (ci := 7) (q0 := 0) rfl rfl, (k_pre hK hP hD (is := [0]) rfl rfl).2⟩ rfl rfl hl.1 rfl (lv_room (Nat.le_of_ble_eq_true rfl)) dX7_entry_47 ⟨Nat.le_of_ble_eq_true rfl, Nat.le_of_ble_eq_true rfl⟩) ct47.1 hP hD hS hA [0] rfl rfl (fun H locs hP hD hS => ?_)
      have hP : va_P D vwCl [(m0, oR (jI ((ms : Nat) : Int)) (jI ((es : Nat) : Int)) (jI 1) a), ((a 0), .inl (cI, 42, .inl (fun i => vI (gE i))))] H := hP
      have hD : va_D A [(m0, oR (jI ((ms : Nat) : Int)) (jI ((es : Nat) : Int)) (jI 1) a), ((a 0), .inl (cI, 42, .inl (fun i => vI (gE i))))] := hD
      refine n_ifB_eq (tgt := 55) hx hb dX7_entry_50 (by decide) (fun h50 => Bool.noConfusion h50) (fun h50 => ?_)
      refine n_iconst hx hb dX7_entry_53 ?_
      exact k_iret hx hb hr hlocks dX7_entry_54 hP hS rfl

set_option maxHeartbeats 4000000 in
set_option maxRecDepth 100000 in
/--  -/
theorem c_X7_entry2 (l : Launch) (D : va_G) (tys : List (ClassId × FieldType)) {cI cJ cZ : ClassId} (htI : tys[0]? = some (cI, .int)) (htJ : tys[1]? = some (cJ, .long)) (htZ : tys[2]? = some (cZ, .boolean)) (m0 : Nat) (a : Nat → Nat) (ms es : Nat) (th : Int32) (gE : Nat → Zp) (q1 : ms ≤ 6) (q2 : es ≤ 6) (mo wh it : Int) (q3 : r32 mo) (q4 : r32 wh) (q5 : r32 it) (h9 : (inB 0 (((ms : Nat) : Int) - 1) mo) = true) (h8 : ((inB 0 6 wh) && (inB 0 10006 it)) = false) : CtI l D tys yX7_entry wsX7_entry 2 43 [.ref m0, .int (jI mo), .int (jI wh), .int (jI it)] (jI 0) [(m0, oR (jI ((ms : Nat) : Int)) (jI ((es : Nat) : Int)) th a), ((a 0), .inl (cI, 42, .inl (fun i => vI (gE i))))] [(m0, oR (jI ((ms : Nat) : Int)) (jI ((es : Nat) : Int)) (jI 2) a), ((a 0), .inl (cI, 42, .inl (fun i => vI (gE i))))] := by
  refine CtI.of (cc := cX7_entry) (maxL := 6) (by decide +kernel) rfl rfl (Nat.le_of_ble_eq_true rfl) ?_
  intro p e s m below meth c A ls hcx hK hP hD hA hl
  obtain ⟨hx, hb, hr, hml, hown, hts, hlocks⟩ := hcx
  have hS : va_S A s.heap s.heap [] := va_S.rf
  have hown : s.vm.findClass RX7 = some m.cls := hown
  have hl : lv_has ls 6 [(0, .ref m0), (1, .int (jI mo)), (2, .int (jI wh)), (3, .int (jI it))] := hl
  refine lv_iload_n hx hb dX7_entry_0 rfl (lv_at hl 2 rfl) ?_
  refine n_iconst hx hb dX7_entry_1 ?_
  refine n_bipush hx hb dX7_entry_2 (by decide) ?_
  have ct4 := c_X7_isIn l D tys wh 0 6 (by first | assumption | exact r32_z _ | (unfold r32; omega)) (by first | assumption | exact r32_z _ | (unfold r32; omega)) (by first | assumption | exact r32_z _ | (unfold r32; omega))
  refine k_goI (va_runS (As := [.int (jI wh), .int (jI 0), .int (jI 6)]) (rest := []) ⟨hx, hb, hml, hown, hts⟩ (ct4.2 _) (va_cwS 3 hts gX7_entry_X7_isIn rfl rfl rfl (by decide +kernel) ⟨Nat.le_of_ble_eq_true rfl, Nat.le_of_ble_eq_true rfl⟩) (k_pre hK hP hD (is := []) rfl rfl) rfl rfl hl.1 rfl (lv_room (Nat.le_of_ble_eq_true rfl)) dX7_entry_4 ⟨Nat.le_of_ble_eq_true rfl, Nat.le_of_ble_eq_true rfl⟩) ct4.1 hP hD hS hA [] rfl rfl (fun H locs hP hD hS => ?_)
  have hP : va_P D vwCl [(m0, oR (jI ((ms : Nat) : Int)) (jI ((es : Nat) : Int)) th a), ((a 0), .inl (cI, 42, .inl (fun i => vI (gE i))))] H := hP
  have hD : va_D A [(m0, oR (jI ((ms : Nat) : Int)) (jI ((es : Nat) : Int)) th a), ((a 0), .inl (cI, 42, .inl (fun i => vI (gE i))))] := hD
  refine n_ifB_eq (tgt := 21) hx hb dX7_entry_7 (by decide) (fun h7 => ?_) (fun h7 => ?_)
  · refine n_iconst hx hb dX7_entry_21 ?_
    refine lv_istore (lv' := [(4, .int (jI 0)), (0, .ref m0), (1, .int (jI mo)), (2, .int (jI wh)), (3, .int (jI it))]) hx hb dX7_entry_22 hl (by decide) rfl (fun ls hl => ?_)
    refine lv_aload_n hx hb dX7_entry_24 rfl (lv_at hl 1 rfl) ?_
    refine lv_aload_n hx hb dX7_entry_25 rfl (lv_at hl 1 rfl) ?_
    refine lv_iload_n hx hb dX7_entry_26 rfl (lv_at hl 2 rfl) ?_
    have ct27 := c_X7_isModel l D tys m0 a ms es th mo (by first | assumption | exact r32_z _ | (unfold r32; omega)) (by omega) (by omega)
    refine k_goI (va_runV (As := [.int (jI mo)]) (rest := [.ref m0]) ⟨hx, hb, hml, hown, hts⟩ (ct27.2 _) (cwV 1 hts gX7_entry_X7_isModel rfl rfl rfl (by decide +kernel) ⟨Nat.le_of_ble_eq_true rfl, Nat.le_of_ble_eq_true rfl⟩) ⟨(k_pre hK hP hD (is := [0]) rfl rfl).1, va_recv hK.1 hP (ci := 7) (q0 := 0) rfl rfl, (k_pre hK hP hD (is := [0]) rfl rfl).2⟩ rfl rfl hl.1 rfl (lv_room (Nat.le_of_ble_eq_true rfl)) dX7_entry_27 ⟨Nat.le_of_ble_eq_true rfl, Nat.le_of_ble_eq_true rfl⟩) ct27.1 hP hD hS hA [0] rfl rfl (fun H locs hP hD hS => ?_)
    have hP : va_P D vwCl [(m0, oR (jI ((ms : Nat) : Int)) (jI ((es : Nat) : Int)) th a), ((a 0), .inl (cI, 42, .inl (fun i => vI (gE i))))] H := hP
    have hD : va_D A [(m0, oR (jI ((ms : Nat) : Int)) (jI ((es : Nat) : Int)) th a), ((a 0), .inl (cI, 42, .inl (fun i => vI (gE i))))] := hD
    refine n_ifB_ne (tgt := 37) hx hb dX7_entry_30 (by decide) (fun h30 => ?_) (fun h30 => Bool.noConfusion (h9.symm.trans h30))
    refine lv_iload hx hb dX7_entry_37 (lv_at hl 0 rfl) ?_
    refine n_if_eq (tgt := 46) hx hb (by unfold r32; decide) dX7_entry_39 (by decide) (fun h39 => ?_) (fun h39 => False.elim (by revert h39; decide))
    refine n_iconst hx hb dX7_entry_46 ?_
    have ct47 := c_X7_failsT l D tys m0 a ms es th 2 (by unfold r32; decide) (by decide)
    refine k_goI (va_runV (As := [.int (jI 2)]) (rest := []) ⟨hx, hb, hml, hown, hts⟩ (ct47.2 _) (cwV 1 hts gX7_entry_X7_fails rfl rfl rfl (by decide +kernel) ⟨Nat.le_of_ble_eq_true rfl, Nat.le_of_ble_eq_true rfl⟩) ⟨(k_pre hK hP hD (is := [0]) rfl rfl).1, va_recv hK.1 hP (ci := 7) (q0 := 0) rfl rfl, (k_pre hK hP hD (is := [0]) rfl rfl).2⟩ rfl rfl hl.1 rfl (lv_room (Nat.le_of_ble_eq_true rfl)) dX7_entry_47 ⟨Nat.le_of_ble_eq_true rfl, Nat.le_of_ble_eq_true rfl⟩) ct47.1 hP hD hS hA [0] rfl rfl (fun H locs hP hD hS => ?_)
    have hP : va_P D vwCl [(m0, oR (jI ((ms : Nat) : Int)) (jI ((es : Nat) : Int)) (jI 2) a), ((a 0), .inl (cI, 42, .inl (fun i => vI (gE i))))] H := hP
    have hD : va_D A [(m0, oR (jI ((ms : Nat) : Int)) (jI ((es : Nat) : Int)) (jI 2) a), ((a 0), .inl (cI, 42, .inl (fun i => vI (gE i))))] := hD
    refine n_ifB_eq (tgt := 55) hx hb dX7_entry_50 (by decide) (fun h50 => Bool.noConfusion h50) (fun h50 => ?_)
    refine n_iconst hx hb dX7_entry_53 ?_
    exact k_iret hx hb hr hlocks dX7_entry_54 hP hS rfl
  · refine lv_iload_n hx hb dX7_entry_10 rfl (lv_at hl 3 rfl) ?_
    have ct11 := c_X7_isField l D tys it (by first | assumption | exact r32_z _ | (unfold r32; omega))
    refine k_goI (va_runS (As := [.int (jI it)]) (rest := []) ⟨hx, hb, hml, hown, hts⟩ (ct11.2 _) (va_cwS 1 hts gX7_entry_X7_isField rfl rfl rfl (by decide +kernel) ⟨Nat.le_of_ble_eq_true rfl, Nat.le_of_ble_eq_true rfl⟩) (k_pre hK hP hD (is := []) rfl rfl) rfl rfl hl.1 rfl (lv_room (Nat.le_of_ble_eq_true rfl)) dX7_entry_11 ⟨Nat.le_of_ble_eq_true rfl, Nat.le_of_ble_eq_true rfl⟩) ct11.1 hP hD hS hA [] rfl rfl (fun H locs hP hD hS => ?_)
    have hP : va_P D vwCl [(m0, oR (jI ((ms : Nat) : Int)) (jI ((es : Nat) : Int)) th a), ((a 0), .inl (cI, 42, .inl (fun i => vI (gE i))))] H := hP
    have hD : va_D A [(m0, oR (jI ((ms : Nat) : Int)) (jI ((es : Nat) : Int)) th a), ((a 0), .inl (cI, 42, .inl (fun i => vI (gE i))))] := hD
    refine n_ifB_eq (tgt := 21) hx hb dX7_entry_14 (by decide) (fun h14 => ?_) (fun h14 => ?_)
    · refine n_iconst hx hb dX7_entry_21 ?_
      refine lv_istore (lv' := [(4, .int (jI 0)), (0, .ref m0), (1, .int (jI mo)), (2, .int (jI wh)), (3, .int (jI it))]) hx hb dX7_entry_22 hl (by decide) rfl (fun ls hl => ?_)
      refine lv_aload_n hx hb dX7_entry_24 rfl (lv_at hl 1 rfl) ?_
      refine lv_aload_n hx hb dX7_entry_25 rfl (lv_at hl 1 rfl) ?_
      refine lv_iload_n hx hb dX7_entry_26 rfl (lv_at hl 2 rfl) ?_
      have ct27 := c_X7_isModel l D tys m0 a ms es th mo (by first | assumption | exact r32_z _ | (unfold r32; omega)) (by omega) (by omega)
      refine k_goI (va_runV (As := [.int (jI mo)]) (rest := [.ref m0]) ⟨hx, hb, hml, hown, hts⟩ (ct27.2 _) (cwV 1 hts gX7_entry_X7_isModel rfl rfl rfl (by decide +kernel) ⟨Nat.le_of_ble_eq_true rfl, Nat.le_of_ble_eq_true rfl⟩) ⟨(k_pre hK hP hD (is := [0]) rfl rfl).1, va_recv hK.1 hP (ci := 7) (q0 := 0) rfl rfl, (k_pre hK hP hD (is := [0]) rfl rfl).2⟩ rfl rfl hl.1 rfl (lv_room (Nat.le_of_ble_eq_true rfl)) dX7_entry_27 ⟨Nat.le_of_ble_eq_true rfl, Nat.le_of_ble_eq_true rfl⟩) ct27.1 hP hD hS hA [0] rfl rfl (fun H locs hP hD hS => ?_)
      have hP : va_P D vwCl [(m0, oR (jI ((ms : Nat) : Int)) (jI ((es : Nat) : Int)) th a), ((a 0), .inl (cI, 42, .inl (fun i => vI (gE i))))] H := hP
      have hD : va_D A [(m0, oR (jI ((ms : Nat) : Int)) (jI ((es : Nat) : Int)) th a), ((a 0), .inl (cI, 42, .inl (fun i => vI (gE i))))] := hD
      refine n_ifB_ne (tgt := 37) hx hb dX7_entry_30 (by decide) (fun h30 => ?_) (fun h30 => Bool.noConfusion (h9.symm.trans h30))
      refine lv_iload hx hb dX7_entry_37 (lv_at hl 0 rfl) ?_
      refine n_if_eq (tgt := 46) hx hb (by unfold r32; decide) dX7_entry_39 (by decide) (fun h39 => ?_) (fun h39 => False.elim (by revert h39; decide))
      refine n_iconst hx hb dX7_entry_46 ?_
      have ct47 := c_X7_failsT l D tys m0 a ms es th 2 (by unfold r32; decide) (by decide)
      refine k_goI (va_runV (As := [.int (jI 2)]) (rest := []) ⟨hx, hb, hml, hown, hts⟩ (ct47.2 _) (cwV 1 hts gX7_entry_X7_fails rfl rfl rfl (by decide +kernel) ⟨Nat.le_of_ble_eq_true rfl, Nat.le_of_ble_eq_true rfl⟩) ⟨(k_pre hK hP hD (is := [0]) rfl rfl).1, va_recv hK.1 hP (ci := 7) (q0 := 0) rfl rfl, (k_pre hK hP hD (is := [0]) rfl rfl).2⟩ rfl rfl hl.1 rfl (lv_room (Nat.le_of_ble_eq_true rfl)) dX7_entry_47 ⟨Nat.le_of_ble_eq_true rfl, Nat.le_of_ble_eq_true rfl⟩) ct47.1 hP hD hS hA [0] rfl rfl (fun H locs hP hD hS => ?_)
      have hP : va_P D vwCl [(m0, oR (jI ((ms : Nat) : Int)) (jI ((es : Nat) : Int)) (jI 2) a), ((a 0), .inl (cI, 42, .inl (fun i => vI (gE i))))] H := hP
      have hD : va_D A [(m0, oR (jI ((ms : Nat) : Int)) (jI ((es : Nat) : Int)) (jI 2) a), ((a 0), .inl (cI, 42, .inl (fun i => vI (gE i))))] := hD
      refine n_ifB_eq (tgt := 55) hx hb dX7_entry_50 (by decide) (fun h50 => Bool.noConfusion h50) (fun h50 => ?_)
      refine n_iconst hx hb dX7_entry_53 ?_
      exact k_iret hx hb hr hlocks dX7_entry_54 hP hS rfl
    · exact absurd h8 (by rw [h7, h14]; decide)

set_option maxHeartbeats 4000000 in
set_option maxRecDepth 100000 in
/--  -/
theorem c_X7_entry0 (l : Launch) (D : va_G) (tys : List (ClassId × FieldType)) {cI cJ cZ : ClassId} (htI : tys[0]? = some (cI, .int)) (htJ : tys[1]? = some (cJ, .long)) (htZ : tys[2]? = some (cZ, .boolean)) (m0 : Nat) (a : Nat → Nat) (ms es : Nat) (th : Int32) (gE : Nat → Zp) (q1 : ms ≤ 6) (q2 : es ≤ 6) (mo wh : Nat) (it : Zp) (q3 : mo < ms) (q4 : wh ≤ 6) : CtI l D tys yX7_entry wsX7_entry 2 43 [.ref m0, .int (jI ((mo : Nat) : Int)), .int (jI ((wh : Nat) : Int)), .int (vI it)] (vI (gE (7 * mo + wh))) [(m0, oR (jI ((ms : Nat) : Int)) (jI ((es : Nat) : Int)) th a), ((a 0), .inl (cI, 42, .inl (fun i => vI (gE i))))] [(m0, oR (jI ((ms : Nat) : Int)) (jI ((es : Nat) : Int)) (jI 0) a), ((a 0), .inl (cI, 42, .inl (fun i => vI ((va_up gE (7 * mo + wh) it) i))))] := by
  refine CtI.of (cc := cX7_entry) (maxL := 6) (by decide +kernel) rfl rfl (Nat.le_of_ble_eq_true rfl) ?_
  intro p e s m below meth c A ls hcx hK hP hD hA hl
  obtain ⟨hx, hb, hr, hml, hown, hts, hlocks⟩ := hcx
  have hS : va_S A s.heap s.heap [] := va_S.rf
  have hown : s.vm.findClass RX7 = some m.cls := hown
  have hl : lv_has ls 6 [(0, .ref m0), (1, .int (jI ((mo : Nat) : Int))), (2, .int (jI ((wh : Nat) : Int))), (3, .int (vI it))] := hl
  have f7 := hts (.fieldLink RX7 7 "FieldFilterModel" "entry" "[I") (by decide +kernel)
  have iX7 : ∀ w ∈ u_ws RX7 TX7 20, w ∈ wsX7_entry := by decide +kernel
  refine lv_iload_n hx hb dX7_entry_0 rfl (lv_at hl 2 rfl) ?_
  refine n_iconst hx hb dX7_entry_1 ?_
  refine n_bipush hx hb dX7_entry_2 (by decide) ?_
  have ct4 := c_X7_isIn l D tys ((wh : Nat) : Int) 0 6 (by first | assumption | exact r32_z _ | (unfold r32; omega)) (by first | assumption | exact r32_z _ | (unfold r32; omega)) (by first | assumption | exact r32_z _ | (unfold r32; omega))
  refine k_goI (va_runS (As := [.int (jI ((wh : Nat) : Int)), .int (jI 0), .int (jI 6)]) (rest := []) ⟨hx, hb, hml, hown, hts⟩ (ct4.2 _) (va_cwS 3 hts gX7_entry_X7_isIn rfl rfl rfl (by decide +kernel) ⟨Nat.le_of_ble_eq_true rfl, Nat.le_of_ble_eq_true rfl⟩) (k_pre hK hP hD (is := []) rfl rfl) rfl rfl hl.1 rfl (lv_room (Nat.le_of_ble_eq_true rfl)) dX7_entry_4 ⟨Nat.le_of_ble_eq_true rfl, Nat.le_of_ble_eq_true rfl⟩) ct4.1 hP hD hS hA [] rfl rfl (fun H locs hP hD hS => ?_)
  have hP : va_P D vwCl [(m0, oR (jI ((ms : Nat) : Int)) (jI ((es : Nat) : Int)) th a), ((a 0), .inl (cI, 42, .inl (fun i => vI (gE i))))] H := hP
  have hD : va_D A [(m0, oR (jI ((ms : Nat) : Int)) (jI ((es : Nat) : Int)) th a), ((a 0), .inl (cI, 42, .inl (fun i => vI (gE i))))] := hD
  refine n_ifB_eq (tgt := 21) hx hb dX7_entry_7 (by decide) (fun h7 => Bool.noConfusion ((inB_t (by omega) (by omega)).symm.trans h7)) (fun h7 => ?_)
  refine lv_iload_n hx hb dX7_entry_10 rfl (lv_at hl 3 rfl) ?_
  have ct11 := c_X7_isField l D tys (zv it) (by have h9 := (rp_v it); exact ⟨by have := h9.1; omega, by have := h9.2.1; omega⟩)
  refine k_goI (va_runS (As := [.int (vI it)]) (rest := []) ⟨hx, hb, hml, hown, hts⟩ (ct11.2 _) (va_cwS 1 hts gX7_entry_X7_isField rfl rfl rfl (by decide +kernel) ⟨Nat.le_of_ble_eq_true rfl, Nat.le_of_ble_eq_true rfl⟩) (k_pre hK hP hD (is := []) rfl rfl) rfl rfl hl.1 rfl (lv_room (Nat.le_of_ble_eq_true rfl)) dX7_entry_11 ⟨Nat.le_of_ble_eq_true rfl, Nat.le_of_ble_eq_true rfl⟩) ct11.1 hP hD hS hA [] rfl rfl (fun H locs hP hD hS => ?_)
  have hP : va_P D vwCl [(m0, oR (jI ((ms : Nat) : Int)) (jI ((es : Nat) : Int)) th a), ((a 0), .inl (cI, 42, .inl (fun i => vI (gE i))))] H := hP
  have hD : va_D A [(m0, oR (jI ((ms : Nat) : Int)) (jI ((es : Nat) : Int)) th a), ((a 0), .inl (cI, 42, .inl (fun i => vI (gE i))))] := hD
  refine n_ifB_eq (tgt := 21) hx hb dX7_entry_14 (by decide) (fun h14 => Bool.noConfusion ((inB_t (zv_0 _) (zv_le _)).symm.trans h14)) (fun h14 => ?_)
  refine n_iconst hx hb dX7_entry_17 ?_
  refine lv_goto (tgt := 22) hx hb dX7_entry_18 (by decide) ?_
  refine lv_istore (lv' := [(4, .int (jI 1)), (0, .ref m0), (1, .int (jI ((mo : Nat) : Int))), (2, .int (jI ((wh : Nat) : Int))), (3, .int (vI it))]) hx hb dX7_entry_22 hl (by decide) rfl (fun ls hl => ?_)
  refine lv_aload_n hx hb dX7_entry_24 rfl (lv_at hl 1 rfl) ?_
  refine lv_aload_n hx hb dX7_entry_25 rfl (lv_at hl 1 rfl) ?_
  refine lv_iload_n hx hb dX7_entry_26 rfl (lv_at hl 2 rfl) ?_
  have ct27 := c_X7_isModel l D tys m0 a ms es th ((mo : Nat) : Int) (by first | assumption | exact r32_z _ | (unfold r32; omega)) (by omega) (by omega)
  refine k_goI (va_runV (As := [.int (jI ((mo : Nat) : Int))]) (rest := [.ref m0]) ⟨hx, hb, hml, hown, hts⟩ (ct27.2 _) (cwV 1 hts gX7_entry_X7_isModel rfl rfl rfl (by decide +kernel) ⟨Nat.le_of_ble_eq_true rfl, Nat.le_of_ble_eq_true rfl⟩) ⟨(k_pre hK hP hD (is := [0]) rfl rfl).1, va_recv hK.1 hP (ci := 7) (q0 := 0) rfl rfl, (k_pre hK hP hD (is := [0]) rfl rfl).2⟩ rfl rfl hl.1 rfl (lv_room (Nat.le_of_ble_eq_true rfl)) dX7_entry_27 ⟨Nat.le_of_ble_eq_true rfl, Nat.le_of_ble_eq_true rfl⟩) ct27.1 hP hD hS hA [0] rfl rfl (fun H locs hP hD hS => ?_)
  have hP : va_P D vwCl [(m0, oR (jI ((ms : Nat) : Int)) (jI ((es : Nat) : Int)) th a), ((a 0), .inl (cI, 42, .inl (fun i => vI (gE i))))] H := hP
  have hD : va_D A [(m0, oR (jI ((ms : Nat) : Int)) (jI ((es : Nat) : Int)) th a), ((a 0), .inl (cI, 42, .inl (fun i => vI (gE i))))] := hD
  refine n_ifB_ne (tgt := 37) hx hb dX7_entry_30 (by decide) (fun h30 => ?_) (fun h30 => Bool.noConfusion ((inB_t (by omega) (by omega)).symm.trans h30))
  refine lv_iload hx hb dX7_entry_37 (lv_at hl 0 rfl) ?_
  refine n_if_eq (tgt := 46) hx hb (by unfold r32; decide) dX7_entry_39 (by decide) (fun h39 => False.elim (by revert h39; decide)) (fun h39 => ?_)
  refine n_iconst hx hb dX7_entry_42 ?_
  refine lv_goto (tgt := 47) hx hb dX7_entry_43 (by decide) ?_
  have ct47 := c_X7_failsF l D tys m0 a ms es th
  refine k_goI (va_runV (As := [.int (jI 0)]) (rest := []) ⟨hx, hb, hml, hown, hts⟩ (ct47.2 _) (cwV 1 hts gX7_entry_X7_fails rfl rfl rfl (by decide +kernel) ⟨Nat.le_of_ble_eq_true rfl, Nat.le_of_ble_eq_true rfl⟩) ⟨(k_pre hK hP hD (is := [0]) rfl rfl).1, va_recv hK.1 hP (ci := 7) (q0 := 0) rfl rfl, (k_pre hK hP hD (is := [0]) rfl rfl).2⟩ rfl rfl hl.1 rfl (lv_room (Nat.le_of_ble_eq_true rfl)) dX7_entry_47 ⟨Nat.le_of_ble_eq_true rfl, Nat.le_of_ble_eq_true rfl⟩) ct47.1 hP hD hS hA [0] rfl rfl (fun H locs hP hD hS => ?_)
  have hP : va_P D vwCl [(m0, oR (jI ((ms : Nat) : Int)) (jI ((es : Nat) : Int)) (jI 0) a), ((a 0), .inl (cI, 42, .inl (fun i => vI (gE i))))] H := hP
  have hD : va_D A [(m0, oR (jI ((ms : Nat) : Int)) (jI ((es : Nat) : Int)) (jI 0) a), ((a 0), .inl (cI, 42, .inl (fun i => vI (gE i))))] := hD
  refine n_ifB_eq (tgt := 55) hx hb dX7_entry_50 (by decide) (fun h50 => ?_) (fun h50 => Bool.noConfusion h50)
  refine lv_aload_n hx hb dX7_entry_55 rfl (lv_at hl 1 rfl) ?_
  refine va_get (D := D) (ci := 7) (v := .ref (a 0)) (C := RX7) (T := TX7) (N := 20) hx hb hts iX7 hown hK.1 hP 0 rfl rfl 1 (by decide) f7 (fun _ h9 => h9) rfl dX7_entry_56 ?_
  refine n_bipush hx hb dX7_entry_59 (by decide) ?_
  refine lv_iload_n hx hb dX7_entry_61 rfl (lv_at hl 2 rfl) ?_
  refine n_imul hx hb dX7_entry_62 ?_
  refine lv_iload_n hx hb dX7_entry_63 rfl (lv_at hl 3 rfl) ?_
  refine n_iadd hx hb dX7_entry_64 ?_
  refine n_iald (i := (7 * mo + wh)) hx hb hK hP 1 0 rfl htI (by omega) (by omega) (Nat.le_of_ble_eq_true rfl) dX7_entry_65 ?_
  refine lv_istore (lv' := [(5, .int (vI (gE (7 * mo + wh)))), (4, .int (jI 1)), (0, .ref m0), (1, .int (jI ((mo : Nat) : Int))), (2, .int (jI ((wh : Nat) : Int))), (3, .int (vI it))]) hx hb dX7_entry_66 hl (by decide) rfl (fun ls hl => ?_)
  refine lv_aload_n hx hb dX7_entry_68 rfl (lv_at hl 2 rfl) ?_
  refine va_get (D := D) (ci := 7) (v := .ref (a 0)) (C := RX7) (T := TX7) (N := 20) hx hb hts iX7 hown hK.1 hP 0 rfl rfl 1 (by decide) f7 (fun _ h9 => h9) rfl dX7_entry_69 ?_
  refine n_bipush hx hb dX7_entry_72 (by decide) ?_
  refine lv_iload_n hx hb dX7_entry_74 rfl (lv_at hl 3 rfl) ?_
  refine n_imul hx hb dX7_entry_75 ?_
  refine lv_iload_n hx hb dX7_entry_76 rfl (lv_at hl 4 rfl) ?_
  refine n_iadd hx hb dX7_entry_77 ?_
  refine lv_iload_n hx hb dX7_entry_78 rfl (lv_at hl 5 rfl) ?_
  refine n_ziast (i := (7 * mo + wh)) (x := it) hx hb hK hP hD hS 1 0 rfl htI (by omega) (by omega) (Nat.le_of_ble_eq_true rfl) dX7_entry_79 (fun H locs hP hD hS => ?_)
  have hP : va_P D vwCl [(m0, oR (jI ((ms : Nat) : Int)) (jI ((es : Nat) : Int)) (jI 0) a), ((a 0), .inl (cI, 42, .inl (fun i => vI ((va_up gE (7 * mo + wh) it) i))))] H := hP
  have hD : va_D A [(m0, oR (jI ((ms : Nat) : Int)) (jI ((es : Nat) : Int)) (jI 0) a), ((a 0), .inl (cI, 42, .inl (fun i => vI ((va_up gE (7 * mo + wh) it) i))))] := hD
  refine lv_iload hx hb dX7_entry_80 (lv_at hl 0 rfl) ?_
  exact k_iret hx hb hr hlocks dX7_entry_82 hP hS rfl

set_option maxHeartbeats 4000000 in
set_option maxRecDepth 100000 in
/--  -/
theorem c_X7_gate1 (l : Launch) (D : va_G) (tys : List (ClassId × FieldType)) {cI cJ cZ : ClassId} (htI : tys[0]? = some (cI, .int)) (htJ : tys[1]? = some (cJ, .long)) (htZ : tys[2]? = some (cZ, .boolean)) (m0 : Nat) (a : Nat → Nat) (ms es : Nat) (th : Int32) (gG : Nat → Zp) (q1 : ms ≤ 6) (q2 : es ≤ 6) (ev it : Int) (q3 : r32 ev) (q4 : r32 it) (h9 : (inB 0 (((es : Nat) : Int) - 1) ev) = false) : CtI l D tys yX7_gate wsX7_gate 2 43 [.ref m0, .int (jI ev), .int (jI it)] (jI 0) [(m0, oR (jI ((ms : Nat) : Int)) (jI ((es : Nat) : Int)) th a), ((a 4), .inl (cI, 6, .inl (fun i => vI (gG i))))] [(m0, oR (jI ((ms : Nat) : Int)) (jI ((es : Nat) : Int)) (jI 1) a), ((a 4), .inl (cI, 6, .inl (fun i => vI (gG i))))] := by
  refine CtI.of (cc := cX7_gate) (maxL := 4) (by decide +kernel) rfl rfl (Nat.le_of_ble_eq_true rfl) ?_
  intro p e s m below meth c A ls hcx hK hP hD hA hl
  obtain ⟨hx, hb, hr, hml, hown, hts, hlocks⟩ := hcx
  have hS : va_S A s.heap s.heap [] := va_S.rf
  have hown : s.vm.findClass RX7 = some m.cls := hown
  have hl : lv_has ls 4 [(0, .ref m0), (1, .int (jI ev)), (2, .int (jI it))] := hl
  refine lv_aload_n hx hb dX7_gate_0 rfl (lv_at hl 0 rfl) ?_
  refine lv_aload_n hx hb dX7_gate_1 rfl (lv_at hl 0 rfl) ?_
  refine lv_iload_n hx hb dX7_gate_2 rfl (lv_at hl 1 rfl) ?_
  have ct3 := c_X7_isOne l D tys m0 a ms es th ev (by first | assumption | exact r32_z _ | (unfold r32; omega)) (by omega) (by omega)
  refine k_goI (va_runV (As := [.int (jI ev)]) (rest := [.ref m0]) ⟨hx, hb, hml, hown, hts⟩ (ct3.2 _) (cwV 1 hts gX7_gate_X7_isOne rfl rfl rfl (by decide +kernel) ⟨Nat.le_of_ble_eq_true rfl, Nat.le_of_ble_eq_true rfl⟩) ⟨(k_pre hK hP hD (is := [0]) rfl rfl).1, va_recv hK.1 hP (ci := 7) (q0 := 0) rfl rfl, (k_pre hK hP hD (is := [0]) rfl rfl).2⟩ rfl rfl hl.1 rfl (lv_room (Nat.le_of_ble_eq_true rfl)) dX7_gate_3 ⟨Nat.le_of_ble_eq_true rfl, Nat.le_of_ble_eq_true rfl⟩) ct3.1 hP hD hS hA [0] rfl rfl (fun H locs hP hD hS => ?_)
  have hP : va_P D vwCl [(m0, oR (jI ((ms : Nat) : Int)) (jI ((es : Nat) : Int)) th a), ((a 4), .inl (cI, 6, .inl (fun i => vI (gG i))))] H := hP
  have hD : va_D A [(m0, oR (jI ((ms : Nat) : Int)) (jI ((es : Nat) : Int)) th a), ((a 4), .inl (cI, 6, .inl (fun i => vI (gG i))))] := hD
  refine n_ifB_ne (tgt := 13) hx hb dX7_gate_6 (by decide) (fun h6 => Bool.noConfusion (h9.symm.trans h6)) (fun h6 => ?_)
  refine n_iconst hx hb dX7_gate_9 ?_
  refine lv_goto (tgt := 25) hx hb dX7_gate_10 (by decide) ?_
  have ct25 := c_X7_failsT l D tys m0 a ms es th 1 (by unfold r32; decide) (by decide)
  refine k_goI (va_runV (As := [.int (jI 1)]) (rest := []) ⟨hx, hb, hml, hown, hts⟩ (ct25.2 _) (cwV 1 hts gX7_gate_X7_fails rfl rfl rfl (by decide +kernel) ⟨Nat.le_of_ble_eq_true rfl, Nat.le_of_ble_eq_true rfl⟩) ⟨(k_pre hK hP hD (is := [0]) rfl rfl).1, va_recv hK.1 hP (ci := 7) (q0 := 0) rfl rfl, (k_pre hK hP hD (is := [0]) rfl rfl).2⟩ rfl rfl hl.1 rfl (lv_room (Nat.le_of_ble_eq_true rfl)) dX7_gate_25 ⟨Nat.le_of_ble_eq_true rfl, Nat.le_of_ble_eq_true rfl⟩) ct25.1 hP hD hS hA [0] rfl rfl (fun H locs hP hD hS => ?_)
  have hP : va_P D vwCl [(m0, oR (jI ((ms : Nat) : Int)) (jI ((es : Nat) : Int)) (jI 1) a), ((a 4), .inl (cI, 6, .inl (fun i => vI (gG i))))] H := hP
  have hD : va_D A [(m0, oR (jI ((ms : Nat) : Int)) (jI ((es : Nat) : Int)) (jI 1) a), ((a 4), .inl (cI, 6, .inl (fun i => vI (gG i))))] := hD
  refine n_ifB_eq (tgt := 33) hx hb dX7_gate_28 (by decide) (fun h28 => Bool.noConfusion h28) (fun h28 => ?_)
  refine n_iconst hx hb dX7_gate_31 ?_
  exact k_iret hx hb hr hlocks dX7_gate_32 hP hS rfl

set_option maxHeartbeats 4000000 in
set_option maxRecDepth 100000 in
/--  -/
theorem c_X7_gate2 (l : Launch) (D : va_G) (tys : List (ClassId × FieldType)) {cI cJ cZ : ClassId} (htI : tys[0]? = some (cI, .int)) (htJ : tys[1]? = some (cJ, .long)) (htZ : tys[2]? = some (cZ, .boolean)) (m0 : Nat) (a : Nat → Nat) (ms es : Nat) (th : Int32) (gG : Nat → Zp) (q1 : ms ≤ 6) (q2 : es ≤ 6) (ev it : Int) (q3 : r32 ev) (q4 : r32 it) (h9 : (inB 0 (((es : Nat) : Int) - 1) ev) = true) (h8 : (inB 0 10006 it) = false) : CtI l D tys yX7_gate wsX7_gate 2 43 [.ref m0, .int (jI ev), .int (jI it)] (jI 0) [(m0, oR (jI ((ms : Nat) : Int)) (jI ((es : Nat) : Int)) th a), ((a 4), .inl (cI, 6, .inl (fun i => vI (gG i))))] [(m0, oR (jI ((ms : Nat) : Int)) (jI ((es : Nat) : Int)) (jI 2) a), ((a 4), .inl (cI, 6, .inl (fun i => vI (gG i))))] := by
  refine CtI.of (cc := cX7_gate) (maxL := 4) (by decide +kernel) rfl rfl (Nat.le_of_ble_eq_true rfl) ?_
  intro p e s m below meth c A ls hcx hK hP hD hA hl
  obtain ⟨hx, hb, hr, hml, hown, hts, hlocks⟩ := hcx
  have hS : va_S A s.heap s.heap [] := va_S.rf
  have hown : s.vm.findClass RX7 = some m.cls := hown
  have hl : lv_has ls 4 [(0, .ref m0), (1, .int (jI ev)), (2, .int (jI it))] := hl
  refine lv_aload_n hx hb dX7_gate_0 rfl (lv_at hl 0 rfl) ?_
  refine lv_aload_n hx hb dX7_gate_1 rfl (lv_at hl 0 rfl) ?_
  refine lv_iload_n hx hb dX7_gate_2 rfl (lv_at hl 1 rfl) ?_
  have ct3 := c_X7_isOne l D tys m0 a ms es th ev (by first | assumption | exact r32_z _ | (unfold r32; omega)) (by omega) (by omega)
  refine k_goI (va_runV (As := [.int (jI ev)]) (rest := [.ref m0]) ⟨hx, hb, hml, hown, hts⟩ (ct3.2 _) (cwV 1 hts gX7_gate_X7_isOne rfl rfl rfl (by decide +kernel) ⟨Nat.le_of_ble_eq_true rfl, Nat.le_of_ble_eq_true rfl⟩) ⟨(k_pre hK hP hD (is := [0]) rfl rfl).1, va_recv hK.1 hP (ci := 7) (q0 := 0) rfl rfl, (k_pre hK hP hD (is := [0]) rfl rfl).2⟩ rfl rfl hl.1 rfl (lv_room (Nat.le_of_ble_eq_true rfl)) dX7_gate_3 ⟨Nat.le_of_ble_eq_true rfl, Nat.le_of_ble_eq_true rfl⟩) ct3.1 hP hD hS hA [0] rfl rfl (fun H locs hP hD hS => ?_)
  have hP : va_P D vwCl [(m0, oR (jI ((ms : Nat) : Int)) (jI ((es : Nat) : Int)) th a), ((a 4), .inl (cI, 6, .inl (fun i => vI (gG i))))] H := hP
  have hD : va_D A [(m0, oR (jI ((ms : Nat) : Int)) (jI ((es : Nat) : Int)) th a), ((a 4), .inl (cI, 6, .inl (fun i => vI (gG i))))] := hD
  refine n_ifB_ne (tgt := 13) hx hb dX7_gate_6 (by decide) (fun h6 => ?_) (fun h6 => Bool.noConfusion (h9.symm.trans h6))
  refine lv_iload_n hx hb dX7_gate_13 rfl (lv_at hl 2 rfl) ?_
  have ct14 := c_X7_isField l D tys it (by first | assumption | exact r32_z _ | (unfold r32; omega))
  refine k_goI (va_runS (As := [.int (jI it)]) (rest := [.ref m0]) ⟨hx, hb, hml, hown, hts⟩ (ct14.2 _) (va_cwS 1 hts gX7_gate_X7_isField rfl rfl rfl (by decide +kernel) ⟨Nat.le_of_ble_eq_true rfl, Nat.le_of_ble_eq_true rfl⟩) (k_pre hK hP hD (is := []) rfl rfl) rfl rfl hl.1 rfl (lv_room (Nat.le_of_ble_eq_true rfl)) dX7_gate_14 ⟨Nat.le_of_ble_eq_true rfl, Nat.le_of_ble_eq_true rfl⟩) ct14.1 hP hD hS hA [] rfl rfl (fun H locs hP hD hS => ?_)
  have hP : va_P D vwCl [(m0, oR (jI ((ms : Nat) : Int)) (jI ((es : Nat) : Int)) th a), ((a 4), .inl (cI, 6, .inl (fun i => vI (gG i))))] H := hP
  have hD : va_D A [(m0, oR (jI ((ms : Nat) : Int)) (jI ((es : Nat) : Int)) th a), ((a 4), .inl (cI, 6, .inl (fun i => vI (gG i))))] := hD
  refine n_ifB_eq (tgt := 24) hx hb dX7_gate_17 (by decide) (fun h17 => ?_) (fun h17 => Bool.noConfusion (h8.symm.trans h17))
  refine n_iconst hx hb dX7_gate_24 ?_
  have ct25 := c_X7_failsT l D tys m0 a ms es th 2 (by unfold r32; decide) (by decide)
  refine k_goI (va_runV (As := [.int (jI 2)]) (rest := []) ⟨hx, hb, hml, hown, hts⟩ (ct25.2 _) (cwV 1 hts gX7_gate_X7_fails rfl rfl rfl (by decide +kernel) ⟨Nat.le_of_ble_eq_true rfl, Nat.le_of_ble_eq_true rfl⟩) ⟨(k_pre hK hP hD (is := [0]) rfl rfl).1, va_recv hK.1 hP (ci := 7) (q0 := 0) rfl rfl, (k_pre hK hP hD (is := [0]) rfl rfl).2⟩ rfl rfl hl.1 rfl (lv_room (Nat.le_of_ble_eq_true rfl)) dX7_gate_25 ⟨Nat.le_of_ble_eq_true rfl, Nat.le_of_ble_eq_true rfl⟩) ct25.1 hP hD hS hA [0] rfl rfl (fun H locs hP hD hS => ?_)
  have hP : va_P D vwCl [(m0, oR (jI ((ms : Nat) : Int)) (jI ((es : Nat) : Int)) (jI 2) a), ((a 4), .inl (cI, 6, .inl (fun i => vI (gG i))))] H := hP
  have hD : va_D A [(m0, oR (jI ((ms : Nat) : Int)) (jI ((es : Nat) : Int)) (jI 2) a), ((a 4), .inl (cI, 6, .inl (fun i => vI (gG i))))] := hD
  refine n_ifB_eq (tgt := 33) hx hb dX7_gate_28 (by decide) (fun h28 => Bool.noConfusion h28) (fun h28 => ?_)
  refine n_iconst hx hb dX7_gate_31 ?_
  exact k_iret hx hb hr hlocks dX7_gate_32 hP hS rfl

set_option maxHeartbeats 4000000 in
set_option maxRecDepth 100000 in
/--  -/
theorem c_X7_gate0 (l : Launch) (D : va_G) (tys : List (ClassId × FieldType)) {cI cJ cZ : ClassId} (htI : tys[0]? = some (cI, .int)) (htJ : tys[1]? = some (cJ, .long)) (htZ : tys[2]? = some (cZ, .boolean)) (m0 : Nat) (a : Nat → Nat) (ms es : Nat) (th : Int32) (gG : Nat → Zp) (q1 : ms ≤ 6) (q2 : es ≤ 6) (ev : Nat) (it : Zp) (q3 : ev < es) : CtI l D tys yX7_gate wsX7_gate 2 43 [.ref m0, .int (jI ((ev : Nat) : Int)), .int (vI it)] (vI (gG ev)) [(m0, oR (jI ((ms : Nat) : Int)) (jI ((es : Nat) : Int)) th a), ((a 4), .inl (cI, 6, .inl (fun i => vI (gG i))))] [(m0, oR (jI ((ms : Nat) : Int)) (jI ((es : Nat) : Int)) (jI 0) a), ((a 4), .inl (cI, 6, .inl (fun i => vI ((va_up gG ev it) i))))] := by
  refine CtI.of (cc := cX7_gate) (maxL := 4) (by decide +kernel) rfl rfl (Nat.le_of_ble_eq_true rfl) ?_
  intro p e s m below meth c A ls hcx hK hP hD hA hl
  obtain ⟨hx, hb, hr, hml, hown, hts, hlocks⟩ := hcx
  have hS : va_S A s.heap s.heap [] := va_S.rf
  have hown : s.vm.findClass RX7 = some m.cls := hown
  have hl : lv_has ls 4 [(0, .ref m0), (1, .int (jI ((ev : Nat) : Int))), (2, .int (vI it))] := hl
  have f22 := hts (.fieldLink RX7 22 "FieldFilterModel" "gate" "[I") (by decide +kernel)
  have iX7 : ∀ w ∈ u_ws RX7 TX7 20, w ∈ wsX7_gate := by decide +kernel
  refine lv_aload_n hx hb dX7_gate_0 rfl (lv_at hl 0 rfl) ?_
  refine lv_aload_n hx hb dX7_gate_1 rfl (lv_at hl 0 rfl) ?_
  refine lv_iload_n hx hb dX7_gate_2 rfl (lv_at hl 1 rfl) ?_
  have ct3 := c_X7_isOne l D tys m0 a ms es th ((ev : Nat) : Int) (by first | assumption | exact r32_z _ | (unfold r32; omega)) (by omega) (by omega)
  refine k_goI (va_runV (As := [.int (jI ((ev : Nat) : Int))]) (rest := [.ref m0]) ⟨hx, hb, hml, hown, hts⟩ (ct3.2 _) (cwV 1 hts gX7_gate_X7_isOne rfl rfl rfl (by decide +kernel) ⟨Nat.le_of_ble_eq_true rfl, Nat.le_of_ble_eq_true rfl⟩) ⟨(k_pre hK hP hD (is := [0]) rfl rfl).1, va_recv hK.1 hP (ci := 7) (q0 := 0) rfl rfl, (k_pre hK hP hD (is := [0]) rfl rfl).2⟩ rfl rfl hl.1 rfl (lv_room (Nat.le_of_ble_eq_true rfl)) dX7_gate_3 ⟨Nat.le_of_ble_eq_true rfl, Nat.le_of_ble_eq_true rfl⟩) ct3.1 hP hD hS hA [0] rfl rfl (fun H locs hP hD hS => ?_)
  have hP : va_P D vwCl [(m0, oR (jI ((ms : Nat) : Int)) (jI ((es : Nat) : Int)) th a), ((a 4), .inl (cI, 6, .inl (fun i => vI (gG i))))] H := hP
  have hD : va_D A [(m0, oR (jI ((ms : Nat) : Int)) (jI ((es : Nat) : Int)) th a), ((a 4), .inl (cI, 6, .inl (fun i => vI (gG i))))] := hD
  refine n_ifB_ne (tgt := 13) hx hb dX7_gate_6 (by decide) (fun h6 => ?_) (fun h6 => Bool.noConfusion ((inB_t (by omega) (by omega)).symm.trans h6))
  refine lv_iload_n hx hb dX7_gate_13 rfl (lv_at hl 2 rfl) ?_
  have ct14 := c_X7_isField l D tys (zv it) (by have h9 := (rp_v it); exact ⟨by have := h9.1; omega, by have := h9.2.1; omega⟩)
  refine k_goI (va_runS (As := [.int (vI it)]) (rest := [.ref m0]) ⟨hx, hb, hml, hown, hts⟩ (ct14.2 _) (va_cwS 1 hts gX7_gate_X7_isField rfl rfl rfl (by decide +kernel) ⟨Nat.le_of_ble_eq_true rfl, Nat.le_of_ble_eq_true rfl⟩) (k_pre hK hP hD (is := []) rfl rfl) rfl rfl hl.1 rfl (lv_room (Nat.le_of_ble_eq_true rfl)) dX7_gate_14 ⟨Nat.le_of_ble_eq_true rfl, Nat.le_of_ble_eq_true rfl⟩) ct14.1 hP hD hS hA [] rfl rfl (fun H locs hP hD hS => ?_)
  have hP : va_P D vwCl [(m0, oR (jI ((ms : Nat) : Int)) (jI ((es : Nat) : Int)) th a), ((a 4), .inl (cI, 6, .inl (fun i => vI (gG i))))] H := hP
  have hD : va_D A [(m0, oR (jI ((ms : Nat) : Int)) (jI ((es : Nat) : Int)) th a), ((a 4), .inl (cI, 6, .inl (fun i => vI (gG i))))] := hD
  refine n_ifB_eq (tgt := 24) hx hb dX7_gate_17 (by decide) (fun h17 => Bool.noConfusion ((inB_t (zv_0 _) (zv_le _)).symm.trans h17)) (fun h17 => ?_)
  refine n_iconst hx hb dX7_gate_20 ?_
  refine lv_goto (tgt := 25) hx hb dX7_gate_21 (by decide) ?_
  have ct25 := c_X7_failsF l D tys m0 a ms es th
  refine k_goI (va_runV (As := [.int (jI 0)]) (rest := []) ⟨hx, hb, hml, hown, hts⟩ (ct25.2 _) (cwV 1 hts gX7_gate_X7_fails rfl rfl rfl (by decide +kernel) ⟨Nat.le_of_ble_eq_true rfl, Nat.le_of_ble_eq_true rfl⟩) ⟨(k_pre hK hP hD (is := [0]) rfl rfl).1, va_recv hK.1 hP (ci := 7) (q0 := 0) rfl rfl, (k_pre hK hP hD (is := [0]) rfl rfl).2⟩ rfl rfl hl.1 rfl (lv_room (Nat.le_of_ble_eq_true rfl)) dX7_gate_25 ⟨Nat.le_of_ble_eq_true rfl, Nat.le_of_ble_eq_true rfl⟩) ct25.1 hP hD hS hA [0] rfl rfl (fun H locs hP hD hS => ?_)
  have hP : va_P D vwCl [(m0, oR (jI ((ms : Nat) : Int)) (jI ((es : Nat) : Int)) (jI 0) a), ((a 4), .inl (cI, 6, .inl (fun i => vI (gG i))))] H := hP
  have hD : va_D A [(m0, oR (jI ((ms : Nat) : Int)) (jI ((es : Nat) : Int)) (jI 0) a), ((a 4), .inl (cI, 6, .inl (fun i => vI (gG i))))] := hD
  refine n_ifB_eq (tgt := 33) hx hb dX7_gate_28 (by decide) (fun h28 => ?_) (fun h28 => Bool.noConfusion h28)
  refine lv_aload_n hx hb dX7_gate_33 rfl (lv_at hl 0 rfl) ?_
  refine va_get (D := D) (ci := 7) (v := .ref (a 4)) (C := RX7) (T := TX7) (N := 20) hx hb hts iX7 hown hK.1 hP 0 rfl rfl 6 (by decide) f22 (fun _ h9 => h9) rfl dX7_gate_34 ?_
  refine lv_iload_n hx hb dX7_gate_37 rfl (lv_at hl 1 rfl) ?_
  refine n_iald (i := ev) hx hb hK hP 1 0 rfl htI rfl (by omega) (Nat.le_of_ble_eq_true rfl) dX7_gate_38 ?_
  refine lv_istore_n (lv' := [(3, .int (vI (gG ev))), (0, .ref m0), (1, .int (jI ((ev : Nat) : Int))), (2, .int (vI it))]) hx hb dX7_gate_39 rfl hl (by decide) rfl (fun ls hl => ?_)
  refine lv_aload_n hx hb dX7_gate_40 rfl (lv_at hl 1 rfl) ?_
  refine va_get (D := D) (ci := 7) (v := .ref (a 4)) (C := RX7) (T := TX7) (N := 20) hx hb hts iX7 hown hK.1 hP 0 rfl rfl 6 (by decide) f22 (fun _ h9 => h9) rfl dX7_gate_41 ?_
  refine lv_iload_n hx hb dX7_gate_44 rfl (lv_at hl 2 rfl) ?_
  refine lv_iload_n hx hb dX7_gate_45 rfl (lv_at hl 3 rfl) ?_
  refine n_ziast (i := ev) (x := it) hx hb hK hP hD hS 1 0 rfl htI rfl (by omega) (Nat.le_of_ble_eq_true rfl) dX7_gate_46 (fun H locs hP hD hS => ?_)
  have hP : va_P D vwCl [(m0, oR (jI ((ms : Nat) : Int)) (jI ((es : Nat) : Int)) (jI 0) a), ((a 4), .inl (cI, 6, .inl (fun i => vI ((va_up gG ev it) i))))] H := hP
  have hD : va_D A [(m0, oR (jI ((ms : Nat) : Int)) (jI ((es : Nat) : Int)) (jI 0) a), ((a 4), .inl (cI, 6, .inl (fun i => vI ((va_up gG ev it) i))))] := hD
  refine lv_iload_n hx hb dX7_gate_47 rfl (lv_at hl 0 rfl) ?_
  exact k_iret hx hb hr hlocks dX7_gate_48 hP hS rfl

set_option maxHeartbeats 4000000 in
set_option maxRecDepth 100000 in
/--  -/
theorem c_X7_predict1 (l : Launch) (D : va_G) (tys : List (ClassId × FieldType)) {cI cJ cZ : ClassId} (htI : tys[0]? = some (cI, .int)) (htJ : tys[1]? = some (cJ, .long)) (htZ : tys[2]? = some (cZ, .boolean)) (m0 : Nat) (a : Nat → Nat) (ms es : Nat) (th : Int32) (gT : Nat → Nat) (q1 : ms ≤ 6) (q2 : es ≤ 6) (ev : Int) (q3 : r32 ev) (h9 : (inB 0 (((es : Nat) : Int) - 1) ev) = false) : CtI l D tys yX7_predict wsX7_predict 2 43 [.ref m0, .int (jI ev)] (jI 0) [(m0, oR (jI ((ms : Nat) : Int)) (jI ((es : Nat) : Int)) th a), ((a 3), .inl (cI, 6, .inl (fun i => jI ((gT i : Nat) : Int))))] [(m0, oR (jI ((ms : Nat) : Int)) (jI ((es : Nat) : Int)) (jI 1) a), ((a 3), .inl (cI, 6, .inl (fun i => jI ((gT i : Nat) : Int))))] := by
  refine CtI.of (cc := cX7_predict) (maxL := 2) (by decide +kernel) rfl rfl (Nat.le_of_ble_eq_true rfl) ?_
  intro p e s m below meth c A ls hcx hK hP hD hA hl
  obtain ⟨hx, hb, hr, hml, hown, hts, hlocks⟩ := hcx
  have hS : va_S A s.heap s.heap [] := va_S.rf
  have hown : s.vm.findClass RX7 = some m.cls := hown
  have hl : lv_has ls 2 [(0, .ref m0), (1, .int (jI ev))] := hl
  refine lv_aload_n hx hb dX7_predict_0 rfl (lv_at hl 0 rfl) ?_
  refine lv_aload_n hx hb dX7_predict_1 rfl (lv_at hl 0 rfl) ?_
  refine lv_iload_n hx hb dX7_predict_2 rfl (lv_at hl 1 rfl) ?_
  have ct3 := c_X7_isOne l D tys m0 a ms es th ev (by first | assumption | exact r32_z _ | (unfold r32; omega)) (by omega) (by omega)
  refine k_goI (va_runV (As := [.int (jI ev)]) (rest := [.ref m0]) ⟨hx, hb, hml, hown, hts⟩ (ct3.2 _) (cwV 1 hts gX7_predict_X7_isOne rfl rfl rfl (by decide +kernel) ⟨Nat.le_of_ble_eq_true rfl, Nat.le_of_ble_eq_true rfl⟩) ⟨(k_pre hK hP hD (is := [0]) rfl rfl).1, va_recv hK.1 hP (ci := 7) (q0 := 0) rfl rfl, (k_pre hK hP hD (is := [0]) rfl rfl).2⟩ rfl rfl hl.1 rfl (lv_room (Nat.le_of_ble_eq_true rfl)) dX7_predict_3 ⟨Nat.le_of_ble_eq_true rfl, Nat.le_of_ble_eq_true rfl⟩) ct3.1 hP hD hS hA [0] rfl rfl (fun H locs hP hD hS => ?_)
  have hP : va_P D vwCl [(m0, oR (jI ((ms : Nat) : Int)) (jI ((es : Nat) : Int)) th a), ((a 3), .inl (cI, 6, .inl (fun i => jI ((gT i : Nat) : Int))))] H := hP
  have hD : va_D A [(m0, oR (jI ((ms : Nat) : Int)) (jI ((es : Nat) : Int)) th a), ((a 3), .inl (cI, 6, .inl (fun i => jI ((gT i : Nat) : Int))))] := hD
  refine n_ifB_ne (tgt := 13) hx hb dX7_predict_6 (by decide) (fun h6 => Bool.noConfusion (h9.symm.trans h6)) (fun h6 => ?_)
  refine n_iconst hx hb dX7_predict_9 ?_
  refine lv_goto (tgt := 29) hx hb dX7_predict_10 (by decide) ?_
  have ct29 := c_X7_failsT l D tys m0 a ms es th 1 (by unfold r32; decide) (by decide)
  refine k_goI (va_runV (As := [.int (jI 1)]) (rest := []) ⟨hx, hb, hml, hown, hts⟩ (ct29.2 _) (cwV 1 hts gX7_predict_X7_fails rfl rfl rfl (by decide +kernel) ⟨Nat.le_of_ble_eq_true rfl, Nat.le_of_ble_eq_true rfl⟩) ⟨(k_pre hK hP hD (is := [0]) rfl rfl).1, va_recv hK.1 hP (ci := 7) (q0 := 0) rfl rfl, (k_pre hK hP hD (is := [0]) rfl rfl).2⟩ rfl rfl hl.1 rfl (lv_room (Nat.le_of_ble_eq_true rfl)) dX7_predict_29 ⟨Nat.le_of_ble_eq_true rfl, Nat.le_of_ble_eq_true rfl⟩) ct29.1 hP hD hS hA [0] rfl rfl (fun H locs hP hD hS => ?_)
  have hP : va_P D vwCl [(m0, oR (jI ((ms : Nat) : Int)) (jI ((es : Nat) : Int)) (jI 1) a), ((a 3), .inl (cI, 6, .inl (fun i => jI ((gT i : Nat) : Int))))] H := hP
  have hD : va_D A [(m0, oR (jI ((ms : Nat) : Int)) (jI ((es : Nat) : Int)) (jI 1) a), ((a 3), .inl (cI, 6, .inl (fun i => jI ((gT i : Nat) : Int))))] := hD
  refine n_ifB_eq (tgt := 37) hx hb dX7_predict_32 (by decide) (fun h32 => Bool.noConfusion h32) (fun h32 => ?_)
  refine n_iconst hx hb dX7_predict_35 ?_
  exact k_iret hx hb hr hlocks dX7_predict_36 hP hS rfl

set_option maxHeartbeats 4000000 in
set_option maxRecDepth 100000 in
/--  -/
theorem c_X7_predict2 (l : Launch) (D : va_G) (tys : List (ClassId × FieldType)) {cI cJ cZ : ClassId} (htI : tys[0]? = some (cI, .int)) (htJ : tys[1]? = some (cJ, .long)) (htZ : tys[2]? = some (cZ, .boolean)) (m0 : Nat) (a : Nat → Nat) (ms es : Nat) (th : Int32) (gT : Nat → Nat) (q1 : ms ≤ 6) (q2 : es ≤ 6) (ev : Nat) (q3 : ev < es) (h9 : gT ev = 20) : CtI l D tys yX7_predict wsX7_predict 2 43 [.ref m0, .int (jI ((ev : Nat) : Int))] (jI 0) [(m0, oR (jI ((ms : Nat) : Int)) (jI ((es : Nat) : Int)) th a), ((a 3), .inl (cI, 6, .inl (fun i => jI ((gT i : Nat) : Int))))] [(m0, oR (jI ((ms : Nat) : Int)) (jI ((es : Nat) : Int)) (jI 2) a), ((a 3), .inl (cI, 6, .inl (fun i => jI ((gT i : Nat) : Int))))] := by
  refine CtI.of (cc := cX7_predict) (maxL := 2) (by decide +kernel) rfl rfl (Nat.le_of_ble_eq_true rfl) ?_
  intro p e s m below meth c A ls hcx hK hP hD hA hl
  obtain ⟨hx, hb, hr, hml, hown, hts, hlocks⟩ := hcx
  have hS : va_S A s.heap s.heap [] := va_S.rf
  have hown : s.vm.findClass RX7 = some m.cls := hown
  have hl : lv_has ls 2 [(0, .ref m0), (1, .int (jI ((ev : Nat) : Int)))] := hl
  have f19 := hts (.fieldLink RX7 19 "FieldFilterModel" "time" "[I") (by decide +kernel)
  have iX7 : ∀ w ∈ u_ws RX7 TX7 20, w ∈ wsX7_predict := by decide +kernel
  refine lv_aload_n hx hb dX7_predict_0 rfl (lv_at hl 0 rfl) ?_
  refine lv_aload_n hx hb dX7_predict_1 rfl (lv_at hl 0 rfl) ?_
  refine lv_iload_n hx hb dX7_predict_2 rfl (lv_at hl 1 rfl) ?_
  have ct3 := c_X7_isOne l D tys m0 a ms es th ((ev : Nat) : Int) (by first | assumption | exact r32_z _ | (unfold r32; omega)) (by omega) (by omega)
  refine k_goI (va_runV (As := [.int (jI ((ev : Nat) : Int))]) (rest := [.ref m0]) ⟨hx, hb, hml, hown, hts⟩ (ct3.2 _) (cwV 1 hts gX7_predict_X7_isOne rfl rfl rfl (by decide +kernel) ⟨Nat.le_of_ble_eq_true rfl, Nat.le_of_ble_eq_true rfl⟩) ⟨(k_pre hK hP hD (is := [0]) rfl rfl).1, va_recv hK.1 hP (ci := 7) (q0 := 0) rfl rfl, (k_pre hK hP hD (is := [0]) rfl rfl).2⟩ rfl rfl hl.1 rfl (lv_room (Nat.le_of_ble_eq_true rfl)) dX7_predict_3 ⟨Nat.le_of_ble_eq_true rfl, Nat.le_of_ble_eq_true rfl⟩) ct3.1 hP hD hS hA [0] rfl rfl (fun H locs hP hD hS => ?_)
  have hP : va_P D vwCl [(m0, oR (jI ((ms : Nat) : Int)) (jI ((es : Nat) : Int)) th a), ((a 3), .inl (cI, 6, .inl (fun i => jI ((gT i : Nat) : Int))))] H := hP
  have hD : va_D A [(m0, oR (jI ((ms : Nat) : Int)) (jI ((es : Nat) : Int)) th a), ((a 3), .inl (cI, 6, .inl (fun i => jI ((gT i : Nat) : Int))))] := hD
  refine n_ifB_ne (tgt := 13) hx hb dX7_predict_6 (by decide) (fun h6 => ?_) (fun h6 => Bool.noConfusion ((inB_t (by omega) (by omega)).symm.trans h6))
  refine lv_aload_n hx hb dX7_predict_13 rfl (lv_at hl 0 rfl) ?_
  refine va_get (D := D) (ci := 7) (v := .ref (a 3)) (C := RX7) (T := TX7) (N := 20) hx hb hts iX7 hown hK.1 hP 0 rfl rfl 5 (by decide) f19 (fun _ h9 => h9) rfl dX7_predict_14 ?_
  refine lv_iload_n hx hb dX7_predict_17 rfl (lv_at hl 1 rfl) ?_
  refine n_iald (i := ev) hx hb hK hP 1 0 rfl htI rfl (by omega) (Nat.le_of_ble_eq_true rfl) dX7_predict_18 ?_
  refine n_bipush hx hb dX7_predict_19 (by decide) ?_
  refine n_icmp_ne (tgt := 28) hx hb (by unfold r32; omega) (by unfold r32; omega) dX7_predict_21 (by decide) (fun h21 => False.elim (h21 (by omega))) (fun h21 => ?_)
  refine n_iconst hx hb dX7_predict_24 ?_
  refine lv_goto (tgt := 29) hx hb dX7_predict_25 (by decide) ?_
  have ct29 := c_X7_failsT l D tys m0 a ms es th 2 (by unfold r32; decide) (by decide)
  refine k_goI (va_runV (As := [.int (jI 2)]) (rest := []) ⟨hx, hb, hml, hown, hts⟩ (ct29.2 _) (cwV 1 hts gX7_predict_X7_fails rfl rfl rfl (by decide +kernel) ⟨Nat.le_of_ble_eq_true rfl, Nat.le_of_ble_eq_true rfl⟩) ⟨(k_pre hK hP hD (is := [0]) rfl rfl).1, va_recv hK.1 hP (ci := 7) (q0 := 0) rfl rfl, (k_pre hK hP hD (is := [0]) rfl rfl).2⟩ rfl rfl hl.1 rfl (lv_room (Nat.le_of_ble_eq_true rfl)) dX7_predict_29 ⟨Nat.le_of_ble_eq_true rfl, Nat.le_of_ble_eq_true rfl⟩) ct29.1 hP hD hS hA [0] rfl rfl (fun H locs hP hD hS => ?_)
  have hP : va_P D vwCl [(m0, oR (jI ((ms : Nat) : Int)) (jI ((es : Nat) : Int)) (jI 2) a), ((a 3), .inl (cI, 6, .inl (fun i => jI ((gT i : Nat) : Int))))] H := hP
  have hD : va_D A [(m0, oR (jI ((ms : Nat) : Int)) (jI ((es : Nat) : Int)) (jI 2) a), ((a 3), .inl (cI, 6, .inl (fun i => jI ((gT i : Nat) : Int))))] := hD
  refine n_ifB_eq (tgt := 37) hx hb dX7_predict_32 (by decide) (fun h32 => Bool.noConfusion h32) (fun h32 => ?_)
  refine n_iconst hx hb dX7_predict_35 ?_
  exact k_iret hx hb hr hlocks dX7_predict_36 hP hS rfl

set_option maxHeartbeats 4000000 in
set_option maxRecDepth 100000 in
/--  -/
theorem c_X7_predict0 (l : Launch) (D : va_G) (tys : List (ClassId × FieldType)) {cI cJ cZ : ClassId} (htI : tys[0]? = some (cI, .int)) (htJ : tys[1]? = some (cJ, .long)) (htZ : tys[2]? = some (cZ, .boolean)) (m0 : Nat) (a : Nat → Nat) (ms es : Nat) (th : Int32) (gT : Nat → Nat) (q1 : ms ≤ 6) (q2 : es ≤ 6) (ev : Nat) (q3 : ev < es) (h9 : gT ev < 20) : CtI l D tys yX7_predict wsX7_predict 2 43 [.ref m0, .int (jI ((ev : Nat) : Int))] (jI (((gT ev + 1) : Nat) : Int)) [(m0, oR (jI ((ms : Nat) : Int)) (jI ((es : Nat) : Int)) th a), ((a 3), .inl (cI, 6, .inl (fun i => jI ((gT i : Nat) : Int))))] [(m0, oR (jI ((ms : Nat) : Int)) (jI ((es : Nat) : Int)) (jI 0) a), ((a 3), .inl (cI, 6, .inl (fun i => jI (((va_up gT ev (gT ev + 1)) i : Nat) : Int))))] := by
  refine CtI.of (cc := cX7_predict) (maxL := 2) (by decide +kernel) rfl rfl (Nat.le_of_ble_eq_true rfl) ?_
  intro p e s m below meth c A ls hcx hK hP hD hA hl
  obtain ⟨hx, hb, hr, hml, hown, hts, hlocks⟩ := hcx
  have hS : va_S A s.heap s.heap [] := va_S.rf
  have hown : s.vm.findClass RX7 = some m.cls := hown
  have hl : lv_has ls 2 [(0, .ref m0), (1, .int (jI ((ev : Nat) : Int)))] := hl
  have f19 := hts (.fieldLink RX7 19 "FieldFilterModel" "time" "[I") (by decide +kernel)
  have iX7 : ∀ w ∈ u_ws RX7 TX7 20, w ∈ wsX7_predict := by decide +kernel
  refine lv_aload_n hx hb dX7_predict_0 rfl (lv_at hl 0 rfl) ?_
  refine lv_aload_n hx hb dX7_predict_1 rfl (lv_at hl 0 rfl) ?_
  refine lv_iload_n hx hb dX7_predict_2 rfl (lv_at hl 1 rfl) ?_
  have ct3 := c_X7_isOne l D tys m0 a ms es th ((ev : Nat) : Int) (by first | assumption | exact r32_z _ | (unfold r32; omega)) (by omega) (by omega)
  refine k_goI (va_runV (As := [.int (jI ((ev : Nat) : Int))]) (rest := [.ref m0]) ⟨hx, hb, hml, hown, hts⟩ (ct3.2 _) (cwV 1 hts gX7_predict_X7_isOne rfl rfl rfl (by decide +kernel) ⟨Nat.le_of_ble_eq_true rfl, Nat.le_of_ble_eq_true rfl⟩) ⟨(k_pre hK hP hD (is := [0]) rfl rfl).1, va_recv hK.1 hP (ci := 7) (q0 := 0) rfl rfl, (k_pre hK hP hD (is := [0]) rfl rfl).2⟩ rfl rfl hl.1 rfl (lv_room (Nat.le_of_ble_eq_true rfl)) dX7_predict_3 ⟨Nat.le_of_ble_eq_true rfl, Nat.le_of_ble_eq_true rfl⟩) ct3.1 hP hD hS hA [0] rfl rfl (fun H locs hP hD hS => ?_)
  have hP : va_P D vwCl [(m0, oR (jI ((ms : Nat) : Int)) (jI ((es : Nat) : Int)) th a), ((a 3), .inl (cI, 6, .inl (fun i => jI ((gT i : Nat) : Int))))] H := hP
  have hD : va_D A [(m0, oR (jI ((ms : Nat) : Int)) (jI ((es : Nat) : Int)) th a), ((a 3), .inl (cI, 6, .inl (fun i => jI ((gT i : Nat) : Int))))] := hD
  refine n_ifB_ne (tgt := 13) hx hb dX7_predict_6 (by decide) (fun h6 => ?_) (fun h6 => Bool.noConfusion ((inB_t (by omega) (by omega)).symm.trans h6))
  refine lv_aload_n hx hb dX7_predict_13 rfl (lv_at hl 0 rfl) ?_
  refine va_get (D := D) (ci := 7) (v := .ref (a 3)) (C := RX7) (T := TX7) (N := 20) hx hb hts iX7 hown hK.1 hP 0 rfl rfl 5 (by decide) f19 (fun _ h9 => h9) rfl dX7_predict_14 ?_
  refine lv_iload_n hx hb dX7_predict_17 rfl (lv_at hl 1 rfl) ?_
  refine n_iald (i := ev) hx hb hK hP 1 0 rfl htI rfl (by omega) (Nat.le_of_ble_eq_true rfl) dX7_predict_18 ?_
  refine n_bipush hx hb dX7_predict_19 (by decide) ?_
  refine n_icmp_ne (tgt := 28) hx hb (by unfold r32; omega) (by unfold r32; omega) dX7_predict_21 (by decide) (fun h21 => ?_) (fun h21 => False.elim (by omega))
  refine n_iconst hx hb dX7_predict_28 ?_
  have ct29 := c_X7_failsF l D tys m0 a ms es th
  refine k_goI (va_runV (As := [.int (jI 0)]) (rest := []) ⟨hx, hb, hml, hown, hts⟩ (ct29.2 _) (cwV 1 hts gX7_predict_X7_fails rfl rfl rfl (by decide +kernel) ⟨Nat.le_of_ble_eq_true rfl, Nat.le_of_ble_eq_true rfl⟩) ⟨(k_pre hK hP hD (is := [0]) rfl rfl).1, va_recv hK.1 hP (ci := 7) (q0 := 0) rfl rfl, (k_pre hK hP hD (is := [0]) rfl rfl).2⟩ rfl rfl hl.1 rfl (lv_room (Nat.le_of_ble_eq_true rfl)) dX7_predict_29 ⟨Nat.le_of_ble_eq_true rfl, Nat.le_of_ble_eq_true rfl⟩) ct29.1 hP hD hS hA [0] rfl rfl (fun H locs hP hD hS => ?_)
  have hP : va_P D vwCl [(m0, oR (jI ((ms : Nat) : Int)) (jI ((es : Nat) : Int)) (jI 0) a), ((a 3), .inl (cI, 6, .inl (fun i => jI ((gT i : Nat) : Int))))] H := hP
  have hD : va_D A [(m0, oR (jI ((ms : Nat) : Int)) (jI ((es : Nat) : Int)) (jI 0) a), ((a 3), .inl (cI, 6, .inl (fun i => jI ((gT i : Nat) : Int))))] := hD
  refine n_ifB_eq (tgt := 37) hx hb dX7_predict_32 (by decide) (fun h32 => ?_) (fun h32 => Bool.noConfusion h32)
  refine lv_aload_n hx hb dX7_predict_37 rfl (lv_at hl 0 rfl) ?_
  refine va_get (D := D) (ci := 7) (v := .ref (a 3)) (C := RX7) (T := TX7) (N := 20) hx hb hts iX7 hown hK.1 hP 0 rfl rfl 5 (by decide) f19 (fun _ h9 => h9) rfl dX7_predict_38 ?_
  refine lv_iload_n hx hb dX7_predict_41 rfl (lv_at hl 1 rfl) ?_
  refine lv_dup2_11 hx hb dX7_predict_42 rfl rfl ?_
  refine n_iald (i := ev) hx hb hK hP 1 0 rfl htI rfl (by omega) (Nat.le_of_ble_eq_true rfl) dX7_predict_43 ?_
  refine n_iconst hx hb dX7_predict_44 ?_
  refine n_iadd hx hb dX7_predict_45 ?_
  refine n_nast (i := ev) (v := (gT ev + 1)) hx hb hK hP hD hS 1 0 rfl htI (by omega) rfl (by omega) (Nat.le_of_ble_eq_true rfl) dX7_predict_46 (fun H locs hP hD hS => ?_)
  have hP : va_P D vwCl [(m0, oR (jI ((ms : Nat) : Int)) (jI ((es : Nat) : Int)) (jI 0) a), ((a 3), .inl (cI, 6, .inl (fun i => jI (((va_up gT ev (gT ev + 1)) i : Nat) : Int))))] H := hP
  have hD : va_D A [(m0, oR (jI ((ms : Nat) : Int)) (jI ((es : Nat) : Int)) (jI 0) a), ((a 3), .inl (cI, 6, .inl (fun i => jI (((va_up gT ev (gT ev + 1)) i : Nat) : Int))))] := hD
  refine lv_aload_n hx hb dX7_predict_47 rfl (lv_at hl 0 rfl) ?_
  refine va_get (D := D) (ci := 7) (v := .ref (a 3)) (C := RX7) (T := TX7) (N := 20) hx hb hts iX7 hown hK.1 hP 0 rfl rfl 5 (by decide) f19 (fun _ h9 => h9) rfl dX7_predict_48 ?_
  refine lv_iload_n hx hb dX7_predict_51 rfl (lv_at hl 1 rfl) ?_
  refine n_iald (i := ev) hx hb hK hP 1 0 rfl htI rfl (by omega) (Nat.le_of_ble_eq_true rfl) dX7_predict_52 ?_
  exact k_iret hx hb hr hlocks dX7_predict_53 hP hS (by simp [va_up])
