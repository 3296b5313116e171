/-! the leaves: numbers, columns, symmetric matrices -/
def pwf : Nat → Nat → Zp → Zp → Zp
  | 0, _, r, _ => r
  | f + 1, n, r, q => if n = 0 then r else pwf f (n / 2) (if n % 2 = 1 then r * q else r) (q * q)
def zinv (a : Zp) : Zp := pwf 14 10005 1 a
theorem rp_0 : Rp 0 0 0 := ⟨by omega, by omega, by decide⟩
theorem rp_1 : Rp 1 1 1 := ⟨by omega, by omega, by decide⟩
set_option maxHeartbeats 4000000 in
set_option maxRecDepth 100000 in
/-- both numbers -/
theorem c_X0_set (l : Launch) (D : va_G) (tys : List (ClassId × FieldType)) (h0 : Nat) (u v a b : Int32) : CtV l D tys yX0_set wsX0_set 0 0 [.ref h0, .int a, .int b] [(h0, .inr (0, [.int u, .int v]))] [(h0, .inr (0, [.int a, .int b]))] := by
  refine CtV.of (cc := cX0_set) (maxL := 3) (by decide +kernel) rfl rfl (Nat.le_of_ble_eq_true rfl) ?_
  intro p e s m below meth c A ls hcx hK hP hD hA hl
  obtain ⟨hx, hb, hr, hml, hown, hts, hlocks⟩ := hcx
  have hS : va_S A s.heap s.heap [] := va_S.rf
  have hown : s.vm.findClass RX0 = some m.cls := hown
  have hl : lv_has ls 3 [(0, .ref h0), (1, .int a), (2, .int b)] := hl
  have f9 := hts (.fieldLink RX0 9 "FieldFilter$Column" "upper" "I") (by decide +kernel)
  have iX0 : ∀ w ∈ u_ws RX0 TX0 2, w ∈ wsX0_set := by decide +kernel
  have f15 := hts (.fieldLink RX0 15 "FieldFilter$Column" "lower" "I") (by decide +kernel)
  refine lv_aload_n hx hb dX0_set_0 rfl (lv_at hl 0 rfl) ?_
  refine lv_iload_n hx hb dX0_set_1 rfl (lv_at hl 1 rfl) ?_
  refine va_put (D := D) (ci := 0) (v := .int a) (ty := .int) (C := RX0) (T := TX0) (N := 2) hx hb hts iX0 tyX0 tyX0_ok nmX0 hown hK.1 hP hD hS 0 rfl rfl 0 (by decide) f9 (fun _ h9 => h9) rfl (by decide +kernel) rfl rfl (Nat.le_of_ble_eq_true rfl) dX0_set_2 (fun H locs hP hD hS => ?_)
  have hP : va_P D vwCl [(h0, .inr (0, [.int a, .int v]))] H := hP
  have hD : va_D A [(h0, .inr (0, [.int a, .int v]))] := hD
  refine lv_aload_n hx hb dX0_set_5 rfl (lv_at hl 0 rfl) ?_
  refine lv_iload_n hx hb dX0_set_6 rfl (lv_at hl 2 rfl) ?_
  refine va_put (D := D) (ci := 0) (v := .int b) (ty := .int) (C := RX0) (T := TX0) (N := 2) hx hb hts iX0 tyX0 tyX0_ok nmX0 hown hK.1 hP hD hS 0 rfl rfl 1 (by decide) f15 (fun _ h9 => h9) rfl (by decide +kernel) rfl rfl (Nat.le_of_ble_eq_true rfl) dX0_set_7 (fun H locs hP hD hS => ?_)
  have hP : va_P D vwCl [(h0, .inr (0, [.int a, .int b]))] H := hP
  have hD : va_D A [(h0, .inr (0, [.int a, .int b]))] := hD
  exact k_vret hx hb hr hlocks dX0_set_10 hP hS

set_option maxHeartbeats 4000000 in
set_option maxRecDepth 100000 in
/--  -/
theorem c_X0_copy (l : Launch) (D : va_G) (tys : List (ClassId × FieldType)) (h0 o : Nat) (u v a b : Int32) : CtV l D tys yX0_copy wsX0_copy 1 22 [.ref h0, .ref o] [(h0, .inr (0, [.int u, .int v])), (o, .inr (0, [.int a, .int b]))] [(h0, .inr (0, [.int a, .int b])), (o, .inr (0, [.int a, .int b]))] := by
  refine CtV.of (cc := cX0_copy) (maxL := 2) (by decide +kernel) rfl rfl (Nat.le_of_ble_eq_true rfl) ?_
  intro p e s m below meth c A ls hcx hK hP hD hA hl
  obtain ⟨hx, hb, hr, hml, hown, hts, hlocks⟩ := hcx
  have hS : va_S A s.heap s.heap [] := va_S.rf
  have hown : s.vm.findClass RX0 = some m.cls := hown
  have hl : lv_has ls 2 [(0, .ref h0), (1, .ref o)] := hl
  have f9 := hts (.fieldLink RX0 9 "FieldFilter$Column" "upper" "I") (by decide +kernel)
  have iX0 : ∀ w ∈ u_ws RX0 TX0 2, w ∈ wsX0_copy := by decide +kernel
  have f15 := hts (.fieldLink RX0 15 "FieldFilter$Column" "lower" "I") (by decide +kernel)
  refine lv_aload_n hx hb dX0_copy_0 rfl (lv_at hl 0 rfl) ?_
  refine lv_aload_n hx hb dX0_copy_1 rfl (lv_at hl 1 rfl) ?_
  refine va_get (D := D) (ci := 0) (v := .int a) (C := RX0) (T := TX0) (N := 2) hx hb hts iX0 hown hK.1 hP 1 rfl rfl 0 (by decide) f9 (fun _ h9 => h9) rfl dX0_copy_2 ?_
  refine lv_aload_n hx hb dX0_copy_5 rfl (lv_at hl 1 rfl) ?_
  refine va_get (D := D) (ci := 0) (v := .int b) (C := RX0) (T := TX0) (N := 2) hx hb hts iX0 hown hK.1 hP 1 rfl rfl 1 (by decide) f15 (fun _ h9 => h9) rfl dX0_copy_6 ?_
  have ct9 := c_X0_set l D tys h0 u v a b
  refine k_goV (va_runV (As := [.int a, .int b]) (rest := []) ⟨hx, hb, hml, hown, hts⟩ (ct9.2 _) (cwV 2 hts gX0_copy_X0_set rfl rfl rfl (by decide +kernel) ⟨Nat.le_of_ble_eq_true rfl, Nat.le_of_ble_eq_true rfl⟩) ⟨(k_pre hK hP hD (is := [0]) rfl rfl).1, va_recv hK.1 hP (ci := 0) (q0 := 0) rfl rfl, (k_pre hK hP hD (is := [0]) rfl rfl).2⟩ rfl rfl hl.1 rfl (lv_room (Nat.le_of_ble_eq_true rfl)) dX0_copy_9 ⟨Nat.le_of_ble_eq_true rfl, Nat.le_of_ble_eq_true rfl⟩) ct9.1 hP hD hS hA [0] rfl rfl (fun H locs hP hD hS => ?_)
  have hP : va_P D vwCl [(h0, .inr (0, [.int a, .int b])), (o, .inr (0, [.int a, .int b]))] H := hP
  have hD : va_D A [(h0, .inr (0, [.int a, .int b])), (o, .inr (0, [.int a, .int b]))] := hD
  exact k_vret hx hb hr hlocks dX0_copy_12 hP hS

set_option maxHeartbeats 4000000 in
set_option maxRecDepth 100000 in
/--  -/
theorem c_X0_number0 (l : Launch) (D : va_G) (tys : List (ClassId × FieldType)) (h0 : Nat) (u v : Int32) : CtI l D tys yX0_number wsX0_number 0 0 [.ref h0, .int (jI 0)] u [(h0, .inr (0, [.int u, .int v]))] [(h0, .inr (0, [.int u, .int v]))] := by
  refine CtI.of (cc := cX0_number) (maxL := 2) (by decide +kernel) rfl rfl (Nat.le_of_ble_eq_true rfl) ?_
  intro p e s m below meth c A ls hcx hK hP hD hA hl
  obtain ⟨hx, hb, hr, hml, hown, hts, hlocks⟩ := hcx
  have hS : va_S A s.heap s.heap [] := va_S.rf
  have hown : s.vm.findClass RX0 = some m.cls := hown
  have hl : lv_has ls 2 [(0, .ref h0), (1, .int (jI 0))] := hl
  have f9 := hts (.fieldLink RX0 9 "FieldFilter$Column" "upper" "I") (by decide +kernel)
  have iX0 : ∀ w ∈ u_ws RX0 TX0 2, w ∈ wsX0_number := by decide +kernel
  refine lv_iload_n hx hb dX0_number_0 rfl (lv_at hl 1 rfl) ?_
  refine n_if_ne (tgt := 11) hx hb (by unfold r32; omega) dX0_number_1 (by decide) (fun h1 => False.elim (by first | omega | (exfalso; revert h1; decide) | contradiction)) (fun h1 => ?_)
  refine lv_aload_n hx hb dX0_number_4 rfl (lv_at hl 0 rfl) ?_
  refine va_get (D := D) (ci := 0) (v := .int u) (C := RX0) (T := TX0) (N := 2) hx hb hts iX0 hown hK.1 hP 0 rfl rfl 0 (by decide) f9 (fun _ h9 => h9) rfl dX0_number_5 ?_
  refine lv_goto (tgt := 15) hx hb dX0_number_8 (by decide) ?_
  exact k_iret hx hb hr hlocks dX0_number_15 hP hS rfl

set_option maxHeartbeats 4000000 in
set_option maxRecDepth 100000 in
/--  -/
theorem c_X0_number1 (l : Launch) (D : va_G) (tys : List (ClassId × FieldType)) (h0 : Nat) (u v : Int32) : CtI l D tys yX0_number wsX0_number 0 0 [.ref h0, .int (jI 1)] v [(h0, .inr (0, [.int u, .int v]))] [(h0, .inr (0, [.int u, .int v]))] := by
  refine CtI.of (cc := cX0_number) (maxL := 2) (by decide +kernel) rfl rfl (Nat.le_of_ble_eq_true rfl) ?_
  intro p e s m below meth c A ls hcx hK hP hD hA hl
  obtain ⟨hx, hb, hr, hml, hown, hts, hlocks⟩ := hcx
  have hS : va_S A s.heap s.heap [] := va_S.rf
  have hown : s.vm.findClass RX0 = some m.cls := hown
  have hl : lv_has ls 2 [(0, .ref h0), (1, .int (jI 1))] := hl
  have f15 := hts (.fieldLink RX0 15 "FieldFilter$Column" "lower" "I") (by decide +kernel)
  have iX0 : ∀ w ∈ u_ws RX0 TX0 2, w ∈ wsX0_number := by decide +kernel
  refine lv_iload_n hx hb dX0_number_0 rfl (lv_at hl 1 rfl) ?_
  refine n_if_ne (tgt := 11) hx hb (by unfold r32; omega) dX0_number_1 (by decide) (fun h1 => ?_) (fun h1 => (absurd h1 (by first | omega | (exfalso; revert h1; decide) | contradiction)))
  refine lv_aload_n hx hb dX0_number_11 rfl (lv_at hl 0 rfl) ?_
  refine va_get (D := D) (ci := 0) (v := .int v) (C := RX0) (T := TX0) (N := 2) hx hb hts iX0 hown hK.1 hP 0 rfl rfl 1 (by decide) f15 (fun _ h9 => h9) rfl dX0_number_12 ?_
  exact k_iret hx hb hr hlocks dX0_number_15 hP hS rfl

set_option maxHeartbeats 4000000 in
set_option maxRecDepth 100000 in
/--  -/
theorem c_J9_floorMod_7cf53 (l : Launch) (D : va_G) (tys : List (ClassId × FieldType)) (x : Int) (z : Zp) (M : Nat) (h : Ra x z M) (hM : M < 2147483648) : CtI l D tys yJ9_floorMod_7cf53 wsJ9_floorMod_7cf53 0 0 [.int (jI x), .int (jI 10007)] (vI z) [] [] := by
  refine CtI.of (cc := cJ9_floorMod_7cf53) (maxL := 3) (by decide +kernel) rfl rfl (Nat.le_of_ble_eq_true rfl) ?_
  intro p e s m below meth c A ls hcx hK hP hD hA hl
  obtain ⟨hx, hb, hr, hml, hown, hts, hlocks⟩ := hcx
  have hS : va_S A s.heap s.heap [] := va_S.rf
  have hown : s.vm.findClass RJ9 = some m.cls := hown
  have hl : lv_has ls 3 [(0, .int (jI x)), (1, .int (jI 10007))] := hl
  obtain ⟨g1, g2, hz0⟩ := h
  have hz : zv z = x % 10007 := by rw [← hz0, zv_zc]
  have zx : vI z = jI (zv z) := rfl
  have tm := Int.mul_tdiv_add_tmod x 10007
  have t1 : x.tmod 10007 < 10007 := Int.tmod_lt_of_pos x (by omega)
  have t2 : -10007 < x.tmod 10007 := by
    have q := Int.tmod_lt_of_pos (-x) (b := 10007) (by omega)
    rw [Int.neg_tmod] at q
    omega
  by_cases q0 : 0 ≤ x
  · refine lv_iload_n hx hb dJ9_floorMod_7cf53_0 rfl (lv_at hl 0 rfl) ?_
    refine lv_iload_n hx hb dJ9_floorMod_7cf53_1 rfl (lv_at hl 1 rfl) ?_
    refine n_iremK hx hb dJ9_floorMod_7cf53_2 (by omega) (by omega) (by omega) (by omega) ?_
    refine lv_istore_n (lv' := [(2, .int (jI (x.tmod 10007))), (0, .int (jI x)), (1, .int (jI 10007))]) hx hb dJ9_floorMod_7cf53_3 rfl hl (by decide) rfl (fun ls hl => ?_)
    refine lv_iload_n hx hb dJ9_floorMod_7cf53_4 rfl (lv_at hl 1 rfl) ?_
    refine lv_iload_n hx hb dJ9_floorMod_7cf53_5 rfl (lv_at hl 2 rfl) ?_
    refine lv_ixor hx hb dJ9_floorMod_7cf53_6 ?_
    refine lv_if_ge (tgt := 18) hx hb dJ9_floorMod_7cf53_7 (by decide) (fun h7 => ?_) (fun h7 => absurd ((jI_xor0 (by omega) (by omega) (by omega) (by omega)).mpr q0) h7)
    refine lv_iload_n hx hb dJ9_floorMod_7cf53_18 rfl (lv_at hl 0 rfl) ?_
    exact k_iret hx hb hr hlocks dJ9_floorMod_7cf53_19 hP hS (by rw [zx, hz, Int.tmod_eq_emod_of_nonneg q0])
  · have t3 : x.tmod 10007 ≤ 0 := by
      have q := Int.tmod_nonneg (a := -x) 10007 (by omega)
      rw [Int.neg_tmod] at q
      omega
    by_cases q1 : x.tmod 10007 = 0
    · refine lv_iload_n hx hb dJ9_floorMod_7cf53_0 rfl (lv_at hl 0 rfl) ?_
      refine lv_iload_n hx hb dJ9_floorMod_7cf53_1 rfl (lv_at hl 1 rfl) ?_
      refine n_iremK hx hb dJ9_floorMod_7cf53_2 (by omega) (by omega) (by omega) (by omega) ?_
      refine lv_istore_n (lv' := [(2, .int (jI (x.tmod 10007))), (0, .int (jI x)), (1, .int (jI 10007))]) hx hb dJ9_floorMod_7cf53_3 rfl hl (by decide) rfl (fun ls hl => ?_)
      refine lv_iload_n hx hb dJ9_floorMod_7cf53_4 rfl (lv_at hl 1 rfl) ?_
      refine lv_iload_n hx hb dJ9_floorMod_7cf53_5 rfl (lv_at hl 2 rfl) ?_
      refine lv_ixor hx hb dJ9_floorMod_7cf53_6 ?_
      refine lv_if_ge (tgt := 18) hx hb dJ9_floorMod_7cf53_7 (by decide) (fun h7 => absurd ((jI_xor0 (by omega) (by omega) (by omega) (by omega)).mp h7) q0) (fun h7 => ?_)
      refine lv_iload_n hx hb dJ9_floorMod_7cf53_10 rfl (lv_at hl 0 rfl) ?_
      refine n_if_eq (tgt := 18) hx hb (by unfold r32; omega) dJ9_floorMod_7cf53_11 (by decide) (fun h11 => ?_) (fun h11 => False.elim (h11 q1))
      refine lv_iload_n hx hb dJ9_floorMod_7cf53_18 rfl (lv_at hl 0 rfl) ?_
      exact k_iret hx hb hr hlocks dJ9_floorMod_7cf53_19 hP hS (by rw [zx, hz]; congr 1; omega)
    · refine lv_iload_n hx hb dJ9_floorMod_7cf53_0 rfl (lv_at hl 0 rfl) ?_
      refine lv_iload_n hx hb dJ9_floorMod_7cf53_1 rfl (lv_at hl 1 rfl) ?_
      refine n_iremK hx hb dJ9_floorMod_7cf53_2 (by omega) (by omega) (by omega) (by omega) ?_
      refine lv_istore_n (lv' := [(2, .int (jI (x.tmod 10007))), (0, .int (jI x)), (1, .int (jI 10007))]) hx hb dJ9_floorMod_7cf53_3 rfl hl (by decide) rfl (fun ls hl => ?_)
      refine lv_iload_n hx hb dJ9_floorMod_7cf53_4 rfl (lv_at hl 1 rfl) ?_
      refine lv_iload_n hx hb dJ9_floorMod_7cf53_5 rfl (lv_at hl 2 rfl) ?_
      refine lv_ixor hx hb dJ9_floorMod_7cf53_6 ?_
      refine lv_if_ge (tgt := 18) hx hb dJ9_floorMod_7cf53_7 (by decide) (fun h7 => absurd ((jI_xor0 (by omega) (by omega) (by omega) (by omega)).mp h7) q0) (fun h7 => ?_)
      refine lv_iload_n hx hb dJ9_floorMod_7cf53_10 rfl (lv_at hl 0 rfl) ?_
      refine n_if_eq (tgt := 18) hx hb (by unfold r32; omega) dJ9_floorMod_7cf53_11 (by decide) (fun h11 => False.elim (q1 h11)) (fun h11 => ?_)
      refine lv_iload_n hx hb dJ9_floorMod_7cf53_14 rfl (lv_at hl 0 rfl) ?_
      refine lv_iload_n hx hb dJ9_floorMod_7cf53_15 rfl (lv_at hl 2 rfl) ?_
      refine n_iadd hx hb dJ9_floorMod_7cf53_16 ?_
      exact k_iret hx hb hr hlocks dJ9_floorMod_7cf53_17 hP hS (by rw [zx, hz]; congr 1; omega)

set_option maxHeartbeats 4000000 in
set_option maxRecDepth 100000 in
/--  -/
theorem c_X6_less (l : Launch) (D : va_G) (tys : List (ClassId × FieldType)) (a b : Int) (z : Zp) (M : Nat) (h : Ra (a - b) z M) (hM : M < 2147483648) : CtI l D tys yX6_less wsX6_less 1 22 [.int (jI a), .int (jI b)] (vI z) [] [] := by
  refine CtI.of (cc := cX6_less) (maxL := 2) (by decide +kernel) rfl rfl (Nat.le_of_ble_eq_true rfl) ?_
  intro p e s m below meth c A ls hcx hK hP hD hA hl
  obtain ⟨hx, hb, hr, hml, hown, hts, hlocks⟩ := hcx
  have hS : va_S A s.heap s.heap [] := va_S.rf
  have hown : s.vm.findClass RX6 = some m.cls := hown
  have hl : lv_has ls 2 [(0, .int (jI a)), (1, .int (jI b))] := hl
  refine lv_iload_n hx hb dX6_less_0 rfl (lv_at hl 0 rfl) ?_
  refine lv_iload_n hx hb dX6_less_1 rfl (lv_at hl 1 rfl) ?_
  refine n_isub hx hb dX6_less_2 ?_
  refine n_sipush hx hb dX6_less_3 (by decide) ?_
  have ct6 := c_J9_floorMod_7cf53 l D tys (a - b) z M h hM
  refine k_goI (va_runS (As := [.int (jI (a - b)), .int (jI 10007)]) (rest := []) ⟨hx, hb, hml, hown, hts⟩ (ct6.2 _) (va_cwS 2 hts gX6_less_J9_floorMod_7cf53 rfl rfl rfl (by decide +kernel) ⟨Nat.le_of_ble_eq_true rfl, Nat.le_of_ble_eq_true rfl⟩) (k_pre hK hP hD (is := []) rfl rfl) rfl rfl hl.1 rfl (lv_room (Nat.le_of_ble_eq_true rfl)) dX6_less_6 ⟨Nat.le_of_ble_eq_true rfl, Nat.le_of_ble_eq_true rfl⟩) ct6.1 hP hD hS hA [] rfl rfl (fun H locs hP hD hS => ?_)
  have hP : va_P D vwCl [] H := hP
  have hD : va_D A [] := hD
  exact k_iret hx hb hr hlocks dX6_less_9 hP hS rfl

set_option maxHeartbeats 4000000 in
set_option maxRecDepth 100000 in
/--  -/
theorem c_X6_inverse (l : Launch) (D : va_G) (tys : List (ClassId × FieldType)) (a : Zp) : CtI l D tys yX6_inverse wsX6_inverse 0 0 [.int (vI a)] (vI (zinv a)) [] [] := by
  refine CtI.of (cc := cX6_inverse) (maxL := 4) (by decide +kernel) rfl rfl (Nat.le_of_ble_eq_true rfl) ?_
  intro p e s m below meth c A ls hcx hK hP hD hA hl
  obtain ⟨hx, hb, hr, hml, hown, hts, hlocks⟩ := hcx
  have hS : va_S A s.heap s.heap [] := va_S.rf
  have hown : s.vm.findClass RX6 = some m.cls := hown
  have hl : lv_has ls 4 [(0, .int (vI a))] := hl
  have loop : ∀ (f n : Nat) (r q : Zp) (ls : Array Slot), n < 2 ^ f → n < 2147483648 → vI (pwf f n r q) = vI (zinv a) → lv_has ls 4 [(3, .int (jI (n : Int))), (2, .int (vI q)), (1, .int (vI r))] → W p l e { frames := 0, cells := 0, slots := 0, locals := 0 } s m ([Value.int (vI a)] : List Value).toArray below meth c s.heap [] 0 0 (MQ below (EI D A (vI (zinv a)) []) ([Value.int (vI a)] : List Value).toArray s 0 0 A) (F0 m 8 ls []) := by
    intro f
    induction f with
    | zero =>
      intro n r q ls h1 h2 hv hl
      refine lv_iload_n hx hb dX6_inverse_8 rfl (lv_at hl 0 rfl) ?_
      refine n_if_le (tgt := 42) hx hb (by unfold r32; omega) dX6_inverse_9 (by decide) (fun h9 => ?_) (fun h9 => False.elim (h9 (by omega)))
      refine lv_iload_n hx hb dX6_inverse_42 rfl (lv_at hl 2 rfl) ?_
      exact k_iret hx hb hr hlocks dX6_inverse_43 hP hS hv
    | succ f ih =>
      intro n r q ls h1 h2 hv hl
      have h1 : n < 2 ^ f * 2 := by rw [← Nat.pow_succ]; exact h1
      by_cases h0 : n = 0
      · refine lv_iload_n hx hb dX6_inverse_8 rfl (lv_at hl 0 rfl) ?_
        refine n_if_le (tgt := 42) hx hb (by unfold r32; omega) dX6_inverse_9 (by decide) (fun h9 => ?_) (fun h9 => False.elim (h9 (by omega)))
        refine lv_iload_n hx hb dX6_inverse_42 rfl (lv_at hl 2 rfl) ?_
        exact k_iret hx hb hr hlocks dX6_inverse_43 hP hS (by rw [← hv]; show vI r = vI (if n = 0 then r else _); rw [if_pos h0])
      · by_cases ho : n % 2 = 1
        · refine lv_iload_n hx hb dX6_inverse_8 rfl (lv_at hl 0 rfl) ?_
          refine n_if_le (tgt := 42) hx hb (by unfold r32; omega) dX6_inverse_9 (by decide) (fun h9 => False.elim (h0 (by omega))) (fun h9 => ?_)
          refine lv_iload_n hx hb dX6_inverse_12 rfl (lv_at hl 0 rfl) ?_
          refine n_iconst hx hb dX6_inverse_13 ?_
          refine lv_iand hx hb dX6_inverse_14 ?_
          rw [jI_odd h2]
          refine n_iconst hx hb dX6_inverse_15 ?_
          refine n_icmp_ne (tgt := 27) hx hb (by unfold r32; omega) (by unfold r32; omega) dX6_inverse_16 (by decide) (fun h16 => False.elim (h16 (by omega))) (fun h16 => ?_)
          refine lv_iload_n hx hb dX6_inverse_19 rfl (lv_at hl 2 rfl) ?_
          refine lv_iload_n hx hb dX6_inverse_20 rfl (lv_at hl 1 rfl) ?_
          refine n_imul hx hb dX6_inverse_21 ?_
          refine n_sipush hx hb dX6_inverse_22 (by decide) ?_
          refine n_irem hx hb dX6_inverse_25 (rp_mul (rp_v r) (rp_v q)) (Nat.le_of_ble_eq_true rfl) ?_
          refine lv_istore_n (lv' := [(1, .int (vI (r * q))), (3, .int (jI (n : Int))), (2, .int (vI q))]) hx hb dX6_inverse_26 rfl hl (by decide) rfl (fun ls hl => ?_)
          refine lv_iload_n hx hb dX6_inverse_27 rfl (lv_at hl 2 rfl) ?_
          refine lv_iload_n hx hb dX6_inverse_28 rfl (lv_at hl 2 rfl) ?_
          refine n_imul hx hb dX6_inverse_29 ?_
          refine n_sipush hx hb dX6_inverse_30 (by decide) ?_
          refine n_irem hx hb dX6_inverse_33 (rp_mul (rp_v q) (rp_v q)) (Nat.le_of_ble_eq_true rfl) ?_
          refine lv_istore_n (lv' := [(2, .int (vI (q * q))), (1, .int (vI (r * q))), (3, .int (jI (n : Int)))]) hx hb dX6_inverse_34 rfl hl (by decide) rfl (fun ls hl => ?_)
          refine lv_iload_n hx hb dX6_inverse_35 rfl (lv_at hl 2 rfl) ?_
          refine n_iconst hx hb dX6_inverse_36 ?_
          refine lv_ishr hx hb dX6_inverse_37 ?_
          rw [jI_half h2]
          refine lv_istore_n (lv' := [(3, .int (jI ((n / 2 : Nat) : Int))), (2, .int (vI (q * q))), (1, .int (vI (r * q)))]) hx hb dX6_inverse_38 rfl hl (by decide) rfl (fun ls hl => ?_)
          refine lv_goto (tgt := 8) hx hb dX6_inverse_39 (by decide) ?_
          refine ih (n / 2) (r * q) (q * q) ls (by omega) (by omega) ?_ (lv_sub hl [0, 1, 2] rfl)
          rw [← hv]
          show vI (pwf f (n / 2) (r * q) (q * q)) = vI (if n = 0 then r else pwf f (n / 2) (if n % 2 = 1 then r * q else r) (q * q))
          rw [if_neg h0, if_pos ho]
        · refine lv_iload_n hx hb dX6_inverse_8 rfl (lv_at hl 0 rfl) ?_
          refine n_if_le (tgt := 42) hx hb (by unfold r32; omega) dX6_inverse_9 (by decide) (fun h9 => False.elim (h0 (by omega))) (fun h9 => ?_)
          refine lv_iload_n hx hb dX6_inverse_12 rfl (lv_at hl 0 rfl) ?_
          refine n_iconst hx hb dX6_inverse_13 ?_
          refine lv_iand hx hb dX6_inverse_14 ?_
          rw [jI_odd h2]
          refine n_iconst hx hb dX6_inverse_15 ?_
          refine n_icmp_ne (tgt := 27) hx hb (by unfold r32; omega) (by unfold r32; omega) dX6_inverse_16 (by decide) (fun h16 => ?_) (fun h16 => False.elim (ho (by omega)))
          refine lv_iload_n hx hb dX6_inverse_27 rfl (lv_at hl 1 rfl) ?_
          refine lv_iload_n hx hb dX6_inverse_28 rfl (lv_at hl 1 rfl) ?_
          refine n_imul hx hb dX6_inverse_29 ?_
          refine n_sipush hx hb dX6_inverse_30 (by decide) ?_
          refine n_irem hx hb dX6_inverse_33 (rp_mul (rp_v q) (rp_v q)) (Nat.le_of_ble_eq_true rfl) ?_
          refine lv_istore_n (lv' := [(2, .int (vI (q * q))), (3, .int (jI (n : Int))), (1, .int (vI r))]) hx hb dX6_inverse_34 rfl hl (by decide) rfl (fun ls hl => ?_)
          refine lv_iload_n hx hb dX6_inverse_35 rfl (lv_at hl 1 rfl) ?_
          refine n_iconst hx hb dX6_inverse_36 ?_
          refine lv_ishr hx hb dX6_inverse_37 ?_
          rw [jI_half h2]
          refine lv_istore_n (lv' := [(3, .int (jI ((n / 2 : Nat) : Int))), (2, .int (vI (q * q))), (1, .int (vI r))]) hx hb dX6_inverse_38 rfl hl (by decide) rfl (fun ls hl => ?_)
          refine lv_goto (tgt := 8) hx hb dX6_inverse_39 (by decide) ?_
          refine ih (n / 2) r (q * q) ls (by omega) (by omega) ?_ (lv_sub hl [0, 1, 2] rfl)
          rw [← hv]
          show vI (pwf f (n / 2) r (q * q)) = vI (if n = 0 then r else pwf f (n / 2) (if n % 2 = 1 then r * q else r) (q * q))
          rw [if_neg h0, if_neg ho]
  refine n_iconst hx hb dX6_inverse_0 ?_
  refine lv_istore_n (lv' := [(1, .int (jI 1)), (0, .int (vI a))]) hx hb dX6_inverse_1 rfl hl (by decide) rfl (fun ls hl => ?_)
  refine lv_iload_n hx hb dX6_inverse_2 rfl (lv_at hl 1 rfl) ?_
  refine lv_istore_n (lv' := [(2, .int (vI a)), (1, .int (jI 1)), (0, .int (vI a))]) hx hb dX6_inverse_3 rfl hl (by decide) rfl (fun ls hl => ?_)
  refine n_sipush hx hb dX6_inverse_4 (by decide) ?_
  refine lv_istore_n (lv' := [(3, .int (jI 10005)), (2, .int (vI a)), (1, .int (jI 1)), (0, .int (vI a))]) hx hb dX6_inverse_7 rfl hl (by decide) rfl (fun ls hl => ?_)
  exact loop 14 10005 1 a ls (by decide) (by decide) rfl (lv_sub hl [0, 1, 2] rfl)

set_option maxHeartbeats 4000000 in
set_option maxRecDepth 100000 in
/--  -/
theorem c_X6_divide (l : Launch) (D : va_G) (tys : List (ClassId × FieldType)) (a b : Zp) : CtI l D tys yX6_divide wsX6_divide 1 23 [.int (vI a), .int (vI b)] (vI (a * zinv b)) [] [] := by
  refine CtI.of (cc := cX6_divide) (maxL := 2) (by decide +kernel) rfl rfl (Nat.le_of_ble_eq_true rfl) ?_
  intro p e s m below meth c A ls hcx hK hP hD hA hl
  obtain ⟨hx, hb, hr, hml, hown, hts, hlocks⟩ := hcx
  have hS : va_S A s.heap s.heap [] := va_S.rf
  have hown : s.vm.findClass RX6 = some m.cls := hown
  have hl : lv_has ls 2 [(0, .int (vI a)), (1, .int (vI b))] := hl
  refine lv_iload_n hx hb dX6_divide_0 rfl (lv_at hl 0 rfl) ?_
  refine lv_iload_n hx hb dX6_divide_1 rfl (lv_at hl 1 rfl) ?_
  have ct2 := c_X6_inverse l D tys b
  refine k_goI (va_runS (As := [.int (vI b)]) (rest := [.int (vI a)]) ⟨hx, hb, hml, hown, hts⟩ (ct2.2 _) (va_cwS 1 hts gX6_divide_X6_inverse rfl rfl rfl (by decide +kernel) ⟨Nat.le_of_ble_eq_true rfl, Nat.le_of_ble_eq_true rfl⟩) (k_pre hK hP hD (is := []) rfl rfl) rfl rfl hl.1 rfl (lv_room (Nat.le_of_ble_eq_true rfl)) dX6_divide_2 ⟨Nat.le_of_ble_eq_true rfl, Nat.le_of_ble_eq_true rfl⟩) ct2.1 hP hD hS hA [] rfl rfl (fun H locs hP hD hS => ?_)
  have hP : va_P D vwCl [] H := hP
  have hD : va_D A [] := hD
  refine n_imul hx hb dX6_divide_5 ?_
  refine n_sipush hx hb dX6_divide_6 (by decide) ?_
  refine n_irem hx hb dX6_divide_9 (rp_mul (rp_v a) (rp_v (zinv b))) (Nat.le_of_ble_eq_true rfl) ?_
  exact k_iret hx hb hr hlocks dX6_divide_10 hP hS rfl

set_option maxHeartbeats 4000000 in
set_option maxRecDepth 100000 in
/--  -/
theorem c_X0_add (l : Launch) (D : va_G) (tys : List (ClassId × FieldType)) (h0 o : Nat) (u v a b : Zp) : CtV l D tys yX0_add wsX0_add 1 22 [.ref h0, .ref o] [(h0, .inr (0, [.int (vI u), .int (vI v)])), (o, .inr (0, [.int (vI a), .int (vI b)]))] [(h0, .inr (0, [.int (vI (u + a)), .int (vI (v + b))])), (o, .inr (0, [.int (vI a), .int (vI b)]))] := by
  refine CtV.of (cc := cX0_add) (maxL := 2) (by decide +kernel) rfl rfl (Nat.le_of_ble_eq_true rfl) ?_
  intro p e s m below meth c A ls hcx hK hP hD hA hl
  obtain ⟨hx, hb, hr, hml, hown, hts, hlocks⟩ := hcx
  have hS : va_S A s.heap s.heap [] := va_S.rf
  have hown : s.vm.findClass RX0 = some m.cls := hown
  have hl : lv_has ls 2 [(0, .ref h0), (1, .ref o)] := hl
  have f9 := hts (.fieldLink RX0 9 "FieldFilter$Column" "upper" "I") (by decide +kernel)
  have iX0 : ∀ w ∈ u_ws RX0 TX0 2, w ∈ wsX0_add := by decide +kernel
  have f15 := hts (.fieldLink RX0 15 "FieldFilter$Column" "lower" "I") (by decide +kernel)
  refine lv_aload_n hx hb dX0_add_0 rfl (lv_at hl 0 rfl) ?_
  refine lv_aload_n hx hb dX0_add_1 rfl (lv_at hl 0 rfl) ?_
  refine va_get (D := D) (ci := 0) (v := .int (vI u)) (C := RX0) (T := TX0) (N := 2) hx hb hts iX0 hown hK.1 hP 0 rfl rfl 0 (by decide) f9 (fun _ h9 => h9) rfl dX0_add_2 ?_
  refine lv_aload_n hx hb dX0_add_5 rfl (lv_at hl 1 rfl) ?_
  refine va_get (D := D) (ci := 0) (v := .int (vI a)) (C := RX0) (T := TX0) (N := 2) hx hb hts iX0 hown hK.1 hP 1 rfl rfl 0 (by decide) f9 (fun _ h9 => h9) rfl dX0_add_6 ?_
  refine n_iadd hx hb dX0_add_9 ?_
  refine n_sipush hx hb dX0_add_10 (by decide) ?_
  refine n_irem hx hb dX0_add_13 (rp_add (rp_v u) (rp_v a)) (Nat.le_of_ble_eq_true rfl) ?_
  refine lv_aload_n hx hb dX0_add_14 rfl (lv_at hl 0 rfl) ?_
  refine va_get (D := D) (ci := 0) (v := .int (vI v)) (C := RX0) (T := TX0) (N := 2) hx hb hts iX0 hown hK.1 hP 0 rfl rfl 1 (by decide) f15 (fun _ h9 => h9) rfl dX0_add_15 ?_
  refine lv_aload_n hx hb dX0_add_18 rfl (lv_at hl 1 rfl) ?_
  refine va_get (D := D) (ci := 0) (v := .int (vI b)) (C := RX0) (T := TX0) (N := 2) hx hb hts iX0 hown hK.1 hP 1 rfl rfl 1 (by decide) f15 (fun _ h9 => h9) rfl dX0_add_19 ?_
  refine n_iadd hx hb dX0_add_22 ?_
  refine n_sipush hx hb dX0_add_23 (by decide) ?_
  refine n_irem hx hb dX0_add_26 (rp_add (rp_v v) (rp_v b)) (Nat.le_of_ble_eq_true rfl) ?_
  have ct27 := c_X0_set l D tys h0 (vI u) (vI v) (vI (u + a)) (vI (v + b))
  refine k_goV (va_runV (As := [.int (vI (u + a)), .int (vI (v + b))]) (rest := []) ⟨hx, hb, hml, hown, hts⟩ (ct27.2 _) (cwV 2 hts gX0_add_X0_set rfl rfl rfl (by decide +kernel) ⟨Nat.le_of_ble_eq_true rfl, Nat.le_of_ble_eq_true rfl⟩) ⟨(k_pre hK hP hD (is := [0]) rfl rfl).1, va_recv hK.1 hP (ci := 0) (q0 := 0) rfl rfl, (k_pre hK hP hD (is := [0]) rfl rfl).2⟩ rfl rfl hl.1 rfl (lv_room (Nat.le_of_ble_eq_true rfl)) dX0_add_27 ⟨Nat.le_of_ble_eq_true rfl, Nat.le_of_ble_eq_true rfl⟩) ct27.1 hP hD hS hA [0] rfl rfl (fun H locs hP hD hS => ?_)
  have hP : va_P D vwCl [(h0, .inr (0, [.int (vI (u + a)), .int (vI (v + b))])), (o, .inr (0, [.int (vI a), .int (vI b)]))] H := hP
  have hD : va_D A [(h0, .inr (0, [.int (vI (u + a)), .int (vI (v + b))])), (o, .inr (0, [.int (vI a), .int (vI b)]))] := hD
  exact k_vret hx hb hr hlocks dX0_add_30 hP hS

set_option maxHeartbeats 4000000 in
set_option maxRecDepth 100000 in
/--  -/
theorem c_X0_subtract (l : Launch) (D : va_G) (tys : List (ClassId × FieldType)) (h0 o : Nat) (u v a b : Zp) : CtV l D tys yX0_subtract wsX0_subtract 2 43 [.ref h0, .ref o] [(h0, .inr (0, [.int (vI u), .int (vI v)])), (o, .inr (0, [.int (vI a), .int (vI b)]))] [(h0, .inr (0, [.int (vI (u - a)), .int (vI (v - b))])), (o, .inr (0, [.int (vI a), .int (vI b)]))] := by
  refine CtV.of (cc := cX0_subtract) (maxL := 2) (by decide +kernel) rfl rfl (Nat.le_of_ble_eq_true rfl) ?_
  intro p e s m below meth c A ls hcx hK hP hD hA hl
  obtain ⟨hx, hb, hr, hml, hown, hts, hlocks⟩ := hcx
  have hS : va_S A s.heap s.heap [] := va_S.rf
  have hown : s.vm.findClass RX0 = some m.cls := hown
  have hl : lv_has ls 2 [(0, .ref h0), (1, .ref o)] := hl
  have f9 := hts (.fieldLink RX0 9 "FieldFilter$Column" "upper" "I") (by decide +kernel)
  have iX0 : ∀ w ∈ u_ws RX0 TX0 2, w ∈ wsX0_subtract := by decide +kernel
  have sX6_less := hts (.static yX6_less) (by decide +kernel)
  have iniX6 := hts (.initialized RX6) (by decide +kernel)
  have f15 := hts (.fieldLink RX0 15 "FieldFilter$Column" "lower" "I") (by decide +kernel)
  refine lv_aload_n hx hb dX0_subtract_0 rfl (lv_at hl 0 rfl) ?_
  refine lv_aload_n hx hb dX0_subtract_1 rfl (lv_at hl 0 rfl) ?_
  refine va_get (D := D) (ci := 0) (v := .int (vI u)) (C := RX0) (T := TX0) (N := 2) hx hb hts iX0 hown hK.1 hP 0 rfl rfl 0 (by decide) f9 (fun _ h9 => h9) rfl dX0_subtract_2 ?_
  refine lv_aload_n hx hb dX0_subtract_5 rfl (lv_at hl 1 rfl) ?_
  refine va_get (D := D) (ci := 0) (v := .int (vI a)) (C := RX0) (T := TX0) (N := 2) hx hb hts iX0 hown hK.1 hP 1 rfl rfl 0 (by decide) f9 (fun _ h9 => h9) rfl dX0_subtract_6 ?_
  have ct9 := c_X6_less l D tys (zv u) (zv a) _ _ (ra_sub (rp_a (rp_v u)) (rp_a (rp_v a))) (Nat.le_of_ble_eq_true rfl)
  refine k_goI (va_runSN (As := [.int (vI u), .int (vI a)]) (rest := [.ref h0]) ⟨hx, hb, hml, hown, hts⟩ (ct9.2 _) ⟨va_cnB (own := RX0) (host := "FieldFilter") (index := 22) 2 hts gX0_subtract_X6_less_n22 rfl rfl rfl (hK.2 (RX0, 22, yX6_less, "FieldFilter") (by decide +kernel)) iniX6 (by decide +kernel) ⟨Nat.le_of_ble_eq_true rfl, Nat.le_of_ble_eq_true rfl⟩, sX6_less, trivial⟩ (k_pre hK hP hD (is := []) rfl rfl) rfl rfl hl.1 rfl (lv_room (Nat.le_of_ble_eq_true rfl)) dX0_subtract_9 ⟨Nat.le_of_ble_eq_true rfl, Nat.le_of_ble_eq_true rfl⟩) ct9.1 hP hD hS hA [] rfl rfl (fun H locs hP hD hS => ?_)
  have hP : va_P D vwCl [(h0, .inr (0, [.int (vI u), .int (vI v)])), (o, .inr (0, [.int (vI a), .int (vI b)]))] H := hP
  have hD : va_D A [(h0, .inr (0, [.int (vI u), .int (vI v)])), (o, .inr (0, [.int (vI a), .int (vI b)]))] := hD
  refine lv_aload_n hx hb dX0_subtract_12 rfl (lv_at hl 0 rfl) ?_
  refine va_get (D := D) (ci := 0) (v := .int (vI v)) (C := RX0) (T := TX0) (N := 2) hx hb hts iX0 hown hK.1 hP 0 rfl rfl 1 (by decide) f15 (fun _ h9 => h9) rfl dX0_subtract_13 ?_
  refine lv_aload_n hx hb dX0_subtract_16 rfl (lv_at hl 1 rfl) ?_
  refine va_get (D := D) (ci := 0) (v := .int (vI b)) (C := RX0) (T := TX0) (N := 2) hx hb hts iX0 hown hK.1 hP 1 rfl rfl 1 (by decide) f15 (fun _ h9 => h9) rfl dX0_subtract_17 ?_
  have ct20 := c_X6_less l D tys (zv v) (zv b) _ _ (ra_sub (rp_a (rp_v v)) (rp_a (rp_v b))) (Nat.le_of_ble_eq_true rfl)
  refine k_goI (va_runSN (As := [.int (vI v), .int (vI b)]) (rest := [.int (vI (u - a)), .ref h0]) ⟨hx, hb, hml, hown, hts⟩ (ct20.2 _) ⟨va_cnB (own := RX0) (host := "FieldFilter") (index := 22) 2 hts gX0_subtract_X6_less_n22 rfl rfl rfl (hK.2 (RX0, 22, yX6_less, "FieldFilter") (by decide +kernel)) iniX6 (by decide +kernel) ⟨Nat.le_of_ble_eq_true rfl, Nat.le_of_ble_eq_true rfl⟩, sX6_less, trivial⟩ (k_pre hK hP hD (is := []) rfl rfl) rfl rfl hl.1 rfl (lv_room (Nat.le_of_ble_eq_true rfl)) dX0_subtract_20 ⟨Nat.le_of_ble_eq_true rfl, Nat.le_of_ble_eq_true rfl⟩) ct20.1 hP hD hS hA [] rfl rfl (fun H locs hP hD hS => ?_)
  have hP : va_P D vwCl [(h0, .inr (0, [.int (vI u), .int (vI v)])), (o, .inr (0, [.int (vI a), .int (vI b)]))] H := hP
  have hD : va_D A [(h0, .inr (0, [.int (vI u), .int (vI v)])), (o, .inr (0, [.int (vI a), .int (vI b)]))] := hD
  have ct23 := c_X0_set l D tys h0 (vI u) (vI v) (vI (u - a)) (vI (v - b))
  refine k_goV (va_runV (As := [.int (vI (u - a)), .int (vI (v - b))]) (rest := []) ⟨hx, hb, hml, hown, hts⟩ (ct23.2 _) (cwV 2 hts gX0_subtract_X0_set rfl rfl rfl (by decide +kernel) ⟨Nat.le_of_ble_eq_true rfl, Nat.le_of_ble_eq_true rfl⟩) ⟨(k_pre hK hP hD (is := [0]) rfl rfl).1, va_recv hK.1 hP (ci := 0) (q0 := 0) rfl rfl, (k_pre hK hP hD (is := [0]) rfl rfl).2⟩ rfl rfl hl.1 rfl (lv_room (Nat.le_of_ble_eq_true rfl)) dX0_subtract_23 ⟨Nat.le_of_ble_eq_true rfl, Nat.le_of_ble_eq_true rfl⟩) ct23.1 hP hD hS hA [0] rfl rfl (fun H locs hP hD hS => ?_)
  have hP : va_P D vwCl [(h0, .inr (0, [.int (vI (u - a)), .int (vI (v - b))])), (o, .inr (0, [.int (vI a), .int (vI b)]))] H := hP
  have hD : va_D A [(h0, .inr (0, [.int (vI (u - a)), .int (vI (v - b))])), (o, .inr (0, [.int (vI a), .int (vI b)]))] := hD
  exact k_vret hx hb hr hlocks dX0_subtract_26 hP hS

set_option maxHeartbeats 4000000 in
set_option maxRecDepth 100000 in
/--  -/
theorem c_X5_set (l : Launch) (D : va_G) (tys : List (ClassId × FieldType)) (h0 : Nat) (u v w a b d : Int32) : CtV l D tys yX5_set wsX5_set 0 0 [.ref h0, .int a, .int b, .int d] [(h0, .inr (5, [.int u, .int v, .int w]))] [(h0, .inr (5, [.int a, .int b, .int d]))] := by
  refine CtV.of (cc := cX5_set) (maxL := 4) (by decide +kernel) rfl rfl (Nat.le_of_ble_eq_true rfl) ?_
  intro p e s m below meth c A ls hcx hK hP hD hA hl
  obtain ⟨hx, hb, hr, hml, hown, hts, hlocks⟩ := hcx
  have hS : va_S A s.heap s.heap [] := va_S.rf
  have hown : s.vm.findClass RX5 = some m.cls := hown
  have hl : lv_has ls 4 [(0, .ref h0), (1, .int a), (2, .int b), (3, .int d)] := hl
  have f9 := hts (.fieldLink RX5 9 "FieldFilter$Symmetric" "a00" "I") (by decide +kernel)
  have iX5 : ∀ w ∈ u_ws RX5 TX5 3, w ∈ wsX5_set := by decide +kernel
  have f15 := hts (.fieldLink RX5 15 "FieldFilter$Symmetric" "a01" "I") (by decide +kernel)
  have f18 := hts (.fieldLink RX5 18 "FieldFilter$Symmetric" "a11" "I") (by decide +kernel)
  refine lv_aload_n hx hb dX5_set_0 rfl (lv_at hl 0 rfl) ?_
  refine lv_iload_n hx hb dX5_set_1 rfl (lv_at hl 1 rfl) ?_
  refine va_put (D := D) (ci := 5) (v := .int a) (ty := .int) (C := RX5) (T := TX5) (N := 3) hx hb hts iX5 tyX5 tyX5_ok nmX5 hown hK.1 hP hD hS 0 rfl rfl 0 (by decide) f9 (fun _ h9 => h9) rfl (by decide +kernel) rfl rfl (Nat.le_of_ble_eq_true rfl) dX5_set_2 (fun H locs hP hD hS => ?_)
  have hP : va_P D vwCl [(h0, .inr (5, [.int a, .int v, .int w]))] H := hP
  have hD : va_D A [(h0, .inr (5, [.int a, .int v, .int w]))] := hD
  refine lv_aload_n hx hb dX5_set_5 rfl (lv_at hl 0 rfl) ?_
  refine lv_iload_n hx hb dX5_set_6 rfl (lv_at hl 2 rfl) ?_
  refine va_put (D := D) (ci := 5) (v := .int b) (ty := .int) (C := RX5) (T := TX5) (N := 3) hx hb hts iX5 tyX5 tyX5_ok nmX5 hown hK.1 hP hD hS 0 rfl rfl 1 (by decide) f15 (fun _ h9 => h9) rfl (by decide +kernel) rfl rfl (Nat.le_of_ble_eq_true rfl) dX5_set_7 (fun H locs hP hD hS => ?_)
  have hP : va_P D vwCl [(h0, .inr (5, [.int a, .int b, .int w]))] H := hP
  have hD : va_D A [(h0, .inr (5, [.int a, .int b, .int w]))] := hD
  refine lv_aload_n hx hb dX5_set_10 rfl (lv_at hl 0 rfl) ?_
  refine lv_iload_n hx hb dX5_set_11 rfl (lv_at hl 3 rfl) ?_
  refine va_put (D := D) (ci := 5) (v := .int d) (ty := .int) (C := RX5) (T := TX5) (N := 3) hx hb hts iX5 tyX5 tyX5_ok nmX5 hown hK.1 hP hD hS 0 rfl rfl 2 (by decide) f18 (fun _ h9 => h9) rfl (by decide +kernel) rfl rfl (Nat.le_of_ble_eq_true rfl) dX5_set_12 (fun H locs hP hD hS => ?_)
  have hP : va_P D vwCl [(h0, .inr (5, [.int a, .int b, .int d]))] H := hP
  have hD : va_D A [(h0, .inr (5, [.int a, .int b, .int d]))] := hD
  exact k_vret hx hb hr hlocks dX5_set_15 hP hS

set_option maxHeartbeats 4000000 in
set_option maxRecDepth 100000 in
/--  -/
theorem c_X5_copy (l : Launch) (D : va_G) (tys : List (ClassId × FieldType)) (h0 o : Nat) (u v w a b d : Int32) : CtV l D tys yX5_copy wsX5_copy 1 23 [.ref h0, .ref o] [(h0, .inr (5, [.int u, .int v, .int w])), (o, .inr (5, [.int a, .int b, .int d]))] [(h0, .inr (5, [.int a, .int b, .int d])), (o, .inr (5, [.int a, .int b, .int d]))] := by
  refine CtV.of (cc := cX5_copy) (maxL := 2) (by decide +kernel) rfl rfl (Nat.le_of_ble_eq_true rfl) ?_
  intro p e s m below meth c A ls hcx hK hP hD hA hl
  obtain ⟨hx, hb, hr, hml, hown, hts, hlocks⟩ := hcx
  have hS : va_S A s.heap s.heap [] := va_S.rf
  have hown : s.vm.findClass RX5 = some m.cls := hown
  have hl : lv_has ls 2 [(0, .ref h0), (1, .ref o)] := hl
  have f9 := hts (.fieldLink RX5 9 "FieldFilter$Symmetric" "a00" "I") (by decide +kernel)
  have iX5 : ∀ w ∈ u_ws RX5 TX5 3, w ∈ wsX5_copy := by decide +kernel
  have f15 := hts (.fieldLink RX5 15 "FieldFilter$Symmetric" "a01" "I") (by decide +kernel)
  have f18 := hts (.fieldLink RX5 18 "FieldFilter$Symmetric" "a11" "I") (by decide +kernel)
  refine lv_aload_n hx hb dX5_copy_0 rfl (lv_at hl 0 rfl) ?_
  refine lv_aload_n hx hb dX5_copy_1 rfl (lv_at hl 1 rfl) ?_
  refine va_get (D := D) (ci := 5) (v := .int a) (C := RX5) (T := TX5) (N := 3) hx hb hts iX5 hown hK.1 hP 1 rfl rfl 0 (by decide) f9 (fun _ h9 => h9) rfl dX5_copy_2 ?_
  refine lv_aload_n hx hb dX5_copy_5 rfl (lv_at hl 1 rfl) ?_
  refine va_get (D := D) (ci := 5) (v := .int b) (C := RX5) (T := TX5) (N := 3) hx hb hts iX5 hown hK.1 hP 1 rfl rfl 1 (by decide) f15 (fun _ h9 => h9) rfl dX5_copy_6 ?_
  refine lv_aload_n hx hb dX5_copy_9 rfl (lv_at hl 1 rfl) ?_
  refine va_get (D := D) (ci := 5) (v := .int d) (C := RX5) (T := TX5) (N := 3) hx hb hts iX5 hown hK.1 hP 1 rfl rfl 2 (by decide) f18 (fun _ h9 => h9) rfl dX5_copy_10 ?_
  have ct13 := c_X5_set l D tys h0 u v w a b d
  refine k_goV (va_runV (As := [.int a, .int b, .int d]) (rest := []) ⟨hx, hb, hml, hown, hts⟩ (ct13.2 _) (cwV 3 hts gX5_copy_X5_set rfl rfl rfl (by decide +kernel) ⟨Nat.le_of_ble_eq_true rfl, Nat.le_of_ble_eq_true rfl⟩) ⟨(k_pre hK hP hD (is := [0]) rfl rfl).1, va_recv hK.1 hP (ci := 5) (q0 := 0) rfl rfl, (k_pre hK hP hD (is := [0]) rfl rfl).2⟩ rfl rfl hl.1 rfl (lv_room (Nat.le_of_ble_eq_true rfl)) dX5_copy_13 ⟨Nat.le_of_ble_eq_true rfl, Nat.le_of_ble_eq_true rfl⟩) ct13.1 hP hD hS hA [0] rfl rfl (fun H locs hP hD hS => ?_)
  have hP : va_P D vwCl [(h0, .inr (5, [.int a, .int b, .int d])), (o, .inr (5, [.int a, .int b, .int d]))] H := hP
  have hD : va_D A [(h0, .inr (5, [.int a, .int b, .int d])), (o, .inr (5, [.int a, .int b, .int d]))] := hD
  exact k_vret hx hb hr hlocks dX5_copy_16 hP hS

set_option maxHeartbeats 4000000 in
set_option maxRecDepth 100000 in
/--  -/
theorem c_X5_determinant (l : Launch) (D : va_G) (tys : List (ClassId × FieldType)) (h0 : Nat) (a b d : Zp) : CtI l D tys yX5_determinant wsX5_determinant 2 43 [.ref h0] (vI (a * d - b * b)) [(h0, .inr (5, [.int (vI a), .int (vI b), .int (vI d)]))] [(h0, .inr (5, [.int (vI a), .int (vI b), .int (vI d)]))] := by
  refine CtI.of (cc := cX5_determinant) (maxL := 1) (by decide +kernel) rfl rfl (Nat.le_of_ble_eq_true rfl) ?_
  intro p e s m below meth c A ls hcx hK hP hD hA hl
  obtain ⟨hx, hb, hr, hml, hown, hts, hlocks⟩ := hcx
  have hS : va_S A s.heap s.heap [] := va_S.rf
  have hown : s.vm.findClass RX5 = some m.cls := hown
  have hl : lv_has ls 1 [(0, .ref h0)] := hl
  have f9 := hts (.fieldLink RX5 9 "FieldFilter$Symmetric" "a00" "I") (by decide +kernel)
  have iX5 : ∀ w ∈ u_ws RX5 TX5 3, w ∈ wsX5_determinant := by decide +kernel
  have f18 := hts (.fieldLink RX5 18 "FieldFilter$Symmetric" "a11" "I") (by decide +kernel)
  have f15 := hts (.fieldLink RX5 15 "FieldFilter$Symmetric" "a01" "I") (by decide +kernel)
  have sX6_less := hts (.static yX6_less) (by decide +kernel)
  have iniX6 := hts (.initialized RX6) (by decide +kernel)
  refine lv_aload_n hx hb dX5_determinant_0 rfl (lv_at hl 0 rfl) ?_
  refine va_get (D := D) (ci := 5) (v := .int (vI a)) (C := RX5) (T := TX5) (N := 3) hx hb hts iX5 hown hK.1 hP 0 rfl rfl 0 (by decide) f9 (fun _ h9 => h9) rfl dX5_determinant_1 ?_
  refine lv_aload_n hx hb dX5_determinant_4 rfl (lv_at hl 0 rfl) ?_
  refine va_get (D := D) (ci := 5) (v := .int (vI d)) (C := RX5) (T := TX5) (N := 3) hx hb hts iX5 hown hK.1 hP 0 rfl rfl 2 (by decide) f18 (fun _ h9 => h9) rfl dX5_determinant_5 ?_
  refine n_imul hx hb dX5_determinant_8 ?_
  refine lv_aload_n hx hb dX5_determinant_9 rfl (lv_at hl 0 rfl) ?_
  refine va_get (D := D) (ci := 5) (v := .int (vI b)) (C := RX5) (T := TX5) (N := 3) hx hb hts iX5 hown hK.1 hP 0 rfl rfl 1 (by decide) f15 (fun _ h9 => h9) rfl dX5_determinant_10 ?_
  refine lv_aload_n hx hb dX5_determinant_13 rfl (lv_at hl 0 rfl) ?_
  refine va_get (D := D) (ci := 5) (v := .int (vI b)) (C := RX5) (T := TX5) (N := 3) hx hb hts iX5 hown hK.1 hP 0 rfl rfl 1 (by decide) f15 (fun _ h9 => h9) rfl dX5_determinant_14 ?_
  refine n_imul hx hb dX5_determinant_17 ?_
  have ct18 := c_X6_less l D tys (zv a * zv d) (zv b * zv b) _ _ (ra_sub (rp_a (rp_mul (rp_v a) (rp_v d))) (rp_a (rp_mul (rp_v b) (rp_v b)))) (Nat.le_of_ble_eq_true rfl)
  refine k_goI (va_runSN (As := [.int (jI (zv a * zv d)), .int (jI (zv b * zv b))]) (rest := []) ⟨hx, hb, hml, hown, hts⟩ (ct18.2 _) ⟨va_cnB (own := RX5) (host := "FieldFilter") (index := 25) 2 hts gX5_determinant_X6_less_n25 rfl rfl rfl (hK.2 (RX5, 25, yX6_less, "FieldFilter") (by decide +kernel)) iniX6 (by decide +kernel) ⟨Nat.le_of_ble_eq_true rfl, Nat.le_of_ble_eq_true rfl⟩, sX6_less, trivial⟩ (k_pre hK hP hD (is := []) rfl rfl) rfl rfl hl.1 rfl (lv_room (Nat.le_of_ble_eq_true rfl)) dX5_determinant_18 ⟨Nat.le_of_ble_eq_true rfl, Nat.le_of_ble_eq_true rfl⟩) ct18.1 hP hD hS hA [] rfl rfl (fun H locs hP hD hS => ?_)
  have hP : va_P D vwCl [(h0, .inr (5, [.int (vI a), .int (vI b), .int (vI d)]))] H := hP
  have hD : va_D A [(h0, .inr (5, [.int (vI a), .int (vI b), .int (vI d)]))] := hD
  exact k_iret hx hb hr hlocks dX5_determinant_21 hP hS rfl

set_option maxHeartbeats 4000000 in
set_option maxRecDepth 100000 in
/--  -/
theorem c_X5_invert0 (l : Launch) (D : va_G) (tys : List (ClassId × FieldType)) (h0 o : Nat) (u v w : Int32) (a b d : Zp) (h9 : a * d - b * b = 0) : CtI l D tys yX5_invert wsX5_invert 3 63 [.ref h0, .ref o] (jI (iB false)) [(h0, .inr (5, [.int u, .int v, .int w])), (o, .inr (5, [.int (vI a), .int (vI b), .int (vI d)]))] [(h0, .inr (5, [.int u, .int v, .int w])), (o, .inr (5, [.int (vI a), .int (vI b), .int (vI d)]))] := by
  refine CtI.of (cc := cX5_invert) (maxL := 4) (by decide +kernel) rfl rfl (Nat.le_of_ble_eq_true rfl) ?_
  intro p e s m below meth c A ls hcx hK hP hD hA hl
  obtain ⟨hx, hb, hr, hml, hown, hts, hlocks⟩ := hcx
  have hS : va_S A s.heap s.heap [] := va_S.rf
  have hown : s.vm.findClass RX5 = some m.cls := hown
  have hl : lv_has ls 4 [(0, .ref h0), (1, .ref o)] := hl
  refine lv_aload_n hx hb dX5_invert_0 rfl (lv_at hl 1 rfl) ?_
  have ct1 := c_X5_determinant l D tys o a b d
  refine k_goI (va_runV (As := []) (rest := []) ⟨hx, hb, hml, hown, hts⟩ (ct1.2 _) (cwV 0 hts gX5_invert_X5_determinant rfl rfl rfl (by decide +kernel) ⟨Nat.le_of_ble_eq_true rfl, Nat.le_of_ble_eq_true rfl⟩) ⟨(k_pre hK hP hD (is := [1]) rfl rfl).1, va_recv hK.1 hP (ci := 5) (q0 := 1) rfl rfl, (k_pre hK hP hD (is := [1]) rfl rfl).2⟩ rfl rfl hl.1 rfl (lv_room (Nat.le_of_ble_eq_true rfl)) dX5_invert_1 ⟨Nat.le_of_ble_eq_true rfl, Nat.le_of_ble_eq_true rfl⟩) ct1.1 hP hD hS hA [1] rfl rfl (fun H locs hP hD hS => ?_)
  have hP : va_P D vwCl [(h0, .inr (5, [.int u, .int v, .int w])), (o, .inr (5, [.int (vI a), .int (vI b), .int (vI d)]))] H := hP
  have hD : va_D A [(h0, .inr (5, [.int u, .int v, .int w])), (o, .inr (5, [.int (vI a), .int (vI b), .int (vI d)]))] := hD
  refine lv_istore_n (lv' := [(2, .int (vI (a * d - b * b))), (0, .ref h0), (1, .ref o)]) hx hb dX5_invert_4 rfl hl (by decide) rfl (fun ls hl => ?_)
  refine lv_iload_n hx hb dX5_invert_5 rfl (lv_at hl 0 rfl) ?_
  refine n_if_ne (tgt := 11) hx hb (by have h9 := (rp_v (a * d - b * b)); exact ⟨by have := h9.1; omega, by have := h9.2.1; omega⟩) dX5_invert_6 (by decide) (fun h6 => False.elim (h6 (zv_eq0.mpr h9))) (fun h6 => ?_)
  refine n_iconst hx hb dX5_invert_9 ?_
  exact k_zret (b := false) hx hb hr hlocks dX5_invert_10 hP hS rfl rfl

set_option maxHeartbeats 4000000 in
set_option maxRecDepth 100000 in
/--  -/
theorem c_X5_invert1 (l : Launch) (D : va_G) (tys : List (ClassId × FieldType)) (h0 o : Nat) (u v w : Int32) (a b d : Zp) (h9 : ¬ a * d - b * b = 0) : CtI l D tys yX5_invert wsX5_invert 3 63 [.ref h0, .ref o] (jI (iB true)) [(h0, .inr (5, [.int u, .int v, .int w])), (o, .inr (5, [.int (vI a), .int (vI b), .int (vI d)]))] [(h0, .inr (5, [.int (vI (d * (zinv (a * d - b * b)))), .int (vI (0 - (b * (zinv (a * d - b * b))))), .int (vI (a * (zinv (a * d - b * b))))])), (o, .inr (5, [.int (vI a), .int (vI b), .int (vI d)]))] := by
  refine CtI.of (cc := cX5_invert) (maxL := 4) (by decide +kernel) rfl rfl (Nat.le_of_ble_eq_true rfl) ?_
  intro p e s m below meth c A ls hcx hK hP hD hA hl
  obtain ⟨hx, hb, hr, hml, hown, hts, hlocks⟩ := hcx
  have hS : va_S A s.heap s.heap [] := va_S.rf
  have hown : s.vm.findClass RX5 = some m.cls := hown
  have hl : lv_has ls 4 [(0, .ref h0), (1, .ref o)] := hl
  have sX6_inverse := hts (.static yX6_inverse) (by decide +kernel)
  have iniX6 := hts (.initialized RX6) (by decide +kernel)
  have f18 := hts (.fieldLink RX5 18 "FieldFilter$Symmetric" "a11" "I") (by decide +kernel)
  have iX5 : ∀ w ∈ u_ws RX5 TX5 3, w ∈ wsX5_invert := by decide +kernel
  have f15 := hts (.fieldLink RX5 15 "FieldFilter$Symmetric" "a01" "I") (by decide +kernel)
  have sX6_less := hts (.static yX6_less) (by decide +kernel)
  have f9 := hts (.fieldLink RX5 9 "FieldFilter$Symmetric" "a00" "I") (by decide +kernel)
  refine lv_aload_n hx hb dX5_invert_0 rfl (lv_at hl 1 rfl) ?_
  have ct1 := c_X5_determinant l D tys o a b d
  refine k_goI (va_runV (As := []) (rest := []) ⟨hx, hb, hml, hown, hts⟩ (ct1.2 _) (cwV 0 hts gX5_invert_X5_determinant rfl rfl rfl (by decide +kernel) ⟨Nat.le_of_ble_eq_true rfl, Nat.le_of_ble_eq_true rfl⟩) ⟨(k_pre hK hP hD (is := [1]) rfl rfl).1, va_recv hK.1 hP (ci := 5) (q0 := 1) rfl rfl, (k_pre hK hP hD (is := [1]) rfl rfl).2⟩ rfl rfl hl.1 rfl (lv_room (Nat.le_of_ble_eq_true rfl)) dX5_invert_1 ⟨Nat.le_of_ble_eq_true rfl, Nat.le_of_ble_eq_true rfl⟩) ct1.1 hP hD hS hA [1] rfl rfl (fun H locs hP hD hS => ?_)
  have hP : va_P D vwCl [(h0, .inr (5, [.int u, .int v, .int w])), (o, .inr (5, [.int (vI a), .int (vI b), .int (vI d)]))] H := hP
  have hD : va_D A [(h0, .inr (5, [.int u, .int v, .int w])), (o, .inr (5, [.int (vI a), .int (vI b), .int (vI d)]))] := hD
  refine lv_istore_n (lv' := [(2, .int (vI (a * d - b * b))), (0, .ref h0), (1, .ref o)]) hx hb dX5_invert_4 rfl hl (by decide) rfl (fun ls hl => ?_)
  refine lv_iload_n hx hb dX5_invert_5 rfl (lv_at hl 0 rfl) ?_
  refine n_if_ne (tgt := 11) hx hb (by have h9 := (rp_v (a * d - b * b)); exact ⟨by have := h9.1; omega, by have := h9.2.1; omega⟩) dX5_invert_6 (by decide) (fun h6 => ?_) (fun h6 => False.elim (h9 (zv_eq0.mp h6)))
  refine lv_iload_n hx hb dX5_invert_11 rfl (lv_at hl 0 rfl) ?_
  have ct12 := c_X6_inverse l D tys (a * d - b * b)
  refine k_goI (va_runSN (As := [.int (vI (a * d - b * b))]) (rest := []) ⟨hx, hb, hml, hown, hts⟩ (ct12.2 _) ⟨va_cnB (own := RX5) (host := "FieldFilter") (index := 33) 1 hts gX5_invert_X6_inverse_n33 rfl rfl rfl (hK.2 (RX5, 33, yX6_inverse, "FieldFilter") (by decide +kernel)) iniX6 (by decide +kernel) ⟨Nat.le_of_ble_eq_true rfl, Nat.le_of_ble_eq_true rfl⟩, sX6_inverse, trivial⟩ (k_pre hK hP hD (is := []) rfl rfl) rfl rfl hl.1 rfl (lv_room (Nat.le_of_ble_eq_true rfl)) dX5_invert_12 ⟨Nat.le_of_ble_eq_true rfl, Nat.le_of_ble_eq_true rfl⟩) ct12.1 hP hD hS hA [] rfl rfl (fun H locs hP hD hS => ?_)
  have hP : va_P D vwCl [(h0, .inr (5, [.int u, .int v, .int w])), (o, .inr (5, [.int (vI a), .int (vI b), .int (vI d)]))] H := hP
  have hD : va_D A [(h0, .inr (5, [.int u, .int v, .int w])), (o, .inr (5, [.int (vI a), .int (vI b), .int (vI d)]))] := hD
  refine lv_istore_n (lv' := [(3, .int (vI (zinv (a * d - b * b)))), (2, .int (vI (a * d - b * b))), (0, .ref h0), (1, .ref o)]) hx hb dX5_invert_15 rfl hl (by decide) rfl (fun ls hl => ?_)
  refine lv_aload_n hx hb dX5_invert_16 rfl (lv_at hl 2 rfl) ?_
  refine lv_aload_n hx hb dX5_invert_17 rfl (lv_at hl 3 rfl) ?_
  refine va_get (D := D) (ci := 5) (v := .int (vI d)) (C := RX5) (T := TX5) (N := 3) hx hb hts iX5 hown hK.1 hP 1 rfl rfl 2 (by decide) f18 (fun _ h9 => h9) rfl dX5_invert_18 ?_
  refine lv_iload_n hx hb dX5_invert_21 rfl (lv_at hl 0 rfl) ?_
  refine n_imul hx hb dX5_invert_22 ?_
  refine n_sipush hx hb dX5_invert_23 (by decide) ?_
  refine n_irem hx hb dX5_invert_26 (rp_mul (rp_v d) (rp_v (zinv (a * d - b * b)))) (Nat.le_of_ble_eq_true rfl) ?_
  refine n_iconst hx hb dX5_invert_27 ?_
  refine lv_aload_n hx hb dX5_invert_28 rfl (lv_at hl 3 rfl) ?_
  refine va_get (D := D) (ci := 5) (v := .int (vI b)) (C := RX5) (T := TX5) (N := 3) hx hb hts iX5 hown hK.1 hP 1 rfl rfl 1 (by decide) f15 (fun _ h9 => h9) rfl dX5_invert_29 ?_
  refine lv_iload_n hx hb dX5_invert_32 rfl (lv_at hl 0 rfl) ?_
  refine n_imul hx hb dX5_invert_33 ?_
  have ct34 := c_X6_less l D tys 0 (zv b * zv (zinv (a * d - b * b))) _ _ (ra_sub (rp_a rp_0) (rp_a (rp_mul (rp_v b) (rp_v (zinv (a * d - b * b)))))) (Nat.le_of_ble_eq_true rfl)
  refine k_goI (va_runSN (As := [.int (jI 0), .int (jI (zv b * zv (zinv (a * d - b * b))))]) (rest := [.int (vI (d * (zinv (a * d - b * b)))), .ref h0]) ⟨hx, hb, hml, hown, hts⟩ (ct34.2 _) ⟨va_cnB (own := RX5) (host := "FieldFilter") (index := 25) 2 hts gX5_invert_X6_less_n25 rfl rfl rfl (hK.2 (RX5, 25, yX6_less, "FieldFilter") (by decide +kernel)) iniX6 (by decide +kernel) ⟨Nat.le_of_ble_eq_true rfl, Nat.le_of_ble_eq_true rfl⟩, sX6_less, trivial⟩ (k_pre hK hP hD (is := []) rfl rfl) rfl rfl hl.1 rfl (lv_room (Nat.le_of_ble_eq_true rfl)) dX5_invert_34 ⟨Nat.le_of_ble_eq_true rfl, Nat.le_of_ble_eq_true rfl⟩) ct34.1 hP hD hS hA [] rfl rfl (fun H locs hP hD hS => ?_)
  have hP : va_P D vwCl [(h0, .inr (5, [.int u, .int v, .int w])), (o, .inr (5, [.int (vI a), .int (vI b), .int (vI d)]))] H := hP
  have hD : va_D A [(h0, .inr (5, [.int u, .int v, .int w])), (o, .inr (5, [.int (vI a), .int (vI b), .int (vI d)]))] := hD
  refine lv_aload_n hx hb dX5_invert_37 rfl (lv_at hl 3 rfl) ?_
  refine va_get (D := D) (ci := 5) (v := .int (vI a)) (C := RX5) (T := TX5) (N := 3) hx hb hts iX5 hown hK.1 hP 1 rfl rfl 0 (by decide) f9 (fun _ h9 => h9) rfl dX5_invert_38 ?_
  refine lv_iload_n hx hb dX5_invert_41 rfl (lv_at hl 0 rfl) ?_
  refine n_imul hx hb dX5_invert_42 ?_
  refine n_sipush hx hb dX5_invert_43 (by decide) ?_
  refine n_irem hx hb dX5_invert_46 (rp_mul (rp_v a) (rp_v (zinv (a * d - b * b)))) (Nat.le_of_ble_eq_true rfl) ?_
  have ct47 := c_X5_set l D tys h0 u v w (vI (d * (zinv (a * d - b * b)))) (vI (0 - (b * (zinv (a * d - b * b))))) (vI (a * (zinv (a * d - b * b))))
  refine k_goV (va_runV (As := [.int (vI (d * (zinv (a * d - b * b)))), .int (vI (0 - (b * (zinv (a * d - b * b))))), .int (vI (a * (zinv (a * d - b * b))))]) (rest := []) ⟨hx, hb, hml, hown, hts⟩ (ct47.2 _) (cwV 3 hts gX5_invert_X5_set rfl rfl rfl (by decide +kernel) ⟨Nat.le_of_ble_eq_true rfl, Nat.le_of_ble_eq_true rfl⟩) ⟨(k_pre hK hP hD (is := [0]) rfl rfl).1, va_recv hK.1 hP (ci := 5) (q0 := 0) rfl rfl, (k_pre hK hP hD (is := [0]) rfl rfl).2⟩ rfl rfl hl.1 rfl (lv_room (Nat.le_of_ble_eq_true rfl)) dX5_invert_47 ⟨Nat.le_of_ble_eq_true rfl, Nat.le_of_ble_eq_true rfl⟩) ct47.1 hP hD hS hA [0] rfl rfl (fun H locs hP hD hS => ?_)
  have hP : va_P D vwCl [(h0, .inr (5, [.int (vI (d * (zinv (a * d - b * b)))), .int (vI (0 - (b * (zinv (a * d - b * b))))), .int (vI (a * (zinv (a * d - b * b))))])), (o, .inr (5, [.int (vI a), .int (vI b), .int (vI d)]))] H := hP
  have hD : va_D A [(h0, .inr (5, [.int (vI (d * (zinv (a * d - b * b)))), .int (vI (0 - (b * (zinv (a * d - b * b))))), .int (vI (a * (zinv (a * d - b * b))))])), (o, .inr (5, [.int (vI a), .int (vI b), .int (vI d)]))] := hD
  refine n_iconst hx hb dX5_invert_50 ?_
  exact k_zret hx hb hr hlocks dX5_invert_51 hP hS rfl rfl

set_option maxHeartbeats 4000000 in
set_option maxRecDepth 100000 in
/--  -/
theorem c_X5_multiply (l : Launch) (D : va_G) (tys : List (ClassId × FieldType)) (h0 o : Nat) (a b d u v : Zp) : CtV l D tys yX5_multiply wsX5_multiply 1 22 [.ref h0, .ref o] [(h0, .inr (5, [.int (vI a), .int (vI b), .int (vI d)])), (o, .inr (0, [.int (vI u), .int (vI v)]))] [(h0, .inr (5, [.int (vI a), .int (vI b), .int (vI d)])), (o, .inr (0, [.int (vI ((a * u) + (b * v))), .int (vI ((b * u) + (d * v)))]))] := by
  refine CtV.of (cc := cX5_multiply) (maxL := 2) (by decide +kernel) rfl rfl (Nat.le_of_ble_eq_true rfl) ?_
  intro p e s m below meth c A ls hcx hK hP hD hA hl
  obtain ⟨hx, hb, hr, hml, hown, hts, hlocks⟩ := hcx
  have hS : va_S A s.heap s.heap [] := va_S.rf
  have hown : s.vm.findClass RX5 = some m.cls := hown
  have hl : lv_has ls 2 [(0, .ref h0), (1, .ref o)] := hl
  have f9 := hts (.fieldLink RX5 9 "FieldFilter$Symmetric" "a00" "I") (by decide +kernel)
  have iX5 : ∀ w ∈ u_ws RX5 TX5 3, w ∈ wsX5_multiply := by decide +kernel
  have f37 := hts (.fieldLink RX5 37 "FieldFilter$Column" "upper" "I") (by decide +kernel)
  have iX0 : ∀ w ∈ u_ws RX0 TX0 2, w ∈ wsX5_multiply := by decide +kernel
  have f15 := hts (.fieldLink RX5 15 "FieldFilter$Symmetric" "a01" "I") (by decide +kernel)
  have f42 := hts (.fieldLink RX5 42 "FieldFilter$Column" "lower" "I") (by decide +kernel)
  have f18 := hts (.fieldLink RX5 18 "FieldFilter$Symmetric" "a11" "I") (by decide +kernel)
  refine lv_aload_n hx hb dX5_multiply_0 rfl (lv_at hl 1 rfl) ?_
  refine lv_aload_n hx hb dX5_multiply_1 rfl (lv_at hl 0 rfl) ?_
  refine va_get (D := D) (ci := 5) (v := .int (vI a)) (C := RX5) (T := TX5) (N := 3) hx hb hts iX5 hown hK.1 hP 0 rfl rfl 0 (by decide) f9 (fun _ h9 => h9) rfl dX5_multiply_2 ?_
  refine lv_aload_n hx hb dX5_multiply_5 rfl (lv_at hl 1 rfl) ?_
  refine va_get (D := D) (ci := 0) (v := .int (vI u)) (C := RX0) (T := TX0) (N := 2) hx hb hts iX0 hown hK.1 hP 1 rfl rfl 0 (by decide) f37 (fun _ h9 => h9) rfl dX5_multiply_6 ?_
  refine n_imul hx hb dX5_multiply_9 ?_
  refine lv_aload_n hx hb dX5_multiply_10 rfl (lv_at hl 0 rfl) ?_
  refine va_get (D := D) (ci := 5) (v := .int (vI b)) (C := RX5) (T := TX5) (N := 3) hx hb hts iX5 hown hK.1 hP 0 rfl rfl 1 (by decide) f15 (fun _ h9 => h9) rfl dX5_multiply_11 ?_
  refine lv_aload_n hx hb dX5_multiply_14 rfl (lv_at hl 1 rfl) ?_
  refine va_get (D := D) (ci := 0) (v := .int (vI v)) (C := RX0) (T := TX0) (N := 2) hx hb hts iX0 hown hK.1 hP 1 rfl rfl 1 (by decide) f42 (fun _ h9 => h9) rfl dX5_multiply_15 ?_
  refine n_imul hx hb dX5_multiply_18 ?_
  refine n_iadd hx hb dX5_multiply_19 ?_
  refine n_sipush hx hb dX5_multiply_20 (by decide) ?_
  refine n_irem hx hb dX5_multiply_23 (rp_add (rp_mul (rp_v a) (rp_v u)) (rp_mul (rp_v b) (rp_v v))) (Nat.le_of_ble_eq_true rfl) ?_
  refine lv_aload_n hx hb dX5_multiply_24 rfl (lv_at hl 0 rfl) ?_
  refine va_get (D := D) (ci := 5) (v := .int (vI b)) (C := RX5) (T := TX5) (N := 3) hx hb hts iX5 hown hK.1 hP 0 rfl rfl 1 (by decide) f15 (fun _ h9 => h9) rfl dX5_multiply_25 ?_
  refine lv_aload_n hx hb dX5_multiply_28 rfl (lv_at hl 1 rfl) ?_
  refine va_get (D := D) (ci := 0) (v := .int (vI u)) (C := RX0) (T := TX0) (N := 2) hx hb hts iX0 hown hK.1 hP 1 rfl rfl 0 (by decide) f37 (fun _ h9 => h9) rfl dX5_multiply_29 ?_
  refine n_imul hx hb dX5_multiply_32 ?_
  refine lv_aload_n hx hb dX5_multiply_33 rfl (lv_at hl 0 rfl) ?_
  refine va_get (D := D) (ci := 5) (v := .int (vI d)) (C := RX5) (T := TX5) (N := 3) hx hb hts iX5 hown hK.1 hP 0 rfl rfl 2 (by decide) f18 (fun _ h9 => h9) rfl dX5_multiply_34 ?_
  refine lv_aload_n hx hb dX5_multiply_37 rfl (lv_at hl 1 rfl) ?_
  refine va_get (D := D) (ci := 0) (v := .int (vI v)) (C := RX0) (T := TX0) (N := 2) hx hb hts iX0 hown hK.1 hP 1 rfl rfl 1 (by decide) f42 (fun _ h9 => h9) rfl dX5_multiply_38 ?_
  refine n_imul hx hb dX5_multiply_41 ?_
  refine n_iadd hx hb dX5_multiply_42 ?_
  refine n_sipush hx hb dX5_multiply_43 (by decide) ?_
  refine n_irem hx hb dX5_multiply_46 (rp_add (rp_mul (rp_v b) (rp_v u)) (rp_mul (rp_v d) (rp_v v))) (Nat.le_of_ble_eq_true rfl) ?_
  have ct47 := c_X0_set l D tys o (vI u) (vI v) (vI ((a * u) + (b * v))) (vI ((b * u) + (d * v)))
  refine k_goV (va_runV (As := [.int (vI ((a * u) + (b * v))), .int (vI ((b * u) + (d * v)))]) (rest := []) ⟨hx, hb, hml, hown, hts⟩ (ct47.2 _) (cwV 2 hts gX5_multiply_X0_set rfl rfl rfl (by decide +kernel) ⟨Nat.le_of_ble_eq_true rfl, Nat.le_of_ble_eq_true rfl⟩) ⟨(k_pre hK hP hD (is := [1]) rfl rfl).1, va_recv hK.1 hP (ci := 0) (q0 := 1) rfl rfl, (k_pre hK hP hD (is := [1]) rfl rfl).2⟩ rfl rfl hl.1 rfl (lv_room (Nat.le_of_ble_eq_true rfl)) dX5_multiply_47 ⟨Nat.le_of_ble_eq_true rfl, Nat.le_of_ble_eq_true rfl⟩) ct47.1 hP hD hS hA [1] rfl rfl (fun H locs hP hD hS => ?_)
  have hP : va_P D vwCl [(h0, .inr (5, [.int (vI a), .int (vI b), .int (vI d)])), (o, .inr (0, [.int (vI ((a * u) + (b * v))), .int (vI ((b * u) + (d * v)))]))] H := hP
  have hD : va_D A [(h0, .inr (5, [.int (vI a), .int (vI b), .int (vI d)])), (o, .inr (0, [.int (vI ((a * u) + (b * v))), .int (vI ((b * u) + (d * v)))]))] := hD
  exact k_vret hx hb hr hlocks dX5_multiply_50 hP hS

set_option maxHeartbeats 4000000 in
set_option maxRecDepth 100000 in
/--  -/
theorem c_X5_addSquare (l : Launch) (D : va_G) (tys : List (ClassId × FieldType)) (h0 o : Nat) (a b d u v k : Zp) : CtV l D tys yX5_addSquare wsX5_addSquare 1 23 [.ref h0, .ref o, .int (vI k)] [(h0, .inr (5, [.int (vI a), .int (vI b), .int (vI d)])), (o, .inr (0, [.int (vI u), .int (vI v)]))] [(h0, .inr (5, [.int (vI (a + ((u * k) * u))), .int (vI (b + ((u * k) * v))), .int (vI (d + ((v * k) * v)))])), (o, .inr (0, [.int (vI u), .int (vI v)]))] := by
  refine CtV.of (cc := cX5_addSquare) (maxL := 5) (by decide +kernel) rfl rfl (Nat.le_of_ble_eq_true rfl) ?_
  intro p e s m below meth c A ls hcx hK hP hD hA hl
  obtain ⟨hx, hb, hr, hml, hown, hts, hlocks⟩ := hcx
  have hS : va_S A s.heap s.heap [] := va_S.rf
  have hown : s.vm.findClass RX5 = some m.cls := hown
  have hl : lv_has ls 5 [(0, .ref h0), (1, .ref o), (2, .int (vI k))] := hl
  have f37 := hts (.fieldLink RX5 37 "FieldFilter$Column" "upper" "I") (by decide +kernel)
  have iX0 : ∀ w ∈ u_ws RX0 TX0 2, w ∈ wsX5_addSquare := by decide +kernel
  have f42 := hts (.fieldLink RX5 42 "FieldFilter$Column" "lower" "I") (by decide +kernel)
  have f9 := hts (.fieldLink RX5 9 "FieldFilter$Symmetric" "a00" "I") (by decide +kernel)
  have iX5 : ∀ w ∈ u_ws RX5 TX5 3, w ∈ wsX5_addSquare := by decide +kernel
  have f15 := hts (.fieldLink RX5 15 "FieldFilter$Symmetric" "a01" "I") (by decide +kernel)
  have f18 := hts (.fieldLink RX5 18 "FieldFilter$Symmetric" "a11" "I") (by decide +kernel)
  refine lv_aload_n hx hb dX5_addSquare_0 rfl (lv_at hl 1 rfl) ?_
  refine va_get (D := D) (ci := 0) (v := .int (vI u)) (C := RX0) (T := TX0) (N := 2) hx hb hts iX0 hown hK.1 hP 1 rfl rfl 0 (by decide) f37 (fun _ h9 => h9) rfl dX5_addSquare_1 ?_
  refine lv_iload_n hx hb dX5_addSquare_4 rfl (lv_at hl 2 rfl) ?_
  refine n_imul hx hb dX5_addSquare_5 ?_
  refine n_sipush hx hb dX5_addSquare_6 (by decide) ?_
  refine n_irem hx hb dX5_addSquare_9 (rp_mul (rp_v u) (rp_v k)) (Nat.le_of_ble_eq_true rfl) ?_
  refine lv_istore_n (lv' := [(3, .int (vI (u * k))), (0, .ref h0), (1, .ref o), (2, .int (vI k))]) hx hb dX5_addSquare_10 rfl hl (by decide) rfl (fun ls hl => ?_)
  refine lv_aload_n hx hb dX5_addSquare_11 rfl (lv_at hl 2 rfl) ?_
  refine va_get (D := D) (ci := 0) (v := .int (vI v)) (C := RX0) (T := TX0) (N := 2) hx hb hts iX0 hown hK.1 hP 1 rfl rfl 1 (by decide) f42 (fun _ h9 => h9) rfl dX5_addSquare_12 ?_
  refine lv_iload_n hx hb dX5_addSquare_15 rfl (lv_at hl 3 rfl) ?_
  refine n_imul hx hb dX5_addSquare_16 ?_
  refine n_sipush hx hb dX5_addSquare_17 (by decide) ?_
  refine n_irem hx hb dX5_addSquare_20 (rp_mul (rp_v v) (rp_v k)) (Nat.le_of_ble_eq_true rfl) ?_
  refine lv_istore (lv' := [(4, .int (vI (v * k))), (3, .int (vI (u * k))), (0, .ref h0), (1, .ref o), (2, .int (vI k))]) hx hb dX5_addSquare_21 hl (by decide) rfl (fun ls hl => ?_)
  refine lv_aload_n hx hb dX5_addSquare_23 rfl (lv_at hl 2 rfl) ?_
  refine lv_aload_n hx hb dX5_addSquare_24 rfl (lv_at hl 2 rfl) ?_
  refine va_get (D := D) (ci := 5) (v := .int (vI a)) (C := RX5) (T := TX5) (N := 3) hx hb hts iX5 hown hK.1 hP 0 rfl rfl 0 (by decide) f9 (fun _ h9 => h9) rfl dX5_addSquare_25 ?_
  refine lv_iload_n hx hb dX5_addSquare_28 rfl (lv_at hl 1 rfl) ?_
  refine lv_aload_n hx hb dX5_addSquare_29 rfl (lv_at hl 3 rfl) ?_
  refine va_get (D := D) (ci := 0) (v := .int (vI u)) (C := RX0) (T := TX0) (N := 2) hx hb hts iX0 hown hK.1 hP 1 rfl rfl 0 (by decide) f37 (fun _ h9 => h9) rfl dX5_addSquare_30 ?_
  refine n_imul hx hb dX5_addSquare_33 ?_
  refine n_iadd hx hb dX5_addSquare_34 ?_
  refine n_sipush hx hb dX5_addSquare_35 (by decide) ?_
  refine n_irem hx hb dX5_addSquare_38 (rp_add (rp_v a) (rp_mul (rp_v (u * k)) (rp_v u))) (Nat.le_of_ble_eq_true rfl) ?_
  refine lv_aload_n hx hb dX5_addSquare_39 rfl (lv_at hl 2 rfl) ?_
  refine va_get (D := D) (ci := 5) (v := .int (vI b)) (C := RX5) (T := TX5) (N := 3) hx hb hts iX5 hown hK.1 hP 0 rfl rfl 1 (by decide) f15 (fun _ h9 => h9) rfl dX5_addSquare_40 ?_
  refine lv_iload_n hx hb dX5_addSquare_43 rfl (lv_at hl 1 rfl) ?_
  refine lv_aload_n hx hb dX5_addSquare_44 rfl (lv_at hl 3 rfl) ?_
  refine va_get (D := D) (ci := 0) (v := .int (vI v)) (C := RX0) (T := TX0) (N := 2) hx hb hts iX0 hown hK.1 hP 1 rfl rfl 1 (by decide) f42 (fun _ h9 => h9) rfl dX5_addSquare_45 ?_
  refine n_imul hx hb dX5_addSquare_48 ?_
  refine n_iadd hx hb dX5_addSquare_49 ?_
  refine n_sipush hx hb dX5_addSquare_50 (by decide) ?_
  refine n_irem hx hb dX5_addSquare_53 (rp_add (rp_v b) (rp_mul (rp_v (u * k)) (rp_v v))) (Nat.le_of_ble_eq_true rfl) ?_
  refine lv_aload_n hx hb dX5_addSquare_54 rfl (lv_at hl 2 rfl) ?_
  refine va_get (D := D) (ci := 5) (v := .int (vI d)) (C := RX5) (T := TX5) (N := 3) hx hb hts iX5 hown hK.1 hP 0 rfl rfl 2 (by decide) f18 (fun _ h9 => h9) rfl dX5_addSquare_55 ?_
  refine lv_iload hx hb dX5_addSquare_58 (lv_at hl 0 rfl) ?_
  refine lv_aload_n hx hb dX5_addSquare_60 rfl (lv_at hl 3 rfl) ?_
  refine va_get (D := D) (ci := 0) (v := .int (vI v)) (C := RX0) (T := TX0) (N := 2) hx hb hts iX0 hown hK.1 hP 1 rfl rfl 1 (by decide) f42 (fun _ h9 => h9) rfl dX5_addSquare_61 ?_
  refine n_imul hx hb dX5_addSquare_64 ?_
  refine n_iadd hx hb dX5_addSquare_65 ?_
  refine n_sipush hx hb dX5_addSquare_66 (by decide) ?_
  refine n_irem hx hb dX5_addSquare_69 (rp_add (rp_v d) (rp_mul (rp_v (v * k)) (rp_v v))) (Nat.le_of_ble_eq_true rfl) ?_
  have ct70 := c_X5_set l D tys h0 (vI a) (vI b) (vI d) (vI (a + ((u * k) * u))) (vI (b + ((u * k) * v))) (vI (d + ((v * k) * v)))
  refine k_goV (va_runV (As := [.int (vI (a + ((u * k) * u))), .int (vI (b + ((u * k) * v))), .int (vI (d + ((v * k) * v)))]) (rest := []) ⟨hx, hb, hml, hown, hts⟩ (ct70.2 _) (cwV 3 hts gX5_addSquare_X5_set rfl rfl rfl (by decide +kernel) ⟨Nat.le_of_ble_eq_true rfl, Nat.le_of_ble_eq_true rfl⟩) ⟨(k_pre hK hP hD (is := [0]) rfl rfl).1, va_recv hK.1 hP (ci := 5) (q0 := 0) rfl rfl, (k_pre hK hP hD (is := [0]) rfl rfl).2⟩ rfl rfl hl.1 rfl (lv_room (Nat.le_of_ble_eq_true rfl)) dX5_addSquare_70 ⟨Nat.le_of_ble_eq_true rfl, Nat.le_of_ble_eq_true rfl⟩) ct70.1 hP hD hS hA [0] rfl rfl (fun H locs hP hD hS => ?_)
  have hP : va_P D vwCl [(h0, .inr (5, [.int (vI (a + ((u * k) * u))), .int (vI (b + ((u * k) * v))), .int (vI (d + ((v * k) * v)))])), (o, .inr (0, [.int (vI u), .int (vI v)]))] H := hP
  have hD : va_D A [(h0, .inr (5, [.int (vI (a + ((u * k) * u))), .int (vI (b + ((u * k) * v))), .int (vI (d + ((v * k) * v)))])), (o, .inr (0, [.int (vI u), .int (vI v)]))] := hD
  exact k_vret hx hb hr hlocks dX5_addSquare_73 hP hS
