/-! the reference: inverting, asking -/
def det5 (s : S5) : Zp := s.2.2.1 * s.2.2.2.2 - s.2.2.2.1 * s.2.2.2.1
/-- P inverted, x as it is -/
def inv5 (s : S5) : S5 := (s.1, s.2.1, s.2.2.2.2 * zinv (det5 s), 0 - s.2.2.2.1 * zinv (det5 s), s.2.2.1 * zinv (det5 s))
/-- x becomes P times x -/
def tim5 (s : S5) : S5 := (s.2.2.1 * s.1 + s.2.2.2.1 * s.2.1, s.2.2.2.1 * s.1 + s.2.2.2.2 * s.2.1, s.2.2.1, s.2.2.2.1, s.2.2.2.2)
def invg (g : Nat → Zp) : Nat → Zp := va_up (va_up (va_up g 2 (g 4 * zinv (det5 (s5 g)))) 3 (-g 3 * zinv (det5 (s5 g)))) 4 (g 2 * zinv (det5 (s5 g)))
def timg (g : Nat → Zp) : Nat → Zp := va_up (va_up g 1 (g 3 * g 0 + g 4 * g 1)) 0 (g 2 * g 0 + g 3 * g 1)
theorem s5_invg (g : Nat → Zp) : s5 (invg g) = inv5 (s5 g) := by
  refine Prod.ext rfl (Prod.ext rfl (Prod.ext rfl (Prod.ext ?_ rfl)))
  show -g 3 * zinv (det5 (s5 g)) = 0 - g 3 * zinv (det5 (s5 g))
  grind
theorem s5_timg (g : Nat → Zp) : s5 (timg g) = tim5 (s5 g) := rfl
def comp5 (s : S5) : Nat → Zp
  | 0 => s.1
  | 1 => s.2.1
  | 2 => s.2.2.1
  | 3 => s.2.2.2.1
  | _ => s.2.2.2.2
theorem comp_s5 (g : Nat → Zp) {w : Nat} (h : w ≤ 4) : g w = comp5 (s5 g) w := by
  match w, h with
  | 0, _ => rfl
  | 1, _ => rfl
  | 2, _ => rfl
  | 3, _ => rfl
  | 4, _ => rfl

set_option maxHeartbeats 4000000 in
set_option maxRecDepth 100000 in
/--  -/
theorem c_X7_inverts0 (l : Launch) (D : va_G) (tys : List (ClassId × FieldType)) {cJ : ClassId} (htJ : tys[1]? = some (cJ, .long)) (q : Nat) (g : Nat → Zp) (zd : Zp) (ezd : zd = g 2 * g 4 - g 3 * g 3) (h9 : zd = 0) : CtI l D tys yX7_inverts wsX7_inverts 2 49 [.ref q] (jI (iB false)) [(q, .inl (cJ, 5, .inr (.inl (fun i => vL (g i)))))] [(q, .inl (cJ, 5, .inr (.inl (fun i => vL ((va_up (va_up (va_up g 2 ((g 4) * (zinv zd))) 3 ((-((va_up g 2 ((g 4) * (zinv zd))) 3)) * (zinv zd))) 4 ((g 2) * (zinv zd))) i)))))] := by
  refine CtI.of (cc := cX7_inverts) (maxL := 7) (by decide +kernel) rfl rfl (Nat.le_of_ble_eq_true rfl) ?_
  intro p e s m below meth c A ls hcx hK hP hD hA hl
  obtain ⟨hx, hb, hr, hml, hown, hts, hlocks⟩ := hcx
  have hS : va_S A s.heap s.heap [] := va_S.rf
  have hown : s.vm.findClass RX7 = some m.cls := hown
  have hl : lv_has ls 7 [(0, .ref q)] := hl
  refine lv_aload_n hx hb dX7_inverts_0 rfl (lv_at hl 0 rfl) ?_
  refine n_iconst hx hb dX7_inverts_1 ?_
  refine n_lald (i := 2) hx hb hK hP 0 1 rfl htJ rfl (Nat.le_of_ble_eq_true rfl) (Nat.le_of_ble_eq_true rfl) dX7_inverts_2 ?_
  refine lv_aload_n hx hb dX7_inverts_3 rfl (lv_at hl 0 rfl) ?_
  refine n_iconst hx hb dX7_inverts_4 ?_
  refine n_lald (i := 4) hx hb hK hP 0 1 rfl htJ rfl (Nat.le_of_ble_eq_true rfl) (Nat.le_of_ble_eq_true rfl) dX7_inverts_5 ?_
  refine n_lmul hx hb dX7_inverts_6 ?_
  refine lv_aload_n hx hb dX7_inverts_7 rfl (lv_at hl 0 rfl) ?_
  refine n_iconst hx hb dX7_inverts_8 ?_
  refine n_lald (i := 3) hx hb hK hP 0 1 rfl htJ rfl (Nat.le_of_ble_eq_true rfl) (Nat.le_of_ble_eq_true rfl) dX7_inverts_9 ?_
  refine lv_aload_n hx hb dX7_inverts_10 rfl (lv_at hl 0 rfl) ?_
  refine n_iconst hx hb dX7_inverts_11 ?_
  refine n_lald (i := 3) hx hb hK hP 0 1 rfl htJ rfl (Nat.le_of_ble_eq_true rfl) (Nat.le_of_ble_eq_true rfl) dX7_inverts_12 ?_
  refine n_lmul hx hb dX7_inverts_13 ?_
  refine n_lsub hx hb dX7_inverts_14 ?_
  have ct15 := c_X7_by l D tys ((zv (g 2) * zv (g 4)) - (zv (g 3) * zv (g 3))) _ _ (ra_to (ra_sub (rp_a (rp_mul (rp_v (g 2)) (rp_v (g 4)))) (rp_a (rp_mul (rp_v (g 3)) (rp_v (g 3))))) ezd.symm) (Nat.le_of_ble_eq_true rfl)
  refine k_goL (va_runS (As := [.long (jL ((zv (g 2) * zv (g 4)) - (zv (g 3) * zv (g 3))))]) (rest := []) ⟨hx, hb, hml, hown, hts⟩ (ct15.2 _) (va_cwS 1 hts gX7_inverts_X7_by rfl rfl rfl (by decide +kernel) ⟨Nat.le_of_ble_eq_true rfl, Nat.le_of_ble_eq_true rfl⟩) (k_pre hK hP hD (is := []) rfl rfl) rfl rfl hl.1 rfl (lv_room (Nat.le_of_ble_eq_true rfl)) dX7_inverts_15 ⟨Nat.le_of_ble_eq_true rfl, Nat.le_of_ble_eq_true rfl⟩) ct15.1 hP hD hS hA [] rfl rfl (fun H locs hP hD hS => ?_)
  have hP : va_P D vwCl [(q, .inl (cJ, 5, .inr (.inl (fun i => vL (g i)))))] H := hP
  have hD : va_D A [(q, .inl (cJ, 5, .inr (.inl (fun i => vL (g i)))))] := hD
  refine lv_lstore_n (lv' := [(1, .long (vL zd)), (0, .ref q)]) hx hb dX7_inverts_18 rfl hl (by decide) rfl (fun ls hl => ?_)
  refine lv_lload_n hx hb dX7_inverts_19 rfl (lv_at hl 0 rfl) ?_
  have ct20 := c_X7_inverse l D tys zd
  refine k_goL (va_runS (As := [.long (vL zd)]) (rest := []) ⟨hx, hb, hml, hown, hts⟩ (ct20.2 _) (va_cwS 1 hts gX7_inverts_X7_inverse rfl rfl rfl (by decide +kernel) ⟨Nat.le_of_ble_eq_true rfl, Nat.le_of_ble_eq_true rfl⟩) (k_pre hK hP hD (is := []) rfl rfl) rfl rfl hl.1 rfl (lv_room (Nat.le_of_ble_eq_true rfl)) dX7_inverts_20 ⟨Nat.le_of_ble_eq_true rfl, Nat.le_of_ble_eq_true rfl⟩) ct20.1 hP hD hS hA [] rfl rfl (fun H locs hP hD hS => ?_)
  have hP : va_P D vwCl [(q, .inl (cJ, 5, .inr (.inl (fun i => vL (g i)))))] H := hP
  have hD : va_D A [(q, .inl (cJ, 5, .inr (.inl (fun i => vL (g i)))))] := hD
  refine lv_lstore_n (lv' := [(3, .long (vL (zinv zd))), (1, .long (vL zd)), (0, .ref q)]) hx hb dX7_inverts_23 rfl hl (by decide) rfl (fun ls hl => ?_)
  refine lv_aload_n hx hb dX7_inverts_24 rfl (lv_at hl 2 rfl) ?_
  refine n_iconst hx hb dX7_inverts_25 ?_
  refine n_lald (i := 2) hx hb hK hP 0 1 rfl htJ rfl (Nat.le_of_ble_eq_true rfl) (Nat.le_of_ble_eq_true rfl) dX7_inverts_26 ?_
  refine lv_lstore (lv' := [(5, .long (vL (g 2))), (3, .long (vL (zinv zd))), (1, .long (vL zd)), (0, .ref q)]) hx hb dX7_inverts_27 hl (by decide) rfl (fun ls hl => ?_)
  refine lv_aload_n hx hb dX7_inverts_29 rfl (lv_at hl 3 rfl) ?_
  refine n_iconst hx hb dX7_inverts_30 ?_
  refine lv_aload_n hx hb dX7_inverts_31 rfl (lv_at hl 3 rfl) ?_
  refine n_iconst hx hb dX7_inverts_32 ?_
  refine n_lald (i := 4) hx hb hK hP 0 1 rfl htJ rfl (Nat.le_of_ble_eq_true rfl) (Nat.le_of_ble_eq_true rfl) dX7_inverts_33 ?_
  refine lv_lload_n hx hb dX7_inverts_34 rfl (lv_at hl 1 rfl) ?_
  refine n_lmul hx hb dX7_inverts_35 ?_
  have ct36 := c_X7_by l D tys (zv (g 4) * zv (zinv zd)) _ _ (rp_a (rp_mul (rp_v (g 4)) (rp_v (zinv zd)))) (Nat.le_of_ble_eq_true rfl)
  refine k_goL (va_runS (As := [.long (jL (zv (g 4) * zv (zinv zd)))]) (rest := [.int (jI 2), .ref q]) ⟨hx, hb, hml, hown, hts⟩ (ct36.2 _) (va_cwS 1 hts gX7_inverts_X7_by rfl rfl rfl (by decide +kernel) ⟨Nat.le_of_ble_eq_true rfl, Nat.le_of_ble_eq_true rfl⟩) (k_pre hK hP hD (is := []) rfl rfl) rfl rfl hl.1 rfl (lv_room (Nat.le_of_ble_eq_true rfl)) dX7_inverts_36 ⟨Nat.le_of_ble_eq_true rfl, Nat.le_of_ble_eq_true rfl⟩) ct36.1 hP hD hS hA [] rfl rfl (fun H locs hP hD hS => ?_)
  have hP : va_P D vwCl [(q, .inl (cJ, 5, .inr (.inl (fun i => vL (g i)))))] H := hP
  have hD : va_D A [(q, .inl (cJ, 5, .inr (.inl (fun i => vL (g i)))))] := hD
  refine n_zlast (i := 2) (x := ((g 4) * (zinv zd))) hx hb hK hP hD hS 0 1 rfl htJ rfl (Nat.le_of_ble_eq_true rfl) (Nat.le_of_ble_eq_true rfl) dX7_inverts_39 (fun H locs hP hD hS => ?_)
  have hP : va_P D vwCl [(q, .inl (cJ, 5, .inr (.inl (fun i => vL ((va_up g 2 ((g 4) * (zinv zd))) i)))))] H := hP
  have hD : va_D A [(q, .inl (cJ, 5, .inr (.inl (fun i => vL ((va_up g 2 ((g 4) * (zinv zd))) i)))))] := hD
  refine lv_aload_n hx hb dX7_inverts_40 rfl (lv_at hl 3 rfl) ?_
  refine n_iconst hx hb dX7_inverts_41 ?_
  refine lv_aload_n hx hb dX7_inverts_42 rfl (lv_at hl 3 rfl) ?_
  refine n_iconst hx hb dX7_inverts_43 ?_
  refine n_lald (i := 3) hx hb hK hP 0 1 rfl htJ rfl (Nat.le_of_ble_eq_true rfl) (Nat.le_of_ble_eq_true rfl) dX7_inverts_44 ?_
  refine n_lneg hx hb dX7_inverts_45 ?_
  refine lv_lload_n hx hb dX7_inverts_46 rfl (lv_at hl 1 rfl) ?_
  refine n_lmul hx hb dX7_inverts_47 ?_
  have ct48 := c_X7_by l D tys ((-zv ((va_up g 2 ((g 4) * (zinv zd))) 3)) * zv (zinv zd)) _ _ (ra_mul (ra_neg (rp_a (rp_v ((va_up g 2 ((g 4) * (zinv zd))) 3)))) (rp_a (rp_v (zinv zd)))) (Nat.le_of_ble_eq_true rfl)
  refine k_goL (va_runS (As := [.long (jL ((-zv ((va_up g 2 ((g 4) * (zinv zd))) 3)) * zv (zinv zd)))]) (rest := [.int (jI 3), .ref q]) ⟨hx, hb, hml, hown, hts⟩ (ct48.2 _) (va_cwS 1 hts gX7_inverts_X7_by rfl rfl rfl (by decide +kernel) ⟨Nat.le_of_ble_eq_true rfl, Nat.le_of_ble_eq_true rfl⟩) (k_pre hK hP hD (is := []) rfl rfl) rfl rfl hl.1 rfl (lv_room (Nat.le_of_ble_eq_true rfl)) dX7_inverts_48 ⟨Nat.le_of_ble_eq_true rfl, Nat.le_of_ble_eq_true rfl⟩) ct48.1 hP hD hS hA [] rfl rfl (fun H locs hP hD hS => ?_)
  have hP : va_P D vwCl [(q, .inl (cJ, 5, .inr (.inl (fun i => vL ((va_up g 2 ((g 4) * (zinv zd))) i)))))] H := hP
  have hD : va_D A [(q, .inl (cJ, 5, .inr (.inl (fun i => vL ((va_up g 2 ((g 4) * (zinv zd))) i)))))] := hD
  refine n_zlast (i := 3) (x := ((-((va_up g 2 ((g 4) * (zinv zd))) 3)) * (zinv zd))) hx hb hK hP hD hS 0 1 rfl htJ rfl (Nat.le_of_ble_eq_true rfl) (Nat.le_of_ble_eq_true rfl) dX7_inverts_51 (fun H locs hP hD hS => ?_)
  have hP : va_P D vwCl [(q, .inl (cJ, 5, .inr (.inl (fun i => vL ((va_up (va_up g 2 ((g 4) * (zinv zd))) 3 ((-((va_up g 2 ((g 4) * (zinv zd))) 3)) * (zinv zd))) i)))))] H := hP
  have hD : va_D A [(q, .inl (cJ, 5, .inr (.inl (fun i => vL ((va_up (va_up g 2 ((g 4) * (zinv zd))) 3 ((-((va_up g 2 ((g 4) * (zinv zd))) 3)) * (zinv zd))) i)))))] := hD
  refine lv_aload_n hx hb dX7_inverts_52 rfl (lv_at hl 3 rfl) ?_
  refine n_iconst hx hb dX7_inverts_53 ?_
  refine lv_lload hx hb dX7_inverts_54 (lv_at hl 0 rfl) ?_
  refine lv_lload_n hx hb dX7_inverts_56 rfl (lv_at hl 1 rfl) ?_
  refine n_lmul hx hb dX7_inverts_57 ?_
  have ct58 := c_X7_by l D tys (zv (g 2) * zv (zinv zd)) _ _ (rp_a (rp_mul (rp_v (g 2)) (rp_v (zinv zd)))) (Nat.le_of_ble_eq_true rfl)
  refine k_goL (va_runS (As := [.long (jL (zv (g 2) * zv (zinv zd)))]) (rest := [.int (jI 4), .ref q]) ⟨hx, hb, hml, hown, hts⟩ (ct58.2 _) (va_cwS 1 hts gX7_inverts_X7_by rfl rfl rfl (by decide +kernel) ⟨Nat.le_of_ble_eq_true rfl, Nat.le_of_ble_eq_true rfl⟩) (k_pre hK hP hD (is := []) rfl rfl) rfl rfl hl.1 rfl (lv_room (Nat.le_of_ble_eq_true rfl)) dX7_inverts_58 ⟨Nat.le_of_ble_eq_true rfl, Nat.le_of_ble_eq_true rfl⟩) ct58.1 hP hD hS hA [] rfl rfl (fun H locs hP hD hS => ?_)
  have hP : va_P D vwCl [(q, .inl (cJ, 5, .inr (.inl (fun i => vL ((va_up (va_up g 2 ((g 4) * (zinv zd))) 3 ((-((va_up g 2 ((g 4) * (zinv zd))) 3)) * (zinv zd))) i)))))] H := hP
  have hD : va_D A [(q, .inl (cJ, 5, .inr (.inl (fun i => vL ((va_up (va_up g 2 ((g 4) * (zinv zd))) 3 ((-((va_up g 2 ((g 4) * (zinv zd))) 3)) * (zinv zd))) i)))))] := hD
  refine n_zlast (i := 4) (x := ((g 2) * (zinv zd))) hx hb hK hP hD hS 0 1 rfl htJ rfl (Nat.le_of_ble_eq_true rfl) (Nat.le_of_ble_eq_true rfl) dX7_inverts_61 (fun H locs hP hD hS => ?_)
  have hP : va_P D vwCl [(q, .inl (cJ, 5, .inr (.inl (fun i => vL ((va_up (va_up (va_up g 2 ((g 4) * (zinv zd))) 3 ((-((va_up g 2 ((g 4) * (zinv zd))) 3)) * (zinv zd))) 4 ((g 2) * (zinv zd))) i)))))] H := hP
  have hD : va_D A [(q, .inl (cJ, 5, .inr (.inl (fun i => vL ((va_up (va_up (va_up g 2 ((g 4) * (zinv zd))) 3 ((-((va_up g 2 ((g 4) * (zinv zd))) 3)) * (zinv zd))) 4 ((g 2) * (zinv zd))) i)))))] := hD
  refine lv_lload_n hx hb dX7_inverts_62 rfl (lv_at hl 2 rfl) ?_
  refine lv_lconst (v := jL 0) hx hb dX7_inverts_63 rfl ?_
  refine W.lcmp hx hb dX7_inverts_64 ?_
  refine n_lif_eq (tgt := 72) hx hb (r64_z _) (by unfold r64; omega) dX7_inverts_65 (by decide) (fun h65 => ?_) (fun h65 => False.elim (h65 (zv_eq0.mpr h9)))
  refine n_iconst hx hb dX7_inverts_72 ?_
  exact k_zret (b := false) hx hb hr hlocks dX7_inverts_73 hP hS rfl rfl

set_option maxHeartbeats 4000000 in
set_option maxRecDepth 100000 in
/--  -/
theorem c_X7_inverts1 (l : Launch) (D : va_G) (tys : List (ClassId × FieldType)) {cJ : ClassId} (htJ : tys[1]? = some (cJ, .long)) (q : Nat) (g : Nat → Zp) (zd : Zp) (ezd : zd = g 2 * g 4 - g 3 * g 3) (h9 : ¬ zd = 0) : CtI l D tys yX7_inverts wsX7_inverts 2 49 [.ref q] (jI (iB true)) [(q, .inl (cJ, 5, .inr (.inl (fun i => vL (g i)))))] [(q, .inl (cJ, 5, .inr (.inl (fun i => vL ((va_up (va_up (va_up g 2 ((g 4) * (zinv zd))) 3 ((-((va_up g 2 ((g 4) * (zinv zd))) 3)) * (zinv zd))) 4 ((g 2) * (zinv zd))) i)))))] := by
  refine CtI.of (cc := cX7_inverts) (maxL := 7) (by decide +kernel) rfl rfl (Nat.le_of_ble_eq_true rfl) ?_
  intro p e s m below meth c A ls hcx hK hP hD hA hl
  obtain ⟨hx, hb, hr, hml, hown, hts, hlocks⟩ := hcx
  have hS : va_S A s.heap s.heap [] := va_S.rf
  have hown : s.vm.findClass RX7 = some m.cls := hown
  have hl : lv_has ls 7 [(0, .ref q)] := hl
  refine lv_aload_n hx hb dX7_inverts_0 rfl (lv_at hl 0 rfl) ?_
  refine n_iconst hx hb dX7_inverts_1 ?_
  refine n_lald (i := 2) hx hb hK hP 0 1 rfl htJ rfl (Nat.le_of_ble_eq_true rfl) (Nat.le_of_ble_eq_true rfl) dX7_inverts_2 ?_
  refine lv_aload_n hx hb dX7_inverts_3 rfl (lv_at hl 0 rfl) ?_
  refine n_iconst hx hb dX7_inverts_4 ?_
  refine n_lald (i := 4) hx hb hK hP 0 1 rfl htJ rfl (Nat.le_of_ble_eq_true rfl) (Nat.le_of_ble_eq_true rfl) dX7_inverts_5 ?_
  refine n_lmul hx hb dX7_inverts_6 ?_
  refine lv_aload_n hx hb dX7_inverts_7 rfl (lv_at hl 0 rfl) ?_
  refine n_iconst hx hb dX7_inverts_8 ?_
  refine n_lald (i := 3) hx hb hK hP 0 1 rfl htJ rfl (Nat.le_of_ble_eq_true rfl) (Nat.le_of_ble_eq_true rfl) dX7_inverts_9 ?_
  refine lv_aload_n hx hb dX7_inverts_10 rfl (lv_at hl 0 rfl) ?_
  refine n_iconst hx hb dX7_inverts_11 ?_
  refine n_lald (i := 3) hx hb hK hP 0 1 rfl htJ rfl (Nat.le_of_ble_eq_true rfl) (Nat.le_of_ble_eq_true rfl) dX7_inverts_12 ?_
  refine n_lmul hx hb dX7_inverts_13 ?_
  refine n_lsub hx hb dX7_inverts_14 ?_
  have ct15 := c_X7_by l D tys ((zv (g 2) * zv (g 4)) - (zv (g 3) * zv (g 3))) _ _ (ra_to (ra_sub (rp_a (rp_mul (rp_v (g 2)) (rp_v (g 4)))) (rp_a (rp_mul (rp_v (g 3)) (rp_v (g 3))))) ezd.symm) (Nat.le_of_ble_eq_true rfl)
  refine k_goL (va_runS (As := [.long (jL ((zv (g 2) * zv (g 4)) - (zv (g 3) * zv (g 3))))]) (rest := []) ⟨hx, hb, hml, hown, hts⟩ (ct15.2 _) (va_cwS 1 hts gX7_inverts_X7_by rfl rfl rfl (by decide +kernel) ⟨Nat.le_of_ble_eq_true rfl, Nat.le_of_ble_eq_true rfl⟩) (k_pre hK hP hD (is := []) rfl rfl) rfl rfl hl.1 rfl (lv_room (Nat.le_of_ble_eq_true rfl)) dX7_inverts_15 ⟨Nat.le_of_ble_eq_true rfl, Nat.le_of_ble_eq_true rfl⟩) ct15.1 hP hD hS hA [] rfl rfl (fun H locs hP hD hS => ?_)
  have hP : va_P D vwCl [(q, .inl (cJ, 5, .inr (.inl (fun i => vL (g i)))))] H := hP
  have hD : va_D A [(q, .inl (cJ, 5, .inr (.inl (fun i => vL (g i)))))] := hD
  refine lv_lstore_n (lv' := [(1, .long (vL zd)), (0, .ref q)]) hx hb dX7_inverts_18 rfl hl (by decide) rfl (fun ls hl => ?_)
  refine lv_lload_n hx hb dX7_inverts_19 rfl (lv_at hl 0 rfl) ?_
  have ct20 := c_X7_inverse l D tys zd
  refine k_goL (va_runS (As := [.long (vL zd)]) (rest := []) ⟨hx, hb, hml, hown, hts⟩ (ct20.2 _) (va_cwS 1 hts gX7_inverts_X7_inverse rfl rfl rfl (by decide +kernel) ⟨Nat.le_of_ble_eq_true rfl, Nat.le_of_ble_eq_true rfl⟩) (k_pre hK hP hD (is := []) rfl rfl) rfl rfl hl.1 rfl (lv_room (Nat.le_of_ble_eq_true rfl)) dX7_inverts_20 ⟨Nat.le_of_ble_eq_true rfl, Nat.le_of_ble_eq_true rfl⟩) ct20.1 hP hD hS hA [] rfl rfl (fun H locs hP hD hS => ?_)
  have hP : va_P D vwCl [(q, .inl (cJ, 5, .inr (.inl (fun i => vL (g i)))))] H := hP
  have hD : va_D A [(q, .inl (cJ, 5, .inr (.inl (fun i => vL (g i)))))] := hD
  refine lv_lstore_n (lv' := [(3, .long (vL (zinv zd))), (1, .long (vL zd)), (0, .ref q)]) hx hb dX7_inverts_23 rfl hl (by decide) rfl (fun ls hl => ?_)
  refine lv_aload_n hx hb dX7_inverts_24 rfl (lv_at hl 2 rfl) ?_
  refine n_iconst hx hb dX7_inverts_25 ?_
  refine n_lald (i := 2) hx hb hK hP 0 1 rfl htJ rfl (Nat.le_of_ble_eq_true rfl) (Nat.le_of_ble_eq_true rfl) dX7_inverts_26 ?_
  refine lv_lstore (lv' := [(5, .long (vL (g 2))), (3, .long (vL (zinv zd))), (1, .long (vL zd)), (0, .ref q)]) hx hb dX7_inverts_27 hl (by decide) rfl (fun ls hl => ?_)
  refine lv_aload_n hx hb dX7_inverts_29 rfl (lv_at hl 3 rfl) ?_
  refine n_iconst hx hb dX7_inverts_30 ?_
  refine lv_aload_n hx hb dX7_inverts_31 rfl (lv_at hl 3 rfl) ?_
  refine n_iconst hx hb dX7_inverts_32 ?_
  refine n_lald (i := 4) hx hb hK hP 0 1 rfl htJ rfl (Nat.le_of_ble_eq_true rfl) (Nat.le_of_ble_eq_true rfl) dX7_inverts_33 ?_
  refine lv_lload_n hx hb dX7_inverts_34 rfl (lv_at hl 1 rfl) ?_
  refine n_lmul hx hb dX7_inverts_35 ?_
  have ct36 := c_X7_by l D tys (zv (g 4) * zv (zinv zd)) _ _ (rp_a (rp_mul (rp_v (g 4)) (rp_v (zinv zd)))) (Nat.le_of_ble_eq_true rfl)
  refine k_goL (va_runS (As := [.long (jL (zv (g 4) * zv (zinv zd)))]) (rest := [.int (jI 2), .ref q]) ⟨hx, hb, hml, hown, hts⟩ (ct36.2 _) (va_cwS 1 hts gX7_inverts_X7_by rfl rfl rfl (by decide +kernel) ⟨Nat.le_of_ble_eq_true rfl, Nat.le_of_ble_eq_true rfl⟩) (k_pre hK hP hD (is := []) rfl rfl) rfl rfl hl.1 rfl (lv_room (Nat.le_of_ble_eq_true rfl)) dX7_inverts_36 ⟨Nat.le_of_ble_eq_true rfl, Nat.le_of_ble_eq_true rfl⟩) ct36.1 hP hD hS hA [] rfl rfl (fun H locs hP hD hS => ?_)
  have hP : va_P D vwCl [(q, .inl (cJ, 5, .inr (.inl (fun i => vL (g i)))))] H := hP
  have hD : va_D A [(q, .inl (cJ, 5, .inr (.inl (fun i => vL (g i)))))] := hD
  refine n_zlast (i := 2) (x := ((g 4) * (zinv zd))) hx hb hK hP hD hS 0 1 rfl htJ rfl (Nat.le_of_ble_eq_true rfl) (Nat.le_of_ble_eq_true rfl) dX7_inverts_39 (fun H locs hP hD hS => ?_)
  have hP : va_P D vwCl [(q, .inl (cJ, 5, .inr (.inl (fun i => vL ((va_up g 2 ((g 4) * (zinv zd))) i)))))] H := hP
  have hD : va_D A [(q, .inl (cJ, 5, .inr (.inl (fun i => vL ((va_up g 2 ((g 4) * (zinv zd))) i)))))] := hD
  refine lv_aload_n hx hb dX7_inverts_40 rfl (lv_at hl 3 rfl) ?_
  refine n_iconst hx hb dX7_inverts_41 ?_
  refine lv_aload_n hx hb dX7_inverts_42 rfl (lv_at hl 3 rfl) ?_
  refine n_iconst hx hb dX7_inverts_43 ?_
  refine n_lald (i := 3) hx hb hK hP 0 1 rfl htJ rfl (Nat.le_of_ble_eq_true rfl) (Nat.le_of_ble_eq_true rfl) dX7_inverts_44 ?_
  refine n_lneg hx hb dX7_inverts_45 ?_
  refine lv_lload_n hx hb dX7_inverts_46 rfl (lv_at hl 1 rfl) ?_
  refine n_lmul hx hb dX7_inverts_47 ?_
  have ct48 := c_X7_by l D tys ((-zv ((va_up g 2 ((g 4) * (zinv zd))) 3)) * zv (zinv zd)) _ _ (ra_mul (ra_neg (rp_a (rp_v ((va_up g 2 ((g 4) * (zinv zd))) 3)))) (rp_a (rp_v (zinv zd)))) (Nat.le_of_ble_eq_true rfl)
  refine k_goL (va_runS (As := [.long (jL ((-zv ((va_up g 2 ((g 4) * (zinv zd))) 3)) * zv (zinv zd)))]) (rest := [.int (jI 3), .ref q]) ⟨hx, hb, hml, hown, hts⟩ (ct48.2 _) (va_cwS 1 hts gX7_inverts_X7_by rfl rfl rfl (by decide +kernel) ⟨Nat.le_of_ble_eq_true rfl, Nat.le_of_ble_eq_true rfl⟩) (k_pre hK hP hD (is := []) rfl rfl) rfl rfl hl.1 rfl (lv_room (Nat.le_of_ble_eq_true rfl)) dX7_inverts_48 ⟨Nat.le_of_ble_eq_true rfl, Nat.le_of_ble_eq_true rfl⟩) ct48.1 hP hD hS hA [] rfl rfl (fun H locs hP hD hS => ?_)
  have hP : va_P D vwCl [(q, .inl (cJ, 5, .inr (.inl (fun i => vL ((va_up g 2 ((g 4) * (zinv zd))) i)))))] H := hP
  have hD : va_D A [(q, .inl (cJ, 5, .inr (.inl (fun i => vL ((va_up g 2 ((g 4) * (zinv zd))) i)))))] := hD
  refine n_zlast (i := 3) (x := ((-((va_up g 2 ((g 4) * (zinv zd))) 3)) * (zinv zd))) hx hb hK hP hD hS 0 1 rfl htJ rfl (Nat.le_of_ble_eq_true rfl) (Nat.le_of_ble_eq_true rfl) dX7_inverts_51 (fun H locs hP hD hS => ?_)
  have hP : va_P D vwCl [(q, .inl (cJ, 5, .inr (.inl (fun i => vL ((va_up (va_up g 2 ((g 4) * (zinv zd))) 3 ((-((va_up g 2 ((g 4) * (zinv zd))) 3)) * (zinv zd))) i)))))] H := hP
  have hD : va_D A [(q, .inl (cJ, 5, .inr (.inl (fun i => vL ((va_up (va_up g 2 ((g 4) * (zinv zd))) 3 ((-((va_up g 2 ((g 4) * (zinv zd))) 3)) * (zinv zd))) i)))))] := hD
  refine lv_aload_n hx hb dX7_inverts_52 rfl (lv_at hl 3 rfl) ?_
  refine n_iconst hx hb dX7_inverts_53 ?_
  refine lv_lload hx hb dX7_inverts_54 (lv_at hl 0 rfl) ?_
  refine lv_lload_n hx hb dX7_inverts_56 rfl (lv_at hl 1 rfl) ?_
  refine n_lmul hx hb dX7_inverts_57 ?_
  have ct58 := c_X7_by l D tys (zv (g 2) * zv (zinv zd)) _ _ (rp_a (rp_mul (rp_v (g 2)) (rp_v (zinv zd)))) (Nat.le_of_ble_eq_true rfl)
  refine k_goL (va_runS (As := [.long (jL (zv (g 2) * zv (zinv zd)))]) (rest := [.int (jI 4), .ref q]) ⟨hx, hb, hml, hown, hts⟩ (ct58.2 _) (va_cwS 1 hts gX7_inverts_X7_by rfl rfl rfl (by decide +kernel) ⟨Nat.le_of_ble_eq_true rfl, Nat.le_of_ble_eq_true rfl⟩) (k_pre hK hP hD (is := []) rfl rfl) rfl rfl hl.1 rfl (lv_room (Nat.le_of_ble_eq_true rfl)) dX7_inverts_58 ⟨Nat.le_of_ble_eq_true rfl, Nat.le_of_ble_eq_true rfl⟩) ct58.1 hP hD hS hA [] rfl rfl (fun H locs hP hD hS => ?_)
  have hP : va_P D vwCl [(q, .inl (cJ, 5, .inr (.inl (fun i => vL ((va_up (va_up g 2 ((g 4) * (zinv zd))) 3 ((-((va_up g 2 ((g 4) * (zinv zd))) 3)) * (zinv zd))) i)))))] H := hP
  have hD : va_D A [(q, .inl (cJ, 5, .inr (.inl (fun i => vL ((va_up (va_up g 2 ((g 4) * (zinv zd))) 3 ((-((va_up g 2 ((g 4) * (zinv zd))) 3)) * (zinv zd))) i)))))] := hD
  refine n_zlast (i := 4) (x := ((g 2) * (zinv zd))) hx hb hK hP hD hS 0 1 rfl htJ rfl (Nat.le_of_ble_eq_true rfl) (Nat.le_of_ble_eq_true rfl) dX7_inverts_61 (fun H locs hP hD hS => ?_)
  have hP : va_P D vwCl [(q, .inl (cJ, 5, .inr (.inl (fun i => vL ((va_up (va_up (va_up g 2 ((g 4) * (zinv zd))) 3 ((-((va_up g 2 ((g 4) * (zinv zd))) 3)) * (zinv zd))) 4 ((g 2) * (zinv zd))) i)))))] H := hP
  have hD : va_D A [(q, .inl (cJ, 5, .inr (.inl (fun i => vL ((va_up (va_up (va_up g 2 ((g 4) * (zinv zd))) 3 ((-((va_up g 2 ((g 4) * (zinv zd))) 3)) * (zinv zd))) 4 ((g 2) * (zinv zd))) i)))))] := hD
  refine lv_lload_n hx hb dX7_inverts_62 rfl (lv_at hl 2 rfl) ?_
  refine lv_lconst (v := jL 0) hx hb dX7_inverts_63 rfl ?_
  refine W.lcmp hx hb dX7_inverts_64 ?_
  refine n_lif_eq (tgt := 72) hx hb (r64_z _) (by unfold r64; omega) dX7_inverts_65 (by decide) (fun h65 => False.elim (h9 (zv_eq0.mp h65))) (fun h65 => ?_)
  refine n_iconst hx hb dX7_inverts_68 ?_
  refine lv_goto (tgt := 73) hx hb dX7_inverts_69 (by decide) ?_
  exact k_zret (b := true) hx hb hr hlocks dX7_inverts_73 hP hS rfl rfl

set_option maxHeartbeats 4000000 in
set_option maxRecDepth 100000 in
/--  -/
theorem c_X7_times (l : Launch) (D : va_G) (tys : List (ClassId × FieldType)) {cJ : ClassId} (htJ : tys[1]? = some (cJ, .long)) (q : Nat) (g : Nat → Zp)  : CtV l D tys yX7_times wsX7_times 1 23 [.ref q] [(q, .inl (cJ, 5, .inr (.inl (fun i => vL (g i)))))] [(q, .inl (cJ, 5, .inr (.inl (fun i => vL ((va_up (va_up g 1 (((g 3) * (g 0)) + ((g 4) * (g 1)))) 0 (((g 2) * (g 0)) + ((g 3) * (g 1)))) i)))))] := by
  refine CtV.of (cc := cX7_times) (maxL := 3) (by decide +kernel) rfl rfl (Nat.le_of_ble_eq_true rfl) ?_
  intro p e s m below meth c A ls hcx hK hP hD hA hl
  obtain ⟨hx, hb, hr, hml, hown, hts, hlocks⟩ := hcx
  have hS : va_S A s.heap s.heap [] := va_S.rf
  have hown : s.vm.findClass RX7 = some m.cls := hown
  have hl : lv_has ls 3 [(0, .ref q)] := hl
  refine lv_aload_n hx hb dX7_times_0 rfl (lv_at hl 0 rfl) ?_
  refine n_iconst hx hb dX7_times_1 ?_
  refine n_lald (i := 2) hx hb hK hP 0 1 rfl htJ rfl (Nat.le_of_ble_eq_true rfl) (Nat.le_of_ble_eq_true rfl) dX7_times_2 ?_
  refine lv_aload_n hx hb dX7_times_3 rfl (lv_at hl 0 rfl) ?_
  refine n_iconst hx hb dX7_times_4 ?_
  refine n_lald (i := 0) hx hb hK hP 0 1 rfl htJ rfl (Nat.le_of_ble_eq_true rfl) (Nat.le_of_ble_eq_true rfl) dX7_times_5 ?_
  refine n_lmul hx hb dX7_times_6 ?_
  refine lv_aload_n hx hb dX7_times_7 rfl (lv_at hl 0 rfl) ?_
  refine n_iconst hx hb dX7_times_8 ?_
  refine n_lald (i := 3) hx hb hK hP 0 1 rfl htJ rfl (Nat.le_of_ble_eq_true rfl) (Nat.le_of_ble_eq_true rfl) dX7_times_9 ?_
  refine lv_aload_n hx hb dX7_times_10 rfl (lv_at hl 0 rfl) ?_
  refine n_iconst hx hb dX7_times_11 ?_
  refine n_lald (i := 1) hx hb hK hP 0 1 rfl htJ rfl (Nat.le_of_ble_eq_true rfl) (Nat.le_of_ble_eq_true rfl) dX7_times_12 ?_
  refine n_lmul hx hb dX7_times_13 ?_
  refine n_ladd hx hb dX7_times_14 ?_
  have ct15 := c_X7_by l D tys ((zv (g 2) * zv (g 0)) + (zv (g 3) * zv (g 1))) _ _ (rp_a (rp_add (rp_mul (rp_v (g 2)) (rp_v (g 0))) (rp_mul (rp_v (g 3)) (rp_v (g 1))))) (Nat.le_of_ble_eq_true rfl)
  refine k_goL (va_runS (As := [.long (jL ((zv (g 2) * zv (g 0)) + (zv (g 3) * zv (g 1))))]) (rest := []) ⟨hx, hb, hml, hown, hts⟩ (ct15.2 _) (va_cwS 1 hts gX7_times_X7_by rfl rfl rfl (by decide +kernel) ⟨Nat.le_of_ble_eq_true rfl, Nat.le_of_ble_eq_true rfl⟩) (k_pre hK hP hD (is := []) rfl rfl) rfl rfl hl.1 rfl (lv_room (Nat.le_of_ble_eq_true rfl)) dX7_times_15 ⟨Nat.le_of_ble_eq_true rfl, Nat.le_of_ble_eq_true rfl⟩) ct15.1 hP hD hS hA [] rfl rfl (fun H locs hP hD hS => ?_)
  have hP : va_P D vwCl [(q, .inl (cJ, 5, .inr (.inl (fun i => vL (g i)))))] H := hP
  have hD : va_D A [(q, .inl (cJ, 5, .inr (.inl (fun i => vL (g i)))))] := hD
  refine lv_lstore_n (lv' := [(1, .long (vL (((g 2) * (g 0)) + ((g 3) * (g 1))))), (0, .ref q)]) hx hb dX7_times_18 rfl hl (by decide) rfl (fun ls hl => ?_)
  refine lv_aload_n hx hb dX7_times_19 rfl (lv_at hl 1 rfl) ?_
  refine n_iconst hx hb dX7_times_20 ?_
  refine lv_aload_n hx hb dX7_times_21 rfl (lv_at hl 1 rfl) ?_
  refine n_iconst hx hb dX7_times_22 ?_
  refine n_lald (i := 3) hx hb hK hP 0 1 rfl htJ rfl (Nat.le_of_ble_eq_true rfl) (Nat.le_of_ble_eq_true rfl) dX7_times_23 ?_
  refine lv_aload_n hx hb dX7_times_24 rfl (lv_at hl 1 rfl) ?_
  refine n_iconst hx hb dX7_times_25 ?_
  refine n_lald (i := 0) hx hb hK hP 0 1 rfl htJ rfl (Nat.le_of_ble_eq_true rfl) (Nat.le_of_ble_eq_true rfl) dX7_times_26 ?_
  refine n_lmul hx hb dX7_times_27 ?_
  refine lv_aload_n hx hb dX7_times_28 rfl (lv_at hl 1 rfl) ?_
  refine n_iconst hx hb dX7_times_29 ?_
  refine n_lald (i := 4) hx hb hK hP 0 1 rfl htJ rfl (Nat.le_of_ble_eq_true rfl) (Nat.le_of_ble_eq_true rfl) dX7_times_30 ?_
  refine lv_aload_n hx hb dX7_times_31 rfl (lv_at hl 1 rfl) ?_
  refine n_iconst hx hb dX7_times_32 ?_
  refine n_lald (i := 1) hx hb hK hP 0 1 rfl htJ rfl (Nat.le_of_ble_eq_true rfl) (Nat.le_of_ble_eq_true rfl) dX7_times_33 ?_
  refine n_lmul hx hb dX7_times_34 ?_
  refine n_ladd hx hb dX7_times_35 ?_
  have ct36 := c_X7_by l D tys ((zv (g 3) * zv (g 0)) + (zv (g 4) * zv (g 1))) _ _ (rp_a (rp_add (rp_mul (rp_v (g 3)) (rp_v (g 0))) (rp_mul (rp_v (g 4)) (rp_v (g 1))))) (Nat.le_of_ble_eq_true rfl)
  refine k_goL (va_runS (As := [.long (jL ((zv (g 3) * zv (g 0)) + (zv (g 4) * zv (g 1))))]) (rest := [.int (jI 1), .ref q]) ⟨hx, hb, hml, hown, hts⟩ (ct36.2 _) (va_cwS 1 hts gX7_times_X7_by rfl rfl rfl (by decide +kernel) ⟨Nat.le_of_ble_eq_true rfl, Nat.le_of_ble_eq_true rfl⟩) (k_pre hK hP hD (is := []) rfl rfl) rfl rfl hl.1 rfl (lv_room (Nat.le_of_ble_eq_true rfl)) dX7_times_36 ⟨Nat.le_of_ble_eq_true rfl, Nat.le_of_ble_eq_true rfl⟩) ct36.1 hP hD hS hA [] rfl rfl (fun H locs hP hD hS => ?_)
  have hP : va_P D vwCl [(q, .inl (cJ, 5, .inr (.inl (fun i => vL (g i)))))] H := hP
  have hD : va_D A [(q, .inl (cJ, 5, .inr (.inl (fun i => vL (g i)))))] := hD
  refine n_zlast (i := 1) (x := (((g 3) * (g 0)) + ((g 4) * (g 1)))) hx hb hK hP hD hS 0 1 rfl htJ rfl (Nat.le_of_ble_eq_true rfl) (Nat.le_of_ble_eq_true rfl) dX7_times_39 (fun H locs hP hD hS => ?_)
  have hP : va_P D vwCl [(q, .inl (cJ, 5, .inr (.inl (fun i => vL ((va_up g 1 (((g 3) * (g 0)) + ((g 4) * (g 1)))) i)))))] H := hP
  have hD : va_D A [(q, .inl (cJ, 5, .inr (.inl (fun i => vL ((va_up g 1 (((g 3) * (g 0)) + ((g 4) * (g 1)))) i)))))] := hD
  refine lv_aload_n hx hb dX7_times_40 rfl (lv_at hl 1 rfl) ?_
  refine n_iconst hx hb dX7_times_41 ?_
  refine lv_lload_n hx hb dX7_times_42 rfl (lv_at hl 0 rfl) ?_
  refine n_zlast (i := 0) (x := (((g 2) * (g 0)) + ((g 3) * (g 1)))) hx hb hK hP hD hS 0 1 rfl htJ rfl (Nat.le_of_ble_eq_true rfl) (Nat.le_of_ble_eq_true rfl) dX7_times_43 (fun H locs hP hD hS => ?_)
  have hP : va_P D vwCl [(q, .inl (cJ, 5, .inr (.inl (fun i => vL ((va_up (va_up g 1 (((g 3) * (g 0)) + ((g 4) * (g 1)))) 0 (((g 2) * (g 0)) + ((g 3) * (g 1)))) i)))))] H := hP
  have hD : va_D A [(q, .inl (cJ, 5, .inr (.inl (fun i => vL ((va_up (va_up g 1 (((g 3) * (g 0)) + ((g 4) * (g 1)))) 0 (((g 2) * (g 0)) + ((g 3) * (g 1)))) i)))))] := hD
  exact k_vret hx hb hr hlocks dX7_times_44 hP hS

set_option maxHeartbeats 4000000 in
set_option maxRecDepth 100000 in
/--  -/
theorem c_X7_isMeasured1 (l : Launch) (D : va_G) (tys : List (ClassId × FieldType)) {cI cJ cZ : ClassId} (htI : tys[0]? = some (cI, .int)) (htJ : tys[1]? = some (cJ, .long)) (htZ : tys[2]? = some (cZ, .boolean)) (m0 : Nat) (a : Nat → Nat) (ms es : Nat) (th : Int32) (gN : Nat → Nat) (q1 : ms ≤ 6) (q2 : es ≤ 6) (ev kv : Int) (q3 : r32 ev) (q4 : r32 kv) (h9 : (inB 0 (((es : Nat) : Int) - 1) ev) = false) : CtI l D tys yX7_isMeasured wsX7_isMeasured 2 43 [.ref m0, .int (jI ev), .int (jI kv)] (jI (iB false)) [(m0, oR (jI ((ms : Nat) : Int)) (jI ((es : Nat) : Int)) th a), ((a 5), .inl (cI, 6, .inl (fun i => jI ((gN i : Nat) : Int))))] [(m0, oR (jI ((ms : Nat) : Int)) (jI ((es : Nat) : Int)) th a), ((a 5), .inl (cI, 6, .inl (fun i => jI ((gN i : Nat) : Int))))] := by
  refine CtI.of (cc := cX7_isMeasured) (maxL := 3) (by decide +kernel) rfl rfl (Nat.le_of_ble_eq_true rfl) ?_
  intro p e s m below meth c A ls hcx hK hP hD hA hl
  obtain ⟨hx, hb, hr, hml, hown, hts, hlocks⟩ := hcx
  have hS : va_S A s.heap s.heap [] := va_S.rf
  have hown : s.vm.findClass RX7 = some m.cls := hown
  have hl : lv_has ls 3 [(0, .ref m0), (1, .int (jI ev)), (2, .int (jI kv))] := hl
  refine lv_aload_n hx hb dX7_isMeasured_0 rfl (lv_at hl 0 rfl) ?_
  refine lv_iload_n hx hb dX7_isMeasured_1 rfl (lv_at hl 1 rfl) ?_
  have ct2 := c_X7_isOne l D tys m0 a ms es th ev (by first | assumption | exact r32_z _ | (unfold r32; omega)) (by omega) (by omega)
  refine k_goI (va_runV (As := [.int (jI ev)]) (rest := []) ⟨hx, hb, hml, hown, hts⟩ (ct2.2 _) (cwV 1 hts gX7_isMeasured_X7_isOne rfl rfl rfl (by decide +kernel) ⟨Nat.le_of_ble_eq_true rfl, Nat.le_of_ble_eq_true rfl⟩) ⟨(k_pre hK hP hD (is := [0]) rfl rfl).1, va_recv hK.1 hP (ci := 7) (q0 := 0) rfl rfl, (k_pre hK hP hD (is := [0]) rfl rfl).2⟩ rfl rfl hl.1 rfl (lv_room (Nat.le_of_ble_eq_true rfl)) dX7_isMeasured_2 ⟨Nat.le_of_ble_eq_true rfl, Nat.le_of_ble_eq_true rfl⟩) ct2.1 hP hD hS hA [0] rfl rfl (fun H locs hP hD hS => ?_)
  have hP : va_P D vwCl [(m0, oR (jI ((ms : Nat) : Int)) (jI ((es : Nat) : Int)) th a), ((a 5), .inl (cI, 6, .inl (fun i => jI ((gN i : Nat) : Int))))] H := hP
  have hD : va_D A [(m0, oR (jI ((ms : Nat) : Int)) (jI ((es : Nat) : Int)) th a), ((a 5), .inl (cI, 6, .inl (fun i => jI ((gN i : Nat) : Int))))] := hD
  refine n_ifB_eq (tgt := 28) hx hb dX7_isMeasured_5 (by decide) (fun h5 => ?_) (fun h5 => Bool.noConfusion (h9.symm.trans h5))
  refine n_iconst hx hb dX7_isMeasured_28 ?_
  exact k_zret (b := false) hx hb hr hlocks dX7_isMeasured_29 hP hS rfl rfl

set_option maxHeartbeats 4000000 in
set_option maxRecDepth 100000 in
/--  -/
theorem c_X7_isMeasured2 (l : Launch) (D : va_G) (tys : List (ClassId × FieldType)) {cI cJ cZ : ClassId} (htI : tys[0]? = some (cI, .int)) (htJ : tys[1]? = some (cJ, .long)) (htZ : tys[2]? = some (cZ, .boolean)) (m0 : Nat) (a : Nat → Nat) (ms es : Nat) (th : Int32) (gN : Nat → Nat) (q1 : ms ≤ 6) (q2 : es ≤ 6) (ev : Nat) (kv : Int) (q3 : ev < es) (q4 : r32 kv) (q5 : gN ev ≤ 30) (h9 : (inB 0 (((gN ev : Nat) : Int) - 1) kv) = false) : CtI l D tys yX7_isMeasured wsX7_isMeasured 2 43 [.ref m0, .int (jI ((ev : Nat) : Int)), .int (jI kv)] (jI (iB false)) [(m0, oR (jI ((ms : Nat) : Int)) (jI ((es : Nat) : Int)) th a), ((a 5), .inl (cI, 6, .inl (fun i => jI ((gN i : Nat) : Int))))] [(m0, oR (jI ((ms : Nat) : Int)) (jI ((es : Nat) : Int)) th a), ((a 5), .inl (cI, 6, .inl (fun i => jI ((gN i : Nat) : Int))))] := by
  refine CtI.of (cc := cX7_isMeasured) (maxL := 3) (by decide +kernel) rfl rfl (Nat.le_of_ble_eq_true rfl) ?_
  intro p e s m below meth c A ls hcx hK hP hD hA hl
  obtain ⟨hx, hb, hr, hml, hown, hts, hlocks⟩ := hcx
  have hS : va_S A s.heap s.heap [] := va_S.rf
  have hown : s.vm.findClass RX7 = some m.cls := hown
  have hl : lv_has ls 3 [(0, .ref m0), (1, .int (jI ((ev : Nat) : Int))), (2, .int (jI kv))] := hl
  have f25 := hts (.fieldLink RX7 25 "FieldFilterModel" "measured" "[I") (by decide +kernel)
  have iX7 : ∀ w ∈ u_ws RX7 TX7 20, w ∈ wsX7_isMeasured := by decide +kernel
  refine lv_aload_n hx hb dX7_isMeasured_0 rfl (lv_at hl 0 rfl) ?_
  refine lv_iload_n hx hb dX7_isMeasured_1 rfl (lv_at hl 1 rfl) ?_
  have ct2 := c_X7_isOne l D tys m0 a ms es th ((ev : Nat) : Int) (by first | assumption | exact r32_z _ | (unfold r32; omega)) (by omega) (by omega)
  refine k_goI (va_runV (As := [.int (jI ((ev : Nat) : Int))]) (rest := []) ⟨hx, hb, hml, hown, hts⟩ (ct2.2 _) (cwV 1 hts gX7_isMeasured_X7_isOne rfl rfl rfl (by decide +kernel) ⟨Nat.le_of_ble_eq_true rfl, Nat.le_of_ble_eq_true rfl⟩) ⟨(k_pre hK hP hD (is := [0]) rfl rfl).1, va_recv hK.1 hP (ci := 7) (q0 := 0) rfl rfl, (k_pre hK hP hD (is := [0]) rfl rfl).2⟩ rfl rfl hl.1 rfl (lv_room (Nat.le_of_ble_eq_true rfl)) dX7_isMeasured_2 ⟨Nat.le_of_ble_eq_true rfl, Nat.le_of_ble_eq_true rfl⟩) ct2.1 hP hD hS hA [0] rfl rfl (fun H locs hP hD hS => ?_)
  have hP : va_P D vwCl [(m0, oR (jI ((ms : Nat) : Int)) (jI ((es : Nat) : Int)) th a), ((a 5), .inl (cI, 6, .inl (fun i => jI ((gN i : Nat) : Int))))] H := hP
  have hD : va_D A [(m0, oR (jI ((ms : Nat) : Int)) (jI ((es : Nat) : Int)) th a), ((a 5), .inl (cI, 6, .inl (fun i => jI ((gN i : Nat) : Int))))] := hD
  refine n_ifB_eq (tgt := 28) hx hb dX7_isMeasured_5 (by decide) (fun h5 => Bool.noConfusion ((inB_t (by omega) (by omega)).symm.trans h5)) (fun h5 => ?_)
  refine lv_iload_n hx hb dX7_isMeasured_8 rfl (lv_at hl 2 rfl) ?_
  refine n_iconst hx hb dX7_isMeasured_9 ?_
  refine lv_aload_n hx hb dX7_isMeasured_10 rfl (lv_at hl 0 rfl) ?_
  refine va_get (D := D) (ci := 7) (v := .ref (a 5)) (C := RX7) (T := TX7) (N := 20) hx hb hts iX7 hown hK.1 hP 0 rfl rfl 7 (by decide) f25 (fun _ h9 => h9) rfl dX7_isMeasured_11 ?_
  refine lv_iload_n hx hb dX7_isMeasured_14 rfl (lv_at hl 1 rfl) ?_
  refine n_iald (i := ev) hx hb hK hP 1 0 rfl htI (by omega) (by omega) (Nat.le_of_ble_eq_true rfl) dX7_isMeasured_15 ?_
  refine n_iconst hx hb dX7_isMeasured_16 ?_
  refine n_isub hx hb dX7_isMeasured_17 ?_
  have ct18 := c_X7_isIn l D tys kv 0 (((gN ev : Nat) : Int) - 1) (by first | assumption | exact r32_z _ | (unfold r32; omega)) (by first | assumption | exact r32_z _ | (unfold r32; omega)) (by first | assumption | exact r32_z _ | (unfold r32; omega))
  refine k_goI (va_runS (As := [.int (jI kv), .int (jI 0), .int (jI (((gN ev : Nat) : Int) - 1))]) (rest := []) ⟨hx, hb, hml, hown, hts⟩ (ct18.2 _) (va_cwS 3 hts gX7_isMeasured_X7_isIn rfl rfl rfl (by decide +kernel) ⟨Nat.le_of_ble_eq_true rfl, Nat.le_of_ble_eq_true rfl⟩) (k_pre hK hP hD (is := []) rfl rfl) rfl rfl hl.1 rfl (lv_room (Nat.le_of_ble_eq_true rfl)) dX7_isMeasured_18 ⟨Nat.le_of_ble_eq_true rfl, Nat.le_of_ble_eq_true rfl⟩) ct18.1 hP hD hS hA [] rfl rfl (fun H locs hP hD hS => ?_)
  have hP : va_P D vwCl [(m0, oR (jI ((ms : Nat) : Int)) (jI ((es : Nat) : Int)) th a), ((a 5), .inl (cI, 6, .inl (fun i => jI ((gN i : Nat) : Int))))] H := hP
  have hD : va_D A [(m0, oR (jI ((ms : Nat) : Int)) (jI ((es : Nat) : Int)) th a), ((a 5), .inl (cI, 6, .inl (fun i => jI ((gN i : Nat) : Int))))] := hD
  refine n_ifB_eq (tgt := 28) hx hb dX7_isMeasured_21 (by decide) (fun h21 => ?_) (fun h21 => Bool.noConfusion (h9.symm.trans h21))
  refine n_iconst hx hb dX7_isMeasured_28 ?_
  exact k_zret (b := false) hx hb hr hlocks dX7_isMeasured_29 hP hS rfl rfl

set_option maxHeartbeats 4000000 in
set_option maxRecDepth 100000 in
/--  -/
theorem c_X7_isMeasured0 (l : Launch) (D : va_G) (tys : List (ClassId × FieldType)) {cI cJ cZ : ClassId} (htI : tys[0]? = some (cI, .int)) (htJ : tys[1]? = some (cJ, .long)) (htZ : tys[2]? = some (cZ, .boolean)) (m0 : Nat) (a : Nat → Nat) (ms es : Nat) (th : Int32) (gN : Nat → Nat) (q1 : ms ≤ 6) (q2 : es ≤ 6) (ev : Nat) (kv : Int) (q3 : ev < es) (q4 : r32 kv) (q5 : gN ev ≤ 30) (h9 : (inB 0 (((gN ev : Nat) : Int) - 1) kv) = true) : CtI l D tys yX7_isMeasured wsX7_isMeasured 2 43 [.ref m0, .int (jI ((ev : Nat) : Int)), .int (jI kv)] (jI (iB true)) [(m0, oR (jI ((ms : Nat) : Int)) (jI ((es : Nat) : Int)) th a), ((a 5), .inl (cI, 6, .inl (fun i => jI ((gN i : Nat) : Int))))] [(m0, oR (jI ((ms : Nat) : Int)) (jI ((es : Nat) : Int)) th a), ((a 5), .inl (cI, 6, .inl (fun i => jI ((gN i : Nat) : Int))))] := by
  refine CtI.of (cc := cX7_isMeasured) (maxL := 3) (by decide +kernel) rfl rfl (Nat.le_of_ble_eq_true rfl) ?_
  intro p e s m below meth c A ls hcx hK hP hD hA hl
  obtain ⟨hx, hb, hr, hml, hown, hts, hlocks⟩ := hcx
  have hS : va_S A s.heap s.heap [] := va_S.rf
  have hown : s.vm.findClass RX7 = some m.cls := hown
  have hl : lv_has ls 3 [(0, .ref m0), (1, .int (jI ((ev : Nat) : Int))), (2, .int (jI kv))] := hl
  have f25 := hts (.fieldLink RX7 25 "FieldFilterModel" "measured" "[I") (by decide +kernel)
  have iX7 : ∀ w ∈ u_ws RX7 TX7 20, w ∈ wsX7_isMeasured := by decide +kernel
  refine lv_aload_n hx hb dX7_isMeasured_0 rfl (lv_at hl 0 rfl) ?_
  refine lv_iload_n hx hb dX7_isMeasured_1 rfl (lv_at hl 1 rfl) ?_
  have ct2 := c_X7_isOne l D tys m0 a ms es th ((ev : Nat) : Int) (by first | assumption | exact r32_z _ | (unfold r32; omega)) (by omega) (by omega)
  refine k_goI (va_runV (As := [.int (jI ((ev : Nat) : Int))]) (rest := []) ⟨hx, hb, hml, hown, hts⟩ (ct2.2 _) (cwV 1 hts gX7_isMeasured_X7_isOne rfl rfl rfl (by decide +kernel) ⟨Nat.le_of_ble_eq_true rfl, Nat.le_of_ble_eq_true rfl⟩) ⟨(k_pre hK hP hD (is := [0]) rfl rfl).1, va_recv hK.1 hP (ci := 7) (q0 := 0) rfl rfl, (k_pre hK hP hD (is := [0]) rfl rfl).2⟩ rfl rfl hl.1 rfl (lv_room (Nat.le_of_ble_eq_true rfl)) dX7_isMeasured_2 ⟨Nat.le_of_ble_eq_true rfl, Nat.le_of_ble_eq_true rfl⟩) ct2.1 hP hD hS hA [0] rfl rfl (fun H locs hP hD hS => ?_)
  have hP : va_P D vwCl [(m0, oR (jI ((ms : Nat) : Int)) (jI ((es : Nat) : Int)) th a), ((a 5), .inl (cI, 6, .inl (fun i => jI ((gN i : Nat) : Int))))] H := hP
  have hD : va_D A [(m0, oR (jI ((ms : Nat) : Int)) (jI ((es : Nat) : Int)) th a), ((a 5), .inl (cI, 6, .inl (fun i => jI ((gN i : Nat) : Int))))] := hD
  refine n_ifB_eq (tgt := 28) hx hb dX7_isMeasured_5 (by decide) (fun h5 => Bool.noConfusion ((inB_t (by omega) (by omega)).symm.trans h5)) (fun h5 => ?_)
  refine lv_iload_n hx hb dX7_isMeasured_8 rfl (lv_at hl 2 rfl) ?_
  refine n_iconst hx hb dX7_isMeasured_9 ?_
  refine lv_aload_n hx hb dX7_isMeasured_10 rfl (lv_at hl 0 rfl) ?_
  refine va_get (D := D) (ci := 7) (v := .ref (a 5)) (C := RX7) (T := TX7) (N := 20) hx hb hts iX7 hown hK.1 hP 0 rfl rfl 7 (by decide) f25 (fun _ h9 => h9) rfl dX7_isMeasured_11 ?_
  refine lv_iload_n hx hb dX7_isMeasured_14 rfl (lv_at hl 1 rfl) ?_
  refine n_iald (i := ev) hx hb hK hP 1 0 rfl htI (by omega) (by omega) (Nat.le_of_ble_eq_true rfl) dX7_isMeasured_15 ?_
  refine n_iconst hx hb dX7_isMeasured_16 ?_
  refine n_isub hx hb dX7_isMeasured_17 ?_
  have ct18 := c_X7_isIn l D tys kv 0 (((gN ev : Nat) : Int) - 1) (by first | assumption | exact r32_z _ | (unfold r32; omega)) (by first | assumption | exact r32_z _ | (unfold r32; omega)) (by first | assumption | exact r32_z _ | (unfold r32; omega))
  refine k_goI (va_runS (As := [.int (jI kv), .int (jI 0), .int (jI (((gN ev : Nat) : Int) - 1))]) (rest := []) ⟨hx, hb, hml, hown, hts⟩ (ct18.2 _) (va_cwS 3 hts gX7_isMeasured_X7_isIn rfl rfl rfl (by decide +kernel) ⟨Nat.le_of_ble_eq_true rfl, Nat.le_of_ble_eq_true rfl⟩) (k_pre hK hP hD (is := []) rfl rfl) rfl rfl hl.1 rfl (lv_room (Nat.le_of_ble_eq_true rfl)) dX7_isMeasured_18 ⟨Nat.le_of_ble_eq_true rfl, Nat.le_of_ble_eq_true rfl⟩) ct18.1 hP hD hS hA [] rfl rfl (fun H locs hP hD hS => ?_)
  have hP : va_P D vwCl [(m0, oR (jI ((ms : Nat) : Int)) (jI ((es : Nat) : Int)) th a), ((a 5), .inl (cI, 6, .inl (fun i => jI ((gN i : Nat) : Int))))] H := hP
  have hD : va_D A [(m0, oR (jI ((ms : Nat) : Int)) (jI ((es : Nat) : Int)) th a), ((a 5), .inl (cI, 6, .inl (fun i => jI ((gN i : Nat) : Int))))] := hD
  refine n_ifB_eq (tgt := 28) hx hb dX7_isMeasured_21 (by decide) (fun h21 => Bool.noConfusion (h9.symm.trans h21)) (fun h21 => ?_)
  refine n_iconst hx hb dX7_isMeasured_24 ?_
  refine lv_goto (tgt := 29) hx hb dX7_isMeasured_25 (by decide) ?_
  exact k_zret (b := true) hx hb hr hlocks dX7_isMeasured_29 hP hS rfl rfl
