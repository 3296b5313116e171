/-! the reference: predicting, taking a measurement -/
set_option maxHeartbeats 4000000 in
set_option maxRecDepth 100000 in
/--  -/
theorem c_X7_predictsr (l : Launch) (D : va_G) (tys : List (ClassId × FieldType)) {cI cJ cZ : ClassId} (htI : tys[0]? = some (cI, .int)) (htJ : tys[1]? = some (cJ, .long)) (htZ : tys[2]? = some (cZ, .boolean)) (m0 : Nat) (a : Nat → Nat) (ms es : Nat) (th : Int32) (gM : Nat → Zp) (gW : Nat → Zp) (ev : Nat) (q1 : ev < 6) (za zb zk zd : Zp) (eza : za = gM (7 * ev) * gW 2 + gM (7 * ev + 1) * gW 3) (ezb : zb = gM (7 * ev) * gW 3 + gM (7 * ev + 1) * gW 4) (ezk : zk = gM (7 * ev + 2) * gW 2 + gM (7 * ev + 3) * gW 3) (ezd : zd = gM (7 * ev + 2) * gW 3 + gM (7 * ev + 3) * gW 4) : CtV l D tys yX7_predicts wsX7_predicts 1 23 [.ref m0, .int (jI ((ev : Nat) : Int))] [(m0, oR (jI ((ms : Nat) : Int)) (jI ((es : Nat) : Int)) th a), ((a 1), .inl (cI, 42, .inl (fun i => vI (gM i)))), ((a 12), .inl (cJ, 5, .inr (.inl (fun i => vL (gW i)))))] [(m0, oR (jI ((ms : Nat) : Int)) (jI ((es : Nat) : Int)) th a), ((a 1), .inl (cI, 42, .inl (fun i => vI (gM i)))), ((a 12), .inl (cJ, 5, .inr (.inl (fun i => vL ((va_up (va_up (va_up (va_up (va_up gW 0 (((gM (7 * ev)) * (gW 0)) + ((gM ((7 * ev) + 1)) * (gW 1)))) 1 (((gM ((7 * ev) + 2)) * (gW 0)) + ((gM ((7 * ev) + 3)) * (gW 1)))) 2 (((za * (gM (7 * ev))) + (zb * (gM ((7 * ev) + 1)))) + (gM ((7 * ev) + 4)))) 3 (((za * (gM ((7 * ev) + 2))) + (zb * (gM ((7 * ev) + 3)))) + (gM ((7 * ev) + 5)))) 4 (((zk * (gM ((7 * ev) + 2))) + (zd * (gM ((7 * ev) + 3)))) + (gM ((7 * ev) + 6)))) i)))))] := by
  refine CtV.of (cc := cX7_predicts) (maxL := 15) (by decide +kernel) rfl rfl (Nat.le_of_ble_eq_true rfl) ?_
  intro p e s m below meth c A ls hcx hK hP hD hA hl
  obtain ⟨hx, hb, hr, hml, hown, hts, hlocks⟩ := hcx
  have hS : va_S A s.heap s.heap [] := va_S.rf
  have hown : s.vm.findClass RX7 = some m.cls := hown
  have hl : lv_has ls 15 [(0, .ref m0), (1, .int (jI ((ev : Nat) : Int)))] := hl
  have f13 := hts (.fieldLink RX7 13 "FieldFilterModel" "model" "[I") (by decide +kernel)
  have iX7 : ∀ w ∈ u_ws RX7 TX7 20, w ∈ wsX7_predicts := by decide +kernel
  have f48 := hts (.fieldLink RX7 48 "FieldFilterModel" "now" "[J") (by decide +kernel)
  refine n_bipush hx hb dX7_predicts_0 (by decide) ?_
  refine lv_iload_n hx hb dX7_predicts_2 rfl (lv_at hl 1 rfl) ?_
  refine n_imul hx hb dX7_predicts_3 ?_
  refine lv_istore_n (lv' := [(2, .int (jI (7 * ((ev : Nat) : Int)))), (0, .ref m0), (1, .int (jI ((ev : Nat) : Int)))]) hx hb dX7_predicts_4 rfl hl (by decide) rfl (fun ls hl => ?_)
  refine lv_aload_n hx hb dX7_predicts_5 rfl (lv_at hl 1 rfl) ?_
  refine va_get (D := D) (ci := 7) (v := .ref (a 1)) (C := RX7) (T := TX7) (N := 20) hx hb hts iX7 hown hK.1 hP 0 rfl rfl 3 (by decide) f13 (fun _ h9 => h9) rfl dX7_predicts_6 ?_
  refine lv_iload_n hx hb dX7_predicts_9 rfl (lv_at hl 0 rfl) ?_
  refine n_iald (i := (7 * ev)) hx hb hK hP 1 0 rfl htI (by omega) (by omega) (Nat.le_of_ble_eq_true rfl) dX7_predicts_10 ?_
  refine n_i2lZ hx hb dX7_predicts_11 ?_
  refine lv_aload_n hx hb dX7_predicts_12 rfl (lv_at hl 1 rfl) ?_
  refine va_get (D := D) (ci := 7) (v := .ref (a 12)) (C := RX7) (T := TX7) (N := 20) hx hb hts iX7 hown hK.1 hP 0 rfl rfl 14 (by decide) f48 (fun _ h9 => h9) rfl dX7_predicts_13 ?_
  refine n_iconst hx hb dX7_predicts_16 ?_
  refine n_lald (i := 0) hx hb hK hP 2 1 rfl htJ rfl (Nat.le_of_ble_eq_true rfl) (Nat.le_of_ble_eq_true rfl) dX7_predicts_17 ?_
  refine n_lmul hx hb dX7_predicts_18 ?_
  refine lv_aload_n hx hb dX7_predicts_19 rfl (lv_at hl 1 rfl) ?_
  refine va_get (D := D) (ci := 7) (v := .ref (a 1)) (C := RX7) (T := TX7) (N := 20) hx hb hts iX7 hown hK.1 hP 0 rfl rfl 3 (by decide) f13 (fun _ h9 => h9) rfl dX7_predicts_20 ?_
  refine lv_iload_n hx hb dX7_predicts_23 rfl (lv_at hl 0 rfl) ?_
  refine n_iconst hx hb dX7_predicts_24 ?_
  refine n_iadd hx hb dX7_predicts_25 ?_
  refine n_iald (i := ((7 * ev) + 1)) hx hb hK hP 1 0 rfl htI (by omega) (by omega) (Nat.le_of_ble_eq_true rfl) dX7_predicts_26 ?_
  refine n_i2lZ hx hb dX7_predicts_27 ?_
  refine lv_aload_n hx hb dX7_predicts_28 rfl (lv_at hl 1 rfl) ?_
  refine va_get (D := D) (ci := 7) (v := .ref (a 12)) (C := RX7) (T := TX7) (N := 20) hx hb hts iX7 hown hK.1 hP 0 rfl rfl 14 (by decide) f48 (fun _ h9 => h9) rfl dX7_predicts_29 ?_
  refine n_iconst hx hb dX7_predicts_32 ?_
  refine n_lald (i := 1) hx hb hK hP 2 1 rfl htJ rfl (Nat.le_of_ble_eq_true rfl) (Nat.le_of_ble_eq_true rfl) dX7_predicts_33 ?_
  refine n_lmul hx hb dX7_predicts_34 ?_
  refine n_ladd hx hb dX7_predicts_35 ?_
  have ct36 := c_X7_by l D tys ((zv (gM (7 * ev)) * zv (gW 0)) + (zv (gM ((7 * ev) + 1)) * zv (gW 1))) _ _ (rp_a (rp_add (rp_mul (rp_v (gM (7 * ev))) (rp_v (gW 0))) (rp_mul (rp_v (gM ((7 * ev) + 1))) (rp_v (gW 1))))) (Nat.le_of_ble_eq_true rfl)
  refine k_goL (va_runS (As := [.long (jL ((zv (gM (7 * ev)) * zv (gW 0)) + (zv (gM ((7 * ev) + 1)) * zv (gW 1))))]) (rest := []) ⟨hx, hb, hml, hown, hts⟩ (ct36.2 _) (va_cwS 1 hts gX7_predicts_X7_by rfl rfl rfl (by decide +kernel) ⟨Nat.le_of_ble_eq_true rfl, Nat.le_of_ble_eq_true rfl⟩) (k_pre hK hP hD (is := []) rfl rfl) rfl rfl hl.1 rfl (lv_room (Nat.le_of_ble_eq_true rfl)) dX7_predicts_36 ⟨Nat.le_of_ble_eq_true rfl, Nat.le_of_ble_eq_true rfl⟩) ct36.1 hP hD hS hA [] rfl rfl (fun H locs hP hD hS => ?_)
  have hP : va_P D vwCl [(m0, oR (jI ((ms : Nat) : Int)) (jI ((es : Nat) : Int)) th a), ((a 1), .inl (cI, 42, .inl (fun i => vI (gM i)))), ((a 12), .inl (cJ, 5, .inr (.inl (fun i => vL (gW i)))))] H := hP
  have hD : va_D A [(m0, oR (jI ((ms : Nat) : Int)) (jI ((es : Nat) : Int)) th a), ((a 1), .inl (cI, 42, .inl (fun i => vI (gM i)))), ((a 12), .inl (cJ, 5, .inr (.inl (fun i => vL (gW i)))))] := hD
  refine lv_lstore_n (lv' := [(3, .long (vL (((gM (7 * ev)) * (gW 0)) + ((gM ((7 * ev) + 1)) * (gW 1))))), (2, .int (jI (7 * ((ev : Nat) : Int)))), (0, .ref m0), (1, .int (jI ((ev : Nat) : Int)))]) hx hb dX7_predicts_39 rfl hl (by decide) rfl (fun ls hl => ?_)
  refine lv_aload_n hx hb dX7_predicts_40 rfl (lv_at hl 2 rfl) ?_
  refine va_get (D := D) (ci := 7) (v := .ref (a 1)) (C := RX7) (T := TX7) (N := 20) hx hb hts iX7 hown hK.1 hP 0 rfl rfl 3 (by decide) f13 (fun _ h9 => h9) rfl dX7_predicts_41 ?_
  refine lv_iload_n hx hb dX7_predicts_44 rfl (lv_at hl 1 rfl) ?_
  refine n_iconst hx hb dX7_predicts_45 ?_
  refine n_iadd hx hb dX7_predicts_46 ?_
  refine n_iald (i := ((7 * ev) + 2)) hx hb hK hP 1 0 rfl htI (by omega) (by omega) (Nat.le_of_ble_eq_true rfl) dX7_predicts_47 ?_
  refine n_i2lZ hx hb dX7_predicts_48 ?_
  refine lv_aload_n hx hb dX7_predicts_49 rfl (lv_at hl 2 rfl) ?_
  refine va_get (D := D) (ci := 7) (v := .ref (a 12)) (C := RX7) (T := TX7) (N := 20) hx hb hts iX7 hown hK.1 hP 0 rfl rfl 14 (by decide) f48 (fun _ h9 => h9) rfl dX7_predicts_50 ?_
  refine n_iconst hx hb dX7_predicts_53 ?_
  refine n_lald (i := 0) hx hb hK hP 2 1 rfl htJ rfl (Nat.le_of_ble_eq_true rfl) (Nat.le_of_ble_eq_true rfl) dX7_predicts_54 ?_
  refine n_lmul hx hb dX7_predicts_55 ?_
  refine lv_aload_n hx hb dX7_predicts_56 rfl (lv_at hl 2 rfl) ?_
  refine va_get (D := D) (ci := 7) (v := .ref (a 1)) (C := RX7) (T := TX7) (N := 20) hx hb hts iX7 hown hK.1 hP 0 rfl rfl 3 (by decide) f13 (fun _ h9 => h9) rfl dX7_predicts_57 ?_
  refine lv_iload_n hx hb dX7_predicts_60 rfl (lv_at hl 1 rfl) ?_
  refine n_iconst hx hb dX7_predicts_61 ?_
  refine n_iadd hx hb dX7_predicts_62 ?_
  refine n_iald (i := ((7 * ev) + 3)) hx hb hK hP 1 0 rfl htI (by omega) (by omega) (Nat.le_of_ble_eq_true rfl) dX7_predicts_63 ?_
  refine n_i2lZ hx hb dX7_predicts_64 ?_
  refine lv_aload_n hx hb dX7_predicts_65 rfl (lv_at hl 2 rfl) ?_
  refine va_get (D := D) (ci := 7) (v := .ref (a 12)) (C := RX7) (T := TX7) (N := 20) hx hb hts iX7 hown hK.1 hP 0 rfl rfl 14 (by decide) f48 (fun _ h9 => h9) rfl dX7_predicts_66 ?_
  refine n_iconst hx hb dX7_predicts_69 ?_
  refine n_lald (i := 1) hx hb hK hP 2 1 rfl htJ rfl (Nat.le_of_ble_eq_true rfl) (Nat.le_of_ble_eq_true rfl) dX7_predicts_70 ?_
  refine n_lmul hx hb dX7_predicts_71 ?_
  refine n_ladd hx hb dX7_predicts_72 ?_
  have ct73 := c_X7_by l D tys ((zv (gM ((7 * ev) + 2)) * zv (gW 0)) + (zv (gM ((7 * ev) + 3)) * zv (gW 1))) _ _ (rp_a (rp_add (rp_mul (rp_v (gM ((7 * ev) + 2))) (rp_v (gW 0))) (rp_mul (rp_v (gM ((7 * ev) + 3))) (rp_v (gW 1))))) (Nat.le_of_ble_eq_true rfl)
  refine k_goL (va_runS (As := [.long (jL ((zv (gM ((7 * ev) + 2)) * zv (gW 0)) + (zv (gM ((7 * ev) + 3)) * zv (gW 1))))]) (rest := []) ⟨hx, hb, hml, hown, hts⟩ (ct73.2 _) (va_cwS 1 hts gX7_predicts_X7_by rfl rfl rfl (by decide +kernel) ⟨Nat.le_of_ble_eq_true rfl, Nat.le_of_ble_eq_true rfl⟩) (k_pre hK hP hD (is := []) rfl rfl) rfl rfl hl.1 rfl (lv_room (Nat.le_of_ble_eq_true rfl)) dX7_predicts_73 ⟨Nat.le_of_ble_eq_true rfl, Nat.le_of_ble_eq_true rfl⟩) ct73.1 hP hD hS hA [] rfl rfl (fun H locs hP hD hS => ?_)
  have hP : va_P D vwCl [(m0, oR (jI ((ms : Nat) : Int)) (jI ((es : Nat) : Int)) th a), ((a 1), .inl (cI, 42, .inl (fun i => vI (gM i)))), ((a 12), .inl (cJ, 5, .inr (.inl (fun i => vL (gW i)))))] H := hP
  have hD : va_D A [(m0, oR (jI ((ms : Nat) : Int)) (jI ((es : Nat) : Int)) th a), ((a 1), .inl (cI, 42, .inl (fun i => vI (gM i)))), ((a 12), .inl (cJ, 5, .inr (.inl (fun i => vL (gW i)))))] := hD
  refine lv_lstore (lv' := [(5, .long (vL (((gM ((7 * ev) + 2)) * (gW 0)) + ((gM ((7 * ev) + 3)) * (gW 1))))), (3, .long (vL (((gM (7 * ev)) * (gW 0)) + ((gM ((7 * ev) + 1)) * (gW 1))))), (2, .int (jI (7 * ((ev : Nat) : Int)))), (0, .ref m0), (1, .int (jI ((ev : Nat) : Int)))]) hx hb dX7_predicts_76 hl (by decide) rfl (fun ls hl => ?_)
  refine lv_aload_n hx hb dX7_predicts_78 rfl (lv_at hl 3 rfl) ?_
  refine va_get (D := D) (ci := 7) (v := .ref (a 1)) (C := RX7) (T := TX7) (N := 20) hx hb hts iX7 hown hK.1 hP 0 rfl rfl 3 (by decide) f13 (fun _ h9 => h9) rfl dX7_predicts_79 ?_
  refine lv_iload_n hx hb dX7_predicts_82 rfl (lv_at hl 2 rfl) ?_
  refine n_iald (i := (7 * ev)) hx hb hK hP 1 0 rfl htI (by omega) (by omega) (Nat.le_of_ble_eq_true rfl) dX7_predicts_83 ?_
  refine n_i2lZ hx hb dX7_predicts_84 ?_
  refine lv_aload_n hx hb dX7_predicts_85 rfl (lv_at hl 3 rfl) ?_
  refine va_get (D := D) (ci := 7) (v := .ref (a 12)) (C := RX7) (T := TX7) (N := 20) hx hb hts iX7 hown hK.1 hP 0 rfl rfl 14 (by decide) f48 (fun _ h9 => h9) rfl dX7_predicts_86 ?_
  refine n_iconst hx hb dX7_predicts_89 ?_
  refine n_lald (i := 2) hx hb hK hP 2 1 rfl htJ rfl (Nat.le_of_ble_eq_true rfl) (Nat.le_of_ble_eq_true rfl) dX7_predicts_90 ?_
  refine n_lmul hx hb dX7_predicts_91 ?_
  refine lv_aload_n hx hb dX7_predicts_92 rfl (lv_at hl 3 rfl) ?_
  refine va_get (D := D) (ci := 7) (v := .ref (a 1)) (C := RX7) (T := TX7) (N := 20) hx hb hts iX7 hown hK.1 hP 0 rfl rfl 3 (by decide) f13 (fun _ h9 => h9) rfl dX7_predicts_93 ?_
  refine lv_iload_n hx hb dX7_predicts_96 rfl (lv_at hl 2 rfl) ?_
  refine n_iconst hx hb dX7_predicts_97 ?_
  refine n_iadd hx hb dX7_predicts_98 ?_
  refine n_iald (i := ((7 * ev) + 1)) hx hb hK hP 1 0 rfl htI (by omega) (by omega) (Nat.le_of_ble_eq_true rfl) dX7_predicts_99 ?_
  refine n_i2lZ hx hb dX7_predicts_100 ?_
  refine lv_aload_n hx hb dX7_predicts_101 rfl (lv_at hl 3 rfl) ?_
  refine va_get (D := D) (ci := 7) (v := .ref (a 12)) (C := RX7) (T := TX7) (N := 20) hx hb hts iX7 hown hK.1 hP 0 rfl rfl 14 (by decide) f48 (fun _ h9 => h9) rfl dX7_predicts_102 ?_
  refine n_iconst hx hb dX7_predicts_105 ?_
  refine n_lald (i := 3) hx hb hK hP 2 1 rfl htJ rfl (Nat.le_of_ble_eq_true rfl) (Nat.le_of_ble_eq_true rfl) dX7_predicts_106 ?_
  refine n_lmul hx hb dX7_predicts_107 ?_
  refine n_ladd hx hb dX7_predicts_108 ?_
  have ct109 := c_X7_by l D tys ((zv (gM (7 * ev)) * zv (gW 2)) + (zv (gM ((7 * ev) + 1)) * zv (gW 3))) _ _ (ra_to (rp_a (rp_add (rp_mul (rp_v (gM (7 * ev))) (rp_v (gW 2))) (rp_mul (rp_v (gM ((7 * ev) + 1))) (rp_v (gW 3))))) eza.symm) (Nat.le_of_ble_eq_true rfl)
  refine k_goL (va_runS (As := [.long (jL ((zv (gM (7 * ev)) * zv (gW 2)) + (zv (gM ((7 * ev) + 1)) * zv (gW 3))))]) (rest := []) ⟨hx, hb, hml, hown, hts⟩ (ct109.2 _) (va_cwS 1 hts gX7_predicts_X7_by rfl rfl rfl (by decide +kernel) ⟨Nat.le_of_ble_eq_true rfl, Nat.le_of_ble_eq_true rfl⟩) (k_pre hK hP hD (is := []) rfl rfl) rfl rfl hl.1 rfl (lv_room (Nat.le_of_ble_eq_true rfl)) dX7_predicts_109 ⟨Nat.le_of_ble_eq_true rfl, Nat.le_of_ble_eq_true rfl⟩) ct109.1 hP hD hS hA [] rfl rfl (fun H locs hP hD hS => ?_)
  have hP : va_P D vwCl [(m0, oR (jI ((ms : Nat) : Int)) (jI ((es : Nat) : Int)) th a), ((a 1), .inl (cI, 42, .inl (fun i => vI (gM i)))), ((a 12), .inl (cJ, 5, .inr (.inl (fun i => vL (gW i)))))] H := hP
  have hD : va_D A [(m0, oR (jI ((ms : Nat) : Int)) (jI ((es : Nat) : Int)) th a), ((a 1), .inl (cI, 42, .inl (fun i => vI (gM i)))), ((a 12), .inl (cJ, 5, .inr (.inl (fun i => vL (gW i)))))] := hD
  refine lv_lstore (lv' := [(7, .long (vL za)), (5, .long (vL (((gM ((7 * ev) + 2)) * (gW 0)) + ((gM ((7 * ev) + 3)) * (gW 1))))), (3, .long (vL (((gM (7 * ev)) * (gW 0)) + ((gM ((7 * ev) + 1)) * (gW 1))))), (2, .int (jI (7 * ((ev : Nat) : Int)))), (0, .ref m0), (1, .int (jI ((ev : Nat) : Int)))]) hx hb dX7_predicts_112 hl (by decide) rfl (fun ls hl => ?_)
  refine lv_aload_n hx hb dX7_predicts_114 rfl (lv_at hl 4 rfl) ?_
  refine va_get (D := D) (ci := 7) (v := .ref (a 1)) (C := RX7) (T := TX7) (N := 20) hx hb hts iX7 hown hK.1 hP 0 rfl rfl 3 (by decide) f13 (fun _ h9 => h9) rfl dX7_predicts_115 ?_
  refine lv_iload_n hx hb dX7_predicts_118 rfl (lv_at hl 3 rfl) ?_
  refine n_iald (i := (7 * ev)) hx hb hK hP 1 0 rfl htI (by omega) (by omega) (Nat.le_of_ble_eq_true rfl) dX7_predicts_119 ?_
  refine n_i2lZ hx hb dX7_predicts_120 ?_
  refine lv_aload_n hx hb dX7_predicts_121 rfl (lv_at hl 4 rfl) ?_
  refine va_get (D := D) (ci := 7) (v := .ref (a 12)) (C := RX7) (T := TX7) (N := 20) hx hb hts iX7 hown hK.1 hP 0 rfl rfl 14 (by decide) f48 (fun _ h9 => h9) rfl dX7_predicts_122 ?_
  refine n_iconst hx hb dX7_predicts_125 ?_
  refine n_lald (i := 3) hx hb hK hP 2 1 rfl htJ rfl (Nat.le_of_ble_eq_true rfl) (Nat.le_of_ble_eq_true rfl) dX7_predicts_126 ?_
  refine n_lmul hx hb dX7_predicts_127 ?_
  refine lv_aload_n hx hb dX7_predicts_128 rfl (lv_at hl 4 rfl) ?_
  refine va_get (D := D) (ci := 7) (v := .ref (a 1)) (C := RX7) (T := TX7) (N := 20) hx hb hts iX7 hown hK.1 hP 0 rfl rfl 3 (by decide) f13 (fun _ h9 => h9) rfl dX7_predicts_129 ?_
  refine lv_iload_n hx hb dX7_predicts_132 rfl (lv_at hl 3 rfl) ?_
  refine n_iconst hx hb dX7_predicts_133 ?_
  refine n_iadd hx hb dX7_predicts_134 ?_
  refine n_iald (i := ((7 * ev) + 1)) hx hb hK hP 1 0 rfl htI (by omega) (by omega) (Nat.le_of_ble_eq_true rfl) dX7_predicts_135 ?_
  refine n_i2lZ hx hb dX7_predicts_136 ?_
  refine lv_aload_n hx hb dX7_predicts_137 rfl (lv_at hl 4 rfl) ?_
  refine va_get (D := D) (ci := 7) (v := .ref (a 12)) (C := RX7) (T := TX7) (N := 20) hx hb hts iX7 hown hK.1 hP 0 rfl rfl 14 (by decide) f48 (fun _ h9 => h9) rfl dX7_predicts_138 ?_
  refine n_iconst hx hb dX7_predicts_141 ?_
  refine n_lald (i := 4) hx hb hK hP 2 1 rfl htJ rfl (Nat.le_of_ble_eq_true rfl) (Nat.le_of_ble_eq_true rfl) dX7_predicts_142 ?_
  refine n_lmul hx hb dX7_predicts_143 ?_
  refine n_ladd hx hb dX7_predicts_144 ?_
  have ct145 := c_X7_by l D tys ((zv (gM (7 * ev)) * zv (gW 3)) + (zv (gM ((7 * ev) + 1)) * zv (gW 4))) _ _ (ra_to (rp_a (rp_add (rp_mul (rp_v (gM (7 * ev))) (rp_v (gW 3))) (rp_mul (rp_v (gM ((7 * ev) + 1))) (rp_v (gW 4))))) ezb.symm) (Nat.le_of_ble_eq_true rfl)
  refine k_goL (va_runS (As := [.long (jL ((zv (gM (7 * ev)) * zv (gW 3)) + (zv (gM ((7 * ev) + 1)) * zv (gW 4))))]) (rest := []) ⟨hx, hb, hml, hown, hts⟩ (ct145.2 _) (va_cwS 1 hts gX7_predicts_X7_by rfl rfl rfl (by decide +kernel) ⟨Nat.le_of_ble_eq_true rfl, Nat.le_of_ble_eq_true rfl⟩) (k_pre hK hP hD (is := []) rfl rfl) rfl rfl hl.1 rfl (lv_room (Nat.le_of_ble_eq_true rfl)) dX7_predicts_145 ⟨Nat.le_of_ble_eq_true rfl, Nat.le_of_ble_eq_true rfl⟩) ct145.1 hP hD hS hA [] rfl rfl (fun H locs hP hD hS => ?_)
  have hP : va_P D vwCl [(m0, oR (jI ((ms : Nat) : Int)) (jI ((es : Nat) : Int)) th a), ((a 1), .inl (cI, 42, .inl (fun i => vI (gM i)))), ((a 12), .inl (cJ, 5, .inr (.inl (fun i => vL (gW i)))))] H := hP
  have hD : va_D A [(m0, oR (jI ((ms : Nat) : Int)) (jI ((es : Nat) : Int)) th a), ((a 1), .inl (cI, 42, .inl (fun i => vI (gM i)))), ((a 12), .inl (cJ, 5, .inr (.inl (fun i => vL (gW i)))))] := hD
  refine lv_lstore (lv' := [(9, .long (vL zb)), (7, .long (vL za)), (5, .long (vL (((gM ((7 * ev) + 2)) * (gW 0)) + ((gM ((7 * ev) + 3)) * (gW 1))))), (3, .long (vL (((gM (7 * ev)) * (gW 0)) + ((gM ((7 * ev) + 1)) * (gW 1))))), (2, .int (jI (7 * ((ev : Nat) : Int)))), (0, .ref m0), (1, .int (jI ((ev : Nat) : Int)))]) hx hb dX7_predicts_148 hl (by decide) rfl (fun ls hl => ?_)
  refine lv_aload_n hx hb dX7_predicts_150 rfl (lv_at hl 5 rfl) ?_
  refine va_get (D := D) (ci := 7) (v := .ref (a 1)) (C := RX7) (T := TX7) (N := 20) hx hb hts iX7 hown hK.1 hP 0 rfl rfl 3 (by decide) f13 (fun _ h9 => h9) rfl dX7_predicts_151 ?_
  refine lv_iload_n hx hb dX7_predicts_154 rfl (lv_at hl 4 rfl) ?_
  refine n_iconst hx hb dX7_predicts_155 ?_
  refine n_iadd hx hb dX7_predicts_156 ?_
  refine n_iald (i := ((7 * ev) + 2)) hx hb hK hP 1 0 rfl htI (by omega) (by omega) (Nat.le_of_ble_eq_true rfl) dX7_predicts_157 ?_
  refine n_i2lZ hx hb dX7_predicts_158 ?_
  refine lv_aload_n hx hb dX7_predicts_159 rfl (lv_at hl 5 rfl) ?_
  refine va_get (D := D) (ci := 7) (v := .ref (a 12)) (C := RX7) (T := TX7) (N := 20) hx hb hts iX7 hown hK.1 hP 0 rfl rfl 14 (by decide) f48 (fun _ h9 => h9) rfl dX7_predicts_160 ?_
  refine n_iconst hx hb dX7_predicts_163 ?_
  refine n_lald (i := 2) hx hb hK hP 2 1 rfl htJ rfl (Nat.le_of_ble_eq_true rfl) (Nat.le_of_ble_eq_true rfl) dX7_predicts_164 ?_
  refine n_lmul hx hb dX7_predicts_165 ?_
  refine lv_aload_n hx hb dX7_predicts_166 rfl (lv_at hl 5 rfl) ?_
  refine va_get (D := D) (ci := 7) (v := .ref (a 1)) (C := RX7) (T := TX7) (N := 20) hx hb hts iX7 hown hK.1 hP 0 rfl rfl 3 (by decide) f13 (fun _ h9 => h9) rfl dX7_predicts_167 ?_
  refine lv_iload_n hx hb dX7_predicts_170 rfl (lv_at hl 4 rfl) ?_
  refine n_iconst hx hb dX7_predicts_171 ?_
  refine n_iadd hx hb dX7_predicts_172 ?_
  refine n_iald (i := ((7 * ev) + 3)) hx hb hK hP 1 0 rfl htI (by omega) (by omega) (Nat.le_of_ble_eq_true rfl) dX7_predicts_173 ?_
  refine n_i2lZ hx hb dX7_predicts_174 ?_
  refine lv_aload_n hx hb dX7_predicts_175 rfl (lv_at hl 5 rfl) ?_
  refine va_get (D := D) (ci := 7) (v := .ref (a 12)) (C := RX7) (T := TX7) (N := 20) hx hb hts iX7 hown hK.1 hP 0 rfl rfl 14 (by decide) f48 (fun _ h9 => h9) rfl dX7_predicts_176 ?_
  refine n_iconst hx hb dX7_predicts_179 ?_
  refine n_lald (i := 3) hx hb hK hP 2 1 rfl htJ rfl (Nat.le_of_ble_eq_true rfl) (Nat.le_of_ble_eq_true rfl) dX7_predicts_180 ?_
  refine n_lmul hx hb dX7_predicts_181 ?_
  refine n_ladd hx hb dX7_predicts_182 ?_
  have ct183 := c_X7_by l D tys ((zv (gM ((7 * ev) + 2)) * zv (gW 2)) + (zv (gM ((7 * ev) + 3)) * zv (gW 3))) _ _ (ra_to (rp_a (rp_add (rp_mul (rp_v (gM ((7 * ev) + 2))) (rp_v (gW 2))) (rp_mul (rp_v (gM ((7 * ev) + 3))) (rp_v (gW 3))))) ezk.symm) (Nat.le_of_ble_eq_true rfl)
  refine k_goL (va_runS (As := [.long (jL ((zv (gM ((7 * ev) + 2)) * zv (gW 2)) + (zv (gM ((7 * ev) + 3)) * zv (gW 3))))]) (rest := []) ⟨hx, hb, hml, hown, hts⟩ (ct183.2 _) (va_cwS 1 hts gX7_predicts_X7_by rfl rfl rfl (by decide +kernel) ⟨Nat.le_of_ble_eq_true rfl, Nat.le_of_ble_eq_true rfl⟩) (k_pre hK hP hD (is := []) rfl rfl) rfl rfl hl.1 rfl (lv_room (Nat.le_of_ble_eq_true rfl)) dX7_predicts_183 ⟨Nat.le_of_ble_eq_true rfl, Nat.le_of_ble_eq_true rfl⟩) ct183.1 hP hD hS hA [] rfl rfl (fun H locs hP hD hS => ?_)
  have hP : va_P D vwCl [(m0, oR (jI ((ms : Nat) : Int)) (jI ((es : Nat) : Int)) th a), ((a 1), .inl (cI, 42, .inl (fun i => vI (gM i)))), ((a 12), .inl (cJ, 5, .inr (.inl (fun i => vL (gW i)))))] H := hP
  have hD : va_D A [(m0, oR (jI ((ms : Nat) : Int)) (jI ((es : Nat) : Int)) th a), ((a 1), .inl (cI, 42, .inl (fun i => vI (gM i)))), ((a 12), .inl (cJ, 5, .inr (.inl (fun i => vL (gW i)))))] := hD
  refine lv_lstore (lv' := [(11, .long (vL zk)), (9, .long (vL zb)), (7, .long (vL za)), (5, .long (vL (((gM ((7 * ev) + 2)) * (gW 0)) + ((gM ((7 * ev) + 3)) * (gW 1))))), (3, .long (vL (((gM (7 * ev)) * (gW 0)) + ((gM ((7 * ev) + 1)) * (gW 1))))), (2, .int (jI (7 * ((ev : Nat) : Int)))), (0, .ref m0), (1, .int (jI ((ev : Nat) : Int)))]) hx hb dX7_predicts_186 hl (by decide) rfl (fun ls hl => ?_)
  refine lv_aload_n hx hb dX7_predicts_188 rfl (lv_at hl 6 rfl) ?_
  refine va_get (D := D) (ci := 7) (v := .ref (a 1)) (C := RX7) (T := TX7) (N := 20) hx hb hts iX7 hown hK.1 hP 0 rfl rfl 3 (by decide) f13 (fun _ h9 => h9) rfl dX7_predicts_189 ?_
  refine lv_iload_n hx hb dX7_predicts_192 rfl (lv_at hl 5 rfl) ?_
  refine n_iconst hx hb dX7_predicts_193 ?_
  refine n_iadd hx hb dX7_predicts_194 ?_
  refine n_iald (i := ((7 * ev) + 2)) hx hb hK hP 1 0 rfl htI (by omega) (by omega) (Nat.le_of_ble_eq_true rfl) dX7_predicts_195 ?_
  refine n_i2lZ hx hb dX7_predicts_196 ?_
  refine lv_aload_n hx hb dX7_predicts_197 rfl (lv_at hl 6 rfl) ?_
  refine va_get (D := D) (ci := 7) (v := .ref (a 12)) (C := RX7) (T := TX7) (N := 20) hx hb hts iX7 hown hK.1 hP 0 rfl rfl 14 (by decide) f48 (fun _ h9 => h9) rfl dX7_predicts_198 ?_
  refine n_iconst hx hb dX7_predicts_201 ?_
  refine n_lald (i := 3) hx hb hK hP 2 1 rfl htJ rfl (Nat.le_of_ble_eq_true rfl) (Nat.le_of_ble_eq_true rfl) dX7_predicts_202 ?_
  refine n_lmul hx hb dX7_predicts_203 ?_
  refine lv_aload_n hx hb dX7_predicts_204 rfl (lv_at hl 6 rfl) ?_
  refine va_get (D := D) (ci := 7) (v := .ref (a 1)) (C := RX7) (T := TX7) (N := 20) hx hb hts iX7 hown hK.1 hP 0 rfl rfl 3 (by decide) f13 (fun _ h9 => h9) rfl dX7_predicts_205 ?_
  refine lv_iload_n hx hb dX7_predicts_208 rfl (lv_at hl 5 rfl) ?_
  refine n_iconst hx hb dX7_predicts_209 ?_
  refine n_iadd hx hb dX7_predicts_210 ?_
  refine n_iald (i := ((7 * ev) + 3)) hx hb hK hP 1 0 rfl htI (by omega) (by omega) (Nat.le_of_ble_eq_true rfl) dX7_predicts_211 ?_
  refine n_i2lZ hx hb dX7_predicts_212 ?_
  refine lv_aload_n hx hb dX7_predicts_213 rfl (lv_at hl 6 rfl) ?_
  refine va_get (D := D) (ci := 7) (v := .ref (a 12)) (C := RX7) (T := TX7) (N := 20) hx hb hts iX7 hown hK.1 hP 0 rfl rfl 14 (by decide) f48 (fun _ h9 => h9) rfl dX7_predicts_214 ?_
  refine n_iconst hx hb dX7_predicts_217 ?_
  refine n_lald (i := 4) hx hb hK hP 2 1 rfl htJ rfl (Nat.le_of_ble_eq_true rfl) (Nat.le_of_ble_eq_true rfl) dX7_predicts_218 ?_
  refine n_lmul hx hb dX7_predicts_219 ?_
  refine n_ladd hx hb dX7_predicts_220 ?_
  have ct221 := c_X7_by l D tys ((zv (gM ((7 * ev) + 2)) * zv (gW 3)) + (zv (gM ((7 * ev) + 3)) * zv (gW 4))) _ _ (ra_to (rp_a (rp_add (rp_mul (rp_v (gM ((7 * ev) + 2))) (rp_v (gW 3))) (rp_mul (rp_v (gM ((7 * ev) + 3))) (rp_v (gW 4))))) ezd.symm) (Nat.le_of_ble_eq_true rfl)
  refine k_goL (va_runS (As := [.long (jL ((zv (gM ((7 * ev) + 2)) * zv (gW 3)) + (zv (gM ((7 * ev) + 3)) * zv (gW 4))))]) (rest := []) ⟨hx, hb, hml, hown, hts⟩ (ct221.2 _) (va_cwS 1 hts gX7_predicts_X7_by rfl rfl rfl (by decide +kernel) ⟨Nat.le_of_ble_eq_true rfl, Nat.le_of_ble_eq_true rfl⟩) (k_pre hK hP hD (is := []) rfl rfl) rfl rfl hl.1 rfl (lv_room (Nat.le_of_ble_eq_true rfl)) dX7_predicts_221 ⟨Nat.le_of_ble_eq_true rfl, Nat.le_of_ble_eq_true rfl⟩) ct221.1 hP hD hS hA [] rfl rfl (fun H locs hP hD hS => ?_)
  have hP : va_P D vwCl [(m0, oR (jI ((ms : Nat) : Int)) (jI ((es : Nat) : Int)) th a), ((a 1), .inl (cI, 42, .inl (fun i => vI (gM i)))), ((a 12), .inl (cJ, 5, .inr (.inl (fun i => vL (gW i)))))] H := hP
  have hD : va_D A [(m0, oR (jI ((ms : Nat) : Int)) (jI ((es : Nat) : Int)) th a), ((a 1), .inl (cI, 42, .inl (fun i => vI (gM i)))), ((a 12), .inl (cJ, 5, .inr (.inl (fun i => vL (gW i)))))] := hD
  refine lv_lstore (lv' := [(13, .long (vL zd)), (11, .long (vL zk)), (9, .long (vL zb)), (7, .long (vL za)), (5, .long (vL (((gM ((7 * ev) + 2)) * (gW 0)) + ((gM ((7 * ev) + 3)) * (gW 1))))), (3, .long (vL (((gM (7 * ev)) * (gW 0)) + ((gM ((7 * ev) + 1)) * (gW 1))))), (2, .int (jI (7 * ((ev : Nat) : Int)))), (0, .ref m0), (1, .int (jI ((ev : Nat) : Int)))]) hx hb dX7_predicts_224 hl (by decide) rfl (fun ls hl => ?_)
  refine lv_aload_n hx hb dX7_predicts_226 rfl (lv_at hl 7 rfl) ?_
  refine va_get (D := D) (ci := 7) (v := .ref (a 12)) (C := RX7) (T := TX7) (N := 20) hx hb hts iX7 hown hK.1 hP 0 rfl rfl 14 (by decide) f48 (fun _ h9 => h9) rfl dX7_predicts_227 ?_
  refine n_iconst hx hb dX7_predicts_230 ?_
  refine lv_lload_n hx hb dX7_predicts_231 rfl (lv_at hl 5 rfl) ?_
  refine n_zlast (i := 0) (x := (((gM (7 * ev)) * (gW 0)) + ((gM ((7 * ev) + 1)) * (gW 1)))) hx hb hK hP hD hS 2 1 rfl htJ rfl (Nat.le_of_ble_eq_true rfl) (Nat.le_of_ble_eq_true rfl) dX7_predicts_232 (fun H locs hP hD hS => ?_)
  have hP : va_P D vwCl [(m0, oR (jI ((ms : Nat) : Int)) (jI ((es : Nat) : Int)) th a), ((a 1), .inl (cI, 42, .inl (fun i => vI (gM i)))), ((a 12), .inl (cJ, 5, .inr (.inl (fun i => vL ((va_up gW 0 (((gM (7 * ev)) * (gW 0)) + ((gM ((7 * ev) + 1)) * (gW 1)))) i)))))] H := hP
  have hD : va_D A [(m0, oR (jI ((ms : Nat) : Int)) (jI ((es : Nat) : Int)) th a), ((a 1), .inl (cI, 42, .inl (fun i => vI (gM i)))), ((a 12), .inl (cJ, 5, .inr (.inl (fun i => vL ((va_up gW 0 (((gM (7 * ev)) * (gW 0)) + ((gM ((7 * ev) + 1)) * (gW 1)))) i)))))] := hD
  refine lv_aload_n hx hb dX7_predicts_233 rfl (lv_at hl 7 rfl) ?_
  refine va_get (D := D) (ci := 7) (v := .ref (a 12)) (C := RX7) (T := TX7) (N := 20) hx hb hts iX7 hown hK.1 hP 0 rfl rfl 14 (by decide) f48 (fun _ h9 => h9) rfl dX7_predicts_234 ?_
  refine n_iconst hx hb dX7_predicts_237 ?_
  refine lv_lload hx hb dX7_predicts_238 (lv_at hl 4 rfl) ?_
  refine n_zlast (i := 1) (x := (((gM ((7 * ev) + 2)) * (gW 0)) + ((gM ((7 * ev) + 3)) * (gW 1)))) hx hb hK hP hD hS 2 1 rfl htJ rfl (Nat.le_of_ble_eq_true rfl) (Nat.le_of_ble_eq_true rfl) dX7_predicts_240 (fun H locs hP hD hS => ?_)
  have hP : va_P D vwCl [(m0, oR (jI ((ms : Nat) : Int)) (jI ((es : Nat) : Int)) th a), ((a 1), .inl (cI, 42, .inl (fun i => vI (gM i)))), ((a 12), .inl (cJ, 5, .inr (.inl (fun i => vL ((va_up (va_up gW 0 (((gM (7 * ev)) * (gW 0)) + ((gM ((7 * ev) + 1)) * (gW 1)))) 1 (((gM ((7 * ev) + 2)) * (gW 0)) + ((gM ((7 * ev) + 3)) * (gW 1)))) i)))))] H := hP
  have hD : va_D A [(m0, oR (jI ((ms : Nat) : Int)) (jI ((es : Nat) : Int)) th a), ((a 1), .inl (cI, 42, .inl (fun i => vI (gM i)))), ((a 12), .inl (cJ, 5, .inr (.inl (fun i => vL ((va_up (va_up gW 0 (((gM (7 * ev)) * (gW 0)) + ((gM ((7 * ev) + 1)) * (gW 1)))) 1 (((gM ((7 * ev) + 2)) * (gW 0)) + ((gM ((7 * ev) + 3)) * (gW 1)))) i)))))] := hD
  refine lv_aload_n hx hb dX7_predicts_241 rfl (lv_at hl 7 rfl) ?_
  refine va_get (D := D) (ci := 7) (v := .ref (a 12)) (C := RX7) (T := TX7) (N := 20) hx hb hts iX7 hown hK.1 hP 0 rfl rfl 14 (by decide) f48 (fun _ h9 => h9) rfl dX7_predicts_242 ?_
  refine n_iconst hx hb dX7_predicts_245 ?_
  refine lv_lload hx hb dX7_predicts_246 (lv_at hl 3 rfl) ?_
  refine lv_aload_n hx hb dX7_predicts_248 rfl (lv_at hl 7 rfl) ?_
  refine va_get (D := D) (ci := 7) (v := .ref (a 1)) (C := RX7) (T := TX7) (N := 20) hx hb hts iX7 hown hK.1 hP 0 rfl rfl 3 (by decide) f13 (fun _ h9 => h9) rfl dX7_predicts_249 ?_
  refine lv_iload_n hx hb dX7_predicts_252 rfl (lv_at hl 6 rfl) ?_
  refine n_iald (i := (7 * ev)) hx hb hK hP 1 0 rfl htI (by omega) (by omega) (Nat.le_of_ble_eq_true rfl) dX7_predicts_253 ?_
  refine n_i2lZ hx hb dX7_predicts_254 ?_
  refine n_lmul hx hb dX7_predicts_255 ?_
  refine lv_lload hx hb dX7_predicts_256 (lv_at hl 2 rfl) ?_
  refine lv_aload_n hx hb dX7_predicts_258 rfl (lv_at hl 7 rfl) ?_
  refine va_get (D := D) (ci := 7) (v := .ref (a 1)) (C := RX7) (T := TX7) (N := 20) hx hb hts iX7 hown hK.1 hP 0 rfl rfl 3 (by decide) f13 (fun _ h9 => h9) rfl dX7_predicts_259 ?_
  refine lv_iload_n hx hb dX7_predicts_262 rfl (lv_at hl 6 rfl) ?_
  refine n_iconst hx hb dX7_predicts_263 ?_
  refine n_iadd hx hb dX7_predicts_264 ?_
  refine n_iald (i := ((7 * ev) + 1)) hx hb hK hP 1 0 rfl htI (by omega) (by omega) (Nat.le_of_ble_eq_true rfl) dX7_predicts_265 ?_
  refine n_i2lZ hx hb dX7_predicts_266 ?_
  refine n_lmul hx hb dX7_predicts_267 ?_
  refine n_ladd hx hb dX7_predicts_268 ?_
  refine lv_aload_n hx hb dX7_predicts_269 rfl (lv_at hl 7 rfl) ?_
  refine va_get (D := D) (ci := 7) (v := .ref (a 1)) (C := RX7) (T := TX7) (N := 20) hx hb hts iX7 hown hK.1 hP 0 rfl rfl 3 (by decide) f13 (fun _ h9 => h9) rfl dX7_predicts_270 ?_
  refine lv_iload_n hx hb dX7_predicts_273 rfl (lv_at hl 6 rfl) ?_
  refine n_iconst hx hb dX7_predicts_274 ?_
  refine n_iadd hx hb dX7_predicts_275 ?_
  refine n_iald (i := ((7 * ev) + 4)) hx hb hK hP 1 0 rfl htI (by omega) (by omega) (Nat.le_of_ble_eq_true rfl) dX7_predicts_276 ?_
  refine n_i2lZ hx hb dX7_predicts_277 ?_
  refine n_ladd hx hb dX7_predicts_278 ?_
  have ct279 := c_X7_by l D tys (((zv za * zv (gM (7 * ev))) + (zv zb * zv (gM ((7 * ev) + 1)))) + zv (gM ((7 * ev) + 4))) _ _ (rp_a (rp_add (rp_add (rp_mul (rp_v za) (rp_v (gM (7 * ev)))) (rp_mul (rp_v zb) (rp_v (gM ((7 * ev) + 1))))) (rp_v (gM ((7 * ev) + 4))))) (Nat.le_of_ble_eq_true rfl)
  refine k_goL (va_runS (As := [.long (jL (((zv za * zv (gM (7 * ev))) + (zv zb * zv (gM ((7 * ev) + 1)))) + zv (gM ((7 * ev) + 4))))]) (rest := [.int (jI 2), .ref (a 12)]) ⟨hx, hb, hml, hown, hts⟩ (ct279.2 _) (va_cwS 1 hts gX7_predicts_X7_by rfl rfl rfl (by decide +kernel) ⟨Nat.le_of_ble_eq_true rfl, Nat.le_of_ble_eq_true rfl⟩) (k_pre hK hP hD (is := []) rfl rfl) rfl rfl hl.1 rfl (lv_room (Nat.le_of_ble_eq_true rfl)) dX7_predicts_279 ⟨Nat.le_of_ble_eq_true rfl, Nat.le_of_ble_eq_true rfl⟩) ct279.1 hP hD hS hA [] rfl rfl (fun H locs hP hD hS => ?_)
  have hP : va_P D vwCl [(m0, oR (jI ((ms : Nat) : Int)) (jI ((es : Nat) : Int)) th a), ((a 1), .inl (cI, 42, .inl (fun i => vI (gM i)))), ((a 12), .inl (cJ, 5, .inr (.inl (fun i => vL ((va_up (va_up gW 0 (((gM (7 * ev)) * (gW 0)) + ((gM ((7 * ev) + 1)) * (gW 1)))) 1 (((gM ((7 * ev) + 2)) * (gW 0)) + ((gM ((7 * ev) + 3)) * (gW 1)))) i)))))] H := hP
  have hD : va_D A [(m0, oR (jI ((ms : Nat) : Int)) (jI ((es : Nat) : Int)) th a), ((a 1), .inl (cI, 42, .inl (fun i => vI (gM i)))), ((a 12), .inl (cJ, 5, .inr (.inl (fun i => vL ((va_up (va_up gW 0 (((gM (7 * ev)) * (gW 0)) + ((gM ((7 * ev) + 1)) * (gW 1)))) 1 (((gM ((7 * ev) + 2)) * (gW 0)) + ((gM ((7 * ev) + 3)) * (gW 1)))) i)))))] := hD
  refine n_zlast (i := 2) (x := (((za * (gM (7 * ev))) + (zb * (gM ((7 * ev) + 1)))) + (gM ((7 * ev) + 4)))) hx hb hK hP hD hS 2 1 rfl htJ rfl (Nat.le_of_ble_eq_true rfl) (Nat.le_of_ble_eq_true rfl) dX7_predicts_282 (fun H locs hP hD hS => ?_)
  have hP : va_P D vwCl [(m0, oR (jI ((ms : Nat) : Int)) (jI ((es : Nat) : Int)) th a), ((a 1), .inl (cI, 42, .inl (fun i => vI (gM i)))), ((a 12), .inl (cJ, 5, .inr (.inl (fun i => vL ((va_up (va_up (va_up gW 0 (((gM (7 * ev)) * (gW 0)) + ((gM ((7 * ev) + 1)) * (gW 1)))) 1 (((gM ((7 * ev) + 2)) * (gW 0)) + ((gM ((7 * ev) + 3)) * (gW 1)))) 2 (((za * (gM (7 * ev))) + (zb * (gM ((7 * ev) + 1)))) + (gM ((7 * ev) + 4)))) i)))))] H := hP
  have hD : va_D A [(m0, oR (jI ((ms : Nat) : Int)) (jI ((es : Nat) : Int)) th a), ((a 1), .inl (cI, 42, .inl (fun i => vI (gM i)))), ((a 12), .inl (cJ, 5, .inr (.inl (fun i => vL ((va_up (va_up (va_up gW 0 (((gM (7 * ev)) * (gW 0)) + ((gM ((7 * ev) + 1)) * (gW 1)))) 1 (((gM ((7 * ev) + 2)) * (gW 0)) + ((gM ((7 * ev) + 3)) * (gW 1)))) 2 (((za * (gM (7 * ev))) + (zb * (gM ((7 * ev) + 1)))) + (gM ((7 * ev) + 4)))) i)))))] := hD
  refine lv_aload_n hx hb dX7_predicts_283 rfl (lv_at hl 7 rfl) ?_
  refine va_get (D := D) (ci := 7) (v := .ref (a 12)) (C := RX7) (T := TX7) (N := 20) hx hb hts iX7 hown hK.1 hP 0 rfl rfl 14 (by decide) f48 (fun _ h9 => h9) rfl dX7_predicts_284 ?_
  refine n_iconst hx hb dX7_predicts_287 ?_
  refine lv_lload hx hb dX7_predicts_288 (lv_at hl 3 rfl) ?_
  refine lv_aload_n hx hb dX7_predicts_290 rfl (lv_at hl 7 rfl) ?_
  refine va_get (D := D) (ci := 7) (v := .ref (a 1)) (C := RX7) (T := TX7) (N := 20) hx hb hts iX7 hown hK.1 hP 0 rfl rfl 3 (by decide) f13 (fun _ h9 => h9) rfl dX7_predicts_291 ?_
  refine lv_iload_n hx hb dX7_predicts_294 rfl (lv_at hl 6 rfl) ?_
  refine n_iconst hx hb dX7_predicts_295 ?_
  refine n_iadd hx hb dX7_predicts_296 ?_
  refine n_iald (i := ((7 * ev) + 2)) hx hb hK hP 1 0 rfl htI (by omega) (by omega) (Nat.le_of_ble_eq_true rfl) dX7_predicts_297 ?_
  refine n_i2lZ hx hb dX7_predicts_298 ?_
  refine n_lmul hx hb dX7_predicts_299 ?_
  refine lv_lload hx hb dX7_predicts_300 (lv_at hl 2 rfl) ?_
  refine lv_aload_n hx hb dX7_predicts_302 rfl (lv_at hl 7 rfl) ?_
  refine va_get (D := D) (ci := 7) (v := .ref (a 1)) (C := RX7) (T := TX7) (N := 20) hx hb hts iX7 hown hK.1 hP 0 rfl rfl 3 (by decide) f13 (fun _ h9 => h9) rfl dX7_predicts_303 ?_
  refine lv_iload_n hx hb dX7_predicts_306 rfl (lv_at hl 6 rfl) ?_
  refine n_iconst hx hb dX7_predicts_307 ?_
  refine n_iadd hx hb dX7_predicts_308 ?_
  refine n_iald (i := ((7 * ev) + 3)) hx hb hK hP 1 0 rfl htI (by omega) (by omega) (Nat.le_of_ble_eq_true rfl) dX7_predicts_309 ?_
  refine n_i2lZ hx hb dX7_predicts_310 ?_
  refine n_lmul hx hb dX7_predicts_311 ?_
  refine n_ladd hx hb dX7_predicts_312 ?_
  refine lv_aload_n hx hb dX7_predicts_313 rfl (lv_at hl 7 rfl) ?_
  refine va_get (D := D) (ci := 7) (v := .ref (a 1)) (C := RX7) (T := TX7) (N := 20) hx hb hts iX7 hown hK.1 hP 0 rfl rfl 3 (by decide) f13 (fun _ h9 => h9) rfl dX7_predicts_314 ?_
  refine lv_iload_n hx hb dX7_predicts_317 rfl (lv_at hl 6 rfl) ?_
  refine n_iconst hx hb dX7_predicts_318 ?_
  refine n_iadd hx hb dX7_predicts_319 ?_
  refine n_iald (i := ((7 * ev) + 5)) hx hb hK hP 1 0 rfl htI (by omega) (by omega) (Nat.le_of_ble_eq_true rfl) dX7_predicts_320 ?_
  refine n_i2lZ hx hb dX7_predicts_321 ?_
  refine n_ladd hx hb dX7_predicts_322 ?_
  have ct323 := c_X7_by l D tys (((zv za * zv (gM ((7 * ev) + 2))) + (zv zb * zv (gM ((7 * ev) + 3)))) + zv (gM ((7 * ev) + 5))) _ _ (rp_a (rp_add (rp_add (rp_mul (rp_v za) (rp_v (gM ((7 * ev) + 2)))) (rp_mul (rp_v zb) (rp_v (gM ((7 * ev) + 3))))) (rp_v (gM ((7 * ev) + 5))))) (Nat.le_of_ble_eq_true rfl)
  refine k_goL (va_runS (As := [.long (jL (((zv za * zv (gM ((7 * ev) + 2))) + (zv zb * zv (gM ((7 * ev) + 3)))) + zv (gM ((7 * ev) + 5))))]) (rest := [.int (jI 3), .ref (a 12)]) ⟨hx, hb, hml, hown, hts⟩ (ct323.2 _) (va_cwS 1 hts gX7_predicts_X7_by rfl rfl rfl (by decide +kernel) ⟨Nat.le_of_ble_eq_true rfl, Nat.le_of_ble_eq_true rfl⟩) (k_pre hK hP hD (is := []) rfl rfl) rfl rfl hl.1 rfl (lv_room (Nat.le_of_ble_eq_true rfl)) dX7_predicts_323 ⟨Nat.le_of_ble_eq_true rfl, Nat.le_of_ble_eq_true rfl⟩) ct323.1 hP hD hS hA [] rfl rfl (fun H locs hP hD hS => ?_)
  have hP : va_P D vwCl [(m0, oR (jI ((ms : Nat) : Int)) (jI ((es : Nat) : Int)) th a), ((a 1), .inl (cI, 42, .inl (fun i => vI (gM i)))), ((a 12), .inl (cJ, 5, .inr (.inl (fun i => vL ((va_up (va_up (va_up gW 0 (((gM (7 * ev)) * (gW 0)) + ((gM ((7 * ev) + 1)) * (gW 1)))) 1 (((gM ((7 * ev) + 2)) * (gW 0)) + ((gM ((7 * ev) + 3)) * (gW 1)))) 2 (((za * (gM (7 * ev))) + (zb * (gM ((7 * ev) + 1)))) + (gM ((7 * ev) + 4)))) i)))))] H := hP
  have hD : va_D A [(m0, oR (jI ((ms : Nat) : Int)) (jI ((es : Nat) : Int)) th a), ((a 1), .inl (cI, 42, .inl (fun i => vI (gM i)))), ((a 12), .inl (cJ, 5, .inr (.inl (fun i => vL ((va_up (va_up (va_up gW 0 (((gM (7 * ev)) * (gW 0)) + ((gM ((7 * ev) + 1)) * (gW 1)))) 1 (((gM ((7 * ev) + 2)) * (gW 0)) + ((gM ((7 * ev) + 3)) * (gW 1)))) 2 (((za * (gM (7 * ev))) + (zb * (gM ((7 * ev) + 1)))) + (gM ((7 * ev) + 4)))) i)))))] := hD
  refine n_zlast (i := 3) (x := (((za * (gM ((7 * ev) + 2))) + (zb * (gM ((7 * ev) + 3)))) + (gM ((7 * ev) + 5)))) hx hb hK hP hD hS 2 1 rfl htJ rfl (Nat.le_of_ble_eq_true rfl) (Nat.le_of_ble_eq_true rfl) dX7_predicts_326 (fun H locs hP hD hS => ?_)
  have hP : va_P D vwCl [(m0, oR (jI ((ms : Nat) : Int)) (jI ((es : Nat) : Int)) th a), ((a 1), .inl (cI, 42, .inl (fun i => vI (gM i)))), ((a 12), .inl (cJ, 5, .inr (.inl (fun i => vL ((va_up (va_up (va_up (va_up gW 0 (((gM (7 * ev)) * (gW 0)) + ((gM ((7 * ev) + 1)) * (gW 1)))) 1 (((gM ((7 * ev) + 2)) * (gW 0)) + ((gM ((7 * ev) + 3)) * (gW 1)))) 2 (((za * (gM (7 * ev))) + (zb * (gM ((7 * ev) + 1)))) + (gM ((7 * ev) + 4)))) 3 (((za * (gM ((7 * ev) + 2))) + (zb * (gM ((7 * ev) + 3)))) + (gM ((7 * ev) + 5)))) i)))))] H := hP
  have hD : va_D A [(m0, oR (jI ((ms : Nat) : Int)) (jI ((es : Nat) : Int)) th a), ((a 1), .inl (cI, 42, .inl (fun i => vI (gM i)))), ((a 12), .inl (cJ, 5, .inr (.inl (fun i => vL ((va_up (va_up (va_up (va_up gW 0 (((gM (7 * ev)) * (gW 0)) + ((gM ((7 * ev) + 1)) * (gW 1)))) 1 (((gM ((7 * ev) + 2)) * (gW 0)) + ((gM ((7 * ev) + 3)) * (gW 1)))) 2 (((za * (gM (7 * ev))) + (zb * (gM ((7 * ev) + 1)))) + (gM ((7 * ev) + 4)))) 3 (((za * (gM ((7 * ev) + 2))) + (zb * (gM ((7 * ev) + 3)))) + (gM ((7 * ev) + 5)))) i)))))] := hD
  refine lv_aload_n hx hb dX7_predicts_327 rfl (lv_at hl 7 rfl) ?_
  refine va_get (D := D) (ci := 7) (v := .ref (a 12)) (C := RX7) (T := TX7) (N := 20) hx hb hts iX7 hown hK.1 hP 0 rfl rfl 14 (by decide) f48 (fun _ h9 => h9) rfl dX7_predicts_328 ?_
  refine n_iconst hx hb dX7_predicts_331 ?_
  refine lv_lload hx hb dX7_predicts_332 (lv_at hl 1 rfl) ?_
  refine lv_aload_n hx hb dX7_predicts_334 rfl (lv_at hl 7 rfl) ?_
  refine va_get (D := D) (ci := 7) (v := .ref (a 1)) (C := RX7) (T := TX7) (N := 20) hx hb hts iX7 hown hK.1 hP 0 rfl rfl 3 (by decide) f13 (fun _ h9 => h9) rfl dX7_predicts_335 ?_
  refine lv_iload_n hx hb dX7_predicts_338 rfl (lv_at hl 6 rfl) ?_
  refine n_iconst hx hb dX7_predicts_339 ?_
  refine n_iadd hx hb dX7_predicts_340 ?_
  refine n_iald (i := ((7 * ev) + 2)) hx hb hK hP 1 0 rfl htI (by omega) (by omega) (Nat.le_of_ble_eq_true rfl) dX7_predicts_341 ?_
  refine n_i2lZ hx hb dX7_predicts_342 ?_
  refine n_lmul hx hb dX7_predicts_343 ?_
  refine lv_lload hx hb dX7_predicts_344 (lv_at hl 0 rfl) ?_
  refine lv_aload_n hx hb dX7_predicts_346 rfl (lv_at hl 7 rfl) ?_
  refine va_get (D := D) (ci := 7) (v := .ref (a 1)) (C := RX7) (T := TX7) (N := 20) hx hb hts iX7 hown hK.1 hP 0 rfl rfl 3 (by decide) f13 (fun _ h9 => h9) rfl dX7_predicts_347 ?_
  refine lv_iload_n hx hb dX7_predicts_350 rfl (lv_at hl 6 rfl) ?_
  refine n_iconst hx hb dX7_predicts_351 ?_
  refine n_iadd hx hb dX7_predicts_352 ?_
  refine n_iald (i := ((7 * ev) + 3)) hx hb hK hP 1 0 rfl htI (by omega) (by omega) (Nat.le_of_ble_eq_true rfl) dX7_predicts_353 ?_
  refine n_i2lZ hx hb dX7_predicts_354 ?_
  refine n_lmul hx hb dX7_predicts_355 ?_
  refine n_ladd hx hb dX7_predicts_356 ?_
  refine lv_aload_n hx hb dX7_predicts_357 rfl (lv_at hl 7 rfl) ?_
  refine va_get (D := D) (ci := 7) (v := .ref (a 1)) (C := RX7) (T := TX7) (N := 20) hx hb hts iX7 hown hK.1 hP 0 rfl rfl 3 (by decide) f13 (fun _ h9 => h9) rfl dX7_predicts_358 ?_
  refine lv_iload_n hx hb dX7_predicts_361 rfl (lv_at hl 6 rfl) ?_
  refine n_bipush hx hb dX7_predicts_362 (by decide) ?_
  refine n_iadd hx hb dX7_predicts_364 ?_
  refine n_iald (i := ((7 * ev) + 6)) hx hb hK hP 1 0 rfl htI (by omega) (by omega) (Nat.le_of_ble_eq_true rfl) dX7_predicts_365 ?_
  refine n_i2lZ hx hb dX7_predicts_366 ?_
  refine n_ladd hx hb dX7_predicts_367 ?_
  have ct368 := c_X7_by l D tys (((zv zk * zv (gM ((7 * ev) + 2))) + (zv zd * zv (gM ((7 * ev) + 3)))) + zv (gM ((7 * ev) + 6))) _ _ (rp_a (rp_add (rp_add (rp_mul (rp_v zk) (rp_v (gM ((7 * ev) + 2)))) (rp_mul (rp_v zd) (rp_v (gM ((7 * ev) + 3))))) (rp_v (gM ((7 * ev) + 6))))) (Nat.le_of_ble_eq_true rfl)
  refine k_goL (va_runS (As := [.long (jL (((zv zk * zv (gM ((7 * ev) + 2))) + (zv zd * zv (gM ((7 * ev) + 3)))) + zv (gM ((7 * ev) + 6))))]) (rest := [.int (jI 4), .ref (a 12)]) ⟨hx, hb, hml, hown, hts⟩ (ct368.2 _) (va_cwS 1 hts gX7_predicts_X7_by rfl rfl rfl (by decide +kernel) ⟨Nat.le_of_ble_eq_true rfl, Nat.le_of_ble_eq_true rfl⟩) (k_pre hK hP hD (is := []) rfl rfl) rfl rfl hl.1 rfl (lv_room (Nat.le_of_ble_eq_true rfl)) dX7_predicts_368 ⟨Nat.le_of_ble_eq_true rfl, Nat.le_of_ble_eq_true rfl⟩) ct368.1 hP hD hS hA [] rfl rfl (fun H locs hP hD hS => ?_)
  have hP : va_P D vwCl [(m0, oR (jI ((ms : Nat) : Int)) (jI ((es : Nat) : Int)) th a), ((a 1), .inl (cI, 42, .inl (fun i => vI (gM i)))), ((a 12), .inl (cJ, 5, .inr (.inl (fun i => vL ((va_up (va_up (va_up (va_up gW 0 (((gM (7 * ev)) * (gW 0)) + ((gM ((7 * ev) + 1)) * (gW 1)))) 1 (((gM ((7 * ev) + 2)) * (gW 0)) + ((gM ((7 * ev) + 3)) * (gW 1)))) 2 (((za * (gM (7 * ev))) + (zb * (gM ((7 * ev) + 1)))) + (gM ((7 * ev) + 4)))) 3 (((za * (gM ((7 * ev) + 2))) + (zb * (gM ((7 * ev) + 3)))) + (gM ((7 * ev) + 5)))) i)))))] H := hP
  have hD : va_D A [(m0, oR (jI ((ms : Nat) : Int)) (jI ((es : Nat) : Int)) th a), ((a 1), .inl (cI, 42, .inl (fun i => vI (gM i)))), ((a 12), .inl (cJ, 5, .inr (.inl (fun i => vL ((va_up (va_up (va_up (va_up gW 0 (((gM (7 * ev)) * (gW 0)) + ((gM ((7 * ev) + 1)) * (gW 1)))) 1 (((gM ((7 * ev) + 2)) * (gW 0)) + ((gM ((7 * ev) + 3)) * (gW 1)))) 2 (((za * (gM (7 * ev))) + (zb * (gM ((7 * ev) + 1)))) + (gM ((7 * ev) + 4)))) 3 (((za * (gM ((7 * ev) + 2))) + (zb * (gM ((7 * ev) + 3)))) + (gM ((7 * ev) + 5)))) i)))))] := hD
  refine n_zlast (i := 4) (x := (((zk * (gM ((7 * ev) + 2))) + (zd * (gM ((7 * ev) + 3)))) + (gM ((7 * ev) + 6)))) hx hb hK hP hD hS 2 1 rfl htJ rfl (Nat.le_of_ble_eq_true rfl) (Nat.le_of_ble_eq_true rfl) dX7_predicts_371 (fun H locs hP hD hS => ?_)
  have hP : va_P D vwCl [(m0, oR (jI ((ms : Nat) : Int)) (jI ((es : Nat) : Int)) th a), ((a 1), .inl (cI, 42, .inl (fun i => vI (gM i)))), ((a 12), .inl (cJ, 5, .inr (.inl (fun i => vL ((va_up (va_up (va_up (va_up (va_up gW 0 (((gM (7 * ev)) * (gW 0)) + ((gM ((7 * ev) + 1)) * (gW 1)))) 1 (((gM ((7 * ev) + 2)) * (gW 0)) + ((gM ((7 * ev) + 3)) * (gW 1)))) 2 (((za * (gM (7 * ev))) + (zb * (gM ((7 * ev) + 1)))) + (gM ((7 * ev) + 4)))) 3 (((za * (gM ((7 * ev) + 2))) + (zb * (gM ((7 * ev) + 3)))) + (gM ((7 * ev) + 5)))) 4 (((zk * (gM ((7 * ev) + 2))) + (zd * (gM ((7 * ev) + 3)))) + (gM ((7 * ev) + 6)))) i)))))] H := hP
  have hD : va_D A [(m0, oR (jI ((ms : Nat) : Int)) (jI ((es : Nat) : Int)) th a), ((a 1), .inl (cI, 42, .inl (fun i => vI (gM i)))), ((a 12), .inl (cJ, 5, .inr (.inl (fun i => vL ((va_up (va_up (va_up (va_up (va_up gW 0 (((gM (7 * ev)) * (gW 0)) + ((gM ((7 * ev) + 1)) * (gW 1)))) 1 (((gM ((7 * ev) + 2)) * (gW 0)) + ((gM ((7 * ev) + 3)) * (gW 1)))) 2 (((za * (gM (7 * ev))) + (zb * (gM ((7 * ev) + 1)))) + (gM ((7 * ev) + 4)))) 3 (((za * (gM ((7 * ev) + 2))) + (zb * (gM ((7 * ev) + 3)))) + (gM ((7 * ev) + 5)))) 4 (((zk * (gM ((7 * ev) + 2))) + (zd * (gM ((7 * ev) + 3)))) + (gM ((7 * ev) + 6)))) i)))))] := hD
  exact k_vret hx hb hr hlocks dX7_predicts_372 hP hS

theorem c_X7_predicts (l : Launch) (D : va_G) (tys : List (ClassId × FieldType)) {cI cJ cZ : ClassId} (htI : tys[0]? = some (cI, .int)) (htJ : tys[1]? = some (cJ, .long)) (htZ : tys[2]? = some (cZ, .boolean)) (m0 : Nat) (a : Nat → Nat) (ms es : Nat) (th : Int32) (gM : Nat → Zp) (gW : Nat → Zp) (ev : Nat) (q1 : ev < 6) : CtV l D tys yX7_predicts wsX7_predicts 1 23 [.ref m0, .int (jI ((ev : Nat) : Int))] [(m0, oR (jI ((ms : Nat) : Int)) (jI ((es : Nat) : Int)) th a), ((a 1), .inl (cI, 42, .inl (fun i => vI (gM i)))), ((a 12), .inl (cJ, 5, .inr (.inl (fun i => vL (gW i)))))] [(m0, oR (jI ((ms : Nat) : Int)) (jI ((es : Nat) : Int)) th a), ((a 1), .inl (cI, 42, .inl (fun i => vI (gM i)))), ((a 12), .inl (cJ, 5, .inr (.inl (fun i => vL ((put5 gW (prd (fun i => gM (7 * ev + i)) (s5 gW))) i)))))] :=
  c_X7_predictsr l D tys htI htJ htZ m0 a ms es th gM gW ev q1 _ _ _ _ rfl rfl rfl rfl

set_option maxHeartbeats 4000000 in
set_option maxRecDepth 100000 in
/--  -/
theorem c_X7_takes0 (l : Launch) (D : va_G) (tys : List (ClassId × FieldType)) {cI cJ cZ : ClassId} (htI : tys[0]? = some (cI, .int)) (htJ : tys[1]? = some (cJ, .long)) (htZ : tys[2]? = some (cZ, .boolean)) (m0 : Nat) (a : Nat → Nat) (ms es : Nat) (th : Int32) (gK : Nat → Zp) (gW : Nat → Zp) (gF : Nat → Zp) (gX : Nat → Bool) (ev kv : Nat) (q1 : ev < 6) (q2 : kv < 30) (za zb zy zs zg : Zp) (eza : za = gW 2 * gK (6 * (30 * ev + kv) + 1) + gW 3 * gK (6 * (30 * ev + kv) + 2)) (ezb : zb = gW 3 * gK (6 * (30 * ev + kv) + 1) + gW 4 * gK (6 * (30 * ev + kv) + 2)) (ezy : zy = gK (6 * (30 * ev + kv) + 3) - gK (6 * (30 * ev + kv) + 1) * gW 0 - gK (6 * (30 * ev + kv) + 2) * gW 1) (ezs : zs = gK (6 * (30 * ev + kv) + 1) * za + gK (6 * (30 * ev + kv) + 2) * zb + gK (6 * (30 * ev + kv) + 4)) (ezg : zg = zy * zy * zinv zs) (h9 : zs = 0) : CtI l D tys yX7_takes wsX7_takes 1 23 [.ref m0, .int (jI ((ev : Nat) : Int)), .int (jI ((kv : Nat) : Int))] (jI (iB false)) [(m0, oR (jI ((ms : Nat) : Int)) (jI ((es : Nat) : Int)) th a), ((a 6), .inl (cI, 1080, .inl (fun i => vI (gK i)))), ((a 12), .inl (cJ, 5, .inr (.inl (fun i => vL (gW i))))), ((a 10), .inl (cJ, 90, .inr (.inl (fun i => vL (gF i))))), ((a 11), .inl (cZ, 30, .inl (fun i => jI (iB (gX i)))))] [(m0, oR (jI ((ms : Nat) : Int)) (jI ((es : Nat) : Int)) th a), ((a 6), .inl (cI, 1080, .inl (fun i => vI (gK i)))), ((a 12), .inl (cJ, 5, .inr (.inl (fun i => vL (gW i))))), ((a 10), .inl (cJ, 90, .inr (.inl (fun i => vL (gF i))))), ((a 11), .inl (cZ, 30, .inl (fun i => jI (iB (gX i)))))] := by
  refine CtI.of (cc := cX7_takes) (maxL := 18) (by decide +kernel) rfl rfl (Nat.le_of_ble_eq_true rfl) ?_
  intro p e s m below meth c A ls hcx hK hP hD hA hl
  obtain ⟨hx, hb, hr, hml, hown, hts, hlocks⟩ := hcx
  have hS : va_S A s.heap s.heap [] := va_S.rf
  have hown : s.vm.findClass RX7 = some m.cls := hown
  have hl : lv_has ls 18 [(0, .ref m0), (1, .int (jI ((ev : Nat) : Int))), (2, .int (jI ((kv : Nat) : Int)))] := hl
  have f28 := hts (.fieldLink RX7 28 "FieldFilterModel" "told" "[I") (by decide +kernel)
  have iX7 : ∀ w ∈ u_ws RX7 TX7 20, w ∈ wsX7_takes := by decide +kernel
  have f48 := hts (.fieldLink RX7 48 "FieldFilterModel" "now" "[J") (by decide +kernel)
  refine n_bipush hx hb dX7_takes_0 (by decide) ?_
  refine n_bipush hx hb dX7_takes_2 (by decide) ?_
  refine lv_iload_n hx hb dX7_takes_4 rfl (lv_at hl 1 rfl) ?_
  refine n_imul hx hb dX7_takes_5 ?_
  refine lv_iload_n hx hb dX7_takes_6 rfl (lv_at hl 2 rfl) ?_
  refine n_iadd hx hb dX7_takes_7 ?_
  refine n_imul hx hb dX7_takes_8 ?_
  refine lv_istore_n (lv' := [(3, .int (jI (6 * ((30 * ((ev : Nat) : Int)) + ((kv : Nat) : Int))))), (0, .ref m0), (1, .int (jI ((ev : Nat) : Int))), (2, .int (jI ((kv : Nat) : Int)))]) hx hb dX7_takes_9 rfl hl (by decide) rfl (fun ls hl => ?_)
  refine lv_aload_n hx hb dX7_takes_10 rfl (lv_at hl 1 rfl) ?_
  refine va_get (D := D) (ci := 7) (v := .ref (a 6)) (C := RX7) (T := TX7) (N := 20) hx hb hts iX7 hown hK.1 hP 0 rfl rfl 8 (by decide) f28 (fun _ h9 => h9) rfl dX7_takes_11 ?_
  refine lv_iload_n hx hb dX7_takes_14 rfl (lv_at hl 0 rfl) ?_
  refine n_iconst hx hb dX7_takes_15 ?_
  refine n_iadd hx hb dX7_takes_16 ?_
  refine n_iald (i := ((6 * ((30 * ev) + kv)) + 1)) hx hb hK hP 1 0 rfl htI (by omega) (by omega) (Nat.le_of_ble_eq_true rfl) dX7_takes_17 ?_
  refine n_i2lZ hx hb dX7_takes_18 ?_
  refine lv_lstore (lv' := [(4, .long (vL (gK ((6 * ((30 * ev) + kv)) + 1)))), (3, .int (jI (6 * ((30 * ((ev : Nat) : Int)) + ((kv : Nat) : Int))))), (0, .ref m0), (1, .int (jI ((ev : Nat) : Int))), (2, .int (jI ((kv : Nat) : Int)))]) hx hb dX7_takes_19 hl (by decide) rfl (fun ls hl => ?_)
  refine lv_aload_n hx hb dX7_takes_21 rfl (lv_at hl 2 rfl) ?_
  refine va_get (D := D) (ci := 7) (v := .ref (a 6)) (C := RX7) (T := TX7) (N := 20) hx hb hts iX7 hown hK.1 hP 0 rfl rfl 8 (by decide) f28 (fun _ h9 => h9) rfl dX7_takes_22 ?_
  refine lv_iload_n hx hb dX7_takes_25 rfl (lv_at hl 1 rfl) ?_
  refine n_iconst hx hb dX7_takes_26 ?_
  refine n_iadd hx hb dX7_takes_27 ?_
  refine n_iald (i := ((6 * ((30 * ev) + kv)) + 2)) hx hb hK hP 1 0 rfl htI (by omega) (by omega) (Nat.le_of_ble_eq_true rfl) dX7_takes_28 ?_
  refine n_i2lZ hx hb dX7_takes_29 ?_
  refine lv_lstore (lv' := [(6, .long (vL (gK ((6 * ((30 * ev) + kv)) + 2)))), (4, .long (vL (gK ((6 * ((30 * ev) + kv)) + 1)))), (3, .int (jI (6 * ((30 * ((ev : Nat) : Int)) + ((kv : Nat) : Int))))), (0, .ref m0), (1, .int (jI ((ev : Nat) : Int))), (2, .int (jI ((kv : Nat) : Int)))]) hx hb dX7_takes_30 hl (by decide) rfl (fun ls hl => ?_)
  refine lv_aload_n hx hb dX7_takes_32 rfl (lv_at hl 3 rfl) ?_
  refine va_get (D := D) (ci := 7) (v := .ref (a 12)) (C := RX7) (T := TX7) (N := 20) hx hb hts iX7 hown hK.1 hP 0 rfl rfl 14 (by decide) f48 (fun _ h9 => h9) rfl dX7_takes_33 ?_
  refine n_iconst hx hb dX7_takes_36 ?_
  refine n_lald (i := 2) hx hb hK hP 2 1 rfl htJ rfl (Nat.le_of_ble_eq_true rfl) (Nat.le_of_ble_eq_true rfl) dX7_takes_37 ?_
  refine lv_lload hx hb dX7_takes_38 (lv_at hl 1 rfl) ?_
  refine n_lmul hx hb dX7_takes_40 ?_
  refine lv_aload_n hx hb dX7_takes_41 rfl (lv_at hl 3 rfl) ?_
  refine va_get (D := D) (ci := 7) (v := .ref (a 12)) (C := RX7) (T := TX7) (N := 20) hx hb hts iX7 hown hK.1 hP 0 rfl rfl 14 (by decide) f48 (fun _ h9 => h9) rfl dX7_takes_42 ?_
  refine n_iconst hx hb dX7_takes_45 ?_
  refine n_lald (i := 3) hx hb hK hP 2 1 rfl htJ rfl (Nat.le_of_ble_eq_true rfl) (Nat.le_of_ble_eq_true rfl) dX7_takes_46 ?_
  refine lv_lload hx hb dX7_takes_47 (lv_at hl 0 rfl) ?_
  refine n_lmul hx hb dX7_takes_49 ?_
  refine n_ladd hx hb dX7_takes_50 ?_
  have ct51 := c_X7_by l D tys ((zv (gW 2) * zv (gK ((6 * ((30 * ev) + kv)) + 1))) + (zv (gW 3) * zv (gK ((6 * ((30 * ev) + kv)) + 2)))) _ _ (ra_to (rp_a (rp_add (rp_mul (rp_v (gW 2)) (rp_v (gK ((6 * ((30 * ev) + kv)) + 1)))) (rp_mul (rp_v (gW 3)) (rp_v (gK ((6 * ((30 * ev) + kv)) + 2)))))) eza.symm) (Nat.le_of_ble_eq_true rfl)
  refine k_goL (va_runS (As := [.long (jL ((zv (gW 2) * zv (gK ((6 * ((30 * ev) + kv)) + 1))) + (zv (gW 3) * zv (gK ((6 * ((30 * ev) + kv)) + 2)))))]) (rest := []) ⟨hx, hb, hml, hown, hts⟩ (ct51.2 _) (va_cwS 1 hts gX7_takes_X7_by rfl rfl rfl (by decide +kernel) ⟨Nat.le_of_ble_eq_true rfl, Nat.le_of_ble_eq_true rfl⟩) (k_pre hK hP hD (is := []) rfl rfl) rfl rfl hl.1 rfl (lv_room (Nat.le_of_ble_eq_true rfl)) dX7_takes_51 ⟨Nat.le_of_ble_eq_true rfl, Nat.le_of_ble_eq_true rfl⟩) ct51.1 hP hD hS hA [] rfl rfl (fun H locs hP hD hS => ?_)
  have hP : va_P D vwCl [(m0, oR (jI ((ms : Nat) : Int)) (jI ((es : Nat) : Int)) th a), ((a 6), .inl (cI, 1080, .inl (fun i => vI (gK i)))), ((a 12), .inl (cJ, 5, .inr (.inl (fun i => vL (gW i))))), ((a 10), .inl (cJ, 90, .inr (.inl (fun i => vL (gF i))))), ((a 11), .inl (cZ, 30, .inl (fun i => jI (iB (gX i)))))] H := hP
  have hD : va_D A [(m0, oR (jI ((ms : Nat) : Int)) (jI ((es : Nat) : Int)) th a), ((a 6), .inl (cI, 1080, .inl (fun i => vI (gK i)))), ((a 12), .inl (cJ, 5, .inr (.inl (fun i => vL (gW i))))), ((a 10), .inl (cJ, 90, .inr (.inl (fun i => vL (gF i))))), ((a 11), .inl (cZ, 30, .inl (fun i => jI (iB (gX i)))))] := hD
  refine lv_lstore (lv' := [(8, .long (vL za)), (6, .long (vL (gK ((6 * ((30 * ev) + kv)) + 2)))), (4, .long (vL (gK ((6 * ((30 * ev) + kv)) + 1)))), (3, .int (jI (6 * ((30 * ((ev : Nat) : Int)) + ((kv : Nat) : Int))))), (0, .ref m0), (1, .int (jI ((ev : Nat) : Int))), (2, .int (jI ((kv : Nat) : Int)))]) hx hb dX7_takes_54 hl (by decide) rfl (fun ls hl => ?_)
  refine lv_aload_n hx hb dX7_takes_56 rfl (lv_at hl 4 rfl) ?_
  refine va_get (D := D) (ci := 7) (v := .ref (a 12)) (C := RX7) (T := TX7) (N := 20) hx hb hts iX7 hown hK.1 hP 0 rfl rfl 14 (by decide) f48 (fun _ h9 => h9) rfl dX7_takes_57 ?_
  refine n_iconst hx hb dX7_takes_60 ?_
  refine n_lald (i := 3) hx hb hK hP 2 1 rfl htJ rfl (Nat.le_of_ble_eq_true rfl) (Nat.le_of_ble_eq_true rfl) dX7_takes_61 ?_
  refine lv_lload hx hb dX7_takes_62 (lv_at hl 2 rfl) ?_
  refine n_lmul hx hb dX7_takes_64 ?_
  refine lv_aload_n hx hb dX7_takes_65 rfl (lv_at hl 4 rfl) ?_
  refine va_get (D := D) (ci := 7) (v := .ref (a 12)) (C := RX7) (T := TX7) (N := 20) hx hb hts iX7 hown hK.1 hP 0 rfl rfl 14 (by decide) f48 (fun _ h9 => h9) rfl dX7_takes_66 ?_
  refine n_iconst hx hb dX7_takes_69 ?_
  refine n_lald (i := 4) hx hb hK hP 2 1 rfl htJ rfl (Nat.le_of_ble_eq_true rfl) (Nat.le_of_ble_eq_true rfl) dX7_takes_70 ?_
  refine lv_lload hx hb dX7_takes_71 (lv_at hl 1 rfl) ?_
  refine n_lmul hx hb dX7_takes_73 ?_
  refine n_ladd hx hb dX7_takes_74 ?_
  have ct75 := c_X7_by l D tys ((zv (gW 3) * zv (gK ((6 * ((30 * ev) + kv)) + 1))) + (zv (gW 4) * zv (gK ((6 * ((30 * ev) + kv)) + 2)))) _ _ (ra_to (rp_a (rp_add (rp_mul (rp_v (gW 3)) (rp_v (gK ((6 * ((30 * ev) + kv)) + 1)))) (rp_mul (rp_v (gW 4)) (rp_v (gK ((6 * ((30 * ev) + kv)) + 2)))))) ezb.symm) (Nat.le_of_ble_eq_true rfl)
  refine k_goL (va_runS (As := [.long (jL ((zv (gW 3) * zv (gK ((6 * ((30 * ev) + kv)) + 1))) + (zv (gW 4) * zv (gK ((6 * ((30 * ev) + kv)) + 2)))))]) (rest := []) ⟨hx, hb, hml, hown, hts⟩ (ct75.2 _) (va_cwS 1 hts gX7_takes_X7_by rfl rfl rfl (by decide +kernel) ⟨Nat.le_of_ble_eq_true rfl, Nat.le_of_ble_eq_true rfl⟩) (k_pre hK hP hD (is := []) rfl rfl) rfl rfl hl.1 rfl (lv_room (Nat.le_of_ble_eq_true rfl)) dX7_takes_75 ⟨Nat.le_of_ble_eq_true rfl, Nat.le_of_ble_eq_true rfl⟩) ct75.1 hP hD hS hA [] rfl rfl (fun H locs hP hD hS => ?_)
  have hP : va_P D vwCl [(m0, oR (jI ((ms : Nat) : Int)) (jI ((es : Nat) : Int)) th a), ((a 6), .inl (cI, 1080, .inl (fun i => vI (gK i)))), ((a 12), .inl (cJ, 5, .inr (.inl (fun i => vL (gW i))))), ((a 10), .inl (cJ, 90, .inr (.inl (fun i => vL (gF i))))), ((a 11), .inl (cZ, 30, .inl (fun i => jI (iB (gX i)))))] H := hP
  have hD : va_D A [(m0, oR (jI ((ms : Nat) : Int)) (jI ((es : Nat) : Int)) th a), ((a 6), .inl (cI, 1080, .inl (fun i => vI (gK i)))), ((a 12), .inl (cJ, 5, .inr (.inl (fun i => vL (gW i))))), ((a 10), .inl (cJ, 90, .inr (.inl (fun i => vL (gF i))))), ((a 11), .inl (cZ, 30, .inl (fun i => jI (iB (gX i)))))] := hD
  refine lv_lstore (lv' := [(10, .long (vL zb)), (8, .long (vL za)), (6, .long (vL (gK ((6 * ((30 * ev) + kv)) + 2)))), (4, .long (vL (gK ((6 * ((30 * ev) + kv)) + 1)))), (3, .int (jI (6 * ((30 * ((ev : Nat) : Int)) + ((kv : Nat) : Int))))), (0, .ref m0), (1, .int (jI ((ev : Nat) : Int))), (2, .int (jI ((kv : Nat) : Int)))]) hx hb dX7_takes_78 hl (by decide) rfl (fun ls hl => ?_)
  refine lv_aload_n hx hb dX7_takes_80 rfl (lv_at hl 5 rfl) ?_
  refine va_get (D := D) (ci := 7) (v := .ref (a 6)) (C := RX7) (T := TX7) (N := 20) hx hb hts iX7 hown hK.1 hP 0 rfl rfl 8 (by decide) f28 (fun _ h9 => h9) rfl dX7_takes_81 ?_
  refine lv_iload_n hx hb dX7_takes_84 rfl (lv_at hl 4 rfl) ?_
  refine n_iconst hx hb dX7_takes_85 ?_
  refine n_iadd hx hb dX7_takes_86 ?_
  refine n_iald (i := ((6 * ((30 * ev) + kv)) + 3)) hx hb hK hP 1 0 rfl htI (by omega) (by omega) (Nat.le_of_ble_eq_true rfl) dX7_takes_87 ?_
  refine n_i2lZ hx hb dX7_takes_88 ?_
  refine lv_lload hx hb dX7_takes_89 (lv_at hl 3 rfl) ?_
  refine lv_aload_n hx hb dX7_takes_91 rfl (lv_at hl 5 rfl) ?_
  refine va_get (D := D) (ci := 7) (v := .ref (a 12)) (C := RX7) (T := TX7) (N := 20) hx hb hts iX7 hown hK.1 hP 0 rfl rfl 14 (by decide) f48 (fun _ h9 => h9) rfl dX7_takes_92 ?_
  refine n_iconst hx hb dX7_takes_95 ?_
  refine n_lald (i := 0) hx hb hK hP 2 1 rfl htJ rfl (Nat.le_of_ble_eq_true rfl) (Nat.le_of_ble_eq_true rfl) dX7_takes_96 ?_
  refine n_lmul hx hb dX7_takes_97 ?_
  refine n_lsub hx hb dX7_takes_98 ?_
  refine lv_lload hx hb dX7_takes_99 (lv_at hl 2 rfl) ?_
  refine lv_aload_n hx hb dX7_takes_101 rfl (lv_at hl 5 rfl) ?_
  refine va_get (D := D) (ci := 7) (v := .ref (a 12)) (C := RX7) (T := TX7) (N := 20) hx hb hts iX7 hown hK.1 hP 0 rfl rfl 14 (by decide) f48 (fun _ h9 => h9) rfl dX7_takes_102 ?_
  refine n_iconst hx hb dX7_takes_105 ?_
  refine n_lald (i := 1) hx hb hK hP 2 1 rfl htJ rfl (Nat.le_of_ble_eq_true rfl) (Nat.le_of_ble_eq_true rfl) dX7_takes_106 ?_
  refine n_lmul hx hb dX7_takes_107 ?_
  refine n_lsub hx hb dX7_takes_108 ?_
  have ct109 := c_X7_by l D tys ((zv (gK ((6 * ((30 * ev) + kv)) + 3)) - (zv (gK ((6 * ((30 * ev) + kv)) + 1)) * zv (gW 0))) - (zv (gK ((6 * ((30 * ev) + kv)) + 2)) * zv (gW 1))) _ _ (ra_to (ra_sub (ra_sub (rp_a (rp_v (gK ((6 * ((30 * ev) + kv)) + 3)))) (rp_a (rp_mul (rp_v (gK ((6 * ((30 * ev) + kv)) + 1))) (rp_v (gW 0))))) (rp_a (rp_mul (rp_v (gK ((6 * ((30 * ev) + kv)) + 2))) (rp_v (gW 1))))) ezy.symm) (Nat.le_of_ble_eq_true rfl)
  refine k_goL (va_runS (As := [.long (jL ((zv (gK ((6 * ((30 * ev) + kv)) + 3)) - (zv (gK ((6 * ((30 * ev) + kv)) + 1)) * zv (gW 0))) - (zv (gK ((6 * ((30 * ev) + kv)) + 2)) * zv (gW 1))))]) (rest := []) ⟨hx, hb, hml, hown, hts⟩ (ct109.2 _) (va_cwS 1 hts gX7_takes_X7_by rfl rfl rfl (by decide +kernel) ⟨Nat.le_of_ble_eq_true rfl, Nat.le_of_ble_eq_true rfl⟩) (k_pre hK hP hD (is := []) rfl rfl) rfl rfl hl.1 rfl (lv_room (Nat.le_of_ble_eq_true rfl)) dX7_takes_109 ⟨Nat.le_of_ble_eq_true rfl, Nat.le_of_ble_eq_true rfl⟩) ct109.1 hP hD hS hA [] rfl rfl (fun H locs hP hD hS => ?_)
  have hP : va_P D vwCl [(m0, oR (jI ((ms : Nat) : Int)) (jI ((es : Nat) : Int)) th a), ((a 6), .inl (cI, 1080, .inl (fun i => vI (gK i)))), ((a 12), .inl (cJ, 5, .inr (.inl (fun i => vL (gW i))))), ((a 10), .inl (cJ, 90, .inr (.inl (fun i => vL (gF i))))), ((a 11), .inl (cZ, 30, .inl (fun i => jI (iB (gX i)))))] H := hP
  have hD : va_D A [(m0, oR (jI ((ms : Nat) : Int)) (jI ((es : Nat) : Int)) th a), ((a 6), .inl (cI, 1080, .inl (fun i => vI (gK i)))), ((a 12), .inl (cJ, 5, .inr (.inl (fun i => vL (gW i))))), ((a 10), .inl (cJ, 90, .inr (.inl (fun i => vL (gF i))))), ((a 11), .inl (cZ, 30, .inl (fun i => jI (iB (gX i)))))] := hD
  refine lv_lstore (lv' := [(12, .long (vL zy)), (10, .long (vL zb)), (8, .long (vL za)), (6, .long (vL (gK ((6 * ((30 * ev) + kv)) + 2)))), (4, .long (vL (gK ((6 * ((30 * ev) + kv)) + 1)))), (3, .int (jI (6 * ((30 * ((ev : Nat) : Int)) + ((kv : Nat) : Int))))), (0, .ref m0), (1, .int (jI ((ev : Nat) : Int))), (2, .int (jI ((kv : Nat) : Int)))]) hx hb dX7_takes_112 hl (by decide) rfl (fun ls hl => ?_)
  refine lv_lload hx hb dX7_takes_114 (lv_at hl 4 rfl) ?_
  refine lv_lload hx hb dX7_takes_116 (lv_at hl 2 rfl) ?_
  refine n_lmul hx hb dX7_takes_118 ?_
  refine lv_lload hx hb dX7_takes_119 (lv_at hl 3 rfl) ?_
  refine lv_lload hx hb dX7_takes_121 (lv_at hl 1 rfl) ?_
  refine n_lmul hx hb dX7_takes_123 ?_
  refine n_ladd hx hb dX7_takes_124 ?_
  refine lv_aload_n hx hb dX7_takes_125 rfl (lv_at hl 6 rfl) ?_
  refine va_get (D := D) (ci := 7) (v := .ref (a 6)) (C := RX7) (T := TX7) (N := 20) hx hb hts iX7 hown hK.1 hP 0 rfl rfl 8 (by decide) f28 (fun _ h9 => h9) rfl dX7_takes_126 ?_
  refine lv_iload_n hx hb dX7_takes_129 rfl (lv_at hl 5 rfl) ?_
  refine n_iconst hx hb dX7_takes_130 ?_
  refine n_iadd hx hb dX7_takes_131 ?_
  refine n_iald (i := ((6 * ((30 * ev) + kv)) + 4)) hx hb hK hP 1 0 rfl htI (by omega) (by omega) (Nat.le_of_ble_eq_true rfl) dX7_takes_132 ?_
  refine n_i2lZ hx hb dX7_takes_133 ?_
  refine n_ladd hx hb dX7_takes_134 ?_
  have ct135 := c_X7_by l D tys (((zv (gK ((6 * ((30 * ev) + kv)) + 1)) * zv za) + (zv (gK ((6 * ((30 * ev) + kv)) + 2)) * zv zb)) + zv (gK ((6 * ((30 * ev) + kv)) + 4))) _ _ (ra_to (rp_a (rp_add (rp_add (rp_mul (rp_v (gK ((6 * ((30 * ev) + kv)) + 1))) (rp_v za)) (rp_mul (rp_v (gK ((6 * ((30 * ev) + kv)) + 2))) (rp_v zb))) (rp_v (gK ((6 * ((30 * ev) + kv)) + 4))))) ezs.symm) (Nat.le_of_ble_eq_true rfl)
  refine k_goL (va_runS (As := [.long (jL (((zv (gK ((6 * ((30 * ev) + kv)) + 1)) * zv za) + (zv (gK ((6 * ((30 * ev) + kv)) + 2)) * zv zb)) + zv (gK ((6 * ((30 * ev) + kv)) + 4))))]) (rest := []) ⟨hx, hb, hml, hown, hts⟩ (ct135.2 _) (va_cwS 1 hts gX7_takes_X7_by rfl rfl rfl (by decide +kernel) ⟨Nat.le_of_ble_eq_true rfl, Nat.le_of_ble_eq_true rfl⟩) (k_pre hK hP hD (is := []) rfl rfl) rfl rfl hl.1 rfl (lv_room (Nat.le_of_ble_eq_true rfl)) dX7_takes_135 ⟨Nat.le_of_ble_eq_true rfl, Nat.le_of_ble_eq_true rfl⟩) ct135.1 hP hD hS hA [] rfl rfl (fun H locs hP hD hS => ?_)
  have hP : va_P D vwCl [(m0, oR (jI ((ms : Nat) : Int)) (jI ((es : Nat) : Int)) th a), ((a 6), .inl (cI, 1080, .inl (fun i => vI (gK i)))), ((a 12), .inl (cJ, 5, .inr (.inl (fun i => vL (gW i))))), ((a 10), .inl (cJ, 90, .inr (.inl (fun i => vL (gF i))))), ((a 11), .inl (cZ, 30, .inl (fun i => jI (iB (gX i)))))] H := hP
  have hD : va_D A [(m0, oR (jI ((ms : Nat) : Int)) (jI ((es : Nat) : Int)) th a), ((a 6), .inl (cI, 1080, .inl (fun i => vI (gK i)))), ((a 12), .inl (cJ, 5, .inr (.inl (fun i => vL (gW i))))), ((a 10), .inl (cJ, 90, .inr (.inl (fun i => vL (gF i))))), ((a 11), .inl (cZ, 30, .inl (fun i => jI (iB (gX i)))))] := hD
  refine lv_lstore (lv' := [(14, .long (vL zs)), (12, .long (vL zy)), (10, .long (vL zb)), (8, .long (vL za)), (6, .long (vL (gK ((6 * ((30 * ev) + kv)) + 2)))), (4, .long (vL (gK ((6 * ((30 * ev) + kv)) + 1)))), (3, .int (jI (6 * ((30 * ((ev : Nat) : Int)) + ((kv : Nat) : Int))))), (0, .ref m0), (1, .int (jI ((ev : Nat) : Int))), (2, .int (jI ((kv : Nat) : Int)))]) hx hb dX7_takes_138 hl (by decide) rfl (fun ls hl => ?_)
  refine lv_lload hx hb dX7_takes_140 (lv_at hl 0 rfl) ?_
  refine lv_lconst (v := jL 0) hx hb dX7_takes_142 rfl ?_
  refine W.lcmp hx hb dX7_takes_143 ?_
  refine n_lif_ne (tgt := 149) hx hb (r64_z _) (by unfold r64; omega) dX7_takes_144 (by decide) (fun h144 => False.elim (h144 (zv_eq0.mpr h9))) (fun h144 => ?_)
  refine n_iconst hx hb dX7_takes_147 ?_
  exact k_zret (b := false) hx hb hr hlocks dX7_takes_148 hP hS rfl rfl

set_option maxHeartbeats 4000000 in
set_option maxRecDepth 100000 in
/--  -/
theorem c_X7_takesg (l : Launch) (D : va_G) (tys : List (ClassId × FieldType)) {cI cJ cZ : ClassId} (htI : tys[0]? = some (cI, .int)) (htJ : tys[1]? = some (cJ, .long)) (htZ : tys[2]? = some (cZ, .boolean)) (m0 : Nat) (a : Nat → Nat) (ms es : Nat) (th : Int32) (gK : Nat → Zp) (gW : Nat → Zp) (gF : Nat → Zp) (gX : Nat → Bool) (ev kv : Nat) (q1 : ev < 6) (q2 : kv < 30) (za zb zy zs zg : Zp) (eza : za = gW 2 * gK (6 * (30 * ev + kv) + 1) + gW 3 * gK (6 * (30 * ev + kv) + 2)) (ezb : zb = gW 3 * gK (6 * (30 * ev + kv) + 1) + gW 4 * gK (6 * (30 * ev + kv) + 2)) (ezy : zy = gK (6 * (30 * ev + kv) + 3) - gK (6 * (30 * ev + kv) + 1) * gW 0 - gK (6 * (30 * ev + kv) + 2) * gW 1) (ezs : zs = gK (6 * (30 * ev + kv) + 1) * za + gK (6 * (30 * ev + kv) + 2) * zb + gK (6 * (30 * ev + kv) + 4)) (ezg : zg = zy * zy * zinv zs) (h9 : ¬ zs = 0) (h8 : zv (gK (6 * (30 * ev + kv) + 5)) < zv zg) : CtI l D tys yX7_takes wsX7_takes 2 49 [.ref m0, .int (jI ((ev : Nat) : Int)), .int (jI ((kv : Nat) : Int))] (jI (iB true)) [(m0, oR (jI ((ms : Nat) : Int)) (jI ((es : Nat) : Int)) th a), ((a 6), .inl (cI, 1080, .inl (fun i => vI (gK i)))), ((a 12), .inl (cJ, 5, .inr (.inl (fun i => vL (gW i))))), ((a 10), .inl (cJ, 90, .inr (.inl (fun i => vL (gF i))))), ((a 11), .inl (cZ, 30, .inl (fun i => jI (iB (gX i)))))] [(m0, oR (jI ((ms : Nat) : Int)) (jI ((es : Nat) : Int)) th a), ((a 6), .inl (cI, 1080, .inl (fun i => vI (gK i)))), ((a 12), .inl (cJ, 5, .inr (.inl (fun i => vL (gW i))))), ((a 10), .inl (cJ, 90, .inr (.inl (fun i => vL ((va_up (va_up (va_up gF (3 * kv) zy) (3 * kv + 1) zs) (3 * kv + 2) zg) i))))), ((a 11), .inl (cZ, 30, .inl (fun i => jI (iB ((va_up gX kv true) i)))))] := by
  refine CtI.of (cc := cX7_takes) (maxL := 18) (by decide +kernel) rfl rfl (Nat.le_of_ble_eq_true rfl) ?_
  intro p e s m below meth c A ls hcx hK hP hD hA hl
  obtain ⟨hx, hb, hr, hml, hown, hts, hlocks⟩ := hcx
  have hS : va_S A s.heap s.heap [] := va_S.rf
  have hown : s.vm.findClass RX7 = some m.cls := hown
  have hl : lv_has ls 18 [(0, .ref m0), (1, .int (jI ((ev : Nat) : Int))), (2, .int (jI ((kv : Nat) : Int)))] := hl
  have eG : (va_up (va_up (va_up gF (3 * kv) zy) (3 * kv + 1) zs) (3 * kv + 2) zg) (3 * kv + 2) = zg := by simp [va_up]
  have f28 := hts (.fieldLink RX7 28 "FieldFilterModel" "told" "[I") (by decide +kernel)
  have iX7 : ∀ w ∈ u_ws RX7 TX7 20, w ∈ wsX7_takes := by decide +kernel
  have f48 := hts (.fieldLink RX7 48 "FieldFilterModel" "now" "[J") (by decide +kernel)
  have f42 := hts (.fieldLink RX7 42 "FieldFilterModel" "found" "[J") (by decide +kernel)
  have k77 : (Cond.constantLong RX7 77 (jL 10007)).before _ s = true := hts (.constantLong RX7 77 (10007)) (by decide +kernel)
  have f45 := hts (.fieldLink RX7 45 "FieldFilterModel" "isGated" "[Z") (by decide +kernel)
  refine n_bipush hx hb dX7_takes_0 (by decide) ?_
  refine n_bipush hx hb dX7_takes_2 (by decide) ?_
  refine lv_iload_n hx hb dX7_takes_4 rfl (lv_at hl 1 rfl) ?_
  refine n_imul hx hb dX7_takes_5 ?_
  refine lv_iload_n hx hb dX7_takes_6 rfl (lv_at hl 2 rfl) ?_
  refine n_iadd hx hb dX7_takes_7 ?_
  refine n_imul hx hb dX7_takes_8 ?_
  refine lv_istore_n (lv' := [(3, .int (jI (6 * ((30 * ((ev : Nat) : Int)) + ((kv : Nat) : Int))))), (0, .ref m0), (1, .int (jI ((ev : Nat) : Int))), (2, .int (jI ((kv : Nat) : Int)))]) hx hb dX7_takes_9 rfl hl (by decide) rfl (fun ls hl => ?_)
  refine lv_aload_n hx hb dX7_takes_10 rfl (lv_at hl 1 rfl) ?_
  refine va_get (D := D) (ci := 7) (v := .ref (a 6)) (C := RX7) (T := TX7) (N := 20) hx hb hts iX7 hown hK.1 hP 0 rfl rfl 8 (by decide) f28 (fun _ h9 => h9) rfl dX7_takes_11 ?_
  refine lv_iload_n hx hb dX7_takes_14 rfl (lv_at hl 0 rfl) ?_
  refine n_iconst hx hb dX7_takes_15 ?_
  refine n_iadd hx hb dX7_takes_16 ?_
  refine n_iald (i := ((6 * ((30 * ev) + kv)) + 1)) hx hb hK hP 1 0 rfl htI (by omega) (by omega) (Nat.le_of_ble_eq_true rfl) dX7_takes_17 ?_
  refine n_i2lZ hx hb dX7_takes_18 ?_
  refine lv_lstore (lv' := [(4, .long (vL (gK ((6 * ((30 * ev) + kv)) + 1)))), (3, .int (jI (6 * ((30 * ((ev : Nat) : Int)) + ((kv : Nat) : Int))))), (0, .ref m0), (1, .int (jI ((ev : Nat) : Int))), (2, .int (jI ((kv : Nat) : Int)))]) hx hb dX7_takes_19 hl (by decide) rfl (fun ls hl => ?_)
  refine lv_aload_n hx hb dX7_takes_21 rfl (lv_at hl 2 rfl) ?_
  refine va_get (D := D) (ci := 7) (v := .ref (a 6)) (C := RX7) (T := TX7) (N := 20) hx hb hts iX7 hown hK.1 hP 0 rfl rfl 8 (by decide) f28 (fun _ h9 => h9) rfl dX7_takes_22 ?_
  refine lv_iload_n hx hb dX7_takes_25 rfl (lv_at hl 1 rfl) ?_
  refine n_iconst hx hb dX7_takes_26 ?_
  refine n_iadd hx hb dX7_takes_27 ?_
  refine n_iald (i := ((6 * ((30 * ev) + kv)) + 2)) hx hb hK hP 1 0 rfl htI (by omega) (by omega) (Nat.le_of_ble_eq_true rfl) dX7_takes_28 ?_
  refine n_i2lZ hx hb dX7_takes_29 ?_
  refine lv_lstore (lv' := [(6, .long (vL (gK ((6 * ((30 * ev) + kv)) + 2)))), (4, .long (vL (gK ((6 * ((30 * ev) + kv)) + 1)))), (3, .int (jI (6 * ((30 * ((ev : Nat) : Int)) + ((kv : Nat) : Int))))), (0, .ref m0), (1, .int (jI ((ev : Nat) : Int))), (2, .int (jI ((kv : Nat) : Int)))]) hx hb dX7_takes_30 hl (by decide) rfl (fun ls hl => ?_)
  refine lv_aload_n hx hb dX7_takes_32 rfl (lv_at hl 3 rfl) ?_
  refine va_get (D := D) (ci := 7) (v := .ref (a 12)) (C := RX7) (T := TX7) (N := 20) hx hb hts iX7 hown hK.1 hP 0 rfl rfl 14 (by decide) f48 (fun _ h9 => h9) rfl dX7_takes_33 ?_
  refine n_iconst hx hb dX7_takes_36 ?_
  refine n_lald (i := 2) hx hb hK hP 2 1 rfl htJ rfl (Nat.le_of_ble_eq_true rfl) (Nat.le_of_ble_eq_true rfl) dX7_takes_37 ?_
  refine lv_lload hx hb dX7_takes_38 (lv_at hl 1 rfl) ?_
  refine n_lmul hx hb dX7_takes_40 ?_
  refine lv_aload_n hx hb dX7_takes_41 rfl (lv_at hl 3 rfl) ?_
  refine va_get (D := D) (ci := 7) (v := .ref (a 12)) (C := RX7) (T := TX7) (N := 20) hx hb hts iX7 hown hK.1 hP 0 rfl rfl 14 (by decide) f48 (fun _ h9 => h9) rfl dX7_takes_42 ?_
  refine n_iconst hx hb dX7_takes_45 ?_
  refine n_lald (i := 3) hx hb hK hP 2 1 rfl htJ rfl (Nat.le_of_ble_eq_true rfl) (Nat.le_of_ble_eq_true rfl) dX7_takes_46 ?_
  refine lv_lload hx hb dX7_takes_47 (lv_at hl 0 rfl) ?_
  refine n_lmul hx hb dX7_takes_49 ?_
  refine n_ladd hx hb dX7_takes_50 ?_
  have ct51 := c_X7_by l D tys ((zv (gW 2) * zv (gK ((6 * ((30 * ev) + kv)) + 1))) + (zv (gW 3) * zv (gK ((6 * ((30 * ev) + kv)) + 2)))) _ _ (ra_to (rp_a (rp_add (rp_mul (rp_v (gW 2)) (rp_v (gK ((6 * ((30 * ev) + kv)) + 1)))) (rp_mul (rp_v (gW 3)) (rp_v (gK ((6 * ((30 * ev) + kv)) + 2)))))) eza.symm) (Nat.le_of_ble_eq_true rfl)
  refine k_goL (va_runS (As := [.long (jL ((zv (gW 2) * zv (gK ((6 * ((30 * ev) + kv)) + 1))) + (zv (gW 3) * zv (gK ((6 * ((30 * ev) + kv)) + 2)))))]) (rest := []) ⟨hx, hb, hml, hown, hts⟩ (ct51.2 _) (va_cwS 1 hts gX7_takes_X7_by rfl rfl rfl (by decide +kernel) ⟨Nat.le_of_ble_eq_true rfl, Nat.le_of_ble_eq_true rfl⟩) (k_pre hK hP hD (is := []) rfl rfl) rfl rfl hl.1 rfl (lv_room (Nat.le_of_ble_eq_true rfl)) dX7_takes_51 ⟨Nat.le_of_ble_eq_true rfl, Nat.le_of_ble_eq_true rfl⟩) ct51.1 hP hD hS hA [] rfl rfl (fun H locs hP hD hS => ?_)
  have hP : va_P D vwCl [(m0, oR (jI ((ms : Nat) : Int)) (jI ((es : Nat) : Int)) th a), ((a 6), .inl (cI, 1080, .inl (fun i => vI (gK i)))), ((a 12), .inl (cJ, 5, .inr (.inl (fun i => vL (gW i))))), ((a 10), .inl (cJ, 90, .inr (.inl (fun i => vL (gF i))))), ((a 11), .inl (cZ, 30, .inl (fun i => jI (iB (gX i)))))] H := hP
  have hD : va_D A [(m0, oR (jI ((ms : Nat) : Int)) (jI ((es : Nat) : Int)) th a), ((a 6), .inl (cI, 1080, .inl (fun i => vI (gK i)))), ((a 12), .inl (cJ, 5, .inr (.inl (fun i => vL (gW i))))), ((a 10), .inl (cJ, 90, .inr (.inl (fun i => vL (gF i))))), ((a 11), .inl (cZ, 30, .inl (fun i => jI (iB (gX i)))))] := hD
  refine lv_lstore (lv' := [(8, .long (vL za)), (6, .long (vL (gK ((6 * ((30 * ev) + kv)) + 2)))), (4, .long (vL (gK ((6 * ((30 * ev) + kv)) + 1)))), (3, .int (jI (6 * ((30 * ((ev : Nat) : Int)) + ((kv : Nat) : Int))))), (0, .ref m0), (1, .int (jI ((ev : Nat) : Int))), (2, .int (jI ((kv : Nat) : Int)))]) hx hb dX7_takes_54 hl (by decide) rfl (fun ls hl => ?_)
  refine lv_aload_n hx hb dX7_takes_56 rfl (lv_at hl 4 rfl) ?_
  refine va_get (D := D) (ci := 7) (v := .ref (a 12)) (C := RX7) (T := TX7) (N := 20) hx hb hts iX7 hown hK.1 hP 0 rfl rfl 14 (by decide) f48 (fun _ h9 => h9) rfl dX7_takes_57 ?_
  refine n_iconst hx hb dX7_takes_60 ?_
  refine n_lald (i := 3) hx hb hK hP 2 1 rfl htJ rfl (Nat.le_of_ble_eq_true rfl) (Nat.le_of_ble_eq_true rfl) dX7_takes_61 ?_
  refine lv_lload hx hb dX7_takes_62 (lv_at hl 2 rfl) ?_
  refine n_lmul hx hb dX7_takes_64 ?_
  refine lv_aload_n hx hb dX7_takes_65 rfl (lv_at hl 4 rfl) ?_
  refine va_get (D := D) (ci := 7) (v := .ref (a 12)) (C := RX7) (T := TX7) (N := 20) hx hb hts iX7 hown hK.1 hP 0 rfl rfl 14 (by decide) f48 (fun _ h9 => h9) rfl dX7_takes_66 ?_
  refine n_iconst hx hb dX7_takes_69 ?_
  refine n_lald (i := 4) hx hb hK hP 2 1 rfl htJ rfl (Nat.le_of_ble_eq_true rfl) (Nat.le_of_ble_eq_true rfl) dX7_takes_70 ?_
  refine lv_lload hx hb dX7_takes_71 (lv_at hl 1 rfl) ?_
  refine n_lmul hx hb dX7_takes_73 ?_
  refine n_ladd hx hb dX7_takes_74 ?_
  have ct75 := c_X7_by l D tys ((zv (gW 3) * zv (gK ((6 * ((30 * ev) + kv)) + 1))) + (zv (gW 4) * zv (gK ((6 * ((30 * ev) + kv)) + 2)))) _ _ (ra_to (rp_a (rp_add (rp_mul (rp_v (gW 3)) (rp_v (gK ((6 * ((30 * ev) + kv)) + 1)))) (rp_mul (rp_v (gW 4)) (rp_v (gK ((6 * ((30 * ev) + kv)) + 2)))))) ezb.symm) (Nat.le_of_ble_eq_true rfl)
  refine k_goL (va_runS (As := [.long (jL ((zv (gW 3) * zv (gK ((6 * ((30 * ev) + kv)) + 1))) + (zv (gW 4) * zv (gK ((6 * ((30 * ev) + kv)) + 2)))))]) (rest := []) ⟨hx, hb, hml, hown, hts⟩ (ct75.2 _) (va_cwS 1 hts gX7_takes_X7_by rfl rfl rfl (by decide +kernel) ⟨Nat.le_of_ble_eq_true rfl, Nat.le_of_ble_eq_true rfl⟩) (k_pre hK hP hD (is := []) rfl rfl) rfl rfl hl.1 rfl (lv_room (Nat.le_of_ble_eq_true rfl)) dX7_takes_75 ⟨Nat.le_of_ble_eq_true rfl, Nat.le_of_ble_eq_true rfl⟩) ct75.1 hP hD hS hA [] rfl rfl (fun H locs hP hD hS => ?_)
  have hP : va_P D vwCl [(m0, oR (jI ((ms : Nat) : Int)) (jI ((es : Nat) : Int)) th a), ((a 6), .inl (cI, 1080, .inl (fun i => vI (gK i)))), ((a 12), .inl (cJ, 5, .inr (.inl (fun i => vL (gW i))))), ((a 10), .inl (cJ, 90, .inr (.inl (fun i => vL (gF i))))), ((a 11), .inl (cZ, 30, .inl (fun i => jI (iB (gX i)))))] H := hP
  have hD : va_D A [(m0, oR (jI ((ms : Nat) : Int)) (jI ((es : Nat) : Int)) th a), ((a 6), .inl (cI, 1080, .inl (fun i => vI (gK i)))), ((a 12), .inl (cJ, 5, .inr (.inl (fun i => vL (gW i))))), ((a 10), .inl (cJ, 90, .inr (.inl (fun i => vL (gF i))))), ((a 11), .inl (cZ, 30, .inl (fun i => jI (iB (gX i)))))] := hD
  refine lv_lstore (lv' := [(10, .long (vL zb)), (8, .long (vL za)), (6, .long (vL (gK ((6 * ((30 * ev) + kv)) + 2)))), (4, .long (vL (gK ((6 * ((30 * ev) + kv)) + 1)))), (3, .int (jI (6 * ((30 * ((ev : Nat) : Int)) + ((kv : Nat) : Int))))), (0, .ref m0), (1, .int (jI ((ev : Nat) : Int))), (2, .int (jI ((kv : Nat) : Int)))]) hx hb dX7_takes_78 hl (by decide) rfl (fun ls hl => ?_)
  refine lv_aload_n hx hb dX7_takes_80 rfl (lv_at hl 5 rfl) ?_
  refine va_get (D := D) (ci := 7) (v := .ref (a 6)) (C := RX7) (T := TX7) (N := 20) hx hb hts iX7 hown hK.1 hP 0 rfl rfl 8 (by decide) f28 (fun _ h9 => h9) rfl dX7_takes_81 ?_
  refine lv_iload_n hx hb dX7_takes_84 rfl (lv_at hl 4 rfl) ?_
  refine n_iconst hx hb dX7_takes_85 ?_
  refine n_iadd hx hb dX7_takes_86 ?_
  refine n_iald (i := ((6 * ((30 * ev) + kv)) + 3)) hx hb hK hP 1 0 rfl htI (by omega) (by omega) (Nat.le_of_ble_eq_true rfl) dX7_takes_87 ?_
  refine n_i2lZ hx hb dX7_takes_88 ?_
  refine lv_lload hx hb dX7_takes_89 (lv_at hl 3 rfl) ?_
  refine lv_aload_n hx hb dX7_takes_91 rfl (lv_at hl 5 rfl) ?_
  refine va_get (D := D) (ci := 7) (v := .ref (a 12)) (C := RX7) (T := TX7) (N := 20) hx hb hts iX7 hown hK.1 hP 0 rfl rfl 14 (by decide) f48 (fun _ h9 => h9) rfl dX7_takes_92 ?_
  refine n_iconst hx hb dX7_takes_95 ?_
  refine n_lald (i := 0) hx hb hK hP 2 1 rfl htJ rfl (Nat.le_of_ble_eq_true rfl) (Nat.le_of_ble_eq_true rfl) dX7_takes_96 ?_
  refine n_lmul hx hb dX7_takes_97 ?_
  refine n_lsub hx hb dX7_takes_98 ?_
  refine lv_lload hx hb dX7_takes_99 (lv_at hl 2 rfl) ?_
  refine lv_aload_n hx hb dX7_takes_101 rfl (lv_at hl 5 rfl) ?_
  refine va_get (D := D) (ci := 7) (v := .ref (a 12)) (C := RX7) (T := TX7) (N := 20) hx hb hts iX7 hown hK.1 hP 0 rfl rfl 14 (by decide) f48 (fun _ h9 => h9) rfl dX7_takes_102 ?_
  refine n_iconst hx hb dX7_takes_105 ?_
  refine n_lald (i := 1) hx hb hK hP 2 1 rfl htJ rfl (Nat.le_of_ble_eq_true rfl) (Nat.le_of_ble_eq_true rfl) dX7_takes_106 ?_
  refine n_lmul hx hb dX7_takes_107 ?_
  refine n_lsub hx hb dX7_takes_108 ?_
  have ct109 := c_X7_by l D tys ((zv (gK ((6 * ((30 * ev) + kv)) + 3)) - (zv (gK ((6 * ((30 * ev) + kv)) + 1)) * zv (gW 0))) - (zv (gK ((6 * ((30 * ev) + kv)) + 2)) * zv (gW 1))) _ _ (ra_to (ra_sub (ra_sub (rp_a (rp_v (gK ((6 * ((30 * ev) + kv)) + 3)))) (rp_a (rp_mul (rp_v (gK ((6 * ((30 * ev) + kv)) + 1))) (rp_v (gW 0))))) (rp_a (rp_mul (rp_v (gK ((6 * ((30 * ev) + kv)) + 2))) (rp_v (gW 1))))) ezy.symm) (Nat.le_of_ble_eq_true rfl)
  refine k_goL (va_runS (As := [.long (jL ((zv (gK ((6 * ((30 * ev) + kv)) + 3)) - (zv (gK ((6 * ((30 * ev) + kv)) + 1)) * zv (gW 0))) - (zv (gK ((6 * ((30 * ev) + kv)) + 2)) * zv (gW 1))))]) (rest := []) ⟨hx, hb, hml, hown, hts⟩ (ct109.2 _) (va_cwS 1 hts gX7_takes_X7_by rfl rfl rfl (by decide +kernel) ⟨Nat.le_of_ble_eq_true rfl, Nat.le_of_ble_eq_true rfl⟩) (k_pre hK hP hD (is := []) rfl rfl) rfl rfl hl.1 rfl (lv_room (Nat.le_of_ble_eq_true rfl)) dX7_takes_109 ⟨Nat.le_of_ble_eq_true rfl, Nat.le_of_ble_eq_true rfl⟩) ct109.1 hP hD hS hA [] rfl rfl (fun H locs hP hD hS => ?_)
  have hP : va_P D vwCl [(m0, oR (jI ((ms : Nat) : Int)) (jI ((es : Nat) : Int)) th a), ((a 6), .inl (cI, 1080, .inl (fun i => vI (gK i)))), ((a 12), .inl (cJ, 5, .inr (.inl (fun i => vL (gW i))))), ((a 10), .inl (cJ, 90, .inr (.inl (fun i => vL (gF i))))), ((a 11), .inl (cZ, 30, .inl (fun i => jI (iB (gX i)))))] H := hP
  have hD : va_D A [(m0, oR (jI ((ms : Nat) : Int)) (jI ((es : Nat) : Int)) th a), ((a 6), .inl (cI, 1080, .inl (fun i => vI (gK i)))), ((a 12), .inl (cJ, 5, .inr (.inl (fun i => vL (gW i))))), ((a 10), .inl (cJ, 90, .inr (.inl (fun i => vL (gF i))))), ((a 11), .inl (cZ, 30, .inl (fun i => jI (iB (gX i)))))] := hD
  refine lv_lstore (lv' := [(12, .long (vL zy)), (10, .long (vL zb)), (8, .long (vL za)), (6, .long (vL (gK ((6 * ((30 * ev) + kv)) + 2)))), (4, .long (vL (gK ((6 * ((30 * ev) + kv)) + 1)))), (3, .int (jI (6 * ((30 * ((ev : Nat) : Int)) + ((kv : Nat) : Int))))), (0, .ref m0), (1, .int (jI ((ev : Nat) : Int))), (2, .int (jI ((kv : Nat) : Int)))]) hx hb dX7_takes_112 hl (by decide) rfl (fun ls hl => ?_)
  refine lv_lload hx hb dX7_takes_114 (lv_at hl 4 rfl) ?_
  refine lv_lload hx hb dX7_takes_116 (lv_at hl 2 rfl) ?_
  refine n_lmul hx hb dX7_takes_118 ?_
  refine lv_lload hx hb dX7_takes_119 (lv_at hl 3 rfl) ?_
  refine lv_lload hx hb dX7_takes_121 (lv_at hl 1 rfl) ?_
  refine n_lmul hx hb dX7_takes_123 ?_
  refine n_ladd hx hb dX7_takes_124 ?_
  refine lv_aload_n hx hb dX7_takes_125 rfl (lv_at hl 6 rfl) ?_
  refine va_get (D := D) (ci := 7) (v := .ref (a 6)) (C := RX7) (T := TX7) (N := 20) hx hb hts iX7 hown hK.1 hP 0 rfl rfl 8 (by decide) f28 (fun _ h9 => h9) rfl dX7_takes_126 ?_
  refine lv_iload_n hx hb dX7_takes_129 rfl (lv_at hl 5 rfl) ?_
  refine n_iconst hx hb dX7_takes_130 ?_
  refine n_iadd hx hb dX7_takes_131 ?_
  refine n_iald (i := ((6 * ((30 * ev) + kv)) + 4)) hx hb hK hP 1 0 rfl htI (by omega) (by omega) (Nat.le_of_ble_eq_true rfl) dX7_takes_132 ?_
  refine n_i2lZ hx hb dX7_takes_133 ?_
  refine n_ladd hx hb dX7_takes_134 ?_
  have ct135 := c_X7_by l D tys (((zv (gK ((6 * ((30 * ev) + kv)) + 1)) * zv za) + (zv (gK ((6 * ((30 * ev) + kv)) + 2)) * zv zb)) + zv (gK ((6 * ((30 * ev) + kv)) + 4))) _ _ (ra_to (rp_a (rp_add (rp_add (rp_mul (rp_v (gK ((6 * ((30 * ev) + kv)) + 1))) (rp_v za)) (rp_mul (rp_v (gK ((6 * ((30 * ev) + kv)) + 2))) (rp_v zb))) (rp_v (gK ((6 * ((30 * ev) + kv)) + 4))))) ezs.symm) (Nat.le_of_ble_eq_true rfl)
  refine k_goL (va_runS (As := [.long (jL (((zv (gK ((6 * ((30 * ev) + kv)) + 1)) * zv za) + (zv (gK ((6 * ((30 * ev) + kv)) + 2)) * zv zb)) + zv (gK ((6 * ((30 * ev) + kv)) + 4))))]) (rest := []) ⟨hx, hb, hml, hown, hts⟩ (ct135.2 _) (va_cwS 1 hts gX7_takes_X7_by rfl rfl rfl (by decide +kernel) ⟨Nat.le_of_ble_eq_true rfl, Nat.le_of_ble_eq_true rfl⟩) (k_pre hK hP hD (is := []) rfl rfl) rfl rfl hl.1 rfl (lv_room (Nat.le_of_ble_eq_true rfl)) dX7_takes_135 ⟨Nat.le_of_ble_eq_true rfl, Nat.le_of_ble_eq_true rfl⟩) ct135.1 hP hD hS hA [] rfl rfl (fun H locs hP hD hS => ?_)
  have hP : va_P D vwCl [(m0, oR (jI ((ms : Nat) : Int)) (jI ((es : Nat) : Int)) th a), ((a 6), .inl (cI, 1080, .inl (fun i => vI (gK i)))), ((a 12), .inl (cJ, 5, .inr (.inl (fun i => vL (gW i))))), ((a 10), .inl (cJ, 90, .inr (.inl (fun i => vL (gF i))))), ((a 11), .inl (cZ, 30, .inl (fun i => jI (iB (gX i)))))] H := hP
  have hD : va_D A [(m0, oR (jI ((ms : Nat) : Int)) (jI ((es : Nat) : Int)) th a), ((a 6), .inl (cI, 1080, .inl (fun i => vI (gK i)))), ((a 12), .inl (cJ, 5, .inr (.inl (fun i => vL (gW i))))), ((a 10), .inl (cJ, 90, .inr (.inl (fun i => vL (gF i))))), ((a 11), .inl (cZ, 30, .inl (fun i => jI (iB (gX i)))))] := hD
  refine lv_lstore (lv' := [(14, .long (vL zs)), (12, .long (vL zy)), (10, .long (vL zb)), (8, .long (vL za)), (6, .long (vL (gK ((6 * ((30 * ev) + kv)) + 2)))), (4, .long (vL (gK ((6 * ((30 * ev) + kv)) + 1)))), (3, .int (jI (6 * ((30 * ((ev : Nat) : Int)) + ((kv : Nat) : Int))))), (0, .ref m0), (1, .int (jI ((ev : Nat) : Int))), (2, .int (jI ((kv : Nat) : Int)))]) hx hb dX7_takes_138 hl (by decide) rfl (fun ls hl => ?_)
  refine lv_lload hx hb dX7_takes_140 (lv_at hl 0 rfl) ?_
  refine lv_lconst (v := jL 0) hx hb dX7_takes_142 rfl ?_
  refine W.lcmp hx hb dX7_takes_143 ?_
  refine n_lif_ne (tgt := 149) hx hb (r64_z _) (by unfold r64; omega) dX7_takes_144 (by decide) (fun h144 => ?_) (fun h144 => False.elim (h9 (zv_eq0.mp h144)))
  refine lv_lload hx hb dX7_takes_149 (lv_at hl 0 rfl) ?_
  have ct151 := c_X7_inverse l D tys zs
  refine k_goL (va_runS (As := [.long (vL zs)]) (rest := []) ⟨hx, hb, hml, hown, hts⟩ (ct151.2 _) (va_cwS 1 hts gX7_takes_X7_inverse rfl rfl rfl (by decide +kernel) ⟨Nat.le_of_ble_eq_true rfl, Nat.le_of_ble_eq_true rfl⟩) (k_pre hK hP hD (is := []) rfl rfl) rfl rfl hl.1 rfl (lv_room (Nat.le_of_ble_eq_true rfl)) dX7_takes_151 ⟨Nat.le_of_ble_eq_true rfl, Nat.le_of_ble_eq_true rfl⟩) ct151.1 hP hD hS hA [] rfl rfl (fun H locs hP hD hS => ?_)
  have hP : va_P D vwCl [(m0, oR (jI ((ms : Nat) : Int)) (jI ((es : Nat) : Int)) th a), ((a 6), .inl (cI, 1080, .inl (fun i => vI (gK i)))), ((a 12), .inl (cJ, 5, .inr (.inl (fun i => vL (gW i))))), ((a 10), .inl (cJ, 90, .inr (.inl (fun i => vL (gF i))))), ((a 11), .inl (cZ, 30, .inl (fun i => jI (iB (gX i)))))] H := hP
  have hD : va_D A [(m0, oR (jI ((ms : Nat) : Int)) (jI ((es : Nat) : Int)) th a), ((a 6), .inl (cI, 1080, .inl (fun i => vI (gK i)))), ((a 12), .inl (cJ, 5, .inr (.inl (fun i => vL (gW i))))), ((a 10), .inl (cJ, 90, .inr (.inl (fun i => vL (gF i))))), ((a 11), .inl (cZ, 30, .inl (fun i => jI (iB (gX i)))))] := hD
  refine lv_lstore (lv' := [(16, .long (vL (zinv zs))), (14, .long (vL zs)), (12, .long (vL zy)), (10, .long (vL zb)), (8, .long (vL za)), (6, .long (vL (gK ((6 * ((30 * ev) + kv)) + 2)))), (4, .long (vL (gK ((6 * ((30 * ev) + kv)) + 1)))), (3, .int (jI (6 * ((30 * ((ev : Nat) : Int)) + ((kv : Nat) : Int))))), (0, .ref m0), (1, .int (jI ((ev : Nat) : Int))), (2, .int (jI ((kv : Nat) : Int)))]) hx hb dX7_takes_154 hl (by decide) rfl (fun ls hl => ?_)
  refine lv_aload_n hx hb dX7_takes_156 rfl (lv_at hl 8 rfl) ?_
  refine va_get (D := D) (ci := 7) (v := .ref (a 10)) (C := RX7) (T := TX7) (N := 20) hx hb hts iX7 hown hK.1 hP 0 rfl rfl 12 (by decide) f42 (fun _ h9 => h9) rfl dX7_takes_157 ?_
  refine n_iconst hx hb dX7_takes_160 ?_
  refine lv_iload_n hx hb dX7_takes_161 rfl (lv_at hl 10 rfl) ?_
  refine n_imul hx hb dX7_takes_162 ?_
  refine lv_lload hx hb dX7_takes_163 (lv_at hl 2 rfl) ?_
  refine n_zlast (i := (3 * kv)) (x := zy) hx hb hK hP hD hS 3 1 rfl htJ (by omega) (by omega) (Nat.le_of_ble_eq_true rfl) dX7_takes_165 (fun H locs hP hD hS => ?_)
  have hP : va_P D vwCl [(m0, oR (jI ((ms : Nat) : Int)) (jI ((es : Nat) : Int)) th a), ((a 6), .inl (cI, 1080, .inl (fun i => vI (gK i)))), ((a 12), .inl (cJ, 5, .inr (.inl (fun i => vL (gW i))))), ((a 10), .inl (cJ, 90, .inr (.inl (fun i => vL ((va_up gF (3 * kv) zy) i))))), ((a 11), .inl (cZ, 30, .inl (fun i => jI (iB (gX i)))))] H := hP
  have hD : va_D A [(m0, oR (jI ((ms : Nat) : Int)) (jI ((es : Nat) : Int)) th a), ((a 6), .inl (cI, 1080, .inl (fun i => vI (gK i)))), ((a 12), .inl (cJ, 5, .inr (.inl (fun i => vL (gW i))))), ((a 10), .inl (cJ, 90, .inr (.inl (fun i => vL ((va_up gF (3 * kv) zy) i))))), ((a 11), .inl (cZ, 30, .inl (fun i => jI (iB (gX i)))))] := hD
  refine lv_aload_n hx hb dX7_takes_166 rfl (lv_at hl 8 rfl) ?_
  refine va_get (D := D) (ci := 7) (v := .ref (a 10)) (C := RX7) (T := TX7) (N := 20) hx hb hts iX7 hown hK.1 hP 0 rfl rfl 12 (by decide) f42 (fun _ h9 => h9) rfl dX7_takes_167 ?_
  refine n_iconst hx hb dX7_takes_170 ?_
  refine lv_iload_n hx hb dX7_takes_171 rfl (lv_at hl 10 rfl) ?_
  refine n_imul hx hb dX7_takes_172 ?_
  refine n_iconst hx hb dX7_takes_173 ?_
  refine n_iadd hx hb dX7_takes_174 ?_
  refine lv_lload hx hb dX7_takes_175 (lv_at hl 1 rfl) ?_
  refine n_zlast (i := (3 * kv + 1)) (x := zs) hx hb hK hP hD hS 3 1 rfl htJ (by omega) (by omega) (Nat.le_of_ble_eq_true rfl) dX7_takes_177 (fun H locs hP hD hS => ?_)
  have hP : va_P D vwCl [(m0, oR (jI ((ms : Nat) : Int)) (jI ((es : Nat) : Int)) th a), ((a 6), .inl (cI, 1080, .inl (fun i => vI (gK i)))), ((a 12), .inl (cJ, 5, .inr (.inl (fun i => vL (gW i))))), ((a 10), .inl (cJ, 90, .inr (.inl (fun i => vL ((va_up (va_up gF (3 * kv) zy) (3 * kv + 1) zs) i))))), ((a 11), .inl (cZ, 30, .inl (fun i => jI (iB (gX i)))))] H := hP
  have hD : va_D A [(m0, oR (jI ((ms : Nat) : Int)) (jI ((es : Nat) : Int)) th a), ((a 6), .inl (cI, 1080, .inl (fun i => vI (gK i)))), ((a 12), .inl (cJ, 5, .inr (.inl (fun i => vL (gW i))))), ((a 10), .inl (cJ, 90, .inr (.inl (fun i => vL ((va_up (va_up gF (3 * kv) zy) (3 * kv + 1) zs) i))))), ((a 11), .inl (cZ, 30, .inl (fun i => jI (iB (gX i)))))] := hD
  refine lv_aload_n hx hb dX7_takes_178 rfl (lv_at hl 8 rfl) ?_
  refine va_get (D := D) (ci := 7) (v := .ref (a 10)) (C := RX7) (T := TX7) (N := 20) hx hb hts iX7 hown hK.1 hP 0 rfl rfl 12 (by decide) f42 (fun _ h9 => h9) rfl dX7_takes_179 ?_
  refine n_iconst hx hb dX7_takes_182 ?_
  refine lv_iload_n hx hb dX7_takes_183 rfl (lv_at hl 10 rfl) ?_
  refine n_imul hx hb dX7_takes_184 ?_
  refine n_iconst hx hb dX7_takes_185 ?_
  refine n_iadd hx hb dX7_takes_186 ?_
  refine lv_lload hx hb dX7_takes_187 (lv_at hl 2 rfl) ?_
  refine lv_lload hx hb dX7_takes_189 (lv_at hl 2 rfl) ?_
  refine n_lmul hx hb dX7_takes_191 ?_
  refine lv_ldc2 (v := jL 10007) hx hb hown k77 dX7_takes_192 ?_
  refine n_lrem hx hb dX7_takes_195 (rp_mul (rp_v zy) (rp_v zy)) (Nat.le_of_ble_eq_true rfl) ?_
  refine lv_lload hx hb dX7_takes_196 (lv_at hl 0 rfl) ?_
  refine n_lmul hx hb dX7_takes_198 ?_
  have ct199 := c_X7_by l D tys (zv (zy * zy) * zv (zinv zs)) _ _ (ra_to (rp_a (rp_mul (rp_v (zy * zy)) (rp_v (zinv zs)))) ezg.symm) (Nat.le_of_ble_eq_true rfl)
  refine k_goL (va_runS (As := [.long (jL (zv (zy * zy) * zv (zinv zs)))]) (rest := [.int (jI ((3 * ((kv : Nat) : Int)) + 2)), .ref (a 10)]) ⟨hx, hb, hml, hown, hts⟩ (ct199.2 _) (va_cwS 1 hts gX7_takes_X7_by rfl rfl rfl (by decide +kernel) ⟨Nat.le_of_ble_eq_true rfl, Nat.le_of_ble_eq_true rfl⟩) (k_pre hK hP hD (is := []) rfl rfl) rfl rfl hl.1 rfl (lv_room (Nat.le_of_ble_eq_true rfl)) dX7_takes_199 ⟨Nat.le_of_ble_eq_true rfl, Nat.le_of_ble_eq_true rfl⟩) ct199.1 hP hD hS hA [] rfl rfl (fun H locs hP hD hS => ?_)
  have hP : va_P D vwCl [(m0, oR (jI ((ms : Nat) : Int)) (jI ((es : Nat) : Int)) th a), ((a 6), .inl (cI, 1080, .inl (fun i => vI (gK i)))), ((a 12), .inl (cJ, 5, .inr (.inl (fun i => vL (gW i))))), ((a 10), .inl (cJ, 90, .inr (.inl (fun i => vL ((va_up (va_up gF (3 * kv) zy) (3 * kv + 1) zs) i))))), ((a 11), .inl (cZ, 30, .inl (fun i => jI (iB (gX i)))))] H := hP
  have hD : va_D A [(m0, oR (jI ((ms : Nat) : Int)) (jI ((es : Nat) : Int)) th a), ((a 6), .inl (cI, 1080, .inl (fun i => vI (gK i)))), ((a 12), .inl (cJ, 5, .inr (.inl (fun i => vL (gW i))))), ((a 10), .inl (cJ, 90, .inr (.inl (fun i => vL ((va_up (va_up gF (3 * kv) zy) (3 * kv + 1) zs) i))))), ((a 11), .inl (cZ, 30, .inl (fun i => jI (iB (gX i)))))] := hD
  refine n_zlast (i := (3 * kv + 2)) (x := zg) hx hb hK hP hD hS 3 1 rfl htJ (by omega) (by omega) (Nat.le_of_ble_eq_true rfl) dX7_takes_202 (fun H locs hP hD hS => ?_)
  have hP : va_P D vwCl [(m0, oR (jI ((ms : Nat) : Int)) (jI ((es : Nat) : Int)) th a), ((a 6), .inl (cI, 1080, .inl (fun i => vI (gK i)))), ((a 12), .inl (cJ, 5, .inr (.inl (fun i => vL (gW i))))), ((a 10), .inl (cJ, 90, .inr (.inl (fun i => vL ((va_up (va_up (va_up gF (3 * kv) zy) (3 * kv + 1) zs) (3 * kv + 2) zg) i))))), ((a 11), .inl (cZ, 30, .inl (fun i => jI (iB (gX i)))))] H := hP
  have hD : va_D A [(m0, oR (jI ((ms : Nat) : Int)) (jI ((es : Nat) : Int)) th a), ((a 6), .inl (cI, 1080, .inl (fun i => vI (gK i)))), ((a 12), .inl (cJ, 5, .inr (.inl (fun i => vL (gW i))))), ((a 10), .inl (cJ, 90, .inr (.inl (fun i => vL ((va_up (va_up (va_up gF (3 * kv) zy) (3 * kv + 1) zs) (3 * kv + 2) zg) i))))), ((a 11), .inl (cZ, 30, .inl (fun i => jI (iB (gX i)))))] := hD
  refine lv_aload_n hx hb dX7_takes_203 rfl (lv_at hl 8 rfl) ?_
  refine va_get (D := D) (ci := 7) (v := .ref (a 11)) (C := RX7) (T := TX7) (N := 20) hx hb hts iX7 hown hK.1 hP 0 rfl rfl 13 (by decide) f45 (fun _ h9 => h9) rfl dX7_takes_204 ?_
  refine lv_iload_n hx hb dX7_takes_207 rfl (lv_at hl 10 rfl) ?_
  refine lv_aload_n hx hb dX7_takes_208 rfl (lv_at hl 8 rfl) ?_
  refine va_get (D := D) (ci := 7) (v := .ref (a 10)) (C := RX7) (T := TX7) (N := 20) hx hb hts iX7 hown hK.1 hP 0 rfl rfl 12 (by decide) f42 (fun _ h9 => h9) rfl dX7_takes_209 ?_
  refine n_iconst hx hb dX7_takes_212 ?_
  refine lv_iload_n hx hb dX7_takes_213 rfl (lv_at hl 10 rfl) ?_
  refine n_imul hx hb dX7_takes_214 ?_
  refine n_iconst hx hb dX7_takes_215 ?_
  refine n_iadd hx hb dX7_takes_216 ?_
  refine n_lald (i := (3 * kv + 2)) hx hb hK hP 3 1 rfl htJ (by omega) (by omega) (Nat.le_of_ble_eq_true rfl) dX7_takes_217 ?_
  refine lv_aload_n hx hb dX7_takes_218 rfl (lv_at hl 8 rfl) ?_
  refine va_get (D := D) (ci := 7) (v := .ref (a 6)) (C := RX7) (T := TX7) (N := 20) hx hb hts iX7 hown hK.1 hP 0 rfl rfl 8 (by decide) f28 (fun _ h9 => h9) rfl dX7_takes_219 ?_
  refine lv_iload_n hx hb dX7_takes_222 rfl (lv_at hl 7 rfl) ?_
  refine n_iconst hx hb dX7_takes_223 ?_
  refine n_iadd hx hb dX7_takes_224 ?_
  refine n_iald (i := ((6 * ((30 * ev) + kv)) + 5)) hx hb hK hP 1 0 rfl htI (by omega) (by omega) (Nat.le_of_ble_eq_true rfl) dX7_takes_225 ?_
  refine n_i2lZ hx hb dX7_takes_226 ?_
  refine W.lcmp hx hb dX7_takes_227 ?_
  refine n_lif_le (tgt := 235) hx hb (r64_z _) (r64_z _) dX7_takes_228 (by decide) (fun h228 => False.elim (absurd h228 (by rw [eG]; omega))) (fun h228 => ?_)
  refine n_iconst hx hb dX7_takes_231 ?_
  refine lv_goto (tgt := 236) hx hb dX7_takes_232 (by decide) ?_
  refine n_zast (i := kv) (b := true) hx hb hK hP hD hS 4 2 rfl htZ rfl rfl q2 (Nat.le_of_ble_eq_true rfl) dX7_takes_236 (fun H locs hP hD hS => ?_)
  have hP : va_P D vwCl [(m0, oR (jI ((ms : Nat) : Int)) (jI ((es : Nat) : Int)) th a), ((a 6), .inl (cI, 1080, .inl (fun i => vI (gK i)))), ((a 12), .inl (cJ, 5, .inr (.inl (fun i => vL (gW i))))), ((a 10), .inl (cJ, 90, .inr (.inl (fun i => vL ((va_up (va_up (va_up gF (3 * kv) zy) (3 * kv + 1) zs) (3 * kv + 2) zg) i))))), ((a 11), .inl (cZ, 30, .inl (fun i => jI (iB ((va_up gX kv true) i)))))] H := hP
  have hD : va_D A [(m0, oR (jI ((ms : Nat) : Int)) (jI ((es : Nat) : Int)) th a), ((a 6), .inl (cI, 1080, .inl (fun i => vI (gK i)))), ((a 12), .inl (cJ, 5, .inr (.inl (fun i => vL (gW i))))), ((a 10), .inl (cJ, 90, .inr (.inl (fun i => vL ((va_up (va_up (va_up gF (3 * kv) zy) (3 * kv + 1) zs) (3 * kv + 2) zg) i))))), ((a 11), .inl (cZ, 30, .inl (fun i => jI (iB ((va_up gX kv true) i)))))] := hD
  refine lv_aload_n hx hb dX7_takes_237 rfl (lv_at hl 8 rfl) ?_
  refine va_get (D := D) (ci := 7) (v := .ref (a 11)) (C := RX7) (T := TX7) (N := 20) hx hb hts iX7 hown hK.1 hP 0 rfl rfl 13 (by decide) f45 (fun _ h9 => h9) rfl dX7_takes_238 ?_
  refine lv_iload_n hx hb dX7_takes_241 rfl (lv_at hl 10 rfl) ?_
  refine n_zald (i := kv) hx hb hK hP 4 2 rfl htZ rfl q2 (Nat.le_of_ble_eq_true rfl) dX7_takes_242 ?_
  refine n_ifB_ne (tgt := 386) hx hb dX7_takes_243 (by decide) (fun h243 => ?_) (fun h243 => Bool.noConfusion ((va_up_s gX kv true).symm.trans h243))
  refine n_iconst hx hb dX7_takes_386 ?_
  exact k_zret (b := true) hx hb hr hlocks dX7_takes_387 hP hS rfl rfl

set_option maxHeartbeats 4000000 in
set_option maxRecDepth 100000 in
/--  -/
theorem c_X7_takesc (l : Launch) (D : va_G) (tys : List (ClassId × FieldType)) {cI cJ cZ : ClassId} (htI : tys[0]? = some (cI, .int)) (htJ : tys[1]? = some (cJ, .long)) (htZ : tys[2]? = some (cZ, .boolean)) (m0 : Nat) (a : Nat → Nat) (ms es : Nat) (th : Int32) (gK : Nat → Zp) (gW : Nat → Zp) (gF : Nat → Zp) (gX : Nat → Bool) (ev kv : Nat) (q1 : ev < 6) (q2 : kv < 30) (za zb zy zs zg : Zp) (eza : za = gW 2 * gK (6 * (30 * ev + kv) + 1) + gW 3 * gK (6 * (30 * ev + kv) + 2)) (ezb : zb = gW 3 * gK (6 * (30 * ev + kv) + 1) + gW 4 * gK (6 * (30 * ev + kv) + 2)) (ezy : zy = gK (6 * (30 * ev + kv) + 3) - gK (6 * (30 * ev + kv) + 1) * gW 0 - gK (6 * (30 * ev + kv) + 2) * gW 1) (ezs : zs = gK (6 * (30 * ev + kv) + 1) * za + gK (6 * (30 * ev + kv) + 2) * zb + gK (6 * (30 * ev + kv) + 4)) (ezg : zg = zy * zy * zinv zs) (h9 : ¬ zs = 0) (h8 : ¬ zv (gK (6 * (30 * ev + kv) + 5)) < zv zg) : CtI l D tys yX7_takes wsX7_takes 2 49 [.ref m0, .int (jI ((ev : Nat) : Int)), .int (jI ((kv : Nat) : Int))] (jI (iB true)) [(m0, oR (jI ((ms : Nat) : Int)) (jI ((es : Nat) : Int)) th a), ((a 6), .inl (cI, 1080, .inl (fun i => vI (gK i)))), ((a 12), .inl (cJ, 5, .inr (.inl (fun i => vL (gW i))))), ((a 10), .inl (cJ, 90, .inr (.inl (fun i => vL (gF i))))), ((a 11), .inl (cZ, 30, .inl (fun i => jI (iB (gX i)))))] [(m0, oR (jI ((ms : Nat) : Int)) (jI ((es : Nat) : Int)) th a), ((a 6), .inl (cI, 1080, .inl (fun i => vI (gK i)))), ((a 12), .inl (cJ, 5, .inr (.inl (fun i => vL ((va_up (va_up (va_up (va_up (va_up gW 0 ((gW 0) + ((za * (zinv zs)) * zy))) 1 (((va_up gW 0 ((gW 0) + ((za * (zinv zs)) * zy))) 1) + ((zb * (zinv zs)) * zy))) 2 (((va_up (va_up gW 0 ((gW 0) + ((za * (zinv zs)) * zy))) 1 (((va_up gW 0 ((gW 0) + ((za * (zinv zs)) * zy))) 1) + ((zb * (zinv zs)) * zy))) 2) - ((za * (zinv zs)) * za))) 3 (((va_up (va_up (va_up gW 0 ((gW 0) + ((za * (zinv zs)) * zy))) 1 (((va_up gW 0 ((gW 0) + ((za * (zinv zs)) * zy))) 1) + ((zb * (zinv zs)) * zy))) 2 (((va_up (va_up gW 0 ((gW 0) + ((za * (zinv zs)) * zy))) 1 (((va_up gW 0 ((gW 0) + ((za * (zinv zs)) * zy))) 1) + ((zb * (zinv zs)) * zy))) 2) - ((za * (zinv zs)) * za))) 3) - ((za * (zinv zs)) * zb))) 4 (((va_up (va_up (va_up (va_up gW 0 ((gW 0) + ((za * (zinv zs)) * zy))) 1 (((va_up gW 0 ((gW 0) + ((za * (zinv zs)) * zy))) 1) + ((zb * (zinv zs)) * zy))) 2 (((va_up (va_up gW 0 ((gW 0) + ((za * (zinv zs)) * zy))) 1 (((va_up gW 0 ((gW 0) + ((za * (zinv zs)) * zy))) 1) + ((zb * (zinv zs)) * zy))) 2) - ((za * (zinv zs)) * za))) 3 (((va_up (va_up (va_up gW 0 ((gW 0) + ((za * (zinv zs)) * zy))) 1 (((va_up gW 0 ((gW 0) + ((za * (zinv zs)) * zy))) 1) + ((zb * (zinv zs)) * zy))) 2 (((va_up (va_up gW 0 ((gW 0) + ((za * (zinv zs)) * zy))) 1 (((va_up gW 0 ((gW 0) + ((za * (zinv zs)) * zy))) 1) + ((zb * (zinv zs)) * zy))) 2) - ((za * (zinv zs)) * za))) 3) - ((za * (zinv zs)) * zb))) 4) - ((zb * (zinv zs)) * zb))) i))))), ((a 10), .inl (cJ, 90, .inr (.inl (fun i => vL ((va_up (va_up (va_up gF (3 * kv) zy) (3 * kv + 1) zs) (3 * kv + 2) zg) i))))), ((a 11), .inl (cZ, 30, .inl (fun i => jI (iB ((va_up gX kv false) i)))))] := by
  refine CtI.of (cc := cX7_takes) (maxL := 18) (by decide +kernel) rfl rfl (Nat.le_of_ble_eq_true rfl) ?_
  intro p e s m below meth c A ls hcx hK hP hD hA hl
  obtain ⟨hx, hb, hr, hml, hown, hts, hlocks⟩ := hcx
  have hS : va_S A s.heap s.heap [] := va_S.rf
  have hown : s.vm.findClass RX7 = some m.cls := hown
  have hl : lv_has ls 18 [(0, .ref m0), (1, .int (jI ((ev : Nat) : Int))), (2, .int (jI ((kv : Nat) : Int)))] := hl
  have eG : (va_up (va_up (va_up gF (3 * kv) zy) (3 * kv + 1) zs) (3 * kv + 2) zg) (3 * kv + 2) = zg := by simp [va_up]
  have f28 := hts (.fieldLink RX7 28 "FieldFilterModel" "told" "[I") (by decide +kernel)
  have iX7 : ∀ w ∈ u_ws RX7 TX7 20, w ∈ wsX7_takes := by decide +kernel
  have f48 := hts (.fieldLink RX7 48 "FieldFilterModel" "now" "[J") (by decide +kernel)
  have f42 := hts (.fieldLink RX7 42 "FieldFilterModel" "found" "[J") (by decide +kernel)
  have k77 : (Cond.constantLong RX7 77 (jL 10007)).before _ s = true := hts (.constantLong RX7 77 (10007)) (by decide +kernel)
  have f45 := hts (.fieldLink RX7 45 "FieldFilterModel" "isGated" "[Z") (by decide +kernel)
  refine n_bipush hx hb dX7_takes_0 (by decide) ?_
  refine n_bipush hx hb dX7_takes_2 (by decide) ?_
  refine lv_iload_n hx hb dX7_takes_4 rfl (lv_at hl 1 rfl) ?_
  refine n_imul hx hb dX7_takes_5 ?_
  refine lv_iload_n hx hb dX7_takes_6 rfl (lv_at hl 2 rfl) ?_
  refine n_iadd hx hb dX7_takes_7 ?_
  refine n_imul hx hb dX7_takes_8 ?_
  refine lv_istore_n (lv' := [(3, .int (jI (6 * ((30 * ((ev : Nat) : Int)) + ((kv : Nat) : Int))))), (0, .ref m0), (1, .int (jI ((ev : Nat) : Int))), (2, .int (jI ((kv : Nat) : Int)))]) hx hb dX7_takes_9 rfl hl (by decide) rfl (fun ls hl => ?_)
  refine lv_aload_n hx hb dX7_takes_10 rfl (lv_at hl 1 rfl) ?_
  refine va_get (D := D) (ci := 7) (v := .ref (a 6)) (C := RX7) (T := TX7) (N := 20) hx hb hts iX7 hown hK.1 hP 0 rfl rfl 8 (by decide) f28 (fun _ h9 => h9) rfl dX7_takes_11 ?_
  refine lv_iload_n hx hb dX7_takes_14 rfl (lv_at hl 0 rfl) ?_
  refine n_iconst hx hb dX7_takes_15 ?_
  refine n_iadd hx hb dX7_takes_16 ?_
  refine n_iald (i := ((6 * ((30 * ev) + kv)) + 1)) hx hb hK hP 1 0 rfl htI (by omega) (by omega) (Nat.le_of_ble_eq_true rfl) dX7_takes_17 ?_
  refine n_i2lZ hx hb dX7_takes_18 ?_
  refine lv_lstore (lv' := [(4, .long (vL (gK ((6 * ((30 * ev) + kv)) + 1)))), (3, .int (jI (6 * ((30 * ((ev : Nat) : Int)) + ((kv : Nat) : Int))))), (0, .ref m0), (1, .int (jI ((ev : Nat) : Int))), (2, .int (jI ((kv : Nat) : Int)))]) hx hb dX7_takes_19 hl (by decide) rfl (fun ls hl => ?_)
  refine lv_aload_n hx hb dX7_takes_21 rfl (lv_at hl 2 rfl) ?_
  refine va_get (D := D) (ci := 7) (v := .ref (a 6)) (C := RX7) (T := TX7) (N := 20) hx hb hts iX7 hown hK.1 hP 0 rfl rfl 8 (by decide) f28 (fun _ h9 => h9) rfl dX7_takes_22 ?_
  refine lv_iload_n hx hb dX7_takes_25 rfl (lv_at hl 1 rfl) ?_
  refine n_iconst hx hb dX7_takes_26 ?_
  refine n_iadd hx hb dX7_takes_27 ?_
  refine n_iald (i := ((6 * ((30 * ev) + kv)) + 2)) hx hb hK hP 1 0 rfl htI (by omega) (by omega) (Nat.le_of_ble_eq_true rfl) dX7_takes_28 ?_
  refine n_i2lZ hx hb dX7_takes_29 ?_
  refine lv_lstore (lv' := [(6, .long (vL (gK ((6 * ((30 * ev) + kv)) + 2)))), (4, .long (vL (gK ((6 * ((30 * ev) + kv)) + 1)))), (3, .int (jI (6 * ((30 * ((ev : Nat) : Int)) + ((kv : Nat) : Int))))), (0, .ref m0), (1, .int (jI ((ev : Nat) : Int))), (2, .int (jI ((kv : Nat) : Int)))]) hx hb dX7_takes_30 hl (by decide) rfl (fun ls hl => ?_)
  refine lv_aload_n hx hb dX7_takes_32 rfl (lv_at hl 3 rfl) ?_
  refine va_get (D := D) (ci := 7) (v := .ref (a 12)) (C := RX7) (T := TX7) (N := 20) hx hb hts iX7 hown hK.1 hP 0 rfl rfl 14 (by decide) f48 (fun _ h9 => h9) rfl dX7_takes_33 ?_
  refine n_iconst hx hb dX7_takes_36 ?_
  refine n_lald (i := 2) hx hb hK hP 2 1 rfl htJ rfl (Nat.le_of_ble_eq_true rfl) (Nat.le_of_ble_eq_true rfl) dX7_takes_37 ?_
  refine lv_lload hx hb dX7_takes_38 (lv_at hl 1 rfl) ?_
  refine n_lmul hx hb dX7_takes_40 ?_
  refine lv_aload_n hx hb dX7_takes_41 rfl (lv_at hl 3 rfl) ?_
  refine va_get (D := D) (ci := 7) (v := .ref (a 12)) (C := RX7) (T := TX7) (N := 20) hx hb hts iX7 hown hK.1 hP 0 rfl rfl 14 (by decide) f48 (fun _ h9 => h9) rfl dX7_takes_42 ?_
  refine n_iconst hx hb dX7_takes_45 ?_
  refine n_lald (i := 3) hx hb hK hP 2 1 rfl htJ rfl (Nat.le_of_ble_eq_true rfl) (Nat.le_of_ble_eq_true rfl) dX7_takes_46 ?_
  refine lv_lload hx hb dX7_takes_47 (lv_at hl 0 rfl) ?_
  refine n_lmul hx hb dX7_takes_49 ?_
  refine n_ladd hx hb dX7_takes_50 ?_
  have ct51 := c_X7_by l D tys ((zv (gW 2) * zv (gK ((6 * ((30 * ev) + kv)) + 1))) + (zv (gW 3) * zv (gK ((6 * ((30 * ev) + kv)) + 2)))) _ _ (ra_to (rp_a (rp_add (rp_mul (rp_v (gW 2)) (rp_v (gK ((6 * ((30 * ev) + kv)) + 1)))) (rp_mul (rp_v (gW 3)) (rp_v (gK ((6 * ((30 * ev) + kv)) + 2)))))) eza.symm) (Nat.le_of_ble_eq_true rfl)
  refine k_goL (va_runS (As := [.long (jL ((zv (gW 2) * zv (gK ((6 * ((30 * ev) + kv)) + 1))) + (zv (gW 3) * zv (gK ((6 * ((30 * ev) + kv)) + 2)))))]) (rest := []) ⟨hx, hb, hml, hown, hts⟩ (ct51.2 _) (va_cwS 1 hts gX7_takes_X7_by rfl rfl rfl (by decide +kernel) ⟨Nat.le_of_ble_eq_true rfl, Nat.le_of_ble_eq_true rfl⟩) (k_pre hK hP hD (is := []) rfl rfl) rfl rfl hl.1 rfl (lv_room (Nat.le_of_ble_eq_true rfl)) dX7_takes_51 ⟨Nat.le_of_ble_eq_true rfl, Nat.le_of_ble_eq_true rfl⟩) ct51.1 hP hD hS hA [] rfl rfl (fun H locs hP hD hS => ?_)
  have hP : va_P D vwCl [(m0, oR (jI ((ms : Nat) : Int)) (jI ((es : Nat) : Int)) th a), ((a 6), .inl (cI, 1080, .inl (fun i => vI (gK i)))), ((a 12), .inl (cJ, 5, .inr (.inl (fun i => vL (gW i))))), ((a 10), .inl (cJ, 90, .inr (.inl (fun i => vL (gF i))))), ((a 11), .inl (cZ, 30, .inl (fun i => jI (iB (gX i)))))] H := hP
  have hD : va_D A [(m0, oR (jI ((ms : Nat) : Int)) (jI ((es : Nat) : Int)) th a), ((a 6), .inl (cI, 1080, .inl (fun i => vI (gK i)))), ((a 12), .inl (cJ, 5, .inr (.inl (fun i => vL (gW i))))), ((a 10), .inl (cJ, 90, .inr (.inl (fun i => vL (gF i))))), ((a 11), .inl (cZ, 30, .inl (fun i => jI (iB (gX i)))))] := hD
  refine lv_lstore (lv' := [(8, .long (vL za)), (6, .long (vL (gK ((6 * ((30 * ev) + kv)) + 2)))), (4, .long (vL (gK ((6 * ((30 * ev) + kv)) + 1)))), (3, .int (jI (6 * ((30 * ((ev : Nat) : Int)) + ((kv : Nat) : Int))))), (0, .ref m0), (1, .int (jI ((ev : Nat) : Int))), (2, .int (jI ((kv : Nat) : Int)))]) hx hb dX7_takes_54 hl (by decide) rfl (fun ls hl => ?_)
  refine lv_aload_n hx hb dX7_takes_56 rfl (lv_at hl 4 rfl) ?_
  refine va_get (D := D) (ci := 7) (v := .ref (a 12)) (C := RX7) (T := TX7) (N := 20) hx hb hts iX7 hown hK.1 hP 0 rfl rfl 14 (by decide) f48 (fun _ h9 => h9) rfl dX7_takes_57 ?_
  refine n_iconst hx hb dX7_takes_60 ?_
  refine n_lald (i := 3) hx hb hK hP 2 1 rfl htJ rfl (Nat.le_of_ble_eq_true rfl) (Nat.le_of_ble_eq_true rfl) dX7_takes_61 ?_
  refine lv_lload hx hb dX7_takes_62 (lv_at hl 2 rfl) ?_
  refine n_lmul hx hb dX7_takes_64 ?_
  refine lv_aload_n hx hb dX7_takes_65 rfl (lv_at hl 4 rfl) ?_
  refine va_get (D := D) (ci := 7) (v := .ref (a 12)) (C := RX7) (T := TX7) (N := 20) hx hb hts iX7 hown hK.1 hP 0 rfl rfl 14 (by decide) f48 (fun _ h9 => h9) rfl dX7_takes_66 ?_
  refine n_iconst hx hb dX7_takes_69 ?_
  refine n_lald (i := 4) hx hb hK hP 2 1 rfl htJ rfl (Nat.le_of_ble_eq_true rfl) (Nat.le_of_ble_eq_true rfl) dX7_takes_70 ?_
  refine lv_lload hx hb dX7_takes_71 (lv_at hl 1 rfl) ?_
  refine n_lmul hx hb dX7_takes_73 ?_
  refine n_ladd hx hb dX7_takes_74 ?_
  have ct75 := c_X7_by l D tys ((zv (gW 3) * zv (gK ((6 * ((30 * ev) + kv)) + 1))) + (zv (gW 4) * zv (gK ((6 * ((30 * ev) + kv)) + 2)))) _ _ (ra_to (rp_a (rp_add (rp_mul (rp_v (gW 3)) (rp_v (gK ((6 * ((30 * ev) + kv)) + 1)))) (rp_mul (rp_v (gW 4)) (rp_v (gK ((6 * ((30 * ev) + kv)) + 2)))))) ezb.symm) (Nat.le_of_ble_eq_true rfl)
  refine k_goL (va_runS (As := [.long (jL ((zv (gW 3) * zv (gK ((6 * ((30 * ev) + kv)) + 1))) + (zv (gW 4) * zv (gK ((6 * ((30 * ev) + kv)) + 2)))))]) (rest := []) ⟨hx, hb, hml, hown, hts⟩ (ct75.2 _) (va_cwS 1 hts gX7_takes_X7_by rfl rfl rfl (by decide +kernel) ⟨Nat.le_of_ble_eq_true rfl, Nat.le_of_ble_eq_true rfl⟩) (k_pre hK hP hD (is := []) rfl rfl) rfl rfl hl.1 rfl (lv_room (Nat.le_of_ble_eq_true rfl)) dX7_takes_75 ⟨Nat.le_of_ble_eq_true rfl, Nat.le_of_ble_eq_true rfl⟩) ct75.1 hP hD hS hA [] rfl rfl (fun H locs hP hD hS => ?_)
  have hP : va_P D vwCl [(m0, oR (jI ((ms : Nat) : Int)) (jI ((es : Nat) : Int)) th a), ((a 6), .inl (cI, 1080, .inl (fun i => vI (gK i)))), ((a 12), .inl (cJ, 5, .inr (.inl (fun i => vL (gW i))))), ((a 10), .inl (cJ, 90, .inr (.inl (fun i => vL (gF i))))), ((a 11), .inl (cZ, 30, .inl (fun i => jI (iB (gX i)))))] H := hP
  have hD : va_D A [(m0, oR (jI ((ms : Nat) : Int)) (jI ((es : Nat) : Int)) th a), ((a 6), .inl (cI, 1080, .inl (fun i => vI (gK i)))), ((a 12), .inl (cJ, 5, .inr (.inl (fun i => vL (gW i))))), ((a 10), .inl (cJ, 90, .inr (.inl (fun i => vL (gF i))))), ((a 11), .inl (cZ, 30, .inl (fun i => jI (iB (gX i)))))] := hD
  refine lv_lstore (lv' := [(10, .long (vL zb)), (8, .long (vL za)), (6, .long (vL (gK ((6 * ((30 * ev) + kv)) + 2)))), (4, .long (vL (gK ((6 * ((30 * ev) + kv)) + 1)))), (3, .int (jI (6 * ((30 * ((ev : Nat) : Int)) + ((kv : Nat) : Int))))), (0, .ref m0), (1, .int (jI ((ev : Nat) : Int))), (2, .int (jI ((kv : Nat) : Int)))]) hx hb dX7_takes_78 hl (by decide) rfl (fun ls hl => ?_)
  refine lv_aload_n hx hb dX7_takes_80 rfl (lv_at hl 5 rfl) ?_
  refine va_get (D := D) (ci := 7) (v := .ref (a 6)) (C := RX7) (T := TX7) (N := 20) hx hb hts iX7 hown hK.1 hP 0 rfl rfl 8 (by decide) f28 (fun _ h9 => h9) rfl dX7_takes_81 ?_
  refine lv_iload_n hx hb dX7_takes_84 rfl (lv_at hl 4 rfl) ?_
  refine n_iconst hx hb dX7_takes_85 ?_
  refine n_iadd hx hb dX7_takes_86 ?_
  refine n_iald (i := ((6 * ((30 * ev) + kv)) + 3)) hx hb hK hP 1 0 rfl htI (by omega) (by omega) (Nat.le_of_ble_eq_true rfl) dX7_takes_87 ?_
  refine n_i2lZ hx hb dX7_takes_88 ?_
  refine lv_lload hx hb dX7_takes_89 (lv_at hl 3 rfl) ?_
  refine lv_aload_n hx hb dX7_takes_91 rfl (lv_at hl 5 rfl) ?_
  refine va_get (D := D) (ci := 7) (v := .ref (a 12)) (C := RX7) (T := TX7) (N := 20) hx hb hts iX7 hown hK.1 hP 0 rfl rfl 14 (by decide) f48 (fun _ h9 => h9) rfl dX7_takes_92 ?_
  refine n_iconst hx hb dX7_takes_95 ?_
  refine n_lald (i := 0) hx hb hK hP 2 1 rfl htJ rfl (Nat.le_of_ble_eq_true rfl) (Nat.le_of_ble_eq_true rfl) dX7_takes_96 ?_
  refine n_lmul hx hb dX7_takes_97 ?_
  refine n_lsub hx hb dX7_takes_98 ?_
  refine lv_lload hx hb dX7_takes_99 (lv_at hl 2 rfl) ?_
  refine lv_aload_n hx hb dX7_takes_101 rfl (lv_at hl 5 rfl) ?_
  refine va_get (D := D) (ci := 7) (v := .ref (a 12)) (C := RX7) (T := TX7) (N := 20) hx hb hts iX7 hown hK.1 hP 0 rfl rfl 14 (by decide) f48 (fun _ h9 => h9) rfl dX7_takes_102 ?_
  refine n_iconst hx hb dX7_takes_105 ?_
  refine n_lald (i := 1) hx hb hK hP 2 1 rfl htJ rfl (Nat.le_of_ble_eq_true rfl) (Nat.le_of_ble_eq_true rfl) dX7_takes_106 ?_
  refine n_lmul hx hb dX7_takes_107 ?_
  refine n_lsub hx hb dX7_takes_108 ?_
  have ct109 := c_X7_by l D tys ((zv (gK ((6 * ((30 * ev) + kv)) + 3)) - (zv (gK ((6 * ((30 * ev) + kv)) + 1)) * zv (gW 0))) - (zv (gK ((6 * ((30 * ev) + kv)) + 2)) * zv (gW 1))) _ _ (ra_to (ra_sub (ra_sub (rp_a (rp_v (gK ((6 * ((30 * ev) + kv)) + 3)))) (rp_a (rp_mul (rp_v (gK ((6 * ((30 * ev) + kv)) + 1))) (rp_v (gW 0))))) (rp_a (rp_mul (rp_v (gK ((6 * ((30 * ev) + kv)) + 2))) (rp_v (gW 1))))) ezy.symm) (Nat.le_of_ble_eq_true rfl)
  refine k_goL (va_runS (As := [.long (jL ((zv (gK ((6 * ((30 * ev) + kv)) + 3)) - (zv (gK ((6 * ((30 * ev) + kv)) + 1)) * zv (gW 0))) - (zv (gK ((6 * ((30 * ev) + kv)) + 2)) * zv (gW 1))))]) (rest := []) ⟨hx, hb, hml, hown, hts⟩ (ct109.2 _) (va_cwS 1 hts gX7_takes_X7_by rfl rfl rfl (by decide +kernel) ⟨Nat.le_of_ble_eq_true rfl, Nat.le_of_ble_eq_true rfl⟩) (k_pre hK hP hD (is := []) rfl rfl) rfl rfl hl.1 rfl (lv_room (Nat.le_of_ble_eq_true rfl)) dX7_takes_109 ⟨Nat.le_of_ble_eq_true rfl, Nat.le_of_ble_eq_true rfl⟩) ct109.1 hP hD hS hA [] rfl rfl (fun H locs hP hD hS => ?_)
  have hP : va_P D vwCl [(m0, oR (jI ((ms : Nat) : Int)) (jI ((es : Nat) : Int)) th a), ((a 6), .inl (cI, 1080, .inl (fun i => vI (gK i)))), ((a 12), .inl (cJ, 5, .inr (.inl (fun i => vL (gW i))))), ((a 10), .inl (cJ, 90, .inr (.inl (fun i => vL (gF i))))), ((a 11), .inl (cZ, 30, .inl (fun i => jI (iB (gX i)))))] H := hP
  have hD : va_D A [(m0, oR (jI ((ms : Nat) : Int)) (jI ((es : Nat) : Int)) th a), ((a 6), .inl (cI, 1080, .inl (fun i => vI (gK i)))), ((a 12), .inl (cJ, 5, .inr (.inl (fun i => vL (gW i))))), ((a 10), .inl (cJ, 90, .inr (.inl (fun i => vL (gF i))))), ((a 11), .inl (cZ, 30, .inl (fun i => jI (iB (gX i)))))] := hD
  refine lv_lstore (lv' := [(12, .long (vL zy)), (10, .long (vL zb)), (8, .long (vL za)), (6, .long (vL (gK ((6 * ((30 * ev) + kv)) + 2)))), (4, .long (vL (gK ((6 * ((30 * ev) + kv)) + 1)))), (3, .int (jI (6 * ((30 * ((ev : Nat) : Int)) + ((kv : Nat) : Int))))), (0, .ref m0), (1, .int (jI ((ev : Nat) : Int))), (2, .int (jI ((kv : Nat) : Int)))]) hx hb dX7_takes_112 hl (by decide) rfl (fun ls hl => ?_)
  refine lv_lload hx hb dX7_takes_114 (lv_at hl 4 rfl) ?_
  refine lv_lload hx hb dX7_takes_116 (lv_at hl 2 rfl) ?_
  refine n_lmul hx hb dX7_takes_118 ?_
  refine lv_lload hx hb dX7_takes_119 (lv_at hl 3 rfl) ?_
  refine lv_lload hx hb dX7_takes_121 (lv_at hl 1 rfl) ?_
  refine n_lmul hx hb dX7_takes_123 ?_
  refine n_ladd hx hb dX7_takes_124 ?_
  refine lv_aload_n hx hb dX7_takes_125 rfl (lv_at hl 6 rfl) ?_
  refine va_get (D := D) (ci := 7) (v := .ref (a 6)) (C := RX7) (T := TX7) (N := 20) hx hb hts iX7 hown hK.1 hP 0 rfl rfl 8 (by decide) f28 (fun _ h9 => h9) rfl dX7_takes_126 ?_
  refine lv_iload_n hx hb dX7_takes_129 rfl (lv_at hl 5 rfl) ?_
  refine n_iconst hx hb dX7_takes_130 ?_
  refine n_iadd hx hb dX7_takes_131 ?_
  refine n_iald (i := ((6 * ((30 * ev) + kv)) + 4)) hx hb hK hP 1 0 rfl htI (by omega) (by omega) (Nat.le_of_ble_eq_true rfl) dX7_takes_132 ?_
  refine n_i2lZ hx hb dX7_takes_133 ?_
  refine n_ladd hx hb dX7_takes_134 ?_
  have ct135 := c_X7_by l D tys (((zv (gK ((6 * ((30 * ev) + kv)) + 1)) * zv za) + (zv (gK ((6 * ((30 * ev) + kv)) + 2)) * zv zb)) + zv (gK ((6 * ((30 * ev) + kv)) + 4))) _ _ (ra_to (rp_a (rp_add (rp_add (rp_mul (rp_v (gK ((6 * ((30 * ev) + kv)) + 1))) (rp_v za)) (rp_mul (rp_v (gK ((6 * ((30 * ev) + kv)) + 2))) (rp_v zb))) (rp_v (gK ((6 * ((30 * ev) + kv)) + 4))))) ezs.symm) (Nat.le_of_ble_eq_true rfl)
  refine k_goL (va_runS (As := [.long (jL (((zv (gK ((6 * ((30 * ev) + kv)) + 1)) * zv za) + (zv (gK ((6 * ((30 * ev) + kv)) + 2)) * zv zb)) + zv (gK ((6 * ((30 * ev) + kv)) + 4))))]) (rest := []) ⟨hx, hb, hml, hown, hts⟩ (ct135.2 _) (va_cwS 1 hts gX7_takes_X7_by rfl rfl rfl (by decide +kernel) ⟨Nat.le_of_ble_eq_true rfl, Nat.le_of_ble_eq_true rfl⟩) (k_pre hK hP hD (is := []) rfl rfl) rfl rfl hl.1 rfl (lv_room (Nat.le_of_ble_eq_true rfl)) dX7_takes_135 ⟨Nat.le_of_ble_eq_true rfl, Nat.le_of_ble_eq_true rfl⟩) ct135.1 hP hD hS hA [] rfl rfl (fun H locs hP hD hS => ?_)
  have hP : va_P D vwCl [(m0, oR (jI ((ms : Nat) : Int)) (jI ((es : Nat) : Int)) th a), ((a 6), .inl (cI, 1080, .inl (fun i => vI (gK i)))), ((a 12), .inl (cJ, 5, .inr (.inl (fun i => vL (gW i))))), ((a 10), .inl (cJ, 90, .inr (.inl (fun i => vL (gF i))))), ((a 11), .inl (cZ, 30, .inl (fun i => jI (iB (gX i)))))] H := hP
  have hD : va_D A [(m0, oR (jI ((ms : Nat) : Int)) (jI ((es : Nat) : Int)) th a), ((a 6), .inl (cI, 1080, .inl (fun i => vI (gK i)))), ((a 12), .inl (cJ, 5, .inr (.inl (fun i => vL (gW i))))), ((a 10), .inl (cJ, 90, .inr (.inl (fun i => vL (gF i))))), ((a 11), .inl (cZ, 30, .inl (fun i => jI (iB (gX i)))))] := hD
  refine lv_lstore (lv' := [(14, .long (vL zs)), (12, .long (vL zy)), (10, .long (vL zb)), (8, .long (vL za)), (6, .long (vL (gK ((6 * ((30 * ev) + kv)) + 2)))), (4, .long (vL (gK ((6 * ((30 * ev) + kv)) + 1)))), (3, .int (jI (6 * ((30 * ((ev : Nat) : Int)) + ((kv : Nat) : Int))))), (0, .ref m0), (1, .int (jI ((ev : Nat) : Int))), (2, .int (jI ((kv : Nat) : Int)))]) hx hb dX7_takes_138 hl (by decide) rfl (fun ls hl => ?_)
  refine lv_lload hx hb dX7_takes_140 (lv_at hl 0 rfl) ?_
  refine lv_lconst (v := jL 0) hx hb dX7_takes_142 rfl ?_
  refine W.lcmp hx hb dX7_takes_143 ?_
  refine n_lif_ne (tgt := 149) hx hb (r64_z _) (by unfold r64; omega) dX7_takes_144 (by decide) (fun h144 => ?_) (fun h144 => False.elim (h9 (zv_eq0.mp h144)))
  refine lv_lload hx hb dX7_takes_149 (lv_at hl 0 rfl) ?_
  have ct151 := c_X7_inverse l D tys zs
  refine k_goL (va_runS (As := [.long (vL zs)]) (rest := []) ⟨hx, hb, hml, hown, hts⟩ (ct151.2 _) (va_cwS 1 hts gX7_takes_X7_inverse rfl rfl rfl (by decide +kernel) ⟨Nat.le_of_ble_eq_true rfl, Nat.le_of_ble_eq_true rfl⟩) (k_pre hK hP hD (is := []) rfl rfl) rfl rfl hl.1 rfl (lv_room (Nat.le_of_ble_eq_true rfl)) dX7_takes_151 ⟨Nat.le_of_ble_eq_true rfl, Nat.le_of_ble_eq_true rfl⟩) ct151.1 hP hD hS hA [] rfl rfl (fun H locs hP hD hS => ?_)
  have hP : va_P D vwCl [(m0, oR (jI ((ms : Nat) : Int)) (jI ((es : Nat) : Int)) th a), ((a 6), .inl (cI, 1080, .inl (fun i => vI (gK i)))), ((a 12), .inl (cJ, 5, .inr (.inl (fun i => vL (gW i))))), ((a 10), .inl (cJ, 90, .inr (.inl (fun i => vL (gF i))))), ((a 11), .inl (cZ, 30, .inl (fun i => jI (iB (gX i)))))] H := hP
  have hD : va_D A [(m0, oR (jI ((ms : Nat) : Int)) (jI ((es : Nat) : Int)) th a), ((a 6), .inl (cI, 1080, .inl (fun i => vI (gK i)))), ((a 12), .inl (cJ, 5, .inr (.inl (fun i => vL (gW i))))), ((a 10), .inl (cJ, 90, .inr (.inl (fun i => vL (gF i))))), ((a 11), .inl (cZ, 30, .inl (fun i => jI (iB (gX i)))))] := hD
  refine lv_lstore (lv' := [(16, .long (vL (zinv zs))), (14, .long (vL zs)), (12, .long (vL zy)), (10, .long (vL zb)), (8, .long (vL za)), (6, .long (vL (gK ((6 * ((30 * ev) + kv)) + 2)))), (4, .long (vL (gK ((6 * ((30 * ev) + kv)) + 1)))), (3, .int (jI (6 * ((30 * ((ev : Nat) : Int)) + ((kv : Nat) : Int))))), (0, .ref m0), (1, .int (jI ((ev : Nat) : Int))), (2, .int (jI ((kv : Nat) : Int)))]) hx hb dX7_takes_154 hl (by decide) rfl (fun ls hl => ?_)
  refine lv_aload_n hx hb dX7_takes_156 rfl (lv_at hl 8 rfl) ?_
  refine va_get (D := D) (ci := 7) (v := .ref (a 10)) (C := RX7) (T := TX7) (N := 20) hx hb hts iX7 hown hK.1 hP 0 rfl rfl 12 (by decide) f42 (fun _ h9 => h9) rfl dX7_takes_157 ?_
  refine n_iconst hx hb dX7_takes_160 ?_
  refine lv_iload_n hx hb dX7_takes_161 rfl (lv_at hl 10 rfl) ?_
  refine n_imul hx hb dX7_takes_162 ?_
  refine lv_lload hx hb dX7_takes_163 (lv_at hl 2 rfl) ?_
  refine n_zlast (i := (3 * kv)) (x := zy) hx hb hK hP hD hS 3 1 rfl htJ (by omega) (by omega) (Nat.le_of_ble_eq_true rfl) dX7_takes_165 (fun H locs hP hD hS => ?_)
  have hP : va_P D vwCl [(m0, oR (jI ((ms : Nat) : Int)) (jI ((es : Nat) : Int)) th a), ((a 6), .inl (cI, 1080, .inl (fun i => vI (gK i)))), ((a 12), .inl (cJ, 5, .inr (.inl (fun i => vL (gW i))))), ((a 10), .inl (cJ, 90, .inr (.inl (fun i => vL ((va_up gF (3 * kv) zy) i))))), ((a 11), .inl (cZ, 30, .inl (fun i => jI (iB (gX i)))))] H := hP
  have hD : va_D A [(m0, oR (jI ((ms : Nat) : Int)) (jI ((es : Nat) : Int)) th a), ((a 6), .inl (cI, 1080, .inl (fun i => vI (gK i)))), ((a 12), .inl (cJ, 5, .inr (.inl (fun i => vL (gW i))))), ((a 10), .inl (cJ, 90, .inr (.inl (fun i => vL ((va_up gF (3 * kv) zy) i))))), ((a 11), .inl (cZ, 30, .inl (fun i => jI (iB (gX i)))))] := hD
  refine lv_aload_n hx hb dX7_takes_166 rfl (lv_at hl 8 rfl) ?_
  refine va_get (D := D) (ci := 7) (v := .ref (a 10)) (C := RX7) (T := TX7) (N := 20) hx hb hts iX7 hown hK.1 hP 0 rfl rfl 12 (by decide) f42 (fun _ h9 => h9) rfl dX7_takes_167 ?_
  refine n_iconst hx hb dX7_takes_170 ?_
  refine lv_iload_n hx hb dX7_takes_171 rfl (lv_at hl 10 rfl) ?_
  refine n_imul hx hb dX7_takes_172 ?_
  refine n_iconst hx hb dX7_takes_173 ?_
  refine n_iadd hx hb dX7_takes_174 ?_
  refine lv_lload hx hb dX7_takes_175 (lv_at hl 1 rfl) ?_
  refine n_zlast (i := (3 * kv + 1)) (x := zs) hx hb hK hP hD hS 3 1 rfl htJ (by omega) (by omega) (Nat.le_of_ble_eq_true rfl) dX7_takes_177 (fun H locs hP hD hS => ?_)
  have hP : va_P D vwCl [(m0, oR (jI ((ms : Nat) : Int)) (jI ((es : Nat) : Int)) th a), ((a 6), .inl (cI, 1080, .inl (fun i => vI (gK i)))), ((a 12), .inl (cJ, 5, .inr (.inl (fun i => vL (gW i))))), ((a 10), .inl (cJ, 90, .inr (.inl (fun i => vL ((va_up (va_up gF (3 * kv) zy) (3 * kv + 1) zs) i))))), ((a 11), .inl (cZ, 30, .inl (fun i => jI (iB (gX i)))))] H := hP
  have hD : va_D A [(m0, oR (jI ((ms : Nat) : Int)) (jI ((es : Nat) : Int)) th a), ((a 6), .inl (cI, 1080, .inl (fun i => vI (gK i)))), ((a 12), .inl (cJ, 5, .inr (.inl (fun i => vL (gW i))))), ((a 10), .inl (cJ, 90, .inr (.inl (fun i => vL ((va_up (va_up gF (3 * kv) zy) (3 * kv + 1) zs) i))))), ((a 11), .inl (cZ, 30, .inl (fun i => jI (iB (gX i)))))] := hD
  refine lv_aload_n hx hb dX7_takes_178 rfl (lv_at hl 8 rfl) ?_
  refine va_get (D := D) (ci := 7) (v := .ref (a 10)) (C := RX7) (T := TX7) (N := 20) hx hb hts iX7 hown hK.1 hP 0 rfl rfl 12 (by decide) f42 (fun _ h9 => h9) rfl dX7_takes_179 ?_
  refine n_iconst hx hb dX7_takes_182 ?_
  refine lv_iload_n hx hb dX7_takes_183 rfl (lv_at hl 10 rfl) ?_
  refine n_imul hx hb dX7_takes_184 ?_
  refine n_iconst hx hb dX7_takes_185 ?_
  refine n_iadd hx hb dX7_takes_186 ?_
  refine lv_lload hx hb dX7_takes_187 (lv_at hl 2 rfl) ?_
  refine lv_lload hx hb dX7_takes_189 (lv_at hl 2 rfl) ?_
  refine n_lmul hx hb dX7_takes_191 ?_
  refine lv_ldc2 (v := jL 10007) hx hb hown k77 dX7_takes_192 ?_
  refine n_lrem hx hb dX7_takes_195 (rp_mul (rp_v zy) (rp_v zy)) (Nat.le_of_ble_eq_true rfl) ?_
  refine lv_lload hx hb dX7_takes_196 (lv_at hl 0 rfl) ?_
  refine n_lmul hx hb dX7_takes_198 ?_
  have ct199 := c_X7_by l D tys (zv (zy * zy) * zv (zinv zs)) _ _ (ra_to (rp_a (rp_mul (rp_v (zy * zy)) (rp_v (zinv zs)))) ezg.symm) (Nat.le_of_ble_eq_true rfl)
  refine k_goL (va_runS (As := [.long (jL (zv (zy * zy) * zv (zinv zs)))]) (rest := [.int (jI ((3 * ((kv : Nat) : Int)) + 2)), .ref (a 10)]) ⟨hx, hb, hml, hown, hts⟩ (ct199.2 _) (va_cwS 1 hts gX7_takes_X7_by rfl rfl rfl (by decide +kernel) ⟨Nat.le_of_ble_eq_true rfl, Nat.le_of_ble_eq_true rfl⟩) (k_pre hK hP hD (is := []) rfl rfl) rfl rfl hl.1 rfl (lv_room (Nat.le_of_ble_eq_true rfl)) dX7_takes_199 ⟨Nat.le_of_ble_eq_true rfl, Nat.le_of_ble_eq_true rfl⟩) ct199.1 hP hD hS hA [] rfl rfl (fun H locs hP hD hS => ?_)
  have hP : va_P D vwCl [(m0, oR (jI ((ms : Nat) : Int)) (jI ((es : Nat) : Int)) th a), ((a 6), .inl (cI, 1080, .inl (fun i => vI (gK i)))), ((a 12), .inl (cJ, 5, .inr (.inl (fun i => vL (gW i))))), ((a 10), .inl (cJ, 90, .inr (.inl (fun i => vL ((va_up (va_up gF (3 * kv) zy) (3 * kv + 1) zs) i))))), ((a 11), .inl (cZ, 30, .inl (fun i => jI (iB (gX i)))))] H := hP
  have hD : va_D A [(m0, oR (jI ((ms : Nat) : Int)) (jI ((es : Nat) : Int)) th a), ((a 6), .inl (cI, 1080, .inl (fun i => vI (gK i)))), ((a 12), .inl (cJ, 5, .inr (.inl (fun i => vL (gW i))))), ((a 10), .inl (cJ, 90, .inr (.inl (fun i => vL ((va_up (va_up gF (3 * kv) zy) (3 * kv + 1) zs) i))))), ((a 11), .inl (cZ, 30, .inl (fun i => jI (iB (gX i)))))] := hD
  refine n_zlast (i := (3 * kv + 2)) (x := zg) hx hb hK hP hD hS 3 1 rfl htJ (by omega) (by omega) (Nat.le_of_ble_eq_true rfl) dX7_takes_202 (fun H locs hP hD hS => ?_)
  have hP : va_P D vwCl [(m0, oR (jI ((ms : Nat) : Int)) (jI ((es : Nat) : Int)) th a), ((a 6), .inl (cI, 1080, .inl (fun i => vI (gK i)))), ((a 12), .inl (cJ, 5, .inr (.inl (fun i => vL (gW i))))), ((a 10), .inl (cJ, 90, .inr (.inl (fun i => vL ((va_up (va_up (va_up gF (3 * kv) zy) (3 * kv + 1) zs) (3 * kv + 2) zg) i))))), ((a 11), .inl (cZ, 30, .inl (fun i => jI (iB (gX i)))))] H := hP
  have hD : va_D A [(m0, oR (jI ((ms : Nat) : Int)) (jI ((es : Nat) : Int)) th a), ((a 6), .inl (cI, 1080, .inl (fun i => vI (gK i)))), ((a 12), .inl (cJ, 5, .inr (.inl (fun i => vL (gW i))))), ((a 10), .inl (cJ, 90, .inr (.inl (fun i => vL ((va_up (va_up (va_up gF (3 * kv) zy) (3 * kv + 1) zs) (3 * kv + 2) zg) i))))), ((a 11), .inl (cZ, 30, .inl (fun i => jI (iB (gX i)))))] := hD
  refine lv_aload_n hx hb dX7_takes_203 rfl (lv_at hl 8 rfl) ?_
  refine va_get (D := D) (ci := 7) (v := .ref (a 11)) (C := RX7) (T := TX7) (N := 20) hx hb hts iX7 hown hK.1 hP 0 rfl rfl 13 (by decide) f45 (fun _ h9 => h9) rfl dX7_takes_204 ?_
  refine lv_iload_n hx hb dX7_takes_207 rfl (lv_at hl 10 rfl) ?_
  refine lv_aload_n hx hb dX7_takes_208 rfl (lv_at hl 8 rfl) ?_
  refine va_get (D := D) (ci := 7) (v := .ref (a 10)) (C := RX7) (T := TX7) (N := 20) hx hb hts iX7 hown hK.1 hP 0 rfl rfl 12 (by decide) f42 (fun _ h9 => h9) rfl dX7_takes_209 ?_
  refine n_iconst hx hb dX7_takes_212 ?_
  refine lv_iload_n hx hb dX7_takes_213 rfl (lv_at hl 10 rfl) ?_
  refine n_imul hx hb dX7_takes_214 ?_
  refine n_iconst hx hb dX7_takes_215 ?_
  refine n_iadd hx hb dX7_takes_216 ?_
  refine n_lald (i := (3 * kv + 2)) hx hb hK hP 3 1 rfl htJ (by omega) (by omega) (Nat.le_of_ble_eq_true rfl) dX7_takes_217 ?_
  refine lv_aload_n hx hb dX7_takes_218 rfl (lv_at hl 8 rfl) ?_
  refine va_get (D := D) (ci := 7) (v := .ref (a 6)) (C := RX7) (T := TX7) (N := 20) hx hb hts iX7 hown hK.1 hP 0 rfl rfl 8 (by decide) f28 (fun _ h9 => h9) rfl dX7_takes_219 ?_
  refine lv_iload_n hx hb dX7_takes_222 rfl (lv_at hl 7 rfl) ?_
  refine n_iconst hx hb dX7_takes_223 ?_
  refine n_iadd hx hb dX7_takes_224 ?_
  refine n_iald (i := ((6 * ((30 * ev) + kv)) + 5)) hx hb hK hP 1 0 rfl htI (by omega) (by omega) (Nat.le_of_ble_eq_true rfl) dX7_takes_225 ?_
  refine n_i2lZ hx hb dX7_takes_226 ?_
  refine W.lcmp hx hb dX7_takes_227 ?_
  refine n_lif_le (tgt := 235) hx hb (r64_z _) (r64_z _) dX7_takes_228 (by decide) (fun h228 => ?_) (fun h228 => False.elim (absurd h228 (by rw [eG]; omega)))
  refine n_iconst hx hb dX7_takes_235 ?_
  refine n_zast (i := kv) (b := false) hx hb hK hP hD hS 4 2 rfl htZ rfl rfl q2 (Nat.le_of_ble_eq_true rfl) dX7_takes_236 (fun H locs hP hD hS => ?_)
  have hP : va_P D vwCl [(m0, oR (jI ((ms : Nat) : Int)) (jI ((es : Nat) : Int)) th a), ((a 6), .inl (cI, 1080, .inl (fun i => vI (gK i)))), ((a 12), .inl (cJ, 5, .inr (.inl (fun i => vL (gW i))))), ((a 10), .inl (cJ, 90, .inr (.inl (fun i => vL ((va_up (va_up (va_up gF (3 * kv) zy) (3 * kv + 1) zs) (3 * kv + 2) zg) i))))), ((a 11), .inl (cZ, 30, .inl (fun i => jI (iB ((va_up gX kv false) i)))))] H := hP
  have hD : va_D A [(m0, oR (jI ((ms : Nat) : Int)) (jI ((es : Nat) : Int)) th a), ((a 6), .inl (cI, 1080, .inl (fun i => vI (gK i)))), ((a 12), .inl (cJ, 5, .inr (.inl (fun i => vL (gW i))))), ((a 10), .inl (cJ, 90, .inr (.inl (fun i => vL ((va_up (va_up (va_up gF (3 * kv) zy) (3 * kv + 1) zs) (3 * kv + 2) zg) i))))), ((a 11), .inl (cZ, 30, .inl (fun i => jI (iB ((va_up gX kv false) i)))))] := hD
  refine lv_aload_n hx hb dX7_takes_237 rfl (lv_at hl 8 rfl) ?_
  refine va_get (D := D) (ci := 7) (v := .ref (a 11)) (C := RX7) (T := TX7) (N := 20) hx hb hts iX7 hown hK.1 hP 0 rfl rfl 13 (by decide) f45 (fun _ h9 => h9) rfl dX7_takes_238 ?_
  refine lv_iload_n hx hb dX7_takes_241 rfl (lv_at hl 10 rfl) ?_
  refine n_zald (i := kv) hx hb hK hP 4 2 rfl htZ rfl q2 (Nat.le_of_ble_eq_true rfl) dX7_takes_242 ?_
  refine n_ifB_ne (tgt := 386) hx hb dX7_takes_243 (by decide) (fun h243 => Bool.noConfusion ((va_up_s gX kv false).symm.trans h243)) (fun h243 => ?_)
  refine lv_aload_n hx hb dX7_takes_246 rfl (lv_at hl 8 rfl) ?_
  refine va_get (D := D) (ci := 7) (v := .ref (a 12)) (C := RX7) (T := TX7) (N := 20) hx hb hts iX7 hown hK.1 hP 0 rfl rfl 14 (by decide) f48 (fun _ h9 => h9) rfl dX7_takes_247 ?_
  refine n_iconst hx hb dX7_takes_250 ?_
  refine lv_aload_n hx hb dX7_takes_251 rfl (lv_at hl 8 rfl) ?_
  refine va_get (D := D) (ci := 7) (v := .ref (a 12)) (C := RX7) (T := TX7) (N := 20) hx hb hts iX7 hown hK.1 hP 0 rfl rfl 14 (by decide) f48 (fun _ h9 => h9) rfl dX7_takes_252 ?_
  refine n_iconst hx hb dX7_takes_255 ?_
  refine n_lald (i := 0) hx hb hK hP 2 1 rfl htJ rfl (Nat.le_of_ble_eq_true rfl) (Nat.le_of_ble_eq_true rfl) dX7_takes_256 ?_
  refine lv_lload hx hb dX7_takes_257 (lv_at hl 4 rfl) ?_
  refine lv_lload hx hb dX7_takes_259 (lv_at hl 0 rfl) ?_
  refine n_lmul hx hb dX7_takes_261 ?_
  refine lv_ldc2 (v := jL 10007) hx hb hown k77 dX7_takes_262 ?_
  refine n_lrem hx hb dX7_takes_265 (rp_mul (rp_v za) (rp_v (zinv zs))) (Nat.le_of_ble_eq_true rfl) ?_
  refine lv_lload hx hb dX7_takes_266 (lv_at hl 2 rfl) ?_
  refine n_lmul hx hb dX7_takes_268 ?_
  refine n_ladd hx hb dX7_takes_269 ?_
  have ct270 := c_X7_by l D tys (zv (gW 0) + (zv (za * (zinv zs)) * zv zy)) _ _ (rp_a (rp_add (rp_v (gW 0)) (rp_mul (rp_v (za * (zinv zs))) (rp_v zy)))) (Nat.le_of_ble_eq_true rfl)
  refine k_goL (va_runS (As := [.long (jL (zv (gW 0) + (zv (za * (zinv zs)) * zv zy)))]) (rest := [.int (jI 0), .ref (a 12)]) ⟨hx, hb, hml, hown, hts⟩ (ct270.2 _) (va_cwS 1 hts gX7_takes_X7_by rfl rfl rfl (by decide +kernel) ⟨Nat.le_of_ble_eq_true rfl, Nat.le_of_ble_eq_true rfl⟩) (k_pre hK hP hD (is := []) rfl rfl) rfl rfl hl.1 rfl (lv_room (Nat.le_of_ble_eq_true rfl)) dX7_takes_270 ⟨Nat.le_of_ble_eq_true rfl, Nat.le_of_ble_eq_true rfl⟩) ct270.1 hP hD hS hA [] rfl rfl (fun H locs hP hD hS => ?_)
  have hP : va_P D vwCl [(m0, oR (jI ((ms : Nat) : Int)) (jI ((es : Nat) : Int)) th a), ((a 6), .inl (cI, 1080, .inl (fun i => vI (gK i)))), ((a 12), .inl (cJ, 5, .inr (.inl (fun i => vL (gW i))))), ((a 10), .inl (cJ, 90, .inr (.inl (fun i => vL ((va_up (va_up (va_up gF (3 * kv) zy) (3 * kv + 1) zs) (3 * kv + 2) zg) i))))), ((a 11), .inl (cZ, 30, .inl (fun i => jI (iB ((va_up gX kv false) i)))))] H := hP
  have hD : va_D A [(m0, oR (jI ((ms : Nat) : Int)) (jI ((es : Nat) : Int)) th a), ((a 6), .inl (cI, 1080, .inl (fun i => vI (gK i)))), ((a 12), .inl (cJ, 5, .inr (.inl (fun i => vL (gW i))))), ((a 10), .inl (cJ, 90, .inr (.inl (fun i => vL ((va_up (va_up (va_up gF (3 * kv) zy) (3 * kv + 1) zs) (3 * kv + 2) zg) i))))), ((a 11), .inl (cZ, 30, .inl (fun i => jI (iB ((va_up gX kv false) i)))))] := hD
  refine n_zlast (i := 0) (x := ((gW 0) + ((za * (zinv zs)) * zy))) hx hb hK hP hD hS 2 1 rfl htJ rfl (Nat.le_of_ble_eq_true rfl) (Nat.le_of_ble_eq_true rfl) dX7_takes_273 (fun H locs hP hD hS => ?_)
  have hP : va_P D vwCl [(m0, oR (jI ((ms : Nat) : Int)) (jI ((es : Nat) : Int)) th a), ((a 6), .inl (cI, 1080, .inl (fun i => vI (gK i)))), ((a 12), .inl (cJ, 5, .inr (.inl (fun i => vL ((va_up gW 0 ((gW 0) + ((za * (zinv zs)) * zy))) i))))), ((a 10), .inl (cJ, 90, .inr (.inl (fun i => vL ((va_up (va_up (va_up gF (3 * kv) zy) (3 * kv + 1) zs) (3 * kv + 2) zg) i))))), ((a 11), .inl (cZ, 30, .inl (fun i => jI (iB ((va_up gX kv false) i)))))] H := hP
  have hD : va_D A [(m0, oR (jI ((ms : Nat) : Int)) (jI ((es : Nat) : Int)) th a), ((a 6), .inl (cI, 1080, .inl (fun i => vI (gK i)))), ((a 12), .inl (cJ, 5, .inr (.inl (fun i => vL ((va_up gW 0 ((gW 0) + ((za * (zinv zs)) * zy))) i))))), ((a 10), .inl (cJ, 90, .inr (.inl (fun i => vL ((va_up (va_up (va_up gF (3 * kv) zy) (3 * kv + 1) zs) (3 * kv + 2) zg) i))))), ((a 11), .inl (cZ, 30, .inl (fun i => jI (iB ((va_up gX kv false) i)))))] := hD
  refine lv_aload_n hx hb dX7_takes_274 rfl (lv_at hl 8 rfl) ?_
  refine va_get (D := D) (ci := 7) (v := .ref (a 12)) (C := RX7) (T := TX7) (N := 20) hx hb hts iX7 hown hK.1 hP 0 rfl rfl 14 (by decide) f48 (fun _ h9 => h9) rfl dX7_takes_275 ?_
  refine n_iconst hx hb dX7_takes_278 ?_
  refine lv_aload_n hx hb dX7_takes_279 rfl (lv_at hl 8 rfl) ?_
  refine va_get (D := D) (ci := 7) (v := .ref (a 12)) (C := RX7) (T := TX7) (N := 20) hx hb hts iX7 hown hK.1 hP 0 rfl rfl 14 (by decide) f48 (fun _ h9 => h9) rfl dX7_takes_280 ?_
  refine n_iconst hx hb dX7_takes_283 ?_
  refine n_lald (i := 1) hx hb hK hP 2 1 rfl htJ rfl (Nat.le_of_ble_eq_true rfl) (Nat.le_of_ble_eq_true rfl) dX7_takes_284 ?_
  refine lv_lload hx hb dX7_takes_285 (lv_at hl 3 rfl) ?_
  refine lv_lload hx hb dX7_takes_287 (lv_at hl 0 rfl) ?_
  refine n_lmul hx hb dX7_takes_289 ?_
  refine lv_ldc2 (v := jL 10007) hx hb hown k77 dX7_takes_290 ?_
  refine n_lrem hx hb dX7_takes_293 (rp_mul (rp_v zb) (rp_v (zinv zs))) (Nat.le_of_ble_eq_true rfl) ?_
  refine lv_lload hx hb dX7_takes_294 (lv_at hl 2 rfl) ?_
  refine n_lmul hx hb dX7_takes_296 ?_
  refine n_ladd hx hb dX7_takes_297 ?_
  have ct298 := c_X7_by l D tys (zv ((va_up gW 0 ((gW 0) + ((za * (zinv zs)) * zy))) 1) + (zv (zb * (zinv zs)) * zv zy)) _ _ (rp_a (rp_add (rp_v ((va_up gW 0 ((gW 0) + ((za * (zinv zs)) * zy))) 1)) (rp_mul (rp_v (zb * (zinv zs))) (rp_v zy)))) (Nat.le_of_ble_eq_true rfl)
  refine k_goL (va_runS (As := [.long (jL (zv ((va_up gW 0 ((gW 0) + ((za * (zinv zs)) * zy))) 1) + (zv (zb * (zinv zs)) * zv zy)))]) (rest := [.int (jI 1), .ref (a 12)]) ⟨hx, hb, hml, hown, hts⟩ (ct298.2 _) (va_cwS 1 hts gX7_takes_X7_by rfl rfl rfl (by decide +kernel) ⟨Nat.le_of_ble_eq_true rfl, Nat.le_of_ble_eq_true rfl⟩) (k_pre hK hP hD (is := []) rfl rfl) rfl rfl hl.1 rfl (lv_room (Nat.le_of_ble_eq_true rfl)) dX7_takes_298 ⟨Nat.le_of_ble_eq_true rfl, Nat.le_of_ble_eq_true rfl⟩) ct298.1 hP hD hS hA [] rfl rfl (fun H locs hP hD hS => ?_)
  have hP : va_P D vwCl [(m0, oR (jI ((ms : Nat) : Int)) (jI ((es : Nat) : Int)) th a), ((a 6), .inl (cI, 1080, .inl (fun i => vI (gK i)))), ((a 12), .inl (cJ, 5, .inr (.inl (fun i => vL ((va_up gW 0 ((gW 0) + ((za * (zinv zs)) * zy))) i))))), ((a 10), .inl (cJ, 90, .inr (.inl (fun i => vL ((va_up (va_up (va_up gF (3 * kv) zy) (3 * kv + 1) zs) (3 * kv + 2) zg) i))))), ((a 11), .inl (cZ, 30, .inl (fun i => jI (iB ((va_up gX kv false) i)))))] H := hP
  have hD : va_D A [(m0, oR (jI ((ms : Nat) : Int)) (jI ((es : Nat) : Int)) th a), ((a 6), .inl (cI, 1080, .inl (fun i => vI (gK i)))), ((a 12), .inl (cJ, 5, .inr (.inl (fun i => vL ((va_up gW 0 ((gW 0) + ((za * (zinv zs)) * zy))) i))))), ((a 10), .inl (cJ, 90, .inr (.inl (fun i => vL ((va_up (va_up (va_up gF (3 * kv) zy) (3 * kv + 1) zs) (3 * kv + 2) zg) i))))), ((a 11), .inl (cZ, 30, .inl (fun i => jI (iB ((va_up gX kv false) i)))))] := hD
  refine n_zlast (i := 1) (x := (((va_up gW 0 ((gW 0) + ((za * (zinv zs)) * zy))) 1) + ((zb * (zinv zs)) * zy))) hx hb hK hP hD hS 2 1 rfl htJ rfl (Nat.le_of_ble_eq_true rfl) (Nat.le_of_ble_eq_true rfl) dX7_takes_301 (fun H locs hP hD hS => ?_)
  have hP : va_P D vwCl [(m0, oR (jI ((ms : Nat) : Int)) (jI ((es : Nat) : Int)) th a), ((a 6), .inl (cI, 1080, .inl (fun i => vI (gK i)))), ((a 12), .inl (cJ, 5, .inr (.inl (fun i => vL ((va_up (va_up gW 0 ((gW 0) + ((za * (zinv zs)) * zy))) 1 (((va_up gW 0 ((gW 0) + ((za * (zinv zs)) * zy))) 1) + ((zb * (zinv zs)) * zy))) i))))), ((a 10), .inl (cJ, 90, .inr (.inl (fun i => vL ((va_up (va_up (va_up gF (3 * kv) zy) (3 * kv + 1) zs) (3 * kv + 2) zg) i))))), ((a 11), .inl (cZ, 30, .inl (fun i => jI (iB ((va_up gX kv false) i)))))] H := hP
  have hD : va_D A [(m0, oR (jI ((ms : Nat) : Int)) (jI ((es : Nat) : Int)) th a), ((a 6), .inl (cI, 1080, .inl (fun i => vI (gK i)))), ((a 12), .inl (cJ, 5, .inr (.inl (fun i => vL ((va_up (va_up gW 0 ((gW 0) + ((za * (zinv zs)) * zy))) 1 (((va_up gW 0 ((gW 0) + ((za * (zinv zs)) * zy))) 1) + ((zb * (zinv zs)) * zy))) i))))), ((a 10), .inl (cJ, 90, .inr (.inl (fun i => vL ((va_up (va_up (va_up gF (3 * kv) zy) (3 * kv + 1) zs) (3 * kv + 2) zg) i))))), ((a 11), .inl (cZ, 30, .inl (fun i => jI (iB ((va_up gX kv false) i)))))] := hD
  refine lv_aload_n hx hb dX7_takes_302 rfl (lv_at hl 8 rfl) ?_
  refine va_get (D := D) (ci := 7) (v := .ref (a 12)) (C := RX7) (T := TX7) (N := 20) hx hb hts iX7 hown hK.1 hP 0 rfl rfl 14 (by decide) f48 (fun _ h9 => h9) rfl dX7_takes_303 ?_
  refine n_iconst hx hb dX7_takes_306 ?_
  refine lv_aload_n hx hb dX7_takes_307 rfl (lv_at hl 8 rfl) ?_
  refine va_get (D := D) (ci := 7) (v := .ref (a 12)) (C := RX7) (T := TX7) (N := 20) hx hb hts iX7 hown hK.1 hP 0 rfl rfl 14 (by decide) f48 (fun _ h9 => h9) rfl dX7_takes_308 ?_
  refine n_iconst hx hb dX7_takes_311 ?_
  refine n_lald (i := 2) hx hb hK hP 2 1 rfl htJ rfl (Nat.le_of_ble_eq_true rfl) (Nat.le_of_ble_eq_true rfl) dX7_takes_312 ?_
  refine lv_lload hx hb dX7_takes_313 (lv_at hl 4 rfl) ?_
  refine lv_lload hx hb dX7_takes_315 (lv_at hl 0 rfl) ?_
  refine n_lmul hx hb dX7_takes_317 ?_
  refine lv_ldc2 (v := jL 10007) hx hb hown k77 dX7_takes_318 ?_
  refine n_lrem hx hb dX7_takes_321 (rp_mul (rp_v za) (rp_v (zinv zs))) (Nat.le_of_ble_eq_true rfl) ?_
  refine lv_lload hx hb dX7_takes_322 (lv_at hl 4 rfl) ?_
  refine n_lmul hx hb dX7_takes_324 ?_
  refine n_lsub hx hb dX7_takes_325 ?_
  have ct326 := c_X7_by l D tys (zv ((va_up (va_up gW 0 ((gW 0) + ((za * (zinv zs)) * zy))) 1 (((va_up gW 0 ((gW 0) + ((za * (zinv zs)) * zy))) 1) + ((zb * (zinv zs)) * zy))) 2) - (zv (za * (zinv zs)) * zv za)) _ _ (ra_sub (rp_a (rp_v ((va_up (va_up gW 0 ((gW 0) + ((za * (zinv zs)) * zy))) 1 (((va_up gW 0 ((gW 0) + ((za * (zinv zs)) * zy))) 1) + ((zb * (zinv zs)) * zy))) 2))) (rp_a (rp_mul (rp_v (za * (zinv zs))) (rp_v za)))) (Nat.le_of_ble_eq_true rfl)
  refine k_goL (va_runS (As := [.long (jL (zv ((va_up (va_up gW 0 ((gW 0) + ((za * (zinv zs)) * zy))) 1 (((va_up gW 0 ((gW 0) + ((za * (zinv zs)) * zy))) 1) + ((zb * (zinv zs)) * zy))) 2) - (zv (za * (zinv zs)) * zv za)))]) (rest := [.int (jI 2), .ref (a 12)]) ⟨hx, hb, hml, hown, hts⟩ (ct326.2 _) (va_cwS 1 hts gX7_takes_X7_by rfl rfl rfl (by decide +kernel) ⟨Nat.le_of_ble_eq_true rfl, Nat.le_of_ble_eq_true rfl⟩) (k_pre hK hP hD (is := []) rfl rfl) rfl rfl hl.1 rfl (lv_room (Nat.le_of_ble_eq_true rfl)) dX7_takes_326 ⟨Nat.le_of_ble_eq_true rfl, Nat.le_of_ble_eq_true rfl⟩) ct326.1 hP hD hS hA [] rfl rfl (fun H locs hP hD hS => ?_)
  have hP : va_P D vwCl [(m0, oR (jI ((ms : Nat) : Int)) (jI ((es : Nat) : Int)) th a), ((a 6), .inl (cI, 1080, .inl (fun i => vI (gK i)))), ((a 12), .inl (cJ, 5, .inr (.inl (fun i => vL ((va_up (va_up gW 0 ((gW 0) + ((za * (zinv zs)) * zy))) 1 (((va_up gW 0 ((gW 0) + ((za * (zinv zs)) * zy))) 1) + ((zb * (zinv zs)) * zy))) i))))), ((a 10), .inl (cJ, 90, .inr (.inl (fun i => vL ((va_up (va_up (va_up gF (3 * kv) zy) (3 * kv + 1) zs) (3 * kv + 2) zg) i))))), ((a 11), .inl (cZ, 30, .inl (fun i => jI (iB ((va_up gX kv false) i)))))] H := hP
  have hD : va_D A [(m0, oR (jI ((ms : Nat) : Int)) (jI ((es : Nat) : Int)) th a), ((a 6), .inl (cI, 1080, .inl (fun i => vI (gK i)))), ((a 12), .inl (cJ, 5, .inr (.inl (fun i => vL ((va_up (va_up gW 0 ((gW 0) + ((za * (zinv zs)) * zy))) 1 (((va_up gW 0 ((gW 0) + ((za * (zinv zs)) * zy))) 1) + ((zb * (zinv zs)) * zy))) i))))), ((a 10), .inl (cJ, 90, .inr (.inl (fun i => vL ((va_up (va_up (va_up gF (3 * kv) zy) (3 * kv + 1) zs) (3 * kv + 2) zg) i))))), ((a 11), .inl (cZ, 30, .inl (fun i => jI (iB ((va_up gX kv false) i)))))] := hD
  refine n_zlast (i := 2) (x := (((va_up (va_up gW 0 ((gW 0) + ((za * (zinv zs)) * zy))) 1 (((va_up gW 0 ((gW 0) + ((za * (zinv zs)) * zy))) 1) + ((zb * (zinv zs)) * zy))) 2) - ((za * (zinv zs)) * za))) hx hb hK hP hD hS 2 1 rfl htJ rfl (Nat.le_of_ble_eq_true rfl) (Nat.le_of_ble_eq_true rfl) dX7_takes_329 (fun H locs hP hD hS => ?_)
  have hP : va_P D vwCl [(m0, oR (jI ((ms : Nat) : Int)) (jI ((es : Nat) : Int)) th a), ((a 6), .inl (cI, 1080, .inl (fun i => vI (gK i)))), ((a 12), .inl (cJ, 5, .inr (.inl (fun i => vL ((va_up (va_up (va_up gW 0 ((gW 0) + ((za * (zinv zs)) * zy))) 1 (((va_up gW 0 ((gW 0) + ((za * (zinv zs)) * zy))) 1) + ((zb * (zinv zs)) * zy))) 2 (((va_up (va_up gW 0 ((gW 0) + ((za * (zinv zs)) * zy))) 1 (((va_up gW 0 ((gW 0) + ((za * (zinv zs)) * zy))) 1) + ((zb * (zinv zs)) * zy))) 2) - ((za * (zinv zs)) * za))) i))))), ((a 10), .inl (cJ, 90, .inr (.inl (fun i => vL ((va_up (va_up (va_up gF (3 * kv) zy) (3 * kv + 1) zs) (3 * kv + 2) zg) i))))), ((a 11), .inl (cZ, 30, .inl (fun i => jI (iB ((va_up gX kv false) i)))))] H := hP
  have hD : va_D A [(m0, oR (jI ((ms : Nat) : Int)) (jI ((es : Nat) : Int)) th a), ((a 6), .inl (cI, 1080, .inl (fun i => vI (gK i)))), ((a 12), .inl (cJ, 5, .inr (.inl (fun i => vL ((va_up (va_up (va_up gW 0 ((gW 0) + ((za * (zinv zs)) * zy))) 1 (((va_up gW 0 ((gW 0) + ((za * (zinv zs)) * zy))) 1) + ((zb * (zinv zs)) * zy))) 2 (((va_up (va_up gW 0 ((gW 0) + ((za * (zinv zs)) * zy))) 1 (((va_up gW 0 ((gW 0) + ((za * (zinv zs)) * zy))) 1) + ((zb * (zinv zs)) * zy))) 2) - ((za * (zinv zs)) * za))) i))))), ((a 10), .inl (cJ, 90, .inr (.inl (fun i => vL ((va_up (va_up (va_up gF (3 * kv) zy) (3 * kv + 1) zs) (3 * kv + 2) zg) i))))), ((a 11), .inl (cZ, 30, .inl (fun i => jI (iB ((va_up gX kv false) i)))))] := hD
  refine lv_aload_n hx hb dX7_takes_330 rfl (lv_at hl 8 rfl) ?_
  refine va_get (D := D) (ci := 7) (v := .ref (a 12)) (C := RX7) (T := TX7) (N := 20) hx hb hts iX7 hown hK.1 hP 0 rfl rfl 14 (by decide) f48 (fun _ h9 => h9) rfl dX7_takes_331 ?_
  refine n_iconst hx hb dX7_takes_334 ?_
  refine lv_aload_n hx hb dX7_takes_335 rfl (lv_at hl 8 rfl) ?_
  refine va_get (D := D) (ci := 7) (v := .ref (a 12)) (C := RX7) (T := TX7) (N := 20) hx hb hts iX7 hown hK.1 hP 0 rfl rfl 14 (by decide) f48 (fun _ h9 => h9) rfl dX7_takes_336 ?_
  refine n_iconst hx hb dX7_takes_339 ?_
  refine n_lald (i := 3) hx hb hK hP 2 1 rfl htJ rfl (Nat.le_of_ble_eq_true rfl) (Nat.le_of_ble_eq_true rfl) dX7_takes_340 ?_
  refine lv_lload hx hb dX7_takes_341 (lv_at hl 4 rfl) ?_
  refine lv_lload hx hb dX7_takes_343 (lv_at hl 0 rfl) ?_
  refine n_lmul hx hb dX7_takes_345 ?_
  refine lv_ldc2 (v := jL 10007) hx hb hown k77 dX7_takes_346 ?_
  refine n_lrem hx hb dX7_takes_349 (rp_mul (rp_v za) (rp_v (zinv zs))) (Nat.le_of_ble_eq_true rfl) ?_
  refine lv_lload hx hb dX7_takes_350 (lv_at hl 3 rfl) ?_
  refine n_lmul hx hb dX7_takes_352 ?_
  refine n_lsub hx hb dX7_takes_353 ?_
  have ct354 := c_X7_by l D tys (zv ((va_up (va_up (va_up gW 0 ((gW 0) + ((za * (zinv zs)) * zy))) 1 (((va_up gW 0 ((gW 0) + ((za * (zinv zs)) * zy))) 1) + ((zb * (zinv zs)) * zy))) 2 (((va_up (va_up gW 0 ((gW 0) + ((za * (zinv zs)) * zy))) 1 (((va_up gW 0 ((gW 0) + ((za * (zinv zs)) * zy))) 1) + ((zb * (zinv zs)) * zy))) 2) - ((za * (zinv zs)) * za))) 3) - (zv (za * (zinv zs)) * zv zb)) _ _ (ra_sub (rp_a (rp_v ((va_up (va_up (va_up gW 0 ((gW 0) + ((za * (zinv zs)) * zy))) 1 (((va_up gW 0 ((gW 0) + ((za * (zinv zs)) * zy))) 1) + ((zb * (zinv zs)) * zy))) 2 (((va_up (va_up gW 0 ((gW 0) + ((za * (zinv zs)) * zy))) 1 (((va_up gW 0 ((gW 0) + ((za * (zinv zs)) * zy))) 1) + ((zb * (zinv zs)) * zy))) 2) - ((za * (zinv zs)) * za))) 3))) (rp_a (rp_mul (rp_v (za * (zinv zs))) (rp_v zb)))) (Nat.le_of_ble_eq_true rfl)
  refine k_goL (va_runS (As := [.long (jL (zv ((va_up (va_up (va_up gW 0 ((gW 0) + ((za * (zinv zs)) * zy))) 1 (((va_up gW 0 ((gW 0) + ((za * (zinv zs)) * zy))) 1) + ((zb * (zinv zs)) * zy))) 2 (((va_up (va_up gW 0 ((gW 0) + ((za * (zinv zs)) * zy))) 1 (((va_up gW 0 ((gW 0) + ((za * (zinv zs)) * zy))) 1) + ((zb * (zinv zs)) * zy))) 2) - ((za * (zinv zs)) * za))) 3) - (zv (za * (zinv zs)) * zv zb)))]) (rest := [.int (jI 3), .ref (a 12)]) ⟨hx, hb, hml, hown, hts⟩ (ct354.2 _) (va_cwS 1 hts gX7_takes_X7_by rfl rfl rfl (by decide +kernel) ⟨Nat.le_of_ble_eq_true rfl, Nat.le_of_ble_eq_true rfl⟩) (k_pre hK hP hD (is := []) rfl rfl) rfl rfl hl.1 rfl (lv_room (Nat.le_of_ble_eq_true rfl)) dX7_takes_354 ⟨Nat.le_of_ble_eq_true rfl, Nat.le_of_ble_eq_true rfl⟩) ct354.1 hP hD hS hA [] rfl rfl (fun H locs hP hD hS => ?_)
  have hP : va_P D vwCl [(m0, oR (jI ((ms : Nat) : Int)) (jI ((es : Nat) : Int)) th a), ((a 6), .inl (cI, 1080, .inl (fun i => vI (gK i)))), ((a 12), .inl (cJ, 5, .inr (.inl (fun i => vL ((va_up (va_up (va_up gW 0 ((gW 0) + ((za * (zinv zs)) * zy))) 1 (((va_up gW 0 ((gW 0) + ((za * (zinv zs)) * zy))) 1) + ((zb * (zinv zs)) * zy))) 2 (((va_up (va_up gW 0 ((gW 0) + ((za * (zinv zs)) * zy))) 1 (((va_up gW 0 ((gW 0) + ((za * (zinv zs)) * zy))) 1) + ((zb * (zinv zs)) * zy))) 2) - ((za * (zinv zs)) * za))) i))))), ((a 10), .inl (cJ, 90, .inr (.inl (fun i => vL ((va_up (va_up (va_up gF (3 * kv) zy) (3 * kv + 1) zs) (3 * kv + 2) zg) i))))), ((a 11), .inl (cZ, 30, .inl (fun i => jI (iB ((va_up gX kv false) i)))))] H := hP
  have hD : va_D A [(m0, oR (jI ((ms : Nat) : Int)) (jI ((es : Nat) : Int)) th a), ((a 6), .inl (cI, 1080, .inl (fun i => vI (gK i)))), ((a 12), .inl (cJ, 5, .inr (.inl (fun i => vL ((va_up (va_up (va_up gW 0 ((gW 0) + ((za * (zinv zs)) * zy))) 1 (((va_up gW 0 ((gW 0) + ((za * (zinv zs)) * zy))) 1) + ((zb * (zinv zs)) * zy))) 2 (((va_up (va_up gW 0 ((gW 0) + ((za * (zinv zs)) * zy))) 1 (((va_up gW 0 ((gW 0) + ((za * (zinv zs)) * zy))) 1) + ((zb * (zinv zs)) * zy))) 2) - ((za * (zinv zs)) * za))) i))))), ((a 10), .inl (cJ, 90, .inr (.inl (fun i => vL ((va_up (va_up (va_up gF (3 * kv) zy) (3 * kv + 1) zs) (3 * kv + 2) zg) i))))), ((a 11), .inl (cZ, 30, .inl (fun i => jI (iB ((va_up gX kv false) i)))))] := hD
  refine n_zlast (i := 3) (x := (((va_up (va_up (va_up gW 0 ((gW 0) + ((za * (zinv zs)) * zy))) 1 (((va_up gW 0 ((gW 0) + ((za * (zinv zs)) * zy))) 1) + ((zb * (zinv zs)) * zy))) 2 (((va_up (va_up gW 0 ((gW 0) + ((za * (zinv zs)) * zy))) 1 (((va_up gW 0 ((gW 0) + ((za * (zinv zs)) * zy))) 1) + ((zb * (zinv zs)) * zy))) 2) - ((za * (zinv zs)) * za))) 3) - ((za * (zinv zs)) * zb))) hx hb hK hP hD hS 2 1 rfl htJ rfl (Nat.le_of_ble_eq_true rfl) (Nat.le_of_ble_eq_true rfl) dX7_takes_357 (fun H locs hP hD hS => ?_)
  have hP : va_P D vwCl [(m0, oR (jI ((ms : Nat) : Int)) (jI ((es : Nat) : Int)) th a), ((a 6), .inl (cI, 1080, .inl (fun i => vI (gK i)))), ((a 12), .inl (cJ, 5, .inr (.inl (fun i => vL ((va_up (va_up (va_up (va_up gW 0 ((gW 0) + ((za * (zinv zs)) * zy))) 1 (((va_up gW 0 ((gW 0) + ((za * (zinv zs)) * zy))) 1) + ((zb * (zinv zs)) * zy))) 2 (((va_up (va_up gW 0 ((gW 0) + ((za * (zinv zs)) * zy))) 1 (((va_up gW 0 ((gW 0) + ((za * (zinv zs)) * zy))) 1) + ((zb * (zinv zs)) * zy))) 2) - ((za * (zinv zs)) * za))) 3 (((va_up (va_up (va_up gW 0 ((gW 0) + ((za * (zinv zs)) * zy))) 1 (((va_up gW 0 ((gW 0) + ((za * (zinv zs)) * zy))) 1) + ((zb * (zinv zs)) * zy))) 2 (((va_up (va_up gW 0 ((gW 0) + ((za * (zinv zs)) * zy))) 1 (((va_up gW 0 ((gW 0) + ((za * (zinv zs)) * zy))) 1) + ((zb * (zinv zs)) * zy))) 2) - ((za * (zinv zs)) * za))) 3) - ((za * (zinv zs)) * zb))) i))))), ((a 10), .inl (cJ, 90, .inr (.inl (fun i => vL ((va_up (va_up (va_up gF (3 * kv) zy) (3 * kv + 1) zs) (3 * kv + 2) zg) i))))), ((a 11), .inl (cZ, 30, .inl (fun i => jI (iB ((va_up gX kv false) i)))))] H := hP
  have hD : va_D A [(m0, oR (jI ((ms : Nat) : Int)) (jI ((es : Nat) : Int)) th a), ((a 6), .inl (cI, 1080, .inl (fun i => vI (gK i)))), ((a 12), .inl (cJ, 5, .inr (.inl (fun i => vL ((va_up (va_up (va_up (va_up gW 0 ((gW 0) + ((za * (zinv zs)) * zy))) 1 (((va_up gW 0 ((gW 0) + ((za * (zinv zs)) * zy))) 1) + ((zb * (zinv zs)) * zy))) 2 (((va_up (va_up gW 0 ((gW 0) + ((za * (zinv zs)) * zy))) 1 (((va_up gW 0 ((gW 0) + ((za * (zinv zs)) * zy))) 1) + ((zb * (zinv zs)) * zy))) 2) - ((za * (zinv zs)) * za))) 3 (((va_up (va_up (va_up gW 0 ((gW 0) + ((za * (zinv zs)) * zy))) 1 (((va_up gW 0 ((gW 0) + ((za * (zinv zs)) * zy))) 1) + ((zb * (zinv zs)) * zy))) 2 (((va_up (va_up gW 0 ((gW 0) + ((za * (zinv zs)) * zy))) 1 (((va_up gW 0 ((gW 0) + ((za * (zinv zs)) * zy))) 1) + ((zb * (zinv zs)) * zy))) 2) - ((za * (zinv zs)) * za))) 3) - ((za * (zinv zs)) * zb))) i))))), ((a 10), .inl (cJ, 90, .inr (.inl (fun i => vL ((va_up (va_up (va_up gF (3 * kv) zy) (3 * kv + 1) zs) (3 * kv + 2) zg) i))))), ((a 11), .inl (cZ, 30, .inl (fun i => jI (iB ((va_up gX kv false) i)))))] := hD
  refine lv_aload_n hx hb dX7_takes_358 rfl (lv_at hl 8 rfl) ?_
  refine va_get (D := D) (ci := 7) (v := .ref (a 12)) (C := RX7) (T := TX7) (N := 20) hx hb hts iX7 hown hK.1 hP 0 rfl rfl 14 (by decide) f48 (fun _ h9 => h9) rfl dX7_takes_359 ?_
  refine n_iconst hx hb dX7_takes_362 ?_
  refine lv_aload_n hx hb dX7_takes_363 rfl (lv_at hl 8 rfl) ?_
  refine va_get (D := D) (ci := 7) (v := .ref (a 12)) (C := RX7) (T := TX7) (N := 20) hx hb hts iX7 hown hK.1 hP 0 rfl rfl 14 (by decide) f48 (fun _ h9 => h9) rfl dX7_takes_364 ?_
  refine n_iconst hx hb dX7_takes_367 ?_
  refine n_lald (i := 4) hx hb hK hP 2 1 rfl htJ rfl (Nat.le_of_ble_eq_true rfl) (Nat.le_of_ble_eq_true rfl) dX7_takes_368 ?_
  refine lv_lload hx hb dX7_takes_369 (lv_at hl 3 rfl) ?_
  refine lv_lload hx hb dX7_takes_371 (lv_at hl 0 rfl) ?_
  refine n_lmul hx hb dX7_takes_373 ?_
  refine lv_ldc2 (v := jL 10007) hx hb hown k77 dX7_takes_374 ?_
  refine n_lrem hx hb dX7_takes_377 (rp_mul (rp_v zb) (rp_v (zinv zs))) (Nat.le_of_ble_eq_true rfl) ?_
  refine lv_lload hx hb dX7_takes_378 (lv_at hl 3 rfl) ?_
  refine n_lmul hx hb dX7_takes_380 ?_
  refine n_lsub hx hb dX7_takes_381 ?_
  have ct382 := c_X7_by l D tys (zv ((va_up (va_up (va_up (va_up gW 0 ((gW 0) + ((za * (zinv zs)) * zy))) 1 (((va_up gW 0 ((gW 0) + ((za * (zinv zs)) * zy))) 1) + ((zb * (zinv zs)) * zy))) 2 (((va_up (va_up gW 0 ((gW 0) + ((za * (zinv zs)) * zy))) 1 (((va_up gW 0 ((gW 0) + ((za * (zinv zs)) * zy))) 1) + ((zb * (zinv zs)) * zy))) 2) - ((za * (zinv zs)) * za))) 3 (((va_up (va_up (va_up gW 0 ((gW 0) + ((za * (zinv zs)) * zy))) 1 (((va_up gW 0 ((gW 0) + ((za * (zinv zs)) * zy))) 1) + ((zb * (zinv zs)) * zy))) 2 (((va_up (va_up gW 0 ((gW 0) + ((za * (zinv zs)) * zy))) 1 (((va_up gW 0 ((gW 0) + ((za * (zinv zs)) * zy))) 1) + ((zb * (zinv zs)) * zy))) 2) - ((za * (zinv zs)) * za))) 3) - ((za * (zinv zs)) * zb))) 4) - (zv (zb * (zinv zs)) * zv zb)) _ _ (ra_sub (rp_a (rp_v ((va_up (va_up (va_up (va_up gW 0 ((gW 0) + ((za * (zinv zs)) * zy))) 1 (((va_up gW 0 ((gW 0) + ((za * (zinv zs)) * zy))) 1) + ((zb * (zinv zs)) * zy))) 2 (((va_up (va_up gW 0 ((gW 0) + ((za * (zinv zs)) * zy))) 1 (((va_up gW 0 ((gW 0) + ((za * (zinv zs)) * zy))) 1) + ((zb * (zinv zs)) * zy))) 2) - ((za * (zinv zs)) * za))) 3 (((va_up (va_up (va_up gW 0 ((gW 0) + ((za * (zinv zs)) * zy))) 1 (((va_up gW 0 ((gW 0) + ((za * (zinv zs)) * zy))) 1) + ((zb * (zinv zs)) * zy))) 2 (((va_up (va_up gW 0 ((gW 0) + ((za * (zinv zs)) * zy))) 1 (((va_up gW 0 ((gW 0) + ((za * (zinv zs)) * zy))) 1) + ((zb * (zinv zs)) * zy))) 2) - ((za * (zinv zs)) * za))) 3) - ((za * (zinv zs)) * zb))) 4))) (rp_a (rp_mul (rp_v (zb * (zinv zs))) (rp_v zb)))) (Nat.le_of_ble_eq_true rfl)
  refine k_goL (va_runS (As := [.long (jL (zv ((va_up (va_up (va_up (va_up gW 0 ((gW 0) + ((za * (zinv zs)) * zy))) 1 (((va_up gW 0 ((gW 0) + ((za * (zinv zs)) * zy))) 1) + ((zb * (zinv zs)) * zy))) 2 (((va_up (va_up gW 0 ((gW 0) + ((za * (zinv zs)) * zy))) 1 (((va_up gW 0 ((gW 0) + ((za * (zinv zs)) * zy))) 1) + ((zb * (zinv zs)) * zy))) 2) - ((za * (zinv zs)) * za))) 3 (((va_up (va_up (va_up gW 0 ((gW 0) + ((za * (zinv zs)) * zy))) 1 (((va_up gW 0 ((gW 0) + ((za * (zinv zs)) * zy))) 1) + ((zb * (zinv zs)) * zy))) 2 (((va_up (va_up gW 0 ((gW 0) + ((za * (zinv zs)) * zy))) 1 (((va_up gW 0 ((gW 0) + ((za * (zinv zs)) * zy))) 1) + ((zb * (zinv zs)) * zy))) 2) - ((za * (zinv zs)) * za))) 3) - ((za * (zinv zs)) * zb))) 4) - (zv (zb * (zinv zs)) * zv zb)))]) (rest := [.int (jI 4), .ref (a 12)]) ⟨hx, hb, hml, hown, hts⟩ (ct382.2 _) (va_cwS 1 hts gX7_takes_X7_by rfl rfl rfl (by decide +kernel) ⟨Nat.le_of_ble_eq_true rfl, Nat.le_of_ble_eq_true rfl⟩) (k_pre hK hP hD (is := []) rfl rfl) rfl rfl hl.1 rfl (lv_room (Nat.le_of_ble_eq_true rfl)) dX7_takes_382 ⟨Nat.le_of_ble_eq_true rfl, Nat.le_of_ble_eq_true rfl⟩) ct382.1 hP hD hS hA [] rfl rfl (fun H locs hP hD hS => ?_)
  have hP : va_P D vwCl [(m0, oR (jI ((ms : Nat) : Int)) (jI ((es : Nat) : Int)) th a), ((a 6), .inl (cI, 1080, .inl (fun i => vI (gK i)))), ((a 12), .inl (cJ, 5, .inr (.inl (fun i => vL ((va_up (va_up (va_up (va_up gW 0 ((gW 0) + ((za * (zinv zs)) * zy))) 1 (((va_up gW 0 ((gW 0) + ((za * (zinv zs)) * zy))) 1) + ((zb * (zinv zs)) * zy))) 2 (((va_up (va_up gW 0 ((gW 0) + ((za * (zinv zs)) * zy))) 1 (((va_up gW 0 ((gW 0) + ((za * (zinv zs)) * zy))) 1) + ((zb * (zinv zs)) * zy))) 2) - ((za * (zinv zs)) * za))) 3 (((va_up (va_up (va_up gW 0 ((gW 0) + ((za * (zinv zs)) * zy))) 1 (((va_up gW 0 ((gW 0) + ((za * (zinv zs)) * zy))) 1) + ((zb * (zinv zs)) * zy))) 2 (((va_up (va_up gW 0 ((gW 0) + ((za * (zinv zs)) * zy))) 1 (((va_up gW 0 ((gW 0) + ((za * (zinv zs)) * zy))) 1) + ((zb * (zinv zs)) * zy))) 2) - ((za * (zinv zs)) * za))) 3) - ((za * (zinv zs)) * zb))) i))))), ((a 10), .inl (cJ, 90, .inr (.inl (fun i => vL ((va_up (va_up (va_up gF (3 * kv) zy) (3 * kv + 1) zs) (3 * kv + 2) zg) i))))), ((a 11), .inl (cZ, 30, .inl (fun i => jI (iB ((va_up gX kv false) i)))))] H := hP
  have hD : va_D A [(m0, oR (jI ((ms : Nat) : Int)) (jI ((es : Nat) : Int)) th a), ((a 6), .inl (cI, 1080, .inl (fun i => vI (gK i)))), ((a 12), .inl (cJ, 5, .inr (.inl (fun i => vL ((va_up (va_up (va_up (va_up gW 0 ((gW 0) + ((za * (zinv zs)) * zy))) 1 (((va_up gW 0 ((gW 0) + ((za * (zinv zs)) * zy))) 1) + ((zb * (zinv zs)) * zy))) 2 (((va_up (va_up gW 0 ((gW 0) + ((za * (zinv zs)) * zy))) 1 (((va_up gW 0 ((gW 0) + ((za * (zinv zs)) * zy))) 1) + ((zb * (zinv zs)) * zy))) 2) - ((za * (zinv zs)) * za))) 3 (((va_up (va_up (va_up gW 0 ((gW 0) + ((za * (zinv zs)) * zy))) 1 (((va_up gW 0 ((gW 0) + ((za * (zinv zs)) * zy))) 1) + ((zb * (zinv zs)) * zy))) 2 (((va_up (va_up gW 0 ((gW 0) + ((za * (zinv zs)) * zy))) 1 (((va_up gW 0 ((gW 0) + ((za * (zinv zs)) * zy))) 1) + ((zb * (zinv zs)) * zy))) 2) - ((za * (zinv zs)) * za))) 3) - ((za * (zinv zs)) * zb))) i))))), ((a 10), .inl (cJ, 90, .inr (.inl (fun i => vL ((va_up (va_up (va_up gF (3 * kv) zy) (3 * kv + 1) zs) (3 * kv + 2) zg) i))))), ((a 11), .inl (cZ, 30, .inl (fun i => jI (iB ((va_up gX kv false) i)))))] := hD
  refine n_zlast (i := 4) (x := (((va_up (va_up (va_up (va_up gW 0 ((gW 0) + ((za * (zinv zs)) * zy))) 1 (((va_up gW 0 ((gW 0) + ((za * (zinv zs)) * zy))) 1) + ((zb * (zinv zs)) * zy))) 2 (((va_up (va_up gW 0 ((gW 0) + ((za * (zinv zs)) * zy))) 1 (((va_up gW 0 ((gW 0) + ((za * (zinv zs)) * zy))) 1) + ((zb * (zinv zs)) * zy))) 2) - ((za * (zinv zs)) * za))) 3 (((va_up (va_up (va_up gW 0 ((gW 0) + ((za * (zinv zs)) * zy))) 1 (((va_up gW 0 ((gW 0) + ((za * (zinv zs)) * zy))) 1) + ((zb * (zinv zs)) * zy))) 2 (((va_up (va_up gW 0 ((gW 0) + ((za * (zinv zs)) * zy))) 1 (((va_up gW 0 ((gW 0) + ((za * (zinv zs)) * zy))) 1) + ((zb * (zinv zs)) * zy))) 2) - ((za * (zinv zs)) * za))) 3) - ((za * (zinv zs)) * zb))) 4) - ((zb * (zinv zs)) * zb))) hx hb hK hP hD hS 2 1 rfl htJ rfl (Nat.le_of_ble_eq_true rfl) (Nat.le_of_ble_eq_true rfl) dX7_takes_385 (fun H locs hP hD hS => ?_)
  have hP : va_P D vwCl [(m0, oR (jI ((ms : Nat) : Int)) (jI ((es : Nat) : Int)) th a), ((a 6), .inl (cI, 1080, .inl (fun i => vI (gK i)))), ((a 12), .inl (cJ, 5, .inr (.inl (fun i => vL ((va_up (va_up (va_up (va_up (va_up gW 0 ((gW 0) + ((za * (zinv zs)) * zy))) 1 (((va_up gW 0 ((gW 0) + ((za * (zinv zs)) * zy))) 1) + ((zb * (zinv zs)) * zy))) 2 (((va_up (va_up gW 0 ((gW 0) + ((za * (zinv zs)) * zy))) 1 (((va_up gW 0 ((gW 0) + ((za * (zinv zs)) * zy))) 1) + ((zb * (zinv zs)) * zy))) 2) - ((za * (zinv zs)) * za))) 3 (((va_up (va_up (va_up gW 0 ((gW 0) + ((za * (zinv zs)) * zy))) 1 (((va_up gW 0 ((gW 0) + ((za * (zinv zs)) * zy))) 1) + ((zb * (zinv zs)) * zy))) 2 (((va_up (va_up gW 0 ((gW 0) + ((za * (zinv zs)) * zy))) 1 (((va_up gW 0 ((gW 0) + ((za * (zinv zs)) * zy))) 1) + ((zb * (zinv zs)) * zy))) 2) - ((za * (zinv zs)) * za))) 3) - ((za * (zinv zs)) * zb))) 4 (((va_up (va_up (va_up (va_up gW 0 ((gW 0) + ((za * (zinv zs)) * zy))) 1 (((va_up gW 0 ((gW 0) + ((za * (zinv zs)) * zy))) 1) + ((zb * (zinv zs)) * zy))) 2 (((va_up (va_up gW 0 ((gW 0) + ((za * (zinv zs)) * zy))) 1 (((va_up gW 0 ((gW 0) + ((za * (zinv zs)) * zy))) 1) + ((zb * (zinv zs)) * zy))) 2) - ((za * (zinv zs)) * za))) 3 (((va_up (va_up (va_up gW 0 ((gW 0) + ((za * (zinv zs)) * zy))) 1 (((va_up gW 0 ((gW 0) + ((za * (zinv zs)) * zy))) 1) + ((zb * (zinv zs)) * zy))) 2 (((va_up (va_up gW 0 ((gW 0) + ((za * (zinv zs)) * zy))) 1 (((va_up gW 0 ((gW 0) + ((za * (zinv zs)) * zy))) 1) + ((zb * (zinv zs)) * zy))) 2) - ((za * (zinv zs)) * za))) 3) - ((za * (zinv zs)) * zb))) 4) - ((zb * (zinv zs)) * zb))) i))))), ((a 10), .inl (cJ, 90, .inr (.inl (fun i => vL ((va_up (va_up (va_up gF (3 * kv) zy) (3 * kv + 1) zs) (3 * kv + 2) zg) i))))), ((a 11), .inl (cZ, 30, .inl (fun i => jI (iB ((va_up gX kv false) i)))))] H := hP
  have hD : va_D A [(m0, oR (jI ((ms : Nat) : Int)) (jI ((es : Nat) : Int)) th a), ((a 6), .inl (cI, 1080, .inl (fun i => vI (gK i)))), ((a 12), .inl (cJ, 5, .inr (.inl (fun i => vL ((va_up (va_up (va_up (va_up (va_up gW 0 ((gW 0) + ((za * (zinv zs)) * zy))) 1 (((va_up gW 0 ((gW 0) + ((za * (zinv zs)) * zy))) 1) + ((zb * (zinv zs)) * zy))) 2 (((va_up (va_up gW 0 ((gW 0) + ((za * (zinv zs)) * zy))) 1 (((va_up gW 0 ((gW 0) + ((za * (zinv zs)) * zy))) 1) + ((zb * (zinv zs)) * zy))) 2) - ((za * (zinv zs)) * za))) 3 (((va_up (va_up (va_up gW 0 ((gW 0) + ((za * (zinv zs)) * zy))) 1 (((va_up gW 0 ((gW 0) + ((za * (zinv zs)) * zy))) 1) + ((zb * (zinv zs)) * zy))) 2 (((va_up (va_up gW 0 ((gW 0) + ((za * (zinv zs)) * zy))) 1 (((va_up gW 0 ((gW 0) + ((za * (zinv zs)) * zy))) 1) + ((zb * (zinv zs)) * zy))) 2) - ((za * (zinv zs)) * za))) 3) - ((za * (zinv zs)) * zb))) 4 (((va_up (va_up (va_up (va_up gW 0 ((gW 0) + ((za * (zinv zs)) * zy))) 1 (((va_up gW 0 ((gW 0) + ((za * (zinv zs)) * zy))) 1) + ((zb * (zinv zs)) * zy))) 2 (((va_up (va_up gW 0 ((gW 0) + ((za * (zinv zs)) * zy))) 1 (((va_up gW 0 ((gW 0) + ((za * (zinv zs)) * zy))) 1) + ((zb * (zinv zs)) * zy))) 2) - ((za * (zinv zs)) * za))) 3 (((va_up (va_up (va_up gW 0 ((gW 0) + ((za * (zinv zs)) * zy))) 1 (((va_up gW 0 ((gW 0) + ((za * (zinv zs)) * zy))) 1) + ((zb * (zinv zs)) * zy))) 2 (((va_up (va_up gW 0 ((gW 0) + ((za * (zinv zs)) * zy))) 1 (((va_up gW 0 ((gW 0) + ((za * (zinv zs)) * zy))) 1) + ((zb * (zinv zs)) * zy))) 2) - ((za * (zinv zs)) * za))) 3) - ((za * (zinv zs)) * zb))) 4) - ((zb * (zinv zs)) * zb))) i))))), ((a 10), .inl (cJ, 90, .inr (.inl (fun i => vL ((va_up (va_up (va_up gF (3 * kv) zy) (3 * kv + 1) zs) (3 * kv + 2) zg) i))))), ((a 11), .inl (cZ, 30, .inl (fun i => jI (iB ((va_up gX kv false) i)))))] := hD
  refine n_iconst hx hb dX7_takes_386 ?_
  exact k_zret (b := true) hx hb hr hlocks dX7_takes_387 hP hS rfl rfl
