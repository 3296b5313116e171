/-! the law: does, one call of the class, caught -/
def rcm : Nat → Int
  | _ => -1
def rc2 : Nat → Int
  | 1 => -3
  | _ => -2
def rcp : Nat → Int
  | 1 => -3
  | _ => -1
def rc3 : Nat → Int
  | 1 => -3
  | 2 => -2
  | _ => -1

set_option maxHeartbeats 8000000 in
set_option maxRecDepth 100000 in
theorem w_dropped (l : Launch) (D : va_G) (tys : List (ClassId × FieldType)) {cI cE cG cM cS : ClassId} (x0 q0 q1 : Nat) (qr : Nat → Nat) (ms es : Nat) (gE gM gB : Nat → Zp) (gT : Nat → Nat) (gG : Nat → Zp) (gN : Nat → Nat) (gK : Nat → Zp) (gD : Nat → Bool) (κ : Nat → EG) (b1 b2 : Int32) (g2 : SG) (k : Nat) (hC : CDv l D tys cI cE cG cM cS x0 q0 q1 qr xcp yX6_drop wsX6_drop [.int b1, .int b2] (ms, es, gE, gM, gB, gT, gG, gN, gK, gD) κ g2 k 3 18) : CtG (SX := Nat → EG) l D tys yL_dropped wsL_dropped 10 184 3 18 [.ref x0, .int b1, .int b2] (CW cI cE cG cM cS x0 q0 q1 qr (ms, es, gE, gM, gB, gT, gG, gN, gK, gD) κ) (fun A => ENI (S := Nat → EG) D A (fun r κ' => k = 0 ∧ r = jI 0 ∧ INV g2 κ') (fun κ' => (CW cI cE cG cM cS x0 q0 q1 qr g2 κ')) (fun _ => [])) (fun E κ' => xcp k = some E ∧ INV g2 κ') (fun κ' => (CW cI cE cG cM cS x0 q0 q1 qr g2 κ')) := by
  refine CtG.of (cc := cL_dropped) (maxL := 3) (by decide +kernel) rfl (Nat.le_of_ble_eq_true rfl) ?_
  intro p e s m below meth c A ls hcx htab hK hX hZ hP hD hA hl
  obtain ⟨hx, hb, hr, hml, hown, hts, hlocks⟩ := hcx
  have hS : va_S A s.heap s.heap [] := va_S.rf
  have hown : s.vm.findClass RL = some m.cls := hown
  have hl : lv_has ls 3 [(0, .ref x0), (1, .int b1), (2, .int b2)] := hl
  rw [← List.append_nil (CW cI cE cG cM cS x0 q0 q1 qr (ms, es, gE, gM, gB, gT, gG, gN, gK, gD) κ)] at hP hD
  refine lv_aload_n hx hb dL_dropped_0 rfl (lv_at hl 0 rfl) ?_
  refine lv_iload_n hx hb dL_dropped_1 rfl (lv_at hl 1 rfl) ?_
  refine lv_iload_n hx hb dL_dropped_2 rfl (lv_at hl 2 rfl) ?_
  refine b_goV (vx_runV (As := [.int b1, .int b2]) (rest := []) ⟨hx, hb, hml, hown, hts⟩ (hC _) (cwV 2 hts gL_dropped_X6_drop rfl rfl rfl (by decide +kernel) ⟨(Nat.le_of_ble_eq_true rfl), (Nat.le_of_ble_eq_true rfl)⟩) ⟨(b_pre hK hX hZ hP hD hS hA).1, va_recv hK.1 hP (ci := 6) (q0 := 0) rfl rfl, (b_pre hK hX hZ hP hD hS hA).2⟩ rfl rfl hl.1 rfl (lv_room (Nat.le_of_ble_eq_true rfl)) dL_dropped_3 ⟨(Nat.le_of_ble_eq_true rfl), (Nat.le_of_ble_eq_true rfl)⟩) hP hD hS hA (fun E ce q9 κ2 H locs hpx hP hD hS h7 h8 h9 => x_out htab hlocks h7 h8 h9 κ2 (by rw [List.append_nil] at hP; exact hP) (by rw [List.append_nil] at hD; exact hD) hS hpx (Nat.le_of_ble_eq_true rfl) (Nat.le_of_ble_eq_true rfl)) (fun κ2 H locs hpost hP hD hS => ?_)
  have hP : va_P D vwCl ((CW cI cE cG cM cS x0 q0 q1 qr g2 κ2) ++ []) H := hP
  have hD : va_D A ((CW cI cE cG cM cS x0 q0 q1 qr g2 κ2) ++ []) := hD
  rw [List.append_nil] at hP hD
  refine n_iconst hx hb dL_dropped_6 ?_
  exact x_iret κ2 hx hb hr hlocks dL_dropped_7 (Nat.le_of_ble_eq_true rfl) (Nat.le_of_ble_eq_true rfl) hP hD hS ⟨hpost.1, rfl, hpost.2⟩

set_option maxHeartbeats 8000000 in
set_option maxRecDepth 100000 in
theorem w_does_model (l : Launch) (D : va_G) (tys : List (ClassId × FieldType)) {cI cE cG cM cS : ClassId} (x0 q0 q1 : Nat) (qr : Nat → Nat) (ms es : Nat) (gE gM gB : Nat → Zp) (gT : Nat → Nat) (gG : Nat → Zp) (gN : Nat → Nat) (gK : Nat → Zp) (gD : Nat → Bool) (κ : Nat → EG) (b1 b2 b3 b4 b5 b6 : Int32) (g2 : SG) (k : Nat) (v : Int32) (hC : CDo l D tys cI cE cG cM cS x0 q0 q1 qr xcm yX6_model wsX6_model [] (ms, es, gE, gM, gB, gT, gG, gN, gK, gD) κ g2 k v 1 6) : CtW (S := Nat → EG) l D tys yL_does wsL_does 11 240 1 6 [.ref x0, .int (jI 0), .int b1, .int b2, .int b3, .int b4, .int b5, .int b6] (fun (r : Int32) (u : Nat → EG) => r = (if k = 0 then v else jI (rcm k)) ∧ INV g2 u) (CW cI cE cG cM cS x0 q0 q1 qr (ms, es, gE, gM, gB, gT, gG, gN, gK, gD) κ) (fun u => (CW cI cE cG cM cS x0 q0 q1 qr g2 u)) := by
  refine CtW.of (cc := cL_does) (maxL := 9) (hh := [(0, 242, 243, 64), (0, 242, 248, 66), (0, 242, 253, 68)]) (by decide +kernel) rfl (Nat.le_of_ble_eq_true rfl) ?_
  intro p e s m below meth c A ls hcx htab hK hX hZ hN hP hD hA hl
  obtain ⟨hx, hb, hr, hml, hown, hts, hlocks⟩ := hcx
  have hS : va_S A s.heap s.heap [] := va_S.rf
  have hown : s.vm.findClass RL = some m.cls := hown
  have hl : lv_has ls 9 [(0, .ref x0), (1, .int (jI 0)), (2, .int b1), (3, .int b2), (4, .int b3), (5, .int b4), (6, .int b5), (7, .int b6)] := hl
  rw [← List.append_nil (CW cI cE cG cM cS x0 q0 q1 qr (ms, es, gE, gM, gB, gT, gG, gN, gK, gD) κ)] at hP hD
  refine lv_iload_n hx hb dL_does_0 rfl (lv_at hl 1 rfl) ?_
  refine n_if_ne (tgt := 11) hx hb (by unfold r32; decide) dL_does_1 (by decide) (fun h1 => False.elim (by revert h1; decide)) (fun h1 => ?_)
  refine lv_aload_n hx hb dL_does_4 rfl (lv_at hl 0 rfl) ?_
  refine b_goI (vx_runV (As := []) (rest := []) ⟨hx, hb, hml, hown, hts⟩ (hC _) (cwV 0 hts gL_does_X6_model rfl rfl rfl (by decide +kernel) ⟨(Nat.le_of_ble_eq_true rfl), (Nat.le_of_ble_eq_true rfl)⟩) ⟨(b_pre hK hX hZ hP hD hS hA).1, va_recv hK.1 hP (ci := 6) (q0 := 0) rfl rfl, (b_pre hK hX hZ hP hD hS hA).2⟩ rfl rfl hl.1 rfl (lv_room (Nat.le_of_ble_eq_true rfl)) dL_does_5 ⟨(Nat.le_of_ble_eq_true rfl), (Nat.le_of_ble_eq_true rfl)⟩) hP hD hS hA (fun E ce q9 κ2 H locs hpx hP hD hS h7 h8 h9 => ?_) (fun r κ2 H locs hpost hP hD hS => ?_)
  · have hP : va_P D vwCl ((CW cI cE cG cM cS x0 q0 q1 qr g2 κ2) ++ []) H := hP
    have hD : va_D A ((CW cI cE cG cM cS x0 q0 q1 qr g2 κ2) ++ []) := hD
    rw [List.append_nil] at hP hD
    rcases xcm_i hpx.1 with ⟨hk0, hE⟩
    · subst hk0
      subst hE
      refine g_c3 hown htab (by decide) (hts (.classLink RL 64 xIOB) (by decide +kernel)) hN.2.1 (by decide) (hts (.classLink RL 66 xIAE) (by decide +kernel)) hN.2.2 (by decide) (by decide) (hts (.classLink RL 68 xISE) (by decide +kernel)) (xcl_ISE hX) h7 h8 h9 ?_
      refine lv_astore (lv' := [(8, .ref q9), (0, .ref x0), (1, .int (jI 0)), (2, .int b1), (3, .int b2), (4, .int b3), (5, .int b4), (6, .int b5), (7, .int b6)]) hx hb dL_does_253 hl (by decide) rfl (fun ls hl => ?_)
      refine n_iconst hx hb dL_does_255 ?_
      exact n_iret κ2 hx hb hr hlocks dL_does_256 hP hD hS ⟨rfl, hpx.2⟩
  · obtain ⟨hk0, hrv, hI2⟩ := hpost
    have hP : va_P D vwCl ((CW cI cE cG cM cS x0 q0 q1 qr g2 κ2) ++ []) H := hP
    have hD : va_D A ((CW cI cE cG cM cS x0 q0 q1 qr g2 κ2) ++ []) := hD
    rw [List.append_nil] at hP hD
    refine lv_goto (tgt := 242) hx hb dL_does_8 (by decide) ?_
    exact n_iret κ2 hx hb hr hlocks dL_does_242 hP hD hS ⟨by rw [hk0]; exact hrv, hI2⟩

set_option maxHeartbeats 8000000 in
set_option maxRecDepth 100000 in
theorem w_does_entry (l : Launch) (D : va_G) (tys : List (ClassId × FieldType)) {cI cE cG cM cS : ClassId} (x0 q0 q1 : Nat) (qr : Nat → Nat) (ms es : Nat) (gE gM gB : Nat → Zp) (gT : Nat → Nat) (gG : Nat → Zp) (gN : Nat → Nat) (gK : Nat → Zp) (gD : Nat → Bool) (κ : Nat → EG) (b1 b2 b3 b4 b5 b6 : Int32) (g2 : SG) (k : Nat) (v : Int32) (hC : CDo l D tys cI cE cG cM cS x0 q0 q1 qr xc2 yX6_entry wsX6_entry [.int b1, .int b2, .int b3] (ms, es, gE, gM, gB, gT, gG, gN, gK, gD) κ g2 k v 3 18) : CtW (S := Nat → EG) l D tys yL_does wsL_does 11 240 3 18 [.ref x0, .int (jI 1), .int b1, .int b2, .int b3, .int b4, .int b5, .int b6] (fun (r : Int32) (u : Nat → EG) => r = (if k = 0 then v else jI (rc2 k)) ∧ INV g2 u) (CW cI cE cG cM cS x0 q0 q1 qr (ms, es, gE, gM, gB, gT, gG, gN, gK, gD) κ) (fun u => (CW cI cE cG cM cS x0 q0 q1 qr g2 u)) := by
  refine CtW.of (cc := cL_does) (maxL := 9) (hh := [(0, 242, 243, 64), (0, 242, 248, 66), (0, 242, 253, 68)]) (by decide +kernel) rfl (Nat.le_of_ble_eq_true rfl) ?_
  intro p e s m below meth c A ls hcx htab hK hX hZ hN hP hD hA hl
  obtain ⟨hx, hb, hr, hml, hown, hts, hlocks⟩ := hcx
  have hS : va_S A s.heap s.heap [] := va_S.rf
  have hown : s.vm.findClass RL = some m.cls := hown
  have hl : lv_has ls 9 [(0, .ref x0), (1, .int (jI 1)), (2, .int b1), (3, .int b2), (4, .int b3), (5, .int b4), (6, .int b5), (7, .int b6)] := hl
  rw [← List.append_nil (CW cI cE cG cM cS x0 q0 q1 qr (ms, es, gE, gM, gB, gT, gG, gN, gK, gD) κ)] at hP hD
  refine lv_iload_n hx hb dL_does_0 rfl (lv_at hl 1 rfl) ?_
  refine n_if_ne (tgt := 11) hx hb (by unfold r32; decide) dL_does_1 (by decide) (fun h1 => ?_) (fun h1 => False.elim (by revert h1; decide))
  refine lv_iload_n hx hb dL_does_11 rfl (lv_at hl 1 rfl) ?_
  refine n_iconst hx hb dL_does_12 ?_
  refine n_icmp_ne (tgt := 27) hx hb (by unfold r32; decide) (by unfold r32; decide) dL_does_13 (by decide) (fun h13 => False.elim (by revert h13; decide)) (fun h13 => ?_)
  refine lv_aload_n hx hb dL_does_16 rfl (lv_at hl 0 rfl) ?_
  refine lv_iload_n hx hb dL_does_17 rfl (lv_at hl 2 rfl) ?_
  refine lv_iload_n hx hb dL_does_18 rfl (lv_at hl 3 rfl) ?_
  refine lv_iload hx hb dL_does_19 (lv_at hl 4 rfl) ?_
  refine b_goI (vx_runV (As := [.int b1, .int b2, .int b3]) (rest := []) ⟨hx, hb, hml, hown, hts⟩ (hC _) (cwV 3 hts gL_does_X6_entry rfl rfl rfl (by decide +kernel) ⟨(Nat.le_of_ble_eq_true rfl), (Nat.le_of_ble_eq_true rfl)⟩) ⟨(b_pre hK hX hZ hP hD hS hA).1, va_recv hK.1 hP (ci := 6) (q0 := 0) rfl rfl, (b_pre hK hX hZ hP hD hS hA).2⟩ rfl rfl hl.1 rfl (lv_room (Nat.le_of_ble_eq_true rfl)) dL_does_21 ⟨(Nat.le_of_ble_eq_true rfl), (Nat.le_of_ble_eq_true rfl)⟩) hP hD hS hA (fun E ce q9 κ2 H locs hpx hP hD hS h7 h8 h9 => ?_) (fun r κ2 H locs hpost hP hD hS => ?_)
  · have hP : va_P D vwCl ((CW cI cE cG cM cS x0 q0 q1 qr g2 κ2) ++ []) H := hP
    have hD : va_D A ((CW cI cE cG cM cS x0 q0 q1 qr g2 κ2) ++ []) := hD
    rw [List.append_nil] at hP hD
    rcases xc2_i hpx.1 with ⟨hk0, hE⟩ | ⟨hk0, hE⟩
    · subst hk0
      subst hE
      refine g_c1 hown htab  (by decide) (by decide) (hts (.classLink RL 64 xIOB) (by decide +kernel)) (xcl_IOB hX) h7 h8 h9 ?_
      refine lv_astore (lv' := [(8, .ref q9), (0, .ref x0), (1, .int (jI 1)), (2, .int b1), (3, .int b2), (4, .int b3), (5, .int b4), (6, .int b5), (7, .int b6)]) hx hb dL_does_243 hl (by decide) rfl (fun ls hl => ?_)
      refine n_bipush hx hb dL_does_245 (by decide) ?_
      exact n_iret κ2 hx hb hr hlocks dL_does_247 hP hD hS ⟨rfl, hpx.2⟩
    · subst hk0
      subst hE
      refine g_c2 hown htab (by decide) (hts (.classLink RL 64 xIOB) (by decide +kernel)) hN.1 (by decide) (by decide) (hts (.classLink RL 66 xIAE) (by decide +kernel)) (xcl_IAE hX) h7 h8 h9 ?_
      refine lv_astore (lv' := [(8, .ref q9), (0, .ref x0), (1, .int (jI 1)), (2, .int b1), (3, .int b2), (4, .int b3), (5, .int b4), (6, .int b5), (7, .int b6)]) hx hb dL_does_248 hl (by decide) rfl (fun ls hl => ?_)
      refine n_bipush hx hb dL_does_250 (by decide) ?_
      exact n_iret κ2 hx hb hr hlocks dL_does_252 hP hD hS ⟨rfl, hpx.2⟩
  · obtain ⟨hk0, hrv, hI2⟩ := hpost
    have hP : va_P D vwCl ((CW cI cE cG cM cS x0 q0 q1 qr g2 κ2) ++ []) H := hP
    have hD : va_D A ((CW cI cE cG cM cS x0 q0 q1 qr g2 κ2) ++ []) := hD
    rw [List.append_nil] at hP hD
    refine lv_goto (tgt := 242) hx hb dL_does_24 (by decide) ?_
    exact n_iret κ2 hx hb hr hlocks dL_does_242 hP hD hS ⟨by rw [hk0]; exact hrv, hI2⟩

set_option maxHeartbeats 8000000 in
set_option maxRecDepth 100000 in
theorem w_does_begin (l : Launch) (D : va_G) (tys : List (ClassId × FieldType)) {cI cE cG cM cS : ClassId} (x0 q0 q1 : Nat) (qr : Nat → Nat) (ms es : Nat) (gE gM gB : Nat → Zp) (gT : Nat → Nat) (gG : Nat → Zp) (gN : Nat → Nat) (gK : Nat → Zp) (gD : Nat → Bool) (κ : Nat → EG) (b1 b2 b3 b4 b5 b6 : Int32) (g2 : SG) (k : Nat) (v : Int32) (hC : CDo l D tys cI cE cG cM cS x0 q0 q1 qr xc3 yX6_begin wsX6_begin [.int b1, .int b2, .int b3, .int b4, .int b5, .int b6] (ms, es, gE, gM, gB, gT, gG, gN, gK, gD) κ g2 k v 228 867) : CtW (S := Nat → EG) l D tys yL_does wsL_does 11 240 228 867 [.ref x0, .int (jI 2), .int b1, .int b2, .int b3, .int b4, .int b5, .int b6] (fun (r : Int32) (u : Nat → EG) => r = (if k = 0 then v else jI (rc3 k)) ∧ INV g2 u) (CW cI cE cG cM cS x0 q0 q1 qr (ms, es, gE, gM, gB, gT, gG, gN, gK, gD) κ) (fun u => (CW cI cE cG cM cS x0 q0 q1 qr g2 u)) := by
  refine CtW.of (cc := cL_does) (maxL := 9) (hh := [(0, 242, 243, 64), (0, 242, 248, 66), (0, 242, 253, 68)]) (by decide +kernel) rfl (Nat.le_of_ble_eq_true rfl) ?_
  intro p e s m below meth c A ls hcx htab hK hX hZ hN hP hD hA hl
  obtain ⟨hx, hb, hr, hml, hown, hts, hlocks⟩ := hcx
  have hS : va_S A s.heap s.heap [] := va_S.rf
  have hown : s.vm.findClass RL = some m.cls := hown
  have hl : lv_has ls 9 [(0, .ref x0), (1, .int (jI 2)), (2, .int b1), (3, .int b2), (4, .int b3), (5, .int b4), (6, .int b5), (7, .int b6)] := hl
  rw [← List.append_nil (CW cI cE cG cM cS x0 q0 q1 qr (ms, es, gE, gM, gB, gT, gG, gN, gK, gD) κ)] at hP hD
  refine lv_iload_n hx hb dL_does_0 rfl (lv_at hl 1 rfl) ?_
  refine n_if_ne (tgt := 11) hx hb (by unfold r32; decide) dL_does_1 (by decide) (fun h1 => ?_) (fun h1 => False.elim (by revert h1; decide))
  refine lv_iload_n hx hb dL_does_11 rfl (lv_at hl 1 rfl) ?_
  refine n_iconst hx hb dL_does_12 ?_
  refine n_icmp_ne (tgt := 27) hx hb (by unfold r32; decide) (by unfold r32; decide) dL_does_13 (by decide) (fun h13 => ?_) (fun h13 => False.elim (by revert h13; decide))
  refine lv_iload_n hx hb dL_does_27 rfl (lv_at hl 1 rfl) ?_
  refine n_iconst hx hb dL_does_28 ?_
  refine n_icmp_ne (tgt := 49) hx hb (by unfold r32; decide) (by unfold r32; decide) dL_does_29 (by decide) (fun h29 => False.elim (by revert h29; decide)) (fun h29 => ?_)
  refine lv_aload_n hx hb dL_does_32 rfl (lv_at hl 0 rfl) ?_
  refine lv_iload_n hx hb dL_does_33 rfl (lv_at hl 2 rfl) ?_
  refine lv_iload_n hx hb dL_does_34 rfl (lv_at hl 3 rfl) ?_
  refine lv_iload hx hb dL_does_35 (lv_at hl 4 rfl) ?_
  refine lv_iload hx hb dL_does_37 (lv_at hl 5 rfl) ?_
  refine lv_iload hx hb dL_does_39 (lv_at hl 6 rfl) ?_
  refine lv_iload hx hb dL_does_41 (lv_at hl 7 rfl) ?_
  refine b_goI (vx_runV (As := [.int b1, .int b2, .int b3, .int b4, .int b5, .int b6]) (rest := []) ⟨hx, hb, hml, hown, hts⟩ (hC _) (cwV 6 hts gL_does_X6_begin rfl rfl rfl (by decide +kernel) ⟨(Nat.le_of_ble_eq_true rfl), (Nat.le_of_ble_eq_true rfl)⟩) ⟨(b_pre hK hX hZ hP hD hS hA).1, va_recv hK.1 hP (ci := 6) (q0 := 0) rfl rfl, (b_pre hK hX hZ hP hD hS hA).2⟩ rfl rfl hl.1 rfl (lv_room (Nat.le_of_ble_eq_true rfl)) dL_does_43 ⟨(Nat.le_of_ble_eq_true rfl), (Nat.le_of_ble_eq_true rfl)⟩) hP hD hS hA (fun E ce q9 κ2 H locs hpx hP hD hS h7 h8 h9 => ?_) (fun r κ2 H locs hpost hP hD hS => ?_)
  · have hP : va_P D vwCl ((CW cI cE cG cM cS x0 q0 q1 qr g2 κ2) ++ []) H := hP
    have hD : va_D A ((CW cI cE cG cM cS x0 q0 q1 qr g2 κ2) ++ []) := hD
    rw [List.append_nil] at hP hD
    rcases xc3_i hpx.1 with ⟨hk0, hE⟩ | ⟨hk0, hE⟩ | ⟨hk0, hE⟩
    · subst hk0
      subst hE
      refine g_c1 hown htab  (by decide) (by decide) (hts (.classLink RL 64 xIOB) (by decide +kernel)) (xcl_IOB hX) h7 h8 h9 ?_
      refine lv_astore (lv' := [(8, .ref q9), (0, .ref x0), (1, .int (jI 2)), (2, .int b1), (3, .int b2), (4, .int b3), (5, .int b4), (6, .int b5), (7, .int b6)]) hx hb dL_does_243 hl (by decide) rfl (fun ls hl => ?_)
      refine n_bipush hx hb dL_does_245 (by decide) ?_
      exact n_iret κ2 hx hb hr hlocks dL_does_247 hP hD hS ⟨rfl, hpx.2⟩
    · subst hk0
      subst hE
      refine g_c2 hown htab (by decide) (hts (.classLink RL 64 xIOB) (by decide +kernel)) hN.1 (by decide) (by decide) (hts (.classLink RL 66 xIAE) (by decide +kernel)) (xcl_IAE hX) h7 h8 h9 ?_
      refine lv_astore (lv' := [(8, .ref q9), (0, .ref x0), (1, .int (jI 2)), (2, .int b1), (3, .int b2), (4, .int b3), (5, .int b4), (6, .int b5), (7, .int b6)]) hx hb dL_does_248 hl (by decide) rfl (fun ls hl => ?_)
      refine n_bipush hx hb dL_does_250 (by decide) ?_
      exact n_iret κ2 hx hb hr hlocks dL_does_252 hP hD hS ⟨rfl, hpx.2⟩
    · subst hk0
      subst hE
      refine g_c3 hown htab (by decide) (hts (.classLink RL 64 xIOB) (by decide +kernel)) hN.2.1 (by decide) (hts (.classLink RL 66 xIAE) (by decide +kernel)) hN.2.2 (by decide) (by decide) (hts (.classLink RL 68 xISE) (by decide +kernel)) (xcl_ISE hX) h7 h8 h9 ?_
      refine lv_astore (lv' := [(8, .ref q9), (0, .ref x0), (1, .int (jI 2)), (2, .int b1), (3, .int b2), (4, .int b3), (5, .int b4), (6, .int b5), (7, .int b6)]) hx hb dL_does_253 hl (by decide) rfl (fun ls hl => ?_)
      refine n_iconst hx hb dL_does_255 ?_
      exact n_iret κ2 hx hb hr hlocks dL_does_256 hP hD hS ⟨rfl, hpx.2⟩
  · obtain ⟨hk0, hrv, hI2⟩ := hpost
    have hP : va_P D vwCl ((CW cI cE cG cM cS x0 q0 q1 qr g2 κ2) ++ []) H := hP
    have hD : va_D A ((CW cI cE cG cM cS x0 q0 q1 qr g2 κ2) ++ []) := hD
    rw [List.append_nil] at hP hD
    refine lv_goto (tgt := 242) hx hb dL_does_46 (by decide) ?_
    exact n_iret κ2 hx hb hr hlocks dL_does_242 hP hD hS ⟨by rw [hk0]; exact hrv, hI2⟩

set_option maxHeartbeats 8000000 in
set_option maxRecDepth 100000 in
theorem w_does_gate (l : Launch) (D : va_G) (tys : List (ClassId × FieldType)) {cI cE cG cM cS : ClassId} (x0 q0 q1 : Nat) (qr : Nat → Nat) (ms es : Nat) (gE gM gB : Nat → Zp) (gT : Nat → Nat) (gG : Nat → Zp) (gN : Nat → Nat) (gK : Nat → Zp) (gD : Nat → Bool) (κ : Nat → EG) (b1 b2 b3 b4 b5 b6 : Int32) (g2 : SG) (k : Nat) (v : Int32) (hC : CDo l D tys cI cE cG cM cS x0 q0 q1 qr xc2 yX6_gate wsX6_gate [.int b1, .int b2] (ms, es, gE, gM, gB, gT, gG, gN, gK, gD) κ g2 k v 2 12) : CtW (S := Nat → EG) l D tys yL_does wsL_does 11 240 2 12 [.ref x0, .int (jI 3), .int b1, .int b2, .int b3, .int b4, .int b5, .int b6] (fun (r : Int32) (u : Nat → EG) => r = (if k = 0 then v else jI (rc2 k)) ∧ INV g2 u) (CW cI cE cG cM cS x0 q0 q1 qr (ms, es, gE, gM, gB, gT, gG, gN, gK, gD) κ) (fun u => (CW cI cE cG cM cS x0 q0 q1 qr g2 u)) := by
  refine CtW.of (cc := cL_does) (maxL := 9) (hh := [(0, 242, 243, 64), (0, 242, 248, 66), (0, 242, 253, 68)]) (by decide +kernel) rfl (Nat.le_of_ble_eq_true rfl) ?_
  intro p e s m below meth c A ls hcx htab hK hX hZ hN hP hD hA hl
  obtain ⟨hx, hb, hr, hml, hown, hts, hlocks⟩ := hcx
  have hS : va_S A s.heap s.heap [] := va_S.rf
  have hown : s.vm.findClass RL = some m.cls := hown
  have hl : lv_has ls 9 [(0, .ref x0), (1, .int (jI 3)), (2, .int b1), (3, .int b2), (4, .int b3), (5, .int b4), (6, .int b5), (7, .int b6)] := hl
  rw [← List.append_nil (CW cI cE cG cM cS x0 q0 q1 qr (ms, es, gE, gM, gB, gT, gG, gN, gK, gD) κ)] at hP hD
  refine lv_iload_n hx hb dL_does_0 rfl (lv_at hl 1 rfl) ?_
  refine n_if_ne (tgt := 11) hx hb (by unfold r32; decide) dL_does_1 (by decide) (fun h1 => ?_) (fun h1 => False.elim (by revert h1; decide))
  refine lv_iload_n hx hb dL_does_11 rfl (lv_at hl 1 rfl) ?_
  refine n_iconst hx hb dL_does_12 ?_
  refine n_icmp_ne (tgt := 27) hx hb (by unfold r32; decide) (by unfold r32; decide) dL_does_13 (by decide) (fun h13 => ?_) (fun h13 => False.elim (by revert h13; decide))
  refine lv_iload_n hx hb dL_does_27 rfl (lv_at hl 1 rfl) ?_
  refine n_iconst hx hb dL_does_28 ?_
  refine n_icmp_ne (tgt := 49) hx hb (by unfold r32; decide) (by unfold r32; decide) dL_does_29 (by decide) (fun h29 => ?_) (fun h29 => False.elim (by revert h29; decide))
  refine lv_iload_n hx hb dL_does_49 rfl (lv_at hl 1 rfl) ?_
  refine n_iconst hx hb dL_does_50 ?_
  refine n_icmp_ne (tgt := 63) hx hb (by unfold r32; decide) (by unfold r32; decide) dL_does_51 (by decide) (fun h51 => False.elim (by revert h51; decide)) (fun h51 => ?_)
  refine lv_aload_n hx hb dL_does_54 rfl (lv_at hl 0 rfl) ?_
  refine lv_iload_n hx hb dL_does_55 rfl (lv_at hl 2 rfl) ?_
  refine lv_iload_n hx hb dL_does_56 rfl (lv_at hl 3 rfl) ?_
  refine b_goI (vx_runV (As := [.int b1, .int b2]) (rest := []) ⟨hx, hb, hml, hown, hts⟩ (hC _) (cwV 2 hts gL_does_X6_gate rfl rfl rfl (by decide +kernel) ⟨(Nat.le_of_ble_eq_true rfl), (Nat.le_of_ble_eq_true rfl)⟩) ⟨(b_pre hK hX hZ hP hD hS hA).1, va_recv hK.1 hP (ci := 6) (q0 := 0) rfl rfl, (b_pre hK hX hZ hP hD hS hA).2⟩ rfl rfl hl.1 rfl (lv_room (Nat.le_of_ble_eq_true rfl)) dL_does_57 ⟨(Nat.le_of_ble_eq_true rfl), (Nat.le_of_ble_eq_true rfl)⟩) hP hD hS hA (fun E ce q9 κ2 H locs hpx hP hD hS h7 h8 h9 => ?_) (fun r κ2 H locs hpost hP hD hS => ?_)
  · have hP : va_P D vwCl ((CW cI cE cG cM cS x0 q0 q1 qr g2 κ2) ++ []) H := hP
    have hD : va_D A ((CW cI cE cG cM cS x0 q0 q1 qr g2 κ2) ++ []) := hD
    rw [List.append_nil] at hP hD
    rcases xc2_i hpx.1 with ⟨hk0, hE⟩ | ⟨hk0, hE⟩
    · subst hk0
      subst hE
      refine g_c1 hown htab  (by decide) (by decide) (hts (.classLink RL 64 xIOB) (by decide +kernel)) (xcl_IOB hX) h7 h8 h9 ?_
      refine lv_astore (lv' := [(8, .ref q9), (0, .ref x0), (1, .int (jI 3)), (2, .int b1), (3, .int b2), (4, .int b3), (5, .int b4), (6, .int b5), (7, .int b6)]) hx hb dL_does_243 hl (by decide) rfl (fun ls hl => ?_)
      refine n_bipush hx hb dL_does_245 (by decide) ?_
      exact n_iret κ2 hx hb hr hlocks dL_does_247 hP hD hS ⟨rfl, hpx.2⟩
    · subst hk0
      subst hE
      refine g_c2 hown htab (by decide) (hts (.classLink RL 64 xIOB) (by decide +kernel)) hN.1 (by decide) (by decide) (hts (.classLink RL 66 xIAE) (by decide +kernel)) (xcl_IAE hX) h7 h8 h9 ?_
      refine lv_astore (lv' := [(8, .ref q9), (0, .ref x0), (1, .int (jI 3)), (2, .int b1), (3, .int b2), (4, .int b3), (5, .int b4), (6, .int b5), (7, .int b6)]) hx hb dL_does_248 hl (by decide) rfl (fun ls hl => ?_)
      refine n_bipush hx hb dL_does_250 (by decide) ?_
      exact n_iret κ2 hx hb hr hlocks dL_does_252 hP hD hS ⟨rfl, hpx.2⟩
  · obtain ⟨hk0, hrv, hI2⟩ := hpost
    have hP : va_P D vwCl ((CW cI cE cG cM cS x0 q0 q1 qr g2 κ2) ++ []) H := hP
    have hD : va_D A ((CW cI cE cG cM cS x0 q0 q1 qr g2 κ2) ++ []) := hD
    rw [List.append_nil] at hP hD
    refine lv_goto (tgt := 242) hx hb dL_does_60 (by decide) ?_
    exact n_iret κ2 hx hb hr hlocks dL_does_242 hP hD hS ⟨by rw [hk0]; exact hrv, hI2⟩

set_option maxHeartbeats 8000000 in
set_option maxRecDepth 100000 in
theorem w_does_predict (l : Launch) (D : va_G) (tys : List (ClassId × FieldType)) {cI cE cG cM cS : ClassId} (x0 q0 q1 : Nat) (qr : Nat → Nat) (ms es : Nat) (gE gM gB : Nat → Zp) (gT : Nat → Nat) (gG : Nat → Zp) (gN : Nat → Nat) (gK : Nat → Zp) (gD : Nat → Bool) (κ : Nat → EG) (b1 b2 b3 b4 b5 b6 : Int32) (g2 : SG) (k : Nat) (v : Int32) (hC : CDo l D tys cI cE cG cM cS x0 q0 q1 qr xcp yX6_predict wsX6_predict [.int b1] (ms, es, gE, gM, gB, gT, gG, gN, gK, gD) κ g2 k v 2 12) : CtW (S := Nat → EG) l D tys yL_does wsL_does 11 240 2 12 [.ref x0, .int (jI 4), .int b1, .int b2, .int b3, .int b4, .int b5, .int b6] (fun (r : Int32) (u : Nat → EG) => r = (if k = 0 then v else jI (rcp k)) ∧ INV g2 u) (CW cI cE cG cM cS x0 q0 q1 qr (ms, es, gE, gM, gB, gT, gG, gN, gK, gD) κ) (fun u => (CW cI cE cG cM cS x0 q0 q1 qr g2 u)) := by
  refine CtW.of (cc := cL_does) (maxL := 9) (hh := [(0, 242, 243, 64), (0, 242, 248, 66), (0, 242, 253, 68)]) (by decide +kernel) rfl (Nat.le_of_ble_eq_true rfl) ?_
  intro p e s m below meth c A ls hcx htab hK hX hZ hN hP hD hA hl
  obtain ⟨hx, hb, hr, hml, hown, hts, hlocks⟩ := hcx
  have hS : va_S A s.heap s.heap [] := va_S.rf
  have hown : s.vm.findClass RL = some m.cls := hown
  have hl : lv_has ls 9 [(0, .ref x0), (1, .int (jI 4)), (2, .int b1), (3, .int b2), (4, .int b3), (5, .int b4), (6, .int b5), (7, .int b6)] := hl
  rw [← List.append_nil (CW cI cE cG cM cS x0 q0 q1 qr (ms, es, gE, gM, gB, gT, gG, gN, gK, gD) κ)] at hP hD
  refine lv_iload_n hx hb dL_does_0 rfl (lv_at hl 1 rfl) ?_
  refine n_if_ne (tgt := 11) hx hb (by unfold r32; decide) dL_does_1 (by decide) (fun h1 => ?_) (fun h1 => False.elim (by revert h1; decide))
  refine lv_iload_n hx hb dL_does_11 rfl (lv_at hl 1 rfl) ?_
  refine n_iconst hx hb dL_does_12 ?_
  refine n_icmp_ne (tgt := 27) hx hb (by unfold r32; decide) (by unfold r32; decide) dL_does_13 (by decide) (fun h13 => ?_) (fun h13 => False.elim (by revert h13; decide))
  refine lv_iload_n hx hb dL_does_27 rfl (lv_at hl 1 rfl) ?_
  refine n_iconst hx hb dL_does_28 ?_
  refine n_icmp_ne (tgt := 49) hx hb (by unfold r32; decide) (by unfold r32; decide) dL_does_29 (by decide) (fun h29 => ?_) (fun h29 => False.elim (by revert h29; decide))
  refine lv_iload_n hx hb dL_does_49 rfl (lv_at hl 1 rfl) ?_
  refine n_iconst hx hb dL_does_50 ?_
  refine n_icmp_ne (tgt := 63) hx hb (by unfold r32; decide) (by unfold r32; decide) dL_does_51 (by decide) (fun h51 => ?_) (fun h51 => False.elim (by revert h51; decide))
  refine lv_iload_n hx hb dL_does_63 rfl (lv_at hl 1 rfl) ?_
  refine n_iconst hx hb dL_does_64 ?_
  refine n_icmp_ne (tgt := 76) hx hb (by unfold r32; decide) (by unfold r32; decide) dL_does_65 (by decide) (fun h65 => False.elim (by revert h65; decide)) (fun h65 => ?_)
  refine lv_aload_n hx hb dL_does_68 rfl (lv_at hl 0 rfl) ?_
  refine lv_iload_n hx hb dL_does_69 rfl (lv_at hl 2 rfl) ?_
  refine b_goI (vx_runV (As := [.int b1]) (rest := []) ⟨hx, hb, hml, hown, hts⟩ (hC _) (cwV 1 hts gL_does_X6_predict rfl rfl rfl (by decide +kernel) ⟨(Nat.le_of_ble_eq_true rfl), (Nat.le_of_ble_eq_true rfl)⟩) ⟨(b_pre hK hX hZ hP hD hS hA).1, va_recv hK.1 hP (ci := 6) (q0 := 0) rfl rfl, (b_pre hK hX hZ hP hD hS hA).2⟩ rfl rfl hl.1 rfl (lv_room (Nat.le_of_ble_eq_true rfl)) dL_does_70 ⟨(Nat.le_of_ble_eq_true rfl), (Nat.le_of_ble_eq_true rfl)⟩) hP hD hS hA (fun E ce q9 κ2 H locs hpx hP hD hS h7 h8 h9 => ?_) (fun r κ2 H locs hpost hP hD hS => ?_)
  · have hP : va_P D vwCl ((CW cI cE cG cM cS x0 q0 q1 qr g2 κ2) ++ []) H := hP
    have hD : va_D A ((CW cI cE cG cM cS x0 q0 q1 qr g2 κ2) ++ []) := hD
    rw [List.append_nil] at hP hD
    rcases xcp_i hpx.1 with ⟨hk0, hE⟩ | ⟨hk0, hE⟩
    · subst hk0
      subst hE
      refine g_c1 hown htab  (by decide) (by decide) (hts (.classLink RL 64 xIOB) (by decide +kernel)) (xcl_IOB hX) h7 h8 h9 ?_
      refine lv_astore (lv' := [(8, .ref q9), (0, .ref x0), (1, .int (jI 4)), (2, .int b1), (3, .int b2), (4, .int b3), (5, .int b4), (6, .int b5), (7, .int b6)]) hx hb dL_does_243 hl (by decide) rfl (fun ls hl => ?_)
      refine n_bipush hx hb dL_does_245 (by decide) ?_
      exact n_iret κ2 hx hb hr hlocks dL_does_247 hP hD hS ⟨rfl, hpx.2⟩
    · subst hk0
      subst hE
      refine g_c3 hown htab (by decide) (hts (.classLink RL 64 xIOB) (by decide +kernel)) hN.2.1 (by decide) (hts (.classLink RL 66 xIAE) (by decide +kernel)) hN.2.2 (by decide) (by decide) (hts (.classLink RL 68 xISE) (by decide +kernel)) (xcl_ISE hX) h7 h8 h9 ?_
      refine lv_astore (lv' := [(8, .ref q9), (0, .ref x0), (1, .int (jI 4)), (2, .int b1), (3, .int b2), (4, .int b3), (5, .int b4), (6, .int b5), (7, .int b6)]) hx hb dL_does_253 hl (by decide) rfl (fun ls hl => ?_)
      refine n_iconst hx hb dL_does_255 ?_
      exact n_iret κ2 hx hb hr hlocks dL_does_256 hP hD hS ⟨rfl, hpx.2⟩
  · obtain ⟨hk0, hrv, hI2⟩ := hpost
    have hP : va_P D vwCl ((CW cI cE cG cM cS x0 q0 q1 qr g2 κ2) ++ []) H := hP
    have hD : va_D A ((CW cI cE cG cM cS x0 q0 q1 qr g2 κ2) ++ []) := hD
    rw [List.append_nil] at hP hD
    refine lv_goto (tgt := 242) hx hb dL_does_73 (by decide) ?_
    exact n_iret κ2 hx hb hr hlocks dL_does_242 hP hD hS ⟨by rw [hk0]; exact hrv, hI2⟩

set_option maxHeartbeats 8000000 in
set_option maxRecDepth 100000 in
theorem w_does_measure (l : Launch) (D : va_G) (tys : List (ClassId × FieldType)) {cI cE cG cM cS : ClassId} (x0 q0 q1 : Nat) (qr : Nat → Nat) (ms es : Nat) (gE gM gB : Nat → Zp) (gT : Nat → Nat) (gG : Nat → Zp) (gN : Nat → Nat) (gK : Nat → Zp) (gD : Nat → Bool) (κ : Nat → EG) (b1 b2 b3 b4 b5 b6 : Int32) (g2 : SG) (k : Nat) (v : Int32) (hC : CDo l D tys cI cE cG cM cS x0 q0 q1 qr xc3 yX6_measure wsX6_measure [.int b1, .int b2, .int b3, .int b4, .int b5] (ms, es, gE, gM, gB, gT, gG, gN, gK, gD) κ g2 k v 7 42) : CtW (S := Nat → EG) l D tys yL_does wsL_does 11 240 7 42 [.ref x0, .int (jI 5), .int b1, .int b2, .int b3, .int b4, .int b5, .int b6] (fun (r : Int32) (u : Nat → EG) => r = (if k = 0 then v else jI (rc3 k)) ∧ INV g2 u) (CW cI cE cG cM cS x0 q0 q1 qr (ms, es, gE, gM, gB, gT, gG, gN, gK, gD) κ) (fun u => (CW cI cE cG cM cS x0 q0 q1 qr g2 u)) := by
  refine CtW.of (cc := cL_does) (maxL := 9) (hh := [(0, 242, 243, 64), (0, 242, 248, 66), (0, 242, 253, 68)]) (by decide +kernel) rfl (Nat.le_of_ble_eq_true rfl) ?_
  intro p e s m below meth c A ls hcx htab hK hX hZ hN hP hD hA hl
  obtain ⟨hx, hb, hr, hml, hown, hts, hlocks⟩ := hcx
  have hS : va_S A s.heap s.heap [] := va_S.rf
  have hown : s.vm.findClass RL = some m.cls := hown
  have hl : lv_has ls 9 [(0, .ref x0), (1, .int (jI 5)), (2, .int b1), (3, .int b2), (4, .int b3), (5, .int b4), (6, .int b5), (7, .int b6)] := hl
  rw [← List.append_nil (CW cI cE cG cM cS x0 q0 q1 qr (ms, es, gE, gM, gB, gT, gG, gN, gK, gD) κ)] at hP hD
  refine lv_iload_n hx hb dL_does_0 rfl (lv_at hl 1 rfl) ?_
  refine n_if_ne (tgt := 11) hx hb (by unfold r32; decide) dL_does_1 (by decide) (fun h1 => ?_) (fun h1 => False.elim (by revert h1; decide))
  refine lv_iload_n hx hb dL_does_11 rfl (lv_at hl 1 rfl) ?_
  refine n_iconst hx hb dL_does_12 ?_
  refine n_icmp_ne (tgt := 27) hx hb (by unfold r32; decide) (by unfold r32; decide) dL_does_13 (by decide) (fun h13 => ?_) (fun h13 => False.elim (by revert h13; decide))
  refine lv_iload_n hx hb dL_does_27 rfl (lv_at hl 1 rfl) ?_
  refine n_iconst hx hb dL_does_28 ?_
  refine n_icmp_ne (tgt := 49) hx hb (by unfold r32; decide) (by unfold r32; decide) dL_does_29 (by decide) (fun h29 => ?_) (fun h29 => False.elim (by revert h29; decide))
  refine lv_iload_n hx hb dL_does_49 rfl (lv_at hl 1 rfl) ?_
  refine n_iconst hx hb dL_does_50 ?_
  refine n_icmp_ne (tgt := 63) hx hb (by unfold r32; decide) (by unfold r32; decide) dL_does_51 (by decide) (fun h51 => ?_) (fun h51 => False.elim (by revert h51; decide))
  refine lv_iload_n hx hb dL_does_63 rfl (lv_at hl 1 rfl) ?_
  refine n_iconst hx hb dL_does_64 ?_
  refine n_icmp_ne (tgt := 76) hx hb (by unfold r32; decide) (by unfold r32; decide) dL_does_65 (by decide) (fun h65 => ?_) (fun h65 => False.elim (by revert h65; decide))
  refine lv_iload_n hx hb dL_does_76 rfl (lv_at hl 1 rfl) ?_
  refine n_iconst hx hb dL_does_77 ?_
  refine n_icmp_ne (tgt := 96) hx hb (by unfold r32; decide) (by unfold r32; decide) dL_does_78 (by decide) (fun h78 => False.elim (by revert h78; decide)) (fun h78 => ?_)
  refine lv_aload_n hx hb dL_does_81 rfl (lv_at hl 0 rfl) ?_
  refine lv_iload_n hx hb dL_does_82 rfl (lv_at hl 2 rfl) ?_
  refine lv_iload_n hx hb dL_does_83 rfl (lv_at hl 3 rfl) ?_
  refine lv_iload hx hb dL_does_84 (lv_at hl 4 rfl) ?_
  refine lv_iload hx hb dL_does_86 (lv_at hl 5 rfl) ?_
  refine lv_iload hx hb dL_does_88 (lv_at hl 6 rfl) ?_
  refine b_goI (vx_runV (As := [.int b1, .int b2, .int b3, .int b4, .int b5]) (rest := []) ⟨hx, hb, hml, hown, hts⟩ (hC _) (cwV 5 hts gL_does_X6_measure rfl rfl rfl (by decide +kernel) ⟨(Nat.le_of_ble_eq_true rfl), (Nat.le_of_ble_eq_true rfl)⟩) ⟨(b_pre hK hX hZ hP hD hS hA).1, va_recv hK.1 hP (ci := 6) (q0 := 0) rfl rfl, (b_pre hK hX hZ hP hD hS hA).2⟩ rfl rfl hl.1 rfl (lv_room (Nat.le_of_ble_eq_true rfl)) dL_does_90 ⟨(Nat.le_of_ble_eq_true rfl), (Nat.le_of_ble_eq_true rfl)⟩) hP hD hS hA (fun E ce q9 κ2 H locs hpx hP hD hS h7 h8 h9 => ?_) (fun r κ2 H locs hpost hP hD hS => ?_)
  · have hP : va_P D vwCl ((CW cI cE cG cM cS x0 q0 q1 qr g2 κ2) ++ []) H := hP
    have hD : va_D A ((CW cI cE cG cM cS x0 q0 q1 qr g2 κ2) ++ []) := hD
    rw [List.append_nil] at hP hD
    rcases xc3_i hpx.1 with ⟨hk0, hE⟩ | ⟨hk0, hE⟩ | ⟨hk0, hE⟩
    · subst hk0
      subst hE
      refine g_c1 hown htab  (by decide) (by decide) (hts (.classLink RL 64 xIOB) (by decide +kernel)) (xcl_IOB hX) h7 h8 h9 ?_
      refine lv_astore (lv' := [(8, .ref q9), (0, .ref x0), (1, .int (jI 5)), (2, .int b1), (3, .int b2), (4, .int b3), (5, .int b4), (6, .int b5), (7, .int b6)]) hx hb dL_does_243 hl (by decide) rfl (fun ls hl => ?_)
      refine n_bipush hx hb dL_does_245 (by decide) ?_
      exact n_iret κ2 hx hb hr hlocks dL_does_247 hP hD hS ⟨rfl, hpx.2⟩
    · subst hk0
      subst hE
      refine g_c2 hown htab (by decide) (hts (.classLink RL 64 xIOB) (by decide +kernel)) hN.1 (by decide) (by decide) (hts (.classLink RL 66 xIAE) (by decide +kernel)) (xcl_IAE hX) h7 h8 h9 ?_
      refine lv_astore (lv' := [(8, .ref q9), (0, .ref x0), (1, .int (jI 5)), (2, .int b1), (3, .int b2), (4, .int b3), (5, .int b4), (6, .int b5), (7, .int b6)]) hx hb dL_does_248 hl (by decide) rfl (fun ls hl => ?_)
      refine n_bipush hx hb dL_does_250 (by decide) ?_
      exact n_iret κ2 hx hb hr hlocks dL_does_252 hP hD hS ⟨rfl, hpx.2⟩
    · subst hk0
      subst hE
      refine g_c3 hown htab (by decide) (hts (.classLink RL 64 xIOB) (by decide +kernel)) hN.2.1 (by decide) (hts (.classLink RL 66 xIAE) (by decide +kernel)) hN.2.2 (by decide) (by decide) (hts (.classLink RL 68 xISE) (by decide +kernel)) (xcl_ISE hX) h7 h8 h9 ?_
      refine lv_astore (lv' := [(8, .ref q9), (0, .ref x0), (1, .int (jI 5)), (2, .int b1), (3, .int b2), (4, .int b3), (5, .int b4), (6, .int b5), (7, .int b6)]) hx hb dL_does_253 hl (by decide) rfl (fun ls hl => ?_)
      refine n_iconst hx hb dL_does_255 ?_
      exact n_iret κ2 hx hb hr hlocks dL_does_256 hP hD hS ⟨rfl, hpx.2⟩
  · obtain ⟨hk0, hrv, hI2⟩ := hpost
    have hP : va_P D vwCl ((CW cI cE cG cM cS x0 q0 q1 qr g2 κ2) ++ []) H := hP
    have hD : va_D A ((CW cI cE cG cM cS x0 q0 q1 qr g2 κ2) ++ []) := hD
    rw [List.append_nil] at hP hD
    refine lv_goto (tgt := 242) hx hb dL_does_93 (by decide) ?_
    exact n_iret κ2 hx hb hr hlocks dL_does_242 hP hD hS ⟨by rw [hk0]; exact hrv, hI2⟩

set_option maxHeartbeats 8000000 in
set_option maxRecDepth 100000 in
theorem w_does_late (l : Launch) (D : va_G) (tys : List (ClassId × FieldType)) {cI cE cG cM cS : ClassId} (x0 q0 q1 : Nat) (qr : Nat → Nat) (ms es : Nat) (gE gM gB : Nat → Zp) (gT : Nat → Nat) (gG : Nat → Zp) (gN : Nat → Nat) (gK : Nat → Zp) (gD : Nat → Bool) (κ : Nat → EG) (b1 b2 b3 b4 b5 b6 : Int32) (g2 : SG) (k : Nat) (v : Int32) (hC : CDo l D tys cI cE cG cM cS x0 q0 q1 qr xc3 yX6_late wsX6_late [.int b1, .int b2, .int b3, .int b4, .int b5, .int b6] (ms, es, gE, gM, gB, gT, gG, gN, gK, gD) κ g2 k v 7 42) : CtW (S := Nat → EG) l D tys yL_does wsL_does 11 240 7 42 [.ref x0, .int (jI 6), .int b1, .int b2, .int b3, .int b4, .int b5, .int b6] (fun (r : Int32) (u : Nat → EG) => r = (if k = 0 then v else jI (rc3 k)) ∧ INV g2 u) (CW cI cE cG cM cS x0 q0 q1 qr (ms, es, gE, gM, gB, gT, gG, gN, gK, gD) κ) (fun u => (CW cI cE cG cM cS x0 q0 q1 qr g2 u)) := by
  refine CtW.of (cc := cL_does) (maxL := 9) (hh := [(0, 242, 243, 64), (0, 242, 248, 66), (0, 242, 253, 68)]) (by decide +kernel) rfl (Nat.le_of_ble_eq_true rfl) ?_
  intro p e s m below meth c A ls hcx htab hK hX hZ hN hP hD hA hl
  obtain ⟨hx, hb, hr, hml, hown, hts, hlocks⟩ := hcx
  have hS : va_S A s.heap s.heap [] := va_S.rf
  have hown : s.vm.findClass RL = some m.cls := hown
  have hl : lv_has ls 9 [(0, .ref x0), (1, .int (jI 6)), (2, .int b1), (3, .int b2), (4, .int b3), (5, .int b4), (6, .int b5), (7, .int b6)] := hl
  rw [← List.append_nil (CW cI cE cG cM cS x0 q0 q1 qr (ms, es, gE, gM, gB, gT, gG, gN, gK, gD) κ)] at hP hD
  refine lv_iload_n hx hb dL_does_0 rfl (lv_at hl 1 rfl) ?_
  refine n_if_ne (tgt := 11) hx hb (by unfold r32; decide) dL_does_1 (by decide) (fun h1 => ?_) (fun h1 => False.elim (by revert h1; decide))
  refine lv_iload_n hx hb dL_does_11 rfl (lv_at hl 1 rfl) ?_
  refine n_iconst hx hb dL_does_12 ?_
  refine n_icmp_ne (tgt := 27) hx hb (by unfold r32; decide) (by unfold r32; decide) dL_does_13 (by decide) (fun h13 => ?_) (fun h13 => False.elim (by revert h13; decide))
  refine lv_iload_n hx hb dL_does_27 rfl (lv_at hl 1 rfl) ?_
  refine n_iconst hx hb dL_does_28 ?_
  refine n_icmp_ne (tgt := 49) hx hb (by unfold r32; decide) (by unfold r32; decide) dL_does_29 (by decide) (fun h29 => ?_) (fun h29 => False.elim (by revert h29; decide))
  refine lv_iload_n hx hb dL_does_49 rfl (lv_at hl 1 rfl) ?_
  refine n_iconst hx hb dL_does_50 ?_
  refine n_icmp_ne (tgt := 63) hx hb (by unfold r32; decide) (by unfold r32; decide) dL_does_51 (by decide) (fun h51 => ?_) (fun h51 => False.elim (by revert h51; decide))
  refine lv_iload_n hx hb dL_does_63 rfl (lv_at hl 1 rfl) ?_
  refine n_iconst hx hb dL_does_64 ?_
  refine n_icmp_ne (tgt := 76) hx hb (by unfold r32; decide) (by unfold r32; decide) dL_does_65 (by decide) (fun h65 => ?_) (fun h65 => False.elim (by revert h65; decide))
  refine lv_iload_n hx hb dL_does_76 rfl (lv_at hl 1 rfl) ?_
  refine n_iconst hx hb dL_does_77 ?_
  refine n_icmp_ne (tgt := 96) hx hb (by unfold r32; decide) (by unfold r32; decide) dL_does_78 (by decide) (fun h78 => ?_) (fun h78 => False.elim (by revert h78; decide))
  refine lv_iload_n hx hb dL_does_96 rfl (lv_at hl 1 rfl) ?_
  refine n_bipush hx hb dL_does_97 (by decide) ?_
  refine n_icmp_ne (tgt := 119) hx hb (by unfold r32; decide) (by unfold r32; decide) dL_does_99 (by decide) (fun h99 => False.elim (by revert h99; decide)) (fun h99 => ?_)
  refine lv_aload_n hx hb dL_does_102 rfl (lv_at hl 0 rfl) ?_
  refine lv_iload_n hx hb dL_does_103 rfl (lv_at hl 2 rfl) ?_
  refine lv_iload_n hx hb dL_does_104 rfl (lv_at hl 3 rfl) ?_
  refine lv_iload hx hb dL_does_105 (lv_at hl 4 rfl) ?_
  refine lv_iload hx hb dL_does_107 (lv_at hl 5 rfl) ?_
  refine lv_iload hx hb dL_does_109 (lv_at hl 6 rfl) ?_
  refine lv_iload hx hb dL_does_111 (lv_at hl 7 rfl) ?_
  refine b_goI (vx_runV (As := [.int b1, .int b2, .int b3, .int b4, .int b5, .int b6]) (rest := []) ⟨hx, hb, hml, hown, hts⟩ (hC _) (cwV 6 hts gL_does_X6_late rfl rfl rfl (by decide +kernel) ⟨(Nat.le_of_ble_eq_true rfl), (Nat.le_of_ble_eq_true rfl)⟩) ⟨(b_pre hK hX hZ hP hD hS hA).1, va_recv hK.1 hP (ci := 6) (q0 := 0) rfl rfl, (b_pre hK hX hZ hP hD hS hA).2⟩ rfl rfl hl.1 rfl (lv_room (Nat.le_of_ble_eq_true rfl)) dL_does_113 ⟨(Nat.le_of_ble_eq_true rfl), (Nat.le_of_ble_eq_true rfl)⟩) hP hD hS hA (fun E ce q9 κ2 H locs hpx hP hD hS h7 h8 h9 => ?_) (fun r κ2 H locs hpost hP hD hS => ?_)
  · have hP : va_P D vwCl ((CW cI cE cG cM cS x0 q0 q1 qr g2 κ2) ++ []) H := hP
    have hD : va_D A ((CW cI cE cG cM cS x0 q0 q1 qr g2 κ2) ++ []) := hD
    rw [List.append_nil] at hP hD
    rcases xc3_i hpx.1 with ⟨hk0, hE⟩ | ⟨hk0, hE⟩ | ⟨hk0, hE⟩
    · subst hk0
      subst hE
      refine g_c1 hown htab  (by decide) (by decide) (hts (.classLink RL 64 xIOB) (by decide +kernel)) (xcl_IOB hX) h7 h8 h9 ?_
      refine lv_astore (lv' := [(8, .ref q9), (0, .ref x0), (1, .int (jI 6)), (2, .int b1), (3, .int b2), (4, .int b3), (5, .int b4), (6, .int b5), (7, .int b6)]) hx hb dL_does_243 hl (by decide) rfl (fun ls hl => ?_)
      refine n_bipush hx hb dL_does_245 (by decide) ?_
      exact n_iret κ2 hx hb hr hlocks dL_does_247 hP hD hS ⟨rfl, hpx.2⟩
    · subst hk0
      subst hE
      refine g_c2 hown htab (by decide) (hts (.classLink RL 64 xIOB) (by decide +kernel)) hN.1 (by decide) (by decide) (hts (.classLink RL 66 xIAE) (by decide +kernel)) (xcl_IAE hX) h7 h8 h9 ?_
      refine lv_astore (lv' := [(8, .ref q9), (0, .ref x0), (1, .int (jI 6)), (2, .int b1), (3, .int b2), (4, .int b3), (5, .int b4), (6, .int b5), (7, .int b6)]) hx hb dL_does_248 hl (by decide) rfl (fun ls hl => ?_)
      refine n_bipush hx hb dL_does_250 (by decide) ?_
      exact n_iret κ2 hx hb hr hlocks dL_does_252 hP hD hS ⟨rfl, hpx.2⟩
    · subst hk0
      subst hE
      refine g_c3 hown htab (by decide) (hts (.classLink RL 64 xIOB) (by decide +kernel)) hN.2.1 (by decide) (hts (.classLink RL 66 xIAE) (by decide +kernel)) hN.2.2 (by decide) (by decide) (hts (.classLink RL 68 xISE) (by decide +kernel)) (xcl_ISE hX) h7 h8 h9 ?_
      refine lv_astore (lv' := [(8, .ref q9), (0, .ref x0), (1, .int (jI 6)), (2, .int b1), (3, .int b2), (4, .int b3), (5, .int b4), (6, .int b5), (7, .int b6)]) hx hb dL_does_253 hl (by decide) rfl (fun ls hl => ?_)
      refine n_iconst hx hb dL_does_255 ?_
      exact n_iret κ2 hx hb hr hlocks dL_does_256 hP hD hS ⟨rfl, hpx.2⟩
  · obtain ⟨hk0, hrv, hI2⟩ := hpost
    have hP : va_P D vwCl ((CW cI cE cG cM cS x0 q0 q1 qr g2 κ2) ++ []) H := hP
    have hD : va_D A ((CW cI cE cG cM cS x0 q0 q1 qr g2 κ2) ++ []) := hD
    rw [List.append_nil] at hP hD
    refine lv_goto (tgt := 242) hx hb dL_does_116 (by decide) ?_
    exact n_iret κ2 hx hb hr hlocks dL_does_242 hP hD hS ⟨by rw [hk0]; exact hrv, hI2⟩

set_option maxHeartbeats 8000000 in
set_option maxRecDepth 100000 in
theorem w_does_drop (l : Launch) (D : va_G) (tys : List (ClassId × FieldType)) {cI cE cG cM cS : ClassId} (x0 q0 q1 : Nat) (qr : Nat → Nat) (ms es : Nat) (gE gM gB : Nat → Zp) (gT : Nat → Nat) (gG : Nat → Zp) (gN : Nat → Nat) (gK : Nat → Zp) (gD : Nat → Bool) (κ : Nat → EG) (b1 b2 b3 b4 b5 b6 : Int32) (g2 : SG) (k : Nat) (hC : CDv l D tys cI cE cG cM cS x0 q0 q1 qr xcp yX6_drop wsX6_drop [.int b1, .int b2] (ms, es, gE, gM, gB, gT, gG, gN, gK, gD) κ g2 k 3 18) : CtW (S := Nat → EG) l D tys yL_does wsL_does 11 240 3 18 [.ref x0, .int (jI 7), .int b1, .int b2, .int b3, .int b4, .int b5, .int b6] (fun (r : Int32) (u : Nat → EG) => r = (if k = 0 then (jI 0) else jI (rcp k)) ∧ INV g2 u) (CW cI cE cG cM cS x0 q0 q1 qr (ms, es, gE, gM, gB, gT, gG, gN, gK, gD) κ) (fun u => (CW cI cE cG cM cS x0 q0 q1 qr g2 u)) := by
  refine CtW.of (cc := cL_does) (maxL := 9) (hh := [(0, 242, 243, 64), (0, 242, 248, 66), (0, 242, 253, 68)]) (by decide +kernel) rfl (Nat.le_of_ble_eq_true rfl) ?_
  intro p e s m below meth c A ls hcx htab hK hX hZ hN hP hD hA hl
  obtain ⟨hx, hb, hr, hml, hown, hts, hlocks⟩ := hcx
  have hS : va_S A s.heap s.heap [] := va_S.rf
  have hown : s.vm.findClass RL = some m.cls := hown
  have hl : lv_has ls 9 [(0, .ref x0), (1, .int (jI 7)), (2, .int b1), (3, .int b2), (4, .int b3), (5, .int b4), (6, .int b5), (7, .int b6)] := hl
  have hC := w_dropped l D tys x0 q0 q1 qr ms es gE gM gB gT gG gN gK gD κ b1 b2 g2 k hC
  rw [← List.append_nil (CW cI cE cG cM cS x0 q0 q1 qr (ms, es, gE, gM, gB, gT, gG, gN, gK, gD) κ)] at hP hD
  refine lv_iload_n hx hb dL_does_0 rfl (lv_at hl 1 rfl) ?_
  refine n_if_ne (tgt := 11) hx hb (by unfold r32; decide) dL_does_1 (by decide) (fun h1 => ?_) (fun h1 => False.elim (by revert h1; decide))
  refine lv_iload_n hx hb dL_does_11 rfl (lv_at hl 1 rfl) ?_
  refine n_iconst hx hb dL_does_12 ?_
  refine n_icmp_ne (tgt := 27) hx hb (by unfold r32; decide) (by unfold r32; decide) dL_does_13 (by decide) (fun h13 => ?_) (fun h13 => False.elim (by revert h13; decide))
  refine lv_iload_n hx hb dL_does_27 rfl (lv_at hl 1 rfl) ?_
  refine n_iconst hx hb dL_does_28 ?_
  refine n_icmp_ne (tgt := 49) hx hb (by unfold r32; decide) (by unfold r32; decide) dL_does_29 (by decide) (fun h29 => ?_) (fun h29 => False.elim (by revert h29; decide))
  refine lv_iload_n hx hb dL_does_49 rfl (lv_at hl 1 rfl) ?_
  refine n_iconst hx hb dL_does_50 ?_
  refine n_icmp_ne (tgt := 63) hx hb (by unfold r32; decide) (by unfold r32; decide) dL_does_51 (by decide) (fun h51 => ?_) (fun h51 => False.elim (by revert h51; decide))
  refine lv_iload_n hx hb dL_does_63 rfl (lv_at hl 1 rfl) ?_
  refine n_iconst hx hb dL_does_64 ?_
  refine n_icmp_ne (tgt := 76) hx hb (by unfold r32; decide) (by unfold r32; decide) dL_does_65 (by decide) (fun h65 => ?_) (fun h65 => False.elim (by revert h65; decide))
  refine lv_iload_n hx hb dL_does_76 rfl (lv_at hl 1 rfl) ?_
  refine n_iconst hx hb dL_does_77 ?_
  refine n_icmp_ne (tgt := 96) hx hb (by unfold r32; decide) (by unfold r32; decide) dL_does_78 (by decide) (fun h78 => ?_) (fun h78 => False.elim (by revert h78; decide))
  refine lv_iload_n hx hb dL_does_96 rfl (lv_at hl 1 rfl) ?_
  refine n_bipush hx hb dL_does_97 (by decide) ?_
  refine n_icmp_ne (tgt := 119) hx hb (by unfold r32; decide) (by unfold r32; decide) dL_does_99 (by decide) (fun h99 => ?_) (fun h99 => False.elim (by revert h99; decide))
  refine lv_iload_n hx hb dL_does_119 rfl (lv_at hl 1 rfl) ?_
  refine n_bipush hx hb dL_does_120 (by decide) ?_
  refine n_icmp_ne (tgt := 134) hx hb (by unfold r32; decide) (by unfold r32; decide) dL_does_122 (by decide) (fun h122 => False.elim (by revert h122; decide)) (fun h122 => ?_)
  refine lv_aload_n hx hb dL_does_125 rfl (lv_at hl 0 rfl) ?_
  refine lv_iload_n hx hb dL_does_126 rfl (lv_at hl 2 rfl) ?_
  refine lv_iload_n hx hb dL_does_127 rfl (lv_at hl 3 rfl) ?_
  refine b_goI (vx_runS (As := .ref x0 :: [.int b1, .int b2]) (rest := []) ⟨hx, hb, hml, hown, hts⟩ (hC _) (va_cwS 3 hts gL_does_L_dropped rfl rfl rfl (by decide +kernel) ⟨(Nat.le_of_ble_eq_true rfl), (Nat.le_of_ble_eq_true rfl)⟩) (b_pre hK hX hZ hP hD hS hA) rfl rfl hl.1 rfl (lv_room (Nat.le_of_ble_eq_true rfl)) dL_does_128 ⟨(Nat.le_of_ble_eq_true rfl), (Nat.le_of_ble_eq_true rfl)⟩) hP hD hS hA (fun E ce q9 κ2 H locs hpx hP hD hS h7 h8 h9 => ?_) (fun r κ2 H locs hpost hP hD hS => ?_)
  · have hP : va_P D vwCl ((CW cI cE cG cM cS x0 q0 q1 qr g2 κ2) ++ []) H := hP
    have hD : va_D A ((CW cI cE cG cM cS x0 q0 q1 qr g2 κ2) ++ []) := hD
    rw [List.append_nil] at hP hD
    rcases xcp_i hpx.1 with ⟨hk0, hE⟩ | ⟨hk0, hE⟩
    · subst hk0
      subst hE
      refine g_c1 hown htab  (by decide) (by decide) (hts (.classLink RL 64 xIOB) (by decide +kernel)) (xcl_IOB hX) h7 h8 h9 ?_
      refine lv_astore (lv' := [(8, .ref q9), (0, .ref x0), (1, .int (jI 7)), (2, .int b1), (3, .int b2), (4, .int b3), (5, .int b4), (6, .int b5), (7, .int b6)]) hx hb dL_does_243 hl (by decide) rfl (fun ls hl => ?_)
      refine n_bipush hx hb dL_does_245 (by decide) ?_
      exact n_iret κ2 hx hb hr hlocks dL_does_247 hP hD hS ⟨rfl, hpx.2⟩
    · subst hk0
      subst hE
      refine g_c3 hown htab (by decide) (hts (.classLink RL 64 xIOB) (by decide +kernel)) hN.2.1 (by decide) (hts (.classLink RL 66 xIAE) (by decide +kernel)) hN.2.2 (by decide) (by decide) (hts (.classLink RL 68 xISE) (by decide +kernel)) (xcl_ISE hX) h7 h8 h9 ?_
      refine lv_astore (lv' := [(8, .ref q9), (0, .ref x0), (1, .int (jI 7)), (2, .int b1), (3, .int b2), (4, .int b3), (5, .int b4), (6, .int b5), (7, .int b6)]) hx hb dL_does_253 hl (by decide) rfl (fun ls hl => ?_)
      refine n_iconst hx hb dL_does_255 ?_
      exact n_iret κ2 hx hb hr hlocks dL_does_256 hP hD hS ⟨rfl, hpx.2⟩
  · obtain ⟨hk0, hrv, hI2⟩ := hpost
    have hP : va_P D vwCl ((CW cI cE cG cM cS x0 q0 q1 qr g2 κ2) ++ []) H := hP
    have hD : va_D A ((CW cI cE cG cM cS x0 q0 q1 qr g2 κ2) ++ []) := hD
    rw [List.append_nil] at hP hD
    refine lv_goto (tgt := 242) hx hb dL_does_131 (by decide) ?_
    exact n_iret κ2 hx hb hr hlocks dL_does_242 hP hD hS ⟨by rw [hk0]; exact hrv, hI2⟩

set_option maxHeartbeats 8000000 in
set_option maxRecDepth 100000 in
theorem w_does_gain (l : Launch) (D : va_G) (tys : List (ClassId × FieldType)) {cI cE cG cM cS : ClassId} (x0 q0 q1 : Nat) (qr : Nat → Nat) (ms es : Nat) (gE gM gB : Nat → Zp) (gT : Nat → Nat) (gG : Nat → Zp) (gN : Nat → Nat) (gK : Nat → Zp) (gD : Nat → Bool) (κ : Nat → EG) (b1 b2 b3 b4 b5 b6 : Int32) (g2 : SG) (k : Nat) (v : Int32) (hC : CDo l D tys cI cE cG cM cS x0 q0 q1 qr xc3 yX6_gain wsX6_gain [.int b1, .int b2, .int b3, .int b4, .int b5] (ms, es, gE, gM, gB, gT, gG, gN, gK, gD) κ g2 k v 9 51) : CtW (S := Nat → EG) l D tys yL_does wsL_does 11 240 9 51 [.ref x0, .int (jI 8), .int b1, .int b2, .int b3, .int b4, .int b5, .int b6] (fun (r : Int32) (u : Nat → EG) => r = (if k = 0 then v else jI (rc3 k)) ∧ INV g2 u) (CW cI cE cG cM cS x0 q0 q1 qr (ms, es, gE, gM, gB, gT, gG, gN, gK, gD) κ) (fun u => (CW cI cE cG cM cS x0 q0 q1 qr g2 u)) := by
  refine CtW.of (cc := cL_does) (maxL := 9) (hh := [(0, 242, 243, 64), (0, 242, 248, 66), (0, 242, 253, 68)]) (by decide +kernel) rfl (Nat.le_of_ble_eq_true rfl) ?_
  intro p e s m below meth c A ls hcx htab hK hX hZ hN hP hD hA hl
  obtain ⟨hx, hb, hr, hml, hown, hts, hlocks⟩ := hcx
  have hS : va_S A s.heap s.heap [] := va_S.rf
  have hown : s.vm.findClass RL = some m.cls := hown
  have hl : lv_has ls 9 [(0, .ref x0), (1, .int (jI 8)), (2, .int b1), (3, .int b2), (4, .int b3), (5, .int b4), (6, .int b5), (7, .int b6)] := hl
  rw [← List.append_nil (CW cI cE cG cM cS x0 q0 q1 qr (ms, es, gE, gM, gB, gT, gG, gN, gK, gD) κ)] at hP hD
  refine lv_iload_n hx hb dL_does_0 rfl (lv_at hl 1 rfl) ?_
  refine n_if_ne (tgt := 11) hx hb (by unfold r32; decide) dL_does_1 (by decide) (fun h1 => ?_) (fun h1 => False.elim (by revert h1; decide))
  refine lv_iload_n hx hb dL_does_11 rfl (lv_at hl 1 rfl) ?_
  refine n_iconst hx hb dL_does_12 ?_
  refine n_icmp_ne (tgt := 27) hx hb (by unfold r32; decide) (by unfold r32; decide) dL_does_13 (by decide) (fun h13 => ?_) (fun h13 => False.elim (by revert h13; decide))
  refine lv_iload_n hx hb dL_does_27 rfl (lv_at hl 1 rfl) ?_
  refine n_iconst hx hb dL_does_28 ?_
  refine n_icmp_ne (tgt := 49) hx hb (by unfold r32; decide) (by unfold r32; decide) dL_does_29 (by decide) (fun h29 => ?_) (fun h29 => False.elim (by revert h29; decide))
  refine lv_iload_n hx hb dL_does_49 rfl (lv_at hl 1 rfl) ?_
  refine n_iconst hx hb dL_does_50 ?_
  refine n_icmp_ne (tgt := 63) hx hb (by unfold r32; decide) (by unfold r32; decide) dL_does_51 (by decide) (fun h51 => ?_) (fun h51 => False.elim (by revert h51; decide))
  refine lv_iload_n hx hb dL_does_63 rfl (lv_at hl 1 rfl) ?_
  refine n_iconst hx hb dL_does_64 ?_
  refine n_icmp_ne (tgt := 76) hx hb (by unfold r32; decide) (by unfold r32; decide) dL_does_65 (by decide) (fun h65 => ?_) (fun h65 => False.elim (by revert h65; decide))
  refine lv_iload_n hx hb dL_does_76 rfl (lv_at hl 1 rfl) ?_
  refine n_iconst hx hb dL_does_77 ?_
  refine n_icmp_ne (tgt := 96) hx hb (by unfold r32; decide) (by unfold r32; decide) dL_does_78 (by decide) (fun h78 => ?_) (fun h78 => False.elim (by revert h78; decide))
  refine lv_iload_n hx hb dL_does_96 rfl (lv_at hl 1 rfl) ?_
  refine n_bipush hx hb dL_does_97 (by decide) ?_
  refine n_icmp_ne (tgt := 119) hx hb (by unfold r32; decide) (by unfold r32; decide) dL_does_99 (by decide) (fun h99 => ?_) (fun h99 => False.elim (by revert h99; decide))
  refine lv_iload_n hx hb dL_does_119 rfl (lv_at hl 1 rfl) ?_
  refine n_bipush hx hb dL_does_120 (by decide) ?_
  refine n_icmp_ne (tgt := 134) hx hb (by unfold r32; decide) (by unfold r32; decide) dL_does_122 (by decide) (fun h122 => ?_) (fun h122 => False.elim (by revert h122; decide))
  refine lv_iload_n hx hb dL_does_134 rfl (lv_at hl 1 rfl) ?_
  refine n_bipush hx hb dL_does_135 (by decide) ?_
  refine n_icmp_ne (tgt := 155) hx hb (by unfold r32; decide) (by unfold r32; decide) dL_does_137 (by decide) (fun h137 => False.elim (by revert h137; decide)) (fun h137 => ?_)
  refine lv_aload_n hx hb dL_does_140 rfl (lv_at hl 0 rfl) ?_
  refine lv_iload_n hx hb dL_does_141 rfl (lv_at hl 2 rfl) ?_
  refine lv_iload_n hx hb dL_does_142 rfl (lv_at hl 3 rfl) ?_
  refine lv_iload hx hb dL_does_143 (lv_at hl 4 rfl) ?_
  refine lv_iload hx hb dL_does_145 (lv_at hl 5 rfl) ?_
  refine lv_iload hx hb dL_does_147 (lv_at hl 6 rfl) ?_
  refine b_goI (vx_runV (As := [.int b1, .int b2, .int b3, .int b4, .int b5]) (rest := []) ⟨hx, hb, hml, hown, hts⟩ (hC _) (cwV 5 hts gL_does_X6_gain rfl rfl rfl (by decide +kernel) ⟨(Nat.le_of_ble_eq_true rfl), (Nat.le_of_ble_eq_true rfl)⟩) ⟨(b_pre hK hX hZ hP hD hS hA).1, va_recv hK.1 hP (ci := 6) (q0 := 0) rfl rfl, (b_pre hK hX hZ hP hD hS hA).2⟩ rfl rfl hl.1 rfl (lv_room (Nat.le_of_ble_eq_true rfl)) dL_does_149 ⟨(Nat.le_of_ble_eq_true rfl), (Nat.le_of_ble_eq_true rfl)⟩) hP hD hS hA (fun E ce q9 κ2 H locs hpx hP hD hS h7 h8 h9 => ?_) (fun r κ2 H locs hpost hP hD hS => ?_)
  · have hP : va_P D vwCl ((CW cI cE cG cM cS x0 q0 q1 qr g2 κ2) ++ []) H := hP
    have hD : va_D A ((CW cI cE cG cM cS x0 q0 q1 qr g2 κ2) ++ []) := hD
    rw [List.append_nil] at hP hD
    rcases xc3_i hpx.1 with ⟨hk0, hE⟩ | ⟨hk0, hE⟩ | ⟨hk0, hE⟩
    · subst hk0
      subst hE
      refine g_c1 hown htab  (by decide) (by decide) (hts (.classLink RL 64 xIOB) (by decide +kernel)) (xcl_IOB hX) h7 h8 h9 ?_
      refine lv_astore (lv' := [(8, .ref q9), (0, .ref x0), (1, .int (jI 8)), (2, .int b1), (3, .int b2), (4, .int b3), (5, .int b4), (6, .int b5), (7, .int b6)]) hx hb dL_does_243 hl (by decide) rfl (fun ls hl => ?_)
      refine n_bipush hx hb dL_does_245 (by decide) ?_
      exact n_iret κ2 hx hb hr hlocks dL_does_247 hP hD hS ⟨rfl, hpx.2⟩
    · subst hk0
      subst hE
      refine g_c2 hown htab (by decide) (hts (.classLink RL 64 xIOB) (by decide +kernel)) hN.1 (by decide) (by decide) (hts (.classLink RL 66 xIAE) (by decide +kernel)) (xcl_IAE hX) h7 h8 h9 ?_
      refine lv_astore (lv' := [(8, .ref q9), (0, .ref x0), (1, .int (jI 8)), (2, .int b1), (3, .int b2), (4, .int b3), (5, .int b4), (6, .int b5), (7, .int b6)]) hx hb dL_does_248 hl (by decide) rfl (fun ls hl => ?_)
      refine n_bipush hx hb dL_does_250 (by decide) ?_
      exact n_iret κ2 hx hb hr hlocks dL_does_252 hP hD hS ⟨rfl, hpx.2⟩
    · subst hk0
      subst hE
      refine g_c3 hown htab (by decide) (hts (.classLink RL 64 xIOB) (by decide +kernel)) hN.2.1 (by decide) (hts (.classLink RL 66 xIAE) (by decide +kernel)) hN.2.2 (by decide) (by decide) (hts (.classLink RL 68 xISE) (by decide +kernel)) (xcl_ISE hX) h7 h8 h9 ?_
      refine lv_astore (lv' := [(8, .ref q9), (0, .ref x0), (1, .int (jI 8)), (2, .int b1), (3, .int b2), (4, .int b3), (5, .int b4), (6, .int b5), (7, .int b6)]) hx hb dL_does_253 hl (by decide) rfl (fun ls hl => ?_)
      refine n_iconst hx hb dL_does_255 ?_
      exact n_iret κ2 hx hb hr hlocks dL_does_256 hP hD hS ⟨rfl, hpx.2⟩
  · obtain ⟨hk0, hrv, hI2⟩ := hpost
    have hP : va_P D vwCl ((CW cI cE cG cM cS x0 q0 q1 qr g2 κ2) ++ []) H := hP
    have hD : va_D A ((CW cI cE cG cM cS x0 q0 q1 qr g2 κ2) ++ []) := hD
    rw [List.append_nil] at hP hD
    refine lv_goto (tgt := 242) hx hb dL_does_152 (by decide) ?_
    exact n_iret κ2 hx hb hr hlocks dL_does_242 hP hD hS ⟨by rw [hk0]; exact hrv, hI2⟩

set_option maxHeartbeats 8000000 in
set_option maxRecDepth 100000 in
theorem w_does_information (l : Launch) (D : va_G) (tys : List (ClassId × FieldType)) {cI cE cG cM cS : ClassId} (x0 q0 q1 : Nat) (qr : Nat → Nat) (ms es : Nat) (gE gM gB : Nat → Zp) (gT : Nat → Nat) (gG : Nat → Zp) (gN : Nat → Nat) (gK : Nat → Zp) (gD : Nat → Bool) (κ : Nat → EG) (b1 b2 b3 b4 b5 b6 : Int32) (g2 : SG) (k : Nat) (v : Int32) (hC : CDo l D tys cI cE cG cM cS x0 q0 q1 qr xc3 yX6_information wsX6_information [.int b1, .int b2] (ms, es, gE, gM, gB, gT, gG, gN, gK, gD) κ g2 k v 6 25) : CtW (S := Nat → EG) l D tys yL_does wsL_does 11 240 6 25 [.ref x0, .int (jI 9), .int b1, .int b2, .int b3, .int b4, .int b5, .int b6] (fun (r : Int32) (u : Nat → EG) => r = (if k = 0 then v else jI (rc3 k)) ∧ INV g2 u) (CW cI cE cG cM cS x0 q0 q1 qr (ms, es, gE, gM, gB, gT, gG, gN, gK, gD) κ) (fun u => (CW cI cE cG cM cS x0 q0 q1 qr g2 u)) := by
  refine CtW.of (cc := cL_does) (maxL := 9) (hh := [(0, 242, 243, 64), (0, 242, 248, 66), (0, 242, 253, 68)]) (by decide +kernel) rfl (Nat.le_of_ble_eq_true rfl) ?_
  intro p e s m below meth c A ls hcx htab hK hX hZ hN hP hD hA hl
  obtain ⟨hx, hb, hr, hml, hown, hts, hlocks⟩ := hcx
  have hS : va_S A s.heap s.heap [] := va_S.rf
  have hown : s.vm.findClass RL = some m.cls := hown
  have hl : lv_has ls 9 [(0, .ref x0), (1, .int (jI 9)), (2, .int b1), (3, .int b2), (4, .int b3), (5, .int b4), (6, .int b5), (7, .int b6)] := hl
  rw [← List.append_nil (CW cI cE cG cM cS x0 q0 q1 qr (ms, es, gE, gM, gB, gT, gG, gN, gK, gD) κ)] at hP hD
  refine lv_iload_n hx hb dL_does_0 rfl (lv_at hl 1 rfl) ?_
  refine n_if_ne (tgt := 11) hx hb (by unfold r32; decide) dL_does_1 (by decide) (fun h1 => ?_) (fun h1 => False.elim (by revert h1; decide))
  refine lv_iload_n hx hb dL_does_11 rfl (lv_at hl 1 rfl) ?_
  refine n_iconst hx hb dL_does_12 ?_
  refine n_icmp_ne (tgt := 27) hx hb (by unfold r32; decide) (by unfold r32; decide) dL_does_13 (by decide) (fun h13 => ?_) (fun h13 => False.elim (by revert h13; decide))
  refine lv_iload_n hx hb dL_does_27 rfl (lv_at hl 1 rfl) ?_
  refine n_iconst hx hb dL_does_28 ?_
  refine n_icmp_ne (tgt := 49) hx hb (by unfold r32; decide) (by unfold r32; decide) dL_does_29 (by decide) (fun h29 => ?_) (fun h29 => False.elim (by revert h29; decide))
  refine lv_iload_n hx hb dL_does_49 rfl (lv_at hl 1 rfl) ?_
  refine n_iconst hx hb dL_does_50 ?_
  refine n_icmp_ne (tgt := 63) hx hb (by unfold r32; decide) (by unfold r32; decide) dL_does_51 (by decide) (fun h51 => ?_) (fun h51 => False.elim (by revert h51; decide))
  refine lv_iload_n hx hb dL_does_63 rfl (lv_at hl 1 rfl) ?_
  refine n_iconst hx hb dL_does_64 ?_
  refine n_icmp_ne (tgt := 76) hx hb (by unfold r32; decide) (by unfold r32; decide) dL_does_65 (by decide) (fun h65 => ?_) (fun h65 => False.elim (by revert h65; decide))
  refine lv_iload_n hx hb dL_does_76 rfl (lv_at hl 1 rfl) ?_
  refine n_iconst hx hb dL_does_77 ?_
  refine n_icmp_ne (tgt := 96) hx hb (by unfold r32; decide) (by unfold r32; decide) dL_does_78 (by decide) (fun h78 => ?_) (fun h78 => False.elim (by revert h78; decide))
  refine lv_iload_n hx hb dL_does_96 rfl (lv_at hl 1 rfl) ?_
  refine n_bipush hx hb dL_does_97 (by decide) ?_
  refine n_icmp_ne (tgt := 119) hx hb (by unfold r32; decide) (by unfold r32; decide) dL_does_99 (by decide) (fun h99 => ?_) (fun h99 => False.elim (by revert h99; decide))
  refine lv_iload_n hx hb dL_does_119 rfl (lv_at hl 1 rfl) ?_
  refine n_bipush hx hb dL_does_120 (by decide) ?_
  refine n_icmp_ne (tgt := 134) hx hb (by unfold r32; decide) (by unfold r32; decide) dL_does_122 (by decide) (fun h122 => ?_) (fun h122 => False.elim (by revert h122; decide))
  refine lv_iload_n hx hb dL_does_134 rfl (lv_at hl 1 rfl) ?_
  refine n_bipush hx hb dL_does_135 (by decide) ?_
  refine n_icmp_ne (tgt := 155) hx hb (by unfold r32; decide) (by unfold r32; decide) dL_does_137 (by decide) (fun h137 => ?_) (fun h137 => False.elim (by revert h137; decide))
  refine lv_iload_n hx hb dL_does_155 rfl (lv_at hl 1 rfl) ?_
  refine n_bipush hx hb dL_does_156 (by decide) ?_
  refine n_icmp_ne (tgt := 170) hx hb (by unfold r32; decide) (by unfold r32; decide) dL_does_158 (by decide) (fun h158 => False.elim (by revert h158; decide)) (fun h158 => ?_)
  refine lv_aload_n hx hb dL_does_161 rfl (lv_at hl 0 rfl) ?_
  refine lv_iload_n hx hb dL_does_162 rfl (lv_at hl 2 rfl) ?_
  refine lv_iload_n hx hb dL_does_163 rfl (lv_at hl 3 rfl) ?_
  refine b_goI (vx_runV (As := [.int b1, .int b2]) (rest := []) ⟨hx, hb, hml, hown, hts⟩ (hC _) (cwV 2 hts gL_does_X6_information rfl rfl rfl (by decide +kernel) ⟨(Nat.le_of_ble_eq_true rfl), (Nat.le_of_ble_eq_true rfl)⟩) ⟨(b_pre hK hX hZ hP hD hS hA).1, va_recv hK.1 hP (ci := 6) (q0 := 0) rfl rfl, (b_pre hK hX hZ hP hD hS hA).2⟩ rfl rfl hl.1 rfl (lv_room (Nat.le_of_ble_eq_true rfl)) dL_does_164 ⟨(Nat.le_of_ble_eq_true rfl), (Nat.le_of_ble_eq_true rfl)⟩) hP hD hS hA (fun E ce q9 κ2 H locs hpx hP hD hS h7 h8 h9 => ?_) (fun r κ2 H locs hpost hP hD hS => ?_)
  · have hP : va_P D vwCl ((CW cI cE cG cM cS x0 q0 q1 qr g2 κ2) ++ []) H := hP
    have hD : va_D A ((CW cI cE cG cM cS x0 q0 q1 qr g2 κ2) ++ []) := hD
    rw [List.append_nil] at hP hD
    rcases xc3_i hpx.1 with ⟨hk0, hE⟩ | ⟨hk0, hE⟩ | ⟨hk0, hE⟩
    · subst hk0
      subst hE
      refine g_c1 hown htab  (by decide) (by decide) (hts (.classLink RL 64 xIOB) (by decide +kernel)) (xcl_IOB hX) h7 h8 h9 ?_
      refine lv_astore (lv' := [(8, .ref q9), (0, .ref x0), (1, .int (jI 9)), (2, .int b1), (3, .int b2), (4, .int b3), (5, .int b4), (6, .int b5), (7, .int b6)]) hx hb dL_does_243 hl (by decide) rfl (fun ls hl => ?_)
      refine n_bipush hx hb dL_does_245 (by decide) ?_
      exact n_iret κ2 hx hb hr hlocks dL_does_247 hP hD hS ⟨rfl, hpx.2⟩
    · subst hk0
      subst hE
      refine g_c2 hown htab (by decide) (hts (.classLink RL 64 xIOB) (by decide +kernel)) hN.1 (by decide) (by decide) (hts (.classLink RL 66 xIAE) (by decide +kernel)) (xcl_IAE hX) h7 h8 h9 ?_
      refine lv_astore (lv' := [(8, .ref q9), (0, .ref x0), (1, .int (jI 9)), (2, .int b1), (3, .int b2), (4, .int b3), (5, .int b4), (6, .int b5), (7, .int b6)]) hx hb dL_does_248 hl (by decide) rfl (fun ls hl => ?_)
      refine n_bipush hx hb dL_does_250 (by decide) ?_
      exact n_iret κ2 hx hb hr hlocks dL_does_252 hP hD hS ⟨rfl, hpx.2⟩
    · subst hk0
      subst hE
      refine g_c3 hown htab (by decide) (hts (.classLink RL 64 xIOB) (by decide +kernel)) hN.2.1 (by decide) (hts (.classLink RL 66 xIAE) (by decide +kernel)) hN.2.2 (by decide) (by decide) (hts (.classLink RL 68 xISE) (by decide +kernel)) (xcl_ISE hX) h7 h8 h9 ?_
      refine lv_astore (lv' := [(8, .ref q9), (0, .ref x0), (1, .int (jI 9)), (2, .int b1), (3, .int b2), (4, .int b3), (5, .int b4), (6, .int b5), (7, .int b6)]) hx hb dL_does_253 hl (by decide) rfl (fun ls hl => ?_)
      refine n_iconst hx hb dL_does_255 ?_
      exact n_iret κ2 hx hb hr hlocks dL_does_256 hP hD hS ⟨rfl, hpx.2⟩
  · obtain ⟨hk0, hrv, hI2⟩ := hpost
    have hP : va_P D vwCl ((CW cI cE cG cM cS x0 q0 q1 qr g2 κ2) ++ []) H := hP
    have hD : va_D A ((CW cI cE cG cM cS x0 q0 q1 qr g2 κ2) ++ []) := hD
    rw [List.append_nil] at hP hD
    refine lv_goto (tgt := 242) hx hb dL_does_167 (by decide) ?_
    exact n_iret κ2 hx hb hr hlocks dL_does_242 hP hD hS ⟨by rw [hk0]; exact hrv, hI2⟩

set_option maxHeartbeats 8000000 in
set_option maxRecDepth 100000 in
theorem w_does_anew (l : Launch) (D : va_G) (tys : List (ClassId × FieldType)) {cI cE cG cM cS : ClassId} (x0 q0 q1 : Nat) (qr : Nat → Nat) (ms es : Nat) (gE gM gB : Nat → Zp) (gT : Nat → Nat) (gG : Nat → Zp) (gN : Nat → Nat) (gK : Nat → Zp) (gD : Nat → Bool) (κ : Nat → EG) (b1 b2 b3 b4 b5 b6 : Int32) (g2 : SG) (k : Nat) (v : Int32) (hC : CDo l D tys cI cE cG cM cS x0 q0 q1 qr xc3 yX6_anew wsX6_anew [.int b1, .int b2] (ms, es, gE, gM, gB, gT, gG, gN, gK, gD) κ g2 k v 9 32) : CtW (S := Nat → EG) l D tys yL_does wsL_does 11 240 9 32 [.ref x0, .int (jI 10), .int b1, .int b2, .int b3, .int b4, .int b5, .int b6] (fun (r : Int32) (u : Nat → EG) => r = (if k = 0 then v else jI (rc3 k)) ∧ INV g2 u) (CW cI cE cG cM cS x0 q0 q1 qr (ms, es, gE, gM, gB, gT, gG, gN, gK, gD) κ) (fun u => (CW cI cE cG cM cS x0 q0 q1 qr g2 u)) := by
  refine CtW.of (cc := cL_does) (maxL := 9) (hh := [(0, 242, 243, 64), (0, 242, 248, 66), (0, 242, 253, 68)]) (by decide +kernel) rfl (Nat.le_of_ble_eq_true rfl) ?_
  intro p e s m below meth c A ls hcx htab hK hX hZ hN hP hD hA hl
  obtain ⟨hx, hb, hr, hml, hown, hts, hlocks⟩ := hcx
  have hS : va_S A s.heap s.heap [] := va_S.rf
  have hown : s.vm.findClass RL = some m.cls := hown
  have hl : lv_has ls 9 [(0, .ref x0), (1, .int (jI 10)), (2, .int b1), (3, .int b2), (4, .int b3), (5, .int b4), (6, .int b5), (7, .int b6)] := hl
  rw [← List.append_nil (CW cI cE cG cM cS x0 q0 q1 qr (ms, es, gE, gM, gB, gT, gG, gN, gK, gD) κ)] at hP hD
  refine lv_iload_n hx hb dL_does_0 rfl (lv_at hl 1 rfl) ?_
  refine n_if_ne (tgt := 11) hx hb (by unfold r32; decide) dL_does_1 (by decide) (fun h1 => ?_) (fun h1 => False.elim (by revert h1; decide))
  refine lv_iload_n hx hb dL_does_11 rfl (lv_at hl 1 rfl) ?_
  refine n_iconst hx hb dL_does_12 ?_
  refine n_icmp_ne (tgt := 27) hx hb (by unfold r32; decide) (by unfold r32; decide) dL_does_13 (by decide) (fun h13 => ?_) (fun h13 => False.elim (by revert h13; decide))
  refine lv_iload_n hx hb dL_does_27 rfl (lv_at hl 1 rfl) ?_
  refine n_iconst hx hb dL_does_28 ?_
  refine n_icmp_ne (tgt := 49) hx hb (by unfold r32; decide) (by unfold r32; decide) dL_does_29 (by decide) (fun h29 => ?_) (fun h29 => False.elim (by revert h29; decide))
  refine lv_iload_n hx hb dL_does_49 rfl (lv_at hl 1 rfl) ?_
  refine n_iconst hx hb dL_does_50 ?_
  refine n_icmp_ne (tgt := 63) hx hb (by unfold r32; decide) (by unfold r32; decide) dL_does_51 (by decide) (fun h51 => ?_) (fun h51 => False.elim (by revert h51; decide))
  refine lv_iload_n hx hb dL_does_63 rfl (lv_at hl 1 rfl) ?_
  refine n_iconst hx hb dL_does_64 ?_
  refine n_icmp_ne (tgt := 76) hx hb (by unfold r32; decide) (by unfold r32; decide) dL_does_65 (by decide) (fun h65 => ?_) (fun h65 => False.elim (by revert h65; decide))
  refine lv_iload_n hx hb dL_does_76 rfl (lv_at hl 1 rfl) ?_
  refine n_iconst hx hb dL_does_77 ?_
  refine n_icmp_ne (tgt := 96) hx hb (by unfold r32; decide) (by unfold r32; decide) dL_does_78 (by decide) (fun h78 => ?_) (fun h78 => False.elim (by revert h78; decide))
  refine lv_iload_n hx hb dL_does_96 rfl (lv_at hl 1 rfl) ?_
  refine n_bipush hx hb dL_does_97 (by decide) ?_
  refine n_icmp_ne (tgt := 119) hx hb (by unfold r32; decide) (by unfold r32; decide) dL_does_99 (by decide) (fun h99 => ?_) (fun h99 => False.elim (by revert h99; decide))
  refine lv_iload_n hx hb dL_does_119 rfl (lv_at hl 1 rfl) ?_
  refine n_bipush hx hb dL_does_120 (by decide) ?_
  refine n_icmp_ne (tgt := 134) hx hb (by unfold r32; decide) (by unfold r32; decide) dL_does_122 (by decide) (fun h122 => ?_) (fun h122 => False.elim (by revert h122; decide))
  refine lv_iload_n hx hb dL_does_134 rfl (lv_at hl 1 rfl) ?_
  refine n_bipush hx hb dL_does_135 (by decide) ?_
  refine n_icmp_ne (tgt := 155) hx hb (by unfold r32; decide) (by unfold r32; decide) dL_does_137 (by decide) (fun h137 => ?_) (fun h137 => False.elim (by revert h137; decide))
  refine lv_iload_n hx hb dL_does_155 rfl (lv_at hl 1 rfl) ?_
  refine n_bipush hx hb dL_does_156 (by decide) ?_
  refine n_icmp_ne (tgt := 170) hx hb (by unfold r32; decide) (by unfold r32; decide) dL_does_158 (by decide) (fun h158 => ?_) (fun h158 => False.elim (by revert h158; decide))
  refine lv_iload_n hx hb dL_does_170 rfl (lv_at hl 1 rfl) ?_
  refine n_bipush hx hb dL_does_171 (by decide) ?_
  refine n_icmp_ne (tgt := 185) hx hb (by unfold r32; decide) (by unfold r32; decide) dL_does_173 (by decide) (fun h173 => False.elim (by revert h173; decide)) (fun h173 => ?_)
  refine lv_aload_n hx hb dL_does_176 rfl (lv_at hl 0 rfl) ?_
  refine lv_iload_n hx hb dL_does_177 rfl (lv_at hl 2 rfl) ?_
  refine lv_iload_n hx hb dL_does_178 rfl (lv_at hl 3 rfl) ?_
  refine b_goI (vx_runV (As := [.int b1, .int b2]) (rest := []) ⟨hx, hb, hml, hown, hts⟩ (hC _) (cwV 2 hts gL_does_X6_anew rfl rfl rfl (by decide +kernel) ⟨(Nat.le_of_ble_eq_true rfl), (Nat.le_of_ble_eq_true rfl)⟩) ⟨(b_pre hK hX hZ hP hD hS hA).1, va_recv hK.1 hP (ci := 6) (q0 := 0) rfl rfl, (b_pre hK hX hZ hP hD hS hA).2⟩ rfl rfl hl.1 rfl (lv_room (Nat.le_of_ble_eq_true rfl)) dL_does_179 ⟨(Nat.le_of_ble_eq_true rfl), (Nat.le_of_ble_eq_true rfl)⟩) hP hD hS hA (fun E ce q9 κ2 H locs hpx hP hD hS h7 h8 h9 => ?_) (fun r κ2 H locs hpost hP hD hS => ?_)
  · have hP : va_P D vwCl ((CW cI cE cG cM cS x0 q0 q1 qr g2 κ2) ++ []) H := hP
    have hD : va_D A ((CW cI cE cG cM cS x0 q0 q1 qr g2 κ2) ++ []) := hD
    rw [List.append_nil] at hP hD
    rcases xc3_i hpx.1 with ⟨hk0, hE⟩ | ⟨hk0, hE⟩ | ⟨hk0, hE⟩
    · subst hk0
      subst hE
      refine g_c1 hown htab  (by decide) (by decide) (hts (.classLink RL 64 xIOB) (by decide +kernel)) (xcl_IOB hX) h7 h8 h9 ?_
      refine lv_astore (lv' := [(8, .ref q9), (0, .ref x0), (1, .int (jI 10)), (2, .int b1), (3, .int b2), (4, .int b3), (5, .int b4), (6, .int b5), (7, .int b6)]) hx hb dL_does_243 hl (by decide) rfl (fun ls hl => ?_)
      refine n_bipush hx hb dL_does_245 (by decide) ?_
      exact n_iret κ2 hx hb hr hlocks dL_does_247 hP hD hS ⟨rfl, hpx.2⟩
    · subst hk0
      subst hE
      refine g_c2 hown htab (by decide) (hts (.classLink RL 64 xIOB) (by decide +kernel)) hN.1 (by decide) (by decide) (hts (.classLink RL 66 xIAE) (by decide +kernel)) (xcl_IAE hX) h7 h8 h9 ?_
      refine lv_astore (lv' := [(8, .ref q9), (0, .ref x0), (1, .int (jI 10)), (2, .int b1), (3, .int b2), (4, .int b3), (5, .int b4), (6, .int b5), (7, .int b6)]) hx hb dL_does_248 hl (by decide) rfl (fun ls hl => ?_)
      refine n_bipush hx hb dL_does_250 (by decide) ?_
      exact n_iret κ2 hx hb hr hlocks dL_does_252 hP hD hS ⟨rfl, hpx.2⟩
    · subst hk0
      subst hE
      refine g_c3 hown htab (by decide) (hts (.classLink RL 64 xIOB) (by decide +kernel)) hN.2.1 (by decide) (hts (.classLink RL 66 xIAE) (by decide +kernel)) hN.2.2 (by decide) (by decide) (hts (.classLink RL 68 xISE) (by decide +kernel)) (xcl_ISE hX) h7 h8 h9 ?_
      refine lv_astore (lv' := [(8, .ref q9), (0, .ref x0), (1, .int (jI 10)), (2, .int b1), (3, .int b2), (4, .int b3), (5, .int b4), (6, .int b5), (7, .int b6)]) hx hb dL_does_253 hl (by decide) rfl (fun ls hl => ?_)
      refine n_iconst hx hb dL_does_255 ?_
      exact n_iret κ2 hx hb hr hlocks dL_does_256 hP hD hS ⟨rfl, hpx.2⟩
  · obtain ⟨hk0, hrv, hI2⟩ := hpost
    have hP : va_P D vwCl ((CW cI cE cG cM cS x0 q0 q1 qr g2 κ2) ++ []) H := hP
    have hD : va_D A ((CW cI cE cG cM cS x0 q0 q1 qr g2 κ2) ++ []) := hD
    rw [List.append_nil] at hP hD
    refine lv_goto (tgt := 242) hx hb dL_does_182 (by decide) ?_
    exact n_iret κ2 hx hb hr hlocks dL_does_242 hP hD hS ⟨by rw [hk0]; exact hrv, hI2⟩

set_option maxHeartbeats 8000000 in
set_option maxRecDepth 100000 in
theorem w_does_smoothed (l : Launch) (D : va_G) (tys : List (ClassId × FieldType)) {cI cE cG cM cS : ClassId} (x0 q0 q1 : Nat) (qr : Nat → Nat) (ms es : Nat) (gE gM gB : Nat → Zp) (gT : Nat → Nat) (gG : Nat → Zp) (gN : Nat → Nat) (gK : Nat → Zp) (gD : Nat → Bool) (κ : Nat → EG) (b1 b2 b3 b4 b5 b6 : Int32) (g2 : SG) (k : Nat) (v : Int32) (hC : CDo l D tys cI cE cG cM cS x0 q0 q1 qr xc3 yX6_smoothed wsX6_smoothed [.int b1, .int b2, .int b3] (ms, es, gE, gM, gB, gT, gG, gN, gK, gD) κ g2 k v 6 29) : CtW (S := Nat → EG) l D tys yL_does wsL_does 11 240 6 29 [.ref x0, .int (jI 11), .int b1, .int b2, .int b3, .int b4, .int b5, .int b6] (fun (r : Int32) (u : Nat → EG) => r = (if k = 0 then v else jI (rc3 k)) ∧ INV g2 u) (CW cI cE cG cM cS x0 q0 q1 qr (ms, es, gE, gM, gB, gT, gG, gN, gK, gD) κ) (fun u => (CW cI cE cG cM cS x0 q0 q1 qr g2 u)) := by
  refine CtW.of (cc := cL_does) (maxL := 9) (hh := [(0, 242, 243, 64), (0, 242, 248, 66), (0, 242, 253, 68)]) (by decide +kernel) rfl (Nat.le_of_ble_eq_true rfl) ?_
  intro p e s m below meth c A ls hcx htab hK hX hZ hN hP hD hA hl
  obtain ⟨hx, hb, hr, hml, hown, hts, hlocks⟩ := hcx
  have hS : va_S A s.heap s.heap [] := va_S.rf
  have hown : s.vm.findClass RL = some m.cls := hown
  have hl : lv_has ls 9 [(0, .ref x0), (1, .int (jI 11)), (2, .int b1), (3, .int b2), (4, .int b3), (5, .int b4), (6, .int b5), (7, .int b6)] := hl
  rw [← List.append_nil (CW cI cE cG cM cS x0 q0 q1 qr (ms, es, gE, gM, gB, gT, gG, gN, gK, gD) κ)] at hP hD
  refine lv_iload_n hx hb dL_does_0 rfl (lv_at hl 1 rfl) ?_
  refine n_if_ne (tgt := 11) hx hb (by unfold r32; decide) dL_does_1 (by decide) (fun h1 => ?_) (fun h1 => False.elim (by revert h1; decide))
  refine lv_iload_n hx hb dL_does_11 rfl (lv_at hl 1 rfl) ?_
  refine n_iconst hx hb dL_does_12 ?_
  refine n_icmp_ne (tgt := 27) hx hb (by unfold r32; decide) (by unfold r32; decide) dL_does_13 (by decide) (fun h13 => ?_) (fun h13 => False.elim (by revert h13; decide))
  refine lv_iload_n hx hb dL_does_27 rfl (lv_at hl 1 rfl) ?_
  refine n_iconst hx hb dL_does_28 ?_
  refine n_icmp_ne (tgt := 49) hx hb (by unfold r32; decide) (by unfold r32; decide) dL_does_29 (by decide) (fun h29 => ?_) (fun h29 => False.elim (by revert h29; decide))
  refine lv_iload_n hx hb dL_does_49 rfl (lv_at hl 1 rfl) ?_
  refine n_iconst hx hb dL_does_50 ?_
  refine n_icmp_ne (tgt := 63) hx hb (by unfold r32; decide) (by unfold r32; decide) dL_does_51 (by decide) (fun h51 => ?_) (fun h51 => False.elim (by revert h51; decide))
  refine lv_iload_n hx hb dL_does_63 rfl (lv_at hl 1 rfl) ?_
  refine n_iconst hx hb dL_does_64 ?_
  refine n_icmp_ne (tgt := 76) hx hb (by unfold r32; decide) (by unfold r32; decide) dL_does_65 (by decide) (fun h65 => ?_) (fun h65 => False.elim (by revert h65; decide))
  refine lv_iload_n hx hb dL_does_76 rfl (lv_at hl 1 rfl) ?_
  refine n_iconst hx hb dL_does_77 ?_
  refine n_icmp_ne (tgt := 96) hx hb (by unfold r32; decide) (by unfold r32; decide) dL_does_78 (by decide) (fun h78 => ?_) (fun h78 => False.elim (by revert h78; decide))
  refine lv_iload_n hx hb dL_does_96 rfl (lv_at hl 1 rfl) ?_
  refine n_bipush hx hb dL_does_97 (by decide) ?_
  refine n_icmp_ne (tgt := 119) hx hb (by unfold r32; decide) (by unfold r32; decide) dL_does_99 (by decide) (fun h99 => ?_) (fun h99 => False.elim (by revert h99; decide))
  refine lv_iload_n hx hb dL_does_119 rfl (lv_at hl 1 rfl) ?_
  refine n_bipush hx hb dL_does_120 (by decide) ?_
  refine n_icmp_ne (tgt := 134) hx hb (by unfold r32; decide) (by unfold r32; decide) dL_does_122 (by decide) (fun h122 => ?_) (fun h122 => False.elim (by revert h122; decide))
  refine lv_iload_n hx hb dL_does_134 rfl (lv_at hl 1 rfl) ?_
  refine n_bipush hx hb dL_does_135 (by decide) ?_
  refine n_icmp_ne (tgt := 155) hx hb (by unfold r32; decide) (by unfold r32; decide) dL_does_137 (by decide) (fun h137 => ?_) (fun h137 => False.elim (by revert h137; decide))
  refine lv_iload_n hx hb dL_does_155 rfl (lv_at hl 1 rfl) ?_
  refine n_bipush hx hb dL_does_156 (by decide) ?_
  refine n_icmp_ne (tgt := 170) hx hb (by unfold r32; decide) (by unfold r32; decide) dL_does_158 (by decide) (fun h158 => ?_) (fun h158 => False.elim (by revert h158; decide))
  refine lv_iload_n hx hb dL_does_170 rfl (lv_at hl 1 rfl) ?_
  refine n_bipush hx hb dL_does_171 (by decide) ?_
  refine n_icmp_ne (tgt := 185) hx hb (by unfold r32; decide) (by unfold r32; decide) dL_does_173 (by decide) (fun h173 => ?_) (fun h173 => False.elim (by revert h173; decide))
  refine lv_iload_n hx hb dL_does_185 rfl (lv_at hl 1 rfl) ?_
  refine n_bipush hx hb dL_does_186 (by decide) ?_
  refine n_icmp_ne (tgt := 202) hx hb (by unfold r32; decide) (by unfold r32; decide) dL_does_188 (by decide) (fun h188 => False.elim (by revert h188; decide)) (fun h188 => ?_)
  refine lv_aload_n hx hb dL_does_191 rfl (lv_at hl 0 rfl) ?_
  refine lv_iload_n hx hb dL_does_192 rfl (lv_at hl 2 rfl) ?_
  refine lv_iload_n hx hb dL_does_193 rfl (lv_at hl 3 rfl) ?_
  refine lv_iload hx hb dL_does_194 (lv_at hl 4 rfl) ?_
  refine b_goI (vx_runV (As := [.int b1, .int b2, .int b3]) (rest := []) ⟨hx, hb, hml, hown, hts⟩ (hC _) (cwV 3 hts gL_does_X6_smoothed rfl rfl rfl (by decide +kernel) ⟨(Nat.le_of_ble_eq_true rfl), (Nat.le_of_ble_eq_true rfl)⟩) ⟨(b_pre hK hX hZ hP hD hS hA).1, va_recv hK.1 hP (ci := 6) (q0 := 0) rfl rfl, (b_pre hK hX hZ hP hD hS hA).2⟩ rfl rfl hl.1 rfl (lv_room (Nat.le_of_ble_eq_true rfl)) dL_does_196 ⟨(Nat.le_of_ble_eq_true rfl), (Nat.le_of_ble_eq_true rfl)⟩) hP hD hS hA (fun E ce q9 κ2 H locs hpx hP hD hS h7 h8 h9 => ?_) (fun r κ2 H locs hpost hP hD hS => ?_)
  · have hP : va_P D vwCl ((CW cI cE cG cM cS x0 q0 q1 qr g2 κ2) ++ []) H := hP
    have hD : va_D A ((CW cI cE cG cM cS x0 q0 q1 qr g2 κ2) ++ []) := hD
    rw [List.append_nil] at hP hD
    rcases xc3_i hpx.1 with ⟨hk0, hE⟩ | ⟨hk0, hE⟩ | ⟨hk0, hE⟩
    · subst hk0
      subst hE
      refine g_c1 hown htab  (by decide) (by decide) (hts (.classLink RL 64 xIOB) (by decide +kernel)) (xcl_IOB hX) h7 h8 h9 ?_
      refine lv_astore (lv' := [(8, .ref q9), (0, .ref x0), (1, .int (jI 11)), (2, .int b1), (3, .int b2), (4, .int b3), (5, .int b4), (6, .int b5), (7, .int b6)]) hx hb dL_does_243 hl (by decide) rfl (fun ls hl => ?_)
      refine n_bipush hx hb dL_does_245 (by decide) ?_
      exact n_iret κ2 hx hb hr hlocks dL_does_247 hP hD hS ⟨rfl, hpx.2⟩
    · subst hk0
      subst hE
      refine g_c2 hown htab (by decide) (hts (.classLink RL 64 xIOB) (by decide +kernel)) hN.1 (by decide) (by decide) (hts (.classLink RL 66 xIAE) (by decide +kernel)) (xcl_IAE hX) h7 h8 h9 ?_
      refine lv_astore (lv' := [(8, .ref q9), (0, .ref x0), (1, .int (jI 11)), (2, .int b1), (3, .int b2), (4, .int b3), (5, .int b4), (6, .int b5), (7, .int b6)]) hx hb dL_does_248 hl (by decide) rfl (fun ls hl => ?_)
      refine n_bipush hx hb dL_does_250 (by decide) ?_
      exact n_iret κ2 hx hb hr hlocks dL_does_252 hP hD hS ⟨rfl, hpx.2⟩
    · subst hk0
      subst hE
      refine g_c3 hown htab (by decide) (hts (.classLink RL 64 xIOB) (by decide +kernel)) hN.2.1 (by decide) (hts (.classLink RL 66 xIAE) (by decide +kernel)) hN.2.2 (by decide) (by decide) (hts (.classLink RL 68 xISE) (by decide +kernel)) (xcl_ISE hX) h7 h8 h9 ?_
      refine lv_astore (lv' := [(8, .ref q9), (0, .ref x0), (1, .int (jI 11)), (2, .int b1), (3, .int b2), (4, .int b3), (5, .int b4), (6, .int b5), (7, .int b6)]) hx hb dL_does_253 hl (by decide) rfl (fun ls hl => ?_)
      refine n_iconst hx hb dL_does_255 ?_
      exact n_iret κ2 hx hb hr hlocks dL_does_256 hP hD hS ⟨rfl, hpx.2⟩
  · obtain ⟨hk0, hrv, hI2⟩ := hpost
    have hP : va_P D vwCl ((CW cI cE cG cM cS x0 q0 q1 qr g2 κ2) ++ []) H := hP
    have hD : va_D A ((CW cI cE cG cM cS x0 q0 q1 qr g2 κ2) ++ []) := hD
    rw [List.append_nil] at hP hD
    refine lv_goto (tgt := 242) hx hb dL_does_199 (by decide) ?_
    exact n_iret κ2 hx hb hr hlocks dL_does_242 hP hD hS ⟨by rw [hk0]; exact hrv, hI2⟩

set_option maxHeartbeats 8000000 in
set_option maxRecDepth 100000 in
theorem w_does_ahead (l : Launch) (D : va_G) (tys : List (ClassId × FieldType)) {cI cE cG cM cS : ClassId} (x0 q0 q1 : Nat) (qr : Nat → Nat) (ms es : Nat) (gE gM gB : Nat → Zp) (gT : Nat → Nat) (gG : Nat → Zp) (gN : Nat → Nat) (gK : Nat → Zp) (gD : Nat → Bool) (κ : Nat → EG) (b1 b2 b3 b4 b5 b6 : Int32) (g2 : SG) (k : Nat) (v : Int32) (hC : CDo l D tys cI cE cG cM cS x0 q0 q1 qr xc2 yX6_ahead wsX6_ahead [.int b1, .int b2, .int b3] (ms, es, gE, gM, gB, gT, gG, gN, gK, gD) κ g2 k v 8 33) : CtW (S := Nat → EG) l D tys yL_does wsL_does 11 240 8 33 [.ref x0, .int (jI 12), .int b1, .int b2, .int b3, .int b4, .int b5, .int b6] (fun (r : Int32) (u : Nat → EG) => r = (if k = 0 then v else jI (rc2 k)) ∧ INV g2 u) (CW cI cE cG cM cS x0 q0 q1 qr (ms, es, gE, gM, gB, gT, gG, gN, gK, gD) κ) (fun u => (CW cI cE cG cM cS x0 q0 q1 qr g2 u)) := by
  refine CtW.of (cc := cL_does) (maxL := 9) (hh := [(0, 242, 243, 64), (0, 242, 248, 66), (0, 242, 253, 68)]) (by decide +kernel) rfl (Nat.le_of_ble_eq_true rfl) ?_
  intro p e s m below meth c A ls hcx htab hK hX hZ hN hP hD hA hl
  obtain ⟨hx, hb, hr, hml, hown, hts, hlocks⟩ := hcx
  have hS : va_S A s.heap s.heap [] := va_S.rf
  have hown : s.vm.findClass RL = some m.cls := hown
  have hl : lv_has ls 9 [(0, .ref x0), (1, .int (jI 12)), (2, .int b1), (3, .int b2), (4, .int b3), (5, .int b4), (6, .int b5), (7, .int b6)] := hl
  rw [← List.append_nil (CW cI cE cG cM cS x0 q0 q1 qr (ms, es, gE, gM, gB, gT, gG, gN, gK, gD) κ)] at hP hD
  refine lv_iload_n hx hb dL_does_0 rfl (lv_at hl 1 rfl) ?_
  refine n_if_ne (tgt := 11) hx hb (by unfold r32; decide) dL_does_1 (by decide) (fun h1 => ?_) (fun h1 => False.elim (by revert h1; decide))
  refine lv_iload_n hx hb dL_does_11 rfl (lv_at hl 1 rfl) ?_
  refine n_iconst hx hb dL_does_12 ?_
  refine n_icmp_ne (tgt := 27) hx hb (by unfold r32; decide) (by unfold r32; decide) dL_does_13 (by decide) (fun h13 => ?_) (fun h13 => False.elim (by revert h13; decide))
  refine lv_iload_n hx hb dL_does_27 rfl (lv_at hl 1 rfl) ?_
  refine n_iconst hx hb dL_does_28 ?_
  refine n_icmp_ne (tgt := 49) hx hb (by unfold r32; decide) (by unfold r32; decide) dL_does_29 (by decide) (fun h29 => ?_) (fun h29 => False.elim (by revert h29; decide))
  refine lv_iload_n hx hb dL_does_49 rfl (lv_at hl 1 rfl) ?_
  refine n_iconst hx hb dL_does_50 ?_
  refine n_icmp_ne (tgt := 63) hx hb (by unfold r32; decide) (by unfold r32; decide) dL_does_51 (by decide) (fun h51 => ?_) (fun h51 => False.elim (by revert h51; decide))
  refine lv_iload_n hx hb dL_does_63 rfl (lv_at hl 1 rfl) ?_
  refine n_iconst hx hb dL_does_64 ?_
  refine n_icmp_ne (tgt := 76) hx hb (by unfold r32; decide) (by unfold r32; decide) dL_does_65 (by decide) (fun h65 => ?_) (fun h65 => False.elim (by revert h65; decide))
  refine lv_iload_n hx hb dL_does_76 rfl (lv_at hl 1 rfl) ?_
  refine n_iconst hx hb dL_does_77 ?_
  refine n_icmp_ne (tgt := 96) hx hb (by unfold r32; decide) (by unfold r32; decide) dL_does_78 (by decide) (fun h78 => ?_) (fun h78 => False.elim (by revert h78; decide))
  refine lv_iload_n hx hb dL_does_96 rfl (lv_at hl 1 rfl) ?_
  refine n_bipush hx hb dL_does_97 (by decide) ?_
  refine n_icmp_ne (tgt := 119) hx hb (by unfold r32; decide) (by unfold r32; decide) dL_does_99 (by decide) (fun h99 => ?_) (fun h99 => False.elim (by revert h99; decide))
  refine lv_iload_n hx hb dL_does_119 rfl (lv_at hl 1 rfl) ?_
  refine n_bipush hx hb dL_does_120 (by decide) ?_
  refine n_icmp_ne (tgt := 134) hx hb (by unfold r32; decide) (by unfold r32; decide) dL_does_122 (by decide) (fun h122 => ?_) (fun h122 => False.elim (by revert h122; decide))
  refine lv_iload_n hx hb dL_does_134 rfl (lv_at hl 1 rfl) ?_
  refine n_bipush hx hb dL_does_135 (by decide) ?_
  refine n_icmp_ne (tgt := 155) hx hb (by unfold r32; decide) (by unfold r32; decide) dL_does_137 (by decide) (fun h137 => ?_) (fun h137 => False.elim (by revert h137; decide))
  refine lv_iload_n hx hb dL_does_155 rfl (lv_at hl 1 rfl) ?_
  refine n_bipush hx hb dL_does_156 (by decide) ?_
  refine n_icmp_ne (tgt := 170) hx hb (by unfold r32; decide) (by unfold r32; decide) dL_does_158 (by decide) (fun h158 => ?_) (fun h158 => False.elim (by revert h158; decide))
  refine lv_iload_n hx hb dL_does_170 rfl (lv_at hl 1 rfl) ?_
  refine n_bipush hx hb dL_does_171 (by decide) ?_
  refine n_icmp_ne (tgt := 185) hx hb (by unfold r32; decide) (by unfold r32; decide) dL_does_173 (by decide) (fun h173 => ?_) (fun h173 => False.elim (by revert h173; decide))
  refine lv_iload_n hx hb dL_does_185 rfl (lv_at hl 1 rfl) ?_
  refine n_bipush hx hb dL_does_186 (by decide) ?_
  refine n_icmp_ne (tgt := 202) hx hb (by unfold r32; decide) (by unfold r32; decide) dL_does_188 (by decide) (fun h188 => ?_) (fun h188 => False.elim (by revert h188; decide))
  refine lv_iload_n hx hb dL_does_202 rfl (lv_at hl 1 rfl) ?_
  refine n_bipush hx hb dL_does_203 (by decide) ?_
  refine n_icmp_ne (tgt := 219) hx hb (by unfold r32; decide) (by unfold r32; decide) dL_does_205 (by decide) (fun h205 => False.elim (by revert h205; decide)) (fun h205 => ?_)
  refine lv_aload_n hx hb dL_does_208 rfl (lv_at hl 0 rfl) ?_
  refine lv_iload_n hx hb dL_does_209 rfl (lv_at hl 2 rfl) ?_
  refine lv_iload_n hx hb dL_does_210 rfl (lv_at hl 3 rfl) ?_
  refine lv_iload hx hb dL_does_211 (lv_at hl 4 rfl) ?_
  refine b_goI (vx_runV (As := [.int b1, .int b2, .int b3]) (rest := []) ⟨hx, hb, hml, hown, hts⟩ (hC _) (cwV 3 hts gL_does_X6_ahead rfl rfl rfl (by decide +kernel) ⟨(Nat.le_of_ble_eq_true rfl), (Nat.le_of_ble_eq_true rfl)⟩) ⟨(b_pre hK hX hZ hP hD hS hA).1, va_recv hK.1 hP (ci := 6) (q0 := 0) rfl rfl, (b_pre hK hX hZ hP hD hS hA).2⟩ rfl rfl hl.1 rfl (lv_room (Nat.le_of_ble_eq_true rfl)) dL_does_213 ⟨(Nat.le_of_ble_eq_true rfl), (Nat.le_of_ble_eq_true rfl)⟩) hP hD hS hA (fun E ce q9 κ2 H locs hpx hP hD hS h7 h8 h9 => ?_) (fun r κ2 H locs hpost hP hD hS => ?_)
  · have hP : va_P D vwCl ((CW cI cE cG cM cS x0 q0 q1 qr g2 κ2) ++ []) H := hP
    have hD : va_D A ((CW cI cE cG cM cS x0 q0 q1 qr g2 κ2) ++ []) := hD
    rw [List.append_nil] at hP hD
    rcases xc2_i hpx.1 with ⟨hk0, hE⟩ | ⟨hk0, hE⟩
    · subst hk0
      subst hE
      refine g_c1 hown htab  (by decide) (by decide) (hts (.classLink RL 64 xIOB) (by decide +kernel)) (xcl_IOB hX) h7 h8 h9 ?_
      refine lv_astore (lv' := [(8, .ref q9), (0, .ref x0), (1, .int (jI 12)), (2, .int b1), (3, .int b2), (4, .int b3), (5, .int b4), (6, .int b5), (7, .int b6)]) hx hb dL_does_243 hl (by decide) rfl (fun ls hl => ?_)
      refine n_bipush hx hb dL_does_245 (by decide) ?_
      exact n_iret κ2 hx hb hr hlocks dL_does_247 hP hD hS ⟨rfl, hpx.2⟩
    · subst hk0
      subst hE
      refine g_c2 hown htab (by decide) (hts (.classLink RL 64 xIOB) (by decide +kernel)) hN.1 (by decide) (by decide) (hts (.classLink RL 66 xIAE) (by decide +kernel)) (xcl_IAE hX) h7 h8 h9 ?_
      refine lv_astore (lv' := [(8, .ref q9), (0, .ref x0), (1, .int (jI 12)), (2, .int b1), (3, .int b2), (4, .int b3), (5, .int b4), (6, .int b5), (7, .int b6)]) hx hb dL_does_248 hl (by decide) rfl (fun ls hl => ?_)
      refine n_bipush hx hb dL_does_250 (by decide) ?_
      exact n_iret κ2 hx hb hr hlocks dL_does_252 hP hD hS ⟨rfl, hpx.2⟩
  · obtain ⟨hk0, hrv, hI2⟩ := hpost
    have hP : va_P D vwCl ((CW cI cE cG cM cS x0 q0 q1 qr g2 κ2) ++ []) H := hP
    have hD : va_D A ((CW cI cE cG cM cS x0 q0 q1 qr g2 κ2) ++ []) := hD
    rw [List.append_nil] at hP hD
    refine lv_goto (tgt := 242) hx hb dL_does_216 (by decide) ?_
    exact n_iret κ2 hx hb hr hlocks dL_does_242 hP hD hS ⟨by rw [hk0]; exact hrv, hI2⟩

set_option maxHeartbeats 8000000 in
set_option maxRecDepth 100000 in
theorem w_does_of (l : Launch) (D : va_G) (tys : List (ClassId × FieldType)) {cI cE cG cM cS : ClassId} (x0 q0 q1 : Nat) (qr : Nat → Nat) (ms es : Nat) (gE gM gB : Nat → Zp) (gT : Nat → Nat) (gG : Nat → Zp) (gN : Nat → Nat) (gK : Nat → Zp) (gD : Nat → Bool) (κ : Nat → EG) (b1 b2 b3 b4 b5 b6 : Int32) (g2 : SG) (k : Nat) (v : Int32) (hC : CDo l D tys cI cE cG cM cS x0 q0 q1 qr xc2 yX6_of wsX6_of [.int b1, .int b2] (ms, es, gE, gM, gB, gT, gG, gN, gK, gD) κ g2 k v 2 12) : CtW (S := Nat → EG) l D tys yL_does wsL_does 11 240 2 12 [.ref x0, .int (jI 13), .int b1, .int b2, .int b3, .int b4, .int b5, .int b6] (fun (r : Int32) (u : Nat → EG) => r = (if k = 0 then v else jI (rc2 k)) ∧ INV g2 u) (CW cI cE cG cM cS x0 q0 q1 qr (ms, es, gE, gM, gB, gT, gG, gN, gK, gD) κ) (fun u => (CW cI cE cG cM cS x0 q0 q1 qr g2 u)) := by
  refine CtW.of (cc := cL_does) (maxL := 9) (hh := [(0, 242, 243, 64), (0, 242, 248, 66), (0, 242, 253, 68)]) (by decide +kernel) rfl (Nat.le_of_ble_eq_true rfl) ?_
  intro p e s m below meth c A ls hcx htab hK hX hZ hN hP hD hA hl
  obtain ⟨hx, hb, hr, hml, hown, hts, hlocks⟩ := hcx
  have hS : va_S A s.heap s.heap [] := va_S.rf
  have hown : s.vm.findClass RL = some m.cls := hown
  have hl : lv_has ls 9 [(0, .ref x0), (1, .int (jI 13)), (2, .int b1), (3, .int b2), (4, .int b3), (5, .int b4), (6, .int b5), (7, .int b6)] := hl
  rw [← List.append_nil (CW cI cE cG cM cS x0 q0 q1 qr (ms, es, gE, gM, gB, gT, gG, gN, gK, gD) κ)] at hP hD
  refine lv_iload_n hx hb dL_does_0 rfl (lv_at hl 1 rfl) ?_
  refine n_if_ne (tgt := 11) hx hb (by unfold r32; decide) dL_does_1 (by decide) (fun h1 => ?_) (fun h1 => False.elim (by revert h1; decide))
  refine lv_iload_n hx hb dL_does_11 rfl (lv_at hl 1 rfl) ?_
  refine n_iconst hx hb dL_does_12 ?_
  refine n_icmp_ne (tgt := 27) hx hb (by unfold r32; decide) (by unfold r32; decide) dL_does_13 (by decide) (fun h13 => ?_) (fun h13 => False.elim (by revert h13; decide))
  refine lv_iload_n hx hb dL_does_27 rfl (lv_at hl 1 rfl) ?_
  refine n_iconst hx hb dL_does_28 ?_
  refine n_icmp_ne (tgt := 49) hx hb (by unfold r32; decide) (by unfold r32; decide) dL_does_29 (by decide) (fun h29 => ?_) (fun h29 => False.elim (by revert h29; decide))
  refine lv_iload_n hx hb dL_does_49 rfl (lv_at hl 1 rfl) ?_
  refine n_iconst hx hb dL_does_50 ?_
  refine n_icmp_ne (tgt := 63) hx hb (by unfold r32; decide) (by unfold r32; decide) dL_does_51 (by decide) (fun h51 => ?_) (fun h51 => False.elim (by revert h51; decide))
  refine lv_iload_n hx hb dL_does_63 rfl (lv_at hl 1 rfl) ?_
  refine n_iconst hx hb dL_does_64 ?_
  refine n_icmp_ne (tgt := 76) hx hb (by unfold r32; decide) (by unfold r32; decide) dL_does_65 (by decide) (fun h65 => ?_) (fun h65 => False.elim (by revert h65; decide))
  refine lv_iload_n hx hb dL_does_76 rfl (lv_at hl 1 rfl) ?_
  refine n_iconst hx hb dL_does_77 ?_
  refine n_icmp_ne (tgt := 96) hx hb (by unfold r32; decide) (by unfold r32; decide) dL_does_78 (by decide) (fun h78 => ?_) (fun h78 => False.elim (by revert h78; decide))
  refine lv_iload_n hx hb dL_does_96 rfl (lv_at hl 1 rfl) ?_
  refine n_bipush hx hb dL_does_97 (by decide) ?_
  refine n_icmp_ne (tgt := 119) hx hb (by unfold r32; decide) (by unfold r32; decide) dL_does_99 (by decide) (fun h99 => ?_) (fun h99 => False.elim (by revert h99; decide))
  refine lv_iload_n hx hb dL_does_119 rfl (lv_at hl 1 rfl) ?_
  refine n_bipush hx hb dL_does_120 (by decide) ?_
  refine n_icmp_ne (tgt := 134) hx hb (by unfold r32; decide) (by unfold r32; decide) dL_does_122 (by decide) (fun h122 => ?_) (fun h122 => False.elim (by revert h122; decide))
  refine lv_iload_n hx hb dL_does_134 rfl (lv_at hl 1 rfl) ?_
  refine n_bipush hx hb dL_does_135 (by decide) ?_
  refine n_icmp_ne (tgt := 155) hx hb (by unfold r32; decide) (by unfold r32; decide) dL_does_137 (by decide) (fun h137 => ?_) (fun h137 => False.elim (by revert h137; decide))
  refine lv_iload_n hx hb dL_does_155 rfl (lv_at hl 1 rfl) ?_
  refine n_bipush hx hb dL_does_156 (by decide) ?_
  refine n_icmp_ne (tgt := 170) hx hb (by unfold r32; decide) (by unfold r32; decide) dL_does_158 (by decide) (fun h158 => ?_) (fun h158 => False.elim (by revert h158; decide))
  refine lv_iload_n hx hb dL_does_170 rfl (lv_at hl 1 rfl) ?_
  refine n_bipush hx hb dL_does_171 (by decide) ?_
  refine n_icmp_ne (tgt := 185) hx hb (by unfold r32; decide) (by unfold r32; decide) dL_does_173 (by decide) (fun h173 => ?_) (fun h173 => False.elim (by revert h173; decide))
  refine lv_iload_n hx hb dL_does_185 rfl (lv_at hl 1 rfl) ?_
  refine n_bipush hx hb dL_does_186 (by decide) ?_
  refine n_icmp_ne (tgt := 202) hx hb (by unfold r32; decide) (by unfold r32; decide) dL_does_188 (by decide) (fun h188 => ?_) (fun h188 => False.elim (by revert h188; decide))
  refine lv_iload_n hx hb dL_does_202 rfl (lv_at hl 1 rfl) ?_
  refine n_bipush hx hb dL_does_203 (by decide) ?_
  refine n_icmp_ne (tgt := 219) hx hb (by unfold r32; decide) (by unfold r32; decide) dL_does_205 (by decide) (fun h205 => ?_) (fun h205 => False.elim (by revert h205; decide))
  refine lv_iload_n hx hb dL_does_219 rfl (lv_at hl 1 rfl) ?_
  refine n_bipush hx hb dL_does_220 (by decide) ?_
  refine n_icmp_ne (tgt := 234) hx hb (by unfold r32; decide) (by unfold r32; decide) dL_does_222 (by decide) (fun h222 => False.elim (by revert h222; decide)) (fun h222 => ?_)
  refine lv_aload_n hx hb dL_does_225 rfl (lv_at hl 0 rfl) ?_
  refine lv_iload_n hx hb dL_does_226 rfl (lv_at hl 2 rfl) ?_
  refine lv_iload_n hx hb dL_does_227 rfl (lv_at hl 3 rfl) ?_
  refine b_goI (vx_runV (As := [.int b1, .int b2]) (rest := []) ⟨hx, hb, hml, hown, hts⟩ (hC _) (cwV 2 hts gL_does_X6_of rfl rfl rfl (by decide +kernel) ⟨(Nat.le_of_ble_eq_true rfl), (Nat.le_of_ble_eq_true rfl)⟩) ⟨(b_pre hK hX hZ hP hD hS hA).1, va_recv hK.1 hP (ci := 6) (q0 := 0) rfl rfl, (b_pre hK hX hZ hP hD hS hA).2⟩ rfl rfl hl.1 rfl (lv_room (Nat.le_of_ble_eq_true rfl)) dL_does_228 ⟨(Nat.le_of_ble_eq_true rfl), (Nat.le_of_ble_eq_true rfl)⟩) hP hD hS hA (fun E ce q9 κ2 H locs hpx hP hD hS h7 h8 h9 => ?_) (fun r κ2 H locs hpost hP hD hS => ?_)
  · have hP : va_P D vwCl ((CW cI cE cG cM cS x0 q0 q1 qr g2 κ2) ++ []) H := hP
    have hD : va_D A ((CW cI cE cG cM cS x0 q0 q1 qr g2 κ2) ++ []) := hD
    rw [List.append_nil] at hP hD
    rcases xc2_i hpx.1 with ⟨hk0, hE⟩ | ⟨hk0, hE⟩
    · subst hk0
      subst hE
      refine g_c1 hown htab  (by decide) (by decide) (hts (.classLink RL 64 xIOB) (by decide +kernel)) (xcl_IOB hX) h7 h8 h9 ?_
      refine lv_astore (lv' := [(8, .ref q9), (0, .ref x0), (1, .int (jI 13)), (2, .int b1), (3, .int b2), (4, .int b3), (5, .int b4), (6, .int b5), (7, .int b6)]) hx hb dL_does_243 hl (by decide) rfl (fun ls hl => ?_)
      refine n_bipush hx hb dL_does_245 (by decide) ?_
      exact n_iret κ2 hx hb hr hlocks dL_does_247 hP hD hS ⟨rfl, hpx.2⟩
    · subst hk0
      subst hE
      refine g_c2 hown htab (by decide) (hts (.classLink RL 64 xIOB) (by decide +kernel)) hN.1 (by decide) (by decide) (hts (.classLink RL 66 xIAE) (by decide +kernel)) (xcl_IAE hX) h7 h8 h9 ?_
      refine lv_astore (lv' := [(8, .ref q9), (0, .ref x0), (1, .int (jI 13)), (2, .int b1), (3, .int b2), (4, .int b3), (5, .int b4), (6, .int b5), (7, .int b6)]) hx hb dL_does_248 hl (by decide) rfl (fun ls hl => ?_)
      refine n_bipush hx hb dL_does_250 (by decide) ?_
      exact n_iret κ2 hx hb hr hlocks dL_does_252 hP hD hS ⟨rfl, hpx.2⟩
  · obtain ⟨hk0, hrv, hI2⟩ := hpost
    have hP : va_P D vwCl ((CW cI cE cG cM cS x0 q0 q1 qr g2 κ2) ++ []) H := hP
    have hD : va_D A ((CW cI cE cG cM cS x0 q0 q1 qr g2 κ2) ++ []) := hD
    rw [List.append_nil] at hP hD
    refine lv_goto (tgt := 242) hx hb dL_does_231 (by decide) ?_
    exact n_iret κ2 hx hb hr hlocks dL_does_242 hP hD hS ⟨by rw [hk0]; exact hrv, hI2⟩

set_option maxHeartbeats 8000000 in
set_option maxRecDepth 100000 in
theorem w_does_ofMeasurement (l : Launch) (D : va_G) (tys : List (ClassId × FieldType)) {cI cE cG cM cS : ClassId} (x0 q0 q1 : Nat) (qr : Nat → Nat) (ms es : Nat) (gE gM gB : Nat → Zp) (gT : Nat → Nat) (gG : Nat → Zp) (gN : Nat → Nat) (gK : Nat → Zp) (gD : Nat → Bool) (κ : Nat → EG) (b1 b2 b3 b4 b5 b6 : Int32) (g2 : SG) (k : Nat) (v : Int32) (hC : CDo l D tys cI cE cG cM cS x0 q0 q1 qr xc2 yX6_ofMeasurement wsX6_ofMeasurement [.int b1, .int b2, .int b3] (ms, es, gE, gM, gB, gT, gG, gN, gK, gD) κ g2 k v 3 18) : CtW (S := Nat → EG) l D tys yL_does wsL_does 11 240 3 18 [.ref x0, .int (jI 14), .int b1, .int b2, .int b3, .int b4, .int b5, .int b6] (fun (r : Int32) (u : Nat → EG) => r = (if k = 0 then v else jI (rc2 k)) ∧ INV g2 u) (CW cI cE cG cM cS x0 q0 q1 qr (ms, es, gE, gM, gB, gT, gG, gN, gK, gD) κ) (fun u => (CW cI cE cG cM cS x0 q0 q1 qr g2 u)) := by
  refine CtW.of (cc := cL_does) (maxL := 9) (hh := [(0, 242, 243, 64), (0, 242, 248, 66), (0, 242, 253, 68)]) (by decide +kernel) rfl (Nat.le_of_ble_eq_true rfl) ?_
  intro p e s m below meth c A ls hcx htab hK hX hZ hN hP hD hA hl
  obtain ⟨hx, hb, hr, hml, hown, hts, hlocks⟩ := hcx
  have hS : va_S A s.heap s.heap [] := va_S.rf
  have hown : s.vm.findClass RL = some m.cls := hown
  have hl : lv_has ls 9 [(0, .ref x0), (1, .int (jI 14)), (2, .int b1), (3, .int b2), (4, .int b3), (5, .int b4), (6, .int b5), (7, .int b6)] := hl
  rw [← List.append_nil (CW cI cE cG cM cS x0 q0 q1 qr (ms, es, gE, gM, gB, gT, gG, gN, gK, gD) κ)] at hP hD
  refine lv_iload_n hx hb dL_does_0 rfl (lv_at hl 1 rfl) ?_
  refine n_if_ne (tgt := 11) hx hb (by unfold r32; decide) dL_does_1 (by decide) (fun h1 => ?_) (fun h1 => False.elim (by revert h1; decide))
  refine lv_iload_n hx hb dL_does_11 rfl (lv_at hl 1 rfl) ?_
  refine n_iconst hx hb dL_does_12 ?_
  refine n_icmp_ne (tgt := 27) hx hb (by unfold r32; decide) (by unfold r32; decide) dL_does_13 (by decide) (fun h13 => ?_) (fun h13 => False.elim (by revert h13; decide))
  refine lv_iload_n hx hb dL_does_27 rfl (lv_at hl 1 rfl) ?_
  refine n_iconst hx hb dL_does_28 ?_
  refine n_icmp_ne (tgt := 49) hx hb (by unfold r32; decide) (by unfold r32; decide) dL_does_29 (by decide) (fun h29 => ?_) (fun h29 => False.elim (by revert h29; decide))
  refine lv_iload_n hx hb dL_does_49 rfl (lv_at hl 1 rfl) ?_
  refine n_iconst hx hb dL_does_50 ?_
  refine n_icmp_ne (tgt := 63) hx hb (by unfold r32; decide) (by unfold r32; decide) dL_does_51 (by decide) (fun h51 => ?_) (fun h51 => False.elim (by revert h51; decide))
  refine lv_iload_n hx hb dL_does_63 rfl (lv_at hl 1 rfl) ?_
  refine n_iconst hx hb dL_does_64 ?_
  refine n_icmp_ne (tgt := 76) hx hb (by unfold r32; decide) (by unfold r32; decide) dL_does_65 (by decide) (fun h65 => ?_) (fun h65 => False.elim (by revert h65; decide))
  refine lv_iload_n hx hb dL_does_76 rfl (lv_at hl 1 rfl) ?_
  refine n_iconst hx hb dL_does_77 ?_
  refine n_icmp_ne (tgt := 96) hx hb (by unfold r32; decide) (by unfold r32; decide) dL_does_78 (by decide) (fun h78 => ?_) (fun h78 => False.elim (by revert h78; decide))
  refine lv_iload_n hx hb dL_does_96 rfl (lv_at hl 1 rfl) ?_
  refine n_bipush hx hb dL_does_97 (by decide) ?_
  refine n_icmp_ne (tgt := 119) hx hb (by unfold r32; decide) (by unfold r32; decide) dL_does_99 (by decide) (fun h99 => ?_) (fun h99 => False.elim (by revert h99; decide))
  refine lv_iload_n hx hb dL_does_119 rfl (lv_at hl 1 rfl) ?_
  refine n_bipush hx hb dL_does_120 (by decide) ?_
  refine n_icmp_ne (tgt := 134) hx hb (by unfold r32; decide) (by unfold r32; decide) dL_does_122 (by decide) (fun h122 => ?_) (fun h122 => False.elim (by revert h122; decide))
  refine lv_iload_n hx hb dL_does_134 rfl (lv_at hl 1 rfl) ?_
  refine n_bipush hx hb dL_does_135 (by decide) ?_
  refine n_icmp_ne (tgt := 155) hx hb (by unfold r32; decide) (by unfold r32; decide) dL_does_137 (by decide) (fun h137 => ?_) (fun h137 => False.elim (by revert h137; decide))
  refine lv_iload_n hx hb dL_does_155 rfl (lv_at hl 1 rfl) ?_
  refine n_bipush hx hb dL_does_156 (by decide) ?_
  refine n_icmp_ne (tgt := 170) hx hb (by unfold r32; decide) (by unfold r32; decide) dL_does_158 (by decide) (fun h158 => ?_) (fun h158 => False.elim (by revert h158; decide))
  refine lv_iload_n hx hb dL_does_170 rfl (lv_at hl 1 rfl) ?_
  refine n_bipush hx hb dL_does_171 (by decide) ?_
  refine n_icmp_ne (tgt := 185) hx hb (by unfold r32; decide) (by unfold r32; decide) dL_does_173 (by decide) (fun h173 => ?_) (fun h173 => False.elim (by revert h173; decide))
  refine lv_iload_n hx hb dL_does_185 rfl (lv_at hl 1 rfl) ?_
  refine n_bipush hx hb dL_does_186 (by decide) ?_
  refine n_icmp_ne (tgt := 202) hx hb (by unfold r32; decide) (by unfold r32; decide) dL_does_188 (by decide) (fun h188 => ?_) (fun h188 => False.elim (by revert h188; decide))
  refine lv_iload_n hx hb dL_does_202 rfl (lv_at hl 1 rfl) ?_
  refine n_bipush hx hb dL_does_203 (by decide) ?_
  refine n_icmp_ne (tgt := 219) hx hb (by unfold r32; decide) (by unfold r32; decide) dL_does_205 (by decide) (fun h205 => ?_) (fun h205 => False.elim (by revert h205; decide))
  refine lv_iload_n hx hb dL_does_219 rfl (lv_at hl 1 rfl) ?_
  refine n_bipush hx hb dL_does_220 (by decide) ?_
  refine n_icmp_ne (tgt := 234) hx hb (by unfold r32; decide) (by unfold r32; decide) dL_does_222 (by decide) (fun h222 => ?_) (fun h222 => False.elim (by revert h222; decide))
  refine lv_aload_n hx hb dL_does_234 rfl (lv_at hl 0 rfl) ?_
  refine lv_iload_n hx hb dL_does_235 rfl (lv_at hl 2 rfl) ?_
  refine lv_iload_n hx hb dL_does_236 rfl (lv_at hl 3 rfl) ?_
  refine lv_iload hx hb dL_does_237 (lv_at hl 4 rfl) ?_
  refine b_goI (vx_runV (As := [.int b1, .int b2, .int b3]) (rest := []) ⟨hx, hb, hml, hown, hts⟩ (hC _) (cwV 3 hts gL_does_X6_ofMeasurement rfl rfl rfl (by decide +kernel) ⟨(Nat.le_of_ble_eq_true rfl), (Nat.le_of_ble_eq_true rfl)⟩) ⟨(b_pre hK hX hZ hP hD hS hA).1, va_recv hK.1 hP (ci := 6) (q0 := 0) rfl rfl, (b_pre hK hX hZ hP hD hS hA).2⟩ rfl rfl hl.1 rfl (lv_room (Nat.le_of_ble_eq_true rfl)) dL_does_239 ⟨(Nat.le_of_ble_eq_true rfl), (Nat.le_of_ble_eq_true rfl)⟩) hP hD hS hA (fun E ce q9 κ2 H locs hpx hP hD hS h7 h8 h9 => ?_) (fun r κ2 H locs hpost hP hD hS => ?_)
  · have hP : va_P D vwCl ((CW cI cE cG cM cS x0 q0 q1 qr g2 κ2) ++ []) H := hP
    have hD : va_D A ((CW cI cE cG cM cS x0 q0 q1 qr g2 κ2) ++ []) := hD
    rw [List.append_nil] at hP hD
    rcases xc2_i hpx.1 with ⟨hk0, hE⟩ | ⟨hk0, hE⟩
    · subst hk0
      subst hE
      refine g_c1 hown htab  (by decide) (by decide) (hts (.classLink RL 64 xIOB) (by decide +kernel)) (xcl_IOB hX) h7 h8 h9 ?_
      refine lv_astore (lv' := [(8, .ref q9), (0, .ref x0), (1, .int (jI 14)), (2, .int b1), (3, .int b2), (4, .int b3), (5, .int b4), (6, .int b5), (7, .int b6)]) hx hb dL_does_243 hl (by decide) rfl (fun ls hl => ?_)
      refine n_bipush hx hb dL_does_245 (by decide) ?_
      exact n_iret κ2 hx hb hr hlocks dL_does_247 hP hD hS ⟨rfl, hpx.2⟩
    · subst hk0
      subst hE
      refine g_c2 hown htab (by decide) (hts (.classLink RL 64 xIOB) (by decide +kernel)) hN.1 (by decide) (by decide) (hts (.classLink RL 66 xIAE) (by decide +kernel)) (xcl_IAE hX) h7 h8 h9 ?_
      refine lv_astore (lv' := [(8, .ref q9), (0, .ref x0), (1, .int (jI 14)), (2, .int b1), (3, .int b2), (4, .int b3), (5, .int b4), (6, .int b5), (7, .int b6)]) hx hb dL_does_248 hl (by decide) rfl (fun ls hl => ?_)
      refine n_bipush hx hb dL_does_250 (by decide) ?_
      exact n_iret κ2 hx hb hr hlocks dL_does_252 hP hD hS ⟨rfl, hpx.2⟩
  · obtain ⟨hk0, hrv, hI2⟩ := hpost
    have hP : va_P D vwCl ((CW cI cE cG cM cS x0 q0 q1 qr g2 κ2) ++ []) H := hP
    have hD : va_D A ((CW cI cE cG cM cS x0 q0 q1 qr g2 κ2) ++ []) := hD
    rw [List.append_nil] at hP hD
    exact n_iret κ2 hx hb hr hlocks dL_does_242 hP hD hS ⟨by rw [hk0]; exact hrv, hI2⟩
