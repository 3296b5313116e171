/-! the law's own methods -/
set_option maxHeartbeats 8000000 in
set_option maxRecDepth 100000 in
/--  -/
theorem w_model (l : Launch) (D : va_G) (tys : List (ClassId × FieldType)) {cI cJ cE cG cM cS : ClassId} (htJ : tys[1]? = some (cJ, .long)) (x0 q0 q1 : Nat) (qr : Nat → Nat) (ms es : Nat) (gE gM gB : Nat → Zp) (gT : Nat → Nat) (gG : Nat → Zp) (gN : Nat → Nat) (gK : Nat → Zp) (gD : Nat → Bool) (κ : Nat → EG) (g2 : SG) (k : Nat) (v : Int32) (hC : CDo l D tys cI cE cG cM cS x0 q0 q1 qr xcm yX6_model wsX6_model [] (ms, es, gE, gM, gB, gT, gG, gN, gK, gD) κ g2 k v) (o0 : Nat) (q : Nat → Int) : CtW (S := (Nat → EG) × (Nat → Int)) l D tys yL_model wsL_model 10 200 228 867 [.ref x0, .ref o0] (fun (r : Int32) (u : (Nat → EG) × (Nat → Int)) => r = jI ((k : Nat) : Int) ∧ INV g2 u.1 ∧ (k = 0 → jI (u.2 0) = v ∧ r32 (u.2 0))) (xOut cJ o0 q :: (CW cI cE cG cM cS x0 q0 q1 qr (ms, es, gE, gM, gB, gT, gG, gN, gK, gD) κ)) (fun u => xOut cJ o0 u.2 :: (CW cI cE cG cM cS x0 q0 q1 qr g2 u.1)) := by
  refine CtW.of (cc := cL_model) (maxL := 3) (hh := [(0, 8, 11, 13)]) (by decide +kernel) rfl (Nat.le_of_ble_eq_true rfl) ?_
  intro p e s m below meth c A ls hcx htab hK hX hZ hN hP hD hA hl
  obtain ⟨hx, hb, hr, hml, hown, hts, hlocks⟩ := hcx
  have hS : va_S A s.heap s.heap [] := va_S.rf
  have hown : s.vm.findClass RL = some m.cls := hown
  have hl : lv_has ls 3 [(0, .ref x0), (1, .ref o0)] := hl
  refine lv_aload_n hx hb dL_model_0 rfl (lv_at hl 1 rfl) ?_
  refine n_iconst hx hb dL_model_1 ?_
  refine lv_aload_n hx hb dL_model_2 rfl (lv_at hl 0 rfl) ?_
  have hP : va_P D vwCl ((CW cI cE cG cM cS x0 q0 q1 qr (ms, es, gE, gM, gB, gT, gG, gN, gK, gD) κ) ++ [(xOut cJ o0 q)]) s.heap := hP.perm (List.perm_append_comm (l₁ := ([(xOut cJ o0 q)] : va_W)) (l₂ := (CW cI cE cG cM cS x0 q0 q1 qr (ms, es, gE, gM, gB, gT, gG, gN, gK, gD) κ)))
  have hD : va_D A ((CW cI cE cG cM cS x0 q0 q1 qr (ms, es, gE, gM, gB, gT, gG, gN, gK, gD) κ) ++ [(xOut cJ o0 q)]) := hD.perm (List.perm_append_comm (l₁ := ([(xOut cJ o0 q)] : va_W)) (l₂ := (CW cI cE cG cM cS x0 q0 q1 qr (ms, es, gE, gM, gB, gT, gG, gN, gK, gD) κ)))
  refine b_goI (vx_runV (As := []) (rest := [.int (jI 0), .ref o0]) ⟨hx, hb, hml, hown, hts⟩ (hC _) (cwV 0 hts gL_model_X6_model rfl rfl rfl (by decide +kernel) ⟨(Nat.le_of_ble_eq_true rfl), (Nat.le_of_ble_eq_true rfl)⟩) ⟨(b_pre hK hX hZ hP hD hS hA).1, va_recv hK.1 hP (ci := 6) (q0 := 0) rfl rfl, (b_pre hK hX hZ hP hD hS hA).2⟩ rfl rfl hl.1 rfl (lv_room (Nat.le_of_ble_eq_true rfl)) dL_model_3 ⟨(Nat.le_of_ble_eq_true rfl), (Nat.le_of_ble_eq_true rfl)⟩) hP hD hS hA (fun E ce q9 κ2 H locs hpx hP hD hS h7 h8 h9 => ?_) (fun r κ2 H locs hpost hP hD hS => ?_)
  · have hP : va_P D vwCl ((xOut cJ o0 q) :: (CW cI cE cG cM cS x0 q0 q1 qr g2 κ2)) H := hP.perm (List.perm_append_comm (l₁ := (CW cI cE cG cM cS x0 q0 q1 qr g2 κ2)) (l₂ := ([(xOut cJ o0 q)] : va_W)))
    have hD : va_D A ((xOut cJ o0 q) :: (CW cI cE cG cM cS x0 q0 q1 qr g2 κ2)) := hD.perm (List.perm_append_comm (l₁ := (CW cI cE cG cM cS x0 q0 q1 qr g2 κ2)) (l₂ := ([(xOut cJ o0 q)] : va_W)))
    rcases xcm_i hpx.1 with ⟨hk0, hE⟩
    · subst hk0
      subst hE
      refine g_c1 hown htab  (by decide) (by decide) (hts (.classLink RL 13 xISE) (by decide +kernel)) (xcl_ISE hX) h7 h8 h9 ?_
      refine lv_astore_n (lv' := [(2, .ref q9), (0, .ref x0), (1, .ref o0)]) hx hb dL_model_11 rfl hl (by decide) rfl (fun ls hl => ?_)
      refine n_iconst hx hb dL_model_12 ?_
      exact n_iret (κ2, q) hx hb hr hlocks dL_model_13 hP hD hS ⟨rfl, hpx.2, fun h => absurd h (by decide)⟩
  · obtain ⟨hk0, hrv, hI2⟩ := hpost
    obtain ⟨z, hz, rz⟩ := i32_j r
    subst hz
    have hP : va_P D vwCl ((CW cI cE cG cM cS x0 q0 q1 qr g2 κ2) ++ [(xOut cJ o0 q)]) H := hP
    have hD : va_D A ((CW cI cE cG cM cS x0 q0 q1 qr g2 κ2) ++ [(xOut cJ o0 q)]) := hD
    have hP : va_P D vwCl ((xOut cJ o0 q) :: (CW cI cE cG cM cS x0 q0 q1 qr g2 κ2)) H := hP.perm (List.perm_append_comm (l₁ := (CW cI cE cG cM cS x0 q0 q1 qr g2 κ2)) (l₂ := ([(xOut cJ o0 q)] : va_W)))
    have hD : va_D A ((xOut cJ o0 q) :: (CW cI cE cG cM cS x0 q0 q1 qr g2 κ2)) := hD.perm (List.perm_append_comm (l₁ := (CW cI cE cG cM cS x0 q0 q1 qr g2 κ2)) (l₂ := ([(xOut cJ o0 q)] : va_W)))
    refine n_i2l hx hb dL_model_6 rz.1 rz.2 ?_
    refine n_last (i := 0) hx hb hK hP hD hS 0 1 rfl htJ rfl (Nat.le_of_ble_eq_true rfl) (Nat.le_of_ble_eq_true rfl) dL_model_7 (fun H locs hP hD hS => ?_)
    have hP : va_P D vwCl ((xOut cJ o0 (va_up q 0 z)) :: (CW cI cE cG cM cS x0 q0 q1 qr g2 κ2)) H := hP
    have hD : va_D A ((xOut cJ o0 (va_up q 0 z)) :: (CW cI cE cG cM cS x0 q0 q1 qr g2 κ2)) := hD
    refine lv_goto (tgt := 14) hx hb dL_model_8 (by decide) ?_
    refine n_iconst hx hb dL_model_14 ?_
    exact n_iret (κ2, va_up q 0 z) hx hb hr hlocks dL_model_15 hP hD hS ⟨by rw [hk0]; rfl, hI2, fun _ => by show jI (va_up q 0 z 0) = v ∧ r32 (va_up q 0 z 0); rw [up_s]; exact ⟨hrv, rz⟩⟩

set_option maxHeartbeats 8000000 in
set_option maxRecDepth 100000 in
/--  -/
theorem w_entry (l : Launch) (D : va_G) (tys : List (ClassId × FieldType)) {cI cJ cE cG cM cS : ClassId} (htJ : tys[1]? = some (cJ, .long)) (x0 q0 q1 : Nat) (qr : Nat → Nat) (ms es : Nat) (gE gM gB : Nat → Zp) (gT : Nat → Nat) (gG : Nat → Zp) (gN : Nat → Nat) (gK : Nat → Zp) (gD : Nat → Bool) (κ : Nat → EG) (b1 b2 b3 : Int32) (g2 : SG) (k : Nat) (v : Int32) (hC : CDo l D tys cI cE cG cM cS x0 q0 q1 qr xc2 yX6_entry wsX6_entry [.int b1, .int b2, .int b3] (ms, es, gE, gM, gB, gT, gG, gN, gK, gD) κ g2 k v) (o0 : Nat) (q : Nat → Int) : CtW (S := (Nat → EG) × (Nat → Int)) l D tys yL_entry wsL_entry 10 200 228 867 [.ref x0, .int b1, .int b2, .int b3, .ref o0] (fun (r : Int32) (u : (Nat → EG) × (Nat → Int)) => r = jI ((k : Nat) : Int) ∧ INV g2 u.1 ∧ (k = 0 → jI (u.2 0) = v ∧ r32 (u.2 0))) (xOut cJ o0 q :: (CW cI cE cG cM cS x0 q0 q1 qr (ms, es, gE, gM, gB, gT, gG, gN, gK, gD) κ)) (fun u => xOut cJ o0 u.2 :: (CW cI cE cG cM cS x0 q0 q1 qr g2 u.1)) := by
  refine CtW.of (cc := cL_entry) (maxL := 6) (hh := [(0, 12, 15, 19), (0, 12, 19, 21)]) (by decide +kernel) rfl (Nat.le_of_ble_eq_true rfl) ?_
  intro p e s m below meth c A ls hcx htab hK hX hZ hN hP hD hA hl
  obtain ⟨hx, hb, hr, hml, hown, hts, hlocks⟩ := hcx
  have hS : va_S A s.heap s.heap [] := va_S.rf
  have hown : s.vm.findClass RL = some m.cls := hown
  have hl : lv_has ls 6 [(0, .ref x0), (1, .int b1), (2, .int b2), (3, .int b3), (4, .ref o0)] := hl
  refine lv_aload hx hb dL_entry_0 (lv_at hl 4 rfl) ?_
  refine n_iconst hx hb dL_entry_2 ?_
  refine lv_aload_n hx hb dL_entry_3 rfl (lv_at hl 0 rfl) ?_
  refine lv_iload_n hx hb dL_entry_4 rfl (lv_at hl 1 rfl) ?_
  refine lv_iload_n hx hb dL_entry_5 rfl (lv_at hl 2 rfl) ?_
  refine lv_iload_n hx hb dL_entry_6 rfl (lv_at hl 3 rfl) ?_
  have hP : va_P D vwCl ((CW cI cE cG cM cS x0 q0 q1 qr (ms, es, gE, gM, gB, gT, gG, gN, gK, gD) κ) ++ [(xOut cJ o0 q)]) s.heap := hP.perm (List.perm_append_comm (l₁ := ([(xOut cJ o0 q)] : va_W)) (l₂ := (CW cI cE cG cM cS x0 q0 q1 qr (ms, es, gE, gM, gB, gT, gG, gN, gK, gD) κ)))
  have hD : va_D A ((CW cI cE cG cM cS x0 q0 q1 qr (ms, es, gE, gM, gB, gT, gG, gN, gK, gD) κ) ++ [(xOut cJ o0 q)]) := hD.perm (List.perm_append_comm (l₁ := ([(xOut cJ o0 q)] : va_W)) (l₂ := (CW cI cE cG cM cS x0 q0 q1 qr (ms, es, gE, gM, gB, gT, gG, gN, gK, gD) κ)))
  refine b_goI (vx_runV (As := [.int b1, .int b2, .int b3]) (rest := [.int (jI 0), .ref o0]) ⟨hx, hb, hml, hown, hts⟩ (hC _) (cwV 3 hts gL_entry_X6_entry rfl rfl rfl (by decide +kernel) ⟨(Nat.le_of_ble_eq_true rfl), (Nat.le_of_ble_eq_true rfl)⟩) ⟨(b_pre hK hX hZ hP hD hS hA).1, va_recv hK.1 hP (ci := 6) (q0 := 0) rfl rfl, (b_pre hK hX hZ hP hD hS hA).2⟩ rfl rfl hl.1 rfl (lv_room (Nat.le_of_ble_eq_true rfl)) dL_entry_7 ⟨(Nat.le_of_ble_eq_true rfl), (Nat.le_of_ble_eq_true rfl)⟩) hP hD hS hA (fun E ce q9 κ2 H locs hpx hP hD hS h7 h8 h9 => ?_) (fun r κ2 H locs hpost hP hD hS => ?_)
  · have hP : va_P D vwCl ((xOut cJ o0 q) :: (CW cI cE cG cM cS x0 q0 q1 qr g2 κ2)) H := hP.perm (List.perm_append_comm (l₁ := (CW cI cE cG cM cS x0 q0 q1 qr g2 κ2)) (l₂ := ([(xOut cJ o0 q)] : va_W)))
    have hD : va_D A ((xOut cJ o0 q) :: (CW cI cE cG cM cS x0 q0 q1 qr g2 κ2)) := hD.perm (List.perm_append_comm (l₁ := (CW cI cE cG cM cS x0 q0 q1 qr g2 κ2)) (l₂ := ([(xOut cJ o0 q)] : va_W)))
    rcases xc2_i hpx.1 with ⟨hk0, hE⟩ | ⟨hk0, hE⟩
    · subst hk0
      subst hE
      refine g_c1 hown htab  (by decide) (by decide) (hts (.classLink RL 19 xIOB) (by decide +kernel)) (xcl_IOB hX) h7 h8 h9 ?_
      refine lv_astore (lv' := [(5, .ref q9), (0, .ref x0), (1, .int b1), (2, .int b2), (3, .int b3), (4, .ref o0)]) hx hb dL_entry_15 hl (by decide) rfl (fun ls hl => ?_)
      refine n_iconst hx hb dL_entry_17 ?_
      exact n_iret (κ2, q) hx hb hr hlocks dL_entry_18 hP hD hS ⟨rfl, hpx.2, fun h => absurd h (by decide)⟩
    · subst hk0
      subst hE
      refine g_c2 hown htab (by decide) (hts (.classLink RL 19 xIOB) (by decide +kernel)) hN.1 (by decide) (by decide) (hts (.classLink RL 21 xIAE) (by decide +kernel)) (xcl_IAE hX) h7 h8 h9 ?_
      refine lv_astore (lv' := [(5, .ref q9), (0, .ref x0), (1, .int b1), (2, .int b2), (3, .int b3), (4, .ref o0)]) hx hb dL_entry_19 hl (by decide) rfl (fun ls hl => ?_)
      refine n_iconst hx hb dL_entry_21 ?_
      exact n_iret (κ2, q) hx hb hr hlocks dL_entry_22 hP hD hS ⟨rfl, hpx.2, fun h => absurd h (by decide)⟩
  · obtain ⟨hk0, hrv, hI2⟩ := hpost
    obtain ⟨z, hz, rz⟩ := i32_j r
    subst hz
    have hP : va_P D vwCl ((CW cI cE cG cM cS x0 q0 q1 qr g2 κ2) ++ [(xOut cJ o0 q)]) H := hP
    have hD : va_D A ((CW cI cE cG cM cS x0 q0 q1 qr g2 κ2) ++ [(xOut cJ o0 q)]) := hD
    have hP : va_P D vwCl ((xOut cJ o0 q) :: (CW cI cE cG cM cS x0 q0 q1 qr g2 κ2)) H := hP.perm (List.perm_append_comm (l₁ := (CW cI cE cG cM cS x0 q0 q1 qr g2 κ2)) (l₂ := ([(xOut cJ o0 q)] : va_W)))
    have hD : va_D A ((xOut cJ o0 q) :: (CW cI cE cG cM cS x0 q0 q1 qr g2 κ2)) := hD.perm (List.perm_append_comm (l₁ := (CW cI cE cG cM cS x0 q0 q1 qr g2 κ2)) (l₂ := ([(xOut cJ o0 q)] : va_W)))
    refine n_i2l hx hb dL_entry_10 rz.1 rz.2 ?_
    refine n_last (i := 0) hx hb hK hP hD hS 0 1 rfl htJ rfl (Nat.le_of_ble_eq_true rfl) (Nat.le_of_ble_eq_true rfl) dL_entry_11 (fun H locs hP hD hS => ?_)
    have hP : va_P D vwCl ((xOut cJ o0 (va_up q 0 z)) :: (CW cI cE cG cM cS x0 q0 q1 qr g2 κ2)) H := hP
    have hD : va_D A ((xOut cJ o0 (va_up q 0 z)) :: (CW cI cE cG cM cS x0 q0 q1 qr g2 κ2)) := hD
    refine lv_goto (tgt := 23) hx hb dL_entry_12 (by decide) ?_
    refine n_iconst hx hb dL_entry_23 ?_
    exact n_iret (κ2, va_up q 0 z) hx hb hr hlocks dL_entry_24 hP hD hS ⟨by rw [hk0]; rfl, hI2, fun _ => by show jI (va_up q 0 z 0) = v ∧ r32 (va_up q 0 z 0); rw [up_s]; exact ⟨hrv, rz⟩⟩

set_option maxHeartbeats 8000000 in
set_option maxRecDepth 100000 in
/--  -/
theorem w_begin (l : Launch) (D : va_G) (tys : List (ClassId × FieldType)) {cI cJ cE cG cM cS : ClassId} (htJ : tys[1]? = some (cJ, .long)) (x0 q0 q1 : Nat) (qr : Nat → Nat) (ms es : Nat) (gE gM gB : Nat → Zp) (gT : Nat → Nat) (gG : Nat → Zp) (gN : Nat → Nat) (gK : Nat → Zp) (gD : Nat → Bool) (κ : Nat → EG) (b1 b2 b3 b4 b5 b6 : Int32) (g2 : SG) (k : Nat) (v : Int32) (hC : CDo l D tys cI cE cG cM cS x0 q0 q1 qr xc3 yX6_begin wsX6_begin [.int b1, .int b2, .int b3, .int b4, .int b5, .int b6] (ms, es, gE, gM, gB, gT, gG, gN, gK, gD) κ g2 k v) (o0 : Nat) (q : Nat → Int) : CtW (S := (Nat → EG) × (Nat → Int)) l D tys yL_begin wsL_begin 10 200 228 867 [.ref x0, .int b1, .int b2, .int b3, .int b4, .int b5, .int b6, .ref o0] (fun (r : Int32) (u : (Nat → EG) × (Nat → Int)) => r = jI ((k : Nat) : Int) ∧ INV g2 u.1 ∧ (k = 0 → jI (u.2 0) = v ∧ r32 (u.2 0))) (xOut cJ o0 q :: (CW cI cE cG cM cS x0 q0 q1 qr (ms, es, gE, gM, gB, gT, gG, gN, gK, gD) κ)) (fun u => xOut cJ o0 u.2 :: (CW cI cE cG cM cS x0 q0 q1 qr g2 u.1)) := by
  refine CtW.of (cc := cL_begin) (maxL := 9) (hh := [(0, 18, 21, 19), (0, 18, 25, 21), (0, 18, 29, 13)]) (by decide +kernel) rfl (Nat.le_of_ble_eq_true rfl) ?_
  intro p e s m below meth c A ls hcx htab hK hX hZ hN hP hD hA hl
  obtain ⟨hx, hb, hr, hml, hown, hts, hlocks⟩ := hcx
  have hS : va_S A s.heap s.heap [] := va_S.rf
  have hown : s.vm.findClass RL = some m.cls := hown
  have hl : lv_has ls 9 [(0, .ref x0), (1, .int b1), (2, .int b2), (3, .int b3), (4, .int b4), (5, .int b5), (6, .int b6), (7, .ref o0)] := hl
  refine lv_aload hx hb dL_begin_0 (lv_at hl 7 rfl) ?_
  refine n_iconst hx hb dL_begin_2 ?_
  refine lv_aload_n hx hb dL_begin_3 rfl (lv_at hl 0 rfl) ?_
  refine lv_iload_n hx hb dL_begin_4 rfl (lv_at hl 1 rfl) ?_
  refine lv_iload_n hx hb dL_begin_5 rfl (lv_at hl 2 rfl) ?_
  refine lv_iload_n hx hb dL_begin_6 rfl (lv_at hl 3 rfl) ?_
  refine lv_iload hx hb dL_begin_7 (lv_at hl 4 rfl) ?_
  refine lv_iload hx hb dL_begin_9 (lv_at hl 5 rfl) ?_
  refine lv_iload hx hb dL_begin_11 (lv_at hl 6 rfl) ?_
  have hP : va_P D vwCl ((CW cI cE cG cM cS x0 q0 q1 qr (ms, es, gE, gM, gB, gT, gG, gN, gK, gD) κ) ++ [(xOut cJ o0 q)]) s.heap := hP.perm (List.perm_append_comm (l₁ := ([(xOut cJ o0 q)] : va_W)) (l₂ := (CW cI cE cG cM cS x0 q0 q1 qr (ms, es, gE, gM, gB, gT, gG, gN, gK, gD) κ)))
  have hD : va_D A ((CW cI cE cG cM cS x0 q0 q1 qr (ms, es, gE, gM, gB, gT, gG, gN, gK, gD) κ) ++ [(xOut cJ o0 q)]) := hD.perm (List.perm_append_comm (l₁ := ([(xOut cJ o0 q)] : va_W)) (l₂ := (CW cI cE cG cM cS x0 q0 q1 qr (ms, es, gE, gM, gB, gT, gG, gN, gK, gD) κ)))
  refine b_goI (vx_runV (As := [.int b1, .int b2, .int b3, .int b4, .int b5, .int b6]) (rest := [.int (jI 0), .ref o0]) ⟨hx, hb, hml, hown, hts⟩ (hC _) (cwV 6 hts gL_begin_X6_begin rfl rfl rfl (by decide +kernel) ⟨(Nat.le_of_ble_eq_true rfl), (Nat.le_of_ble_eq_true rfl)⟩) ⟨(b_pre hK hX hZ hP hD hS hA).1, va_recv hK.1 hP (ci := 6) (q0 := 0) rfl rfl, (b_pre hK hX hZ hP hD hS hA).2⟩ rfl rfl hl.1 rfl (lv_room (Nat.le_of_ble_eq_true rfl)) dL_begin_13 ⟨(Nat.le_of_ble_eq_true rfl), (Nat.le_of_ble_eq_true rfl)⟩) hP hD hS hA (fun E ce q9 κ2 H locs hpx hP hD hS h7 h8 h9 => ?_) (fun r κ2 H locs hpost hP hD hS => ?_)
  · have hP : va_P D vwCl ((xOut cJ o0 q) :: (CW cI cE cG cM cS x0 q0 q1 qr g2 κ2)) H := hP.perm (List.perm_append_comm (l₁ := (CW cI cE cG cM cS x0 q0 q1 qr g2 κ2)) (l₂ := ([(xOut cJ o0 q)] : va_W)))
    have hD : va_D A ((xOut cJ o0 q) :: (CW cI cE cG cM cS x0 q0 q1 qr g2 κ2)) := hD.perm (List.perm_append_comm (l₁ := (CW cI cE cG cM cS x0 q0 q1 qr g2 κ2)) (l₂ := ([(xOut cJ o0 q)] : va_W)))
    rcases xc3_i hpx.1 with ⟨hk0, hE⟩ | ⟨hk0, hE⟩ | ⟨hk0, hE⟩
    · subst hk0
      subst hE
      refine g_c1 hown htab  (by decide) (by decide) (hts (.classLink RL 19 xIOB) (by decide +kernel)) (xcl_IOB hX) h7 h8 h9 ?_
      refine lv_astore (lv' := [(8, .ref q9), (0, .ref x0), (1, .int b1), (2, .int b2), (3, .int b3), (4, .int b4), (5, .int b5), (6, .int b6), (7, .ref o0)]) hx hb dL_begin_21 hl (by decide) rfl (fun ls hl => ?_)
      refine n_iconst hx hb dL_begin_23 ?_
      exact n_iret (κ2, q) hx hb hr hlocks dL_begin_24 hP hD hS ⟨rfl, hpx.2, fun h => absurd h (by decide)⟩
    · subst hk0
      subst hE
      refine g_c2 hown htab (by decide) (hts (.classLink RL 19 xIOB) (by decide +kernel)) hN.1 (by decide) (by decide) (hts (.classLink RL 21 xIAE) (by decide +kernel)) (xcl_IAE hX) h7 h8 h9 ?_
      refine lv_astore (lv' := [(8, .ref q9), (0, .ref x0), (1, .int b1), (2, .int b2), (3, .int b3), (4, .int b4), (5, .int b5), (6, .int b6), (7, .ref o0)]) hx hb dL_begin_25 hl (by decide) rfl (fun ls hl => ?_)
      refine n_iconst hx hb dL_begin_27 ?_
      exact n_iret (κ2, q) hx hb hr hlocks dL_begin_28 hP hD hS ⟨rfl, hpx.2, fun h => absurd h (by decide)⟩
    · subst hk0
      subst hE
      refine g_c3 hown htab (by decide) (hts (.classLink RL 19 xIOB) (by decide +kernel)) hN.2.1 (by decide) (hts (.classLink RL 21 xIAE) (by decide +kernel)) hN.2.2 (by decide) (by decide) (hts (.classLink RL 13 xISE) (by decide +kernel)) (xcl_ISE hX) h7 h8 h9 ?_
      refine lv_astore (lv' := [(8, .ref q9), (0, .ref x0), (1, .int b1), (2, .int b2), (3, .int b3), (4, .int b4), (5, .int b5), (6, .int b6), (7, .ref o0)]) hx hb dL_begin_29 hl (by decide) rfl (fun ls hl => ?_)
      refine n_iconst hx hb dL_begin_31 ?_
      exact n_iret (κ2, q) hx hb hr hlocks dL_begin_32 hP hD hS ⟨rfl, hpx.2, fun h => absurd h (by decide)⟩
  · obtain ⟨hk0, hrv, hI2⟩ := hpost
    obtain ⟨z, hz, rz⟩ := i32_j r
    subst hz
    have hP : va_P D vwCl ((CW cI cE cG cM cS x0 q0 q1 qr g2 κ2) ++ [(xOut cJ o0 q)]) H := hP
    have hD : va_D A ((CW cI cE cG cM cS x0 q0 q1 qr g2 κ2) ++ [(xOut cJ o0 q)]) := hD
    have hP : va_P D vwCl ((xOut cJ o0 q) :: (CW cI cE cG cM cS x0 q0 q1 qr g2 κ2)) H := hP.perm (List.perm_append_comm (l₁ := (CW cI cE cG cM cS x0 q0 q1 qr g2 κ2)) (l₂ := ([(xOut cJ o0 q)] : va_W)))
    have hD : va_D A ((xOut cJ o0 q) :: (CW cI cE cG cM cS x0 q0 q1 qr g2 κ2)) := hD.perm (List.perm_append_comm (l₁ := (CW cI cE cG cM cS x0 q0 q1 qr g2 κ2)) (l₂ := ([(xOut cJ o0 q)] : va_W)))
    refine n_i2l hx hb dL_begin_16 rz.1 rz.2 ?_
    refine n_last (i := 0) hx hb hK hP hD hS 0 1 rfl htJ rfl (Nat.le_of_ble_eq_true rfl) (Nat.le_of_ble_eq_true rfl) dL_begin_17 (fun H locs hP hD hS => ?_)
    have hP : va_P D vwCl ((xOut cJ o0 (va_up q 0 z)) :: (CW cI cE cG cM cS x0 q0 q1 qr g2 κ2)) H := hP
    have hD : va_D A ((xOut cJ o0 (va_up q 0 z)) :: (CW cI cE cG cM cS x0 q0 q1 qr g2 κ2)) := hD
    refine lv_goto (tgt := 33) hx hb dL_begin_18 (by decide) ?_
    refine n_iconst hx hb dL_begin_33 ?_
    exact n_iret (κ2, va_up q 0 z) hx hb hr hlocks dL_begin_34 hP hD hS ⟨by rw [hk0]; rfl, hI2, fun _ => by show jI (va_up q 0 z 0) = v ∧ r32 (va_up q 0 z 0); rw [up_s]; exact ⟨hrv, rz⟩⟩

set_option maxHeartbeats 8000000 in
set_option maxRecDepth 100000 in
/--  -/
theorem w_gate (l : Launch) (D : va_G) (tys : List (ClassId × FieldType)) {cI cJ cE cG cM cS : ClassId} (htJ : tys[1]? = some (cJ, .long)) (x0 q0 q1 : Nat) (qr : Nat → Nat) (ms es : Nat) (gE gM gB : Nat → Zp) (gT : Nat → Nat) (gG : Nat → Zp) (gN : Nat → Nat) (gK : Nat → Zp) (gD : Nat → Bool) (κ : Nat → EG) (b1 b2 : Int32) (g2 : SG) (k : Nat) (v : Int32) (hC : CDo l D tys cI cE cG cM cS x0 q0 q1 qr xc2 yX6_gate wsX6_gate [.int b1, .int b2] (ms, es, gE, gM, gB, gT, gG, gN, gK, gD) κ g2 k v) (o0 : Nat) (q : Nat → Int) : CtW (S := (Nat → EG) × (Nat → Int)) l D tys yL_gate wsL_gate 10 200 228 867 [.ref x0, .int b1, .int b2, .ref o0] (fun (r : Int32) (u : (Nat → EG) × (Nat → Int)) => r = jI ((k : Nat) : Int) ∧ INV g2 u.1 ∧ (k = 0 → jI (u.2 0) = v ∧ r32 (u.2 0))) (xOut cJ o0 q :: (CW cI cE cG cM cS x0 q0 q1 qr (ms, es, gE, gM, gB, gT, gG, gN, gK, gD) κ)) (fun u => xOut cJ o0 u.2 :: (CW cI cE cG cM cS x0 q0 q1 qr g2 u.1)) := by
  refine CtW.of (cc := cL_gate) (maxL := 5) (hh := [(0, 10, 13, 19), (0, 10, 17, 21)]) (by decide +kernel) rfl (Nat.le_of_ble_eq_true rfl) ?_
  intro p e s m below meth c A ls hcx htab hK hX hZ hN hP hD hA hl
  obtain ⟨hx, hb, hr, hml, hown, hts, hlocks⟩ := hcx
  have hS : va_S A s.heap s.heap [] := va_S.rf
  have hown : s.vm.findClass RL = some m.cls := hown
  have hl : lv_has ls 5 [(0, .ref x0), (1, .int b1), (2, .int b2), (3, .ref o0)] := hl
  refine lv_aload_n hx hb dL_gate_0 rfl (lv_at hl 3 rfl) ?_
  refine n_iconst hx hb dL_gate_1 ?_
  refine lv_aload_n hx hb dL_gate_2 rfl (lv_at hl 0 rfl) ?_
  refine lv_iload_n hx hb dL_gate_3 rfl (lv_at hl 1 rfl) ?_
  refine lv_iload_n hx hb dL_gate_4 rfl (lv_at hl 2 rfl) ?_
  have hP : va_P D vwCl ((CW cI cE cG cM cS x0 q0 q1 qr (ms, es, gE, gM, gB, gT, gG, gN, gK, gD) κ) ++ [(xOut cJ o0 q)]) s.heap := hP.perm (List.perm_append_comm (l₁ := ([(xOut cJ o0 q)] : va_W)) (l₂ := (CW cI cE cG cM cS x0 q0 q1 qr (ms, es, gE, gM, gB, gT, gG, gN, gK, gD) κ)))
  have hD : va_D A ((CW cI cE cG cM cS x0 q0 q1 qr (ms, es, gE, gM, gB, gT, gG, gN, gK, gD) κ) ++ [(xOut cJ o0 q)]) := hD.perm (List.perm_append_comm (l₁ := ([(xOut cJ o0 q)] : va_W)) (l₂ := (CW cI cE cG cM cS x0 q0 q1 qr (ms, es, gE, gM, gB, gT, gG, gN, gK, gD) κ)))
  refine b_goI (vx_runV (As := [.int b1, .int b2]) (rest := [.int (jI 0), .ref o0]) ⟨hx, hb, hml, hown, hts⟩ (hC _) (cwV 2 hts gL_gate_X6_gate rfl rfl rfl (by decide +kernel) ⟨(Nat.le_of_ble_eq_true rfl), (Nat.le_of_ble_eq_true rfl)⟩) ⟨(b_pre hK hX hZ hP hD hS hA).1, va_recv hK.1 hP (ci := 6) (q0 := 0) rfl rfl, (b_pre hK hX hZ hP hD hS hA).2⟩ rfl rfl hl.1 rfl (lv_room (Nat.le_of_ble_eq_true rfl)) dL_gate_5 ⟨(Nat.le_of_ble_eq_true rfl), (Nat.le_of_ble_eq_true rfl)⟩) hP hD hS hA (fun E ce q9 κ2 H locs hpx hP hD hS h7 h8 h9 => ?_) (fun r κ2 H locs hpost hP hD hS => ?_)
  · have hP : va_P D vwCl ((xOut cJ o0 q) :: (CW cI cE cG cM cS x0 q0 q1 qr g2 κ2)) H := hP.perm (List.perm_append_comm (l₁ := (CW cI cE cG cM cS x0 q0 q1 qr g2 κ2)) (l₂ := ([(xOut cJ o0 q)] : va_W)))
    have hD : va_D A ((xOut cJ o0 q) :: (CW cI cE cG cM cS x0 q0 q1 qr g2 κ2)) := hD.perm (List.perm_append_comm (l₁ := (CW cI cE cG cM cS x0 q0 q1 qr g2 κ2)) (l₂ := ([(xOut cJ o0 q)] : va_W)))
    rcases xc2_i hpx.1 with ⟨hk0, hE⟩ | ⟨hk0, hE⟩
    · subst hk0
      subst hE
      refine g_c1 hown htab  (by decide) (by decide) (hts (.classLink RL 19 xIOB) (by decide +kernel)) (xcl_IOB hX) h7 h8 h9 ?_
      refine lv_astore (lv' := [(4, .ref q9), (0, .ref x0), (1, .int b1), (2, .int b2), (3, .ref o0)]) hx hb dL_gate_13 hl (by decide) rfl (fun ls hl => ?_)
      refine n_iconst hx hb dL_gate_15 ?_
      exact n_iret (κ2, q) hx hb hr hlocks dL_gate_16 hP hD hS ⟨rfl, hpx.2, fun h => absurd h (by decide)⟩
    · subst hk0
      subst hE
      refine g_c2 hown htab (by decide) (hts (.classLink RL 19 xIOB) (by decide +kernel)) hN.1 (by decide) (by decide) (hts (.classLink RL 21 xIAE) (by decide +kernel)) (xcl_IAE hX) h7 h8 h9 ?_
      refine lv_astore (lv' := [(4, .ref q9), (0, .ref x0), (1, .int b1), (2, .int b2), (3, .ref o0)]) hx hb dL_gate_17 hl (by decide) rfl (fun ls hl => ?_)
      refine n_iconst hx hb dL_gate_19 ?_
      exact n_iret (κ2, q) hx hb hr hlocks dL_gate_20 hP hD hS ⟨rfl, hpx.2, fun h => absurd h (by decide)⟩
  · obtain ⟨hk0, hrv, hI2⟩ := hpost
    obtain ⟨z, hz, rz⟩ := i32_j r
    subst hz
    have hP : va_P D vwCl ((CW cI cE cG cM cS x0 q0 q1 qr g2 κ2) ++ [(xOut cJ o0 q)]) H := hP
    have hD : va_D A ((CW cI cE cG cM cS x0 q0 q1 qr g2 κ2) ++ [(xOut cJ o0 q)]) := hD
    have hP : va_P D vwCl ((xOut cJ o0 q) :: (CW cI cE cG cM cS x0 q0 q1 qr g2 κ2)) H := hP.perm (List.perm_append_comm (l₁ := (CW cI cE cG cM cS x0 q0 q1 qr g2 κ2)) (l₂ := ([(xOut cJ o0 q)] : va_W)))
    have hD : va_D A ((xOut cJ o0 q) :: (CW cI cE cG cM cS x0 q0 q1 qr g2 κ2)) := hD.perm (List.perm_append_comm (l₁ := (CW cI cE cG cM cS x0 q0 q1 qr g2 κ2)) (l₂ := ([(xOut cJ o0 q)] : va_W)))
    refine n_i2l hx hb dL_gate_8 rz.1 rz.2 ?_
    refine n_last (i := 0) hx hb hK hP hD hS 0 1 rfl htJ rfl (Nat.le_of_ble_eq_true rfl) (Nat.le_of_ble_eq_true rfl) dL_gate_9 (fun H locs hP hD hS => ?_)
    have hP : va_P D vwCl ((xOut cJ o0 (va_up q 0 z)) :: (CW cI cE cG cM cS x0 q0 q1 qr g2 κ2)) H := hP
    have hD : va_D A ((xOut cJ o0 (va_up q 0 z)) :: (CW cI cE cG cM cS x0 q0 q1 qr g2 κ2)) := hD
    refine lv_goto (tgt := 21) hx hb dL_gate_10 (by decide) ?_
    refine n_iconst hx hb dL_gate_21 ?_
    exact n_iret (κ2, va_up q 0 z) hx hb hr hlocks dL_gate_22 hP hD hS ⟨by rw [hk0]; rfl, hI2, fun _ => by show jI (va_up q 0 z 0) = v ∧ r32 (va_up q 0 z 0); rw [up_s]; exact ⟨hrv, rz⟩⟩

set_option maxHeartbeats 8000000 in
set_option maxRecDepth 100000 in
/--  -/
theorem w_predict (l : Launch) (D : va_G) (tys : List (ClassId × FieldType)) {cI cJ cE cG cM cS : ClassId} (htJ : tys[1]? = some (cJ, .long)) (x0 q0 q1 : Nat) (qr : Nat → Nat) (ms es : Nat) (gE gM gB : Nat → Zp) (gT : Nat → Nat) (gG : Nat → Zp) (gN : Nat → Nat) (gK : Nat → Zp) (gD : Nat → Bool) (κ : Nat → EG) (b1 : Int32) (g2 : SG) (k : Nat) (v : Int32) (hC : CDo l D tys cI cE cG cM cS x0 q0 q1 qr xcp yX6_predict wsX6_predict [.int b1] (ms, es, gE, gM, gB, gT, gG, gN, gK, gD) κ g2 k v) (o0 : Nat) (q : Nat → Int) : CtW (S := (Nat → EG) × (Nat → Int)) l D tys yL_predict wsL_predict 10 200 228 867 [.ref x0, .int b1, .ref o0] (fun (r : Int32) (u : (Nat → EG) × (Nat → Int)) => r = jI ((k : Nat) : Int) ∧ INV g2 u.1 ∧ (k = 0 → jI (u.2 0) = v ∧ r32 (u.2 0))) (xOut cJ o0 q :: (CW cI cE cG cM cS x0 q0 q1 qr (ms, es, gE, gM, gB, gT, gG, gN, gK, gD) κ)) (fun u => xOut cJ o0 u.2 :: (CW cI cE cG cM cS x0 q0 q1 qr g2 u.1)) := by
  refine CtW.of (cc := cL_predict) (maxL := 4) (hh := [(0, 9, 12, 19), (0, 9, 15, 13)]) (by decide +kernel) rfl (Nat.le_of_ble_eq_true rfl) ?_
  intro p e s m below meth c A ls hcx htab hK hX hZ hN hP hD hA hl
  obtain ⟨hx, hb, hr, hml, hown, hts, hlocks⟩ := hcx
  have hS : va_S A s.heap s.heap [] := va_S.rf
  have hown : s.vm.findClass RL = some m.cls := hown
  have hl : lv_has ls 4 [(0, .ref x0), (1, .int b1), (2, .ref o0)] := hl
  refine lv_aload_n hx hb dL_predict_0 rfl (lv_at hl 2 rfl) ?_
  refine n_iconst hx hb dL_predict_1 ?_
  refine lv_aload_n hx hb dL_predict_2 rfl (lv_at hl 0 rfl) ?_
  refine lv_iload_n hx hb dL_predict_3 rfl (lv_at hl 1 rfl) ?_
  have hP : va_P D vwCl ((CW cI cE cG cM cS x0 q0 q1 qr (ms, es, gE, gM, gB, gT, gG, gN, gK, gD) κ) ++ [(xOut cJ o0 q)]) s.heap := hP.perm (List.perm_append_comm (l₁ := ([(xOut cJ o0 q)] : va_W)) (l₂ := (CW cI cE cG cM cS x0 q0 q1 qr (ms, es, gE, gM, gB, gT, gG, gN, gK, gD) κ)))
  have hD : va_D A ((CW cI cE cG cM cS x0 q0 q1 qr (ms, es, gE, gM, gB, gT, gG, gN, gK, gD) κ) ++ [(xOut cJ o0 q)]) := hD.perm (List.perm_append_comm (l₁ := ([(xOut cJ o0 q)] : va_W)) (l₂ := (CW cI cE cG cM cS x0 q0 q1 qr (ms, es, gE, gM, gB, gT, gG, gN, gK, gD) κ)))
  refine b_goI (vx_runV (As := [.int b1]) (rest := [.int (jI 0), .ref o0]) ⟨hx, hb, hml, hown, hts⟩ (hC _) (cwV 1 hts gL_predict_X6_predict rfl rfl rfl (by decide +kernel) ⟨(Nat.le_of_ble_eq_true rfl), (Nat.le_of_ble_eq_true rfl)⟩) ⟨(b_pre hK hX hZ hP hD hS hA).1, va_recv hK.1 hP (ci := 6) (q0 := 0) rfl rfl, (b_pre hK hX hZ hP hD hS hA).2⟩ rfl rfl hl.1 rfl (lv_room (Nat.le_of_ble_eq_true rfl)) dL_predict_4 ⟨(Nat.le_of_ble_eq_true rfl), (Nat.le_of_ble_eq_true rfl)⟩) hP hD hS hA (fun E ce q9 κ2 H locs hpx hP hD hS h7 h8 h9 => ?_) (fun r κ2 H locs hpost hP hD hS => ?_)
  · have hP : va_P D vwCl ((xOut cJ o0 q) :: (CW cI cE cG cM cS x0 q0 q1 qr g2 κ2)) H := hP.perm (List.perm_append_comm (l₁ := (CW cI cE cG cM cS x0 q0 q1 qr g2 κ2)) (l₂ := ([(xOut cJ o0 q)] : va_W)))
    have hD : va_D A ((xOut cJ o0 q) :: (CW cI cE cG cM cS x0 q0 q1 qr g2 κ2)) := hD.perm (List.perm_append_comm (l₁ := (CW cI cE cG cM cS x0 q0 q1 qr g2 κ2)) (l₂ := ([(xOut cJ o0 q)] : va_W)))
    rcases xcp_i hpx.1 with ⟨hk0, hE⟩ | ⟨hk0, hE⟩
    · subst hk0
      subst hE
      refine g_c1 hown htab  (by decide) (by decide) (hts (.classLink RL 19 xIOB) (by decide +kernel)) (xcl_IOB hX) h7 h8 h9 ?_
      refine lv_astore_n (lv' := [(3, .ref q9), (0, .ref x0), (1, .int b1), (2, .ref o0)]) hx hb dL_predict_12 rfl hl (by decide) rfl (fun ls hl => ?_)
      refine n_iconst hx hb dL_predict_13 ?_
      exact n_iret (κ2, q) hx hb hr hlocks dL_predict_14 hP hD hS ⟨rfl, hpx.2, fun h => absurd h (by decide)⟩
    · subst hk0
      subst hE
      refine g_c2 hown htab (by decide) (hts (.classLink RL 19 xIOB) (by decide +kernel)) hN.2.1 (by decide) (by decide) (hts (.classLink RL 13 xISE) (by decide +kernel)) (xcl_ISE hX) h7 h8 h9 ?_
      refine lv_astore_n (lv' := [(3, .ref q9), (0, .ref x0), (1, .int b1), (2, .ref o0)]) hx hb dL_predict_15 rfl hl (by decide) rfl (fun ls hl => ?_)
      refine n_iconst hx hb dL_predict_16 ?_
      exact n_iret (κ2, q) hx hb hr hlocks dL_predict_17 hP hD hS ⟨rfl, hpx.2, fun h => absurd h (by decide)⟩
  · obtain ⟨hk0, hrv, hI2⟩ := hpost
    obtain ⟨z, hz, rz⟩ := i32_j r
    subst hz
    have hP : va_P D vwCl ((CW cI cE cG cM cS x0 q0 q1 qr g2 κ2) ++ [(xOut cJ o0 q)]) H := hP
    have hD : va_D A ((CW cI cE cG cM cS x0 q0 q1 qr g2 κ2) ++ [(xOut cJ o0 q)]) := hD
    have hP : va_P D vwCl ((xOut cJ o0 q) :: (CW cI cE cG cM cS x0 q0 q1 qr g2 κ2)) H := hP.perm (List.perm_append_comm (l₁ := (CW cI cE cG cM cS x0 q0 q1 qr g2 κ2)) (l₂ := ([(xOut cJ o0 q)] : va_W)))
    have hD : va_D A ((xOut cJ o0 q) :: (CW cI cE cG cM cS x0 q0 q1 qr g2 κ2)) := hD.perm (List.perm_append_comm (l₁ := (CW cI cE cG cM cS x0 q0 q1 qr g2 κ2)) (l₂ := ([(xOut cJ o0 q)] : va_W)))
    refine n_i2l hx hb dL_predict_7 rz.1 rz.2 ?_
    refine n_last (i := 0) hx hb hK hP hD hS 0 1 rfl htJ rfl (Nat.le_of_ble_eq_true rfl) (Nat.le_of_ble_eq_true rfl) dL_predict_8 (fun H locs hP hD hS => ?_)
    have hP : va_P D vwCl ((xOut cJ o0 (va_up q 0 z)) :: (CW cI cE cG cM cS x0 q0 q1 qr g2 κ2)) H := hP
    have hD : va_D A ((xOut cJ o0 (va_up q 0 z)) :: (CW cI cE cG cM cS x0 q0 q1 qr g2 κ2)) := hD
    refine lv_goto (tgt := 18) hx hb dL_predict_9 (by decide) ?_
    refine n_iconst hx hb dL_predict_18 ?_
    exact n_iret (κ2, va_up q 0 z) hx hb hr hlocks dL_predict_19 hP hD hS ⟨by rw [hk0]; rfl, hI2, fun _ => by show jI (va_up q 0 z 0) = v ∧ r32 (va_up q 0 z 0); rw [up_s]; exact ⟨hrv, rz⟩⟩

set_option maxHeartbeats 8000000 in
set_option maxRecDepth 100000 in
/--  -/
theorem w_measure (l : Launch) (D : va_G) (tys : List (ClassId × FieldType)) {cI cJ cE cG cM cS : ClassId} (htJ : tys[1]? = some (cJ, .long)) (x0 q0 q1 : Nat) (qr : Nat → Nat) (ms es : Nat) (gE gM gB : Nat → Zp) (gT : Nat → Nat) (gG : Nat → Zp) (gN : Nat → Nat) (gK : Nat → Zp) (gD : Nat → Bool) (κ : Nat → EG) (b1 b2 b3 b4 b5 : Int32) (g2 : SG) (k : Nat) (v : Int32) (hC : CDo l D tys cI cE cG cM cS x0 q0 q1 qr xc3 yX6_measure wsX6_measure [.int b1, .int b2, .int b3, .int b4, .int b5] (ms, es, gE, gM, gB, gT, gG, gN, gK, gD) κ g2 k v) (o0 : Nat) (q : Nat → Int) : CtW (S := (Nat → EG) × (Nat → Int)) l D tys yL_measure wsL_measure 10 200 228 867 [.ref x0, .int b1, .int b2, .int b3, .int b4, .int b5, .ref o0] (fun (r : Int32) (u : (Nat → EG) × (Nat → Int)) => r = jI ((k : Nat) : Int) ∧ INV g2 u.1 ∧ (k = 0 → jI (u.2 0) = v ∧ r32 (u.2 0))) (xOut cJ o0 q :: (CW cI cE cG cM cS x0 q0 q1 qr (ms, es, gE, gM, gB, gT, gG, gN, gK, gD) κ)) (fun u => xOut cJ o0 u.2 :: (CW cI cE cG cM cS x0 q0 q1 qr g2 u.1)) := by
  refine CtW.of (cc := cL_measure) (maxL := 8) (hh := [(0, 16, 19, 19), (0, 16, 23, 21), (0, 16, 27, 13)]) (by decide +kernel) rfl (Nat.le_of_ble_eq_true rfl) ?_
  intro p e s m below meth c A ls hcx htab hK hX hZ hN hP hD hA hl
  obtain ⟨hx, hb, hr, hml, hown, hts, hlocks⟩ := hcx
  have hS : va_S A s.heap s.heap [] := va_S.rf
  have hown : s.vm.findClass RL = some m.cls := hown
  have hl : lv_has ls 8 [(0, .ref x0), (1, .int b1), (2, .int b2), (3, .int b3), (4, .int b4), (5, .int b5), (6, .ref o0)] := hl
  refine lv_aload hx hb dL_measure_0 (lv_at hl 6 rfl) ?_
  refine n_iconst hx hb dL_measure_2 ?_
  refine lv_aload_n hx hb dL_measure_3 rfl (lv_at hl 0 rfl) ?_
  refine lv_iload_n hx hb dL_measure_4 rfl (lv_at hl 1 rfl) ?_
  refine lv_iload_n hx hb dL_measure_5 rfl (lv_at hl 2 rfl) ?_
  refine lv_iload_n hx hb dL_measure_6 rfl (lv_at hl 3 rfl) ?_
  refine lv_iload hx hb dL_measure_7 (lv_at hl 4 rfl) ?_
  refine lv_iload hx hb dL_measure_9 (lv_at hl 5 rfl) ?_
  have hP : va_P D vwCl ((CW cI cE cG cM cS x0 q0 q1 qr (ms, es, gE, gM, gB, gT, gG, gN, gK, gD) κ) ++ [(xOut cJ o0 q)]) s.heap := hP.perm (List.perm_append_comm (l₁ := ([(xOut cJ o0 q)] : va_W)) (l₂ := (CW cI cE cG cM cS x0 q0 q1 qr (ms, es, gE, gM, gB, gT, gG, gN, gK, gD) κ)))
  have hD : va_D A ((CW cI cE cG cM cS x0 q0 q1 qr (ms, es, gE, gM, gB, gT, gG, gN, gK, gD) κ) ++ [(xOut cJ o0 q)]) := hD.perm (List.perm_append_comm (l₁ := ([(xOut cJ o0 q)] : va_W)) (l₂ := (CW cI cE cG cM cS x0 q0 q1 qr (ms, es, gE, gM, gB, gT, gG, gN, gK, gD) κ)))
  refine b_goI (vx_runV (As := [.int b1, .int b2, .int b3, .int b4, .int b5]) (rest := [.int (jI 0), .ref o0]) ⟨hx, hb, hml, hown, hts⟩ (hC _) (cwV 5 hts gL_measure_X6_measure rfl rfl rfl (by decide +kernel) ⟨(Nat.le_of_ble_eq_true rfl), (Nat.le_of_ble_eq_true rfl)⟩) ⟨(b_pre hK hX hZ hP hD hS hA).1, va_recv hK.1 hP (ci := 6) (q0 := 0) rfl rfl, (b_pre hK hX hZ hP hD hS hA).2⟩ rfl rfl hl.1 rfl (lv_room (Nat.le_of_ble_eq_true rfl)) dL_measure_11 ⟨(Nat.le_of_ble_eq_true rfl), (Nat.le_of_ble_eq_true rfl)⟩) hP hD hS hA (fun E ce q9 κ2 H locs hpx hP hD hS h7 h8 h9 => ?_) (fun r κ2 H locs hpost hP hD hS => ?_)
  · have hP : va_P D vwCl ((xOut cJ o0 q) :: (CW cI cE cG cM cS x0 q0 q1 qr g2 κ2)) H := hP.perm (List.perm_append_comm (l₁ := (CW cI cE cG cM cS x0 q0 q1 qr g2 κ2)) (l₂ := ([(xOut cJ o0 q)] : va_W)))
    have hD : va_D A ((xOut cJ o0 q) :: (CW cI cE cG cM cS x0 q0 q1 qr g2 κ2)) := hD.perm (List.perm_append_comm (l₁ := (CW cI cE cG cM cS x0 q0 q1 qr g2 κ2)) (l₂ := ([(xOut cJ o0 q)] : va_W)))
    rcases xc3_i hpx.1 with ⟨hk0, hE⟩ | ⟨hk0, hE⟩ | ⟨hk0, hE⟩
    · subst hk0
      subst hE
      refine g_c1 hown htab  (by decide) (by decide) (hts (.classLink RL 19 xIOB) (by decide +kernel)) (xcl_IOB hX) h7 h8 h9 ?_
      refine lv_astore (lv' := [(7, .ref q9), (0, .ref x0), (1, .int b1), (2, .int b2), (3, .int b3), (4, .int b4), (5, .int b5), (6, .ref o0)]) hx hb dL_measure_19 hl (by decide) rfl (fun ls hl => ?_)
      refine n_iconst hx hb dL_measure_21 ?_
      exact n_iret (κ2, q) hx hb hr hlocks dL_measure_22 hP hD hS ⟨rfl, hpx.2, fun h => absurd h (by decide)⟩
    · subst hk0
      subst hE
      refine g_c2 hown htab (by decide) (hts (.classLink RL 19 xIOB) (by decide +kernel)) hN.1 (by decide) (by decide) (hts (.classLink RL 21 xIAE) (by decide +kernel)) (xcl_IAE hX) h7 h8 h9 ?_
      refine lv_astore (lv' := [(7, .ref q9), (0, .ref x0), (1, .int b1), (2, .int b2), (3, .int b3), (4, .int b4), (5, .int b5), (6, .ref o0)]) hx hb dL_measure_23 hl (by decide) rfl (fun ls hl => ?_)
      refine n_iconst hx hb dL_measure_25 ?_
      exact n_iret (κ2, q) hx hb hr hlocks dL_measure_26 hP hD hS ⟨rfl, hpx.2, fun h => absurd h (by decide)⟩
    · subst hk0
      subst hE
      refine g_c3 hown htab (by decide) (hts (.classLink RL 19 xIOB) (by decide +kernel)) hN.2.1 (by decide) (hts (.classLink RL 21 xIAE) (by decide +kernel)) hN.2.2 (by decide) (by decide) (hts (.classLink RL 13 xISE) (by decide +kernel)) (xcl_ISE hX) h7 h8 h9 ?_
      refine lv_astore (lv' := [(7, .ref q9), (0, .ref x0), (1, .int b1), (2, .int b2), (3, .int b3), (4, .int b4), (5, .int b5), (6, .ref o0)]) hx hb dL_measure_27 hl (by decide) rfl (fun ls hl => ?_)
      refine n_iconst hx hb dL_measure_29 ?_
      exact n_iret (κ2, q) hx hb hr hlocks dL_measure_30 hP hD hS ⟨rfl, hpx.2, fun h => absurd h (by decide)⟩
  · obtain ⟨hk0, hrv, hI2⟩ := hpost
    obtain ⟨z, hz, rz⟩ := i32_j r
    subst hz
    have hP : va_P D vwCl ((CW cI cE cG cM cS x0 q0 q1 qr g2 κ2) ++ [(xOut cJ o0 q)]) H := hP
    have hD : va_D A ((CW cI cE cG cM cS x0 q0 q1 qr g2 κ2) ++ [(xOut cJ o0 q)]) := hD
    have hP : va_P D vwCl ((xOut cJ o0 q) :: (CW cI cE cG cM cS x0 q0 q1 qr g2 κ2)) H := hP.perm (List.perm_append_comm (l₁ := (CW cI cE cG cM cS x0 q0 q1 qr g2 κ2)) (l₂ := ([(xOut cJ o0 q)] : va_W)))
    have hD : va_D A ((xOut cJ o0 q) :: (CW cI cE cG cM cS x0 q0 q1 qr g2 κ2)) := hD.perm (List.perm_append_comm (l₁ := (CW cI cE cG cM cS x0 q0 q1 qr g2 κ2)) (l₂ := ([(xOut cJ o0 q)] : va_W)))
    refine n_i2l hx hb dL_measure_14 rz.1 rz.2 ?_
    refine n_last (i := 0) hx hb hK hP hD hS 0 1 rfl htJ rfl (Nat.le_of_ble_eq_true rfl) (Nat.le_of_ble_eq_true rfl) dL_measure_15 (fun H locs hP hD hS => ?_)
    have hP : va_P D vwCl ((xOut cJ o0 (va_up q 0 z)) :: (CW cI cE cG cM cS x0 q0 q1 qr g2 κ2)) H := hP
    have hD : va_D A ((xOut cJ o0 (va_up q 0 z)) :: (CW cI cE cG cM cS x0 q0 q1 qr g2 κ2)) := hD
    refine lv_goto (tgt := 31) hx hb dL_measure_16 (by decide) ?_
    refine n_iconst hx hb dL_measure_31 ?_
    exact n_iret (κ2, va_up q 0 z) hx hb hr hlocks dL_measure_32 hP hD hS ⟨by rw [hk0]; rfl, hI2, fun _ => by show jI (va_up q 0 z 0) = v ∧ r32 (va_up q 0 z 0); rw [up_s]; exact ⟨hrv, rz⟩⟩

set_option maxHeartbeats 8000000 in
set_option maxRecDepth 100000 in
/--  -/
theorem w_late (l : Launch) (D : va_G) (tys : List (ClassId × FieldType)) {cI cJ cE cG cM cS : ClassId} (htJ : tys[1]? = some (cJ, .long)) (x0 q0 q1 : Nat) (qr : Nat → Nat) (ms es : Nat) (gE gM gB : Nat → Zp) (gT : Nat → Nat) (gG : Nat → Zp) (gN : Nat → Nat) (gK : Nat → Zp) (gD : Nat → Bool) (κ : Nat → EG) (b1 b2 b3 b4 b5 b6 : Int32) (g2 : SG) (k : Nat) (v : Int32) (hC : CDo l D tys cI cE cG cM cS x0 q0 q1 qr xc3 yX6_late wsX6_late [.int b1, .int b2, .int b3, .int b4, .int b5, .int b6] (ms, es, gE, gM, gB, gT, gG, gN, gK, gD) κ g2 k v) (o0 : Nat) (q : Nat → Int) : CtW (S := (Nat → EG) × (Nat → Int)) l D tys yL_late wsL_late 10 200 228 867 [.ref x0, .int b1, .int b2, .int b3, .int b4, .int b5, .int b6, .ref o0] (fun (r : Int32) (u : (Nat → EG) × (Nat → Int)) => r = jI ((k : Nat) : Int) ∧ INV g2 u.1 ∧ (k = 0 → jI (u.2 0) = v ∧ r32 (u.2 0))) (xOut cJ o0 q :: (CW cI cE cG cM cS x0 q0 q1 qr (ms, es, gE, gM, gB, gT, gG, gN, gK, gD) κ)) (fun u => xOut cJ o0 u.2 :: (CW cI cE cG cM cS x0 q0 q1 qr g2 u.1)) := by
  refine CtW.of (cc := cL_late) (maxL := 9) (hh := [(0, 18, 21, 19), (0, 18, 25, 21), (0, 18, 29, 13)]) (by decide +kernel) rfl (Nat.le_of_ble_eq_true rfl) ?_
  intro p e s m below meth c A ls hcx htab hK hX hZ hN hP hD hA hl
  obtain ⟨hx, hb, hr, hml, hown, hts, hlocks⟩ := hcx
  have hS : va_S A s.heap s.heap [] := va_S.rf
  have hown : s.vm.findClass RL = some m.cls := hown
  have hl : lv_has ls 9 [(0, .ref x0), (1, .int b1), (2, .int b2), (3, .int b3), (4, .int b4), (5, .int b5), (6, .int b6), (7, .ref o0)] := hl
  refine lv_aload hx hb dL_late_0 (lv_at hl 7 rfl) ?_
  refine n_iconst hx hb dL_late_2 ?_
  refine lv_aload_n hx hb dL_late_3 rfl (lv_at hl 0 rfl) ?_
  refine lv_iload_n hx hb dL_late_4 rfl (lv_at hl 1 rfl) ?_
  refine lv_iload_n hx hb dL_late_5 rfl (lv_at hl 2 rfl) ?_
  refine lv_iload_n hx hb dL_late_6 rfl (lv_at hl 3 rfl) ?_
  refine lv_iload hx hb dL_late_7 (lv_at hl 4 rfl) ?_
  refine lv_iload hx hb dL_late_9 (lv_at hl 5 rfl) ?_
  refine lv_iload hx hb dL_late_11 (lv_at hl 6 rfl) ?_
  have hP : va_P D vwCl ((CW cI cE cG cM cS x0 q0 q1 qr (ms, es, gE, gM, gB, gT, gG, gN, gK, gD) κ) ++ [(xOut cJ o0 q)]) s.heap := hP.perm (List.perm_append_comm (l₁ := ([(xOut cJ o0 q)] : va_W)) (l₂ := (CW cI cE cG cM cS x0 q0 q1 qr (ms, es, gE, gM, gB, gT, gG, gN, gK, gD) κ)))
  have hD : va_D A ((CW cI cE cG cM cS x0 q0 q1 qr (ms, es, gE, gM, gB, gT, gG, gN, gK, gD) κ) ++ [(xOut cJ o0 q)]) := hD.perm (List.perm_append_comm (l₁ := ([(xOut cJ o0 q)] : va_W)) (l₂ := (CW cI cE cG cM cS x0 q0 q1 qr (ms, es, gE, gM, gB, gT, gG, gN, gK, gD) κ)))
  refine b_goI (vx_runV (As := [.int b1, .int b2, .int b3, .int b4, .int b5, .int b6]) (rest := [.int (jI 0), .ref o0]) ⟨hx, hb, hml, hown, hts⟩ (hC _) (cwV 6 hts gL_late_X6_late rfl rfl rfl (by decide +kernel) ⟨(Nat.le_of_ble_eq_true rfl), (Nat.le_of_ble_eq_true rfl)⟩) ⟨(b_pre hK hX hZ hP hD hS hA).1, va_recv hK.1 hP (ci := 6) (q0 := 0) rfl rfl, (b_pre hK hX hZ hP hD hS hA).2⟩ rfl rfl hl.1 rfl (lv_room (Nat.le_of_ble_eq_true rfl)) dL_late_13 ⟨(Nat.le_of_ble_eq_true rfl), (Nat.le_of_ble_eq_true rfl)⟩) hP hD hS hA (fun E ce q9 κ2 H locs hpx hP hD hS h7 h8 h9 => ?_) (fun r κ2 H locs hpost hP hD hS => ?_)
  · have hP : va_P D vwCl ((xOut cJ o0 q) :: (CW cI cE cG cM cS x0 q0 q1 qr g2 κ2)) H := hP.perm (List.perm_append_comm (l₁ := (CW cI cE cG cM cS x0 q0 q1 qr g2 κ2)) (l₂ := ([(xOut cJ o0 q)] : va_W)))
    have hD : va_D A ((xOut cJ o0 q) :: (CW cI cE cG cM cS x0 q0 q1 qr g2 κ2)) := hD.perm (List.perm_append_comm (l₁ := (CW cI cE cG cM cS x0 q0 q1 qr g2 κ2)) (l₂ := ([(xOut cJ o0 q)] : va_W)))
    rcases xc3_i hpx.1 with ⟨hk0, hE⟩ | ⟨hk0, hE⟩ | ⟨hk0, hE⟩
    · subst hk0
      subst hE
      refine g_c1 hown htab  (by decide) (by decide) (hts (.classLink RL 19 xIOB) (by decide +kernel)) (xcl_IOB hX) h7 h8 h9 ?_
      refine lv_astore (lv' := [(8, .ref q9), (0, .ref x0), (1, .int b1), (2, .int b2), (3, .int b3), (4, .int b4), (5, .int b5), (6, .int b6), (7, .ref o0)]) hx hb dL_late_21 hl (by decide) rfl (fun ls hl => ?_)
      refine n_iconst hx hb dL_late_23 ?_
      exact n_iret (κ2, q) hx hb hr hlocks dL_late_24 hP hD hS ⟨rfl, hpx.2, fun h => absurd h (by decide)⟩
    · subst hk0
      subst hE
      refine g_c2 hown htab (by decide) (hts (.classLink RL 19 xIOB) (by decide +kernel)) hN.1 (by decide) (by decide) (hts (.classLink RL 21 xIAE) (by decide +kernel)) (xcl_IAE hX) h7 h8 h9 ?_
      refine lv_astore (lv' := [(8, .ref q9), (0, .ref x0), (1, .int b1), (2, .int b2), (3, .int b3), (4, .int b4), (5, .int b5), (6, .int b6), (7, .ref o0)]) hx hb dL_late_25 hl (by decide) rfl (fun ls hl => ?_)
      refine n_iconst hx hb dL_late_27 ?_
      exact n_iret (κ2, q) hx hb hr hlocks dL_late_28 hP hD hS ⟨rfl, hpx.2, fun h => absurd h (by decide)⟩
    · subst hk0
      subst hE
      refine g_c3 hown htab (by decide) (hts (.classLink RL 19 xIOB) (by decide +kernel)) hN.2.1 (by decide) (hts (.classLink RL 21 xIAE) (by decide +kernel)) hN.2.2 (by decide) (by decide) (hts (.classLink RL 13 xISE) (by decide +kernel)) (xcl_ISE hX) h7 h8 h9 ?_
      refine lv_astore (lv' := [(8, .ref q9), (0, .ref x0), (1, .int b1), (2, .int b2), (3, .int b3), (4, .int b4), (5, .int b5), (6, .int b6), (7, .ref o0)]) hx hb dL_late_29 hl (by decide) rfl (fun ls hl => ?_)
      refine n_iconst hx hb dL_late_31 ?_
      exact n_iret (κ2, q) hx hb hr hlocks dL_late_32 hP hD hS ⟨rfl, hpx.2, fun h => absurd h (by decide)⟩
  · obtain ⟨hk0, hrv, hI2⟩ := hpost
    obtain ⟨z, hz, rz⟩ := i32_j r
    subst hz
    have hP : va_P D vwCl ((CW cI cE cG cM cS x0 q0 q1 qr g2 κ2) ++ [(xOut cJ o0 q)]) H := hP
    have hD : va_D A ((CW cI cE cG cM cS x0 q0 q1 qr g2 κ2) ++ [(xOut cJ o0 q)]) := hD
    have hP : va_P D vwCl ((xOut cJ o0 q) :: (CW cI cE cG cM cS x0 q0 q1 qr g2 κ2)) H := hP.perm (List.perm_append_comm (l₁ := (CW cI cE cG cM cS x0 q0 q1 qr g2 κ2)) (l₂ := ([(xOut cJ o0 q)] : va_W)))
    have hD : va_D A ((xOut cJ o0 q) :: (CW cI cE cG cM cS x0 q0 q1 qr g2 κ2)) := hD.perm (List.perm_append_comm (l₁ := (CW cI cE cG cM cS x0 q0 q1 qr g2 κ2)) (l₂ := ([(xOut cJ o0 q)] : va_W)))
    refine n_i2l hx hb dL_late_16 rz.1 rz.2 ?_
    refine n_last (i := 0) hx hb hK hP hD hS 0 1 rfl htJ rfl (Nat.le_of_ble_eq_true rfl) (Nat.le_of_ble_eq_true rfl) dL_late_17 (fun H locs hP hD hS => ?_)
    have hP : va_P D vwCl ((xOut cJ o0 (va_up q 0 z)) :: (CW cI cE cG cM cS x0 q0 q1 qr g2 κ2)) H := hP
    have hD : va_D A ((xOut cJ o0 (va_up q 0 z)) :: (CW cI cE cG cM cS x0 q0 q1 qr g2 κ2)) := hD
    refine lv_goto (tgt := 33) hx hb dL_late_18 (by decide) ?_
    refine n_iconst hx hb dL_late_33 ?_
    exact n_iret (κ2, va_up q 0 z) hx hb hr hlocks dL_late_34 hP hD hS ⟨by rw [hk0]; rfl, hI2, fun _ => by show jI (va_up q 0 z 0) = v ∧ r32 (va_up q 0 z 0); rw [up_s]; exact ⟨hrv, rz⟩⟩

set_option maxHeartbeats 8000000 in
set_option maxRecDepth 100000 in
/--  -/
theorem w_drop (l : Launch) (D : va_G) (tys : List (ClassId × FieldType)) {cI cJ cE cG cM cS : ClassId} (htJ : tys[1]? = some (cJ, .long)) (x0 q0 q1 : Nat) (qr : Nat → Nat) (ms es : Nat) (gE gM gB : Nat → Zp) (gT : Nat → Nat) (gG : Nat → Zp) (gN : Nat → Nat) (gK : Nat → Zp) (gD : Nat → Bool) (κ : Nat → EG) (b1 b2 : Int32) (g2 : SG) (k : Nat) (hC : CDv l D tys cI cE cG cM cS x0 q0 q1 qr xcp yX6_drop wsX6_drop [.int b1, .int b2] (ms, es, gE, gM, gB, gT, gG, gN, gK, gD) κ g2 k) : CtW (S := Nat → EG) l D tys yL_drop wsL_drop 10 200 228 867 [.ref x0, .int b1, .int b2] (fun (r : Int32) (u : Nat → EG) => r = jI ((k : Nat) : Int) ∧ INV g2 u) (CW cI cE cG cM cS x0 q0 q1 qr (ms, es, gE, gM, gB, gT, gG, gN, gK, gD) κ) (fun u => (CW cI cE cG cM cS x0 q0 q1 qr g2 u)) := by
  refine CtW.of (cc := cL_drop) (maxL := 4) (hh := [(0, 6, 9, 19), (0, 6, 12, 13)]) (by decide +kernel) rfl (Nat.le_of_ble_eq_true rfl) ?_
  intro p e s m below meth c A ls hcx htab hK hX hZ hN hP hD hA hl
  obtain ⟨hx, hb, hr, hml, hown, hts, hlocks⟩ := hcx
  have hS : va_S A s.heap s.heap [] := va_S.rf
  have hown : s.vm.findClass RL = some m.cls := hown
  have hl : lv_has ls 4 [(0, .ref x0), (1, .int b1), (2, .int b2)] := hl
  refine lv_aload_n hx hb dL_drop_0 rfl (lv_at hl 0 rfl) ?_
  refine lv_iload_n hx hb dL_drop_1 rfl (lv_at hl 1 rfl) ?_
  refine lv_iload_n hx hb dL_drop_2 rfl (lv_at hl 2 rfl) ?_
  rw [← List.append_nil (CW cI cE cG cM cS x0 q0 q1 qr (ms, es, gE, gM, gB, gT, gG, gN, gK, gD) κ)] at hP hD
  refine b_goV (vx_runV (As := [.int b1, .int b2]) (rest := []) ⟨hx, hb, hml, hown, hts⟩ (hC _) (cwV 2 hts gL_drop_X6_drop rfl rfl rfl (by decide +kernel) ⟨(Nat.le_of_ble_eq_true rfl), (Nat.le_of_ble_eq_true rfl)⟩) ⟨(b_pre hK hX hZ hP hD hS hA).1, va_recv hK.1 hP (ci := 6) (q0 := 0) rfl rfl, (b_pre hK hX hZ hP hD hS hA).2⟩ rfl rfl hl.1 rfl (lv_room (Nat.le_of_ble_eq_true rfl)) dL_drop_3 ⟨(Nat.le_of_ble_eq_true rfl), (Nat.le_of_ble_eq_true rfl)⟩) hP hD hS hA (fun E ce q9 κ2 H locs hpx hP hD hS h7 h8 h9 => ?_) (fun κ2 H locs hpost hP hD hS => ?_)
  · rw [List.append_nil] at hP hD
    rcases xcp_i hpx.1 with ⟨hk0, hE⟩ | ⟨hk0, hE⟩
    · subst hk0
      subst hE
      refine g_c1 hown htab  (by decide) (by decide) (hts (.classLink RL 19 xIOB) (by decide +kernel)) (xcl_IOB hX) h7 h8 h9 ?_
      refine lv_astore_n (lv' := [(3, .ref q9), (0, .ref x0), (1, .int b1), (2, .int b2)]) hx hb dL_drop_9 rfl hl (by decide) rfl (fun ls hl => ?_)
      refine n_iconst hx hb dL_drop_10 ?_
      exact n_iret κ2 hx hb hr hlocks dL_drop_11 hP hD hS ⟨rfl, hpx.2⟩
    · subst hk0
      subst hE
      refine g_c2 hown htab (by decide) (hts (.classLink RL 19 xIOB) (by decide +kernel)) hN.2.1 (by decide) (by decide) (hts (.classLink RL 13 xISE) (by decide +kernel)) (xcl_ISE hX) h7 h8 h9 ?_
      refine lv_astore_n (lv' := [(3, .ref q9), (0, .ref x0), (1, .int b1), (2, .int b2)]) hx hb dL_drop_12 rfl hl (by decide) rfl (fun ls hl => ?_)
      refine n_iconst hx hb dL_drop_13 ?_
      exact n_iret κ2 hx hb hr hlocks dL_drop_14 hP hD hS ⟨rfl, hpx.2⟩
  · obtain ⟨hk0, hI2⟩ := hpost
    have hP : va_P D vwCl ((CW cI cE cG cM cS x0 q0 q1 qr g2 κ2) ++ []) H := hP
    have hD : va_D A ((CW cI cE cG cM cS x0 q0 q1 qr g2 κ2) ++ []) := hD
    rw [List.append_nil] at hP hD
    refine lv_goto (tgt := 15) hx hb dL_drop_6 (by decide) ?_
    refine n_iconst hx hb dL_drop_15 ?_
    exact n_iret κ2 hx hb hr hlocks dL_drop_16 hP hD hS ⟨by rw [hk0]; rfl, hI2⟩

set_option maxHeartbeats 8000000 in
set_option maxRecDepth 100000 in
/--  -/
theorem w_of (l : Launch) (D : va_G) (tys : List (ClassId × FieldType)) {cI cJ cE cG cM cS : ClassId} (htJ : tys[1]? = some (cJ, .long)) (x0 q0 q1 : Nat) (qr : Nat → Nat) (ms es : Nat) (gE gM gB : Nat → Zp) (gT : Nat → Nat) (gG : Nat → Zp) (gN : Nat → Nat) (gK : Nat → Zp) (gD : Nat → Bool) (κ : Nat → EG) (b1 b2 : Int32) (g2 : SG) (k : Nat) (v : Int32) (hC : CDo l D tys cI cE cG cM cS x0 q0 q1 qr xc2 yX6_of wsX6_of [.int b1, .int b2] (ms, es, gE, gM, gB, gT, gG, gN, gK, gD) κ g2 k v) (o0 : Nat) (q : Nat → Int) : CtW (S := (Nat → EG) × (Nat → Int)) l D tys yL_of wsL_of 10 200 228 867 [.ref x0, .int b1, .int b2, .ref o0] (fun (r : Int32) (u : (Nat → EG) × (Nat → Int)) => r = jI ((k : Nat) : Int) ∧ INV g2 u.1 ∧ (k = 0 → jI (u.2 0) = v ∧ r32 (u.2 0))) (xOut cJ o0 q :: (CW cI cE cG cM cS x0 q0 q1 qr (ms, es, gE, gM, gB, gT, gG, gN, gK, gD) κ)) (fun u => xOut cJ o0 u.2 :: (CW cI cE cG cM cS x0 q0 q1 qr g2 u.1)) := by
  refine CtW.of (cc := cL_of) (maxL := 5) (hh := [(0, 10, 13, 19), (0, 10, 17, 21)]) (by decide +kernel) rfl (Nat.le_of_ble_eq_true rfl) ?_
  intro p e s m below meth c A ls hcx htab hK hX hZ hN hP hD hA hl
  obtain ⟨hx, hb, hr, hml, hown, hts, hlocks⟩ := hcx
  have hS : va_S A s.heap s.heap [] := va_S.rf
  have hown : s.vm.findClass RL = some m.cls := hown
  have hl : lv_has ls 5 [(0, .ref x0), (1, .int b1), (2, .int b2), (3, .ref o0)] := hl
  refine lv_aload_n hx hb dL_of_0 rfl (lv_at hl 3 rfl) ?_
  refine n_iconst hx hb dL_of_1 ?_
  refine lv_aload_n hx hb dL_of_2 rfl (lv_at hl 0 rfl) ?_
  refine lv_iload_n hx hb dL_of_3 rfl (lv_at hl 1 rfl) ?_
  refine lv_iload_n hx hb dL_of_4 rfl (lv_at hl 2 rfl) ?_
  have hP : va_P D vwCl ((CW cI cE cG cM cS x0 q0 q1 qr (ms, es, gE, gM, gB, gT, gG, gN, gK, gD) κ) ++ [(xOut cJ o0 q)]) s.heap := hP.perm (List.perm_append_comm (l₁ := ([(xOut cJ o0 q)] : va_W)) (l₂ := (CW cI cE cG cM cS x0 q0 q1 qr (ms, es, gE, gM, gB, gT, gG, gN, gK, gD) κ)))
  have hD : va_D A ((CW cI cE cG cM cS x0 q0 q1 qr (ms, es, gE, gM, gB, gT, gG, gN, gK, gD) κ) ++ [(xOut cJ o0 q)]) := hD.perm (List.perm_append_comm (l₁ := ([(xOut cJ o0 q)] : va_W)) (l₂ := (CW cI cE cG cM cS x0 q0 q1 qr (ms, es, gE, gM, gB, gT, gG, gN, gK, gD) κ)))
  refine b_goI (vx_runV (As := [.int b1, .int b2]) (rest := [.int (jI 0), .ref o0]) ⟨hx, hb, hml, hown, hts⟩ (hC _) (cwV 2 hts gL_of_X6_of rfl rfl rfl (by decide +kernel) ⟨(Nat.le_of_ble_eq_true rfl), (Nat.le_of_ble_eq_true rfl)⟩) ⟨(b_pre hK hX hZ hP hD hS hA).1, va_recv hK.1 hP (ci := 6) (q0 := 0) rfl rfl, (b_pre hK hX hZ hP hD hS hA).2⟩ rfl rfl hl.1 rfl (lv_room (Nat.le_of_ble_eq_true rfl)) dL_of_5 ⟨(Nat.le_of_ble_eq_true rfl), (Nat.le_of_ble_eq_true rfl)⟩) hP hD hS hA (fun E ce q9 κ2 H locs hpx hP hD hS h7 h8 h9 => ?_) (fun r κ2 H locs hpost hP hD hS => ?_)
  · have hP : va_P D vwCl ((xOut cJ o0 q) :: (CW cI cE cG cM cS x0 q0 q1 qr g2 κ2)) H := hP.perm (List.perm_append_comm (l₁ := (CW cI cE cG cM cS x0 q0 q1 qr g2 κ2)) (l₂ := ([(xOut cJ o0 q)] : va_W)))
    have hD : va_D A ((xOut cJ o0 q) :: (CW cI cE cG cM cS x0 q0 q1 qr g2 κ2)) := hD.perm (List.perm_append_comm (l₁ := (CW cI cE cG cM cS x0 q0 q1 qr g2 κ2)) (l₂ := ([(xOut cJ o0 q)] : va_W)))
    rcases xc2_i hpx.1 with ⟨hk0, hE⟩ | ⟨hk0, hE⟩
    · subst hk0
      subst hE
      refine g_c1 hown htab  (by decide) (by decide) (hts (.classLink RL 19 xIOB) (by decide +kernel)) (xcl_IOB hX) h7 h8 h9 ?_
      refine lv_astore (lv' := [(4, .ref q9), (0, .ref x0), (1, .int b1), (2, .int b2), (3, .ref o0)]) hx hb dL_of_13 hl (by decide) rfl (fun ls hl => ?_)
      refine n_iconst hx hb dL_of_15 ?_
      exact n_iret (κ2, q) hx hb hr hlocks dL_of_16 hP hD hS ⟨rfl, hpx.2, fun h => absurd h (by decide)⟩
    · subst hk0
      subst hE
      refine g_c2 hown htab (by decide) (hts (.classLink RL 19 xIOB) (by decide +kernel)) hN.1 (by decide) (by decide) (hts (.classLink RL 21 xIAE) (by decide +kernel)) (xcl_IAE hX) h7 h8 h9 ?_
      refine lv_astore (lv' := [(4, .ref q9), (0, .ref x0), (1, .int b1), (2, .int b2), (3, .ref o0)]) hx hb dL_of_17 hl (by decide) rfl (fun ls hl => ?_)
      refine n_iconst hx hb dL_of_19 ?_
      exact n_iret (κ2, q) hx hb hr hlocks dL_of_20 hP hD hS ⟨rfl, hpx.2, fun h => absurd h (by decide)⟩
  · obtain ⟨hk0, hrv, hI2⟩ := hpost
    obtain ⟨z, hz, rz⟩ := i32_j r
    subst hz
    have hP : va_P D vwCl ((CW cI cE cG cM cS x0 q0 q1 qr g2 κ2) ++ [(xOut cJ o0 q)]) H := hP
    have hD : va_D A ((CW cI cE cG cM cS x0 q0 q1 qr g2 κ2) ++ [(xOut cJ o0 q)]) := hD
    have hP : va_P D vwCl ((xOut cJ o0 q) :: (CW cI cE cG cM cS x0 q0 q1 qr g2 κ2)) H := hP.perm (List.perm_append_comm (l₁ := (CW cI cE cG cM cS x0 q0 q1 qr g2 κ2)) (l₂ := ([(xOut cJ o0 q)] : va_W)))
    have hD : va_D A ((xOut cJ o0 q) :: (CW cI cE cG cM cS x0 q0 q1 qr g2 κ2)) := hD.perm (List.perm_append_comm (l₁ := (CW cI cE cG cM cS x0 q0 q1 qr g2 κ2)) (l₂ := ([(xOut cJ o0 q)] : va_W)))
    refine n_i2l hx hb dL_of_8 rz.1 rz.2 ?_
    refine n_last (i := 0) hx hb hK hP hD hS 0 1 rfl htJ rfl (Nat.le_of_ble_eq_true rfl) (Nat.le_of_ble_eq_true rfl) dL_of_9 (fun H locs hP hD hS => ?_)
    have hP : va_P D vwCl ((xOut cJ o0 (va_up q 0 z)) :: (CW cI cE cG cM cS x0 q0 q1 qr g2 κ2)) H := hP
    have hD : va_D A ((xOut cJ o0 (va_up q 0 z)) :: (CW cI cE cG cM cS x0 q0 q1 qr g2 κ2)) := hD
    refine lv_goto (tgt := 21) hx hb dL_of_10 (by decide) ?_
    refine n_iconst hx hb dL_of_21 ?_
    exact n_iret (κ2, va_up q 0 z) hx hb hr hlocks dL_of_22 hP hD hS ⟨by rw [hk0]; rfl, hI2, fun _ => by show jI (va_up q 0 z 0) = v ∧ r32 (va_up q 0 z 0); rw [up_s]; exact ⟨hrv, rz⟩⟩

set_option maxHeartbeats 8000000 in
set_option maxRecDepth 100000 in
/--  -/
theorem w_ofMeasurement (l : Launch) (D : va_G) (tys : List (ClassId × FieldType)) {cI cJ cE cG cM cS : ClassId} (htJ : tys[1]? = some (cJ, .long)) (x0 q0 q1 : Nat) (qr : Nat → Nat) (ms es : Nat) (gE gM gB : Nat → Zp) (gT : Nat → Nat) (gG : Nat → Zp) (gN : Nat → Nat) (gK : Nat → Zp) (gD : Nat → Bool) (κ : Nat → EG) (b1 b2 b3 : Int32) (g2 : SG) (k : Nat) (v : Int32) (hC : CDo l D tys cI cE cG cM cS x0 q0 q1 qr xc2 yX6_ofMeasurement wsX6_ofMeasurement [.int b1, .int b2, .int b3] (ms, es, gE, gM, gB, gT, gG, gN, gK, gD) κ g2 k v) (o0 : Nat) (q : Nat → Int) : CtW (S := (Nat → EG) × (Nat → Int)) l D tys yL_ofMeasurement wsL_ofMeasurement 10 200 228 867 [.ref x0, .int b1, .int b2, .int b3, .ref o0] (fun (r : Int32) (u : (Nat → EG) × (Nat → Int)) => r = jI ((k : Nat) : Int) ∧ INV g2 u.1 ∧ (k = 0 → jI (u.2 0) = v ∧ r32 (u.2 0))) (xOut cJ o0 q :: (CW cI cE cG cM cS x0 q0 q1 qr (ms, es, gE, gM, gB, gT, gG, gN, gK, gD) κ)) (fun u => xOut cJ o0 u.2 :: (CW cI cE cG cM cS x0 q0 q1 qr g2 u.1)) := by
  refine CtW.of (cc := cL_ofMeasurement) (maxL := 6) (hh := [(0, 12, 15, 19), (0, 12, 19, 21)]) (by decide +kernel) rfl (Nat.le_of_ble_eq_true rfl) ?_
  intro p e s m below meth c A ls hcx htab hK hX hZ hN hP hD hA hl
  obtain ⟨hx, hb, hr, hml, hown, hts, hlocks⟩ := hcx
  have hS : va_S A s.heap s.heap [] := va_S.rf
  have hown : s.vm.findClass RL = some m.cls := hown
  have hl : lv_has ls 6 [(0, .ref x0), (1, .int b1), (2, .int b2), (3, .int b3), (4, .ref o0)] := hl
  refine lv_aload hx hb dL_ofMeasurement_0 (lv_at hl 4 rfl) ?_
  refine n_iconst hx hb dL_ofMeasurement_2 ?_
  refine lv_aload_n hx hb dL_ofMeasurement_3 rfl (lv_at hl 0 rfl) ?_
  refine lv_iload_n hx hb dL_ofMeasurement_4 rfl (lv_at hl 1 rfl) ?_
  refine lv_iload_n hx hb dL_ofMeasurement_5 rfl (lv_at hl 2 rfl) ?_
  refine lv_iload_n hx hb dL_ofMeasurement_6 rfl (lv_at hl 3 rfl) ?_
  have hP : va_P D vwCl ((CW cI cE cG cM cS x0 q0 q1 qr (ms, es, gE, gM, gB, gT, gG, gN, gK, gD) κ) ++ [(xOut cJ o0 q)]) s.heap := hP.perm (List.perm_append_comm (l₁ := ([(xOut cJ o0 q)] : va_W)) (l₂ := (CW cI cE cG cM cS x0 q0 q1 qr (ms, es, gE, gM, gB, gT, gG, gN, gK, gD) κ)))
  have hD : va_D A ((CW cI cE cG cM cS x0 q0 q1 qr (ms, es, gE, gM, gB, gT, gG, gN, gK, gD) κ) ++ [(xOut cJ o0 q)]) := hD.perm (List.perm_append_comm (l₁ := ([(xOut cJ o0 q)] : va_W)) (l₂ := (CW cI cE cG cM cS x0 q0 q1 qr (ms, es, gE, gM, gB, gT, gG, gN, gK, gD) κ)))
  refine b_goI (vx_runV (As := [.int b1, .int b2, .int b3]) (rest := [.int (jI 0), .ref o0]) ⟨hx, hb, hml, hown, hts⟩ (hC _) (cwV 3 hts gL_ofMeasurement_X6_ofMeasurement rfl rfl rfl (by decide +kernel) ⟨(Nat.le_of_ble_eq_true rfl), (Nat.le_of_ble_eq_true rfl)⟩) ⟨(b_pre hK hX hZ hP hD hS hA).1, va_recv hK.1 hP (ci := 6) (q0 := 0) rfl rfl, (b_pre hK hX hZ hP hD hS hA).2⟩ rfl rfl hl.1 rfl (lv_room (Nat.le_of_ble_eq_true rfl)) dL_ofMeasurement_7 ⟨(Nat.le_of_ble_eq_true rfl), (Nat.le_of_ble_eq_true rfl)⟩) hP hD hS hA (fun E ce q9 κ2 H locs hpx hP hD hS h7 h8 h9 => ?_) (fun r κ2 H locs hpost hP hD hS => ?_)
  · have hP : va_P D vwCl ((xOut cJ o0 q) :: (CW cI cE cG cM cS x0 q0 q1 qr g2 κ2)) H := hP.perm (List.perm_append_comm (l₁ := (CW cI cE cG cM cS x0 q0 q1 qr g2 κ2)) (l₂ := ([(xOut cJ o0 q)] : va_W)))
    have hD : va_D A ((xOut cJ o0 q) :: (CW cI cE cG cM cS x0 q0 q1 qr g2 κ2)) := hD.perm (List.perm_append_comm (l₁ := (CW cI cE cG cM cS x0 q0 q1 qr g2 κ2)) (l₂ := ([(xOut cJ o0 q)] : va_W)))
    rcases xc2_i hpx.1 with ⟨hk0, hE⟩ | ⟨hk0, hE⟩
    · subst hk0
      subst hE
      refine g_c1 hown htab  (by decide) (by decide) (hts (.classLink RL 19 xIOB) (by decide +kernel)) (xcl_IOB hX) h7 h8 h9 ?_
      refine lv_astore (lv' := [(5, .ref q9), (0, .ref x0), (1, .int b1), (2, .int b2), (3, .int b3), (4, .ref o0)]) hx hb dL_ofMeasurement_15 hl (by decide) rfl (fun ls hl => ?_)
      refine n_iconst hx hb dL_ofMeasurement_17 ?_
      exact n_iret (κ2, q) hx hb hr hlocks dL_ofMeasurement_18 hP hD hS ⟨rfl, hpx.2, fun h => absurd h (by decide)⟩
    · subst hk0
      subst hE
      refine g_c2 hown htab (by decide) (hts (.classLink RL 19 xIOB) (by decide +kernel)) hN.1 (by decide) (by decide) (hts (.classLink RL 21 xIAE) (by decide +kernel)) (xcl_IAE hX) h7 h8 h9 ?_
      refine lv_astore (lv' := [(5, .ref q9), (0, .ref x0), (1, .int b1), (2, .int b2), (3, .int b3), (4, .ref o0)]) hx hb dL_ofMeasurement_19 hl (by decide) rfl (fun ls hl => ?_)
      refine n_iconst hx hb dL_ofMeasurement_21 ?_
      exact n_iret (κ2, q) hx hb hr hlocks dL_ofMeasurement_22 hP hD hS ⟨rfl, hpx.2, fun h => absurd h (by decide)⟩
  · obtain ⟨hk0, hrv, hI2⟩ := hpost
    obtain ⟨z, hz, rz⟩ := i32_j r
    subst hz
    have hP : va_P D vwCl ((CW cI cE cG cM cS x0 q0 q1 qr g2 κ2) ++ [(xOut cJ o0 q)]) H := hP
    have hD : va_D A ((CW cI cE cG cM cS x0 q0 q1 qr g2 κ2) ++ [(xOut cJ o0 q)]) := hD
    have hP : va_P D vwCl ((xOut cJ o0 q) :: (CW cI cE cG cM cS x0 q0 q1 qr g2 κ2)) H := hP.perm (List.perm_append_comm (l₁ := (CW cI cE cG cM cS x0 q0 q1 qr g2 κ2)) (l₂ := ([(xOut cJ o0 q)] : va_W)))
    have hD : va_D A ((xOut cJ o0 q) :: (CW cI cE cG cM cS x0 q0 q1 qr g2 κ2)) := hD.perm (List.perm_append_comm (l₁ := (CW cI cE cG cM cS x0 q0 q1 qr g2 κ2)) (l₂ := ([(xOut cJ o0 q)] : va_W)))
    refine n_i2l hx hb dL_ofMeasurement_10 rz.1 rz.2 ?_
    refine n_last (i := 0) hx hb hK hP hD hS 0 1 rfl htJ rfl (Nat.le_of_ble_eq_true rfl) (Nat.le_of_ble_eq_true rfl) dL_ofMeasurement_11 (fun H locs hP hD hS => ?_)
    have hP : va_P D vwCl ((xOut cJ o0 (va_up q 0 z)) :: (CW cI cE cG cM cS x0 q0 q1 qr g2 κ2)) H := hP
    have hD : va_D A ((xOut cJ o0 (va_up q 0 z)) :: (CW cI cE cG cM cS x0 q0 q1 qr g2 κ2)) := hD
    refine lv_goto (tgt := 23) hx hb dL_ofMeasurement_12 (by decide) ?_
    refine n_iconst hx hb dL_ofMeasurement_23 ?_
    exact n_iret (κ2, va_up q 0 z) hx hb hr hlocks dL_ofMeasurement_24 hP hD hS ⟨by rw [hk0]; rfl, hI2, fun _ => by show jI (va_up q 0 z 0) = v ∧ r32 (va_up q 0 z 0); rw [up_s]; exact ⟨hrv, rz⟩⟩

set_option maxHeartbeats 8000000 in
set_option maxRecDepth 100000 in
/--  -/
theorem w_gain (l : Launch) (D : va_G) (tys : List (ClassId × FieldType)) {cI cJ cE cG cM cS : ClassId} (htJ : tys[1]? = some (cJ, .long)) (x0 q0 q1 : Nat) (qr : Nat → Nat) (ms es : Nat) (gE gM gB : Nat → Zp) (gT : Nat → Nat) (gG : Nat → Zp) (gN : Nat → Nat) (gK : Nat → Zp) (gD : Nat → Bool) (κ : Nat → EG) (b1 b2 b3 b4 b5 : Int32) (g2 : SG) (k : Nat) (v : Int32) (hC : CDo l D tys cI cE cG cM cS x0 q0 q1 qr xc3 yX6_gain wsX6_gain [.int b1, .int b2, .int b3, .int b4, .int b5] (ms, es, gE, gM, gB, gT, gG, gN, gK, gD) κ g2 k v) (o0 : Nat) (q : Nat → Int) : CtW (S := (Nat → EG) × (Nat → Int)) l D tys yL_gain wsL_gain 10 200 228 867 [.ref x0, .int b1, .int b2, .int b3, .int b4, .int b5, .ref o0] (fun (r : Int32) (u : (Nat → EG) × (Nat → Int)) => r = jI ((k : Nat) : Int) ∧ INV g2 u.1 ∧ (k = 0 → jI (u.2 0) = v ∧ r32 (u.2 0))) (xOut cJ o0 q :: (CW cI cE cG cM cS x0 q0 q1 qr (ms, es, gE, gM, gB, gT, gG, gN, gK, gD) κ)) (fun u => xOut cJ o0 u.2 :: (CW cI cE cG cM cS x0 q0 q1 qr g2 u.1)) := by
  refine CtW.of (cc := cL_gain) (maxL := 8) (hh := [(0, 16, 19, 19), (0, 16, 23, 21), (0, 16, 27, 13)]) (by decide +kernel) rfl (Nat.le_of_ble_eq_true rfl) ?_
  intro p e s m below meth c A ls hcx htab hK hX hZ hN hP hD hA hl
  obtain ⟨hx, hb, hr, hml, hown, hts, hlocks⟩ := hcx
  have hS : va_S A s.heap s.heap [] := va_S.rf
  have hown : s.vm.findClass RL = some m.cls := hown
  have hl : lv_has ls 8 [(0, .ref x0), (1, .int b1), (2, .int b2), (3, .int b3), (4, .int b4), (5, .int b5), (6, .ref o0)] := hl
  refine lv_aload hx hb dL_gain_0 (lv_at hl 6 rfl) ?_
  refine n_iconst hx hb dL_gain_2 ?_
  refine lv_aload_n hx hb dL_gain_3 rfl (lv_at hl 0 rfl) ?_
  refine lv_iload_n hx hb dL_gain_4 rfl (lv_at hl 1 rfl) ?_
  refine lv_iload_n hx hb dL_gain_5 rfl (lv_at hl 2 rfl) ?_
  refine lv_iload_n hx hb dL_gain_6 rfl (lv_at hl 3 rfl) ?_
  refine lv_iload hx hb dL_gain_7 (lv_at hl 4 rfl) ?_
  refine lv_iload hx hb dL_gain_9 (lv_at hl 5 rfl) ?_
  have hP : va_P D vwCl ((CW cI cE cG cM cS x0 q0 q1 qr (ms, es, gE, gM, gB, gT, gG, gN, gK, gD) κ) ++ [(xOut cJ o0 q)]) s.heap := hP.perm (List.perm_append_comm (l₁ := ([(xOut cJ o0 q)] : va_W)) (l₂ := (CW cI cE cG cM cS x0 q0 q1 qr (ms, es, gE, gM, gB, gT, gG, gN, gK, gD) κ)))
  have hD : va_D A ((CW cI cE cG cM cS x0 q0 q1 qr (ms, es, gE, gM, gB, gT, gG, gN, gK, gD) κ) ++ [(xOut cJ o0 q)]) := hD.perm (List.perm_append_comm (l₁ := ([(xOut cJ o0 q)] : va_W)) (l₂ := (CW cI cE cG cM cS x0 q0 q1 qr (ms, es, gE, gM, gB, gT, gG, gN, gK, gD) κ)))
  refine b_goI (vx_runV (As := [.int b1, .int b2, .int b3, .int b4, .int b5]) (rest := [.int (jI 0), .ref o0]) ⟨hx, hb, hml, hown, hts⟩ (hC _) (cwV 5 hts gL_gain_X6_gain rfl rfl rfl (by decide +kernel) ⟨(Nat.le_of_ble_eq_true rfl), (Nat.le_of_ble_eq_true rfl)⟩) ⟨(b_pre hK hX hZ hP hD hS hA).1, va_recv hK.1 hP (ci := 6) (q0 := 0) rfl rfl, (b_pre hK hX hZ hP hD hS hA).2⟩ rfl rfl hl.1 rfl (lv_room (Nat.le_of_ble_eq_true rfl)) dL_gain_11 ⟨(Nat.le_of_ble_eq_true rfl), (Nat.le_of_ble_eq_true rfl)⟩) hP hD hS hA (fun E ce q9 κ2 H locs hpx hP hD hS h7 h8 h9 => ?_) (fun r κ2 H locs hpost hP hD hS => ?_)
  · have hP : va_P D vwCl ((xOut cJ o0 q) :: (CW cI cE cG cM cS x0 q0 q1 qr g2 κ2)) H := hP.perm (List.perm_append_comm (l₁ := (CW cI cE cG cM cS x0 q0 q1 qr g2 κ2)) (l₂ := ([(xOut cJ o0 q)] : va_W)))
    have hD : va_D A ((xOut cJ o0 q) :: (CW cI cE cG cM cS x0 q0 q1 qr g2 κ2)) := hD.perm (List.perm_append_comm (l₁ := (CW cI cE cG cM cS x0 q0 q1 qr g2 κ2)) (l₂ := ([(xOut cJ o0 q)] : va_W)))
    rcases xc3_i hpx.1 with ⟨hk0, hE⟩ | ⟨hk0, hE⟩ | ⟨hk0, hE⟩
    · subst hk0
      subst hE
      refine g_c1 hown htab  (by decide) (by decide) (hts (.classLink RL 19 xIOB) (by decide +kernel)) (xcl_IOB hX) h7 h8 h9 ?_
      refine lv_astore (lv' := [(7, .ref q9), (0, .ref x0), (1, .int b1), (2, .int b2), (3, .int b3), (4, .int b4), (5, .int b5), (6, .ref o0)]) hx hb dL_gain_19 hl (by decide) rfl (fun ls hl => ?_)
      refine n_iconst hx hb dL_gain_21 ?_
      exact n_iret (κ2, q) hx hb hr hlocks dL_gain_22 hP hD hS ⟨rfl, hpx.2, fun h => absurd h (by decide)⟩
    · subst hk0
      subst hE
      refine g_c2 hown htab (by decide) (hts (.classLink RL 19 xIOB) (by decide +kernel)) hN.1 (by decide) (by decide) (hts (.classLink RL 21 xIAE) (by decide +kernel)) (xcl_IAE hX) h7 h8 h9 ?_
      refine lv_astore (lv' := [(7, .ref q9), (0, .ref x0), (1, .int b1), (2, .int b2), (3, .int b3), (4, .int b4), (5, .int b5), (6, .ref o0)]) hx hb dL_gain_23 hl (by decide) rfl (fun ls hl => ?_)
      refine n_iconst hx hb dL_gain_25 ?_
      exact n_iret (κ2, q) hx hb hr hlocks dL_gain_26 hP hD hS ⟨rfl, hpx.2, fun h => absurd h (by decide)⟩
    · subst hk0
      subst hE
      refine g_c3 hown htab (by decide) (hts (.classLink RL 19 xIOB) (by decide +kernel)) hN.2.1 (by decide) (hts (.classLink RL 21 xIAE) (by decide +kernel)) hN.2.2 (by decide) (by decide) (hts (.classLink RL 13 xISE) (by decide +kernel)) (xcl_ISE hX) h7 h8 h9 ?_
      refine lv_astore (lv' := [(7, .ref q9), (0, .ref x0), (1, .int b1), (2, .int b2), (3, .int b3), (4, .int b4), (5, .int b5), (6, .ref o0)]) hx hb dL_gain_27 hl (by decide) rfl (fun ls hl => ?_)
      refine n_iconst hx hb dL_gain_29 ?_
      exact n_iret (κ2, q) hx hb hr hlocks dL_gain_30 hP hD hS ⟨rfl, hpx.2, fun h => absurd h (by decide)⟩
  · obtain ⟨hk0, hrv, hI2⟩ := hpost
    obtain ⟨z, hz, rz⟩ := i32_j r
    subst hz
    have hP : va_P D vwCl ((CW cI cE cG cM cS x0 q0 q1 qr g2 κ2) ++ [(xOut cJ o0 q)]) H := hP
    have hD : va_D A ((CW cI cE cG cM cS x0 q0 q1 qr g2 κ2) ++ [(xOut cJ o0 q)]) := hD
    have hP : va_P D vwCl ((xOut cJ o0 q) :: (CW cI cE cG cM cS x0 q0 q1 qr g2 κ2)) H := hP.perm (List.perm_append_comm (l₁ := (CW cI cE cG cM cS x0 q0 q1 qr g2 κ2)) (l₂ := ([(xOut cJ o0 q)] : va_W)))
    have hD : va_D A ((xOut cJ o0 q) :: (CW cI cE cG cM cS x0 q0 q1 qr g2 κ2)) := hD.perm (List.perm_append_comm (l₁ := (CW cI cE cG cM cS x0 q0 q1 qr g2 κ2)) (l₂ := ([(xOut cJ o0 q)] : va_W)))
    refine n_i2l hx hb dL_gain_14 rz.1 rz.2 ?_
    refine n_last (i := 0) hx hb hK hP hD hS 0 1 rfl htJ rfl (Nat.le_of_ble_eq_true rfl) (Nat.le_of_ble_eq_true rfl) dL_gain_15 (fun H locs hP hD hS => ?_)
    have hP : va_P D vwCl ((xOut cJ o0 (va_up q 0 z)) :: (CW cI cE cG cM cS x0 q0 q1 qr g2 κ2)) H := hP
    have hD : va_D A ((xOut cJ o0 (va_up q 0 z)) :: (CW cI cE cG cM cS x0 q0 q1 qr g2 κ2)) := hD
    refine lv_goto (tgt := 31) hx hb dL_gain_16 (by decide) ?_
    refine n_iconst hx hb dL_gain_31 ?_
    exact n_iret (κ2, va_up q 0 z) hx hb hr hlocks dL_gain_32 hP hD hS ⟨by rw [hk0]; rfl, hI2, fun _ => by show jI (va_up q 0 z 0) = v ∧ r32 (va_up q 0 z 0); rw [up_s]; exact ⟨hrv, rz⟩⟩

set_option maxHeartbeats 8000000 in
set_option maxRecDepth 100000 in
/--  -/
theorem w_information (l : Launch) (D : va_G) (tys : List (ClassId × FieldType)) {cI cJ cE cG cM cS : ClassId} (htJ : tys[1]? = some (cJ, .long)) (x0 q0 q1 : Nat) (qr : Nat → Nat) (ms es : Nat) (gE gM gB : Nat → Zp) (gT : Nat → Nat) (gG : Nat → Zp) (gN : Nat → Nat) (gK : Nat → Zp) (gD : Nat → Bool) (κ : Nat → EG) (b1 b2 : Int32) (g2 : SG) (k : Nat) (v : Int32) (hC : CDo l D tys cI cE cG cM cS x0 q0 q1 qr xc3 yX6_information wsX6_information [.int b1, .int b2] (ms, es, gE, gM, gB, gT, gG, gN, gK, gD) κ g2 k v) (o0 : Nat) (q : Nat → Int) : CtW (S := (Nat → EG) × (Nat → Int)) l D tys yL_information wsL_information 10 200 228 867 [.ref x0, .int b1, .int b2, .ref o0] (fun (r : Int32) (u : (Nat → EG) × (Nat → Int)) => r = jI ((k : Nat) : Int) ∧ INV g2 u.1 ∧ (k = 0 → jI (u.2 0) = v ∧ r32 (u.2 0))) (xOut cJ o0 q :: (CW cI cE cG cM cS x0 q0 q1 qr (ms, es, gE, gM, gB, gT, gG, gN, gK, gD) κ)) (fun u => xOut cJ o0 u.2 :: (CW cI cE cG cM cS x0 q0 q1 qr g2 u.1)) := by
  refine CtW.of (cc := cL_information) (maxL := 5) (hh := [(0, 10, 13, 19), (0, 10, 17, 21), (0, 10, 21, 13)]) (by decide +kernel) rfl (Nat.le_of_ble_eq_true rfl) ?_
  intro p e s m below meth c A ls hcx htab hK hX hZ hN hP hD hA hl
  obtain ⟨hx, hb, hr, hml, hown, hts, hlocks⟩ := hcx
  have hS : va_S A s.heap s.heap [] := va_S.rf
  have hown : s.vm.findClass RL = some m.cls := hown
  have hl : lv_has ls 5 [(0, .ref x0), (1, .int b1), (2, .int b2), (3, .ref o0)] := hl
  refine lv_aload_n hx hb dL_information_0 rfl (lv_at hl 3 rfl) ?_
  refine n_iconst hx hb dL_information_1 ?_
  refine lv_aload_n hx hb dL_information_2 rfl (lv_at hl 0 rfl) ?_
  refine lv_iload_n hx hb dL_information_3 rfl (lv_at hl 1 rfl) ?_
  refine lv_iload_n hx hb dL_information_4 rfl (lv_at hl 2 rfl) ?_
  have hP : va_P D vwCl ((CW cI cE cG cM cS x0 q0 q1 qr (ms, es, gE, gM, gB, gT, gG, gN, gK, gD) κ) ++ [(xOut cJ o0 q)]) s.heap := hP.perm (List.perm_append_comm (l₁ := ([(xOut cJ o0 q)] : va_W)) (l₂ := (CW cI cE cG cM cS x0 q0 q1 qr (ms, es, gE, gM, gB, gT, gG, gN, gK, gD) κ)))
  have hD : va_D A ((CW cI cE cG cM cS x0 q0 q1 qr (ms, es, gE, gM, gB, gT, gG, gN, gK, gD) κ) ++ [(xOut cJ o0 q)]) := hD.perm (List.perm_append_comm (l₁ := ([(xOut cJ o0 q)] : va_W)) (l₂ := (CW cI cE cG cM cS x0 q0 q1 qr (ms, es, gE, gM, gB, gT, gG, gN, gK, gD) κ)))
  refine b_goI (vx_runV (As := [.int b1, .int b2]) (rest := [.int (jI 0), .ref o0]) ⟨hx, hb, hml, hown, hts⟩ (hC _) (cwV 2 hts gL_information_X6_information rfl rfl rfl (by decide +kernel) ⟨(Nat.le_of_ble_eq_true rfl), (Nat.le_of_ble_eq_true rfl)⟩) ⟨(b_pre hK hX hZ hP hD hS hA).1, va_recv hK.1 hP (ci := 6) (q0 := 0) rfl rfl, (b_pre hK hX hZ hP hD hS hA).2⟩ rfl rfl hl.1 rfl (lv_room (Nat.le_of_ble_eq_true rfl)) dL_information_5 ⟨(Nat.le_of_ble_eq_true rfl), (Nat.le_of_ble_eq_true rfl)⟩) hP hD hS hA (fun E ce q9 κ2 H locs hpx hP hD hS h7 h8 h9 => ?_) (fun r κ2 H locs hpost hP hD hS => ?_)
  · have hP : va_P D vwCl ((xOut cJ o0 q) :: (CW cI cE cG cM cS x0 q0 q1 qr g2 κ2)) H := hP.perm (List.perm_append_comm (l₁ := (CW cI cE cG cM cS x0 q0 q1 qr g2 κ2)) (l₂ := ([(xOut cJ o0 q)] : va_W)))
    have hD : va_D A ((xOut cJ o0 q) :: (CW cI cE cG cM cS x0 q0 q1 qr g2 κ2)) := hD.perm (List.perm_append_comm (l₁ := (CW cI cE cG cM cS x0 q0 q1 qr g2 κ2)) (l₂ := ([(xOut cJ o0 q)] : va_W)))
    rcases xc3_i hpx.1 with ⟨hk0, hE⟩ | ⟨hk0, hE⟩ | ⟨hk0, hE⟩
    · subst hk0
      subst hE
      refine g_c1 hown htab  (by decide) (by decide) (hts (.classLink RL 19 xIOB) (by decide +kernel)) (xcl_IOB hX) h7 h8 h9 ?_
      refine lv_astore (lv' := [(4, .ref q9), (0, .ref x0), (1, .int b1), (2, .int b2), (3, .ref o0)]) hx hb dL_information_13 hl (by decide) rfl (fun ls hl => ?_)
      refine n_iconst hx hb dL_information_15 ?_
      exact n_iret (κ2, q) hx hb hr hlocks dL_information_16 hP hD hS ⟨rfl, hpx.2, fun h => absurd h (by decide)⟩
    · subst hk0
      subst hE
      refine g_c2 hown htab (by decide) (hts (.classLink RL 19 xIOB) (by decide +kernel)) hN.1 (by decide) (by decide) (hts (.classLink RL 21 xIAE) (by decide +kernel)) (xcl_IAE hX) h7 h8 h9 ?_
      refine lv_astore (lv' := [(4, .ref q9), (0, .ref x0), (1, .int b1), (2, .int b2), (3, .ref o0)]) hx hb dL_information_17 hl (by decide) rfl (fun ls hl => ?_)
      refine n_iconst hx hb dL_information_19 ?_
      exact n_iret (κ2, q) hx hb hr hlocks dL_information_20 hP hD hS ⟨rfl, hpx.2, fun h => absurd h (by decide)⟩
    · subst hk0
      subst hE
      refine g_c3 hown htab (by decide) (hts (.classLink RL 19 xIOB) (by decide +kernel)) hN.2.1 (by decide) (hts (.classLink RL 21 xIAE) (by decide +kernel)) hN.2.2 (by decide) (by decide) (hts (.classLink RL 13 xISE) (by decide +kernel)) (xcl_ISE hX) h7 h8 h9 ?_
      refine lv_astore (lv' := [(4, .ref q9), (0, .ref x0), (1, .int b1), (2, .int b2), (3, .ref o0)]) hx hb dL_information_21 hl (by decide) rfl (fun ls hl => ?_)
      refine n_iconst hx hb dL_information_23 ?_
      exact n_iret (κ2, q) hx hb hr hlocks dL_information_24 hP hD hS ⟨rfl, hpx.2, fun h => absurd h (by decide)⟩
  · obtain ⟨hk0, hrv, hI2⟩ := hpost
    obtain ⟨z, hz, rz⟩ := i32_j r
    subst hz
    have hP : va_P D vwCl ((CW cI cE cG cM cS x0 q0 q1 qr g2 κ2) ++ [(xOut cJ o0 q)]) H := hP
    have hD : va_D A ((CW cI cE cG cM cS x0 q0 q1 qr g2 κ2) ++ [(xOut cJ o0 q)]) := hD
    have hP : va_P D vwCl ((xOut cJ o0 q) :: (CW cI cE cG cM cS x0 q0 q1 qr g2 κ2)) H := hP.perm (List.perm_append_comm (l₁ := (CW cI cE cG cM cS x0 q0 q1 qr g2 κ2)) (l₂ := ([(xOut cJ o0 q)] : va_W)))
    have hD : va_D A ((xOut cJ o0 q) :: (CW cI cE cG cM cS x0 q0 q1 qr g2 κ2)) := hD.perm (List.perm_append_comm (l₁ := (CW cI cE cG cM cS x0 q0 q1 qr g2 κ2)) (l₂ := ([(xOut cJ o0 q)] : va_W)))
    refine n_i2l hx hb dL_information_8 rz.1 rz.2 ?_
    refine n_last (i := 0) hx hb hK hP hD hS 0 1 rfl htJ rfl (Nat.le_of_ble_eq_true rfl) (Nat.le_of_ble_eq_true rfl) dL_information_9 (fun H locs hP hD hS => ?_)
    have hP : va_P D vwCl ((xOut cJ o0 (va_up q 0 z)) :: (CW cI cE cG cM cS x0 q0 q1 qr g2 κ2)) H := hP
    have hD : va_D A ((xOut cJ o0 (va_up q 0 z)) :: (CW cI cE cG cM cS x0 q0 q1 qr g2 κ2)) := hD
    refine lv_goto (tgt := 25) hx hb dL_information_10 (by decide) ?_
    refine n_iconst hx hb dL_information_25 ?_
    exact n_iret (κ2, va_up q 0 z) hx hb hr hlocks dL_information_26 hP hD hS ⟨by rw [hk0]; rfl, hI2, fun _ => by show jI (va_up q 0 z 0) = v ∧ r32 (va_up q 0 z 0); rw [up_s]; exact ⟨hrv, rz⟩⟩

set_option maxHeartbeats 8000000 in
set_option maxRecDepth 100000 in
/--  -/
theorem w_anew (l : Launch) (D : va_G) (tys : List (ClassId × FieldType)) {cI cJ cE cG cM cS : ClassId} (htJ : tys[1]? = some (cJ, .long)) (x0 q0 q1 : Nat) (qr : Nat → Nat) (ms es : Nat) (gE gM gB : Nat → Zp) (gT : Nat → Nat) (gG : Nat → Zp) (gN : Nat → Nat) (gK : Nat → Zp) (gD : Nat → Bool) (κ : Nat → EG) (b1 b2 : Int32) (g2 : SG) (k : Nat) (v : Int32) (hC : CDo l D tys cI cE cG cM cS x0 q0 q1 qr xc3 yX6_anew wsX6_anew [.int b1, .int b2] (ms, es, gE, gM, gB, gT, gG, gN, gK, gD) κ g2 k v) (o0 : Nat) (q : Nat → Int) : CtW (S := (Nat → EG) × (Nat → Int)) l D tys yL_anew wsL_anew 10 200 228 867 [.ref x0, .int b1, .int b2, .ref o0] (fun (r : Int32) (u : (Nat → EG) × (Nat → Int)) => r = jI ((k : Nat) : Int) ∧ INV g2 u.1 ∧ (k = 0 → jI (u.2 0) = v ∧ r32 (u.2 0))) (xOut cJ o0 q :: (CW cI cE cG cM cS x0 q0 q1 qr (ms, es, gE, gM, gB, gT, gG, gN, gK, gD) κ)) (fun u => xOut cJ o0 u.2 :: (CW cI cE cG cM cS x0 q0 q1 qr g2 u.1)) := by
  refine CtW.of (cc := cL_anew) (maxL := 5) (hh := [(0, 10, 13, 19), (0, 10, 17, 21), (0, 10, 21, 13)]) (by decide +kernel) rfl (Nat.le_of_ble_eq_true rfl) ?_
  intro p e s m below meth c A ls hcx htab hK hX hZ hN hP hD hA hl
  obtain ⟨hx, hb, hr, hml, hown, hts, hlocks⟩ := hcx
  have hS : va_S A s.heap s.heap [] := va_S.rf
  have hown : s.vm.findClass RL = some m.cls := hown
  have hl : lv_has ls 5 [(0, .ref x0), (1, .int b1), (2, .int b2), (3, .ref o0)] := hl
  refine lv_aload_n hx hb dL_anew_0 rfl (lv_at hl 3 rfl) ?_
  refine n_iconst hx hb dL_anew_1 ?_
  refine lv_aload_n hx hb dL_anew_2 rfl (lv_at hl 0 rfl) ?_
  refine lv_iload_n hx hb dL_anew_3 rfl (lv_at hl 1 rfl) ?_
  refine lv_iload_n hx hb dL_anew_4 rfl (lv_at hl 2 rfl) ?_
  have hP : va_P D vwCl ((CW cI cE cG cM cS x0 q0 q1 qr (ms, es, gE, gM, gB, gT, gG, gN, gK, gD) κ) ++ [(xOut cJ o0 q)]) s.heap := hP.perm (List.perm_append_comm (l₁ := ([(xOut cJ o0 q)] : va_W)) (l₂ := (CW cI cE cG cM cS x0 q0 q1 qr (ms, es, gE, gM, gB, gT, gG, gN, gK, gD) κ)))
  have hD : va_D A ((CW cI cE cG cM cS x0 q0 q1 qr (ms, es, gE, gM, gB, gT, gG, gN, gK, gD) κ) ++ [(xOut cJ o0 q)]) := hD.perm (List.perm_append_comm (l₁ := ([(xOut cJ o0 q)] : va_W)) (l₂ := (CW cI cE cG cM cS x0 q0 q1 qr (ms, es, gE, gM, gB, gT, gG, gN, gK, gD) κ)))
  refine b_goI (vx_runV (As := [.int b1, .int b2]) (rest := [.int (jI 0), .ref o0]) ⟨hx, hb, hml, hown, hts⟩ (hC _) (cwV 2 hts gL_anew_X6_anew rfl rfl rfl (by decide +kernel) ⟨(Nat.le_of_ble_eq_true rfl), (Nat.le_of_ble_eq_true rfl)⟩) ⟨(b_pre hK hX hZ hP hD hS hA).1, va_recv hK.1 hP (ci := 6) (q0 := 0) rfl rfl, (b_pre hK hX hZ hP hD hS hA).2⟩ rfl rfl hl.1 rfl (lv_room (Nat.le_of_ble_eq_true rfl)) dL_anew_5 ⟨(Nat.le_of_ble_eq_true rfl), (Nat.le_of_ble_eq_true rfl)⟩) hP hD hS hA (fun E ce q9 κ2 H locs hpx hP hD hS h7 h8 h9 => ?_) (fun r κ2 H locs hpost hP hD hS => ?_)
  · have hP : va_P D vwCl ((xOut cJ o0 q) :: (CW cI cE cG cM cS x0 q0 q1 qr g2 κ2)) H := hP.perm (List.perm_append_comm (l₁ := (CW cI cE cG cM cS x0 q0 q1 qr g2 κ2)) (l₂ := ([(xOut cJ o0 q)] : va_W)))
    have hD : va_D A ((xOut cJ o0 q) :: (CW cI cE cG cM cS x0 q0 q1 qr g2 κ2)) := hD.perm (List.perm_append_comm (l₁ := (CW cI cE cG cM cS x0 q0 q1 qr g2 κ2)) (l₂ := ([(xOut cJ o0 q)] : va_W)))
    rcases xc3_i hpx.1 with ⟨hk0, hE⟩ | ⟨hk0, hE⟩ | ⟨hk0, hE⟩
    · subst hk0
      subst hE
      refine g_c1 hown htab  (by decide) (by decide) (hts (.classLink RL 19 xIOB) (by decide +kernel)) (xcl_IOB hX) h7 h8 h9 ?_
      refine lv_astore (lv' := [(4, .ref q9), (0, .ref x0), (1, .int b1), (2, .int b2), (3, .ref o0)]) hx hb dL_anew_13 hl (by decide) rfl (fun ls hl => ?_)
      refine n_iconst hx hb dL_anew_15 ?_
      exact n_iret (κ2, q) hx hb hr hlocks dL_anew_16 hP hD hS ⟨rfl, hpx.2, fun h => absurd h (by decide)⟩
    · subst hk0
      subst hE
      refine g_c2 hown htab (by decide) (hts (.classLink RL 19 xIOB) (by decide +kernel)) hN.1 (by decide) (by decide) (hts (.classLink RL 21 xIAE) (by decide +kernel)) (xcl_IAE hX) h7 h8 h9 ?_
      refine lv_astore (lv' := [(4, .ref q9), (0, .ref x0), (1, .int b1), (2, .int b2), (3, .ref o0)]) hx hb dL_anew_17 hl (by decide) rfl (fun ls hl => ?_)
      refine n_iconst hx hb dL_anew_19 ?_
      exact n_iret (κ2, q) hx hb hr hlocks dL_anew_20 hP hD hS ⟨rfl, hpx.2, fun h => absurd h (by decide)⟩
    · subst hk0
      subst hE
      refine g_c3 hown htab (by decide) (hts (.classLink RL 19 xIOB) (by decide +kernel)) hN.2.1 (by decide) (hts (.classLink RL 21 xIAE) (by decide +kernel)) hN.2.2 (by decide) (by decide) (hts (.classLink RL 13 xISE) (by decide +kernel)) (xcl_ISE hX) h7 h8 h9 ?_
      refine lv_astore (lv' := [(4, .ref q9), (0, .ref x0), (1, .int b1), (2, .int b2), (3, .ref o0)]) hx hb dL_anew_21 hl (by decide) rfl (fun ls hl => ?_)
      refine n_iconst hx hb dL_anew_23 ?_
      exact n_iret (κ2, q) hx hb hr hlocks dL_anew_24 hP hD hS ⟨rfl, hpx.2, fun h => absurd h (by decide)⟩
  · obtain ⟨hk0, hrv, hI2⟩ := hpost
    obtain ⟨z, hz, rz⟩ := i32_j r
    subst hz
    have hP : va_P D vwCl ((CW cI cE cG cM cS x0 q0 q1 qr g2 κ2) ++ [(xOut cJ o0 q)]) H := hP
    have hD : va_D A ((CW cI cE cG cM cS x0 q0 q1 qr g2 κ2) ++ [(xOut cJ o0 q)]) := hD
    have hP : va_P D vwCl ((xOut cJ o0 q) :: (CW cI cE cG cM cS x0 q0 q1 qr g2 κ2)) H := hP.perm (List.perm_append_comm (l₁ := (CW cI cE cG cM cS x0 q0 q1 qr g2 κ2)) (l₂ := ([(xOut cJ o0 q)] : va_W)))
    have hD : va_D A ((xOut cJ o0 q) :: (CW cI cE cG cM cS x0 q0 q1 qr g2 κ2)) := hD.perm (List.perm_append_comm (l₁ := (CW cI cE cG cM cS x0 q0 q1 qr g2 κ2)) (l₂ := ([(xOut cJ o0 q)] : va_W)))
    refine n_i2l hx hb dL_anew_8 rz.1 rz.2 ?_
    refine n_last (i := 0) hx hb hK hP hD hS 0 1 rfl htJ rfl (Nat.le_of_ble_eq_true rfl) (Nat.le_of_ble_eq_true rfl) dL_anew_9 (fun H locs hP hD hS => ?_)
    have hP : va_P D vwCl ((xOut cJ o0 (va_up q 0 z)) :: (CW cI cE cG cM cS x0 q0 q1 qr g2 κ2)) H := hP
    have hD : va_D A ((xOut cJ o0 (va_up q 0 z)) :: (CW cI cE cG cM cS x0 q0 q1 qr g2 κ2)) := hD
    refine lv_goto (tgt := 25) hx hb dL_anew_10 (by decide) ?_
    refine n_iconst hx hb dL_anew_25 ?_
    exact n_iret (κ2, va_up q 0 z) hx hb hr hlocks dL_anew_26 hP hD hS ⟨by rw [hk0]; rfl, hI2, fun _ => by show jI (va_up q 0 z 0) = v ∧ r32 (va_up q 0 z 0); rw [up_s]; exact ⟨hrv, rz⟩⟩

set_option maxHeartbeats 8000000 in
set_option maxRecDepth 100000 in
/--  -/
theorem w_smoothed (l : Launch) (D : va_G) (tys : List (ClassId × FieldType)) {cI cJ cE cG cM cS : ClassId} (htJ : tys[1]? = some (cJ, .long)) (x0 q0 q1 : Nat) (qr : Nat → Nat) (ms es : Nat) (gE gM gB : Nat → Zp) (gT : Nat → Nat) (gG : Nat → Zp) (gN : Nat → Nat) (gK : Nat → Zp) (gD : Nat → Bool) (κ : Nat → EG) (b1 b2 b3 : Int32) (g2 : SG) (k : Nat) (v : Int32) (hC : CDo l D tys cI cE cG cM cS x0 q0 q1 qr xc3 yX6_smoothed wsX6_smoothed [.int b1, .int b2, .int b3] (ms, es, gE, gM, gB, gT, gG, gN, gK, gD) κ g2 k v) (o0 : Nat) (q : Nat → Int) : CtW (S := (Nat → EG) × (Nat → Int)) l D tys yL_smoothed wsL_smoothed 10 200 228 867 [.ref x0, .int b1, .int b2, .int b3, .ref o0] (fun (r : Int32) (u : (Nat → EG) × (Nat → Int)) => r = jI ((k : Nat) : Int) ∧ INV g2 u.1 ∧ (k = 0 → jI (u.2 0) = v ∧ r32 (u.2 0))) (xOut cJ o0 q :: (CW cI cE cG cM cS x0 q0 q1 qr (ms, es, gE, gM, gB, gT, gG, gN, gK, gD) κ)) (fun u => xOut cJ o0 u.2 :: (CW cI cE cG cM cS x0 q0 q1 qr g2 u.1)) := by
  refine CtW.of (cc := cL_smoothed) (maxL := 6) (hh := [(0, 12, 15, 19), (0, 12, 19, 21), (0, 12, 23, 13)]) (by decide +kernel) rfl (Nat.le_of_ble_eq_true rfl) ?_
  intro p e s m below meth c A ls hcx htab hK hX hZ hN hP hD hA hl
  obtain ⟨hx, hb, hr, hml, hown, hts, hlocks⟩ := hcx
  have hS : va_S A s.heap s.heap [] := va_S.rf
  have hown : s.vm.findClass RL = some m.cls := hown
  have hl : lv_has ls 6 [(0, .ref x0), (1, .int b1), (2, .int b2), (3, .int b3), (4, .ref o0)] := hl
  refine lv_aload hx hb dL_smoothed_0 (lv_at hl 4 rfl) ?_
  refine n_iconst hx hb dL_smoothed_2 ?_
  refine lv_aload_n hx hb dL_smoothed_3 rfl (lv_at hl 0 rfl) ?_
  refine lv_iload_n hx hb dL_smoothed_4 rfl (lv_at hl 1 rfl) ?_
  refine lv_iload_n hx hb dL_smoothed_5 rfl (lv_at hl 2 rfl) ?_
  refine lv_iload_n hx hb dL_smoothed_6 rfl (lv_at hl 3 rfl) ?_
  have hP : va_P D vwCl ((CW cI cE cG cM cS x0 q0 q1 qr (ms, es, gE, gM, gB, gT, gG, gN, gK, gD) κ) ++ [(xOut cJ o0 q)]) s.heap := hP.perm (List.perm_append_comm (l₁ := ([(xOut cJ o0 q)] : va_W)) (l₂ := (CW cI cE cG cM cS x0 q0 q1 qr (ms, es, gE, gM, gB, gT, gG, gN, gK, gD) κ)))
  have hD : va_D A ((CW cI cE cG cM cS x0 q0 q1 qr (ms, es, gE, gM, gB, gT, gG, gN, gK, gD) κ) ++ [(xOut cJ o0 q)]) := hD.perm (List.perm_append_comm (l₁ := ([(xOut cJ o0 q)] : va_W)) (l₂ := (CW cI cE cG cM cS x0 q0 q1 qr (ms, es, gE, gM, gB, gT, gG, gN, gK, gD) κ)))
  refine b_goI (vx_runV (As := [.int b1, .int b2, .int b3]) (rest := [.int (jI 0), .ref o0]) ⟨hx, hb, hml, hown, hts⟩ (hC _) (cwV 3 hts gL_smoothed_X6_smoothed rfl rfl rfl (by decide +kernel) ⟨(Nat.le_of_ble_eq_true rfl), (Nat.le_of_ble_eq_true rfl)⟩) ⟨(b_pre hK hX hZ hP hD hS hA).1, va_recv hK.1 hP (ci := 6) (q0 := 0) rfl rfl, (b_pre hK hX hZ hP hD hS hA).2⟩ rfl rfl hl.1 rfl (lv_room (Nat.le_of_ble_eq_true rfl)) dL_smoothed_7 ⟨(Nat.le_of_ble_eq_true rfl), (Nat.le_of_ble_eq_true rfl)⟩) hP hD hS hA (fun E ce q9 κ2 H locs hpx hP hD hS h7 h8 h9 => ?_) (fun r κ2 H locs hpost hP hD hS => ?_)
  · have hP : va_P D vwCl ((xOut cJ o0 q) :: (CW cI cE cG cM cS x0 q0 q1 qr g2 κ2)) H := hP.perm (List.perm_append_comm (l₁ := (CW cI cE cG cM cS x0 q0 q1 qr g2 κ2)) (l₂ := ([(xOut cJ o0 q)] : va_W)))
    have hD : va_D A ((xOut cJ o0 q) :: (CW cI cE cG cM cS x0 q0 q1 qr g2 κ2)) := hD.perm (List.perm_append_comm (l₁ := (CW cI cE cG cM cS x0 q0 q1 qr g2 κ2)) (l₂ := ([(xOut cJ o0 q)] : va_W)))
    rcases xc3_i hpx.1 with ⟨hk0, hE⟩ | ⟨hk0, hE⟩ | ⟨hk0, hE⟩
    · subst hk0
      subst hE
      refine g_c1 hown htab  (by decide) (by decide) (hts (.classLink RL 19 xIOB) (by decide +kernel)) (xcl_IOB hX) h7 h8 h9 ?_
      refine lv_astore (lv' := [(5, .ref q9), (0, .ref x0), (1, .int b1), (2, .int b2), (3, .int b3), (4, .ref o0)]) hx hb dL_smoothed_15 hl (by decide) rfl (fun ls hl => ?_)
      refine n_iconst hx hb dL_smoothed_17 ?_
      exact n_iret (κ2, q) hx hb hr hlocks dL_smoothed_18 hP hD hS ⟨rfl, hpx.2, fun h => absurd h (by decide)⟩
    · subst hk0
      subst hE
      refine g_c2 hown htab (by decide) (hts (.classLink RL 19 xIOB) (by decide +kernel)) hN.1 (by decide) (by decide) (hts (.classLink RL 21 xIAE) (by decide +kernel)) (xcl_IAE hX) h7 h8 h9 ?_
      refine lv_astore (lv' := [(5, .ref q9), (0, .ref x0), (1, .int b1), (2, .int b2), (3, .int b3), (4, .ref o0)]) hx hb dL_smoothed_19 hl (by decide) rfl (fun ls hl => ?_)
      refine n_iconst hx hb dL_smoothed_21 ?_
      exact n_iret (κ2, q) hx hb hr hlocks dL_smoothed_22 hP hD hS ⟨rfl, hpx.2, fun h => absurd h (by decide)⟩
    · subst hk0
      subst hE
      refine g_c3 hown htab (by decide) (hts (.classLink RL 19 xIOB) (by decide +kernel)) hN.2.1 (by decide) (hts (.classLink RL 21 xIAE) (by decide +kernel)) hN.2.2 (by decide) (by decide) (hts (.classLink RL 13 xISE) (by decide +kernel)) (xcl_ISE hX) h7 h8 h9 ?_
      refine lv_astore (lv' := [(5, .ref q9), (0, .ref x0), (1, .int b1), (2, .int b2), (3, .int b3), (4, .ref o0)]) hx hb dL_smoothed_23 hl (by decide) rfl (fun ls hl => ?_)
      refine n_iconst hx hb dL_smoothed_25 ?_
      exact n_iret (κ2, q) hx hb hr hlocks dL_smoothed_26 hP hD hS ⟨rfl, hpx.2, fun h => absurd h (by decide)⟩
  · obtain ⟨hk0, hrv, hI2⟩ := hpost
    obtain ⟨z, hz, rz⟩ := i32_j r
    subst hz
    have hP : va_P D vwCl ((CW cI cE cG cM cS x0 q0 q1 qr g2 κ2) ++ [(xOut cJ o0 q)]) H := hP
    have hD : va_D A ((CW cI cE cG cM cS x0 q0 q1 qr g2 κ2) ++ [(xOut cJ o0 q)]) := hD
    have hP : va_P D vwCl ((xOut cJ o0 q) :: (CW cI cE cG cM cS x0 q0 q1 qr g2 κ2)) H := hP.perm (List.perm_append_comm (l₁ := (CW cI cE cG cM cS x0 q0 q1 qr g2 κ2)) (l₂ := ([(xOut cJ o0 q)] : va_W)))
    have hD : va_D A ((xOut cJ o0 q) :: (CW cI cE cG cM cS x0 q0 q1 qr g2 κ2)) := hD.perm (List.perm_append_comm (l₁ := (CW cI cE cG cM cS x0 q0 q1 qr g2 κ2)) (l₂ := ([(xOut cJ o0 q)] : va_W)))
    refine n_i2l hx hb dL_smoothed_10 rz.1 rz.2 ?_
    refine n_last (i := 0) hx hb hK hP hD hS 0 1 rfl htJ rfl (Nat.le_of_ble_eq_true rfl) (Nat.le_of_ble_eq_true rfl) dL_smoothed_11 (fun H locs hP hD hS => ?_)
    have hP : va_P D vwCl ((xOut cJ o0 (va_up q 0 z)) :: (CW cI cE cG cM cS x0 q0 q1 qr g2 κ2)) H := hP
    have hD : va_D A ((xOut cJ o0 (va_up q 0 z)) :: (CW cI cE cG cM cS x0 q0 q1 qr g2 κ2)) := hD
    refine lv_goto (tgt := 27) hx hb dL_smoothed_12 (by decide) ?_
    refine n_iconst hx hb dL_smoothed_27 ?_
    exact n_iret (κ2, va_up q 0 z) hx hb hr hlocks dL_smoothed_28 hP hD hS ⟨by rw [hk0]; rfl, hI2, fun _ => by show jI (va_up q 0 z 0) = v ∧ r32 (va_up q 0 z 0); rw [up_s]; exact ⟨hrv, rz⟩⟩

set_option maxHeartbeats 8000000 in
set_option maxRecDepth 100000 in
/--  -/
theorem w_ahead (l : Launch) (D : va_G) (tys : List (ClassId × FieldType)) {cI cJ cE cG cM cS : ClassId} (htJ : tys[1]? = some (cJ, .long)) (x0 q0 q1 : Nat) (qr : Nat → Nat) (ms es : Nat) (gE gM gB : Nat → Zp) (gT : Nat → Nat) (gG : Nat → Zp) (gN : Nat → Nat) (gK : Nat → Zp) (gD : Nat → Bool) (κ : Nat → EG) (b1 b2 b3 : Int32) (g2 : SG) (k : Nat) (v : Int32) (hC : CDo l D tys cI cE cG cM cS x0 q0 q1 qr xc2 yX6_ahead wsX6_ahead [.int b1, .int b2, .int b3] (ms, es, gE, gM, gB, gT, gG, gN, gK, gD) κ g2 k v) (o0 : Nat) (q : Nat → Int) : CtW (S := (Nat → EG) × (Nat → Int)) l D tys yL_ahead wsL_ahead 10 200 228 867 [.ref x0, .int b1, .int b2, .int b3, .ref o0] (fun (r : Int32) (u : (Nat → EG) × (Nat → Int)) => r = jI ((k : Nat) : Int) ∧ INV g2 u.1 ∧ (k = 0 → jI (u.2 0) = v ∧ r32 (u.2 0))) (xOut cJ o0 q :: (CW cI cE cG cM cS x0 q0 q1 qr (ms, es, gE, gM, gB, gT, gG, gN, gK, gD) κ)) (fun u => xOut cJ o0 u.2 :: (CW cI cE cG cM cS x0 q0 q1 qr g2 u.1)) := by
  refine CtW.of (cc := cL_ahead) (maxL := 6) (hh := [(0, 12, 15, 19), (0, 12, 19, 21)]) (by decide +kernel) rfl (Nat.le_of_ble_eq_true rfl) ?_
  intro p e s m below meth c A ls hcx htab hK hX hZ hN hP hD hA hl
  obtain ⟨hx, hb, hr, hml, hown, hts, hlocks⟩ := hcx
  have hS : va_S A s.heap s.heap [] := va_S.rf
  have hown : s.vm.findClass RL = some m.cls := hown
  have hl : lv_has ls 6 [(0, .ref x0), (1, .int b1), (2, .int b2), (3, .int b3), (4, .ref o0)] := hl
  refine lv_aload hx hb dL_ahead_0 (lv_at hl 4 rfl) ?_
  refine n_iconst hx hb dL_ahead_2 ?_
  refine lv_aload_n hx hb dL_ahead_3 rfl (lv_at hl 0 rfl) ?_
  refine lv_iload_n hx hb dL_ahead_4 rfl (lv_at hl 1 rfl) ?_
  refine lv_iload_n hx hb dL_ahead_5 rfl (lv_at hl 2 rfl) ?_
  refine lv_iload_n hx hb dL_ahead_6 rfl (lv_at hl 3 rfl) ?_
  have hP : va_P D vwCl ((CW cI cE cG cM cS x0 q0 q1 qr (ms, es, gE, gM, gB, gT, gG, gN, gK, gD) κ) ++ [(xOut cJ o0 q)]) s.heap := hP.perm (List.perm_append_comm (l₁ := ([(xOut cJ o0 q)] : va_W)) (l₂ := (CW cI cE cG cM cS x0 q0 q1 qr (ms, es, gE, gM, gB, gT, gG, gN, gK, gD) κ)))
  have hD : va_D A ((CW cI cE cG cM cS x0 q0 q1 qr (ms, es, gE, gM, gB, gT, gG, gN, gK, gD) κ) ++ [(xOut cJ o0 q)]) := hD.perm (List.perm_append_comm (l₁ := ([(xOut cJ o0 q)] : va_W)) (l₂ := (CW cI cE cG cM cS x0 q0 q1 qr (ms, es, gE, gM, gB, gT, gG, gN, gK, gD) κ)))
  refine b_goI (vx_runV (As := [.int b1, .int b2, .int b3]) (rest := [.int (jI 0), .ref o0]) ⟨hx, hb, hml, hown, hts⟩ (hC _) (cwV 3 hts gL_ahead_X6_ahead rfl rfl rfl (by decide +kernel) ⟨(Nat.le_of_ble_eq_true rfl), (Nat.le_of_ble_eq_true rfl)⟩) ⟨(b_pre hK hX hZ hP hD hS hA).1, va_recv hK.1 hP (ci := 6) (q0 := 0) rfl rfl, (b_pre hK hX hZ hP hD hS hA).2⟩ rfl rfl hl.1 rfl (lv_room (Nat.le_of_ble_eq_true rfl)) dL_ahead_7 ⟨(Nat.le_of_ble_eq_true rfl), (Nat.le_of_ble_eq_true rfl)⟩) hP hD hS hA (fun E ce q9 κ2 H locs hpx hP hD hS h7 h8 h9 => ?_) (fun r κ2 H locs hpost hP hD hS => ?_)
  · have hP : va_P D vwCl ((xOut cJ o0 q) :: (CW cI cE cG cM cS x0 q0 q1 qr g2 κ2)) H := hP.perm (List.perm_append_comm (l₁ := (CW cI cE cG cM cS x0 q0 q1 qr g2 κ2)) (l₂ := ([(xOut cJ o0 q)] : va_W)))
    have hD : va_D A ((xOut cJ o0 q) :: (CW cI cE cG cM cS x0 q0 q1 qr g2 κ2)) := hD.perm (List.perm_append_comm (l₁ := (CW cI cE cG cM cS x0 q0 q1 qr g2 κ2)) (l₂ := ([(xOut cJ o0 q)] : va_W)))
    rcases xc2_i hpx.1 with ⟨hk0, hE⟩ | ⟨hk0, hE⟩
    · subst hk0
      subst hE
      refine g_c1 hown htab  (by decide) (by decide) (hts (.classLink RL 19 xIOB) (by decide +kernel)) (xcl_IOB hX) h7 h8 h9 ?_
      refine lv_astore (lv' := [(5, .ref q9), (0, .ref x0), (1, .int b1), (2, .int b2), (3, .int b3), (4, .ref o0)]) hx hb dL_ahead_15 hl (by decide) rfl (fun ls hl => ?_)
      refine n_iconst hx hb dL_ahead_17 ?_
      exact n_iret (κ2, q) hx hb hr hlocks dL_ahead_18 hP hD hS ⟨rfl, hpx.2, fun h => absurd h (by decide)⟩
    · subst hk0
      subst hE
      refine g_c2 hown htab (by decide) (hts (.classLink RL 19 xIOB) (by decide +kernel)) hN.1 (by decide) (by decide) (hts (.classLink RL 21 xIAE) (by decide +kernel)) (xcl_IAE hX) h7 h8 h9 ?_
      refine lv_astore (lv' := [(5, .ref q9), (0, .ref x0), (1, .int b1), (2, .int b2), (3, .int b3), (4, .ref o0)]) hx hb dL_ahead_19 hl (by decide) rfl (fun ls hl => ?_)
      refine n_iconst hx hb dL_ahead_21 ?_
      exact n_iret (κ2, q) hx hb hr hlocks dL_ahead_22 hP hD hS ⟨rfl, hpx.2, fun h => absurd h (by decide)⟩
  · obtain ⟨hk0, hrv, hI2⟩ := hpost
    obtain ⟨z, hz, rz⟩ := i32_j r
    subst hz
    have hP : va_P D vwCl ((CW cI cE cG cM cS x0 q0 q1 qr g2 κ2) ++ [(xOut cJ o0 q)]) H := hP
    have hD : va_D A ((CW cI cE cG cM cS x0 q0 q1 qr g2 κ2) ++ [(xOut cJ o0 q)]) := hD
    have hP : va_P D vwCl ((xOut cJ o0 q) :: (CW cI cE cG cM cS x0 q0 q1 qr g2 κ2)) H := hP.perm (List.perm_append_comm (l₁ := (CW cI cE cG cM cS x0 q0 q1 qr g2 κ2)) (l₂ := ([(xOut cJ o0 q)] : va_W)))
    have hD : va_D A ((xOut cJ o0 q) :: (CW cI cE cG cM cS x0 q0 q1 qr g2 κ2)) := hD.perm (List.perm_append_comm (l₁ := (CW cI cE cG cM cS x0 q0 q1 qr g2 κ2)) (l₂ := ([(xOut cJ o0 q)] : va_W)))
    refine n_i2l hx hb dL_ahead_10 rz.1 rz.2 ?_
    refine n_last (i := 0) hx hb hK hP hD hS 0 1 rfl htJ rfl (Nat.le_of_ble_eq_true rfl) (Nat.le_of_ble_eq_true rfl) dL_ahead_11 (fun H locs hP hD hS => ?_)
    have hP : va_P D vwCl ((xOut cJ o0 (va_up q 0 z)) :: (CW cI cE cG cM cS x0 q0 q1 qr g2 κ2)) H := hP
    have hD : va_D A ((xOut cJ o0 (va_up q 0 z)) :: (CW cI cE cG cM cS x0 q0 q1 qr g2 κ2)) := hD
    refine lv_goto (tgt := 23) hx hb dL_ahead_12 (by decide) ?_
    refine n_iconst hx hb dL_ahead_23 ?_
    exact n_iret (κ2, va_up q 0 z) hx hb hr hlocks dL_ahead_24 hP hD hS ⟨by rw [hk0]; rfl, hI2, fun _ => by show jI (va_up q 0 z 0) = v ∧ r32 (va_up q 0 z 0); rw [up_s]; exact ⟨hrv, rz⟩⟩

set_option maxHeartbeats 8000000 in
set_option maxRecDepth 100000 in
/--  -/
theorem w_aheadAnew (l : Launch) (D : va_G) (tys : List (ClassId × FieldType)) {cI cJ cE cG cM cS : ClassId} (htJ : tys[1]? = some (cJ, .long)) (x0 q0 q1 : Nat) (qr : Nat → Nat) (ms es : Nat) (gE gM gB : Nat → Zp) (gT : Nat → Nat) (gG : Nat → Zp) (gN : Nat → Nat) (gK : Nat → Zp) (gD : Nat → Bool) (κ : Nat → EG) (b1 b2 b3 : Int32) (g2 : SG) (k : Nat) (v : Int32) (hC : CDo l D tys cI cE cG cM cS x0 q0 q1 qr xc2 yX6_aheadAnew wsX6_aheadAnew [.int b1, .int b2, .int b3] (ms, es, gE, gM, gB, gT, gG, gN, gK, gD) κ g2 k v) (o0 : Nat) (q : Nat → Int) : CtW (S := (Nat → EG) × (Nat → Int)) l D tys yL_aheadAnew wsL_aheadAnew 10 200 228 867 [.ref x0, .int b1, .int b2, .int b3, .ref o0] (fun (r : Int32) (u : (Nat → EG) × (Nat → Int)) => r = jI ((k : Nat) : Int) ∧ INV g2 u.1 ∧ (k = 0 → jI (u.2 0) = v ∧ r32 (u.2 0))) (xOut cJ o0 q :: (CW cI cE cG cM cS x0 q0 q1 qr (ms, es, gE, gM, gB, gT, gG, gN, gK, gD) κ)) (fun u => xOut cJ o0 u.2 :: (CW cI cE cG cM cS x0 q0 q1 qr g2 u.1)) := by
  refine CtW.of (cc := cL_aheadAnew) (maxL := 6) (hh := [(0, 12, 15, 19), (0, 12, 19, 21)]) (by decide +kernel) rfl (Nat.le_of_ble_eq_true rfl) ?_
  intro p e s m below meth c A ls hcx htab hK hX hZ hN hP hD hA hl
  obtain ⟨hx, hb, hr, hml, hown, hts, hlocks⟩ := hcx
  have hS : va_S A s.heap s.heap [] := va_S.rf
  have hown : s.vm.findClass RL = some m.cls := hown
  have hl : lv_has ls 6 [(0, .ref x0), (1, .int b1), (2, .int b2), (3, .int b3), (4, .ref o0)] := hl
  refine lv_aload hx hb dL_aheadAnew_0 (lv_at hl 4 rfl) ?_
  refine n_iconst hx hb dL_aheadAnew_2 ?_
  refine lv_aload_n hx hb dL_aheadAnew_3 rfl (lv_at hl 0 rfl) ?_
  refine lv_iload_n hx hb dL_aheadAnew_4 rfl (lv_at hl 1 rfl) ?_
  refine lv_iload_n hx hb dL_aheadAnew_5 rfl (lv_at hl 2 rfl) ?_
  refine lv_iload_n hx hb dL_aheadAnew_6 rfl (lv_at hl 3 rfl) ?_
  have hP : va_P D vwCl ((CW cI cE cG cM cS x0 q0 q1 qr (ms, es, gE, gM, gB, gT, gG, gN, gK, gD) κ) ++ [(xOut cJ o0 q)]) s.heap := hP.perm (List.perm_append_comm (l₁ := ([(xOut cJ o0 q)] : va_W)) (l₂ := (CW cI cE cG cM cS x0 q0 q1 qr (ms, es, gE, gM, gB, gT, gG, gN, gK, gD) κ)))
  have hD : va_D A ((CW cI cE cG cM cS x0 q0 q1 qr (ms, es, gE, gM, gB, gT, gG, gN, gK, gD) κ) ++ [(xOut cJ o0 q)]) := hD.perm (List.perm_append_comm (l₁ := ([(xOut cJ o0 q)] : va_W)) (l₂ := (CW cI cE cG cM cS x0 q0 q1 qr (ms, es, gE, gM, gB, gT, gG, gN, gK, gD) κ)))
  refine b_goI (vx_runV (As := [.int b1, .int b2, .int b3]) (rest := [.int (jI 0), .ref o0]) ⟨hx, hb, hml, hown, hts⟩ (hC _) (cwV 3 hts gL_aheadAnew_X6_aheadAnew rfl rfl rfl (by decide +kernel) ⟨(Nat.le_of_ble_eq_true rfl), (Nat.le_of_ble_eq_true rfl)⟩) ⟨(b_pre hK hX hZ hP hD hS hA).1, va_recv hK.1 hP (ci := 6) (q0 := 0) rfl rfl, (b_pre hK hX hZ hP hD hS hA).2⟩ rfl rfl hl.1 rfl (lv_room (Nat.le_of_ble_eq_true rfl)) dL_aheadAnew_7 ⟨(Nat.le_of_ble_eq_true rfl), (Nat.le_of_ble_eq_true rfl)⟩) hP hD hS hA (fun E ce q9 κ2 H locs hpx hP hD hS h7 h8 h9 => ?_) (fun r κ2 H locs hpost hP hD hS => ?_)
  · have hP : va_P D vwCl ((xOut cJ o0 q) :: (CW cI cE cG cM cS x0 q0 q1 qr g2 κ2)) H := hP.perm (List.perm_append_comm (l₁ := (CW cI cE cG cM cS x0 q0 q1 qr g2 κ2)) (l₂ := ([(xOut cJ o0 q)] : va_W)))
    have hD : va_D A ((xOut cJ o0 q) :: (CW cI cE cG cM cS x0 q0 q1 qr g2 κ2)) := hD.perm (List.perm_append_comm (l₁ := (CW cI cE cG cM cS x0 q0 q1 qr g2 κ2)) (l₂ := ([(xOut cJ o0 q)] : va_W)))
    rcases xc2_i hpx.1 with ⟨hk0, hE⟩ | ⟨hk0, hE⟩
    · subst hk0
      subst hE
      refine g_c1 hown htab  (by decide) (by decide) (hts (.classLink RL 19 xIOB) (by decide +kernel)) (xcl_IOB hX) h7 h8 h9 ?_
      refine lv_astore (lv' := [(5, .ref q9), (0, .ref x0), (1, .int b1), (2, .int b2), (3, .int b3), (4, .ref o0)]) hx hb dL_aheadAnew_15 hl (by decide) rfl (fun ls hl => ?_)
      refine n_iconst hx hb dL_aheadAnew_17 ?_
      exact n_iret (κ2, q) hx hb hr hlocks dL_aheadAnew_18 hP hD hS ⟨rfl, hpx.2, fun h => absurd h (by decide)⟩
    · subst hk0
      subst hE
      refine g_c2 hown htab (by decide) (hts (.classLink RL 19 xIOB) (by decide +kernel)) hN.1 (by decide) (by decide) (hts (.classLink RL 21 xIAE) (by decide +kernel)) (xcl_IAE hX) h7 h8 h9 ?_
      refine lv_astore (lv' := [(5, .ref q9), (0, .ref x0), (1, .int b1), (2, .int b2), (3, .int b3), (4, .ref o0)]) hx hb dL_aheadAnew_19 hl (by decide) rfl (fun ls hl => ?_)
      refine n_iconst hx hb dL_aheadAnew_21 ?_
      exact n_iret (κ2, q) hx hb hr hlocks dL_aheadAnew_22 hP hD hS ⟨rfl, hpx.2, fun h => absurd h (by decide)⟩
  · obtain ⟨hk0, hrv, hI2⟩ := hpost
    obtain ⟨z, hz, rz⟩ := i32_j r
    subst hz
    have hP : va_P D vwCl ((CW cI cE cG cM cS x0 q0 q1 qr g2 κ2) ++ [(xOut cJ o0 q)]) H := hP
    have hD : va_D A ((CW cI cE cG cM cS x0 q0 q1 qr g2 κ2) ++ [(xOut cJ o0 q)]) := hD
    have hP : va_P D vwCl ((xOut cJ o0 q) :: (CW cI cE cG cM cS x0 q0 q1 qr g2 κ2)) H := hP.perm (List.perm_append_comm (l₁ := (CW cI cE cG cM cS x0 q0 q1 qr g2 κ2)) (l₂ := ([(xOut cJ o0 q)] : va_W)))
    have hD : va_D A ((xOut cJ o0 q) :: (CW cI cE cG cM cS x0 q0 q1 qr g2 κ2)) := hD.perm (List.perm_append_comm (l₁ := (CW cI cE cG cM cS x0 q0 q1 qr g2 κ2)) (l₂ := ([(xOut cJ o0 q)] : va_W)))
    refine n_i2l hx hb dL_aheadAnew_10 rz.1 rz.2 ?_
    refine n_last (i := 0) hx hb hK hP hD hS 0 1 rfl htJ rfl (Nat.le_of_ble_eq_true rfl) (Nat.le_of_ble_eq_true rfl) dL_aheadAnew_11 (fun H locs hP hD hS => ?_)
    have hP : va_P D vwCl ((xOut cJ o0 (va_up q 0 z)) :: (CW cI cE cG cM cS x0 q0 q1 qr g2 κ2)) H := hP
    have hD : va_D A ((xOut cJ o0 (va_up q 0 z)) :: (CW cI cE cG cM cS x0 q0 q1 qr g2 κ2)) := hD
    refine lv_goto (tgt := 23) hx hb dL_aheadAnew_12 (by decide) ?_
    refine n_iconst hx hb dL_aheadAnew_23 ?_
    exact n_iret (κ2, va_up q 0 z) hx hb hr hlocks dL_aheadAnew_24 hP hD hS ⟨by rw [hk0]; rfl, hI2, fun _ => by show jI (va_up q 0 z 0) = v ∧ r32 (va_up q 0 z 0); rw [up_s]; exact ⟨hrv, rz⟩⟩
