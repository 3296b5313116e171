/-! the law's own methods -/
set_option maxHeartbeats 8000000 in
set_option maxRecDepth 100000 in
/--  -/
theorem w_model (l : Launch) (D : va_G) (tys : List (ClassId × FieldType)) {cI cJ cE cG cM cS : ClassId} (htJ : tys[1]? = some (cJ, .long)) (x0 q0 q1 : Nat) (qr : Nat → Nat) (ms es : Nat) (gE gM gB : Nat → Zp) (gT : Nat → Nat) (gG : Nat → Zp) (gN : Nat → Nat) (gK : Nat → Zp) (gD : Nat → Bool) (κ : Nat → EG) (g2 : SG) (k : Nat) (v : Int32) (hC : CDo l D tys cI cE cG cM cS x0 q0 q1 qr xcm yX6_model wsX6_model [] (ms, es, gE, gM, gB, gT, gG, gN, gK, gD) κ g2 k v) (o0 : Nat) (q : Nat → Int) : CtW (S := (Nat → EG) × (Nat → Int)) l D tys yL_model wsL_model 10 200 228 867 [.ref x0, .ref o0] (fun (r : Int32) (u : (Nat → EG) × (Nat → Int)) => r = jI ((k : Nat) : Int) ∧ INV g2 u.1 ∧ (k = 0 → jI (u.2 0) = v ∧ r32 (u.2 0))) (xOut cJ o0 q :: (CW cI cE cG cM cS x0 q0 q1 qr (ms, es, gE, gM, gB, gT, gG, gN, gK, gD) κ)) (fun u => xOut cJ o0 u.2 :: (CW cI cE cG cM cS x0 q0 q1 qr g2 u.1)) := by
  refine CtW.of (cc := cL_model) (maxL := 3) (hh := [(0, 8, 11, 13)]) (by decide +kernel) rfl (Nat.le_of_ble_eq_true rfl) ?_
  intro p e s m below meth c A ls hcx htab hK hX hZ hN hP hD hA hl
  obtain ⟨hx, hb, hr, hml, hown, hts, hlocks⟩ := hcx
  have hS : va_S A s.heap s.heap [] := va_S.rf
  have hown : s.vm.findClass RL = some m.cls := hown
  have hl : lv_has ls 3 [(0, .ref x0), (1, .ref o0)] := hl
  refine lv_aload_n hx hb dL_model_0 rfl (lv_at hl 1 rfl) ?_
  refine n_iconst hx hb dL_model_1 ?_
  refine lv_aload_n hx hb dL_model_2 rfl (lv_at hl 0 rfl) ?_
  have hP : va_P D vwCl ((CW cI cE cG cM cS x0 q0 q1 qr (ms, es, gE, gM, gB, gT, gG, gN, gK, gD) κ) ++ [(xOut cJ o0 q)]) s.heap := hP.perm (List.perm_append_comm (l₁ := ([(xOut cJ o0 q)] : va_W)) (l₂ := (CW cI cE cG cM cS x0 q0 q1 qr (ms, es, gE, gM, gB, gT, gG, gN, gK, gD) κ)))
  have hD : va_D A ((CW cI cE cG cM cS x0 q0 q1 qr (ms, es, gE, gM, gB, gT, gG, gN, gK, gD) κ) ++ [(xOut cJ o0 q)]) := hD.perm (List.perm_append_comm (l₁ := ([(xOut cJ o0 q)] : va_W)) (l₂ := (CW cI cE cG cM cS x0 q0 q1 qr (ms, es, gE, gM, gB, gT, gG, gN, gK, gD) κ)))
  refine b_goI (vx_runV (As := []) (rest := [.int (jI 0), .ref o0]) ⟨hx, hb, hml, hown, hts⟩ (hC _) (cwV 0 hts gL_model_X6_model rfl rfl rfl (by decide +kernel) ⟨(Nat.le_of_ble_eq_true rfl), (Nat.le_of_ble_eq_true rfl)⟩) ⟨(b_pre hK hX hZ hP hD hS hA).1, va_recv hK.1 hP (ci := 6) (q0 := 0) rfl rfl, (b_pre hK hX hZ hP hD hS hA).2⟩ rfl rfl hl.1 rfl (lv_room (Nat.le_of_ble_eq_true rfl)) dL_model_3 ⟨(Nat.le_of_ble_eq_true rfl), (Nat.le_of_ble_eq_true rfl)⟩) hP hD hS hA (fun E ce q9 κ2 H locs hpx hP hD hS h7 h8 h9 => ?_) (fun r κ2 H locs hpost hP hD hS => ?_)
  · have hP : va_P D vwCl ((xOut cJ o0 q) :: (CW cI cE cG cM cS x0 q0 q1 qr g2 κ2)) H := hP.perm (List.perm_append_comm (l₁ := (CW cI cE cG cM cS x0 q0 q1 qr g2 κ2)) (l₂ := ([(xOut cJ o0 q)] : va_W)))
    have hD : va_D A ((xOut cJ o0 q) :: (CW cI cE cG cM cS x0 q0 q1 qr g2 κ2)) := hD.perm (List.perm_append_comm (l₁ := (CW cI cE cG cM cS x0 q0 q1 qr g2 κ2)) (l₂ := ([(xOut cJ o0 q)] : va_W)))
    rcases xcm_i hpx.1 with ⟨hk0, hE⟩
    · subst hk0
      subst hE
      refine g_c1 hown htab  (by decide) (by decide) (hts (.classLink RL 13 xISE) (by decide +kernel)) (xcl_ISE hX) h7 h8 h9 ?_
      refine lv_astore_n (lv' := [(2, .ref q9), (0, .ref x0), (1, .ref o0)]) hx hb dL_model_11 rfl hl (by decide) rfl (fun ls hl => ?_)
      refine n_iconst hx hb dL_model_12 ?_
      exact n_iret (κ2, q) hx hb hr hlocks dL_model_13 hP hD hS ⟨rfl, hpx.2, fun h => absurd h (by decide)⟩
  · obtain ⟨hk0, hrv, hI2⟩ := hpost
    obtain ⟨z, hz, rz⟩ := i32_j r
    subst hz
    have hP : va_P D vwCl ((CW cI cE cG cM cS x0 q0 q1 qr g2 κ2) ++ [(xOut cJ o0 q)]) H := hP
    have hD : va_D A ((CW cI cE cG cM cS x0 q0 q1 qr g2 κ2) ++ [(xOut cJ o0 q)]) := hD
    have hP : va_P D vwCl ((xOut cJ o0 q) :: (CW cI cE cG cM cS x0 q0 q1 qr g2 κ2)) H := hP.perm (List.perm_append_comm (l₁ := (CW cI cE cG cM cS x0 q0 q1 qr g2 κ2)) (l₂ := ([(xOut cJ o0 q)] : va_W)))
    have hD : va_D A ((xOut cJ o0 q) :: (CW cI cE cG cM cS x0 q0 q1 qr g2 κ2)) := hD.perm (List.perm_append_comm (l₁ := (CW cI cE cG cM cS x0 q0 q1 qr g2 κ2)) (l₂ := ([(xOut cJ o0 q)] : va_W)))
    refine n_i2l hx hb dL_model_6 rz.1 rz.2 ?_
    refine n_last (i := 0) hx hb hK hP hD hS 0 1 rfl htJ rfl (Nat.le_of_ble_eq_true rfl) (Nat.le_of_ble_eq_true rfl) dL_model_7 (fun H locs hP hD hS => ?_)
    have hP : va_P D vwCl ((xOut cJ o0 (va_up q 0 z)) :: (CW cI cE cG cM cS x0 q0 q1 qr g2 κ2)) H := hP
    have hD : va_D A ((xOut cJ o0 (va_up q 0 z)) :: (CW cI cE cG cM cS x0 q0 q1 qr g2 κ2)) := hD
    refine lv_goto (tgt := 14) hx hb dL_model_8 (by decide) ?_
    refine n_iconst hx hb dL_model_14 ?_
    exact n_iret (κ2, va_up q 0 z) hx hb hr hlocks dL_model_15 hP hD hS ⟨by rw [hk0]; rfl, hI2, fun _ => by show jI (va_up q 0 z 0) = v ∧ r32 (va_up q 0 z 0); rw [up_s]; exact ⟨hrv, rz⟩⟩

set_option maxHeartbeats 8000000 in
set_option maxRecDepth 100000 in
/--  -/
theorem w_entry (l : Launch) (D : va_G) (tys : List (ClassId × FieldType)) {cI cJ cE cG cM cS : ClassId} (htJ : tys[1]? = some (cJ, .long)) (x0 q0 q1 : Nat) (qr : Nat → Nat) (ms es : Nat) (gE gM gB : Nat → Zp) (gT : Nat → Nat) (gG : Nat → Zp) (gN : Nat → Nat) (gK : Nat → Zp) (gD : Nat → Bool) (κ : Nat → EG) (b1 b2 b3 : Int32) (g2 : SG) (k : Nat) (v : Int32) (hC : CDo l D tys cI cE cG cM cS x0 q0 q1 qr xc2 yX6_entry wsX6_entry [.int b1, .int b2, .int b3] (ms, es, gE, gM, gB, gT, gG, gN, gK, gD) κ g2 k v) (o0 : Nat) (q : Nat → Int) : CtW (S := (Nat → EG) × (Nat → Int)) l D tys yL_entry wsL_entry 10 200 228 867 [.ref x0, .int b1, .int b2, .int b3, .ref o0] (fun (r : Int32) (u : (Nat → EG) × (Nat → Int)) => r = jI ((k : Nat) : Int) ∧ INV g2 u.1 ∧ (k = 0 → jI (u.2 0) = v ∧ r32 (u.2 0))) (xOut cJ o0 q :: (CW cI cE cG cM cS x0 q0 q1 qr (ms, es, gE, gM, gB, gT, gG, gN, gK, gD) κ)) (fun u => xOut cJ o0 u.2 :: (CW cI cE cG cM cS x0 q0 q1 qr g2 u.1)) := by
  refine CtW.of (cc := cL_entry) (maxL := 6) (hh := [(0, 12, 15, 19), (0, 12, 19, 21)]) (by decide +kernel) rfl (Nat.le_of_ble_eq_true rfl) ?_
  intro p e s m below meth c A ls hcx htab hK hX hZ hN hP hD hA hl
  obtain ⟨hx, hb, hr, hml, hown, hts, hlocks⟩ := hcx
  have hS : va_S A s.heap s.heap [] := va_S.rf
  have hown : s.vm.findClass RL = some m.cls := hown
  have hl : lv_has ls 6 [(0, .ref x0), (1, .int b1), (2, .int b2), (3, .int b3), (4, .ref o0)] := hl
  refine lv_aload hx hb dL_entry_0 (lv_at hl 4 rfl) ?_
  refine n_iconst hx hb dL_entry_2 ?_
  refine lv_aload_n hx hb dL_entry_3 rfl (lv_at hl 0 rfl) ?_
  refine lv_iload_n hx hb dL_entry_4 rfl (lv_at hl 1 rfl) ?_
  refine lv_iload_n hx hb dL_entry_5 rfl (lv_at hl 2 rfl) ?_
  refine lv_iload_n hx hb dL_entry_6 rfl (lv_at hl 3 rfl) ?_
  have hP : va_P D vwCl ((CW cI cE cG cM cS x0 q0 q1 qr (ms, es, gE, gM, gB, gT, gG, gN, gK, gD) κ) ++ [(xOut cJ o0 q)]) s.heap := hP.perm (List.perm_append_comm (l₁ := ([(xOut cJ o0 q)] : va_W)) (l₂ := (CW cI cE cG cM cS x0 q0 q1 qr (ms, es, gE, gM, gB, gT, gG, gN, gK, gD) κ)))
  have hD : va_D A ((CW cI cE cG cM cS x0 q0 q1 qr (ms, es, gE, gM, gB, gT, gG, gN, gK, gD) κ) ++ [(xOut cJ o0 q)]) := hD.perm (List.perm_append_comm (l₁ := ([(xOut cJ o0 q)] : va_W)) (l₂ := (CW cI cE cG cM cS x0 q0 q1 qr (ms, es, gE, gM, gB, gT, gG, gN, gK, gD) κ)))
  refine b_goI (vx_runV (As := [.int b1, .int b2, .int b3]) (rest := [.int (jI 0), .ref o0]) ⟨hx, hb, hml, hown, hts⟩ (hC _) (cwV 3 hts gL_entry_X6_entry rfl rfl rfl (by decide +kernel) ⟨(Nat.le_of_ble_eq_true rfl), (Nat.le_of_ble_eq_true rfl)⟩) ⟨(b_pre hK hX hZ hP hD hS hA).1, va_recv hK.1 hP (ci := 6) (q0 := 0) rfl rfl, (b_pre hK hX hZ hP hD hS hA).2⟩ rfl rfl hl.1 rfl (lv_room (Nat.le_of_ble_eq_true rfl)) dL_entry_7 ⟨(Nat.le_of_ble_eq_true rfl), (Nat.le_of_ble_eq_true rfl)⟩) hP hD hS hA (fun E ce q9 κ2 H locs hpx hP hD hS h7 h8 h9 => ?_) (fun r κ2 H locs hpost hP hD hS => ?_)
  · have hP : va_P D vwCl ((xOut cJ o0 q) :: (CW cI cE cG cM cS x0 q0 q1 qr g2 κ2)) H := hP.perm (List.perm_append_comm (l₁ := (CW cI cE cG cM cS x0 q0 q1 qr g2 κ2)) (l₂ := ([(xOut cJ o0 q)] : va_W)))
    have hD : va_D A ((xOut cJ o0 q) :: (CW cI cE cG cM cS x0 q0 q1 qr g2 κ2)) := hD.perm (List.perm_append_comm (l₁ := (CW cI cE cG cM cS x0 q0 q1 qr g2 κ2)) (l₂ := ([(xOut cJ o0 q)] : va_W)))
    rcases xc2_i hpx.1 with ⟨hk0, hE⟩ | ⟨hk0, hE⟩
    · subst hk0
      subst hE
      refine g_c1 hown htab  (by decide) (by decide) (hts (.classLink RL 19 xIOB) (by decide +kernel)) (xcl_IOB hX) h7 h8 h9 ?_
      refine lv_astore (lv' := [(5, .ref q9), (0, .ref x0), (1, .int b1), (2, .int b2), (3, .int b3), (4, .ref o0)]) hx hb dL_entry_15 hl (by decide) rfl (fun ls hl => ?_)
      refine n_iconst hx hb dL_entry_17 ?_
      exact n_iret (κ2, q) hx hb hr hlocks dL_entry_18 hP hD hS ⟨rfl, hpx.2, fun h => absurd h (by decide)⟩
    · subst hk0
      subst hE
      refine g_c2 hown htab (by decide) (hts (.classLink RL 19 xIOB) (by decide +kernel)) hN.1 (by decide) (by decide) (hts (.classLink RL 21 xIAE) (by decide +kernel)) (xcl_IAE hX) h7 h8 h9 ?_
      refine lv_astore (lv' := [(5, .ref q9), (0, .ref x0), (1, .int b1), (2, .int b2), (3, .int b3), (4, .ref o0)]) hx hb dL_entry_19 hl (by decide) rfl (fun ls hl => ?_)
      refine n_iconst hx hb dL_entry_21 ?_
      exact n_iret (κ2, q) hx hb hr hlocks dL_entry_22 hP hD hS ⟨rfl, hpx.2, fun h => absurd h (by decide)⟩
  · obtain ⟨hk0, hrv, hI2⟩ := hpost
    obtain ⟨z, hz, rz⟩ := i32_j r
    subst hz
    have hP : va_P D vwCl ((CW cI cE cG cM cS x0 q0 q1 qr g2 κ2) ++ [(xOut cJ o0 q)]) H := hP
    have hD : va_D A ((CW cI cE cG cM cS x0 q0 q1 qr g2 κ2) ++ [(xOut cJ o0 q)]) := hD
    have hP : va_P D vwCl ((xOut cJ o0 q) :: (CW cI cE cG cM cS x0 q0 q1 qr g2 κ2)) H := hP.perm (List.perm_append_comm (l₁ := (CW cI cE cG cM cS x0 q0 q1 qr g2 κ2)) (l₂ := ([(xOut cJ o0 q)] : va_W)))
    have hD : va_D A ((xOut cJ o0 q) :: (CW cI cE cG cM cS x0 q0 q1 qr g2 κ2)) := hD.perm (List.perm_append_comm (l₁ := (CW cI cE cG cM cS x0 q0 q1 qr g2 κ2)) (l₂ := ([(xOut cJ o0 q)] : va_W)))
    refine n_i2l hx hb dL_entry_10 rz.1 rz.2 ?_
    refine n_last (i := 0) hx hb hK hP hD hS 0 1 rfl htJ rfl (Nat.le_of_ble_eq_true rfl) (Nat.le_of_ble_eq_true rfl) dL_entry_11 (fun H locs hP hD hS => ?_)
    have hP : va_P D vwCl ((xOut cJ o0 (va_up q 0 z)) :: (CW cI cE cG cM cS x0 q0 q1 qr g2 κ2)) H := hP
    have hD : va_D A ((xOut cJ o0 (va_up q 0 z)) :: (CW cI cE cG cM cS x0 q0 q1 qr g2 κ2)) := hD
    refine lv_goto (tgt := 23) hx hb dL_entry_12 (by decide) ?_
    refine n_iconst hx hb dL_entry_23 ?_
    exact n_iret (κ2, va_up q 0 z) hx hb hr hlocks dL_entry_24 hP hD hS ⟨by rw [hk0]; rfl, hI2, fun _ => by show jI (va_up q 0 z 0) = v ∧ r32 (va_up q 0 z 0); rw [up_s]; exact ⟨hrv, rz⟩⟩

set_option maxHeartbeats 8000000 in
set_option maxRecDepth 100000 in
/--  -/
theorem w_drop (l : Launch) (D : va_G) (tys : List (ClassId × FieldType)) {cI cJ cE cG cM cS : ClassId} (htJ : tys[1]? = some (cJ, .long)) (x0 q0 q1 : Nat) (qr : Nat → Nat) (ms es : Nat) (gE gM gB : Nat → Zp) (gT : Nat → Nat) (gG : Nat → Zp) (gN : Nat → Nat) (gK : Nat → Zp) (gD : Nat → Bool) (κ : Nat → EG) (b1 b2 : Int32) (g2 : SG) (k : Nat) (hC : CDv l D tys cI cE cG cM cS x0 q0 q1 qr xcp yX6_drop wsX6_drop [.int b1, .int b2] (ms, es, gE, gM, gB, gT, gG, gN, gK, gD) κ g2 k) : CtW (S := Nat → EG) l D tys yL_drop wsL_drop 10 200 228 867 [.ref x0, .int b1, .int b2] (fun (r : Int32) (u : Nat → EG) => r = jI ((k : Nat) : Int) ∧ INV g2 u) (CW cI cE cG cM cS x0 q0 q1 qr (ms, es, gE, gM, gB, gT, gG, gN, gK, gD) κ) (fun u => (CW cI cE cG cM cS x0 q0 q1 qr g2 u)) := by
  refine CtW.of (cc := cL_drop) (maxL := 4) (hh := [(0, 6, 9, 19), (0, 6, 12, 13)]) (by decide +kernel) rfl (Nat.le_of_ble_eq_true rfl) ?_
  intro p e s m below meth c A ls hcx htab hK hX hZ hN hP hD hA hl
  obtain ⟨hx, hb, hr, hml, hown, hts, hlocks⟩ := hcx
  have hS : va_S A s.heap s.heap [] := va_S.rf
  have hown : s.vm.findClass RL = some m.cls := hown
  have hl : lv_has ls 4 [(0, .ref x0), (1, .int b1), (2, .int b2)] := hl
  refine lv_aload_n hx hb dL_drop_0 rfl (lv_at hl 0 rfl) ?_
  refine lv_iload_n hx hb dL_drop_1 rfl (lv_at hl 1 rfl) ?_
  refine lv_iload_n hx hb dL_drop_2 rfl (lv_at hl 2 rfl) ?_
  rw [← List.append_nil (CW cI cE cG cM cS x0 q0 q1 qr (ms, es, gE, gM, gB, gT, gG, gN, gK, gD) κ)] at hP hD
  refine b_goV (vx_runV (As := [.int b1, .int b2]) (rest := []) ⟨hx, hb, hml, hown, hts⟩ (hC _) (cwV 2 hts gL_drop_X6_drop rfl rfl rfl (by decide +kernel) ⟨(Nat.le_of_ble_eq_true rfl), (Nat.le_of_ble_eq_true rfl)⟩) ⟨(b_pre hK hX hZ hP hD hS hA).1, va_recv hK.1 hP (ci := 6) (q0 := 0) rfl rfl, (b_pre hK hX hZ hP hD hS hA).2⟩ rfl rfl hl.1 rfl (lv_room (Nat.le_of_ble_eq_true rfl)) dL_drop_3 ⟨(Nat.le_of_ble_eq_true rfl), (Nat.le_of_ble_eq_true rfl)⟩) hP hD hS hA (fun E ce q9 κ2 H locs hpx hP hD hS h7 h8 h9 => ?_) (fun κ2 H locs hpost hP hD hS => ?_)
  · rw [List.append_nil] at hP hD
    rcases xcp_i hpx.1 with ⟨hk0, hE⟩ | ⟨hk0, hE⟩
    · subst hk0
      subst hE
      refine g_c1 hown htab  (by decide) (by decide) (hts (.classLink RL 19 xIOB) (by decide +kernel)) (xcl_IOB hX) h7 h8 h9 ?_
      refine lv_astore_n (lv' := [(3, .ref q9), (0, .ref x0), (1, .int b1), (2, .int b2)]) hx hb dL_drop_9 rfl hl (by decide) rfl (fun ls hl => ?_)
      refine n_iconst hx hb dL_drop_10 ?_
      exact n_iret κ2 hx hb hr hlocks dL_drop_11 hP hD hS ⟨rfl, hpx.2⟩
    · subst hk0
      subst hE
      refine g_c2 hown htab (by decide) (hts (.classLink RL 19 xIOB) (by decide +kernel)) hN.2.1 (by decide) (by decide) (hts (.classLink RL 13 xISE) (by decide +kernel)) (xcl_ISE hX) h7 h8 h9 ?_
      refine lv_astore_n (lv' := [(3, .ref q9), (0, .ref x0), (1, .int b1), (2, .int b2)]) hx hb dL_drop_12 rfl hl (by decide) rfl (fun ls hl => ?_)
      refine n_iconst hx hb dL_drop_13 ?_
      exact n_iret κ2 hx hb hr hlocks dL_drop_14 hP hD hS ⟨rfl, hpx.2⟩
  · obtain ⟨hk0, hI2⟩ := hpost
    have hP : va_P D vwCl ((CW cI cE cG cM cS x0 q0 q1 qr g2 κ2) ++ []) H := hP
    have hD : va_D A ((CW cI cE cG cM cS x0 q0 q1 qr g2 κ2) ++ []) := hD
    rw [List.append_nil] at hP hD
    refine lv_goto (tgt := 15) hx hb dL_drop_6 (by decide) ?_
    refine n_iconst hx hb dL_drop_15 ?_
    exact n_iret κ2 hx hb hr hlocks dL_drop_16 hP hD hS ⟨by rw [hk0]; rfl, hI2⟩
