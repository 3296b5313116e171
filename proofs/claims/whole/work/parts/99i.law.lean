/-! the law's own methods -/
set_option maxHeartbeats 8000000 in
set_option maxRecDepth 100000 in
/--  -/
theorem w_model (l : Launch) (D : va_G) (tys : List (ClassId × FieldType)) {cI cJ cE cG cM cS : ClassId} (htJ : tys[1]? = some (cJ, .long)) (x0 q0 q1 : Nat) (qr : Nat → Nat) (ms es : Nat) (gE gM gB : Nat → Zp) (gT : Nat → Nat) (gG : Nat → Zp) (gN : Nat → Nat) (gK : Nat → Zp) (gD : Nat → Bool) (κ : Nat → EG) (g2 : SG) (k : Nat) (v : Int32) (hC : CDo l D tys cI cE cG cM cS x0 q0 q1 qr xcm yX6_model wsX6_model [] (ms, es, gE, gM, gB, gT, gG, gN, gK, gD) κ g2 k v) (o0 : Nat) (q : Nat → Int) : CtW (S := (Nat → EG) × (Nat → Int)) l D tys yL_model wsL_model 10 200 228 867 [.ref x0, .ref o0] (fun (r : Int32) (u : (Nat → EG) × (Nat → Int)) => r = jI ((k : Nat) : Int) ∧ INV g2 u.1 ∧ (k = 0 → jI (u.2 0) = v ∧ r32 (u.2 0))) (xOut cJ o0 q :: (CW cI cE cG cM cS x0 q0 q1 qr (ms, es, gE, gM, gB, gT, gG, gN, gK, gD) κ)) (fun u => xOut cJ o0 u.2 :: (CW cI cE cG cM cS x0 q0 q1 qr g2 u.1)) := by
  refine CtW.of (cc := cL_model) (maxL := 3) (hh := [(0, 8, 11, 13)]) (by decide +kernel) rfl (Nat.le_of_ble_eq_true rfl) ?_
  intro p e s m below meth c A ls hcx htab hK hX hZ hN hP hD hA hl
  obtain ⟨hx, hb, hr, hml, hown, hts, hlocks⟩ := hcx
  have hS : va_S A s.heap s.heap [] := va_S.rf
  have hown : s.vm.findClass RL = some m.cls := hown
  have hl : lv_has ls 3 [(0, .ref x0), (1, .ref o0)] := hl
  refine lv_aload_n hx hb dL_model_0 rfl (lv_at hl 1 rfl) ?_
  refine n_iconst hx hb dL_model_1 ?_
  refine lv_aload_n hx hb dL_model_2 rfl (lv_at hl 0 rfl) ?_
  have hP : va_P D vwCl ((CW cI cE cG cM cS x0 q0 q1 qr (ms, es, gE, gM, gB, gT, gG, gN, gK, gD) κ) ++ [(o0, .inl (cJ, 1, .inr (.inl (fun i => jL (q i)))))]) s.heap := hP.perm (List.perm_append_comm (l₁ := [(o0, .inl (cJ, 1, .inr (.inl (fun i => jL (q i)))))]) (l₂ := (CW cI cE cG cM cS x0 q0 q1 qr (ms, es, gE, gM, gB, gT, gG, gN, gK, gD) κ)))
  have hD : va_D A ((CW cI cE cG cM cS x0 q0 q1 qr (ms, es, gE, gM, gB, gT, gG, gN, gK, gD) κ) ++ [(o0, .inl (cJ, 1, .inr (.inl (fun i => jL (q i)))))]) := hD.perm (List.perm_append_comm (l₁ := [(o0, .inl (cJ, 1, .inr (.inl (fun i => jL (q i)))))]) (l₂ := (CW cI cE cG cM cS x0 q0 q1 qr (ms, es, gE, gM, gB, gT, gG, gN, gK, gD) κ)))
  refine b_goI (vx_runV (As := []) (rest := [.int (jI 0), .ref o0]) ⟨hx, hb, hml, hown, hts⟩ (hC _) (cwV 0 hts gL_model_X6_model rfl rfl rfl (by decide +kernel) ⟨(Nat.le_of_ble_eq_true rfl), (Nat.le_of_ble_eq_true rfl)⟩) ⟨(b_pre hK hX hZ hP hD hS hA).1, va_recv hK.1 hP (ci := 6) (q0 := 0) rfl rfl, (b_pre hK hX hZ hP hD hS hA).2⟩ rfl rfl hl.1 rfl (lv_room (Nat.le_of_ble_eq_true rfl)) dL_model_3 ⟨(Nat.le_of_ble_eq_true rfl), (Nat.le_of_ble_eq_true rfl)⟩) hP hD hS hA (fun E ce q9 κ2 H locs hpx hP hD hS h7 h8 h9 => ?_) (fun r κ2 H locs hpost hP hD hS => ?_)
  · have hP : va_P D vwCl ((o0, .inl (cJ, 1, .inr (.inl (fun i => jL (q i))))) :: (CW cI cE cG cM cS x0 q0 q1 qr g2 κ2)) H := hP.perm (List.perm_append_comm (l₁ := (CW cI cE cG cM cS x0 q0 q1 qr g2 κ2)) (l₂ := [(o0, .inl (cJ, 1, .inr (.inl (fun i => jL (q i)))))]))
    have hD : va_D A ((o0, .inl (cJ, 1, .inr (.inl (fun i => jL (q i))))) :: (CW cI cE cG cM cS x0 q0 q1 qr g2 κ2)) := hD.perm (List.perm_append_comm (l₁ := (CW cI cE cG cM cS x0 q0 q1 qr g2 κ2)) (l₂ := [(o0, .inl (cJ, 1, .inr (.inl (fun i => jL (q i)))))]))
    rcases xcm_i hpx.1 with ⟨hk0, hE⟩
    · subst hk0
      subst hE
      refine g_c1 hown htab  (by decide) (by decide) (hts (.classLink RL 13 xISE) (by decide +kernel)) (xcl_ISE hX) h7 h8 h9 ?_
      refine lv_astore_n (lv' := [(2, .ref q9), (0, .ref x0), (1, .ref o0)]) hx hb dL_model_11 rfl hl (by decide) rfl (fun ls hl => ?_)
      refine n_iconst hx hb dL_model_12 ?_
      exact n_iret (κ2, q) hx hb hr hlocks dL_model_13 hP hD hS ⟨rfl, hpx.2, fun h => absurd h (by decide)⟩
  · obtain ⟨hk0, hrv, hI2⟩ := hpost
    obtain ⟨z, hz, rz⟩ := i32_j r
    subst hz
    have hP : va_P D vwCl ((CW cI cE cG cM cS x0 q0 q1 qr g2 κ2) ++ [(o0, .inl (cJ, 1, .inr (.inl (fun i => jL (q i)))))]) H := hP
    have hD : va_D A ((CW cI cE cG cM cS x0 q0 q1 qr g2 κ2) ++ [(o0, .inl (cJ, 1, .inr (.inl (fun i => jL (q i)))))]) := hD
    have hP : va_P D vwCl ((o0, .inl (cJ, 1, .inr (.inl (fun i => jL (q i))))) :: (CW cI cE cG cM cS x0 q0 q1 qr g2 κ2)) H := hP.perm (List.perm_append_comm (l₁ := (CW cI cE cG cM cS x0 q0 q1 qr g2 κ2)) (l₂ := [(o0, .inl (cJ, 1, .inr (.inl (fun i => jL (q i)))))]))
    have hD : va_D A ((o0, .inl (cJ, 1, .inr (.inl (fun i => jL (q i))))) :: (CW cI cE cG cM cS x0 q0 q1 qr g2 κ2)) := hD.perm (List.perm_append_comm (l₁ := (CW cI cE cG cM cS x0 q0 q1 qr g2 κ2)) (l₂ := [(o0, .inl (cJ, 1, .inr (.inl (fun i => jL (q i)))))]))
    refine n_i2l hx hb dL_model_6 rz.1 rz.2 ?_
    refine n_last (i := 0) hx hb hK hP hD hS 0 1 rfl htJ rfl (Nat.le_of_ble_eq_true rfl) (Nat.le_of_ble_eq_true rfl) dL_model_7 (fun H locs hP hD hS => ?_)
    have hP : va_P D vwCl ((o0, .inl (cJ, 1, .inr (.inl (fun i => jL ((va_up q 0 z) i))))) :: (CW cI cE cG cM cS x0 q0 q1 qr g2 κ2)) H := hP
    have hD : va_D A ((o0, .inl (cJ, 1, .inr (.inl (fun i => jL ((va_up q 0 z) i))))) :: (CW cI cE cG cM cS x0 q0 q1 qr g2 κ2)) := hD
    refine lv_goto (tgt := 14) hx hb dL_model_8 (by decide) ?_
    refine n_iconst hx hb dL_model_14 ?_
    exact n_iret (κ2, va_up q 0 z) hx hb hr hlocks dL_model_15 hP hD hS ⟨by rw [hk0]; rfl, hI2, fun _ => by show jI (va_up q 0 z 0) = v ∧ r32 (va_up q 0 z 0); rw [up_s]; exact ⟨hrv, rz⟩⟩
