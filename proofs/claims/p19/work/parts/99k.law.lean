/-! the law: isTold -/
theorem rem_ex (a d : Int) (hd : 0 < d) : ∃ k : Nat, a % d = ((k : Nat) : Int) ∧ ((k : Nat) : Int) < d := by
  have h1 := Int.emod_nonneg a (show d ≠ 0 by omega)
  have h2 := Int.emod_lt_of_pos a hd
  exact ⟨(a % d).toNat, by omega, by omega⟩
theorem z_ex (n : Nat) : ∃ z : Zp, zv z = ((n % 10007 : Nat) : Int) := ⟨zc ((n % 10007 : Nat) : Int), zc_small (by omega) (by omega)⟩
theorem z_ex2 (n : Nat) (h : n < 10007) : ∃ z : Zp, zv z = ((n : Nat) : Int) := ⟨zc ((n : Nat) : Int), zc_small (by omega) (by omega)⟩

set_option maxHeartbeats 16000000 in
set_option maxRecDepth 100000 in
theorem c_L_isTold0 (l : Launch) (hl9 : l.stackTraces = false) (D : va_G) (tys : List (ClassId × FieldType)) {cI cE cG cM cS : ClassId} (htI : tys[0]? = some (cI, .int)) (htE : tys[3]? = some (cE, .object RX1)) (htM : tys[4]? = some (cM, .object RX2)) (htS : tys[5]? = some (cS, .object RX4)) (htG : tys[6]? = some (cG, .array .int)) (x0 q0 q1 : Nat) (qr : Nat → Nat) (ms es : Nat) (gE gM gB : Nat → Zp) (gT : Nat → Nat) (gG : Nat → Zp) (gN : Nat → Nat) (gK : Nat → Zp) (gD : Nat → Bool) (κ : Nat → EG) (hI : INV (ms, es, gE, gM, gB, gT, gG, gN, gK, gD) κ) (am ae ag : Nat) (fm fe fq fv fu : Nat → Int) (fg : Nat → Nat) (c : Nat) (hL : LI (ms, es, gE, gM, gB, gT, gG, gN, gK, gD) fm fe fq fv fu fg c) (one two : Nat) (s1 : one < 60000) (s2 : two < 60000) : CtW (S := SG × (Nat → EG) × (Nat → Int) × (Nat → Int) × (Nat → Nat)) l D tys yL_isTold wsL_isTold 12 268 228 867 [.ref x0, .ref am, .ref ae, .ref ag, .int (jI 0), .int (jI ((one : Nat) : Int)), .int (jI ((two : Nat) : Int))] (fun (r : Int32) (u : SG × (Nat → EG) × (Nat → Int) × (Nat → Int) × (Nat → Nat)) => r = jI (iB true) ∧ INV u.1 u.2.1 ∧ LI u.1 u.2.2.1 u.2.2.2.1 fq fv fu u.2.2.2.2 (c + 1)) ((am, .inl (cI, 22, .inl (fun i => jI (fm i)))) :: (ae, .inl (cI, 45, .inl (fun i => jI (fe i)))) :: (ag, .inl (cI, 2, .inl (fun i => jI ((fg i : Nat) : Int)))) :: (CW cI cE cG cM cS x0 q0 q1 qr (ms, es, gE, gM, gB, gT, gG, gN, gK, gD) κ)) (fun u => ((am, .inl (cI, 22, .inl (fun i => jI (u.2.2.1 i)))) :: (ae, .inl (cI, 45, .inl (fun i => jI (u.2.2.2.1 i)))) :: (ag, .inl (cI, 2, .inl (fun i => jI ((u.2.2.2.2 i : Nat) : Int)))) :: (CW cI cE cG cM cS x0 q0 q1 qr u.1 u.2.1))) := by
  refine CtW.ofP (cc := cL_isTold) (maxL := 15) (by decide +kernel) rfl (Nat.le_of_ble_eq_true rfl) ?_
  intro p e s m below meth c9 A ls hcx hK hXK hZ hN hP hD hA hl
  obtain ⟨hx, hb, hr, hml, hown, hts, hlocks⟩ := hcx
  have hS : va_S A s.heap s.heap [] := va_S.rf
  have hown : s.vm.findClass RL = some m.cls := hown
  have hl : lv_has ls 15 [(0, .ref x0), (1, .ref am), (2, .ref ae), (3, .ref ag), (4, .int (jI 0)), (5, .int (jI ((one : Nat) : Int))), (6, .int (jI ((two : Nat) : Int)))] := hl
  obtain ⟨b3, b2, hg0, hg1, hm, hLe, c0, c1⟩ := id hL
  refine lv_iload hx hb dL_isTold_0 (lv_at hl 4 rfl) ?_
  refine n_if_ne (tgt := 66) hx hb (by unfold r32; decide) dL_isTold_2 (by decide) (fun h2 => False.elim (by revert h2; decide)) (fun h2 => ?_)
  refine lv_aload_n hx hb dL_isTold_5 rfl (lv_at hl 3 rfl) ?_
  refine n_iconst hx hb dL_isTold_6 ?_
  refine n_nalv (i := 0) (v := ((ms : Nat) : Int)) hx hb hK hP 2 0 rfl htI rfl (Nat.le_of_ble_eq_true rfl) (Nat.le_of_ble_eq_true rfl) (congrArg (fun z : Nat => (z : Int)) hg0) dL_isTold_7 ?_
  refine n_iconst hx hb dL_isTold_8 ?_
  by_cases h3 : ms = 3
  · refine n_icmp_ne (tgt := 14) hx hb (by unfold r32; omega) (by unfold r32; omega) dL_isTold_9 (by decide) (fun h9 => False.elim (by omega)) (fun h9 => ?_)
    refine n_iconst hx hb dL_isTold_12 ?_
    refine W.widen (k := 228) (n := 867) (Nat.le_of_ble_eq_true rfl) (Nat.le_of_ble_eq_true rfl) ?_
    exact y_zret (b := true) ((ms, es, gE, gM, gB, gT, gG, gN, gK, gD), κ, fm, fe, fg) hx hb hr hlocks dL_isTold_13 hP hD hS rfl ⟨rfl, hI, hL.up⟩
  · have h3 : ms < 3 := by omega
    refine n_icmp_ne (tgt := 14) hx hb (by unfold r32; omega) (by unfold r32; omega) dL_isTold_9 (by decide) (fun h9 => ?_) (fun h9 => False.elim (by omega))
    refine lv_aload_n hx hb dL_isTold_14 rfl (lv_at hl 1 rfl) ?_
    refine n_bipush hx hb dL_isTold_15 (by decide) ?_
    refine lv_aload_n hx hb dL_isTold_17 rfl (lv_at hl 3 rfl) ?_
    refine n_iconst hx hb dL_isTold_18 ?_
    refine n_nalv (i := 0) (v := ((ms : Nat) : Int)) hx hb hK hP 2 0 rfl htI rfl (Nat.le_of_ble_eq_true rfl) (Nat.le_of_ble_eq_true rfl) (congrArg (fun z : Nat => (z : Int)) hg0) dL_isTold_19 ?_
    refine n_imul hx hb dL_isTold_20 ?_
    refine n_iconst hx hb dL_isTold_21 ?_
    refine n_iast (i := (7 * ms)) hx hb hK hP hD hS 0 0 rfl htI (by omega) (by omega) (Nat.le_of_ble_eq_true rfl) dL_isTold_22 (fun H locs hP hD hS => ?_)
    have hP : va_P D vwCl ((am, .inl (cI, 22, .inl (fun i => jI ((va_up fm (7 * ms) 1) i)))) :: (ae, .inl (cI, 45, .inl (fun i => jI (fe i)))) :: (ag, .inl (cI, 2, .inl (fun i => jI ((fg i : Nat) : Int)))) :: (CW cI cE cG cM cS x0 q0 q1 qr (ms, es, gE, gM, gB, gT, gG, gN, gK, gD) κ)) H := hP
    have hD : va_D A ((am, .inl (cI, 22, .inl (fun i => jI ((va_up fm (7 * ms) 1) i)))) :: (ae, .inl (cI, 45, .inl (fun i => jI (fe i)))) :: (ag, .inl (cI, 2, .inl (fun i => jI ((fg i : Nat) : Int)))) :: (CW cI cE cG cM cS x0 q0 q1 qr (ms, es, gE, gM, gB, gT, gG, gN, gK, gD) κ)) := hD
    refine lv_aload_n hx hb dL_isTold_23 rfl (lv_at hl 1 rfl) ?_
    refine n_bipush hx hb dL_isTold_24 (by decide) ?_
    refine lv_aload_n hx hb dL_isTold_26 rfl (lv_at hl 3 rfl) ?_
    refine n_iconst hx hb dL_isTold_27 ?_
    refine n_nalv (i := 0) (v := ((ms : Nat) : Int)) hx hb hK hP 2 0 rfl htI rfl (Nat.le_of_ble_eq_true rfl) (Nat.le_of_ble_eq_true rfl) (congrArg (fun z : Nat => (z : Int)) hg0) dL_isTold_28 ?_
    refine n_imul hx hb dL_isTold_29 ?_
    refine n_iconst hx hb dL_isTold_30 ?_
    refine n_iadd hx hb dL_isTold_31 ?_
    refine n_iconst hx hb dL_isTold_32 ?_
    refine n_iast (i := (7 * ms + 3)) hx hb hK hP hD hS 0 0 rfl htI (by omega) (by omega) (Nat.le_of_ble_eq_true rfl) dL_isTold_33 (fun H locs hP hD hS => ?_)
    have hP : va_P D vwCl ((am, .inl (cI, 22, .inl (fun i => jI ((va_up (va_up fm (7 * ms) 1) (7 * ms + 3) 1) i)))) :: (ae, .inl (cI, 45, .inl (fun i => jI (fe i)))) :: (ag, .inl (cI, 2, .inl (fun i => jI ((fg i : Nat) : Int)))) :: (CW cI cE cG cM cS x0 q0 q1 qr (ms, es, gE, gM, gB, gT, gG, gN, gK, gD) κ)) H := hP
    have hD : va_D A ((am, .inl (cI, 22, .inl (fun i => jI ((va_up (va_up fm (7 * ms) 1) (7 * ms + 3) 1) i)))) :: (ae, .inl (cI, 45, .inl (fun i => jI (fe i)))) :: (ag, .inl (cI, 2, .inl (fun i => jI ((fg i : Nat) : Int)))) :: (CW cI cE cG cM cS x0 q0 q1 qr (ms, es, gE, gM, gB, gT, gG, gN, gK, gD) κ)) := hD
    refine lv_aload_n hx hb dL_isTold_34 rfl (lv_at hl 3 rfl) ?_
    refine n_iconst hx hb dL_isTold_35 ?_
    refine lv_dup2_11 hx hb dL_isTold_36 rfl rfl ?_
    refine n_nalv (i := 0) (v := ((ms : Nat) : Int)) hx hb hK hP 2 0 rfl htI rfl (Nat.le_of_ble_eq_true rfl) (Nat.le_of_ble_eq_true rfl) (congrArg (fun z : Nat => (z : Int)) hg0) dL_isTold_37 ?_
    refine n_iconst hx hb dL_isTold_38 ?_
    refine n_iadd hx hb dL_isTold_39 ?_
    refine n_nast (i := 0) (v := (ms + 1)) hx hb hK hP hD hS 2 0 rfl htI (by omega) rfl (Nat.le_of_ble_eq_true rfl) (Nat.le_of_ble_eq_true rfl) dL_isTold_40 (fun H locs hP hD hS => ?_)
    have hP : va_P D vwCl ((am, .inl (cI, 22, .inl (fun i => jI ((va_up (va_up fm (7 * ms) 1) (7 * ms + 3) 1) i)))) :: (ae, .inl (cI, 45, .inl (fun i => jI (fe i)))) :: (ag, .inl (cI, 2, .inl (fun i => jI (((va_up fg 0 (ms + 1)) i : Nat) : Int)))) :: (CW cI cE cG cM cS x0 q0 q1 qr (ms, es, gE, gM, gB, gT, gG, gN, gK, gD) κ)) H := hP
    have hD : va_D A ((am, .inl (cI, 22, .inl (fun i => jI ((va_up (va_up fm (7 * ms) 1) (7 * ms + 3) 1) i)))) :: (ae, .inl (cI, 45, .inl (fun i => jI (fe i)))) :: (ag, .inl (cI, 2, .inl (fun i => jI (((va_up fg 0 (ms + 1)) i : Nat) : Int)))) :: (CW cI cE cG cM cS x0 q0 q1 qr (ms, es, gE, gM, gB, gT, gG, gN, gK, gD) κ)) := hD
    refine lv_aload_n hx hb dL_isTold_41 rfl (lv_at hl 0 rfl) ?_
    refine n_iconst hx hb dL_isTold_42 ?_
    refine n_iconst hx hb dL_isTold_43 ?_
    refine n_iconst hx hb dL_isTold_44 ?_
    refine n_iconst hx hb dL_isTold_45 ?_
    refine n_iconst hx hb dL_isTold_46 ?_
    refine n_iconst hx hb dL_isTold_47 ?_
    refine n_iconst hx hb dL_isTold_48 ?_
    have hC := d_model0 l hl9 D tys htI htE htM htS htG x0 q0 q1 qr ms es gE gM gB gT gG gN gK gD κ hI (by omega)
    have hW := w_does_model l D tys x0 q0 q1 qr ms es gE gM gB gT gG gN gK gD κ (jI 0) (jI 0) (jI 0) (jI 0) (jI 0) (jI 0) (ms + 1, es, va_up (va_up gE (7 * ms + 0) 1) (7 * ms + 3) 1, gM, gB, gT, gG, gN, gK, gD) 0 _ hC
    have hP : va_P D vwCl ((CW cI cE cG cM cS x0 q0 q1 qr (ms, es, gE, gM, gB, gT, gG, gN, gK, gD) κ) ++ [(am, .inl (cI, 22, .inl (fun i => jI ((va_up (va_up fm (7 * ms) 1) (7 * ms + 3) 1) i)))), (ae, .inl (cI, 45, .inl (fun i => jI (fe i)))), (ag, .inl (cI, 2, .inl (fun i => jI (((va_up fg 0 (ms + 1)) i : Nat) : Int))))]) H := hP.perm (List.perm_append_comm (l₁ := ([(am, .inl (cI, 22, .inl (fun i => jI ((va_up (va_up fm (7 * ms) 1) (7 * ms + 3) 1) i)))), (ae, .inl (cI, 45, .inl (fun i => jI (fe i)))), (ag, .inl (cI, 2, .inl (fun i => jI (((va_up fg 0 (ms + 1)) i : Nat) : Int))))] : va_W)) (l₂ := (CW cI cE cG cM cS x0 q0 q1 qr (ms, es, gE, gM, gB, gT, gG, gN, gK, gD) κ)))
    have hD : va_D A ((CW cI cE cG cM cS x0 q0 q1 qr (ms, es, gE, gM, gB, gT, gG, gN, gK, gD) κ) ++ [(am, .inl (cI, 22, .inl (fun i => jI ((va_up (va_up fm (7 * ms) 1) (7 * ms + 3) 1) i)))), (ae, .inl (cI, 45, .inl (fun i => jI (fe i)))), (ag, .inl (cI, 2, .inl (fun i => jI (((va_up fg 0 (ms + 1)) i : Nat) : Int))))]) := hD.perm (List.perm_append_comm (l₁ := ([(am, .inl (cI, 22, .inl (fun i => jI ((va_up (va_up fm (7 * ms) 1) (7 * ms + 3) 1) i)))), (ae, .inl (cI, 45, .inl (fun i => jI (fe i)))), (ag, .inl (cI, 2, .inl (fun i => jI (((va_up fg 0 (ms + 1)) i : Nat) : Int))))] : va_W)) (l₂ := (CW cI cE cG cM cS x0 q0 q1 qr (ms, es, gE, gM, gB, gT, gG, gN, gK, gD) κ)))
    refine a_goNI (vx_runSW (As := [.ref x0, .int (jI 0), .int (jI 0), .int (jI 0), .int (jI 0), .int (jI 0), .int (jI 0), .int (jI 0)]) (rest := []) ⟨hx, hb, hml, hown, hts⟩ (hW _) (vx_cwSW 8 hts gL_isTold_L_does rfl rfl rfl (by decide +kernel) ⟨(Nat.le_of_ble_eq_true rfl), (Nat.le_of_ble_eq_true rfl)⟩) (c_pre hK hXK hZ hN hP hD hS hA) rfl rfl hl.1 rfl (lv_room (Nat.le_of_ble_eq_true rfl)) dL_isTold_49 ⟨(Nat.le_of_ble_eq_true rfl), (Nat.le_of_ble_eq_true rfl)⟩) hP hD hS hA (fun r κ2 H locs hpost hP hD hS => ?_)
    obtain ⟨hr9, hI2⟩ := hpost
    have hr9 : r = jI ((ms : Nat) : Int) := hr9
    subst hr9
    have hP : va_P D vwCl ((CW cI cE cG cM cS x0 q0 q1 qr (ms + 1, es, va_up (va_up gE (7 * ms + 0) 1) (7 * ms + 3) 1, gM, gB, gT, gG, gN, gK, gD) κ2) ++ [(am, .inl (cI, 22, .inl (fun i => jI ((va_up (va_up fm (7 * ms) 1) (7 * ms + 3) 1) i)))), (ae, .inl (cI, 45, .inl (fun i => jI (fe i)))), (ag, .inl (cI, 2, .inl (fun i => jI (((va_up fg 0 (ms + 1)) i : Nat) : Int))))]) H := hP
    have hD : va_D A ((CW cI cE cG cM cS x0 q0 q1 qr (ms + 1, es, va_up (va_up gE (7 * ms + 0) 1) (7 * ms + 3) 1, gM, gB, gT, gG, gN, gK, gD) κ2) ++ [(am, .inl (cI, 22, .inl (fun i => jI ((va_up (va_up fm (7 * ms) 1) (7 * ms + 3) 1) i)))), (ae, .inl (cI, 45, .inl (fun i => jI (fe i)))), (ag, .inl (cI, 2, .inl (fun i => jI (((va_up fg 0 (ms + 1)) i : Nat) : Int))))]) := hD
    have hP : va_P D vwCl ((am, .inl (cI, 22, .inl (fun i => jI ((va_up (va_up fm (7 * ms) 1) (7 * ms + 3) 1) i)))) :: (ae, .inl (cI, 45, .inl (fun i => jI (fe i)))) :: (ag, .inl (cI, 2, .inl (fun i => jI (((va_up fg 0 (ms + 1)) i : Nat) : Int)))) :: (CW cI cE cG cM cS x0 q0 q1 qr (ms + 1, es, va_up (va_up gE (7 * ms + 0) 1) (7 * ms + 3) 1, gM, gB, gT, gG, gN, gK, gD) κ2)) H := hP.perm (List.perm_append_comm (l₁ := (CW cI cE cG cM cS x0 q0 q1 qr (ms + 1, es, va_up (va_up gE (7 * ms + 0) 1) (7 * ms + 3) 1, gM, gB, gT, gG, gN, gK, gD) κ2)) (l₂ := ([(am, .inl (cI, 22, .inl (fun i => jI ((va_up (va_up fm (7 * ms) 1) (7 * ms + 3) 1) i)))), (ae, .inl (cI, 45, .inl (fun i => jI (fe i)))), (ag, .inl (cI, 2, .inl (fun i => jI (((va_up fg 0 (ms + 1)) i : Nat) : Int))))] : va_W)))
    have hD : va_D A ((am, .inl (cI, 22, .inl (fun i => jI ((va_up (va_up fm (7 * ms) 1) (7 * ms + 3) 1) i)))) :: (ae, .inl (cI, 45, .inl (fun i => jI (fe i)))) :: (ag, .inl (cI, 2, .inl (fun i => jI (((va_up fg 0 (ms + 1)) i : Nat) : Int)))) :: (CW cI cE cG cM cS x0 q0 q1 qr (ms + 1, es, va_up (va_up gE (7 * ms + 0) 1) (7 * ms + 3) 1, gM, gB, gT, gG, gN, gK, gD) κ2)) := hD.perm (List.perm_append_comm (l₁ := (CW cI cE cG cM cS x0 q0 q1 qr (ms + 1, es, va_up (va_up gE (7 * ms + 0) 1) (7 * ms + 3) 1, gM, gB, gT, gG, gN, gK, gD) κ2)) (l₂ := ([(am, .inl (cI, 22, .inl (fun i => jI ((va_up (va_up fm (7 * ms) 1) (7 * ms + 3) 1) i)))), (ae, .inl (cI, 45, .inl (fun i => jI (fe i)))), (ag, .inl (cI, 2, .inl (fun i => jI (((va_up fg 0 (ms + 1)) i : Nat) : Int))))] : va_W)))
    refine lv_aload_n hx hb dL_isTold_52 rfl (lv_at hl 3 rfl) ?_
    refine n_iconst hx hb dL_isTold_53 ?_
    refine n_nalv (i := 0) (v := (((ms + 1) : Nat) : Int)) hx hb hK hP 2 0 rfl htI rfl (Nat.le_of_ble_eq_true rfl) (Nat.le_of_ble_eq_true rfl) (congrArg (fun z : Nat => (z : Int)) (up_s _ _ _)) dL_isTold_54 ?_
    refine n_iconst hx hb dL_isTold_55 ?_
    refine n_isub hx hb dL_isTold_56 ?_
    refine n_icmp_ne (tgt := 64) hx hb (by unfold r32; omega) (by unfold r32; omega) dL_isTold_57 (by decide) (fun h57 => False.elim (h57 (by omega))) (fun h57 => ?_)
    refine n_iconst hx hb dL_isTold_60 ?_
    refine lv_goto (tgt := 65) hx hb dL_isTold_61 (by decide) ?_
    refine W.widen (k := 228) (n := 867) (Nat.le_of_ble_eq_true rfl) (Nat.le_of_ble_eq_true rfl) ?_
    exact y_zret (b := true) ((ms + 1, es, va_up (va_up gE (7 * ms + 0) 1) (7 * ms + 3) 1, gM, gB, gT, gG, gN, gK, gD), κ2, va_up (va_up fm (7 * ms) 1) (7 * ms + 3) 1, fe, va_up fg 0 (ms + 1)) hx hb hr hlocks dL_isTold_65 hP hD hS rfl ⟨rfl, hI2, (hL.model h3).up⟩

set_option maxHeartbeats 16000000 in
set_option maxRecDepth 100000 in
theorem c_L_isTold1 (l : Launch) (hl9 : l.stackTraces = false) (D : va_G) (tys : List (ClassId × FieldType)) {cI cE cG cM cS : ClassId} (htI : tys[0]? = some (cI, .int)) (htE : tys[3]? = some (cE, .object RX1)) (htM : tys[4]? = some (cM, .object RX2)) (htS : tys[5]? = some (cS, .object RX4)) (htG : tys[6]? = some (cG, .array .int)) (x0 q0 q1 : Nat) (qr : Nat → Nat) (ms es : Nat) (gE gM gB : Nat → Zp) (gT : Nat → Nat) (gG : Nat → Zp) (gN : Nat → Nat) (gK : Nat → Zp) (gD : Nat → Bool) (κ : Nat → EG) (hI : INV (ms, es, gE, gM, gB, gT, gG, gN, gK, gD) κ) (am ae ag : Nat) (fm fe fq fv fu : Nat → Int) (fg : Nat → Nat) (c : Nat) (hL : LI (ms, es, gE, gM, gB, gT, gG, gN, gK, gD) fm fe fq fv fu fg c) (one two : Nat) (s1 : one < 60000) (s2 : two < 60000) : CtW (S := SG × (Nat → EG) × (Nat → Int) × (Nat → Int) × (Nat → Nat)) l D tys yL_isTold wsL_isTold 12 268 228 867 [.ref x0, .ref am, .ref ae, .ref ag, .int (jI 1), .int (jI ((one : Nat) : Int)), .int (jI ((two : Nat) : Int))] (fun (r : Int32) (u : SG × (Nat → EG) × (Nat → Int) × (Nat → Int) × (Nat → Nat)) => r = jI (iB true) ∧ INV u.1 u.2.1 ∧ LI u.1 u.2.2.1 u.2.2.2.1 fq fv fu u.2.2.2.2 (c + 1)) ((am, .inl (cI, 22, .inl (fun i => jI (fm i)))) :: (ae, .inl (cI, 45, .inl (fun i => jI (fe i)))) :: (ag, .inl (cI, 2, .inl (fun i => jI ((fg i : Nat) : Int)))) :: (CW cI cE cG cM cS x0 q0 q1 qr (ms, es, gE, gM, gB, gT, gG, gN, gK, gD) κ)) (fun u => ((am, .inl (cI, 22, .inl (fun i => jI (u.2.2.1 i)))) :: (ae, .inl (cI, 45, .inl (fun i => jI (u.2.2.2.1 i)))) :: (ag, .inl (cI, 2, .inl (fun i => jI ((u.2.2.2.2 i : Nat) : Int)))) :: (CW cI cE cG cM cS x0 q0 q1 qr u.1 u.2.1))) := by
  refine CtW.ofP (cc := cL_isTold) (maxL := 15) (by decide +kernel) rfl (Nat.le_of_ble_eq_true rfl) ?_
  intro p e s m below meth c9 A ls hcx hK hXK hZ hN hP hD hA hl
  obtain ⟨hx, hb, hr, hml, hown, hts, hlocks⟩ := hcx
  have hS : va_S A s.heap s.heap [] := va_S.rf
  have hown : s.vm.findClass RL = some m.cls := hown
  have hl : lv_has ls 15 [(0, .ref x0), (1, .ref am), (2, .ref ae), (3, .ref ag), (4, .int (jI 1)), (5, .int (jI ((one : Nat) : Int))), (6, .int (jI ((two : Nat) : Int)))] := hl
  obtain ⟨b3, b2, hg0, hg1, hm, hLe, c0, c1⟩ := id hL
  obtain ⟨mo, emo, lmo⟩ := rem_ex ((one : Nat) : Int) (((ms : Nat) : Int) + 1) (by omega)
  obtain ⟨z1, ez1⟩ := z_ex (one / 12)
  obtain ⟨z2, ez2⟩ := z_ex2 (one / 4 % 5) (by omega)
  have bz1 := zv_le z1
  have az1 := zv_0 z1
  have bz2 := zv_le z2
  have az2 := zv_0 z2
  by_cases h12 : one / 4 % 13 = 12
  · refine lv_iload hx hb dL_isTold_0 (lv_at hl 4 rfl) ?_
    refine n_if_ne (tgt := 66) hx hb (by unfold r32; decide) dL_isTold_2 (by decide) (fun h2 => ?_) (fun h2 => False.elim (by revert h2; decide))
    refine lv_iload hx hb dL_isTold_66 (lv_at hl 5 rfl) ?_
    refine lv_aload_n hx hb dL_isTold_68 rfl (lv_at hl 3 rfl) ?_
    refine n_iconst hx hb dL_isTold_69 ?_
    refine n_nalv (i := 0) (v := ((ms : Nat) : Int)) hx hb hK hP 2 0 rfl htI rfl (Nat.le_of_ble_eq_true rfl) (Nat.le_of_ble_eq_true rfl) (congrArg (fun z : Nat => (z : Int)) hg0) dL_isTold_70 ?_
    refine n_iconst hx hb dL_isTold_71 ?_
    refine n_iadd hx hb dL_isTold_72 ?_
    refine n_iremv (v := ((mo : Nat) : Int)) hx hb dL_isTold_73 (by omega) (by omega) (by omega) (by omega) emo ?_
    refine lv_istore (lv' := [(7, .int (jI ((mo : Nat) : Int))), (0, .ref x0), (1, .ref am), (2, .ref ae), (3, .ref ag), (4, .int (jI 1)), (5, .int (jI ((one : Nat) : Int))), (6, .int (jI ((two : Nat) : Int)))]) hx hb dL_isTold_74 hl (by decide) rfl (fun ls hl => ?_)
    refine lv_iload hx hb dL_isTold_76 (lv_at hl 5 rfl) ?_
    refine n_iconst hx hb dL_isTold_78 ?_
    refine n_icmp_ne (tgt := 255) hx hb (by unfold r32; decide) (by unfold r32; decide) dL_isTold_79 (by decide) (fun h79 => False.elim (by revert h79; decide)) (fun h79 => ?_)
    refine lv_iload hx hb dL_isTold_82 (lv_at hl 7 rfl) ?_
    refine n_bipush hx hb dL_isTold_84 (by decide) ?_
    refine n_iremv (v := (((two % 8) : Nat) : Int)) hx hb dL_isTold_86 (by omega) (by omega) (by omega) (by omega) (by omega) ?_
    refine lv_istore (lv' := [(8, .int (jI (((two % 8) : Nat) : Int))), (7, .int (jI ((mo : Nat) : Int))), (0, .ref x0), (1, .ref am), (2, .ref ae), (3, .ref ag), (4, .int (jI 1)), (5, .int (jI ((one : Nat) : Int))), (6, .int (jI ((two : Nat) : Int)))]) hx hb dL_isTold_87 hl (by decide) rfl (fun ls hl => ?_)
    refine lv_iload hx hb dL_isTold_89 (lv_at hl 7 rfl) ?_
    refine n_iconst hx hb dL_isTold_91 ?_
    refine n_idivv (v := (((one / 4) : Nat) : Int)) hx hb dL_isTold_92 (by omega) (by omega) (by omega) (by omega) (by omega) ?_
    refine n_bipush hx hb dL_isTold_93 (by decide) ?_
    refine n_iremv (v := (((one / 4 % 13) : Nat) : Int)) hx hb dL_isTold_95 (by omega) (by omega) (by omega) (by omega) (by omega) ?_
    refine n_bipush hx hb dL_isTold_96 (by decide) ?_
    refine n_icmp_ne (tgt := 107) hx hb (by unfold r32; omega) (by unfold r32; omega) dL_isTold_98 (by decide) (fun h98 => False.elim (h98 (by omega))) (fun h98 => ?_)
    refine n_sipush hx hb dL_isTold_101 (by decide) ?_
    refine lv_goto (tgt := 134) hx hb dL_isTold_104 (by decide) ?_
    by_cases hmo : mo < ms
    · by_cases hwh : two % 8 < 7
      · refine lv_istore (lv' := [(9, .int (jI 10007)), (8, .int (jI (((two % 8) : Nat) : Int))), (7, .int (jI ((mo : Nat) : Int))), (0, .ref x0), (1, .ref am), (2, .ref ae), (3, .ref ag), (4, .int (jI 1)), (5, .int (jI ((one : Nat) : Int))), (6, .int (jI ((two : Nat) : Int)))]) hx hb dL_isTold_134 hl (by decide) rfl (fun ls hl => ?_)
        refine lv_iload hx hb dL_isTold_136 (lv_at hl 2 rfl) ?_
        refine lv_aload_n hx hb dL_isTold_138 rfl (lv_at hl 6 rfl) ?_
        refine n_iconst hx hb dL_isTold_139 ?_
        refine n_nalv (i := 0) (v := ((ms : Nat) : Int)) hx hb hK hP 2 0 rfl htI rfl (Nat.le_of_ble_eq_true rfl) (Nat.le_of_ble_eq_true rfl) (congrArg (fun z : Nat => (z : Int)) hg0) dL_isTold_140 ?_
        refine n_icmp_ge (tgt := 148) hx hb (by unfold r32; omega) (by unfold r32; omega) dL_isTold_141 (by decide) (fun h141 => False.elim (by omega)) (fun h141 => ?_)
        refine n_iconst hx hb dL_isTold_144 ?_
        refine lv_goto (tgt := 149) hx hb dL_isTold_145 (by decide) ?_
        refine lv_istore (lv' := [(10, .int (jI 1)), (9, .int (jI 10007)), (8, .int (jI (((two % 8) : Nat) : Int))), (7, .int (jI ((mo : Nat) : Int))), (0, .ref x0), (1, .ref am), (2, .ref ae), (3, .ref ag), (4, .int (jI 1)), (5, .int (jI ((one : Nat) : Int))), (6, .int (jI ((two : Nat) : Int)))]) hx hb dL_isTold_149 hl (by decide) rfl (fun ls hl => ?_)
        refine lv_iload hx hb dL_isTold_151 (lv_at hl 2 rfl) ?_
        refine n_bipush hx hb dL_isTold_153 (by decide) ?_
        refine n_icmp_ge (tgt := 170) hx hb (by unfold r32; omega) (by unfold r32; omega) dL_isTold_155 (by decide) (fun h155 => False.elim (by omega)) (fun h155 => ?_)
        refine lv_iload hx hb dL_isTold_158 (lv_at hl 1 rfl) ?_
        refine n_sipush hx hb dL_isTold_160 (by decide) ?_
        refine n_icmp_ge (tgt := 170) hx hb (by unfold r32; omega) (by unfold r32; omega) dL_isTold_163 (by decide) (fun h163 => ?_) (fun h163 => False.elim (by omega))
        refine n_iconst hx hb dL_isTold_170 ?_
        refine lv_istore (lv' := [(11, .int (jI 0)), (10, .int (jI 1)), (9, .int (jI 10007)), (8, .int (jI (((two % 8) : Nat) : Int))), (7, .int (jI ((mo : Nat) : Int))), (0, .ref x0), (1, .ref am), (2, .ref ae), (3, .ref ag), (4, .int (jI 1)), (5, .int (jI ((one : Nat) : Int))), (6, .int (jI ((two : Nat) : Int)))]) hx hb dL_isTold_171 hl (by decide) rfl (fun ls hl => ?_)
        refine lv_iload hx hb dL_isTold_173 (lv_at hl 1 rfl) ?_
        refine n_if_eq (tgt := 194) hx hb (by unfold r32; decide) dL_isTold_175 (by decide) (fun h175 => False.elim (by revert h175; decide)) (fun h175 => ?_)
        refine lv_iload hx hb dL_isTold_178 (lv_at hl 0 rfl) ?_
        refine n_if_eq (tgt := 194) hx hb (by unfold r32; decide) dL_isTold_180 (by decide) (fun h180 => ?_) (fun h180 => False.elim (by revert h180; decide))
        refine n_bipush hx hb dL_isTold_194 (by decide) ?_
        refine lv_istore (lv' := [(12, .int (jI 21)), (11, .int (jI 0)), (10, .int (jI 1)), (9, .int (jI 10007)), (8, .int (jI (((two % 8) : Nat) : Int))), (7, .int (jI ((mo : Nat) : Int))), (0, .ref x0), (1, .ref am), (2, .ref ae), (3, .ref ag), (4, .int (jI 1)), (5, .int (jI ((one : Nat) : Int))), (6, .int (jI ((two : Nat) : Int)))]) hx hb dL_isTold_196 hl (by decide) rfl (fun ls hl => ?_)
        refine lv_aload_n hx hb dL_isTold_198 rfl (lv_at hl 7 rfl) ?_
        refine lv_iload hx hb dL_isTold_199 (lv_at hl 0 rfl) ?_
        refine n_iald (i := 21) hx hb hK hP 0 0 rfl htI rfl (Nat.le_of_ble_eq_true rfl) (Nat.le_of_ble_eq_true rfl) dL_isTold_201 ?_
        refine lv_istore (lv' := [(13, .int (jI (fm 21))), (12, .int (jI 21)), (11, .int (jI 0)), (10, .int (jI 1)), (9, .int (jI 10007)), (8, .int (jI (((two % 8) : Nat) : Int))), (7, .int (jI ((mo : Nat) : Int))), (0, .ref x0), (1, .ref am), (2, .ref ae), (3, .ref ag), (4, .int (jI 1)), (5, .int (jI ((one : Nat) : Int))), (6, .int (jI ((two : Nat) : Int)))]) hx hb dL_isTold_202 hl (by decide) rfl (fun ls hl => ?_)
        refine lv_aload_n hx hb dL_isTold_204 rfl (lv_at hl 8 rfl) ?_
        refine lv_iload hx hb dL_isTold_205 (lv_at hl 1 rfl) ?_
        refine lv_iload hx hb dL_isTold_207 (lv_at hl 4 rfl) ?_
        refine n_iast (i := 21) hx hb hK hP hD hS 0 0 rfl htI rfl (Nat.le_of_ble_eq_true rfl) (Nat.le_of_ble_eq_true rfl) dL_isTold_209 (fun H locs hP hD hS => ?_)
        have hP : va_P D vwCl ((am, .inl (cI, 22, .inl (fun i => jI ((va_up fm 21 10007) i)))) :: (ae, .inl (cI, 45, .inl (fun i => jI (fe i)))) :: (ag, .inl (cI, 2, .inl (fun i => jI ((fg i : Nat) : Int)))) :: (CW cI cE cG cM cS x0 q0 q1 qr (ms, es, gE, gM, gB, gT, gG, gN, gK, gD) κ)) H := hP
        have hD : va_D A ((am, .inl (cI, 22, .inl (fun i => jI ((va_up fm 21 10007) i)))) :: (ae, .inl (cI, 45, .inl (fun i => jI (fe i)))) :: (ag, .inl (cI, 2, .inl (fun i => jI ((fg i : Nat) : Int)))) :: (CW cI cE cG cM cS x0 q0 q1 qr (ms, es, gE, gM, gB, gT, gG, gN, gK, gD) κ)) := hD
        refine lv_aload_n hx hb dL_isTold_210 rfl (lv_at hl 7 rfl) ?_
        refine n_iconst hx hb dL_isTold_211 ?_
        refine lv_iload hx hb dL_isTold_212 (lv_at hl 6 rfl) ?_
        refine lv_iload hx hb dL_isTold_214 (lv_at hl 5 rfl) ?_
        refine lv_iload hx hb dL_isTold_216 (lv_at hl 4 rfl) ?_
        refine n_iconst hx hb dL_isTold_218 ?_
        refine n_iconst hx hb dL_isTold_219 ?_
        refine n_iconst hx hb dL_isTold_220 ?_
        have hC := d_entry2 l hl9 D tys htI htE htM htS htG x0 q0 q1 qr ms es gE gM gB gT gG gN gK gD κ hI mo ((two % 8 : Nat) : Int) 10007 (by omega) (by unfold r32; omega) (by unfold r32; omega) (by rw [show inB 0 10006 10007 = false from inB_f (by omega), Bool.and_false])
        have hW := w_does_entry l D tys x0 q0 q1 qr ms es gE gM gB gT gG gN gK gD κ (jI ((mo : Nat) : Int)) (jI (((two % 8) : Nat) : Int)) (jI 10007) (jI 0) (jI 0) (jI 0) (ms, es, gE, gM, gB, gT, gG, gN, gK, gD) 2 _ hC
        have hP : va_P D vwCl ((CW cI cE cG cM cS x0 q0 q1 qr (ms, es, gE, gM, gB, gT, gG, gN, gK, gD) κ) ++ [(am, .inl (cI, 22, .inl (fun i => jI ((va_up fm 21 10007) i)))), (ae, .inl (cI, 45, .inl (fun i => jI (fe i)))), (ag, .inl (cI, 2, .inl (fun i => jI ((fg i : Nat) : Int))))]) H := hP.perm (List.perm_append_comm (l₁ := ([(am, .inl (cI, 22, .inl (fun i => jI ((va_up fm 21 10007) i)))), (ae, .inl (cI, 45, .inl (fun i => jI (fe i)))), (ag, .inl (cI, 2, .inl (fun i => jI ((fg i : Nat) : Int))))] : va_W)) (l₂ := (CW cI cE cG cM cS x0 q0 q1 qr (ms, es, gE, gM, gB, gT, gG, gN, gK, gD) κ)))
        have hD : va_D A ((CW cI cE cG cM cS x0 q0 q1 qr (ms, es, gE, gM, gB, gT, gG, gN, gK, gD) κ) ++ [(am, .inl (cI, 22, .inl (fun i => jI ((va_up fm 21 10007) i)))), (ae, .inl (cI, 45, .inl (fun i => jI (fe i)))), (ag, .inl (cI, 2, .inl (fun i => jI ((fg i : Nat) : Int))))]) := hD.perm (List.perm_append_comm (l₁ := ([(am, .inl (cI, 22, .inl (fun i => jI ((va_up fm 21 10007) i)))), (ae, .inl (cI, 45, .inl (fun i => jI (fe i)))), (ag, .inl (cI, 2, .inl (fun i => jI ((fg i : Nat) : Int))))] : va_W)) (l₂ := (CW cI cE cG cM cS x0 q0 q1 qr (ms, es, gE, gM, gB, gT, gG, gN, gK, gD) κ)))
        refine a_goNI (vx_runSW (As := [.ref x0, .int (jI 1), .int (jI ((mo : Nat) : Int)), .int (jI (((two % 8) : Nat) : Int)), .int (jI 10007), .int (jI 0), .int (jI 0), .int (jI 0)]) (rest := []) ⟨hx, hb, hml, hown, hts⟩ (hW _) (vx_cwSW 8 hts gL_isTold_L_does rfl rfl rfl (by decide +kernel) ⟨(Nat.le_of_ble_eq_true rfl), (Nat.le_of_ble_eq_true rfl)⟩) (c_pre hK hXK hZ hN hP hD hS hA) rfl rfl hl.1 rfl (lv_room (Nat.le_of_ble_eq_true rfl)) dL_isTold_221 ⟨(Nat.le_of_ble_eq_true rfl), (Nat.le_of_ble_eq_true rfl)⟩) hP hD hS hA (fun r κ2 H locs hpost hP hD hS => ?_)
        obtain ⟨hr9, hI2⟩ := hpost
        have hr9 : r = jI (-2) := hr9
        subst hr9
        have hP : va_P D vwCl ((CW cI cE cG cM cS x0 q0 q1 qr (ms, es, gE, gM, gB, gT, gG, gN, gK, gD) κ2) ++ [(am, .inl (cI, 22, .inl (fun i => jI ((va_up fm 21 10007) i)))), (ae, .inl (cI, 45, .inl (fun i => jI (fe i)))), (ag, .inl (cI, 2, .inl (fun i => jI ((fg i : Nat) : Int))))]) H := hP
        have hD : va_D A ((CW cI cE cG cM cS x0 q0 q1 qr (ms, es, gE, gM, gB, gT, gG, gN, gK, gD) κ2) ++ [(am, .inl (cI, 22, .inl (fun i => jI ((va_up fm 21 10007) i)))), (ae, .inl (cI, 45, .inl (fun i => jI (fe i)))), (ag, .inl (cI, 2, .inl (fun i => jI ((fg i : Nat) : Int))))]) := hD
        have hP : va_P D vwCl ((am, .inl (cI, 22, .inl (fun i => jI ((va_up fm 21 10007) i)))) :: (ae, .inl (cI, 45, .inl (fun i => jI (fe i)))) :: (ag, .inl (cI, 2, .inl (fun i => jI ((fg i : Nat) : Int)))) :: (CW cI cE cG cM cS x0 q0 q1 qr (ms, es, gE, gM, gB, gT, gG, gN, gK, gD) κ2)) H := hP.perm (List.perm_append_comm (l₁ := (CW cI cE cG cM cS x0 q0 q1 qr (ms, es, gE, gM, gB, gT, gG, gN, gK, gD) κ2)) (l₂ := ([(am, .inl (cI, 22, .inl (fun i => jI ((va_up fm 21 10007) i)))), (ae, .inl (cI, 45, .inl (fun i => jI (fe i)))), (ag, .inl (cI, 2, .inl (fun i => jI ((fg i : Nat) : Int))))] : va_W)))
        have hD : va_D A ((am, .inl (cI, 22, .inl (fun i => jI ((va_up fm 21 10007) i)))) :: (ae, .inl (cI, 45, .inl (fun i => jI (fe i)))) :: (ag, .inl (cI, 2, .inl (fun i => jI ((fg i : Nat) : Int)))) :: (CW cI cE cG cM cS x0 q0 q1 qr (ms, es, gE, gM, gB, gT, gG, gN, gK, gD) κ2)) := hD.perm (List.perm_append_comm (l₁ := (CW cI cE cG cM cS x0 q0 q1 qr (ms, es, gE, gM, gB, gT, gG, gN, gK, gD) κ2)) (l₂ := ([(am, .inl (cI, 22, .inl (fun i => jI ((va_up fm 21 10007) i)))), (ae, .inl (cI, 45, .inl (fun i => jI (fe i)))), (ag, .inl (cI, 2, .inl (fun i => jI ((fg i : Nat) : Int))))] : va_W)))
        refine lv_iload hx hb dL_isTold_224 (lv_at hl 3 rfl) ?_
        refine n_if_ne (tgt := 234) hx hb (by unfold r32; decide) dL_isTold_226 (by decide) (fun h226 => ?_) (fun h226 => False.elim (by revert h226; decide))
        refine lv_iload hx hb dL_isTold_234 (lv_at hl 2 rfl) ?_
        refine n_if_eq (tgt := 244) hx hb (by unfold r32; decide) dL_isTold_236 (by decide) (fun h236 => ?_) (fun h236 => False.elim (by revert h236; decide))
        refine n_bipush hx hb dL_isTold_244 (by decide) ?_
        refine n_icmp_ne (tgt := 253) hx hb (by unfold r32; omega) (by unfold r32; omega) dL_isTold_246 (by decide) (fun h246 => False.elim (h246 rfl)) (fun h246 => ?_)
        refine n_iconst hx hb dL_isTold_249 ?_
        refine lv_goto (tgt := 254) hx hb dL_isTold_250 (by decide) ?_
        refine W.widen (k := 228) (n := 867) (Nat.le_of_ble_eq_true rfl) (Nat.le_of_ble_eq_true rfl) ?_
        exact y_zret (b := true) ((ms, es, gE, gM, gB, gT, gG, gN, gK, gD), κ2, va_up fm 21 10007, fe, fg) hx hb hr hlocks dL_isTold_254 hP hD hS rfl ⟨rfl, hI2, (hL.m21 _).up⟩
      · refine lv_istore (lv' := [(9, .int (jI 10007)), (8, .int (jI (((two % 8) : Nat) : Int))), (7, .int (jI ((mo : Nat) : Int))), (0, .ref x0), (1, .ref am), (2, .ref ae), (3, .ref ag), (4, .int (jI 1)), (5, .int (jI ((one : Nat) : Int))), (6, .int (jI ((two : Nat) : Int)))]) hx hb dL_isTold_134 hl (by decide) rfl (fun ls hl => ?_)
        refine lv_iload hx hb dL_isTold_136 (lv_at hl 2 rfl) ?_
        refine lv_aload_n hx hb dL_isTold_138 rfl (lv_at hl 6 rfl) ?_
        refine n_iconst hx hb dL_isTold_139 ?_
        refine n_nalv (i := 0) (v := ((ms : Nat) : Int)) hx hb hK hP 2 0 rfl htI rfl (Nat.le_of_ble_eq_true rfl) (Nat.le_of_ble_eq_true rfl) (congrArg (fun z : Nat => (z : Int)) hg0) dL_isTold_140 ?_
        refine n_icmp_ge (tgt := 148) hx hb (by unfold r32; omega) (by unfold r32; omega) dL_isTold_141 (by decide) (fun h141 => False.elim (by omega)) (fun h141 => ?_)
        refine n_iconst hx hb dL_isTold_144 ?_
        refine lv_goto (tgt := 149) hx hb dL_isTold_145 (by decide) ?_
        refine lv_istore (lv' := [(10, .int (jI 1)), (9, .int (jI 10007)), (8, .int (jI (((two % 8) : Nat) : Int))), (7, .int (jI ((mo : Nat) : Int))), (0, .ref x0), (1, .ref am), (2, .ref ae), (3, .ref ag), (4, .int (jI 1)), (5, .int (jI ((one : Nat) : Int))), (6, .int (jI ((two : Nat) : Int)))]) hx hb dL_isTold_149 hl (by decide) rfl (fun ls hl => ?_)
        refine lv_iload hx hb dL_isTold_151 (lv_at hl 2 rfl) ?_
        refine n_bipush hx hb dL_isTold_153 (by decide) ?_
        refine n_icmp_ge (tgt := 170) hx hb (by unfold r32; omega) (by unfold r32; omega) dL_isTold_155 (by decide) (fun h155 => ?_) (fun h155 => False.elim (by omega))
        refine n_iconst hx hb dL_isTold_170 ?_
        refine lv_istore (lv' := [(11, .int (jI 0)), (10, .int (jI 1)), (9, .int (jI 10007)), (8, .int (jI (((two % 8) : Nat) : Int))), (7, .int (jI ((mo : Nat) : Int))), (0, .ref x0), (1, .ref am), (2, .ref ae), (3, .ref ag), (4, .int (jI 1)), (5, .int (jI ((one : Nat) : Int))), (6, .int (jI ((two : Nat) : Int)))]) hx hb dL_isTold_171 hl (by decide) rfl (fun ls hl => ?_)
        refine lv_iload hx hb dL_isTold_173 (lv_at hl 1 rfl) ?_
        refine n_if_eq (tgt := 194) hx hb (by unfold r32; decide) dL_isTold_175 (by decide) (fun h175 => False.elim (by revert h175; decide)) (fun h175 => ?_)
        refine lv_iload hx hb dL_isTold_178 (lv_at hl 0 rfl) ?_
        refine n_if_eq (tgt := 194) hx hb (by unfold r32; decide) dL_isTold_180 (by decide) (fun h180 => ?_) (fun h180 => False.elim (by revert h180; decide))
        refine n_bipush hx hb dL_isTold_194 (by decide) ?_
        refine lv_istore (lv' := [(12, .int (jI 21)), (11, .int (jI 0)), (10, .int (jI 1)), (9, .int (jI 10007)), (8, .int (jI (((two % 8) : Nat) : Int))), (7, .int (jI ((mo : Nat) : Int))), (0, .ref x0), (1, .ref am), (2, .ref ae), (3, .ref ag), (4, .int (jI 1)), (5, .int (jI ((one : Nat) : Int))), (6, .int (jI ((two : Nat) : Int)))]) hx hb dL_isTold_196 hl (by decide) rfl (fun ls hl => ?_)
        refine lv_aload_n hx hb dL_isTold_198 rfl (lv_at hl 7 rfl) ?_
        refine lv_iload hx hb dL_isTold_199 (lv_at hl 0 rfl) ?_
        refine n_iald (i := 21) hx hb hK hP 0 0 rfl htI rfl (Nat.le_of_ble_eq_true rfl) (Nat.le_of_ble_eq_true rfl) dL_isTold_201 ?_
        refine lv_istore (lv' := [(13, .int (jI (fm 21))), (12, .int (jI 21)), (11, .int (jI 0)), (10, .int (jI 1)), (9, .int (jI 10007)), (8, .int (jI (((two % 8) : Nat) : Int))), (7, .int (jI ((mo : Nat) : Int))), (0, .ref x0), (1, .ref am), (2, .ref ae), (3, .ref ag), (4, .int (jI 1)), (5, .int (jI ((one : Nat) : Int))), (6, .int (jI ((two : Nat) : Int)))]) hx hb dL_isTold_202 hl (by decide) rfl (fun ls hl => ?_)
        refine lv_aload_n hx hb dL_isTold_204 rfl (lv_at hl 8 rfl) ?_
        refine lv_iload hx hb dL_isTold_205 (lv_at hl 1 rfl) ?_
        refine lv_iload hx hb dL_isTold_207 (lv_at hl 4 rfl) ?_
        refine n_iast (i := 21) hx hb hK hP hD hS 0 0 rfl htI rfl (Nat.le_of_ble_eq_true rfl) (Nat.le_of_ble_eq_true rfl) dL_isTold_209 (fun H locs hP hD hS => ?_)
        have hP : va_P D vwCl ((am, .inl (cI, 22, .inl (fun i => jI ((va_up fm 21 10007) i)))) :: (ae, .inl (cI, 45, .inl (fun i => jI (fe i)))) :: (ag, .inl (cI, 2, .inl (fun i => jI ((fg i : Nat) : Int)))) :: (CW cI cE cG cM cS x0 q0 q1 qr (ms, es, gE, gM, gB, gT, gG, gN, gK, gD) κ)) H := hP
        have hD : va_D A ((am, .inl (cI, 22, .inl (fun i => jI ((va_up fm 21 10007) i)))) :: (ae, .inl (cI, 45, .inl (fun i => jI (fe i)))) :: (ag, .inl (cI, 2, .inl (fun i => jI ((fg i : Nat) : Int)))) :: (CW cI cE cG cM cS x0 q0 q1 qr (ms, es, gE, gM, gB, gT, gG, gN, gK, gD) κ)) := hD
        refine lv_aload_n hx hb dL_isTold_210 rfl (lv_at hl 7 rfl) ?_
        refine n_iconst hx hb dL_isTold_211 ?_
        refine lv_iload hx hb dL_isTold_212 (lv_at hl 6 rfl) ?_
        refine lv_iload hx hb dL_isTold_214 (lv_at hl 5 rfl) ?_
        refine lv_iload hx hb dL_isTold_216 (lv_at hl 4 rfl) ?_
        refine n_iconst hx hb dL_isTold_218 ?_
        refine n_iconst hx hb dL_isTold_219 ?_
        refine n_iconst hx hb dL_isTold_220 ?_
        have hC := d_entry2 l hl9 D tys htI htE htM htS htG x0 q0 q1 qr ms es gE gM gB gT gG gN gK gD κ hI mo ((two % 8 : Nat) : Int) 10007 (by omega) (by unfold r32; omega) (by unfold r32; omega) (by rw [inB_f (by omega)]; rfl)
        have hW := w_does_entry l D tys x0 q0 q1 qr ms es gE gM gB gT gG gN gK gD κ (jI ((mo : Nat) : Int)) (jI (((two % 8) : Nat) : Int)) (jI 10007) (jI 0) (jI 0) (jI 0) (ms, es, gE, gM, gB, gT, gG, gN, gK, gD) 2 _ hC
        have hP : va_P D vwCl ((CW cI cE cG cM cS x0 q0 q1 qr (ms, es, gE, gM, gB, gT, gG, gN, gK, gD) κ) ++ [(am, .inl (cI, 22, .inl (fun i => jI ((va_up fm 21 10007) i)))), (ae, .inl (cI, 45, .inl (fun i => jI (fe i)))), (ag, .inl (cI, 2, .inl (fun i => jI ((fg i : Nat) : Int))))]) H := hP.perm (List.perm_append_comm (l₁ := ([(am, .inl (cI, 22, .inl (fun i => jI ((va_up fm 21 10007) i)))), (ae, .inl (cI, 45, .inl (fun i => jI (fe i)))), (ag, .inl (cI, 2, .inl (fun i => jI ((fg i : Nat) : Int))))] : va_W)) (l₂ := (CW cI cE cG cM cS x0 q0 q1 qr (ms, es, gE, gM, gB, gT, gG, gN, gK, gD) κ)))
        have hD : va_D A ((CW cI cE cG cM cS x0 q0 q1 qr (ms, es, gE, gM, gB, gT, gG, gN, gK, gD) κ) ++ [(am, .inl (cI, 22, .inl (fun i => jI ((va_up fm 21 10007) i)))), (ae, .inl (cI, 45, .inl (fun i => jI (fe i)))), (ag, .inl (cI, 2, .inl (fun i => jI ((fg i : Nat) : Int))))]) := hD.perm (List.perm_append_comm (l₁ := ([(am, .inl (cI, 22, .inl (fun i => jI ((va_up fm 21 10007) i)))), (ae, .inl (cI, 45, .inl (fun i => jI (fe i)))), (ag, .inl (cI, 2, .inl (fun i => jI ((fg i : Nat) : Int))))] : va_W)) (l₂ := (CW cI cE cG cM cS x0 q0 q1 qr (ms, es, gE, gM, gB, gT, gG, gN, gK, gD) κ)))
        refine a_goNI (vx_runSW (As := [.ref x0, .int (jI 1), .int (jI ((mo : Nat) : Int)), .int (jI (((two % 8) : Nat) : Int)), .int (jI 10007), .int (jI 0), .int (jI 0), .int (jI 0)]) (rest := []) ⟨hx, hb, hml, hown, hts⟩ (hW _) (vx_cwSW 8 hts gL_isTold_L_does rfl rfl rfl (by decide +kernel) ⟨(Nat.le_of_ble_eq_true rfl), (Nat.le_of_ble_eq_true rfl)⟩) (c_pre hK hXK hZ hN hP hD hS hA) rfl rfl hl.1 rfl (lv_room (Nat.le_of_ble_eq_true rfl)) dL_isTold_221 ⟨(Nat.le_of_ble_eq_true rfl), (Nat.le_of_ble_eq_true rfl)⟩) hP hD hS hA (fun r κ2 H locs hpost hP hD hS => ?_)
        obtain ⟨hr9, hI2⟩ := hpost
        have hr9 : r = jI (-2) := hr9
        subst hr9
        have hP : va_P D vwCl ((CW cI cE cG cM cS x0 q0 q1 qr (ms, es, gE, gM, gB, gT, gG, gN, gK, gD) κ2) ++ [(am, .inl (cI, 22, .inl (fun i => jI ((va_up fm 21 10007) i)))), (ae, .inl (cI, 45, .inl (fun i => jI (fe i)))), (ag, .inl (cI, 2, .inl (fun i => jI ((fg i : Nat) : Int))))]) H := hP
        have hD : va_D A ((CW cI cE cG cM cS x0 q0 q1 qr (ms, es, gE, gM, gB, gT, gG, gN, gK, gD) κ2) ++ [(am, .inl (cI, 22, .inl (fun i => jI ((va_up fm 21 10007) i)))), (ae, .inl (cI, 45, .inl (fun i => jI (fe i)))), (ag, .inl (cI, 2, .inl (fun i => jI ((fg i : Nat) : Int))))]) := hD
        have hP : va_P D vwCl ((am, .inl (cI, 22, .inl (fun i => jI ((va_up fm 21 10007) i)))) :: (ae, .inl (cI, 45, .inl (fun i => jI (fe i)))) :: (ag, .inl (cI, 2, .inl (fun i => jI ((fg i : Nat) : Int)))) :: (CW cI cE cG cM cS x0 q0 q1 qr (ms, es, gE, gM, gB, gT, gG, gN, gK, gD) κ2)) H := hP.perm (List.perm_append_comm (l₁ := (CW cI cE cG cM cS x0 q0 q1 qr (ms, es, gE, gM, gB, gT, gG, gN, gK, gD) κ2)) (l₂ := ([(am, .inl (cI, 22, .inl (fun i => jI ((va_up fm 21 10007) i)))), (ae, .inl (cI, 45, .inl (fun i => jI (fe i)))), (ag, .inl (cI, 2, .inl (fun i => jI ((fg i : Nat) : Int))))] : va_W)))
        have hD : va_D A ((am, .inl (cI, 22, .inl (fun i => jI ((va_up fm 21 10007) i)))) :: (ae, .inl (cI, 45, .inl (fun i => jI (fe i)))) :: (ag, .inl (cI, 2, .inl (fun i => jI ((fg i : Nat) : Int)))) :: (CW cI cE cG cM cS x0 q0 q1 qr (ms, es, gE, gM, gB, gT, gG, gN, gK, gD) κ2)) := hD.perm (List.perm_append_comm (l₁ := (CW cI cE cG cM cS x0 q0 q1 qr (ms, es, gE, gM, gB, gT, gG, gN, gK, gD) κ2)) (l₂ := ([(am, .inl (cI, 22, .inl (fun i => jI ((va_up fm 21 10007) i)))), (ae, .inl (cI, 45, .inl (fun i => jI (fe i)))), (ag, .inl (cI, 2, .inl (fun i => jI ((fg i : Nat) : Int))))] : va_W)))
        refine lv_iload hx hb dL_isTold_224 (lv_at hl 3 rfl) ?_
        refine n_if_ne (tgt := 234) hx hb (by unfold r32; decide) dL_isTold_226 (by decide) (fun h226 => ?_) (fun h226 => False.elim (by revert h226; decide))
        refine lv_iload hx hb dL_isTold_234 (lv_at hl 2 rfl) ?_
        refine n_if_eq (tgt := 244) hx hb (by unfold r32; decide) dL_isTold_236 (by decide) (fun h236 => ?_) (fun h236 => False.elim (by revert h236; decide))
        refine n_bipush hx hb dL_isTold_244 (by decide) ?_
        refine n_icmp_ne (tgt := 253) hx hb (by unfold r32; omega) (by unfold r32; omega) dL_isTold_246 (by decide) (fun h246 => False.elim (h246 rfl)) (fun h246 => ?_)
        refine n_iconst hx hb dL_isTold_249 ?_
        refine lv_goto (tgt := 254) hx hb dL_isTold_250 (by decide) ?_
        refine W.widen (k := 228) (n := 867) (Nat.le_of_ble_eq_true rfl) (Nat.le_of_ble_eq_true rfl) ?_
        exact y_zret (b := true) ((ms, es, gE, gM, gB, gT, gG, gN, gK, gD), κ2, va_up fm 21 10007, fe, fg) hx hb hr hlocks dL_isTold_254 hP hD hS rfl ⟨rfl, hI2, (hL.m21 _).up⟩
    · by_cases hwh : two % 8 < 7
      · refine lv_istore (lv' := [(9, .int (jI 10007)), (8, .int (jI (((two % 8) : Nat) : Int))), (7, .int (jI ((mo : Nat) : Int))), (0, .ref x0), (1, .ref am), (2, .ref ae), (3, .ref ag), (4, .int (jI 1)), (5, .int (jI ((one : Nat) : Int))), (6, .int (jI ((two : Nat) : Int)))]) hx hb dL_isTold_134 hl (by decide) rfl (fun ls hl => ?_)
        refine lv_iload hx hb dL_isTold_136 (lv_at hl 2 rfl) ?_
        refine lv_aload_n hx hb dL_isTold_138 rfl (lv_at hl 6 rfl) ?_
        refine n_iconst hx hb dL_isTold_139 ?_
        refine n_nalv (i := 0) (v := ((ms : Nat) : Int)) hx hb hK hP 2 0 rfl htI rfl (Nat.le_of_ble_eq_true rfl) (Nat.le_of_ble_eq_true rfl) (congrArg (fun z : Nat => (z : Int)) hg0) dL_isTold_140 ?_
        refine n_icmp_ge (tgt := 148) hx hb (by unfold r32; omega) (by unfold r32; omega) dL_isTold_141 (by decide) (fun h141 => ?_) (fun h141 => False.elim (by omega))
        refine n_iconst hx hb dL_isTold_148 ?_
        refine lv_istore (lv' := [(10, .int (jI 0)), (9, .int (jI 10007)), (8, .int (jI (((two % 8) : Nat) : Int))), (7, .int (jI ((mo : Nat) : Int))), (0, .ref x0), (1, .ref am), (2, .ref ae), (3, .ref ag), (4, .int (jI 1)), (5, .int (jI ((one : Nat) : Int))), (6, .int (jI ((two : Nat) : Int)))]) hx hb dL_isTold_149 hl (by decide) rfl (fun ls hl => ?_)
        refine lv_iload hx hb dL_isTold_151 (lv_at hl 2 rfl) ?_
        refine n_bipush hx hb dL_isTold_153 (by decide) ?_
        refine n_icmp_ge (tgt := 170) hx hb (by unfold r32; omega) (by unfold r32; omega) dL_isTold_155 (by decide) (fun h155 => False.elim (by omega)) (fun h155 => ?_)
        refine lv_iload hx hb dL_isTold_158 (lv_at hl 1 rfl) ?_
        refine n_sipush hx hb dL_isTold_160 (by decide) ?_
        refine n_icmp_ge (tgt := 170) hx hb (by unfold r32; omega) (by unfold r32; omega) dL_isTold_163 (by decide) (fun h163 => ?_) (fun h163 => False.elim (by omega))
        refine n_iconst hx hb dL_isTold_170 ?_
        refine lv_istore (lv' := [(11, .int (jI 0)), (10, .int (jI 0)), (9, .int (jI 10007)), (8, .int (jI (((two % 8) : Nat) : Int))), (7, .int (jI ((mo : Nat) : Int))), (0, .ref x0), (1, .ref am), (2, .ref ae), (3, .ref ag), (4, .int (jI 1)), (5, .int (jI ((one : Nat) : Int))), (6, .int (jI ((two : Nat) : Int)))]) hx hb dL_isTold_171 hl (by decide) rfl (fun ls hl => ?_)
        refine lv_iload hx hb dL_isTold_173 (lv_at hl 1 rfl) ?_
        refine n_if_eq (tgt := 194) hx hb (by unfold r32; decide) dL_isTold_175 (by decide) (fun h175 => ?_) (fun h175 => False.elim (by revert h175; decide))
        refine n_bipush hx hb dL_isTold_194 (by decide) ?_
        refine lv_istore (lv' := [(12, .int (jI 21)), (11, .int (jI 0)), (10, .int (jI 0)), (9, .int (jI 10007)), (8, .int (jI (((two % 8) : Nat) : Int))), (7, .int (jI ((mo : Nat) : Int))), (0, .ref x0), (1, .ref am), (2, .ref ae), (3, .ref ag), (4, .int (jI 1)), (5, .int (jI ((one : Nat) : Int))), (6, .int (jI ((two : Nat) : Int)))]) hx hb dL_isTold_196 hl (by decide) rfl (fun ls hl => ?_)
        refine lv_aload_n hx hb dL_isTold_198 rfl (lv_at hl 7 rfl) ?_
        refine lv_iload hx hb dL_isTold_199 (lv_at hl 0 rfl) ?_
        refine n_iald (i := 21) hx hb hK hP 0 0 rfl htI rfl (Nat.le_of_ble_eq_true rfl) (Nat.le_of_ble_eq_true rfl) dL_isTold_201 ?_
        refine lv_istore (lv' := [(13, .int (jI (fm 21))), (12, .int (jI 21)), (11, .int (jI 0)), (10, .int (jI 0)), (9, .int (jI 10007)), (8, .int (jI (((two % 8) : Nat) : Int))), (7, .int (jI ((mo : Nat) : Int))), (0, .ref x0), (1, .ref am), (2, .ref ae), (3, .ref ag), (4, .int (jI 1)), (5, .int (jI ((one : Nat) : Int))), (6, .int (jI ((two : Nat) : Int)))]) hx hb dL_isTold_202 hl (by decide) rfl (fun ls hl => ?_)
        refine lv_aload_n hx hb dL_isTold_204 rfl (lv_at hl 8 rfl) ?_
        refine lv_iload hx hb dL_isTold_205 (lv_at hl 1 rfl) ?_
        refine lv_iload hx hb dL_isTold_207 (lv_at hl 4 rfl) ?_
        refine n_iast (i := 21) hx hb hK hP hD hS 0 0 rfl htI rfl (Nat.le_of_ble_eq_true rfl) (Nat.le_of_ble_eq_true rfl) dL_isTold_209 (fun H locs hP hD hS => ?_)
        have hP : va_P D vwCl ((am, .inl (cI, 22, .inl (fun i => jI ((va_up fm 21 10007) i)))) :: (ae, .inl (cI, 45, .inl (fun i => jI (fe i)))) :: (ag, .inl (cI, 2, .inl (fun i => jI ((fg i : Nat) : Int)))) :: (CW cI cE cG cM cS x0 q0 q1 qr (ms, es, gE, gM, gB, gT, gG, gN, gK, gD) κ)) H := hP
        have hD : va_D A ((am, .inl (cI, 22, .inl (fun i => jI ((va_up fm 21 10007) i)))) :: (ae, .inl (cI, 45, .inl (fun i => jI (fe i)))) :: (ag, .inl (cI, 2, .inl (fun i => jI ((fg i : Nat) : Int)))) :: (CW cI cE cG cM cS x0 q0 q1 qr (ms, es, gE, gM, gB, gT, gG, gN, gK, gD) κ)) := hD
        refine lv_aload_n hx hb dL_isTold_210 rfl (lv_at hl 7 rfl) ?_
        refine n_iconst hx hb dL_isTold_211 ?_
        refine lv_iload hx hb dL_isTold_212 (lv_at hl 6 rfl) ?_
        refine lv_iload hx hb dL_isTold_214 (lv_at hl 5 rfl) ?_
        refine lv_iload hx hb dL_isTold_216 (lv_at hl 4 rfl) ?_
        refine n_iconst hx hb dL_isTold_218 ?_
        refine n_iconst hx hb dL_isTold_219 ?_
        refine n_iconst hx hb dL_isTold_220 ?_
        have hC := d_entry1 l hl9 D tys htI htE htM htS htG x0 q0 q1 qr ms es gE gM gB gT gG gN gK gD κ hI ((mo : Nat) : Int) ((two % 8 : Nat) : Int) 10007 (by unfold r32; omega) (by unfold r32; omega) (by unfold r32; omega) (inB_f (by omega))
        have hW := w_does_entry l D tys x0 q0 q1 qr ms es gE gM gB gT gG gN gK gD κ (jI ((mo : Nat) : Int)) (jI (((two % 8) : Nat) : Int)) (jI 10007) (jI 0) (jI 0) (jI 0) (ms, es, gE, gM, gB, gT, gG, gN, gK, gD) 1 _ hC
        have hP : va_P D vwCl ((CW cI cE cG cM cS x0 q0 q1 qr (ms, es, gE, gM, gB, gT, gG, gN, gK, gD) κ) ++ [(am, .inl (cI, 22, .inl (fun i => jI ((va_up fm 21 10007) i)))), (ae, .inl (cI, 45, .inl (fun i => jI (fe i)))), (ag, .inl (cI, 2, .inl (fun i => jI ((fg i : Nat) : Int))))]) H := hP.perm (List.perm_append_comm (l₁ := ([(am, .inl (cI, 22, .inl (fun i => jI ((va_up fm 21 10007) i)))), (ae, .inl (cI, 45, .inl (fun i => jI (fe i)))), (ag, .inl (cI, 2, .inl (fun i => jI ((fg i : Nat) : Int))))] : va_W)) (l₂ := (CW cI cE cG cM cS x0 q0 q1 qr (ms, es, gE, gM, gB, gT, gG, gN, gK, gD) κ)))
        have hD : va_D A ((CW cI cE cG cM cS x0 q0 q1 qr (ms, es, gE, gM, gB, gT, gG, gN, gK, gD) κ) ++ [(am, .inl (cI, 22, .inl (fun i => jI ((va_up fm 21 10007) i)))), (ae, .inl (cI, 45, .inl (fun i => jI (fe i)))), (ag, .inl (cI, 2, .inl (fun i => jI ((fg i : Nat) : Int))))]) := hD.perm (List.perm_append_comm (l₁ := ([(am, .inl (cI, 22, .inl (fun i => jI ((va_up fm 21 10007) i)))), (ae, .inl (cI, 45, .inl (fun i => jI (fe i)))), (ag, .inl (cI, 2, .inl (fun i => jI ((fg i : Nat) : Int))))] : va_W)) (l₂ := (CW cI cE cG cM cS x0 q0 q1 qr (ms, es, gE, gM, gB, gT, gG, gN, gK, gD) κ)))
        refine a_goNI (vx_runSW (As := [.ref x0, .int (jI 1), .int (jI ((mo : Nat) : Int)), .int (jI (((two % 8) : Nat) : Int)), .int (jI 10007), .int (jI 0), .int (jI 0), .int (jI 0)]) (rest := []) ⟨hx, hb, hml, hown, hts⟩ (hW _) (vx_cwSW 8 hts gL_isTold_L_does rfl rfl rfl (by decide +kernel) ⟨(Nat.le_of_ble_eq_true rfl), (Nat.le_of_ble_eq_true rfl)⟩) (c_pre hK hXK hZ hN hP hD hS hA) rfl rfl hl.1 rfl (lv_room (Nat.le_of_ble_eq_true rfl)) dL_isTold_221 ⟨(Nat.le_of_ble_eq_true rfl), (Nat.le_of_ble_eq_true rfl)⟩) hP hD hS hA (fun r κ2 H locs hpost hP hD hS => ?_)
        obtain ⟨hr9, hI2⟩ := hpost
        have hr9 : r = jI (-3) := hr9
        subst hr9
        have hP : va_P D vwCl ((CW cI cE cG cM cS x0 q0 q1 qr (ms, es, gE, gM, gB, gT, gG, gN, gK, gD) κ2) ++ [(am, .inl (cI, 22, .inl (fun i => jI ((va_up fm 21 10007) i)))), (ae, .inl (cI, 45, .inl (fun i => jI (fe i)))), (ag, .inl (cI, 2, .inl (fun i => jI ((fg i : Nat) : Int))))]) H := hP
        have hD : va_D A ((CW cI cE cG cM cS x0 q0 q1 qr (ms, es, gE, gM, gB, gT, gG, gN, gK, gD) κ2) ++ [(am, .inl (cI, 22, .inl (fun i => jI ((va_up fm 21 10007) i)))), (ae, .inl (cI, 45, .inl (fun i => jI (fe i)))), (ag, .inl (cI, 2, .inl (fun i => jI ((fg i : Nat) : Int))))]) := hD
        have hP : va_P D vwCl ((am, .inl (cI, 22, .inl (fun i => jI ((va_up fm 21 10007) i)))) :: (ae, .inl (cI, 45, .inl (fun i => jI (fe i)))) :: (ag, .inl (cI, 2, .inl (fun i => jI ((fg i : Nat) : Int)))) :: (CW cI cE cG cM cS x0 q0 q1 qr (ms, es, gE, gM, gB, gT, gG, gN, gK, gD) κ2)) H := hP.perm (List.perm_append_comm (l₁ := (CW cI cE cG cM cS x0 q0 q1 qr (ms, es, gE, gM, gB, gT, gG, gN, gK, gD) κ2)) (l₂ := ([(am, .inl (cI, 22, .inl (fun i => jI ((va_up fm 21 10007) i)))), (ae, .inl (cI, 45, .inl (fun i => jI (fe i)))), (ag, .inl (cI, 2, .inl (fun i => jI ((fg i : Nat) : Int))))] : va_W)))
        have hD : va_D A ((am, .inl (cI, 22, .inl (fun i => jI ((va_up fm 21 10007) i)))) :: (ae, .inl (cI, 45, .inl (fun i => jI (fe i)))) :: (ag, .inl (cI, 2, .inl (fun i => jI ((fg i : Nat) : Int)))) :: (CW cI cE cG cM cS x0 q0 q1 qr (ms, es, gE, gM, gB, gT, gG, gN, gK, gD) κ2)) := hD.perm (List.perm_append_comm (l₁ := (CW cI cE cG cM cS x0 q0 q1 qr (ms, es, gE, gM, gB, gT, gG, gN, gK, gD) κ2)) (l₂ := ([(am, .inl (cI, 22, .inl (fun i => jI ((va_up fm 21 10007) i)))), (ae, .inl (cI, 45, .inl (fun i => jI (fe i)))), (ag, .inl (cI, 2, .inl (fun i => jI ((fg i : Nat) : Int))))] : va_W)))
        refine lv_iload hx hb dL_isTold_224 (lv_at hl 3 rfl) ?_
        refine n_if_ne (tgt := 234) hx hb (by unfold r32; decide) dL_isTold_226 (by decide) (fun h226 => False.elim (by revert h226; decide)) (fun h226 => ?_)
        refine n_bipush hx hb dL_isTold_229 (by decide) ?_
        refine lv_goto (tgt := 246) hx hb dL_isTold_231 (by decide) ?_
        refine n_icmp_ne (tgt := 253) hx hb (by unfold r32; omega) (by unfold r32; omega) dL_isTold_246 (by decide) (fun h246 => False.elim (h246 rfl)) (fun h246 => ?_)
        refine n_iconst hx hb dL_isTold_249 ?_
        refine lv_goto (tgt := 254) hx hb dL_isTold_250 (by decide) ?_
        refine W.widen (k := 228) (n := 867) (Nat.le_of_ble_eq_true rfl) (Nat.le_of_ble_eq_true rfl) ?_
        exact y_zret (b := true) ((ms, es, gE, gM, gB, gT, gG, gN, gK, gD), κ2, va_up fm 21 10007, fe, fg) hx hb hr hlocks dL_isTold_254 hP hD hS rfl ⟨rfl, hI2, (hL.m21 _).up⟩
      · refine lv_istore (lv' := [(9, .int (jI 10007)), (8, .int (jI (((two % 8) : Nat) : Int))), (7, .int (jI ((mo : Nat) : Int))), (0, .ref x0), (1, .ref am), (2, .ref ae), (3, .ref ag), (4, .int (jI 1)), (5, .int (jI ((one : Nat) : Int))), (6, .int (jI ((two : Nat) : Int)))]) hx hb dL_isTold_134 hl (by decide) rfl (fun ls hl => ?_)
        refine lv_iload hx hb dL_isTold_136 (lv_at hl 2 rfl) ?_
        refine lv_aload_n hx hb dL_isTold_138 rfl (lv_at hl 6 rfl) ?_
        refine n_iconst hx hb dL_isTold_139 ?_
        refine n_nalv (i := 0) (v := ((ms : Nat) : Int)) hx hb hK hP 2 0 rfl htI rfl (Nat.le_of_ble_eq_true rfl) (Nat.le_of_ble_eq_true rfl) (congrArg (fun z : Nat => (z : Int)) hg0) dL_isTold_140 ?_
        refine n_icmp_ge (tgt := 148) hx hb (by unfold r32; omega) (by unfold r32; omega) dL_isTold_141 (by decide) (fun h141 => ?_) (fun h141 => False.elim (by omega))
        refine n_iconst hx hb dL_isTold_148 ?_
        refine lv_istore (lv' := [(10, .int (jI 0)), (9, .int (jI 10007)), (8, .int (jI (((two % 8) : Nat) : Int))), (7, .int (jI ((mo : Nat) : Int))), (0, .ref x0), (1, .ref am), (2, .ref ae), (3, .ref ag), (4, .int (jI 1)), (5, .int (jI ((one : Nat) : Int))), (6, .int (jI ((two : Nat) : Int)))]) hx hb dL_isTold_149 hl (by decide) rfl (fun ls hl => ?_)
        refine lv_iload hx hb dL_isTold_151 (lv_at hl 2 rfl) ?_
        refine n_bipush hx hb dL_isTold_153 (by decide) ?_
        refine n_icmp_ge (tgt := 170) hx hb (by unfold r32; omega) (by unfold r32; omega) dL_isTold_155 (by decide) (fun h155 => ?_) (fun h155 => False.elim (by omega))
        refine n_iconst hx hb dL_isTold_170 ?_
        refine lv_istore (lv' := [(11, .int (jI 0)), (10, .int (jI 0)), (9, .int (jI 10007)), (8, .int (jI (((two % 8) : Nat) : Int))), (7, .int (jI ((mo : Nat) : Int))), (0, .ref x0), (1, .ref am), (2, .ref ae), (3, .ref ag), (4, .int (jI 1)), (5, .int (jI ((one : Nat) : Int))), (6, .int (jI ((two : Nat) : Int)))]) hx hb dL_isTold_171 hl (by decide) rfl (fun ls hl => ?_)
        refine lv_iload hx hb dL_isTold_173 (lv_at hl 1 rfl) ?_
        refine n_if_eq (tgt := 194) hx hb (by unfold r32; decide) dL_isTold_175 (by decide) (fun h175 => ?_) (fun h175 => False.elim (by revert h175; decide))
        refine n_bipush hx hb dL_isTold_194 (by decide) ?_
        refine lv_istore (lv' := [(12, .int (jI 21)), (11, .int (jI 0)), (10, .int (jI 0)), (9, .int (jI 10007)), (8, .int (jI (((two % 8) : Nat) : Int))), (7, .int (jI ((mo : Nat) : Int))), (0, .ref x0), (1, .ref am), (2, .ref ae), (3, .ref ag), (4, .int (jI 1)), (5, .int (jI ((one : Nat) : Int))), (6, .int (jI ((two : Nat) : Int)))]) hx hb dL_isTold_196 hl (by decide) rfl (fun ls hl => ?_)
        refine lv_aload_n hx hb dL_isTold_198 rfl (lv_at hl 7 rfl) ?_
        refine lv_iload hx hb dL_isTold_199 (lv_at hl 0 rfl) ?_
        refine n_iald (i := 21) hx hb hK hP 0 0 rfl htI rfl (Nat.le_of_ble_eq_true rfl) (Nat.le_of_ble_eq_true rfl) dL_isTold_201 ?_
        refine lv_istore (lv' := [(13, .int (jI (fm 21))), (12, .int (jI 21)), (11, .int (jI 0)), (10, .int (jI 0)), (9, .int (jI 10007)), (8, .int (jI (((two % 8) : Nat) : Int))), (7, .int (jI ((mo : Nat) : Int))), (0, .ref x0), (1, .ref am), (2, .ref ae), (3, .ref ag), (4, .int (jI 1)), (5, .int (jI ((one : Nat) : Int))), (6, .int (jI ((two : Nat) : Int)))]) hx hb dL_isTold_202 hl (by decide) rfl (fun ls hl => ?_)
        refine lv_aload_n hx hb dL_isTold_204 rfl (lv_at hl 8 rfl) ?_
        refine lv_iload hx hb dL_isTold_205 (lv_at hl 1 rfl) ?_
        refine lv_iload hx hb dL_isTold_207 (lv_at hl 4 rfl) ?_
        refine n_iast (i := 21) hx hb hK hP hD hS 0 0 rfl htI rfl (Nat.le_of_ble_eq_true rfl) (Nat.le_of_ble_eq_true rfl) dL_isTold_209 (fun H locs hP hD hS => ?_)
        have hP : va_P D vwCl ((am, .inl (cI, 22, .inl (fun i => jI ((va_up fm 21 10007) i)))) :: (ae, .inl (cI, 45, .inl (fun i => jI (fe i)))) :: (ag, .inl (cI, 2, .inl (fun i => jI ((fg i : Nat) : Int)))) :: (CW cI cE cG cM cS x0 q0 q1 qr (ms, es, gE, gM, gB, gT, gG, gN, gK, gD) κ)) H := hP
        have hD : va_D A ((am, .inl (cI, 22, .inl (fun i => jI ((va_up fm 21 10007) i)))) :: (ae, .inl (cI, 45, .inl (fun i => jI (fe i)))) :: (ag, .inl (cI, 2, .inl (fun i => jI ((fg i : Nat) : Int)))) :: (CW cI cE cG cM cS x0 q0 q1 qr (ms, es, gE, gM, gB, gT, gG, gN, gK, gD) κ)) := hD
        refine lv_aload_n hx hb dL_isTold_210 rfl (lv_at hl 7 rfl) ?_
        refine n_iconst hx hb dL_isTold_211 ?_
        refine lv_iload hx hb dL_isTold_212 (lv_at hl 6 rfl) ?_
        refine lv_iload hx hb dL_isTold_214 (lv_at hl 5 rfl) ?_
        refine lv_iload hx hb dL_isTold_216 (lv_at hl 4 rfl) ?_
        refine n_iconst hx hb dL_isTold_218 ?_
        refine n_iconst hx hb dL_isTold_219 ?_
        refine n_iconst hx hb dL_isTold_220 ?_
        have hC := d_entry1 l hl9 D tys htI htE htM htS htG x0 q0 q1 qr ms es gE gM gB gT gG gN gK gD κ hI ((mo : Nat) : Int) ((two % 8 : Nat) : Int) 10007 (by unfold r32; omega) (by unfold r32; omega) (by unfold r32; omega) (inB_f (by omega))
        have hW := w_does_entry l D tys x0 q0 q1 qr ms es gE gM gB gT gG gN gK gD κ (jI ((mo : Nat) : Int)) (jI (((two % 8) : Nat) : Int)) (jI 10007) (jI 0) (jI 0) (jI 0) (ms, es, gE, gM, gB, gT, gG, gN, gK, gD) 1 _ hC
        have hP : va_P D vwCl ((CW cI cE cG cM cS x0 q0 q1 qr (ms, es, gE, gM, gB, gT, gG, gN, gK, gD) κ) ++ [(am, .inl (cI, 22, .inl (fun i => jI ((va_up fm 21 10007) i)))), (ae, .inl (cI, 45, .inl (fun i => jI (fe i)))), (ag, .inl (cI, 2, .inl (fun i => jI ((fg i : Nat) : Int))))]) H := hP.perm (List.perm_append_comm (l₁ := ([(am, .inl (cI, 22, .inl (fun i => jI ((va_up fm 21 10007) i)))), (ae, .inl (cI, 45, .inl (fun i => jI (fe i)))), (ag, .inl (cI, 2, .inl (fun i => jI ((fg i : Nat) : Int))))] : va_W)) (l₂ := (CW cI cE cG cM cS x0 q0 q1 qr (ms, es, gE, gM, gB, gT, gG, gN, gK, gD) κ)))
        have hD : va_D A ((CW cI cE cG cM cS x0 q0 q1 qr (ms, es, gE, gM, gB, gT, gG, gN, gK, gD) κ) ++ [(am, .inl (cI, 22, .inl (fun i => jI ((va_up fm 21 10007) i)))), (ae, .inl (cI, 45, .inl (fun i => jI (fe i)))), (ag, .inl (cI, 2, .inl (fun i => jI ((fg i : Nat) : Int))))]) := hD.perm (List.perm_append_comm (l₁ := ([(am, .inl (cI, 22, .inl (fun i => jI ((va_up fm 21 10007) i)))), (ae, .inl (cI, 45, .inl (fun i => jI (fe i)))), (ag, .inl (cI, 2, .inl (fun i => jI ((fg i : Nat) : Int))))] : va_W)) (l₂ := (CW cI cE cG cM cS x0 q0 q1 qr (ms, es, gE, gM, gB, gT, gG, gN, gK, gD) κ)))
        refine a_goNI (vx_runSW (As := [.ref x0, .int (jI 1), .int (jI ((mo : Nat) : Int)), .int (jI (((two % 8) : Nat) : Int)), .int (jI 10007), .int (jI 0), .int (jI 0), .int (jI 0)]) (rest := []) ⟨hx, hb, hml, hown, hts⟩ (hW _) (vx_cwSW 8 hts gL_isTold_L_does rfl rfl rfl (by decide +kernel) ⟨(Nat.le_of_ble_eq_true rfl), (Nat.le_of_ble_eq_true rfl)⟩) (c_pre hK hXK hZ hN hP hD hS hA) rfl rfl hl.1 rfl (lv_room (Nat.le_of_ble_eq_true rfl)) dL_isTold_221 ⟨(Nat.le_of_ble_eq_true rfl), (Nat.le_of_ble_eq_true rfl)⟩) hP hD hS hA (fun r κ2 H locs hpost hP hD hS => ?_)
        obtain ⟨hr9, hI2⟩ := hpost
        have hr9 : r = jI (-3) := hr9
        subst hr9
        have hP : va_P D vwCl ((CW cI cE cG cM cS x0 q0 q1 qr (ms, es, gE, gM, gB, gT, gG, gN, gK, gD) κ2) ++ [(am, .inl (cI, 22, .inl (fun i => jI ((va_up fm 21 10007) i)))), (ae, .inl (cI, 45, .inl (fun i => jI (fe i)))), (ag, .inl (cI, 2, .inl (fun i => jI ((fg i : Nat) : Int))))]) H := hP
        have hD : va_D A ((CW cI cE cG cM cS x0 q0 q1 qr (ms, es, gE, gM, gB, gT, gG, gN, gK, gD) κ2) ++ [(am, .inl (cI, 22, .inl (fun i => jI ((va_up fm 21 10007) i)))), (ae, .inl (cI, 45, .inl (fun i => jI (fe i)))), (ag, .inl (cI, 2, .inl (fun i => jI ((fg i : Nat) : Int))))]) := hD
        have hP : va_P D vwCl ((am, .inl (cI, 22, .inl (fun i => jI ((va_up fm 21 10007) i)))) :: (ae, .inl (cI, 45, .inl (fun i => jI (fe i)))) :: (ag, .inl (cI, 2, .inl (fun i => jI ((fg i : Nat) : Int)))) :: (CW cI cE cG cM cS x0 q0 q1 qr (ms, es, gE, gM, gB, gT, gG, gN, gK, gD) κ2)) H := hP.perm (List.perm_append_comm (l₁ := (CW cI cE cG cM cS x0 q0 q1 qr (ms, es, gE, gM, gB, gT, gG, gN, gK, gD) κ2)) (l₂ := ([(am, .inl (cI, 22, .inl (fun i => jI ((va_up fm 21 10007) i)))), (ae, .inl (cI, 45, .inl (fun i => jI (fe i)))), (ag, .inl (cI, 2, .inl (fun i => jI ((fg i : Nat) : Int))))] : va_W)))
        have hD : va_D A ((am, .inl (cI, 22, .inl (fun i => jI ((va_up fm 21 10007) i)))) :: (ae, .inl (cI, 45, .inl (fun i => jI (fe i)))) :: (ag, .inl (cI, 2, .inl (fun i => jI ((fg i : Nat) : Int)))) :: (CW cI cE cG cM cS x0 q0 q1 qr (ms, es, gE, gM, gB, gT, gG, gN, gK, gD) κ2)) := hD.perm (List.perm_append_comm (l₁ := (CW cI cE cG cM cS x0 q0 q1 qr (ms, es, gE, gM, gB, gT, gG, gN, gK, gD) κ2)) (l₂ := ([(am, .inl (cI, 22, .inl (fun i => jI ((va_up fm 21 10007) i)))), (ae, .inl (cI, 45, .inl (fun i => jI (fe i)))), (ag, .inl (cI, 2, .inl (fun i => jI ((fg i : Nat) : Int))))] : va_W)))
        refine lv_iload hx hb dL_isTold_224 (lv_at hl 3 rfl) ?_
        refine n_if_ne (tgt := 234) hx hb (by unfold r32; decide) dL_isTold_226 (by decide) (fun h226 => False.elim (by revert h226; decide)) (fun h226 => ?_)
        refine n_bipush hx hb dL_isTold_229 (by decide) ?_
        refine lv_goto (tgt := 246) hx hb dL_isTold_231 (by decide) ?_
        refine n_icmp_ne (tgt := 253) hx hb (by unfold r32; omega) (by unfold r32; omega) dL_isTold_246 (by decide) (fun h246 => False.elim (h246 rfl)) (fun h246 => ?_)
        refine n_iconst hx hb dL_isTold_249 ?_
        refine lv_goto (tgt := 254) hx hb dL_isTold_250 (by decide) ?_
        refine W.widen (k := 228) (n := 867) (Nat.le_of_ble_eq_true rfl) (Nat.le_of_ble_eq_true rfl) ?_
        exact y_zret (b := true) ((ms, es, gE, gM, gB, gT, gG, gN, gK, gD), κ2, va_up fm 21 10007, fe, fg) hx hb hr hlocks dL_isTold_254 hP hD hS rfl ⟨rfl, hI2, (hL.m21 _).up⟩
  · by_cases h03 : one / 4 % 3 = 0
    · refine lv_iload hx hb dL_isTold_0 (lv_at hl 4 rfl) ?_
      refine n_if_ne (tgt := 66) hx hb (by unfold r32; decide) dL_isTold_2 (by decide) (fun h2 => ?_) (fun h2 => False.elim (by revert h2; decide))
      refine lv_iload hx hb dL_isTold_66 (lv_at hl 5 rfl) ?_
      refine lv_aload_n hx hb dL_isTold_68 rfl (lv_at hl 3 rfl) ?_
      refine n_iconst hx hb dL_isTold_69 ?_
      refine n_nalv (i := 0) (v := ((ms : Nat) : Int)) hx hb hK hP 2 0 rfl htI rfl (Nat.le_of_ble_eq_true rfl) (Nat.le_of_ble_eq_true rfl) (congrArg (fun z : Nat => (z : Int)) hg0) dL_isTold_70 ?_
      refine n_iconst hx hb dL_isTold_71 ?_
      refine n_iadd hx hb dL_isTold_72 ?_
      refine n_iremv (v := ((mo : Nat) : Int)) hx hb dL_isTold_73 (by omega) (by omega) (by omega) (by omega) emo ?_
      refine lv_istore (lv' := [(7, .int (jI ((mo : Nat) : Int))), (0, .ref x0), (1, .ref am), (2, .ref ae), (3, .ref ag), (4, .int (jI 1)), (5, .int (jI ((one : Nat) : Int))), (6, .int (jI ((two : Nat) : Int)))]) hx hb dL_isTold_74 hl (by decide) rfl (fun ls hl => ?_)
      refine lv_iload hx hb dL_isTold_76 (lv_at hl 5 rfl) ?_
      refine n_iconst hx hb dL_isTold_78 ?_
      refine n_icmp_ne (tgt := 255) hx hb (by unfold r32; decide) (by unfold r32; decide) dL_isTold_79 (by decide) (fun h79 => False.elim (by revert h79; decide)) (fun h79 => ?_)
      refine lv_iload hx hb dL_isTold_82 (lv_at hl 7 rfl) ?_
      refine n_bipush hx hb dL_isTold_84 (by decide) ?_
      refine n_iremv (v := (((two % 8) : Nat) : Int)) hx hb dL_isTold_86 (by omega) (by omega) (by omega) (by omega) (by omega) ?_
      refine lv_istore (lv' := [(8, .int (jI (((two % 8) : Nat) : Int))), (7, .int (jI ((mo : Nat) : Int))), (0, .ref x0), (1, .ref am), (2, .ref ae), (3, .ref ag), (4, .int (jI 1)), (5, .int (jI ((one : Nat) : Int))), (6, .int (jI ((two : Nat) : Int)))]) hx hb dL_isTold_87 hl (by decide) rfl (fun ls hl => ?_)
      refine lv_iload hx hb dL_isTold_89 (lv_at hl 7 rfl) ?_
      refine n_iconst hx hb dL_isTold_91 ?_
      refine n_idivv (v := (((one / 4) : Nat) : Int)) hx hb dL_isTold_92 (by omega) (by omega) (by omega) (by omega) (by omega) ?_
      refine n_bipush hx hb dL_isTold_93 (by decide) ?_
      refine n_iremv (v := (((one / 4 % 13) : Nat) : Int)) hx hb dL_isTold_95 (by omega) (by omega) (by omega) (by omega) (by omega) ?_
      refine n_bipush hx hb dL_isTold_96 (by decide) ?_
      refine n_icmp_ne (tgt := 107) hx hb (by unfold r32; omega) (by unfold r32; omega) dL_isTold_98 (by decide) (fun h98 => ?_) (fun h98 => False.elim (by omega))
      refine lv_iload hx hb dL_isTold_107 (lv_at hl 7 rfl) ?_
      refine n_iconst hx hb dL_isTold_109 ?_
      refine n_idivv (v := (((one / 4) : Nat) : Int)) hx hb dL_isTold_110 (by omega) (by omega) (by omega) (by omega) (by omega) ?_
      refine n_iconst hx hb dL_isTold_111 ?_
      refine n_iremv (v := (((one / 4 % 3) : Nat) : Int)) hx hb dL_isTold_112 (by omega) (by omega) (by omega) (by omega) (by omega) ?_
      refine n_if_ne (tgt := 128) hx hb (by unfold r32; omega) dL_isTold_113 (by decide) (fun h113 => False.elim (h113 (by omega))) (fun h113 => ?_)
      refine lv_iload hx hb dL_isTold_116 (lv_at hl 7 rfl) ?_
      refine n_bipush hx hb dL_isTold_118 (by decide) ?_
      refine n_idivv (v := (((one / 12) : Nat) : Int)) hx hb dL_isTold_120 (by omega) (by omega) (by omega) (by omega) (by omega) ?_
      refine n_sipush hx hb dL_isTold_121 (by decide) ?_
      refine n_iremv (v := (zv z1)) hx hb dL_isTold_124 (by omega) (by omega) (by omega) (by omega) (by omega) ?_
      refine lv_goto (tgt := 134) hx hb dL_isTold_125 (by decide) ?_
      by_cases hmo : mo < ms
      · by_cases hwh : two % 8 < 7
        · refine lv_istore (lv' := [(9, .int (vI z1)), (8, .int (jI (((two % 8) : Nat) : Int))), (7, .int (jI ((mo : Nat) : Int))), (0, .ref x0), (1, .ref am), (2, .ref ae), (3, .ref ag), (4, .int (jI 1)), (5, .int (jI ((one : Nat) : Int))), (6, .int (jI ((two : Nat) : Int)))]) hx hb dL_isTold_134 hl (by decide) rfl (fun ls hl => ?_)
          refine lv_iload hx hb dL_isTold_136 (lv_at hl 2 rfl) ?_
          refine lv_aload_n hx hb dL_isTold_138 rfl (lv_at hl 6 rfl) ?_
          refine n_iconst hx hb dL_isTold_139 ?_
          refine n_nalv (i := 0) (v := ((ms : Nat) : Int)) hx hb hK hP 2 0 rfl htI rfl (Nat.le_of_ble_eq_true rfl) (Nat.le_of_ble_eq_true rfl) (congrArg (fun z : Nat => (z : Int)) hg0) dL_isTold_140 ?_
          refine n_icmp_ge (tgt := 148) hx hb (by unfold r32; omega) (by unfold r32; omega) dL_isTold_141 (by decide) (fun h141 => False.elim (by omega)) (fun h141 => ?_)
          refine n_iconst hx hb dL_isTold_144 ?_
          refine lv_goto (tgt := 149) hx hb dL_isTold_145 (by decide) ?_
          refine lv_istore (lv' := [(10, .int (jI 1)), (9, .int (vI z1)), (8, .int (jI (((two % 8) : Nat) : Int))), (7, .int (jI ((mo : Nat) : Int))), (0, .ref x0), (1, .ref am), (2, .ref ae), (3, .ref ag), (4, .int (jI 1)), (5, .int (jI ((one : Nat) : Int))), (6, .int (jI ((two : Nat) : Int)))]) hx hb dL_isTold_149 hl (by decide) rfl (fun ls hl => ?_)
          refine lv_iload hx hb dL_isTold_151 (lv_at hl 2 rfl) ?_
          refine n_bipush hx hb dL_isTold_153 (by decide) ?_
          refine n_icmp_ge (tgt := 170) hx hb (by unfold r32; omega) (by unfold r32; omega) dL_isTold_155 (by decide) (fun h155 => False.elim (by omega)) (fun h155 => ?_)
          refine lv_iload hx hb dL_isTold_158 (lv_at hl 1 rfl) ?_
          refine n_sipush hx hb dL_isTold_160 (by decide) ?_
          refine n_icmp_ge (tgt := 170) hx hb (r32_z _) (by unfold r32; omega) dL_isTold_163 (by decide) (fun h163 => False.elim (by omega)) (fun h163 => ?_)
          refine n_iconst hx hb dL_isTold_166 ?_
          refine lv_goto (tgt := 171) hx hb dL_isTold_167 (by decide) ?_
          refine lv_istore (lv' := [(11, .int (jI 1)), (10, .int (jI 1)), (9, .int (vI z1)), (8, .int (jI (((two % 8) : Nat) : Int))), (7, .int (jI ((mo : Nat) : Int))), (0, .ref x0), (1, .ref am), (2, .ref ae), (3, .ref ag), (4, .int (jI 1)), (5, .int (jI ((one : Nat) : Int))), (6, .int (jI ((two : Nat) : Int)))]) hx hb dL_isTold_171 hl (by decide) rfl (fun ls hl => ?_)
          refine lv_iload hx hb dL_isTold_173 (lv_at hl 1 rfl) ?_
          refine n_if_eq (tgt := 194) hx hb (by unfold r32; decide) dL_isTold_175 (by decide) (fun h175 => False.elim (by revert h175; decide)) (fun h175 => ?_)
          refine lv_iload hx hb dL_isTold_178 (lv_at hl 0 rfl) ?_
          refine n_if_eq (tgt := 194) hx hb (by unfold r32; decide) dL_isTold_180 (by decide) (fun h180 => False.elim (by revert h180; decide)) (fun h180 => ?_)
          refine n_bipush hx hb dL_isTold_183 (by decide) ?_
          refine lv_iload hx hb dL_isTold_185 (lv_at hl 4 rfl) ?_
          refine n_imul hx hb dL_isTold_187 ?_
          refine lv_iload hx hb dL_isTold_188 (lv_at hl 3 rfl) ?_
          refine n_iadd hx hb dL_isTold_190 ?_
          refine lv_goto (tgt := 196) hx hb dL_isTold_191 (by decide) ?_
          refine lv_istore (lv' := [(12, .int (jI ((7 * ((mo : Nat) : Int)) + (((two % 8) : Nat) : Int)))), (11, .int (jI 1)), (10, .int (jI 1)), (9, .int (vI z1)), (8, .int (jI (((two % 8) : Nat) : Int))), (7, .int (jI ((mo : Nat) : Int))), (0, .ref x0), (1, .ref am), (2, .ref ae), (3, .ref ag), (4, .int (jI 1)), (5, .int (jI ((one : Nat) : Int))), (6, .int (jI ((two : Nat) : Int)))]) hx hb dL_isTold_196 hl (by decide) rfl (fun ls hl => ?_)
          refine lv_aload_n hx hb dL_isTold_198 rfl (lv_at hl 7 rfl) ?_
          refine lv_iload hx hb dL_isTold_199 (lv_at hl 0 rfl) ?_
          refine n_ialdv (i := (7 * mo + two % 8)) (v := (zv (gE (7 * mo + two % 8)))) hx hb hK hP 0 0 rfl htI (by omega) (by omega) (Nat.le_of_ble_eq_true rfl) (hm _ (by omega)) dL_isTold_201 ?_
          refine lv_istore (lv' := [(13, .int (vI (gE (7 * mo + two % 8)))), (12, .int (jI ((7 * ((mo : Nat) : Int)) + (((two % 8) : Nat) : Int)))), (11, .int (jI 1)), (10, .int (jI 1)), (9, .int (vI z1)), (8, .int (jI (((two % 8) : Nat) : Int))), (7, .int (jI ((mo : Nat) : Int))), (0, .ref x0), (1, .ref am), (2, .ref ae), (3, .ref ag), (4, .int (jI 1)), (5, .int (jI ((one : Nat) : Int))), (6, .int (jI ((two : Nat) : Int)))]) hx hb dL_isTold_202 hl (by decide) rfl (fun ls hl => ?_)
          refine lv_aload_n hx hb dL_isTold_204 rfl (lv_at hl 8 rfl) ?_
          refine lv_iload hx hb dL_isTold_205 (lv_at hl 1 rfl) ?_
          refine lv_iload hx hb dL_isTold_207 (lv_at hl 4 rfl) ?_
          refine n_iast (i := (7 * mo + two % 8)) hx hb hK hP hD hS 0 0 rfl htI (by omega) (by omega) (Nat.le_of_ble_eq_true rfl) dL_isTold_209 (fun H locs hP hD hS => ?_)
          have hP : va_P D vwCl ((am, .inl (cI, 22, .inl (fun i => jI ((va_up fm (7 * mo + two % 8) (zv z1)) i)))) :: (ae, .inl (cI, 45, .inl (fun i => jI (fe i)))) :: (ag, .inl (cI, 2, .inl (fun i => jI ((fg i : Nat) : Int)))) :: (CW cI cE cG cM cS x0 q0 q1 qr (ms, es, gE, gM, gB, gT, gG, gN, gK, gD) κ)) H := hP
          have hD : va_D A ((am, .inl (cI, 22, .inl (fun i => jI ((va_up fm (7 * mo + two % 8) (zv z1)) i)))) :: (ae, .inl (cI, 45, .inl (fun i => jI (fe i)))) :: (ag, .inl (cI, 2, .inl (fun i => jI ((fg i : Nat) : Int)))) :: (CW cI cE cG cM cS x0 q0 q1 qr (ms, es, gE, gM, gB, gT, gG, gN, gK, gD) κ)) := hD
          refine lv_aload_n hx hb dL_isTold_210 rfl (lv_at hl 7 rfl) ?_
          refine n_iconst hx hb dL_isTold_211 ?_
          refine lv_iload hx hb dL_isTold_212 (lv_at hl 6 rfl) ?_
          refine lv_iload hx hb dL_isTold_214 (lv_at hl 5 rfl) ?_
          refine lv_iload hx hb dL_isTold_216 (lv_at hl 4 rfl) ?_
          refine n_iconst hx hb dL_isTold_218 ?_
          refine n_iconst hx hb dL_isTold_219 ?_
          refine n_iconst hx hb dL_isTold_220 ?_
          have hC := d_entry0 l hl9 D tys htI htE htM htS htG x0 q0 q1 qr ms es gE gM gB gT gG gN gK gD κ hI mo (two % 8) z1 (by omega) (by omega)
          have hW := w_does_entry l D tys x0 q0 q1 qr ms es gE gM gB gT gG gN gK gD κ (jI ((mo : Nat) : Int)) (jI (((two % 8) : Nat) : Int)) (vI z1) (jI 0) (jI 0) (jI 0) (ms, es, va_up gE (7 * mo + two % 8) z1, gM, gB, gT, gG, gN, gK, gD) 0 _ hC
          have hP : va_P D vwCl ((CW cI cE cG cM cS x0 q0 q1 qr (ms, es, gE, gM, gB, gT, gG, gN, gK, gD) κ) ++ [(am, .inl (cI, 22, .inl (fun i => jI ((va_up fm (7 * mo + two % 8) (zv z1)) i)))), (ae, .inl (cI, 45, .inl (fun i => jI (fe i)))), (ag, .inl (cI, 2, .inl (fun i => jI ((fg i : Nat) : Int))))]) H := hP.perm (List.perm_append_comm (l₁ := ([(am, .inl (cI, 22, .inl (fun i => jI ((va_up fm (7 * mo + two % 8) (zv z1)) i)))), (ae, .inl (cI, 45, .inl (fun i => jI (fe i)))), (ag, .inl (cI, 2, .inl (fun i => jI ((fg i : Nat) : Int))))] : va_W)) (l₂ := (CW cI cE cG cM cS x0 q0 q1 qr (ms, es, gE, gM, gB, gT, gG, gN, gK, gD) κ)))
          have hD : va_D A ((CW cI cE cG cM cS x0 q0 q1 qr (ms, es, gE, gM, gB, gT, gG, gN, gK, gD) κ) ++ [(am, .inl (cI, 22, .inl (fun i => jI ((va_up fm (7 * mo + two % 8) (zv z1)) i)))), (ae, .inl (cI, 45, .inl (fun i => jI (fe i)))), (ag, .inl (cI, 2, .inl (fun i => jI ((fg i : Nat) : Int))))]) := hD.perm (List.perm_append_comm (l₁ := ([(am, .inl (cI, 22, .inl (fun i => jI ((va_up fm (7 * mo + two % 8) (zv z1)) i)))), (ae, .inl (cI, 45, .inl (fun i => jI (fe i)))), (ag, .inl (cI, 2, .inl (fun i => jI ((fg i : Nat) : Int))))] : va_W)) (l₂ := (CW cI cE cG cM cS x0 q0 q1 qr (ms, es, gE, gM, gB, gT, gG, gN, gK, gD) κ)))
          refine a_goNI (vx_runSW (As := [.ref x0, .int (jI 1), .int (jI ((mo : Nat) : Int)), .int (jI (((two % 8) : Nat) : Int)), .int (vI z1), .int (jI 0), .int (jI 0), .int (jI 0)]) (rest := []) ⟨hx, hb, hml, hown, hts⟩ (hW _) (vx_cwSW 8 hts gL_isTold_L_does rfl rfl rfl (by decide +kernel) ⟨(Nat.le_of_ble_eq_true rfl), (Nat.le_of_ble_eq_true rfl)⟩) (c_pre hK hXK hZ hN hP hD hS hA) rfl rfl hl.1 rfl (lv_room (Nat.le_of_ble_eq_true rfl)) dL_isTold_221 ⟨(Nat.le_of_ble_eq_true rfl), (Nat.le_of_ble_eq_true rfl)⟩) hP hD hS hA (fun r κ2 H locs hpost hP hD hS => ?_)
          obtain ⟨hr9, hI2⟩ := hpost
          have hr9 : r = vI (gE (7 * mo + two % 8)) := hr9
          subst hr9
          have hP : va_P D vwCl ((CW cI cE cG cM cS x0 q0 q1 qr (ms, es, va_up gE (7 * mo + two % 8) z1, gM, gB, gT, gG, gN, gK, gD) κ2) ++ [(am, .inl (cI, 22, .inl (fun i => jI ((va_up fm (7 * mo + two % 8) (zv z1)) i)))), (ae, .inl (cI, 45, .inl (fun i => jI (fe i)))), (ag, .inl (cI, 2, .inl (fun i => jI ((fg i : Nat) : Int))))]) H := hP
          have hD : va_D A ((CW cI cE cG cM cS x0 q0 q1 qr (ms, es, va_up gE (7 * mo + two % 8) z1, gM, gB, gT, gG, gN, gK, gD) κ2) ++ [(am, .inl (cI, 22, .inl (fun i => jI ((va_up fm (7 * mo + two % 8) (zv z1)) i)))), (ae, .inl (cI, 45, .inl (fun i => jI (fe i)))), (ag, .inl (cI, 2, .inl (fun i => jI ((fg i : Nat) : Int))))]) := hD
          have hP : va_P D vwCl ((am, .inl (cI, 22, .inl (fun i => jI ((va_up fm (7 * mo + two % 8) (zv z1)) i)))) :: (ae, .inl (cI, 45, .inl (fun i => jI (fe i)))) :: (ag, .inl (cI, 2, .inl (fun i => jI ((fg i : Nat) : Int)))) :: (CW cI cE cG cM cS x0 q0 q1 qr (ms, es, va_up gE (7 * mo + two % 8) z1, gM, gB, gT, gG, gN, gK, gD) κ2)) H := hP.perm (List.perm_append_comm (l₁ := (CW cI cE cG cM cS x0 q0 q1 qr (ms, es, va_up gE (7 * mo + two % 8) z1, gM, gB, gT, gG, gN, gK, gD) κ2)) (l₂ := ([(am, .inl (cI, 22, .inl (fun i => jI ((va_up fm (7 * mo + two % 8) (zv z1)) i)))), (ae, .inl (cI, 45, .inl (fun i => jI (fe i)))), (ag, .inl (cI, 2, .inl (fun i => jI ((fg i : Nat) : Int))))] : va_W)))
          have hD : va_D A ((am, .inl (cI, 22, .inl (fun i => jI ((va_up fm (7 * mo + two % 8) (zv z1)) i)))) :: (ae, .inl (cI, 45, .inl (fun i => jI (fe i)))) :: (ag, .inl (cI, 2, .inl (fun i => jI ((fg i : Nat) : Int)))) :: (CW cI cE cG cM cS x0 q0 q1 qr (ms, es, va_up gE (7 * mo + two % 8) z1, gM, gB, gT, gG, gN, gK, gD) κ2)) := hD.perm (List.perm_append_comm (l₁ := (CW cI cE cG cM cS x0 q0 q1 qr (ms, es, va_up gE (7 * mo + two % 8) z1, gM, gB, gT, gG, gN, gK, gD) κ2)) (l₂ := ([(am, .inl (cI, 22, .inl (fun i => jI ((va_up fm (7 * mo + two % 8) (zv z1)) i)))), (ae, .inl (cI, 45, .inl (fun i => jI (fe i)))), (ag, .inl (cI, 2, .inl (fun i => jI ((fg i : Nat) : Int))))] : va_W)))
          refine lv_iload hx hb dL_isTold_224 (lv_at hl 3 rfl) ?_
          refine n_if_ne (tgt := 234) hx hb (by unfold r32; decide) dL_isTold_226 (by decide) (fun h226 => ?_) (fun h226 => False.elim (by revert h226; decide))
          refine lv_iload hx hb dL_isTold_234 (lv_at hl 2 rfl) ?_
          refine n_if_eq (tgt := 244) hx hb (by unfold r32; decide) dL_isTold_236 (by decide) (fun h236 => False.elim (by revert h236; decide)) (fun h236 => ?_)
          refine lv_iload hx hb dL_isTold_239 (lv_at hl 0 rfl) ?_
          refine lv_goto (tgt := 246) hx hb dL_isTold_241 (by decide) ?_
          refine n_icmp_ne (tgt := 253) hx hb (r32_z _) (r32_z _) dL_isTold_246 (by decide) (fun h246 => False.elim (h246 rfl)) (fun h246 => ?_)
          refine n_iconst hx hb dL_isTold_249 ?_
          refine lv_goto (tgt := 254) hx hb dL_isTold_250 (by decide) ?_
          refine W.widen (k := 228) (n := 867) (Nat.le_of_ble_eq_true rfl) (Nat.le_of_ble_eq_true rfl) ?_
          exact y_zret (b := true) ((ms, es, va_up gE (7 * mo + two % 8) z1, gM, gB, gT, gG, gN, gK, gD), κ2, va_up fm (7 * mo + two % 8) (zv z1), fe, fg) hx hb hr hlocks dL_isTold_254 hP hD hS rfl ⟨rfl, hI2, (hL.entry mo (two % 8) z1).up⟩
        · refine lv_istore (lv' := [(9, .int (vI z1)), (8, .int (jI (((two % 8) : Nat) : Int))), (7, .int (jI ((mo : Nat) : Int))), (0, .ref x0), (1, .ref am), (2, .ref ae), (3, .ref ag), (4, .int (jI 1)), (5, .int (jI ((one : Nat) : Int))), (6, .int (jI ((two : Nat) : Int)))]) hx hb dL_isTold_134 hl (by decide) rfl (fun ls hl => ?_)
          refine lv_iload hx hb dL_isTold_136 (lv_at hl 2 rfl) ?_
          refine lv_aload_n hx hb dL_isTold_138 rfl (lv_at hl 6 rfl) ?_
          refine n_iconst hx hb dL_isTold_139 ?_
          refine n_nalv (i := 0) (v := ((ms : Nat) : Int)) hx hb hK hP 2 0 rfl htI rfl (Nat.le_of_ble_eq_true rfl) (Nat.le_of_ble_eq_true rfl) (congrArg (fun z : Nat => (z : Int)) hg0) dL_isTold_140 ?_
          refine n_icmp_ge (tgt := 148) hx hb (by unfold r32; omega) (by unfold r32; omega) dL_isTold_141 (by decide) (fun h141 => False.elim (by omega)) (fun h141 => ?_)
          refine n_iconst hx hb dL_isTold_144 ?_
          refine lv_goto (tgt := 149) hx hb dL_isTold_145 (by decide) ?_
          refine lv_istore (lv' := [(10, .int (jI 1)), (9, .int (vI z1)), (8, .int (jI (((two % 8) : Nat) : Int))), (7, .int (jI ((mo : Nat) : Int))), (0, .ref x0), (1, .ref am), (2, .ref ae), (3, .ref ag), (4, .int (jI 1)), (5, .int (jI ((one : Nat) : Int))), (6, .int (jI ((two : Nat) : Int)))]) hx hb dL_isTold_149 hl (by decide) rfl (fun ls hl => ?_)
          refine lv_iload hx hb dL_isTold_151 (lv_at hl 2 rfl) ?_
          refine n_bipush hx hb dL_isTold_153 (by decide) ?_
          refine n_icmp_ge (tgt := 170) hx hb (by unfold r32; omega) (by unfold r32; omega) dL_isTold_155 (by decide) (fun h155 => ?_) (fun h155 => False.elim (by omega))
          refine n_iconst hx hb dL_isTold_170 ?_
          refine lv_istore (lv' := [(11, .int (jI 0)), (10, .int (jI 1)), (9, .int (vI z1)), (8, .int (jI (((two % 8) : Nat) : Int))), (7, .int (jI ((mo : Nat) : Int))), (0, .ref x0), (1, .ref am), (2, .ref ae), (3, .ref ag), (4, .int (jI 1)), (5, .int (jI ((one : Nat) : Int))), (6, .int (jI ((two : Nat) : Int)))]) hx hb dL_isTold_171 hl (by decide) rfl (fun ls hl => ?_)
          refine lv_iload hx hb dL_isTold_173 (lv_at hl 1 rfl) ?_
          refine n_if_eq (tgt := 194) hx hb (by unfold r32; decide) dL_isTold_175 (by decide) (fun h175 => False.elim (by revert h175; decide)) (fun h175 => ?_)
          refine lv_iload hx hb dL_isTold_178 (lv_at hl 0 rfl) ?_
          refine n_if_eq (tgt := 194) hx hb (by unfold r32; decide) dL_isTold_180 (by decide) (fun h180 => ?_) (fun h180 => False.elim (by revert h180; decide))
          refine n_bipush hx hb dL_isTold_194 (by decide) ?_
          refine lv_istore (lv' := [(12, .int (jI 21)), (11, .int (jI 0)), (10, .int (jI 1)), (9, .int (vI z1)), (8, .int (jI (((two % 8) : Nat) : Int))), (7, .int (jI ((mo : Nat) : Int))), (0, .ref x0), (1, .ref am), (2, .ref ae), (3, .ref ag), (4, .int (jI 1)), (5, .int (jI ((one : Nat) : Int))), (6, .int (jI ((two : Nat) : Int)))]) hx hb dL_isTold_196 hl (by decide) rfl (fun ls hl => ?_)
          refine lv_aload_n hx hb dL_isTold_198 rfl (lv_at hl 7 rfl) ?_
          refine lv_iload hx hb dL_isTold_199 (lv_at hl 0 rfl) ?_
          refine n_iald (i := 21) hx hb hK hP 0 0 rfl htI rfl (Nat.le_of_ble_eq_true rfl) (Nat.le_of_ble_eq_true rfl) dL_isTold_201 ?_
          refine lv_istore (lv' := [(13, .int (jI (fm 21))), (12, .int (jI 21)), (11, .int (jI 0)), (10, .int (jI 1)), (9, .int (vI z1)), (8, .int (jI (((two % 8) : Nat) : Int))), (7, .int (jI ((mo : Nat) : Int))), (0, .ref x0), (1, .ref am), (2, .ref ae), (3, .ref ag), (4, .int (jI 1)), (5, .int (jI ((one : Nat) : Int))), (6, .int (jI ((two : Nat) : Int)))]) hx hb dL_isTold_202 hl (by decide) rfl (fun ls hl => ?_)
          refine lv_aload_n hx hb dL_isTold_204 rfl (lv_at hl 8 rfl) ?_
          refine lv_iload hx hb dL_isTold_205 (lv_at hl 1 rfl) ?_
          refine lv_iload hx hb dL_isTold_207 (lv_at hl 4 rfl) ?_
          refine n_iast (i := 21) hx hb hK hP hD hS 0 0 rfl htI rfl (Nat.le_of_ble_eq_true rfl) (Nat.le_of_ble_eq_true rfl) dL_isTold_209 (fun H locs hP hD hS => ?_)
          have hP : va_P D vwCl ((am, .inl (cI, 22, .inl (fun i => jI ((va_up fm 21 (zv z1)) i)))) :: (ae, .inl (cI, 45, .inl (fun i => jI (fe i)))) :: (ag, .inl (cI, 2, .inl (fun i => jI ((fg i : Nat) : Int)))) :: (CW cI cE cG cM cS x0 q0 q1 qr (ms, es, gE, gM, gB, gT, gG, gN, gK, gD) κ)) H := hP
          have hD : va_D A ((am, .inl (cI, 22, .inl (fun i => jI ((va_up fm 21 (zv z1)) i)))) :: (ae, .inl (cI, 45, .inl (fun i => jI (fe i)))) :: (ag, .inl (cI, 2, .inl (fun i => jI ((fg i : Nat) : Int)))) :: (CW cI cE cG cM cS x0 q0 q1 qr (ms, es, gE, gM, gB, gT, gG, gN, gK, gD) κ)) := hD
          refine lv_aload_n hx hb dL_isTold_210 rfl (lv_at hl 7 rfl) ?_
          refine n_iconst hx hb dL_isTold_211 ?_
          refine lv_iload hx hb dL_isTold_212 (lv_at hl 6 rfl) ?_
          refine lv_iload hx hb dL_isTold_214 (lv_at hl 5 rfl) ?_
          refine lv_iload hx hb dL_isTold_216 (lv_at hl 4 rfl) ?_
          refine n_iconst hx hb dL_isTold_218 ?_
          refine n_iconst hx hb dL_isTold_219 ?_
          refine n_iconst hx hb dL_isTold_220 ?_
          have hC := d_entry2 l hl9 D tys htI htE htM htS htG x0 q0 q1 qr ms es gE gM gB gT gG gN gK gD κ hI mo ((two % 8 : Nat) : Int) (zv z1) (by omega) (by unfold r32; omega) (r32_z _) (by rw [inB_f (by omega)]; rfl)
          have hW := w_does_entry l D tys x0 q0 q1 qr ms es gE gM gB gT gG gN gK gD κ (jI ((mo : Nat) : Int)) (jI (((two % 8) : Nat) : Int)) (vI z1) (jI 0) (jI 0) (jI 0) (ms, es, gE, gM, gB, gT, gG, gN, gK, gD) 2 _ hC
          have hP : va_P D vwCl ((CW cI cE cG cM cS x0 q0 q1 qr (ms, es, gE, gM, gB, gT, gG, gN, gK, gD) κ) ++ [(am, .inl (cI, 22, .inl (fun i => jI ((va_up fm 21 (zv z1)) i)))), (ae, .inl (cI, 45, .inl (fun i => jI (fe i)))), (ag, .inl (cI, 2, .inl (fun i => jI ((fg i : Nat) : Int))))]) H := hP.perm (List.perm_append_comm (l₁ := ([(am, .inl (cI, 22, .inl (fun i => jI ((va_up fm 21 (zv z1)) i)))), (ae, .inl (cI, 45, .inl (fun i => jI (fe i)))), (ag, .inl (cI, 2, .inl (fun i => jI ((fg i : Nat) : Int))))] : va_W)) (l₂ := (CW cI cE cG cM cS x0 q0 q1 qr (ms, es, gE, gM, gB, gT, gG, gN, gK, gD) κ)))
          have hD : va_D A ((CW cI cE cG cM cS x0 q0 q1 qr (ms, es, gE, gM, gB, gT, gG, gN, gK, gD) κ) ++ [(am, .inl (cI, 22, .inl (fun i => jI ((va_up fm 21 (zv z1)) i)))), (ae, .inl (cI, 45, .inl (fun i => jI (fe i)))), (ag, .inl (cI, 2, .inl (fun i => jI ((fg i : Nat) : Int))))]) := hD.perm (List.perm_append_comm (l₁ := ([(am, .inl (cI, 22, .inl (fun i => jI ((va_up fm 21 (zv z1)) i)))), (ae, .inl (cI, 45, .inl (fun i => jI (fe i)))), (ag, .inl (cI, 2, .inl (fun i => jI ((fg i : Nat) : Int))))] : va_W)) (l₂ := (CW cI cE cG cM cS x0 q0 q1 qr (ms, es, gE, gM, gB, gT, gG, gN, gK, gD) κ)))
          refine a_goNI (vx_runSW (As := [.ref x0, .int (jI 1), .int (jI ((mo : Nat) : Int)), .int (jI (((two % 8) : Nat) : Int)), .int (vI z1), .int (jI 0), .int (jI 0), .int (jI 0)]) (rest := []) ⟨hx, hb, hml, hown, hts⟩ (hW _) (vx_cwSW 8 hts gL_isTold_L_does rfl rfl rfl (by decide +kernel) ⟨(Nat.le_of_ble_eq_true rfl), (Nat.le_of_ble_eq_true rfl)⟩) (c_pre hK hXK hZ hN hP hD hS hA) rfl rfl hl.1 rfl (lv_room (Nat.le_of_ble_eq_true rfl)) dL_isTold_221 ⟨(Nat.le_of_ble_eq_true rfl), (Nat.le_of_ble_eq_true rfl)⟩) hP hD hS hA (fun r κ2 H locs hpost hP hD hS => ?_)
          obtain ⟨hr9, hI2⟩ := hpost
          have hr9 : r = jI (-2) := hr9
          subst hr9
          have hP : va_P D vwCl ((CW cI cE cG cM cS x0 q0 q1 qr (ms, es, gE, gM, gB, gT, gG, gN, gK, gD) κ2) ++ [(am, .inl (cI, 22, .inl (fun i => jI ((va_up fm 21 (zv z1)) i)))), (ae, .inl (cI, 45, .inl (fun i => jI (fe i)))), (ag, .inl (cI, 2, .inl (fun i => jI ((fg i : Nat) : Int))))]) H := hP
          have hD : va_D A ((CW cI cE cG cM cS x0 q0 q1 qr (ms, es, gE, gM, gB, gT, gG, gN, gK, gD) κ2) ++ [(am, .inl (cI, 22, .inl (fun i => jI ((va_up fm 21 (zv z1)) i)))), (ae, .inl (cI, 45, .inl (fun i => jI (fe i)))), (ag, .inl (cI, 2, .inl (fun i => jI ((fg i : Nat) : Int))))]) := hD
          have hP : va_P D vwCl ((am, .inl (cI, 22, .inl (fun i => jI ((va_up fm 21 (zv z1)) i)))) :: (ae, .inl (cI, 45, .inl (fun i => jI (fe i)))) :: (ag, .inl (cI, 2, .inl (fun i => jI ((fg i : Nat) : Int)))) :: (CW cI cE cG cM cS x0 q0 q1 qr (ms, es, gE, gM, gB, gT, gG, gN, gK, gD) κ2)) H := hP.perm (List.perm_append_comm (l₁ := (CW cI cE cG cM cS x0 q0 q1 qr (ms, es, gE, gM, gB, gT, gG, gN, gK, gD) κ2)) (l₂ := ([(am, .inl (cI, 22, .inl (fun i => jI ((va_up fm 21 (zv z1)) i)))), (ae, .inl (cI, 45, .inl (fun i => jI (fe i)))), (ag, .inl (cI, 2, .inl (fun i => jI ((fg i : Nat) : Int))))] : va_W)))
          have hD : va_D A ((am, .inl (cI, 22, .inl (fun i => jI ((va_up fm 21 (zv z1)) i)))) :: (ae, .inl (cI, 45, .inl (fun i => jI (fe i)))) :: (ag, .inl (cI, 2, .inl (fun i => jI ((fg i : Nat) : Int)))) :: (CW cI cE cG cM cS x0 q0 q1 qr (ms, es, gE, gM, gB, gT, gG, gN, gK, gD) κ2)) := hD.perm (List.perm_append_comm (l₁ := (CW cI cE cG cM cS x0 q0 q1 qr (ms, es, gE, gM, gB, gT, gG, gN, gK, gD) κ2)) (l₂ := ([(am, .inl (cI, 22, .inl (fun i => jI ((va_up fm 21 (zv z1)) i)))), (ae, .inl (cI, 45, .inl (fun i => jI (fe i)))), (ag, .inl (cI, 2, .inl (fun i => jI ((fg i : Nat) : Int))))] : va_W)))
          refine lv_iload hx hb dL_isTold_224 (lv_at hl 3 rfl) ?_
          refine n_if_ne (tgt := 234) hx hb (by unfold r32; decide) dL_isTold_226 (by decide) (fun h226 => ?_) (fun h226 => False.elim (by revert h226; decide))
          refine lv_iload hx hb dL_isTold_234 (lv_at hl 2 rfl) ?_
          refine n_if_eq (tgt := 244) hx hb (by unfold r32; decide) dL_isTold_236 (by decide) (fun h236 => ?_) (fun h236 => False.elim (by revert h236; decide))
          refine n_bipush hx hb dL_isTold_244 (by decide) ?_
          refine n_icmp_ne (tgt := 253) hx hb (by unfold r32; omega) (by unfold r32; omega) dL_isTold_246 (by decide) (fun h246 => False.elim (h246 rfl)) (fun h246 => ?_)
          refine n_iconst hx hb dL_isTold_249 ?_
          refine lv_goto (tgt := 254) hx hb dL_isTold_250 (by decide) ?_
          refine W.widen (k := 228) (n := 867) (Nat.le_of_ble_eq_true rfl) (Nat.le_of_ble_eq_true rfl) ?_
          exact y_zret (b := true) ((ms, es, gE, gM, gB, gT, gG, gN, gK, gD), κ2, va_up fm 21 (zv z1), fe, fg) hx hb hr hlocks dL_isTold_254 hP hD hS rfl ⟨rfl, hI2, (hL.m21 _).up⟩
      · by_cases hwh : two % 8 < 7
        · refine lv_istore (lv' := [(9, .int (vI z1)), (8, .int (jI (((two % 8) : Nat) : Int))), (7, .int (jI ((mo : Nat) : Int))), (0, .ref x0), (1, .ref am), (2, .ref ae), (3, .ref ag), (4, .int (jI 1)), (5, .int (jI ((one : Nat) : Int))), (6, .int (jI ((two : Nat) : Int)))]) hx hb dL_isTold_134 hl (by decide) rfl (fun ls hl => ?_)
          refine lv_iload hx hb dL_isTold_136 (lv_at hl 2 rfl) ?_
          refine lv_aload_n hx hb dL_isTold_138 rfl (lv_at hl 6 rfl) ?_
          refine n_iconst hx hb dL_isTold_139 ?_
          refine n_nalv (i := 0) (v := ((ms : Nat) : Int)) hx hb hK hP 2 0 rfl htI rfl (Nat.le_of_ble_eq_true rfl) (Nat.le_of_ble_eq_true rfl) (congrArg (fun z : Nat => (z : Int)) hg0) dL_isTold_140 ?_
          refine n_icmp_ge (tgt := 148) hx hb (by unfold r32; omega) (by unfold r32; omega) dL_isTold_141 (by decide) (fun h141 => ?_) (fun h141 => False.elim (by omega))
          refine n_iconst hx hb dL_isTold_148 ?_
          refine lv_istore (lv' := [(10, .int (jI 0)), (9, .int (vI z1)), (8, .int (jI (((two % 8) : Nat) : Int))), (7, .int (jI ((mo : Nat) : Int))), (0, .ref x0), (1, .ref am), (2, .ref ae), (3, .ref ag), (4, .int (jI 1)), (5, .int (jI ((one : Nat) : Int))), (6, .int (jI ((two : Nat) : Int)))]) hx hb dL_isTold_149 hl (by decide) rfl (fun ls hl => ?_)
          refine lv_iload hx hb dL_isTold_151 (lv_at hl 2 rfl) ?_
          refine n_bipush hx hb dL_isTold_153 (by decide) ?_
          refine n_icmp_ge (tgt := 170) hx hb (by unfold r32; omega) (by unfold r32; omega) dL_isTold_155 (by decide) (fun h155 => False.elim (by omega)) (fun h155 => ?_)
          refine lv_iload hx hb dL_isTold_158 (lv_at hl 1 rfl) ?_
          refine n_sipush hx hb dL_isTold_160 (by decide) ?_
          refine n_icmp_ge (tgt := 170) hx hb (r32_z _) (by unfold r32; omega) dL_isTold_163 (by decide) (fun h163 => False.elim (by omega)) (fun h163 => ?_)
          refine n_iconst hx hb dL_isTold_166 ?_
          refine lv_goto (tgt := 171) hx hb dL_isTold_167 (by decide) ?_
          refine lv_istore (lv' := [(11, .int (jI 1)), (10, .int (jI 0)), (9, .int (vI z1)), (8, .int (jI (((two % 8) : Nat) : Int))), (7, .int (jI ((mo : Nat) : Int))), (0, .ref x0), (1, .ref am), (2, .ref ae), (3, .ref ag), (4, .int (jI 1)), (5, .int (jI ((one : Nat) : Int))), (6, .int (jI ((two : Nat) : Int)))]) hx hb dL_isTold_171 hl (by decide) rfl (fun ls hl => ?_)
          refine lv_iload hx hb dL_isTold_173 (lv_at hl 1 rfl) ?_
          refine n_if_eq (tgt := 194) hx hb (by unfold r32; decide) dL_isTold_175 (by decide) (fun h175 => ?_) (fun h175 => False.elim (by revert h175; decide))
          refine n_bipush hx hb dL_isTold_194 (by decide) ?_
          refine lv_istore (lv' := [(12, .int (jI 21)), (11, .int (jI 1)), (10, .int (jI 0)), (9, .int (vI z1)), (8, .int (jI (((two % 8) : Nat) : Int))), (7, .int (jI ((mo : Nat) : Int))), (0, .ref x0), (1, .ref am), (2, .ref ae), (3, .ref ag), (4, .int (jI 1)), (5, .int (jI ((one : Nat) : Int))), (6, .int (jI ((two : Nat) : Int)))]) hx hb dL_isTold_196 hl (by decide) rfl (fun ls hl => ?_)
          refine lv_aload_n hx hb dL_isTold_198 rfl (lv_at hl 7 rfl) ?_
          refine lv_iload hx hb dL_isTold_199 (lv_at hl 0 rfl) ?_
          refine n_iald (i := 21) hx hb hK hP 0 0 rfl htI rfl (Nat.le_of_ble_eq_true rfl) (Nat.le_of_ble_eq_true rfl) dL_isTold_201 ?_
          refine lv_istore (lv' := [(13, .int (jI (fm 21))), (12, .int (jI 21)), (11, .int (jI 1)), (10, .int (jI 0)), (9, .int (vI z1)), (8, .int (jI (((two % 8) : Nat) : Int))), (7, .int (jI ((mo : Nat) : Int))), (0, .ref x0), (1, .ref am), (2, .ref ae), (3, .ref ag), (4, .int (jI 1)), (5, .int (jI ((one : Nat) : Int))), (6, .int (jI ((two : Nat) : Int)))]) hx hb dL_isTold_202 hl (by decide) rfl (fun ls hl => ?_)
          refine lv_aload_n hx hb dL_isTold_204 rfl (lv_at hl 8 rfl) ?_
          refine lv_iload hx hb dL_isTold_205 (lv_at hl 1 rfl) ?_
          refine lv_iload hx hb dL_isTold_207 (lv_at hl 4 rfl) ?_
          refine n_iast (i := 21) hx hb hK hP hD hS 0 0 rfl htI rfl (Nat.le_of_ble_eq_true rfl) (Nat.le_of_ble_eq_true rfl) dL_isTold_209 (fun H locs hP hD hS => ?_)
          have hP : va_P D vwCl ((am, .inl (cI, 22, .inl (fun i => jI ((va_up fm 21 (zv z1)) i)))) :: (ae, .inl (cI, 45, .inl (fun i => jI (fe i)))) :: (ag, .inl (cI, 2, .inl (fun i => jI ((fg i : Nat) : Int)))) :: (CW cI cE cG cM cS x0 q0 q1 qr (ms, es, gE, gM, gB, gT, gG, gN, gK, gD) κ)) H := hP
          have hD : va_D A ((am, .inl (cI, 22, .inl (fun i => jI ((va_up fm 21 (zv z1)) i)))) :: (ae, .inl (cI, 45, .inl (fun i => jI (fe i)))) :: (ag, .inl (cI, 2, .inl (fun i => jI ((fg i : Nat) : Int)))) :: (CW cI cE cG cM cS x0 q0 q1 qr (ms, es, gE, gM, gB, gT, gG, gN, gK, gD) κ)) := hD
          refine lv_aload_n hx hb dL_isTold_210 rfl (lv_at hl 7 rfl) ?_
          refine n_iconst hx hb dL_isTold_211 ?_
          refine lv_iload hx hb dL_isTold_212 (lv_at hl 6 rfl) ?_
          refine lv_iload hx hb dL_isTold_214 (lv_at hl 5 rfl) ?_
          refine lv_iload hx hb dL_isTold_216 (lv_at hl 4 rfl) ?_
          refine n_iconst hx hb dL_isTold_218 ?_
          refine n_iconst hx hb dL_isTold_219 ?_
          refine n_iconst hx hb dL_isTold_220 ?_
          have hC := d_entry1 l hl9 D tys htI htE htM htS htG x0 q0 q1 qr ms es gE gM gB gT gG gN gK gD κ hI ((mo : Nat) : Int) ((two % 8 : Nat) : Int) (zv z1) (by unfold r32; omega) (by unfold r32; omega) (r32_z _) (inB_f (by omega))
          have hW := w_does_entry l D tys x0 q0 q1 qr ms es gE gM gB gT gG gN gK gD κ (jI ((mo : Nat) : Int)) (jI (((two % 8) : Nat) : Int)) (vI z1) (jI 0) (jI 0) (jI 0) (ms, es, gE, gM, gB, gT, gG, gN, gK, gD) 1 _ hC
          have hP : va_P D vwCl ((CW cI cE cG cM cS x0 q0 q1 qr (ms, es, gE, gM, gB, gT, gG, gN, gK, gD) κ) ++ [(am, .inl (cI, 22, .inl (fun i => jI ((va_up fm 21 (zv z1)) i)))), (ae, .inl (cI, 45, .inl (fun i => jI (fe i)))), (ag, .inl (cI, 2, .inl (fun i => jI ((fg i : Nat) : Int))))]) H := hP.perm (List.perm_append_comm (l₁ := ([(am, .inl (cI, 22, .inl (fun i => jI ((va_up fm 21 (zv z1)) i)))), (ae, .inl (cI, 45, .inl (fun i => jI (fe i)))), (ag, .inl (cI, 2, .inl (fun i => jI ((fg i : Nat) : Int))))] : va_W)) (l₂ := (CW cI cE cG cM cS x0 q0 q1 qr (ms, es, gE, gM, gB, gT, gG, gN, gK, gD) κ)))
          have hD : va_D A ((CW cI cE cG cM cS x0 q0 q1 qr (ms, es, gE, gM, gB, gT, gG, gN, gK, gD) κ) ++ [(am, .inl (cI, 22, .inl (fun i => jI ((va_up fm 21 (zv z1)) i)))), (ae, .inl (cI, 45, .inl (fun i => jI (fe i)))), (ag, .inl (cI, 2, .inl (fun i => jI ((fg i : Nat) : Int))))]) := hD.perm (List.perm_append_comm (l₁ := ([(am, .inl (cI, 22, .inl (fun i => jI ((va_up fm 21 (zv z1)) i)))), (ae, .inl (cI, 45, .inl (fun i => jI (fe i)))), (ag, .inl (cI, 2, .inl (fun i => jI ((fg i : Nat) : Int))))] : va_W)) (l₂ := (CW cI cE cG cM cS x0 q0 q1 qr (ms, es, gE, gM, gB, gT, gG, gN, gK, gD) κ)))
          refine a_goNI (vx_runSW (As := [.ref x0, .int (jI 1), .int (jI ((mo : Nat) : Int)), .int (jI (((two % 8) : Nat) : Int)), .int (vI z1), .int (jI 0), .int (jI 0), .int (jI 0)]) (rest := []) ⟨hx, hb, hml, hown, hts⟩ (hW _) (vx_cwSW 8 hts gL_isTold_L_does rfl rfl rfl (by decide +kernel) ⟨(Nat.le_of_ble_eq_true rfl), (Nat.le_of_ble_eq_true rfl)⟩) (c_pre hK hXK hZ hN hP hD hS hA) rfl rfl hl.1 rfl (lv_room (Nat.le_of_ble_eq_true rfl)) dL_isTold_221 ⟨(Nat.le_of_ble_eq_true rfl), (Nat.le_of_ble_eq_true rfl)⟩) hP hD hS hA (fun r κ2 H locs hpost hP hD hS => ?_)
          obtain ⟨hr9, hI2⟩ := hpost
          have hr9 : r = jI (-3) := hr9
          subst hr9
          have hP : va_P D vwCl ((CW cI cE cG cM cS x0 q0 q1 qr (ms, es, gE, gM, gB, gT, gG, gN, gK, gD) κ2) ++ [(am, .inl (cI, 22, .inl (fun i => jI ((va_up fm 21 (zv z1)) i)))), (ae, .inl (cI, 45, .inl (fun i => jI (fe i)))), (ag, .inl (cI, 2, .inl (fun i => jI ((fg i : Nat) : Int))))]) H := hP
          have hD : va_D A ((CW cI cE cG cM cS x0 q0 q1 qr (ms, es, gE, gM, gB, gT, gG, gN, gK, gD) κ2) ++ [(am, .inl (cI, 22, .inl (fun i => jI ((va_up fm 21 (zv z1)) i)))), (ae, .inl (cI, 45, .inl (fun i => jI (fe i)))), (ag, .inl (cI, 2, .inl (fun i => jI ((fg i : Nat) : Int))))]) := hD
          have hP : va_P D vwCl ((am, .inl (cI, 22, .inl (fun i => jI ((va_up fm 21 (zv z1)) i)))) :: (ae, .inl (cI, 45, .inl (fun i => jI (fe i)))) :: (ag, .inl (cI, 2, .inl (fun i => jI ((fg i : Nat) : Int)))) :: (CW cI cE cG cM cS x0 q0 q1 qr (ms, es, gE, gM, gB, gT, gG, gN, gK, gD) κ2)) H := hP.perm (List.perm_append_comm (l₁ := (CW cI cE cG cM cS x0 q0 q1 qr (ms, es, gE, gM, gB, gT, gG, gN, gK, gD) κ2)) (l₂ := ([(am, .inl (cI, 22, .inl (fun i => jI ((va_up fm 21 (zv z1)) i)))), (ae, .inl (cI, 45, .inl (fun i => jI (fe i)))), (ag, .inl (cI, 2, .inl (fun i => jI ((fg i : Nat) : Int))))] : va_W)))
          have hD : va_D A ((am, .inl (cI, 22, .inl (fun i => jI ((va_up fm 21 (zv z1)) i)))) :: (ae, .inl (cI, 45, .inl (fun i => jI (fe i)))) :: (ag, .inl (cI, 2, .inl (fun i => jI ((fg i : Nat) : Int)))) :: (CW cI cE cG cM cS x0 q0 q1 qr (ms, es, gE, gM, gB, gT, gG, gN, gK, gD) κ2)) := hD.perm (List.perm_append_comm (l₁ := (CW cI cE cG cM cS x0 q0 q1 qr (ms, es, gE, gM, gB, gT, gG, gN, gK, gD) κ2)) (l₂ := ([(am, .inl (cI, 22, .inl (fun i => jI ((va_up fm 21 (zv z1)) i)))), (ae, .inl (cI, 45, .inl (fun i => jI (fe i)))), (ag, .inl (cI, 2, .inl (fun i => jI ((fg i : Nat) : Int))))] : va_W)))
          refine lv_iload hx hb dL_isTold_224 (lv_at hl 3 rfl) ?_
          refine n_if_ne (tgt := 234) hx hb (by unfold r32; decide) dL_isTold_226 (by decide) (fun h226 => False.elim (by revert h226; decide)) (fun h226 => ?_)
          refine n_bipush hx hb dL_isTold_229 (by decide) ?_
          refine lv_goto (tgt := 246) hx hb dL_isTold_231 (by decide) ?_
          refine n_icmp_ne (tgt := 253) hx hb (by unfold r32; omega) (by unfold r32; omega) dL_isTold_246 (by decide) (fun h246 => False.elim (h246 rfl)) (fun h246 => ?_)
          refine n_iconst hx hb dL_isTold_249 ?_
          refine lv_goto (tgt := 254) hx hb dL_isTold_250 (by decide) ?_
          refine W.widen (k := 228) (n := 867) (Nat.le_of_ble_eq_true rfl) (Nat.le_of_ble_eq_true rfl) ?_
          exact y_zret (b := true) ((ms, es, gE, gM, gB, gT, gG, gN, gK, gD), κ2, va_up fm 21 (zv z1), fe, fg) hx hb hr hlocks dL_isTold_254 hP hD hS rfl ⟨rfl, hI2, (hL.m21 _).up⟩
        · refine lv_istore (lv' := [(9, .int (vI z1)), (8, .int (jI (((two % 8) : Nat) : Int))), (7, .int (jI ((mo : Nat) : Int))), (0, .ref x0), (1, .ref am), (2, .ref ae), (3, .ref ag), (4, .int (jI 1)), (5, .int (jI ((one : Nat) : Int))), (6, .int (jI ((two : Nat) : Int)))]) hx hb dL_isTold_134 hl (by decide) rfl (fun ls hl => ?_)
          refine lv_iload hx hb dL_isTold_136 (lv_at hl 2 rfl) ?_
          refine lv_aload_n hx hb dL_isTold_138 rfl (lv_at hl 6 rfl) ?_
          refine n_iconst hx hb dL_isTold_139 ?_
          refine n_nalv (i := 0) (v := ((ms : Nat) : Int)) hx hb hK hP 2 0 rfl htI rfl (Nat.le_of_ble_eq_true rfl) (Nat.le_of_ble_eq_true rfl) (congrArg (fun z : Nat => (z : Int)) hg0) dL_isTold_140 ?_
          refine n_icmp_ge (tgt := 148) hx hb (by unfold r32; omega) (by unfold r32; omega) dL_isTold_141 (by decide) (fun h141 => ?_) (fun h141 => False.elim (by omega))
          refine n_iconst hx hb dL_isTold_148 ?_
          refine lv_istore (lv' := [(10, .int (jI 0)), (9, .int (vI z1)), (8, .int (jI (((two % 8) : Nat) : Int))), (7, .int (jI ((mo : Nat) : Int))), (0, .ref x0), (1, .ref am), (2, .ref ae), (3, .ref ag), (4, .int (jI 1)), (5, .int (jI ((one : Nat) : Int))), (6, .int (jI ((two : Nat) : Int)))]) hx hb dL_isTold_149 hl (by decide) rfl (fun ls hl => ?_)
          refine lv_iload hx hb dL_isTold_151 (lv_at hl 2 rfl) ?_
          refine n_bipush hx hb dL_isTold_153 (by decide) ?_
          refine n_icmp_ge (tgt := 170) hx hb (by unfold r32; omega) (by unfold r32; omega) dL_isTold_155 (by decide) (fun h155 => ?_) (fun h155 => False.elim (by omega))
          refine n_iconst hx hb dL_isTold_170 ?_
          refine lv_istore (lv' := [(11, .int (jI 0)), (10, .int (jI 0)), (9, .int (vI z1)), (8, .int (jI (((two % 8) : Nat) : Int))), (7, .int (jI ((mo : Nat) : Int))), (0, .ref x0), (1, .ref am), (2, .ref ae), (3, .ref ag), (4, .int (jI 1)), (5, .int (jI ((one : Nat) : Int))), (6, .int (jI ((two : Nat) : Int)))]) hx hb dL_isTold_171 hl (by decide) rfl (fun ls hl => ?_)
          refine lv_iload hx hb dL_isTold_173 (lv_at hl 1 rfl) ?_
          refine n_if_eq (tgt := 194) hx hb (by unfold r32; decide) dL_isTold_175 (by decide) (fun h175 => ?_) (fun h175 => False.elim (by revert h175; decide))
          refine n_bipush hx hb dL_isTold_194 (by decide) ?_
          refine lv_istore (lv' := [(12, .int (jI 21)), (11, .int (jI 0)), (10, .int (jI 0)), (9, .int (vI z1)), (8, .int (jI (((two % 8) : Nat) : Int))), (7, .int (jI ((mo : Nat) : Int))), (0, .ref x0), (1, .ref am), (2, .ref ae), (3, .ref ag), (4, .int (jI 1)), (5, .int (jI ((one : Nat) : Int))), (6, .int (jI ((two : Nat) : Int)))]) hx hb dL_isTold_196 hl (by decide) rfl (fun ls hl => ?_)
          refine lv_aload_n hx hb dL_isTold_198 rfl (lv_at hl 7 rfl) ?_
          refine lv_iload hx hb dL_isTold_199 (lv_at hl 0 rfl) ?_
          refine n_iald (i := 21) hx hb hK hP 0 0 rfl htI rfl (Nat.le_of_ble_eq_true rfl) (Nat.le_of_ble_eq_true rfl) dL_isTold_201 ?_
          refine lv_istore (lv' := [(13, .int (jI (fm 21))), (12, .int (jI 21)), (11, .int (jI 0)), (10, .int (jI 0)), (9, .int (vI z1)), (8, .int (jI (((two % 8) : Nat) : Int))), (7, .int (jI ((mo : Nat) : Int))), (0, .ref x0), (1, .ref am), (2, .ref ae), (3, .ref ag), (4, .int (jI 1)), (5, .int (jI ((one : Nat) : Int))), (6, .int (jI ((two : Nat) : Int)))]) hx hb dL_isTold_202 hl (by decide) rfl (fun ls hl => ?_)
          refine lv_aload_n hx hb dL_isTold_204 rfl (lv_at hl 8 rfl) ?_
          refine lv_iload hx hb dL_isTold_205 (lv_at hl 1 rfl) ?_
          refine lv_iload hx hb dL_isTold_207 (lv_at hl 4 rfl) ?_
          refine n_iast (i := 21) hx hb hK hP hD hS 0 0 rfl htI rfl (Nat.le_of_ble_eq_true rfl) (Nat.le_of_ble_eq_true rfl) dL_isTold_209 (fun H locs hP hD hS => ?_)
          have hP : va_P D vwCl ((am, .inl (cI, 22, .inl (fun i => jI ((va_up fm 21 (zv z1)) i)))) :: (ae, .inl (cI, 45, .inl (fun i => jI (fe i)))) :: (ag, .inl (cI, 2, .inl (fun i => jI ((fg i : Nat) : Int)))) :: (CW cI cE cG cM cS x0 q0 q1 qr (ms, es, gE, gM, gB, gT, gG, gN, gK, gD) κ)) H := hP
          have hD : va_D A ((am, .inl (cI, 22, .inl (fun i => jI ((va_up fm 21 (zv z1)) i)))) :: (ae, .inl (cI, 45, .inl (fun i => jI (fe i)))) :: (ag, .inl (cI, 2, .inl (fun i => jI ((fg i : Nat) : Int)))) :: (CW cI cE cG cM cS x0 q0 q1 qr (ms, es, gE, gM, gB, gT, gG, gN, gK, gD) κ)) := hD
          refine lv_aload_n hx hb dL_isTold_210 rfl (lv_at hl 7 rfl) ?_
          refine n_iconst hx hb dL_isTold_211 ?_
          refine lv_iload hx hb dL_isTold_212 (lv_at hl 6 rfl) ?_
          refine lv_iload hx hb dL_isTold_214 (lv_at hl 5 rfl) ?_
          refine lv_iload hx hb dL_isTold_216 (lv_at hl 4 rfl) ?_
          refine n_iconst hx hb dL_isTold_218 ?_
          refine n_iconst hx hb dL_isTold_219 ?_
          refine n_iconst hx hb dL_isTold_220 ?_
          have hC := d_entry1 l hl9 D tys htI htE htM htS htG x0 q0 q1 qr ms es gE gM gB gT gG gN gK gD κ hI ((mo : Nat) : Int) ((two % 8 : Nat) : Int) (zv z1) (by unfold r32; omega) (by unfold r32; omega) (r32_z _) (inB_f (by omega))
          have hW := w_does_entry l D tys x0 q0 q1 qr ms es gE gM gB gT gG gN gK gD κ (jI ((mo : Nat) : Int)) (jI (((two % 8) : Nat) : Int)) (vI z1) (jI 0) (jI 0) (jI 0) (ms, es, gE, gM, gB, gT, gG, gN, gK, gD) 1 _ hC
          have hP : va_P D vwCl ((CW cI cE cG cM cS x0 q0 q1 qr (ms, es, gE, gM, gB, gT, gG, gN, gK, gD) κ) ++ [(am, .inl (cI, 22, .inl (fun i => jI ((va_up fm 21 (zv z1)) i)))), (ae, .inl (cI, 45, .inl (fun i => jI (fe i)))), (ag, .inl (cI, 2, .inl (fun i => jI ((fg i : Nat) : Int))))]) H := hP.perm (List.perm_append_comm (l₁ := ([(am, .inl (cI, 22, .inl (fun i => jI ((va_up fm 21 (zv z1)) i)))), (ae, .inl (cI, 45, .inl (fun i => jI (fe i)))), (ag, .inl (cI, 2, .inl (fun i => jI ((fg i : Nat) : Int))))] : va_W)) (l₂ := (CW cI cE cG cM cS x0 q0 q1 qr (ms, es, gE, gM, gB, gT, gG, gN, gK, gD) κ)))
          have hD : va_D A ((CW cI cE cG cM cS x0 q0 q1 qr (ms, es, gE, gM, gB, gT, gG, gN, gK, gD) κ) ++ [(am, .inl (cI, 22, .inl (fun i => jI ((va_up fm 21 (zv z1)) i)))), (ae, .inl (cI, 45, .inl (fun i => jI (fe i)))), (ag, .inl (cI, 2, .inl (fun i => jI ((fg i : Nat) : Int))))]) := hD.perm (List.perm_append_comm (l₁ := ([(am, .inl (cI, 22, .inl (fun i => jI ((va_up fm 21 (zv z1)) i)))), (ae, .inl (cI, 45, .inl (fun i => jI (fe i)))), (ag, .inl (cI, 2, .inl (fun i => jI ((fg i : Nat) : Int))))] : va_W)) (l₂ := (CW cI cE cG cM cS x0 q0 q1 qr (ms, es, gE, gM, gB, gT, gG, gN, gK, gD) κ)))
          refine a_goNI (vx_runSW (As := [.ref x0, .int (jI 1), .int (jI ((mo : Nat) : Int)), .int (jI (((two % 8) : Nat) : Int)), .int (vI z1), .int (jI 0), .int (jI 0), .int (jI 0)]) (rest := []) ⟨hx, hb, hml, hown, hts⟩ (hW _) (vx_cwSW 8 hts gL_isTold_L_does rfl rfl rfl (by decide +kernel) ⟨(Nat.le_of_ble_eq_true rfl), (Nat.le_of_ble_eq_true rfl)⟩) (c_pre hK hXK hZ hN hP hD hS hA) rfl rfl hl.1 rfl (lv_room (Nat.le_of_ble_eq_true rfl)) dL_isTold_221 ⟨(Nat.le_of_ble_eq_true rfl), (Nat.le_of_ble_eq_true rfl)⟩) hP hD hS hA (fun r κ2 H locs hpost hP hD hS => ?_)
          obtain ⟨hr9, hI2⟩ := hpost
          have hr9 : r = jI (-3) := hr9
          subst hr9
          have hP : va_P D vwCl ((CW cI cE cG cM cS x0 q0 q1 qr (ms, es, gE, gM, gB, gT, gG, gN, gK, gD) κ2) ++ [(am, .inl (cI, 22, .inl (fun i => jI ((va_up fm 21 (zv z1)) i)))), (ae, .inl (cI, 45, .inl (fun i => jI (fe i)))), (ag, .inl (cI, 2, .inl (fun i => jI ((fg i : Nat) : Int))))]) H := hP
          have hD : va_D A ((CW cI cE cG cM cS x0 q0 q1 qr (ms, es, gE, gM, gB, gT, gG, gN, gK, gD) κ2) ++ [(am, .inl (cI, 22, .inl (fun i => jI ((va_up fm 21 (zv z1)) i)))), (ae, .inl (cI, 45, .inl (fun i => jI (fe i)))), (ag, .inl (cI, 2, .inl (fun i => jI ((fg i : Nat) : Int))))]) := hD
          have hP : va_P D vwCl ((am, .inl (cI, 22, .inl (fun i => jI ((va_up fm 21 (zv z1)) i)))) :: (ae, .inl (cI, 45, .inl (fun i => jI (fe i)))) :: (ag, .inl (cI, 2, .inl (fun i => jI ((fg i : Nat) : Int)))) :: (CW cI cE cG cM cS x0 q0 q1 qr (ms, es, gE, gM, gB, gT, gG, gN, gK, gD) κ2)) H := hP.perm (List.perm_append_comm (l₁ := (CW cI cE cG cM cS x0 q0 q1 qr (ms, es, gE, gM, gB, gT, gG, gN, gK, gD) κ2)) (l₂ := ([(am, .inl (cI, 22, .inl (fun i => jI ((va_up fm 21 (zv z1)) i)))), (ae, .inl (cI, 45, .inl (fun i => jI (fe i)))), (ag, .inl (cI, 2, .inl (fun i => jI ((fg i : Nat) : Int))))] : va_W)))
          have hD : va_D A ((am, .inl (cI, 22, .inl (fun i => jI ((va_up fm 21 (zv z1)) i)))) :: (ae, .inl (cI, 45, .inl (fun i => jI (fe i)))) :: (ag, .inl (cI, 2, .inl (fun i => jI ((fg i : Nat) : Int)))) :: (CW cI cE cG cM cS x0 q0 q1 qr (ms, es, gE, gM, gB, gT, gG, gN, gK, gD) κ2)) := hD.perm (List.perm_append_comm (l₁ := (CW cI cE cG cM cS x0 q0 q1 qr (ms, es, gE, gM, gB, gT, gG, gN, gK, gD) κ2)) (l₂ := ([(am, .inl (cI, 22, .inl (fun i => jI ((va_up fm 21 (zv z1)) i)))), (ae, .inl (cI, 45, .inl (fun i => jI (fe i)))), (ag, .inl (cI, 2, .inl (fun i => jI ((fg i : Nat) : Int))))] : va_W)))
          refine lv_iload hx hb dL_isTold_224 (lv_at hl 3 rfl) ?_
          refine n_if_ne (tgt := 234) hx hb (by unfold r32; decide) dL_isTold_226 (by decide) (fun h226 => False.elim (by revert h226; decide)) (fun h226 => ?_)
          refine n_bipush hx hb dL_isTold_229 (by decide) ?_
          refine lv_goto (tgt := 246) hx hb dL_isTold_231 (by decide) ?_
          refine n_icmp_ne (tgt := 253) hx hb (by unfold r32; omega) (by unfold r32; omega) dL_isTold_246 (by decide) (fun h246 => False.elim (h246 rfl)) (fun h246 => ?_)
          refine n_iconst hx hb dL_isTold_249 ?_
          refine lv_goto (tgt := 254) hx hb dL_isTold_250 (by decide) ?_
          refine W.widen (k := 228) (n := 867) (Nat.le_of_ble_eq_true rfl) (Nat.le_of_ble_eq_true rfl) ?_
          exact y_zret (b := true) ((ms, es, gE, gM, gB, gT, gG, gN, gK, gD), κ2, va_up fm 21 (zv z1), fe, fg) hx hb hr hlocks dL_isTold_254 hP hD hS rfl ⟨rfl, hI2, (hL.m21 _).up⟩
    · refine lv_iload hx hb dL_isTold_0 (lv_at hl 4 rfl) ?_
      refine n_if_ne (tgt := 66) hx hb (by unfold r32; decide) dL_isTold_2 (by decide) (fun h2 => ?_) (fun h2 => False.elim (by revert h2; decide))
      refine lv_iload hx hb dL_isTold_66 (lv_at hl 5 rfl) ?_
      refine lv_aload_n hx hb dL_isTold_68 rfl (lv_at hl 3 rfl) ?_
      refine n_iconst hx hb dL_isTold_69 ?_
      refine n_nalv (i := 0) (v := ((ms : Nat) : Int)) hx hb hK hP 2 0 rfl htI rfl (Nat.le_of_ble_eq_true rfl) (Nat.le_of_ble_eq_true rfl) (congrArg (fun z : Nat => (z : Int)) hg0) dL_isTold_70 ?_
      refine n_iconst hx hb dL_isTold_71 ?_
      refine n_iadd hx hb dL_isTold_72 ?_
      refine n_iremv (v := ((mo : Nat) : Int)) hx hb dL_isTold_73 (by omega) (by omega) (by omega) (by omega) emo ?_
      refine lv_istore (lv' := [(7, .int (jI ((mo : Nat) : Int))), (0, .ref x0), (1, .ref am), (2, .ref ae), (3, .ref ag), (4, .int (jI 1)), (5, .int (jI ((one : Nat) : Int))), (6, .int (jI ((two : Nat) : Int)))]) hx hb dL_isTold_74 hl (by decide) rfl (fun ls hl => ?_)
      refine lv_iload hx hb dL_isTold_76 (lv_at hl 5 rfl) ?_
      refine n_iconst hx hb dL_isTold_78 ?_
      refine n_icmp_ne (tgt := 255) hx hb (by unfold r32; decide) (by unfold r32; decide) dL_isTold_79 (by decide) (fun h79 => False.elim (by revert h79; decide)) (fun h79 => ?_)
      refine lv_iload hx hb dL_isTold_82 (lv_at hl 7 rfl) ?_
      refine n_bipush hx hb dL_isTold_84 (by decide) ?_
      refine n_iremv (v := (((two % 8) : Nat) : Int)) hx hb dL_isTold_86 (by omega) (by omega) (by omega) (by omega) (by omega) ?_
      refine lv_istore (lv' := [(8, .int (jI (((two % 8) : Nat) : Int))), (7, .int (jI ((mo : Nat) : Int))), (0, .ref x0), (1, .ref am), (2, .ref ae), (3, .ref ag), (4, .int (jI 1)), (5, .int (jI ((one : Nat) : Int))), (6, .int (jI ((two : Nat) : Int)))]) hx hb dL_isTold_87 hl (by decide) rfl (fun ls hl => ?_)
      refine lv_iload hx hb dL_isTold_89 (lv_at hl 7 rfl) ?_
      refine n_iconst hx hb dL_isTold_91 ?_
      refine n_idivv (v := (((one / 4) : Nat) : Int)) hx hb dL_isTold_92 (by omega) (by omega) (by omega) (by omega) (by omega) ?_
      refine n_bipush hx hb dL_isTold_93 (by decide) ?_
      refine n_iremv (v := (((one / 4 % 13) : Nat) : Int)) hx hb dL_isTold_95 (by omega) (by omega) (by omega) (by omega) (by omega) ?_
      refine n_bipush hx hb dL_isTold_96 (by decide) ?_
      refine n_icmp_ne (tgt := 107) hx hb (by unfold r32; omega) (by unfold r32; omega) dL_isTold_98 (by decide) (fun h98 => ?_) (fun h98 => False.elim (by omega))
      refine lv_iload hx hb dL_isTold_107 (lv_at hl 7 rfl) ?_
      refine n_iconst hx hb dL_isTold_109 ?_
      refine n_idivv (v := (((one / 4) : Nat) : Int)) hx hb dL_isTold_110 (by omega) (by omega) (by omega) (by omega) (by omega) ?_
      refine n_iconst hx hb dL_isTold_111 ?_
      refine n_iremv (v := (((one / 4 % 3) : Nat) : Int)) hx hb dL_isTold_112 (by omega) (by omega) (by omega) (by omega) (by omega) ?_
      refine n_if_ne (tgt := 128) hx hb (by unfold r32; omega) dL_isTold_113 (by decide) (fun h113 => ?_) (fun h113 => False.elim (by omega))
      refine lv_iload hx hb dL_isTold_128 (lv_at hl 7 rfl) ?_
      refine n_iconst hx hb dL_isTold_130 ?_
      refine n_idivv (v := (((one / 4) : Nat) : Int)) hx hb dL_isTold_131 (by omega) (by omega) (by omega) (by omega) (by omega) ?_
      refine n_iconst hx hb dL_isTold_132 ?_
      refine n_iremv (v := (zv z2)) hx hb dL_isTold_133 (by omega) (by omega) (by omega) (by omega) (by omega) ?_
      by_cases hmo : mo < ms
      · by_cases hwh : two % 8 < 7
        · refine lv_istore (lv' := [(9, .int (vI z2)), (8, .int (jI (((two % 8) : Nat) : Int))), (7, .int (jI ((mo : Nat) : Int))), (0, .ref x0), (1, .ref am), (2, .ref ae), (3, .ref ag), (4, .int (jI 1)), (5, .int (jI ((one : Nat) : Int))), (6, .int (jI ((two : Nat) : Int)))]) hx hb dL_isTold_134 hl (by decide) rfl (fun ls hl => ?_)
          refine lv_iload hx hb dL_isTold_136 (lv_at hl 2 rfl) ?_
          refine lv_aload_n hx hb dL_isTold_138 rfl (lv_at hl 6 rfl) ?_
          refine n_iconst hx hb dL_isTold_139 ?_
          refine n_nalv (i := 0) (v := ((ms : Nat) : Int)) hx hb hK hP 2 0 rfl htI rfl (Nat.le_of_ble_eq_true rfl) (Nat.le_of_ble_eq_true rfl) (congrArg (fun z : Nat => (z : Int)) hg0) dL_isTold_140 ?_
          refine n_icmp_ge (tgt := 148) hx hb (by unfold r32; omega) (by unfold r32; omega) dL_isTold_141 (by decide) (fun h141 => False.elim (by omega)) (fun h141 => ?_)
          refine n_iconst hx hb dL_isTold_144 ?_
          refine lv_goto (tgt := 149) hx hb dL_isTold_145 (by decide) ?_
          refine lv_istore (lv' := [(10, .int (jI 1)), (9, .int (vI z2)), (8, .int (jI (((two % 8) : Nat) : Int))), (7, .int (jI ((mo : Nat) : Int))), (0, .ref x0), (1, .ref am), (2, .ref ae), (3, .ref ag), (4, .int (jI 1)), (5, .int (jI ((one : Nat) : Int))), (6, .int (jI ((two : Nat) : Int)))]) hx hb dL_isTold_149 hl (by decide) rfl (fun ls hl => ?_)
          refine lv_iload hx hb dL_isTold_151 (lv_at hl 2 rfl) ?_
          refine n_bipush hx hb dL_isTold_153 (by decide) ?_
          refine n_icmp_ge (tgt := 170) hx hb (by unfold r32; omega) (by unfold r32; omega) dL_isTold_155 (by decide) (fun h155 => False.elim (by omega)) (fun h155 => ?_)
          refine lv_iload hx hb dL_isTold_158 (lv_at hl 1 rfl) ?_
          refine n_sipush hx hb dL_isTold_160 (by decide) ?_
          refine n_icmp_ge (tgt := 170) hx hb (r32_z _) (by unfold r32; omega) dL_isTold_163 (by decide) (fun h163 => False.elim (by omega)) (fun h163 => ?_)
          refine n_iconst hx hb dL_isTold_166 ?_
          refine lv_goto (tgt := 171) hx hb dL_isTold_167 (by decide) ?_
          refine lv_istore (lv' := [(11, .int (jI 1)), (10, .int (jI 1)), (9, .int (vI z2)), (8, .int (jI (((two % 8) : Nat) : Int))), (7, .int (jI ((mo : Nat) : Int))), (0, .ref x0), (1, .ref am), (2, .ref ae), (3, .ref ag), (4, .int (jI 1)), (5, .int (jI ((one : Nat) : Int))), (6, .int (jI ((two : Nat) : Int)))]) hx hb dL_isTold_171 hl (by decide) rfl (fun ls hl => ?_)
          refine lv_iload hx hb dL_isTold_173 (lv_at hl 1 rfl) ?_
          refine n_if_eq (tgt := 194) hx hb (by unfold r32; decide) dL_isTold_175 (by decide) (fun h175 => False.elim (by revert h175; decide)) (fun h175 => ?_)
          refine lv_iload hx hb dL_isTold_178 (lv_at hl 0 rfl) ?_
          refine n_if_eq (tgt := 194) hx hb (by unfold r32; decide) dL_isTold_180 (by decide) (fun h180 => False.elim (by revert h180; decide)) (fun h180 => ?_)
          refine n_bipush hx hb dL_isTold_183 (by decide) ?_
          refine lv_iload hx hb dL_isTold_185 (lv_at hl 4 rfl) ?_
          refine n_imul hx hb dL_isTold_187 ?_
          refine lv_iload hx hb dL_isTold_188 (lv_at hl 3 rfl) ?_
          refine n_iadd hx hb dL_isTold_190 ?_
          refine lv_goto (tgt := 196) hx hb dL_isTold_191 (by decide) ?_
          refine lv_istore (lv' := [(12, .int (jI ((7 * ((mo : Nat) : Int)) + (((two % 8) : Nat) : Int)))), (11, .int (jI 1)), (10, .int (jI 1)), (9, .int (vI z2)), (8, .int (jI (((two % 8) : Nat) : Int))), (7, .int (jI ((mo : Nat) : Int))), (0, .ref x0), (1, .ref am), (2, .ref ae), (3, .ref ag), (4, .int (jI 1)), (5, .int (jI ((one : Nat) : Int))), (6, .int (jI ((two : Nat) : Int)))]) hx hb dL_isTold_196 hl (by decide) rfl (fun ls hl => ?_)
          refine lv_aload_n hx hb dL_isTold_198 rfl (lv_at hl 7 rfl) ?_
          refine lv_iload hx hb dL_isTold_199 (lv_at hl 0 rfl) ?_
          refine n_ialdv (i := (7 * mo + two % 8)) (v := (zv (gE (7 * mo + two % 8)))) hx hb hK hP 0 0 rfl htI (by omega) (by omega) (Nat.le_of_ble_eq_true rfl) (hm _ (by omega)) dL_isTold_201 ?_
          refine lv_istore (lv' := [(13, .int (vI (gE (7 * mo + two % 8)))), (12, .int (jI ((7 * ((mo : Nat) : Int)) + (((two % 8) : Nat) : Int)))), (11, .int (jI 1)), (10, .int (jI 1)), (9, .int (vI z2)), (8, .int (jI (((two % 8) : Nat) : Int))), (7, .int (jI ((mo : Nat) : Int))), (0, .ref x0), (1, .ref am), (2, .ref ae), (3, .ref ag), (4, .int (jI 1)), (5, .int (jI ((one : Nat) : Int))), (6, .int (jI ((two : Nat) : Int)))]) hx hb dL_isTold_202 hl (by decide) rfl (fun ls hl => ?_)
          refine lv_aload_n hx hb dL_isTold_204 rfl (lv_at hl 8 rfl) ?_
          refine lv_iload hx hb dL_isTold_205 (lv_at hl 1 rfl) ?_
          refine lv_iload hx hb dL_isTold_207 (lv_at hl 4 rfl) ?_
          refine n_iast (i := (7 * mo + two % 8)) hx hb hK hP hD hS 0 0 rfl htI (by omega) (by omega) (Nat.le_of_ble_eq_true rfl) dL_isTold_209 (fun H locs hP hD hS => ?_)
          have hP : va_P D vwCl ((am, .inl (cI, 22, .inl (fun i => jI ((va_up fm (7 * mo + two % 8) (zv z2)) i)))) :: (ae, .inl (cI, 45, .inl (fun i => jI (fe i)))) :: (ag, .inl (cI, 2, .inl (fun i => jI ((fg i : Nat) : Int)))) :: (CW cI cE cG cM cS x0 q0 q1 qr (ms, es, gE, gM, gB, gT, gG, gN, gK, gD) κ)) H := hP
          have hD : va_D A ((am, .inl (cI, 22, .inl (fun i => jI ((va_up fm (7 * mo + two % 8) (zv z2)) i)))) :: (ae, .inl (cI, 45, .inl (fun i => jI (fe i)))) :: (ag, .inl (cI, 2, .inl (fun i => jI ((fg i : Nat) : Int)))) :: (CW cI cE cG cM cS x0 q0 q1 qr (ms, es, gE, gM, gB, gT, gG, gN, gK, gD) κ)) := hD
          refine lv_aload_n hx hb dL_isTold_210 rfl (lv_at hl 7 rfl) ?_
          refine n_iconst hx hb dL_isTold_211 ?_
          refine lv_iload hx hb dL_isTold_212 (lv_at hl 6 rfl) ?_
          refine lv_iload hx hb dL_isTold_214 (lv_at hl 5 rfl) ?_
          refine lv_iload hx hb dL_isTold_216 (lv_at hl 4 rfl) ?_
          refine n_iconst hx hb dL_isTold_218 ?_
          refine n_iconst hx hb dL_isTold_219 ?_
          refine n_iconst hx hb dL_isTold_220 ?_
          have hC := d_entry0 l hl9 D tys htI htE htM htS htG x0 q0 q1 qr ms es gE gM gB gT gG gN gK gD κ hI mo (two % 8) z2 (by omega) (by omega)
          have hW := w_does_entry l D tys x0 q0 q1 qr ms es gE gM gB gT gG gN gK gD κ (jI ((mo : Nat) : Int)) (jI (((two % 8) : Nat) : Int)) (vI z2) (jI 0) (jI 0) (jI 0) (ms, es, va_up gE (7 * mo + two % 8) z2, gM, gB, gT, gG, gN, gK, gD) 0 _ hC
          have hP : va_P D vwCl ((CW cI cE cG cM cS x0 q0 q1 qr (ms, es, gE, gM, gB, gT, gG, gN, gK, gD) κ) ++ [(am, .inl (cI, 22, .inl (fun i => jI ((va_up fm (7 * mo + two % 8) (zv z2)) i)))), (ae, .inl (cI, 45, .inl (fun i => jI (fe i)))), (ag, .inl (cI, 2, .inl (fun i => jI ((fg i : Nat) : Int))))]) H := hP.perm (List.perm_append_comm (l₁ := ([(am, .inl (cI, 22, .inl (fun i => jI ((va_up fm (7 * mo + two % 8) (zv z2)) i)))), (ae, .inl (cI, 45, .inl (fun i => jI (fe i)))), (ag, .inl (cI, 2, .inl (fun i => jI ((fg i : Nat) : Int))))] : va_W)) (l₂ := (CW cI cE cG cM cS x0 q0 q1 qr (ms, es, gE, gM, gB, gT, gG, gN, gK, gD) κ)))
          have hD : va_D A ((CW cI cE cG cM cS x0 q0 q1 qr (ms, es, gE, gM, gB, gT, gG, gN, gK, gD) κ) ++ [(am, .inl (cI, 22, .inl (fun i => jI ((va_up fm (7 * mo + two % 8) (zv z2)) i)))), (ae, .inl (cI, 45, .inl (fun i => jI (fe i)))), (ag, .inl (cI, 2, .inl (fun i => jI ((fg i : Nat) : Int))))]) := hD.perm (List.perm_append_comm (l₁ := ([(am, .inl (cI, 22, .inl (fun i => jI ((va_up fm (7 * mo + two % 8) (zv z2)) i)))), (ae, .inl (cI, 45, .inl (fun i => jI (fe i)))), (ag, .inl (cI, 2, .inl (fun i => jI ((fg i : Nat) : Int))))] : va_W)) (l₂ := (CW cI cE cG cM cS x0 q0 q1 qr (ms, es, gE, gM, gB, gT, gG, gN, gK, gD) κ)))
          refine a_goNI (vx_runSW (As := [.ref x0, .int (jI 1), .int (jI ((mo : Nat) : Int)), .int (jI (((two % 8) : Nat) : Int)), .int (vI z2), .int (jI 0), .int (jI 0), .int (jI 0)]) (rest := []) ⟨hx, hb, hml, hown, hts⟩ (hW _) (vx_cwSW 8 hts gL_isTold_L_does rfl rfl rfl (by decide +kernel) ⟨(Nat.le_of_ble_eq_true rfl), (Nat.le_of_ble_eq_true rfl)⟩) (c_pre hK hXK hZ hN hP hD hS hA) rfl rfl hl.1 rfl (lv_room (Nat.le_of_ble_eq_true rfl)) dL_isTold_221 ⟨(Nat.le_of_ble_eq_true rfl), (Nat.le_of_ble_eq_true rfl)⟩) hP hD hS hA (fun r κ2 H locs hpost hP hD hS => ?_)
          obtain ⟨hr9, hI2⟩ := hpost
          have hr9 : r = vI (gE (7 * mo + two % 8)) := hr9
          subst hr9
          have hP : va_P D vwCl ((CW cI cE cG cM cS x0 q0 q1 qr (ms, es, va_up gE (7 * mo + two % 8) z2, gM, gB, gT, gG, gN, gK, gD) κ2) ++ [(am, .inl (cI, 22, .inl (fun i => jI ((va_up fm (7 * mo + two % 8) (zv z2)) i)))), (ae, .inl (cI, 45, .inl (fun i => jI (fe i)))), (ag, .inl (cI, 2, .inl (fun i => jI ((fg i : Nat) : Int))))]) H := hP
          have hD : va_D A ((CW cI cE cG cM cS x0 q0 q1 qr (ms, es, va_up gE (7 * mo + two % 8) z2, gM, gB, gT, gG, gN, gK, gD) κ2) ++ [(am, .inl (cI, 22, .inl (fun i => jI ((va_up fm (7 * mo + two % 8) (zv z2)) i)))), (ae, .inl (cI, 45, .inl (fun i => jI (fe i)))), (ag, .inl (cI, 2, .inl (fun i => jI ((fg i : Nat) : Int))))]) := hD
          have hP : va_P D vwCl ((am, .inl (cI, 22, .inl (fun i => jI ((va_up fm (7 * mo + two % 8) (zv z2)) i)))) :: (ae, .inl (cI, 45, .inl (fun i => jI (fe i)))) :: (ag, .inl (cI, 2, .inl (fun i => jI ((fg i : Nat) : Int)))) :: (CW cI cE cG cM cS x0 q0 q1 qr (ms, es, va_up gE (7 * mo + two % 8) z2, gM, gB, gT, gG, gN, gK, gD) κ2)) H := hP.perm (List.perm_append_comm (l₁ := (CW cI cE cG cM cS x0 q0 q1 qr (ms, es, va_up gE (7 * mo + two % 8) z2, gM, gB, gT, gG, gN, gK, gD) κ2)) (l₂ := ([(am, .inl (cI, 22, .inl (fun i => jI ((va_up fm (7 * mo + two % 8) (zv z2)) i)))), (ae, .inl (cI, 45, .inl (fun i => jI (fe i)))), (ag, .inl (cI, 2, .inl (fun i => jI ((fg i : Nat) : Int))))] : va_W)))
          have hD : va_D A ((am, .inl (cI, 22, .inl (fun i => jI ((va_up fm (7 * mo + two % 8) (zv z2)) i)))) :: (ae, .inl (cI, 45, .inl (fun i => jI (fe i)))) :: (ag, .inl (cI, 2, .inl (fun i => jI ((fg i : Nat) : Int)))) :: (CW cI cE cG cM cS x0 q0 q1 qr (ms, es, va_up gE (7 * mo + two % 8) z2, gM, gB, gT, gG, gN, gK, gD) κ2)) := hD.perm (List.perm_append_comm (l₁ := (CW cI cE cG cM cS x0 q0 q1 qr (ms, es, va_up gE (7 * mo + two % 8) z2, gM, gB, gT, gG, gN, gK, gD) κ2)) (l₂ := ([(am, .inl (cI, 22, .inl (fun i => jI ((va_up fm (7 * mo + two % 8) (zv z2)) i)))), (ae, .inl (cI, 45, .inl (fun i => jI (fe i)))), (ag, .inl (cI, 2, .inl (fun i => jI ((fg i : Nat) : Int))))] : va_W)))
          refine lv_iload hx hb dL_isTold_224 (lv_at hl 3 rfl) ?_
          refine n_if_ne (tgt := 234) hx hb (by unfold r32; decide) dL_isTold_226 (by decide) (fun h226 => ?_) (fun h226 => False.elim (by revert h226; decide))
          refine lv_iload hx hb dL_isTold_234 (lv_at hl 2 rfl) ?_
          refine n_if_eq (tgt := 244) hx hb (by unfold r32; decide) dL_isTold_236 (by decide) (fun h236 => False.elim (by revert h236; decide)) (fun h236 => ?_)
          refine lv_iload hx hb dL_isTold_239 (lv_at hl 0 rfl) ?_
          refine lv_goto (tgt := 246) hx hb dL_isTold_241 (by decide) ?_
          refine n_icmp_ne (tgt := 253) hx hb (r32_z _) (r32_z _) dL_isTold_246 (by decide) (fun h246 => False.elim (h246 rfl)) (fun h246 => ?_)
          refine n_iconst hx hb dL_isTold_249 ?_
          refine lv_goto (tgt := 254) hx hb dL_isTold_250 (by decide) ?_
          refine W.widen (k := 228) (n := 867) (Nat.le_of_ble_eq_true rfl) (Nat.le_of_ble_eq_true rfl) ?_
          exact y_zret (b := true) ((ms, es, va_up gE (7 * mo + two % 8) z2, gM, gB, gT, gG, gN, gK, gD), κ2, va_up fm (7 * mo + two % 8) (zv z2), fe, fg) hx hb hr hlocks dL_isTold_254 hP hD hS rfl ⟨rfl, hI2, (hL.entry mo (two % 8) z2).up⟩
        · refine lv_istore (lv' := [(9, .int (vI z2)), (8, .int (jI (((two % 8) : Nat) : Int))), (7, .int (jI ((mo : Nat) : Int))), (0, .ref x0), (1, .ref am), (2, .ref ae), (3, .ref ag), (4, .int (jI 1)), (5, .int (jI ((one : Nat) : Int))), (6, .int (jI ((two : Nat) : Int)))]) hx hb dL_isTold_134 hl (by decide) rfl (fun ls hl => ?_)
          refine lv_iload hx hb dL_isTold_136 (lv_at hl 2 rfl) ?_
          refine lv_aload_n hx hb dL_isTold_138 rfl (lv_at hl 6 rfl) ?_
          refine n_iconst hx hb dL_isTold_139 ?_
          refine n_nalv (i := 0) (v := ((ms : Nat) : Int)) hx hb hK hP 2 0 rfl htI rfl (Nat.le_of_ble_eq_true rfl) (Nat.le_of_ble_eq_true rfl) (congrArg (fun z : Nat => (z : Int)) hg0) dL_isTold_140 ?_
          refine n_icmp_ge (tgt := 148) hx hb (by unfold r32; omega) (by unfold r32; omega) dL_isTold_141 (by decide) (fun h141 => False.elim (by omega)) (fun h141 => ?_)
          refine n_iconst hx hb dL_isTold_144 ?_
          refine lv_goto (tgt := 149) hx hb dL_isTold_145 (by decide) ?_
          refine lv_istore (lv' := [(10, .int (jI 1)), (9, .int (vI z2)), (8, .int (jI (((two % 8) : Nat) : Int))), (7, .int (jI ((mo : Nat) : Int))), (0, .ref x0), (1, .ref am), (2, .ref ae), (3, .ref ag), (4, .int (jI 1)), (5, .int (jI ((one : Nat) : Int))), (6, .int (jI ((two : Nat) : Int)))]) hx hb dL_isTold_149 hl (by decide) rfl (fun ls hl => ?_)
          refine lv_iload hx hb dL_isTold_151 (lv_at hl 2 rfl) ?_
          refine n_bipush hx hb dL_isTold_153 (by decide) ?_
          refine n_icmp_ge (tgt := 170) hx hb (by unfold r32; omega) (by unfold r32; omega) dL_isTold_155 (by decide) (fun h155 => ?_) (fun h155 => False.elim (by omega))
          refine n_iconst hx hb dL_isTold_170 ?_
          refine lv_istore (lv' := [(11, .int (jI 0)), (10, .int (jI 1)), (9, .int (vI z2)), (8, .int (jI (((two % 8) : Nat) : Int))), (7, .int (jI ((mo : Nat) : Int))), (0, .ref x0), (1, .ref am), (2, .ref ae), (3, .ref ag), (4, .int (jI 1)), (5, .int (jI ((one : Nat) : Int))), (6, .int (jI ((two : Nat) : Int)))]) hx hb dL_isTold_171 hl (by decide) rfl (fun ls hl => ?_)
          refine lv_iload hx hb dL_isTold_173 (lv_at hl 1 rfl) ?_
          refine n_if_eq (tgt := 194) hx hb (by unfold r32; decide) dL_isTold_175 (by decide) (fun h175 => False.elim (by revert h175; decide)) (fun h175 => ?_)
          refine lv_iload hx hb dL_isTold_178 (lv_at hl 0 rfl) ?_
          refine n_if_eq (tgt := 194) hx hb (by unfold r32; decide) dL_isTold_180 (by decide) (fun h180 => ?_) (fun h180 => False.elim (by revert h180; decide))
          refine n_bipush hx hb dL_isTold_194 (by decide) ?_
          refine lv_istore (lv' := [(12, .int (jI 21)), (11, .int (jI 0)), (10, .int (jI 1)), (9, .int (vI z2)), (8, .int (jI (((two % 8) : Nat) : Int))), (7, .int (jI ((mo : Nat) : Int))), (0, .ref x0), (1, .ref am), (2, .ref ae), (3, .ref ag), (4, .int (jI 1)), (5, .int (jI ((one : Nat) : Int))), (6, .int (jI ((two : Nat) : Int)))]) hx hb dL_isTold_196 hl (by decide) rfl (fun ls hl => ?_)
          refine lv_aload_n hx hb dL_isTold_198 rfl (lv_at hl 7 rfl) ?_
          refine lv_iload hx hb dL_isTold_199 (lv_at hl 0 rfl) ?_
          refine n_iald (i := 21) hx hb hK hP 0 0 rfl htI rfl (Nat.le_of_ble_eq_true rfl) (Nat.le_of_ble_eq_true rfl) dL_isTold_201 ?_
          refine lv_istore (lv' := [(13, .int (jI (fm 21))), (12, .int (jI 21)), (11, .int (jI 0)), (10, .int (jI 1)), (9, .int (vI z2)), (8, .int (jI (((two % 8) : Nat) : Int))), (7, .int (jI ((mo : Nat) : Int))), (0, .ref x0), (1, .ref am), (2, .ref ae), (3, .ref ag), (4, .int (jI 1)), (5, .int (jI ((one : Nat) : Int))), (6, .int (jI ((two : Nat) : Int)))]) hx hb dL_isTold_202 hl (by decide) rfl (fun ls hl => ?_)
          refine lv_aload_n hx hb dL_isTold_204 rfl (lv_at hl 8 rfl) ?_
          refine lv_iload hx hb dL_isTold_205 (lv_at hl 1 rfl) ?_
          refine lv_iload hx hb dL_isTold_207 (lv_at hl 4 rfl) ?_
          refine n_iast (i := 21) hx hb hK hP hD hS 0 0 rfl htI rfl (Nat.le_of_ble_eq_true rfl) (Nat.le_of_ble_eq_true rfl) dL_isTold_209 (fun H locs hP hD hS => ?_)
          have hP : va_P D vwCl ((am, .inl (cI, 22, .inl (fun i => jI ((va_up fm 21 (zv z2)) i)))) :: (ae, .inl (cI, 45, .inl (fun i => jI (fe i)))) :: (ag, .inl (cI, 2, .inl (fun i => jI ((fg i : Nat) : Int)))) :: (CW cI cE cG cM cS x0 q0 q1 qr (ms, es, gE, gM, gB, gT, gG, gN, gK, gD) κ)) H := hP
          have hD : va_D A ((am, .inl (cI, 22, .inl (fun i => jI ((va_up fm 21 (zv z2)) i)))) :: (ae, .inl (cI, 45, .inl (fun i => jI (fe i)))) :: (ag, .inl (cI, 2, .inl (fun i => jI ((fg i : Nat) : Int)))) :: (CW cI cE cG cM cS x0 q0 q1 qr (ms, es, gE, gM, gB, gT, gG, gN, gK, gD) κ)) := hD
          refine lv_aload_n hx hb dL_isTold_210 rfl (lv_at hl 7 rfl) ?_
          refine n_iconst hx hb dL_isTold_211 ?_
          refine lv_iload hx hb dL_isTold_212 (lv_at hl 6 rfl) ?_
          refine lv_iload hx hb dL_isTold_214 (lv_at hl 5 rfl) ?_
          refine lv_iload hx hb dL_isTold_216 (lv_at hl 4 rfl) ?_
          refine n_iconst hx hb dL_isTold_218 ?_
          refine n_iconst hx hb dL_isTold_219 ?_
          refine n_iconst hx hb dL_isTold_220 ?_
          have hC := d_entry2 l hl9 D tys htI htE htM htS htG x0 q0 q1 qr ms es gE gM gB gT gG gN gK gD κ hI mo ((two % 8 : Nat) : Int) (zv z2) (by omega) (by unfold r32; omega) (r32_z _) (by rw [inB_f (by omega)]; rfl)
          have hW := w_does_entry l D tys x0 q0 q1 qr ms es gE gM gB gT gG gN gK gD κ (jI ((mo : Nat) : Int)) (jI (((two % 8) : Nat) : Int)) (vI z2) (jI 0) (jI 0) (jI 0) (ms, es, gE, gM, gB, gT, gG, gN, gK, gD) 2 _ hC
          have hP : va_P D vwCl ((CW cI cE cG cM cS x0 q0 q1 qr (ms, es, gE, gM, gB, gT, gG, gN, gK, gD) κ) ++ [(am, .inl (cI, 22, .inl (fun i => jI ((va_up fm 21 (zv z2)) i)))), (ae, .inl (cI, 45, .inl (fun i => jI (fe i)))), (ag, .inl (cI, 2, .inl (fun i => jI ((fg i : Nat) : Int))))]) H := hP.perm (List.perm_append_comm (l₁ := ([(am, .inl (cI, 22, .inl (fun i => jI ((va_up fm 21 (zv z2)) i)))), (ae, .inl (cI, 45, .inl (fun i => jI (fe i)))), (ag, .inl (cI, 2, .inl (fun i => jI ((fg i : Nat) : Int))))] : va_W)) (l₂ := (CW cI cE cG cM cS x0 q0 q1 qr (ms, es, gE, gM, gB, gT, gG, gN, gK, gD) κ)))
          have hD : va_D A ((CW cI cE cG cM cS x0 q0 q1 qr (ms, es, gE, gM, gB, gT, gG, gN, gK, gD) κ) ++ [(am, .inl (cI, 22, .inl (fun i => jI ((va_up fm 21 (zv z2)) i)))), (ae, .inl (cI, 45, .inl (fun i => jI (fe i)))), (ag, .inl (cI, 2, .inl (fun i => jI ((fg i : Nat) : Int))))]) := hD.perm (List.perm_append_comm (l₁ := ([(am, .inl (cI, 22, .inl (fun i => jI ((va_up fm 21 (zv z2)) i)))), (ae, .inl (cI, 45, .inl (fun i => jI (fe i)))), (ag, .inl (cI, 2, .inl (fun i => jI ((fg i : Nat) : Int))))] : va_W)) (l₂ := (CW cI cE cG cM cS x0 q0 q1 qr (ms, es, gE, gM, gB, gT, gG, gN, gK, gD) κ)))
          refine a_goNI (vx_runSW (As := [.ref x0, .int (jI 1), .int (jI ((mo : Nat) : Int)), .int (jI (((two % 8) : Nat) : Int)), .int (vI z2), .int (jI 0), .int (jI 0), .int (jI 0)]) (rest := []) ⟨hx, hb, hml, hown, hts⟩ (hW _) (vx_cwSW 8 hts gL_isTold_L_does rfl rfl rfl (by decide +kernel) ⟨(Nat.le_of_ble_eq_true rfl), (Nat.le_of_ble_eq_true rfl)⟩) (c_pre hK hXK hZ hN hP hD hS hA) rfl rfl hl.1 rfl (lv_room (Nat.le_of_ble_eq_true rfl)) dL_isTold_221 ⟨(Nat.le_of_ble_eq_true rfl), (Nat.le_of_ble_eq_true rfl)⟩) hP hD hS hA (fun r κ2 H locs hpost hP hD hS => ?_)
          obtain ⟨hr9, hI2⟩ := hpost
          have hr9 : r = jI (-2) := hr9
          subst hr9
          have hP : va_P D vwCl ((CW cI cE cG cM cS x0 q0 q1 qr (ms, es, gE, gM, gB, gT, gG, gN, gK, gD) κ2) ++ [(am, .inl (cI, 22, .inl (fun i => jI ((va_up fm 21 (zv z2)) i)))), (ae, .inl (cI, 45, .inl (fun i => jI (fe i)))), (ag, .inl (cI, 2, .inl (fun i => jI ((fg i : Nat) : Int))))]) H := hP
          have hD : va_D A ((CW cI cE cG cM cS x0 q0 q1 qr (ms, es, gE, gM, gB, gT, gG, gN, gK, gD) κ2) ++ [(am, .inl (cI, 22, .inl (fun i => jI ((va_up fm 21 (zv z2)) i)))), (ae, .inl (cI, 45, .inl (fun i => jI (fe i)))), (ag, .inl (cI, 2, .inl (fun i => jI ((fg i : Nat) : Int))))]) := hD
          have hP : va_P D vwCl ((am, .inl (cI, 22, .inl (fun i => jI ((va_up fm 21 (zv z2)) i)))) :: (ae, .inl (cI, 45, .inl (fun i => jI (fe i)))) :: (ag, .inl (cI, 2, .inl (fun i => jI ((fg i : Nat) : Int)))) :: (CW cI cE cG cM cS x0 q0 q1 qr (ms, es, gE, gM, gB, gT, gG, gN, gK, gD) κ2)) H := hP.perm (List.perm_append_comm (l₁ := (CW cI cE cG cM cS x0 q0 q1 qr (ms, es, gE, gM, gB, gT, gG, gN, gK, gD) κ2)) (l₂ := ([(am, .inl (cI, 22, .inl (fun i => jI ((va_up fm 21 (zv z2)) i)))), (ae, .inl (cI, 45, .inl (fun i => jI (fe i)))), (ag, .inl (cI, 2, .inl (fun i => jI ((fg i : Nat) : Int))))] : va_W)))
          have hD : va_D A ((am, .inl (cI, 22, .inl (fun i => jI ((va_up fm 21 (zv z2)) i)))) :: (ae, .inl (cI, 45, .inl (fun i => jI (fe i)))) :: (ag, .inl (cI, 2, .inl (fun i => jI ((fg i : Nat) : Int)))) :: (CW cI cE cG cM cS x0 q0 q1 qr (ms, es, gE, gM, gB, gT, gG, gN, gK, gD) κ2)) := hD.perm (List.perm_append_comm (l₁ := (CW cI cE cG cM cS x0 q0 q1 qr (ms, es, gE, gM, gB, gT, gG, gN, gK, gD) κ2)) (l₂ := ([(am, .inl (cI, 22, .inl (fun i => jI ((va_up fm 21 (zv z2)) i)))), (ae, .inl (cI, 45, .inl (fun i => jI (fe i)))), (ag, .inl (cI, 2, .inl (fun i => jI ((fg i : Nat) : Int))))] : va_W)))
          refine lv_iload hx hb dL_isTold_224 (lv_at hl 3 rfl) ?_
          refine n_if_ne (tgt := 234) hx hb (by unfold r32; decide) dL_isTold_226 (by decide) (fun h226 => ?_) (fun h226 => False.elim (by revert h226; decide))
          refine lv_iload hx hb dL_isTold_234 (lv_at hl 2 rfl) ?_
          refine n_if_eq (tgt := 244) hx hb (by unfold r32; decide) dL_isTold_236 (by decide) (fun h236 => ?_) (fun h236 => False.elim (by revert h236; decide))
          refine n_bipush hx hb dL_isTold_244 (by decide) ?_
          refine n_icmp_ne (tgt := 253) hx hb (by unfold r32; omega) (by unfold r32; omega) dL_isTold_246 (by decide) (fun h246 => False.elim (h246 rfl)) (fun h246 => ?_)
          refine n_iconst hx hb dL_isTold_249 ?_
          refine lv_goto (tgt := 254) hx hb dL_isTold_250 (by decide) ?_
          refine W.widen (k := 228) (n := 867) (Nat.le_of_ble_eq_true rfl) (Nat.le_of_ble_eq_true rfl) ?_
          exact y_zret (b := true) ((ms, es, gE, gM, gB, gT, gG, gN, gK, gD), κ2, va_up fm 21 (zv z2), fe, fg) hx hb hr hlocks dL_isTold_254 hP hD hS rfl ⟨rfl, hI2, (hL.m21 _).up⟩
      · by_cases hwh : two % 8 < 7
        · refine lv_istore (lv' := [(9, .int (vI z2)), (8, .int (jI (((two % 8) : Nat) : Int))), (7, .int (jI ((mo : Nat) : Int))), (0, .ref x0), (1, .ref am), (2, .ref ae), (3, .ref ag), (4, .int (jI 1)), (5, .int (jI ((one : Nat) : Int))), (6, .int (jI ((two : Nat) : Int)))]) hx hb dL_isTold_134 hl (by decide) rfl (fun ls hl => ?_)
          refine lv_iload hx hb dL_isTold_136 (lv_at hl 2 rfl) ?_
          refine lv_aload_n hx hb dL_isTold_138 rfl (lv_at hl 6 rfl) ?_
          refine n_iconst hx hb dL_isTold_139 ?_
          refine n_nalv (i := 0) (v := ((ms : Nat) : Int)) hx hb hK hP 2 0 rfl htI rfl (Nat.le_of_ble_eq_true rfl) (Nat.le_of_ble_eq_true rfl) (congrArg (fun z : Nat => (z : Int)) hg0) dL_isTold_140 ?_
          refine n_icmp_ge (tgt := 148) hx hb (by unfold r32; omega) (by unfold r32; omega) dL_isTold_141 (by decide) (fun h141 => ?_) (fun h141 => False.elim (by omega))
          refine n_iconst hx hb dL_isTold_148 ?_
          refine lv_istore (lv' := [(10, .int (jI 0)), (9, .int (vI z2)), (8, .int (jI (((two % 8) : Nat) : Int))), (7, .int (jI ((mo : Nat) : Int))), (0, .ref x0), (1, .ref am), (2, .ref ae), (3, .ref ag), (4, .int (jI 1)), (5, .int (jI ((one : Nat) : Int))), (6, .int (jI ((two : Nat) : Int)))]) hx hb dL_isTold_149 hl (by decide) rfl (fun ls hl => ?_)
          refine lv_iload hx hb dL_isTold_151 (lv_at hl 2 rfl) ?_
          refine n_bipush hx hb dL_isTold_153 (by decide) ?_
          refine n_icmp_ge (tgt := 170) hx hb (by unfold r32; omega) (by unfold r32; omega) dL_isTold_155 (by decide) (fun h155 => False.elim (by omega)) (fun h155 => ?_)
          refine lv_iload hx hb dL_isTold_158 (lv_at hl 1 rfl) ?_
          refine n_sipush hx hb dL_isTold_160 (by decide) ?_
          refine n_icmp_ge (tgt := 170) hx hb (r32_z _) (by unfold r32; omega) dL_isTold_163 (by decide) (fun h163 => False.elim (by omega)) (fun h163 => ?_)
          refine n_iconst hx hb dL_isTold_166 ?_
          refine lv_goto (tgt := 171) hx hb dL_isTold_167 (by decide) ?_
          refine lv_istore (lv' := [(11, .int (jI 1)), (10, .int (jI 0)), (9, .int (vI z2)), (8, .int (jI (((two % 8) : Nat) : Int))), (7, .int (jI ((mo : Nat) : Int))), (0, .ref x0), (1, .ref am), (2, .ref ae), (3, .ref ag), (4, .int (jI 1)), (5, .int (jI ((one : Nat) : Int))), (6, .int (jI ((two : Nat) : Int)))]) hx hb dL_isTold_171 hl (by decide) rfl (fun ls hl => ?_)
          refine lv_iload hx hb dL_isTold_173 (lv_at hl 1 rfl) ?_
          refine n_if_eq (tgt := 194) hx hb (by unfold r32; decide) dL_isTold_175 (by decide) (fun h175 => ?_) (fun h175 => False.elim (by revert h175; decide))
          refine n_bipush hx hb dL_isTold_194 (by decide) ?_
          refine lv_istore (lv' := [(12, .int (jI 21)), (11, .int (jI 1)), (10, .int (jI 0)), (9, .int (vI z2)), (8, .int (jI (((two % 8) : Nat) : Int))), (7, .int (jI ((mo : Nat) : Int))), (0, .ref x0), (1, .ref am), (2, .ref ae), (3, .ref ag), (4, .int (jI 1)), (5, .int (jI ((one : Nat) : Int))), (6, .int (jI ((two : Nat) : Int)))]) hx hb dL_isTold_196 hl (by decide) rfl (fun ls hl => ?_)
          refine lv_aload_n hx hb dL_isTold_198 rfl (lv_at hl 7 rfl) ?_
          refine lv_iload hx hb dL_isTold_199 (lv_at hl 0 rfl) ?_
          refine n_iald (i := 21) hx hb hK hP 0 0 rfl htI rfl (Nat.le_of_ble_eq_true rfl) (Nat.le_of_ble_eq_true rfl) dL_isTold_201 ?_
          refine lv_istore (lv' := [(13, .int (jI (fm 21))), (12, .int (jI 21)), (11, .int (jI 1)), (10, .int (jI 0)), (9, .int (vI z2)), (8, .int (jI (((two % 8) : Nat) : Int))), (7, .int (jI ((mo : Nat) : Int))), (0, .ref x0), (1, .ref am), (2, .ref ae), (3, .ref ag), (4, .int (jI 1)), (5, .int (jI ((one : Nat) : Int))), (6, .int (jI ((two : Nat) : Int)))]) hx hb dL_isTold_202 hl (by decide) rfl (fun ls hl => ?_)
          refine lv_aload_n hx hb dL_isTold_204 rfl (lv_at hl 8 rfl) ?_
          refine lv_iload hx hb dL_isTold_205 (lv_at hl 1 rfl) ?_
          refine lv_iload hx hb dL_isTold_207 (lv_at hl 4 rfl) ?_
          refine n_iast (i := 21) hx hb hK hP hD hS 0 0 rfl htI rfl (Nat.le_of_ble_eq_true rfl) (Nat.le_of_ble_eq_true rfl) dL_isTold_209 (fun H locs hP hD hS => ?_)
          have hP : va_P D vwCl ((am, .inl (cI, 22, .inl (fun i => jI ((va_up fm 21 (zv z2)) i)))) :: (ae, .inl (cI, 45, .inl (fun i => jI (fe i)))) :: (ag, .inl (cI, 2, .inl (fun i => jI ((fg i : Nat) : Int)))) :: (CW cI cE cG cM cS x0 q0 q1 qr (ms, es, gE, gM, gB, gT, gG, gN, gK, gD) κ)) H := hP
          have hD : va_D A ((am, .inl (cI, 22, .inl (fun i => jI ((va_up fm 21 (zv z2)) i)))) :: (ae, .inl (cI, 45, .inl (fun i => jI (fe i)))) :: (ag, .inl (cI, 2, .inl (fun i => jI ((fg i : Nat) : Int)))) :: (CW cI cE cG cM cS x0 q0 q1 qr (ms, es, gE, gM, gB, gT, gG, gN, gK, gD) κ)) := hD
          refine lv_aload_n hx hb dL_isTold_210 rfl (lv_at hl 7 rfl) ?_
          refine n_iconst hx hb dL_isTold_211 ?_
          refine lv_iload hx hb dL_isTold_212 (lv_at hl 6 rfl) ?_
          refine lv_iload hx hb dL_isTold_214 (lv_at hl 5 rfl) ?_
          refine lv_iload hx hb dL_isTold_216 (lv_at hl 4 rfl) ?_
          refine n_iconst hx hb dL_isTold_218 ?_
          refine n_iconst hx hb dL_isTold_219 ?_
          refine n_iconst hx hb dL_isTold_220 ?_
          have hC := d_entry1 l hl9 D tys htI htE htM htS htG x0 q0 q1 qr ms es gE gM gB gT gG gN gK gD κ hI ((mo : Nat) : Int) ((two % 8 : Nat) : Int) (zv z2) (by unfold r32; omega) (by unfold r32; omega) (r32_z _) (inB_f (by omega))
          have hW := w_does_entry l D tys x0 q0 q1 qr ms es gE gM gB gT gG gN gK gD κ (jI ((mo : Nat) : Int)) (jI (((two % 8) : Nat) : Int)) (vI z2) (jI 0) (jI 0) (jI 0) (ms, es, gE, gM, gB, gT, gG, gN, gK, gD) 1 _ hC
          have hP : va_P D vwCl ((CW cI cE cG cM cS x0 q0 q1 qr (ms, es, gE, gM, gB, gT, gG, gN, gK, gD) κ) ++ [(am, .inl (cI, 22, .inl (fun i => jI ((va_up fm 21 (zv z2)) i)))), (ae, .inl (cI, 45, .inl (fun i => jI (fe i)))), (ag, .inl (cI, 2, .inl (fun i => jI ((fg i : Nat) : Int))))]) H := hP.perm (List.perm_append_comm (l₁ := ([(am, .inl (cI, 22, .inl (fun i => jI ((va_up fm 21 (zv z2)) i)))), (ae, .inl (cI, 45, .inl (fun i => jI (fe i)))), (ag, .inl (cI, 2, .inl (fun i => jI ((fg i : Nat) : Int))))] : va_W)) (l₂ := (CW cI cE cG cM cS x0 q0 q1 qr (ms, es, gE, gM, gB, gT, gG, gN, gK, gD) κ)))
          have hD : va_D A ((CW cI cE cG cM cS x0 q0 q1 qr (ms, es, gE, gM, gB, gT, gG, gN, gK, gD) κ) ++ [(am, .inl (cI, 22, .inl (fun i => jI ((va_up fm 21 (zv z2)) i)))), (ae, .inl (cI, 45, .inl (fun i => jI (fe i)))), (ag, .inl (cI, 2, .inl (fun i => jI ((fg i : Nat) : Int))))]) := hD.perm (List.perm_append_comm (l₁ := ([(am, .inl (cI, 22, .inl (fun i => jI ((va_up fm 21 (zv z2)) i)))), (ae, .inl (cI, 45, .inl (fun i => jI (fe i)))), (ag, .inl (cI, 2, .inl (fun i => jI ((fg i : Nat) : Int))))] : va_W)) (l₂ := (CW cI cE cG cM cS x0 q0 q1 qr (ms, es, gE, gM, gB, gT, gG, gN, gK, gD) κ)))
          refine a_goNI (vx_runSW (As := [.ref x0, .int (jI 1), .int (jI ((mo : Nat) : Int)), .int (jI (((two % 8) : Nat) : Int)), .int (vI z2), .int (jI 0), .int (jI 0), .int (jI 0)]) (rest := []) ⟨hx, hb, hml, hown, hts⟩ (hW _) (vx_cwSW 8 hts gL_isTold_L_does rfl rfl rfl (by decide +kernel) ⟨(Nat.le_of_ble_eq_true rfl), (Nat.le_of_ble_eq_true rfl)⟩) (c_pre hK hXK hZ hN hP hD hS hA) rfl rfl hl.1 rfl (lv_room (Nat.le_of_ble_eq_true rfl)) dL_isTold_221 ⟨(Nat.le_of_ble_eq_true rfl), (Nat.le_of_ble_eq_true rfl)⟩) hP hD hS hA (fun r κ2 H locs hpost hP hD hS => ?_)
          obtain ⟨hr9, hI2⟩ := hpost
          have hr9 : r = jI (-3) := hr9
          subst hr9
          have hP : va_P D vwCl ((CW cI cE cG cM cS x0 q0 q1 qr (ms, es, gE, gM, gB, gT, gG, gN, gK, gD) κ2) ++ [(am, .inl (cI, 22, .inl (fun i => jI ((va_up fm 21 (zv z2)) i)))), (ae, .inl (cI, 45, .inl (fun i => jI (fe i)))), (ag, .inl (cI, 2, .inl (fun i => jI ((fg i : Nat) : Int))))]) H := hP
          have hD : va_D A ((CW cI cE cG cM cS x0 q0 q1 qr (ms, es, gE, gM, gB, gT, gG, gN, gK, gD) κ2) ++ [(am, .inl (cI, 22, .inl (fun i => jI ((va_up fm 21 (zv z2)) i)))), (ae, .inl (cI, 45, .inl (fun i => jI (fe i)))), (ag, .inl (cI, 2, .inl (fun i => jI ((fg i : Nat) : Int))))]) := hD
          have hP : va_P D vwCl ((am, .inl (cI, 22, .inl (fun i => jI ((va_up fm 21 (zv z2)) i)))) :: (ae, .inl (cI, 45, .inl (fun i => jI (fe i)))) :: (ag, .inl (cI, 2, .inl (fun i => jI ((fg i : Nat) : Int)))) :: (CW cI cE cG cM cS x0 q0 q1 qr (ms, es, gE, gM, gB, gT, gG, gN, gK, gD) κ2)) H := hP.perm (List.perm_append_comm (l₁ := (CW cI cE cG cM cS x0 q0 q1 qr (ms, es, gE, gM, gB, gT, gG, gN, gK, gD) κ2)) (l₂ := ([(am, .inl (cI, 22, .inl (fun i => jI ((va_up fm 21 (zv z2)) i)))), (ae, .inl (cI, 45, .inl (fun i => jI (fe i)))), (ag, .inl (cI, 2, .inl (fun i => jI ((fg i : Nat) : Int))))] : va_W)))
          have hD : va_D A ((am, .inl (cI, 22, .inl (fun i => jI ((va_up fm 21 (zv z2)) i)))) :: (ae, .inl (cI, 45, .inl (fun i => jI (fe i)))) :: (ag, .inl (cI, 2, .inl (fun i => jI ((fg i : Nat) : Int)))) :: (CW cI cE cG cM cS x0 q0 q1 qr (ms, es, gE, gM, gB, gT, gG, gN, gK, gD) κ2)) := hD.perm (List.perm_append_comm (l₁ := (CW cI cE cG cM cS x0 q0 q1 qr (ms, es, gE, gM, gB, gT, gG, gN, gK, gD) κ2)) (l₂ := ([(am, .inl (cI, 22, .inl (fun i => jI ((va_up fm 21 (zv z2)) i)))), (ae, .inl (cI, 45, .inl (fun i => jI (fe i)))), (ag, .inl (cI, 2, .inl (fun i => jI ((fg i : Nat) : Int))))] : va_W)))
          refine lv_iload hx hb dL_isTold_224 (lv_at hl 3 rfl) ?_
          refine n_if_ne (tgt := 234) hx hb (by unfold r32; decide) dL_isTold_226 (by decide) (fun h226 => False.elim (by revert h226; decide)) (fun h226 => ?_)
          refine n_bipush hx hb dL_isTold_229 (by decide) ?_
          refine lv_goto (tgt := 246) hx hb dL_isTold_231 (by decide) ?_
          refine n_icmp_ne (tgt := 253) hx hb (by unfold r32; omega) (by unfold r32; omega) dL_isTold_246 (by decide) (fun h246 => False.elim (h246 rfl)) (fun h246 => ?_)
          refine n_iconst hx hb dL_isTold_249 ?_
          refine lv_goto (tgt := 254) hx hb dL_isTold_250 (by decide) ?_
          refine W.widen (k := 228) (n := 867) (Nat.le_of_ble_eq_true rfl) (Nat.le_of_ble_eq_true rfl) ?_
          exact y_zret (b := true) ((ms, es, gE, gM, gB, gT, gG, gN, gK, gD), κ2, va_up fm 21 (zv z2), fe, fg) hx hb hr hlocks dL_isTold_254 hP hD hS rfl ⟨rfl, hI2, (hL.m21 _).up⟩
        · refine lv_istore (lv' := [(9, .int (vI z2)), (8, .int (jI (((two % 8) : Nat) : Int))), (7, .int (jI ((mo : Nat) : Int))), (0, .ref x0), (1, .ref am), (2, .ref ae), (3, .ref ag), (4, .int (jI 1)), (5, .int (jI ((one : Nat) : Int))), (6, .int (jI ((two : Nat) : Int)))]) hx hb dL_isTold_134 hl (by decide) rfl (fun ls hl => ?_)
          refine lv_iload hx hb dL_isTold_136 (lv_at hl 2 rfl) ?_
          refine lv_aload_n hx hb dL_isTold_138 rfl (lv_at hl 6 rfl) ?_
          refine n_iconst hx hb dL_isTold_139 ?_
          refine n_nalv (i := 0) (v := ((ms : Nat) : Int)) hx hb hK hP 2 0 rfl htI rfl (Nat.le_of_ble_eq_true rfl) (Nat.le_of_ble_eq_true rfl) (congrArg (fun z : Nat => (z : Int)) hg0) dL_isTold_140 ?_
          refine n_icmp_ge (tgt := 148) hx hb (by unfold r32; omega) (by unfold r32; omega) dL_isTold_141 (by decide) (fun h141 => ?_) (fun h141 => False.elim (by omega))
          refine n_iconst hx hb dL_isTold_148 ?_
          refine lv_istore (lv' := [(10, .int (jI 0)), (9, .int (vI z2)), (8, .int (jI (((two % 8) : Nat) : Int))), (7, .int (jI ((mo : Nat) : Int))), (0, .ref x0), (1, .ref am), (2, .ref ae), (3, .ref ag), (4, .int (jI 1)), (5, .int (jI ((one : Nat) : Int))), (6, .int (jI ((two : Nat) : Int)))]) hx hb dL_isTold_149 hl (by decide) rfl (fun ls hl => ?_)
          refine lv_iload hx hb dL_isTold_151 (lv_at hl 2 rfl) ?_
          refine n_bipush hx hb dL_isTold_153 (by decide) ?_
          refine n_icmp_ge (tgt := 170) hx hb (by unfold r32; omega) (by unfold r32; omega) dL_isTold_155 (by decide) (fun h155 => ?_) (fun h155 => False.elim (by omega))
          refine n_iconst hx hb dL_isTold_170 ?_
          refine lv_istore (lv' := [(11, .int (jI 0)), (10, .int (jI 0)), (9, .int (vI z2)), (8, .int (jI (((two % 8) : Nat) : Int))), (7, .int (jI ((mo : Nat) : Int))), (0, .ref x0), (1, .ref am), (2, .ref ae), (3, .ref ag), (4, .int (jI 1)), (5, .int (jI ((one : Nat) : Int))), (6, .int (jI ((two : Nat) : Int)))]) hx hb dL_isTold_171 hl (by decide) rfl (fun ls hl => ?_)
          refine lv_iload hx hb dL_isTold_173 (lv_at hl 1 rfl) ?_
          refine n_if_eq (tgt := 194) hx hb (by unfold r32; decide) dL_isTold_175 (by decide) (fun h175 => ?_) (fun h175 => False.elim (by revert h175; decide))
          refine n_bipush hx hb dL_isTold_194 (by decide) ?_
          refine lv_istore (lv' := [(12, .int (jI 21)), (11, .int (jI 0)), (10, .int (jI 0)), (9, .int (vI z2)), (8, .int (jI (((two % 8) : Nat) : Int))), (7, .int (jI ((mo : Nat) : Int))), (0, .ref x0), (1, .ref am), (2, .ref ae), (3, .ref ag), (4, .int (jI 1)), (5, .int (jI ((one : Nat) : Int))), (6, .int (jI ((two : Nat) : Int)))]) hx hb dL_isTold_196 hl (by decide) rfl (fun ls hl => ?_)
          refine lv_aload_n hx hb dL_isTold_198 rfl (lv_at hl 7 rfl) ?_
          refine lv_iload hx hb dL_isTold_199 (lv_at hl 0 rfl) ?_
          refine n_iald (i := 21) hx hb hK hP 0 0 rfl htI rfl (Nat.le_of_ble_eq_true rfl) (Nat.le_of_ble_eq_true rfl) dL_isTold_201 ?_
          refine lv_istore (lv' := [(13, .int (jI (fm 21))), (12, .int (jI 21)), (11, .int (jI 0)), (10, .int (jI 0)), (9, .int (vI z2)), (8, .int (jI (((two % 8) : Nat) : Int))), (7, .int (jI ((mo : Nat) : Int))), (0, .ref x0), (1, .ref am), (2, .ref ae), (3, .ref ag), (4, .int (jI 1)), (5, .int (jI ((one : Nat) : Int))), (6, .int (jI ((two : Nat) : Int)))]) hx hb dL_isTold_202 hl (by decide) rfl (fun ls hl => ?_)
          refine lv_aload_n hx hb dL_isTold_204 rfl (lv_at hl 8 rfl) ?_
          refine lv_iload hx hb dL_isTold_205 (lv_at hl 1 rfl) ?_
          refine lv_iload hx hb dL_isTold_207 (lv_at hl 4 rfl) ?_
          refine n_iast (i := 21) hx hb hK hP hD hS 0 0 rfl htI rfl (Nat.le_of_ble_eq_true rfl) (Nat.le_of_ble_eq_true rfl) dL_isTold_209 (fun H locs hP hD hS => ?_)
          have hP : va_P D vwCl ((am, .inl (cI, 22, .inl (fun i => jI ((va_up fm 21 (zv z2)) i)))) :: (ae, .inl (cI, 45, .inl (fun i => jI (fe i)))) :: (ag, .inl (cI, 2, .inl (fun i => jI ((fg i : Nat) : Int)))) :: (CW cI cE cG cM cS x0 q0 q1 qr (ms, es, gE, gM, gB, gT, gG, gN, gK, gD) κ)) H := hP
          have hD : va_D A ((am, .inl (cI, 22, .inl (fun i => jI ((va_up fm 21 (zv z2)) i)))) :: (ae, .inl (cI, 45, .inl (fun i => jI (fe i)))) :: (ag, .inl (cI, 2, .inl (fun i => jI ((fg i : Nat) : Int)))) :: (CW cI cE cG cM cS x0 q0 q1 qr (ms, es, gE, gM, gB, gT, gG, gN, gK, gD) κ)) := hD
          refine lv_aload_n hx hb dL_isTold_210 rfl (lv_at hl 7 rfl) ?_
          refine n_iconst hx hb dL_isTold_211 ?_
          refine lv_iload hx hb dL_isTold_212 (lv_at hl 6 rfl) ?_
          refine lv_iload hx hb dL_isTold_214 (lv_at hl 5 rfl) ?_
          refine lv_iload hx hb dL_isTold_216 (lv_at hl 4 rfl) ?_
          refine n_iconst hx hb dL_isTold_218 ?_
          refine n_iconst hx hb dL_isTold_219 ?_
          refine n_iconst hx hb dL_isTold_220 ?_
          have hC := d_entry1 l hl9 D tys htI htE htM htS htG x0 q0 q1 qr ms es gE gM gB gT gG gN gK gD κ hI ((mo : Nat) : Int) ((two % 8 : Nat) : Int) (zv z2) (by unfold r32; omega) (by unfold r32; omega) (r32_z _) (inB_f (by omega))
          have hW := w_does_entry l D tys x0 q0 q1 qr ms es gE gM gB gT gG gN gK gD κ (jI ((mo : Nat) : Int)) (jI (((two % 8) : Nat) : Int)) (vI z2) (jI 0) (jI 0) (jI 0) (ms, es, gE, gM, gB, gT, gG, gN, gK, gD) 1 _ hC
          have hP : va_P D vwCl ((CW cI cE cG cM cS x0 q0 q1 qr (ms, es, gE, gM, gB, gT, gG, gN, gK, gD) κ) ++ [(am, .inl (cI, 22, .inl (fun i => jI ((va_up fm 21 (zv z2)) i)))), (ae, .inl (cI, 45, .inl (fun i => jI (fe i)))), (ag, .inl (cI, 2, .inl (fun i => jI ((fg i : Nat) : Int))))]) H := hP.perm (List.perm_append_comm (l₁ := ([(am, .inl (cI, 22, .inl (fun i => jI ((va_up fm 21 (zv z2)) i)))), (ae, .inl (cI, 45, .inl (fun i => jI (fe i)))), (ag, .inl (cI, 2, .inl (fun i => jI ((fg i : Nat) : Int))))] : va_W)) (l₂ := (CW cI cE cG cM cS x0 q0 q1 qr (ms, es, gE, gM, gB, gT, gG, gN, gK, gD) κ)))
          have hD : va_D A ((CW cI cE cG cM cS x0 q0 q1 qr (ms, es, gE, gM, gB, gT, gG, gN, gK, gD) κ) ++ [(am, .inl (cI, 22, .inl (fun i => jI ((va_up fm 21 (zv z2)) i)))), (ae, .inl (cI, 45, .inl (fun i => jI (fe i)))), (ag, .inl (cI, 2, .inl (fun i => jI ((fg i : Nat) : Int))))]) := hD.perm (List.perm_append_comm (l₁ := ([(am, .inl (cI, 22, .inl (fun i => jI ((va_up fm 21 (zv z2)) i)))), (ae, .inl (cI, 45, .inl (fun i => jI (fe i)))), (ag, .inl (cI, 2, .inl (fun i => jI ((fg i : Nat) : Int))))] : va_W)) (l₂ := (CW cI cE cG cM cS x0 q0 q1 qr (ms, es, gE, gM, gB, gT, gG, gN, gK, gD) κ)))
          refine a_goNI (vx_runSW (As := [.ref x0, .int (jI 1), .int (jI ((mo : Nat) : Int)), .int (jI (((two % 8) : Nat) : Int)), .int (vI z2), .int (jI 0), .int (jI 0), .int (jI 0)]) (rest := []) ⟨hx, hb, hml, hown, hts⟩ (hW _) (vx_cwSW 8 hts gL_isTold_L_does rfl rfl rfl (by decide +kernel) ⟨(Nat.le_of_ble_eq_true rfl), (Nat.le_of_ble_eq_true rfl)⟩) (c_pre hK hXK hZ hN hP hD hS hA) rfl rfl hl.1 rfl (lv_room (Nat.le_of_ble_eq_true rfl)) dL_isTold_221 ⟨(Nat.le_of_ble_eq_true rfl), (Nat.le_of_ble_eq_true rfl)⟩) hP hD hS hA (fun r κ2 H locs hpost hP hD hS => ?_)
          obtain ⟨hr9, hI2⟩ := hpost
          have hr9 : r = jI (-3) := hr9
          subst hr9
          have hP : va_P D vwCl ((CW cI cE cG cM cS x0 q0 q1 qr (ms, es, gE, gM, gB, gT, gG, gN, gK, gD) κ2) ++ [(am, .inl (cI, 22, .inl (fun i => jI ((va_up fm 21 (zv z2)) i)))), (ae, .inl (cI, 45, .inl (fun i => jI (fe i)))), (ag, .inl (cI, 2, .inl (fun i => jI ((fg i : Nat) : Int))))]) H := hP
          have hD : va_D A ((CW cI cE cG cM cS x0 q0 q1 qr (ms, es, gE, gM, gB, gT, gG, gN, gK, gD) κ2) ++ [(am, .inl (cI, 22, .inl (fun i => jI ((va_up fm 21 (zv z2)) i)))), (ae, .inl (cI, 45, .inl (fun i => jI (fe i)))), (ag, .inl (cI, 2, .inl (fun i => jI ((fg i : Nat) : Int))))]) := hD
          have hP : va_P D vwCl ((am, .inl (cI, 22, .inl (fun i => jI ((va_up fm 21 (zv z2)) i)))) :: (ae, .inl (cI, 45, .inl (fun i => jI (fe i)))) :: (ag, .inl (cI, 2, .inl (fun i => jI ((fg i : Nat) : Int)))) :: (CW cI cE cG cM cS x0 q0 q1 qr (ms, es, gE, gM, gB, gT, gG, gN, gK, gD) κ2)) H := hP.perm (List.perm_append_comm (l₁ := (CW cI cE cG cM cS x0 q0 q1 qr (ms, es, gE, gM, gB, gT, gG, gN, gK, gD) κ2)) (l₂ := ([(am, .inl (cI, 22, .inl (fun i => jI ((va_up fm 21 (zv z2)) i)))), (ae, .inl (cI, 45, .inl (fun i => jI (fe i)))), (ag, .inl (cI, 2, .inl (fun i => jI ((fg i : Nat) : Int))))] : va_W)))
          have hD : va_D A ((am, .inl (cI, 22, .inl (fun i => jI ((va_up fm 21 (zv z2)) i)))) :: (ae, .inl (cI, 45, .inl (fun i => jI (fe i)))) :: (ag, .inl (cI, 2, .inl (fun i => jI ((fg i : Nat) : Int)))) :: (CW cI cE cG cM cS x0 q0 q1 qr (ms, es, gE, gM, gB, gT, gG, gN, gK, gD) κ2)) := hD.perm (List.perm_append_comm (l₁ := (CW cI cE cG cM cS x0 q0 q1 qr (ms, es, gE, gM, gB, gT, gG, gN, gK, gD) κ2)) (l₂ := ([(am, .inl (cI, 22, .inl (fun i => jI ((va_up fm 21 (zv z2)) i)))), (ae, .inl (cI, 45, .inl (fun i => jI (fe i)))), (ag, .inl (cI, 2, .inl (fun i => jI ((fg i : Nat) : Int))))] : va_W)))
          refine lv_iload hx hb dL_isTold_224 (lv_at hl 3 rfl) ?_
          refine n_if_ne (tgt := 234) hx hb (by unfold r32; decide) dL_isTold_226 (by decide) (fun h226 => False.elim (by revert h226; decide)) (fun h226 => ?_)
          refine n_bipush hx hb dL_isTold_229 (by decide) ?_
          refine lv_goto (tgt := 246) hx hb dL_isTold_231 (by decide) ?_
          refine n_icmp_ne (tgt := 253) hx hb (by unfold r32; omega) (by unfold r32; omega) dL_isTold_246 (by decide) (fun h246 => False.elim (h246 rfl)) (fun h246 => ?_)
          refine n_iconst hx hb dL_isTold_249 ?_
          refine lv_goto (tgt := 254) hx hb dL_isTold_250 (by decide) ?_
          refine W.widen (k := 228) (n := 867) (Nat.le_of_ble_eq_true rfl) (Nat.le_of_ble_eq_true rfl) ?_
          exact y_zret (b := true) ((ms, es, gE, gM, gB, gT, gG, gN, gK, gD), κ2, va_up fm 21 (zv z2), fe, fg) hx hb hr hlocks dL_isTold_254 hP hD hS rfl ⟨rfl, hI2, (hL.m21 _).up⟩

set_option maxHeartbeats 16000000 in
set_option maxRecDepth 100000 in
theorem c_L_isTold2 (l : Launch) (hl9 : l.stackTraces = false) (D : va_G) (tys : List (ClassId × FieldType)) {cI cE cG cM cS : ClassId} (htI : tys[0]? = some (cI, .int)) (htE : tys[3]? = some (cE, .object RX1)) (htM : tys[4]? = some (cM, .object RX2)) (htS : tys[5]? = some (cS, .object RX4)) (htG : tys[6]? = some (cG, .array .int)) (x0 q0 q1 : Nat) (qr : Nat → Nat) (ms es : Nat) (gE gM gB : Nat → Zp) (gT : Nat → Nat) (gG : Nat → Zp) (gN : Nat → Nat) (gK : Nat → Zp) (gD : Nat → Bool) (κ : Nat → EG) (hI : INV (ms, es, gE, gM, gB, gT, gG, gN, gK, gD) κ) (am ae ag : Nat) (fm fe fq fv fu : Nat → Int) (fg : Nat → Nat) (c : Nat) (hL : LI (ms, es, gE, gM, gB, gT, gG, gN, gK, gD) fm fe fq fv fu fg c) (one two : Nat) (s1 : one < 60000) (s2 : two < 60000) : CtW (S := SG × (Nat → EG) × (Nat → Int) × (Nat → Int) × (Nat → Nat)) l D tys yL_isTold wsL_isTold 12 268 228 867 [.ref x0, .ref am, .ref ae, .ref ag, .int (jI 2), .int (jI ((one : Nat) : Int)), .int (jI ((two : Nat) : Int))] (fun (r : Int32) (u : SG × (Nat → EG) × (Nat → Int) × (Nat → Int) × (Nat → Nat)) => r = jI (iB true) ∧ INV u.1 u.2.1 ∧ LI u.1 u.2.2.1 u.2.2.2.1 fq fv fu u.2.2.2.2 (c + 1)) ((am, .inl (cI, 22, .inl (fun i => jI (fm i)))) :: (ae, .inl (cI, 45, .inl (fun i => jI (fe i)))) :: (ag, .inl (cI, 2, .inl (fun i => jI ((fg i : Nat) : Int)))) :: (CW cI cE cG cM cS x0 q0 q1 qr (ms, es, gE, gM, gB, gT, gG, gN, gK, gD) κ)) (fun u => ((am, .inl (cI, 22, .inl (fun i => jI (u.2.2.1 i)))) :: (ae, .inl (cI, 45, .inl (fun i => jI (u.2.2.2.1 i)))) :: (ag, .inl (cI, 2, .inl (fun i => jI ((u.2.2.2.2 i : Nat) : Int)))) :: (CW cI cE cG cM cS x0 q0 q1 qr u.1 u.2.1))) := by
  refine CtW.ofP (cc := cL_isTold) (maxL := 15) (by decide +kernel) rfl (Nat.le_of_ble_eq_true rfl) ?_
  intro p e s m below meth c9 A ls hcx hK hXK hZ hN hP hD hA hl
  obtain ⟨hx, hb, hr, hml, hown, hts, hlocks⟩ := hcx
  have hS : va_S A s.heap s.heap [] := va_S.rf
  have hown : s.vm.findClass RL = some m.cls := hown
  have hl : lv_has ls 15 [(0, .ref x0), (1, .ref am), (2, .ref ae), (3, .ref ag), (4, .int (jI 2)), (5, .int (jI ((one : Nat) : Int))), (6, .int (jI ((two : Nat) : Int)))] := hl
  obtain ⟨b3, b2, hg0, hg1, hm, hLe, c0, c1⟩ := id hL
  obtain ⟨mo, emo, lmo⟩ := rem_ex ((one : Nat) : Int) (((ms : Nat) : Int) + 1) (by omega)
  obtain ⟨zx, ezx⟩ := z_ex (one / 4)
  obtain ⟨zt, ezt⟩ := z_ex two
  obtain ⟨zp, ezp⟩ := z_ex2 (two % 5) (by omega)
  obtain ⟨zq, ezq⟩ := z_ex2 (two / 13 % 3) (by omega)
  obtain ⟨zl, ezl⟩ := z_ex2 (two / 39 % 7) (by omega)
  have bzp := zv_le zp
  have hN0 : es < 2 → gN es = 0 := fun h2 => (hI.2.2.2 es (Nat.le_refl _) (by omega)).1
  have hat : (15 * ((es : Nat) : Int)) = (((15 * es) : Nat) : Int) := by omega
  by_cases h2e : es = 2
  · refine lv_iload hx hb dL_isTold_0 (lv_at hl 4 rfl) ?_
    refine n_if_ne (tgt := 66) hx hb (by unfold r32; decide) dL_isTold_2 (by decide) (fun h2 => ?_) (fun h2 => False.elim (by revert h2; decide))
    refine lv_iload hx hb dL_isTold_66 (lv_at hl 5 rfl) ?_
    refine lv_aload_n hx hb dL_isTold_68 rfl (lv_at hl 3 rfl) ?_
    refine n_iconst hx hb dL_isTold_69 ?_
    refine n_nalv (i := 0) (v := ((ms : Nat) : Int)) hx hb hK hP 2 0 rfl htI rfl (Nat.le_of_ble_eq_true rfl) (Nat.le_of_ble_eq_true rfl) (congrArg (fun z : Nat => (z : Int)) hg0) dL_isTold_70 ?_
    refine n_iconst hx hb dL_isTold_71 ?_
    refine n_iadd hx hb dL_isTold_72 ?_
    refine n_iremv (v := ((mo : Nat) : Int)) hx hb dL_isTold_73 (by omega) (by omega) (by omega) (by omega) emo ?_
    refine lv_istore (lv' := [(7, .int (jI ((mo : Nat) : Int))), (0, .ref x0), (1, .ref am), (2, .ref ae), (3, .ref ag), (4, .int (jI 2)), (5, .int (jI ((one : Nat) : Int))), (6, .int (jI ((two : Nat) : Int)))]) hx hb dL_isTold_74 hl (by decide) rfl (fun ls hl => ?_)
    refine lv_iload hx hb dL_isTold_76 (lv_at hl 5 rfl) ?_
    refine n_iconst hx hb dL_isTold_78 ?_
    refine n_icmp_ne (tgt := 255) hx hb (by unfold r32; decide) (by unfold r32; decide) dL_isTold_79 (by decide) (fun h79 => ?_) (fun h79 => False.elim (by revert h79; decide))
    refine lv_aload_n hx hb dL_isTold_255 rfl (lv_at hl 4 rfl) ?_
    refine n_iconst hx hb dL_isTold_256 ?_
    refine n_nalv (i := 1) (v := ((es : Nat) : Int)) hx hb hK hP 2 0 rfl htI rfl (Nat.le_of_ble_eq_true rfl) (Nat.le_of_ble_eq_true rfl) (congrArg (fun z : Nat => (z : Int)) hg1) dL_isTold_257 ?_
    refine n_iconst hx hb dL_isTold_258 ?_
    refine n_icmp_ne (tgt := 264) hx hb (by unfold r32; omega) (by unfold r32; omega) dL_isTold_259 (by decide) (fun h259 => False.elim (by omega)) (fun h259 => ?_)
    refine n_iconst hx hb dL_isTold_262 ?_
    refine W.widen (k := 228) (n := 867) (Nat.le_of_ble_eq_true rfl) (Nat.le_of_ble_eq_true rfl) ?_
    exact y_zret (b := true) ((ms, es, gE, gM, gB, gT, gG, gN, gK, gD), κ, fm, fe, fg) hx hb hr hlocks dL_isTold_263 hP hD hS rfl ⟨rfl, hI, hL.up⟩
  · refine lv_iload hx hb dL_isTold_0 (lv_at hl 4 rfl) ?_
    refine n_if_ne (tgt := 66) hx hb (by unfold r32; decide) dL_isTold_2 (by decide) (fun h2 => ?_) (fun h2 => False.elim (by revert h2; decide))
    refine lv_iload hx hb dL_isTold_66 (lv_at hl 5 rfl) ?_
    refine lv_aload_n hx hb dL_isTold_68 rfl (lv_at hl 3 rfl) ?_
    refine n_iconst hx hb dL_isTold_69 ?_
    refine n_nalv (i := 0) (v := ((ms : Nat) : Int)) hx hb hK hP 2 0 rfl htI rfl (Nat.le_of_ble_eq_true rfl) (Nat.le_of_ble_eq_true rfl) (congrArg (fun z : Nat => (z : Int)) hg0) dL_isTold_70 ?_
    refine n_iconst hx hb dL_isTold_71 ?_
    refine n_iadd hx hb dL_isTold_72 ?_
    refine n_iremv (v := ((mo : Nat) : Int)) hx hb dL_isTold_73 (by omega) (by omega) (by omega) (by omega) emo ?_
    refine lv_istore (lv' := [(7, .int (jI ((mo : Nat) : Int))), (0, .ref x0), (1, .ref am), (2, .ref ae), (3, .ref ag), (4, .int (jI 2)), (5, .int (jI ((one : Nat) : Int))), (6, .int (jI ((two : Nat) : Int)))]) hx hb dL_isTold_74 hl (by decide) rfl (fun ls hl => ?_)
    refine lv_iload hx hb dL_isTold_76 (lv_at hl 5 rfl) ?_
    refine n_iconst hx hb dL_isTold_78 ?_
    refine n_icmp_ne (tgt := 255) hx hb (by unfold r32; decide) (by unfold r32; decide) dL_isTold_79 (by decide) (fun h79 => ?_) (fun h79 => False.elim (by revert h79; decide))
    refine lv_aload_n hx hb dL_isTold_255 rfl (lv_at hl 4 rfl) ?_
    refine n_iconst hx hb dL_isTold_256 ?_
    refine n_nalv (i := 1) (v := ((es : Nat) : Int)) hx hb hK hP 2 0 rfl htI rfl (Nat.le_of_ble_eq_true rfl) (Nat.le_of_ble_eq_true rfl) (congrArg (fun z : Nat => (z : Int)) hg1) dL_isTold_257 ?_
    refine n_iconst hx hb dL_isTold_258 ?_
    refine n_icmp_ne (tgt := 264) hx hb (by unfold r32; omega) (by unfold r32; omega) dL_isTold_259 (by decide) (fun h259 => ?_) (fun h259 => False.elim (by omega))
    refine lv_iload hx hb dL_isTold_264 (lv_at hl 6 rfl) ?_
    refine n_iconst hx hb dL_isTold_266 ?_
    refine n_idivv (v := (((one / 4) : Nat) : Int)) hx hb dL_isTold_267 (by omega) (by omega) (by omega) (by omega) (by omega) ?_
    refine n_sipush hx hb dL_isTold_268 (by decide) ?_
    refine n_iremv (v := (zv zx)) hx hb dL_isTold_271 (by omega) (by omega) (by omega) (by omega) (by omega) ?_
    refine lv_istore (lv' := [(8, .int (vI zx)), (7, .int (jI ((mo : Nat) : Int))), (0, .ref x0), (1, .ref am), (2, .ref ae), (3, .ref ag), (4, .int (jI 2)), (5, .int (jI ((one : Nat) : Int))), (6, .int (jI ((two : Nat) : Int)))]) hx hb dL_isTold_272 hl (by decide) rfl (fun ls hl => ?_)
    refine lv_iload hx hb dL_isTold_274 (lv_at hl 8 rfl) ?_
    refine n_bipush hx hb dL_isTold_276 (by decide) ?_
    refine n_iremv (v := (((two % 13) : Nat) : Int)) hx hb dL_isTold_278 (by omega) (by omega) (by omega) (by omega) (by omega) ?_
    refine n_bipush hx hb dL_isTold_279 (by decide) ?_
    by_cases hp : two % 13 = 12
    · refine n_icmp_ne (tgt := 290) hx hb (by unfold r32; omega) (by unfold r32; omega) dL_isTold_281 (by decide) (fun h281 => False.elim (h281 (by omega))) (fun h281 => ?_)
      refine n_sipush hx hb dL_isTold_284 (by decide) ?_
      refine lv_goto (tgt := 294) hx hb dL_isTold_287 (by decide) ?_
      refine lv_istore (lv' := [(9, .int (jI 10007)), (8, .int (vI zx)), (7, .int (jI ((mo : Nat) : Int))), (0, .ref x0), (1, .ref am), (2, .ref ae), (3, .ref ag), (4, .int (jI 2)), (5, .int (jI ((one : Nat) : Int))), (6, .int (jI ((two : Nat) : Int)))]) hx hb dL_isTold_294 hl (by decide) rfl (fun ls hl => ?_)
      refine lv_iload hx hb dL_isTold_296 (lv_at hl 9 rfl) ?_
      refine n_bipush hx hb dL_isTold_298 (by decide) ?_
      refine n_idivv (v := (((two / 13) : Nat) : Int)) hx hb dL_isTold_300 (by omega) (by omega) (by omega) (by omega) (by omega) ?_
      refine n_iconst hx hb dL_isTold_301 ?_
      refine n_iremv (v := (zv zq)) hx hb dL_isTold_302 (by omega) (by omega) (by omega) (by omega) (by omega) ?_
      refine lv_istore (lv' := [(10, .int (vI zq)), (9, .int (jI 10007)), (8, .int (vI zx)), (7, .int (jI ((mo : Nat) : Int))), (0, .ref x0), (1, .ref am), (2, .ref ae), (3, .ref ag), (4, .int (jI 2)), (5, .int (jI ((one : Nat) : Int))), (6, .int (jI ((two : Nat) : Int)))]) hx hb dL_isTold_303 hl (by decide) rfl (fun ls hl => ?_)
      refine lv_iload hx hb dL_isTold_305 (lv_at hl 10 rfl) ?_
      refine n_bipush hx hb dL_isTold_307 (by decide) ?_
      refine n_idivv (v := (((two / 39) : Nat) : Int)) hx hb dL_isTold_309 (by omega) (by omega) (by omega) (by omega) (by omega) ?_
      refine n_bipush hx hb dL_isTold_310 (by decide) ?_
      refine n_iremv (v := (zv zl)) hx hb dL_isTold_312 (by omega) (by omega) (by omega) (by omega) (by omega) ?_
      refine lv_istore (lv' := [(11, .int (vI zl)), (10, .int (vI zq)), (9, .int (jI 10007)), (8, .int (vI zx)), (7, .int (jI ((mo : Nat) : Int))), (0, .ref x0), (1, .ref am), (2, .ref ae), (3, .ref ag), (4, .int (jI 2)), (5, .int (jI ((one : Nat) : Int))), (6, .int (jI ((two : Nat) : Int)))]) hx hb dL_isTold_313 hl (by decide) rfl (fun ls hl => ?_)
      refine lv_iload hx hb dL_isTold_315 (lv_at hl 4 rfl) ?_
      refine lv_aload_n hx hb dL_isTold_317 rfl (lv_at hl 8 rfl) ?_
      refine n_iconst hx hb dL_isTold_318 ?_
      refine n_nalv (i := 0) (v := ((ms : Nat) : Int)) hx hb hK hP 2 0 rfl htI rfl (Nat.le_of_ble_eq_true rfl) (Nat.le_of_ble_eq_true rfl) (congrArg (fun z : Nat => (z : Int)) hg0) dL_isTold_319 ?_
      by_cases hmo : mo < ms
      · refine n_icmp_ge (tgt := 327) hx hb (by unfold r32; omega) (by unfold r32; omega) dL_isTold_320 (by decide) (fun h320 => False.elim (by omega)) (fun h320 => ?_)
        refine n_iconst hx hb dL_isTold_323 ?_
        refine lv_goto (tgt := 328) hx hb dL_isTold_324 (by decide) ?_
        refine lv_istore (lv' := [(12, .int (jI 1)), (11, .int (vI zl)), (10, .int (vI zq)), (9, .int (jI 10007)), (8, .int (vI zx)), (7, .int (jI ((mo : Nat) : Int))), (0, .ref x0), (1, .ref am), (2, .ref ae), (3, .ref ag), (4, .int (jI 2)), (5, .int (jI ((one : Nat) : Int))), (6, .int (jI ((two : Nat) : Int)))]) hx hb dL_isTold_328 hl (by decide) rfl (fun ls hl => ?_)
        refine lv_iload hx hb dL_isTold_330 (lv_at hl 0 rfl) ?_
        refine n_if_eq (tgt := 450) hx hb (by unfold r32; decide) dL_isTold_332 (by decide) (fun h332 => False.elim (by revert h332; decide)) (fun h332 => ?_)
        refine lv_iload hx hb dL_isTold_335 (lv_at hl 3 rfl) ?_
        refine n_sipush hx hb dL_isTold_337 (by decide) ?_
        refine n_icmp_ge (tgt := 450) hx hb (by unfold r32; omega) (by unfold r32; omega) dL_isTold_340 (by decide) (fun h340 => ?_) (fun h340 => False.elim (by omega))
        refine lv_aload_n hx hb dL_isTold_450 rfl (lv_at hl 6 rfl) ?_
        refine n_iconst hx hb dL_isTold_451 ?_
        refine lv_iload hx hb dL_isTold_452 (lv_at hl 5 rfl) ?_
        refine lv_iload hx hb dL_isTold_454 (lv_at hl 4 rfl) ?_
        refine lv_iload hx hb dL_isTold_456 (lv_at hl 12 rfl) ?_
        refine n_sipush hx hb dL_isTold_458 (by decide) ?_
        refine n_iremv (v := (zv zt)) hx hb dL_isTold_461 (by omega) (by omega) (by omega) (by omega) (by omega) ?_
        refine lv_iload hx hb dL_isTold_462 (lv_at hl 3 rfl) ?_
        refine lv_iload hx hb dL_isTold_464 (lv_at hl 2 rfl) ?_
        refine lv_iload hx hb dL_isTold_466 (lv_at hl 1 rfl) ?_
        have hC := d_begin2 l hl9 D tys htI htE htM htS htG x0 q0 q1 qr ms es gE gM gB gT gG gN gK gD κ hI mo (zv zx) (zv zt) 10007 (zv zq) (zv zl) hmo (r32_z _) (r32_z _) (by unfold r32; omega) (r32_z _) (r32_z _) (by rw [show inB 0 10006 10007 = false from inB_f (by omega), Bool.false_and, Bool.and_false, Bool.and_false])
        have hW := w_does_begin l D tys x0 q0 q1 qr ms es gE gM gB gT gG gN gK gD κ (jI ((mo : Nat) : Int)) (vI zx) (vI zt) (jI 10007) (vI zq) (vI zl) (ms, es, gE, gM, gB, gT, gG, gN, gK, gD) 2 _ hC
        have hP : va_P D vwCl ((CW cI cE cG cM cS x0 q0 q1 qr (ms, es, gE, gM, gB, gT, gG, gN, gK, gD) κ) ++ [(am, .inl (cI, 22, .inl (fun i => jI (fm i)))), (ae, .inl (cI, 45, .inl (fun i => jI (fe i)))), (ag, .inl (cI, 2, .inl (fun i => jI ((fg i : Nat) : Int))))]) s.heap := hP.perm (List.perm_append_comm (l₁ := ([(am, .inl (cI, 22, .inl (fun i => jI (fm i)))), (ae, .inl (cI, 45, .inl (fun i => jI (fe i)))), (ag, .inl (cI, 2, .inl (fun i => jI ((fg i : Nat) : Int))))] : va_W)) (l₂ := (CW cI cE cG cM cS x0 q0 q1 qr (ms, es, gE, gM, gB, gT, gG, gN, gK, gD) κ)))
        have hD : va_D A ((CW cI cE cG cM cS x0 q0 q1 qr (ms, es, gE, gM, gB, gT, gG, gN, gK, gD) κ) ++ [(am, .inl (cI, 22, .inl (fun i => jI (fm i)))), (ae, .inl (cI, 45, .inl (fun i => jI (fe i)))), (ag, .inl (cI, 2, .inl (fun i => jI ((fg i : Nat) : Int))))]) := hD.perm (List.perm_append_comm (l₁ := ([(am, .inl (cI, 22, .inl (fun i => jI (fm i)))), (ae, .inl (cI, 45, .inl (fun i => jI (fe i)))), (ag, .inl (cI, 2, .inl (fun i => jI ((fg i : Nat) : Int))))] : va_W)) (l₂ := (CW cI cE cG cM cS x0 q0 q1 qr (ms, es, gE, gM, gB, gT, gG, gN, gK, gD) κ)))
        refine a_goNI (vx_runSW (As := [.ref x0, .int (jI 2), .int (jI ((mo : Nat) : Int)), .int (vI zx), .int (vI zt), .int (jI 10007), .int (vI zq), .int (vI zl)]) (rest := []) ⟨hx, hb, hml, hown, hts⟩ (hW _) (vx_cwSW 8 hts gL_isTold_L_does rfl rfl rfl (by decide +kernel) ⟨(Nat.le_of_ble_eq_true rfl), (Nat.le_of_ble_eq_true rfl)⟩) (c_pre hK hXK hZ hN hP hD hS hA) rfl rfl hl.1 rfl (lv_room (Nat.le_of_ble_eq_true rfl)) dL_isTold_468 ⟨(Nat.le_of_ble_eq_true rfl), (Nat.le_of_ble_eq_true rfl)⟩) hP hD hS hA (fun r κ2 H locs hpost hP hD hS => ?_)
        obtain ⟨hr9, hI2⟩ := hpost
        have hr9 : r = jI (-2) := hr9
        subst hr9
        have hP : va_P D vwCl ((CW cI cE cG cM cS x0 q0 q1 qr (ms, es, gE, gM, gB, gT, gG, gN, gK, gD) κ2) ++ [(am, .inl (cI, 22, .inl (fun i => jI (fm i)))), (ae, .inl (cI, 45, .inl (fun i => jI (fe i)))), (ag, .inl (cI, 2, .inl (fun i => jI ((fg i : Nat) : Int))))]) H := hP
        have hD : va_D A ((CW cI cE cG cM cS x0 q0 q1 qr (ms, es, gE, gM, gB, gT, gG, gN, gK, gD) κ2) ++ [(am, .inl (cI, 22, .inl (fun i => jI (fm i)))), (ae, .inl (cI, 45, .inl (fun i => jI (fe i)))), (ag, .inl (cI, 2, .inl (fun i => jI ((fg i : Nat) : Int))))]) := hD
        have hP : va_P D vwCl ((am, .inl (cI, 22, .inl (fun i => jI (fm i)))) :: (ae, .inl (cI, 45, .inl (fun i => jI (fe i)))) :: (ag, .inl (cI, 2, .inl (fun i => jI ((fg i : Nat) : Int)))) :: (CW cI cE cG cM cS x0 q0 q1 qr (ms, es, gE, gM, gB, gT, gG, gN, gK, gD) κ2)) H := hP.perm (List.perm_append_comm (l₁ := (CW cI cE cG cM cS x0 q0 q1 qr (ms, es, gE, gM, gB, gT, gG, gN, gK, gD) κ2)) (l₂ := ([(am, .inl (cI, 22, .inl (fun i => jI (fm i)))), (ae, .inl (cI, 45, .inl (fun i => jI (fe i)))), (ag, .inl (cI, 2, .inl (fun i => jI ((fg i : Nat) : Int))))] : va_W)))
        have hD : va_D A ((am, .inl (cI, 22, .inl (fun i => jI (fm i)))) :: (ae, .inl (cI, 45, .inl (fun i => jI (fe i)))) :: (ag, .inl (cI, 2, .inl (fun i => jI ((fg i : Nat) : Int)))) :: (CW cI cE cG cM cS x0 q0 q1 qr (ms, es, gE, gM, gB, gT, gG, gN, gK, gD) κ2)) := hD.perm (List.perm_append_comm (l₁ := (CW cI cE cG cM cS x0 q0 q1 qr (ms, es, gE, gM, gB, gT, gG, gN, gK, gD) κ2)) (l₂ := ([(am, .inl (cI, 22, .inl (fun i => jI (fm i)))), (ae, .inl (cI, 45, .inl (fun i => jI (fe i)))), (ag, .inl (cI, 2, .inl (fun i => jI ((fg i : Nat) : Int))))] : va_W)))
        refine lv_iload hx hb dL_isTold_471 (lv_at hl 0 rfl) ?_
        refine n_if_ne (tgt := 481) hx hb (by unfold r32; decide) dL_isTold_473 (by decide) (fun h473 => ?_) (fun h473 => False.elim (by revert h473; decide))
        refine lv_iload hx hb dL_isTold_481 (lv_at hl 3 rfl) ?_
        refine n_sipush hx hb dL_isTold_483 (by decide) ?_
        refine n_icmp_ge (tgt := 497) hx hb (by unfold r32; decide) (by unfold r32; decide) dL_isTold_486 (by decide) (fun h486 => ?_) (fun h486 => False.elim (by revert h486; decide))
        refine n_bipush hx hb dL_isTold_497 (by decide) ?_
        refine n_icmp_ne (tgt := 506) hx hb (by unfold r32; omega) (by unfold r32; omega) dL_isTold_499 (by decide) (fun h499 => False.elim (h499 rfl)) (fun h499 => ?_)
        refine n_iconst hx hb dL_isTold_502 ?_
        refine lv_goto (tgt := 507) hx hb dL_isTold_503 (by decide) ?_
        refine W.widen (k := 228) (n := 867) (Nat.le_of_ble_eq_true rfl) (Nat.le_of_ble_eq_true rfl) ?_
        exact y_zret (b := true) ((ms, es, gE, gM, gB, gT, gG, gN, gK, gD), κ2, fm, fe, fg) hx hb hr hlocks dL_isTold_507 hP hD hS rfl ⟨rfl, hI2, hL.up⟩
      · refine n_icmp_ge (tgt := 327) hx hb (by unfold r32; omega) (by unfold r32; omega) dL_isTold_320 (by decide) (fun h320 => ?_) (fun h320 => False.elim (by omega))
        refine n_iconst hx hb dL_isTold_327 ?_
        refine lv_istore (lv' := [(12, .int (jI 0)), (11, .int (vI zl)), (10, .int (vI zq)), (9, .int (jI 10007)), (8, .int (vI zx)), (7, .int (jI ((mo : Nat) : Int))), (0, .ref x0), (1, .ref am), (2, .ref ae), (3, .ref ag), (4, .int (jI 2)), (5, .int (jI ((one : Nat) : Int))), (6, .int (jI ((two : Nat) : Int)))]) hx hb dL_isTold_328 hl (by decide) rfl (fun ls hl => ?_)
        refine lv_iload hx hb dL_isTold_330 (lv_at hl 0 rfl) ?_
        refine n_if_eq (tgt := 450) hx hb (by unfold r32; decide) dL_isTold_332 (by decide) (fun h332 => ?_) (fun h332 => False.elim (by revert h332; decide))
        refine lv_aload_n hx hb dL_isTold_450 rfl (lv_at hl 6 rfl) ?_
        refine n_iconst hx hb dL_isTold_451 ?_
        refine lv_iload hx hb dL_isTold_452 (lv_at hl 5 rfl) ?_
        refine lv_iload hx hb dL_isTold_454 (lv_at hl 4 rfl) ?_
        refine lv_iload hx hb dL_isTold_456 (lv_at hl 12 rfl) ?_
        refine n_sipush hx hb dL_isTold_458 (by decide) ?_
        refine n_iremv (v := (zv zt)) hx hb dL_isTold_461 (by omega) (by omega) (by omega) (by omega) (by omega) ?_
        refine lv_iload hx hb dL_isTold_462 (lv_at hl 3 rfl) ?_
        refine lv_iload hx hb dL_isTold_464 (lv_at hl 2 rfl) ?_
        refine lv_iload hx hb dL_isTold_466 (lv_at hl 1 rfl) ?_
        have hC := d_begin1 l hl9 D tys htI htE htM htS htG x0 q0 q1 qr ms es gE gM gB gT gG gN gK gD κ hI ((mo : Nat) : Int) (zv zx) (zv zt) 10007 (zv zq) (zv zl) (by unfold r32; omega) (r32_z _) (r32_z _) (by unfold r32; omega) (r32_z _) (r32_z _) (inB_f (by omega))
        have hW := w_does_begin l D tys x0 q0 q1 qr ms es gE gM gB gT gG gN gK gD κ (jI ((mo : Nat) : Int)) (vI zx) (vI zt) (jI 10007) (vI zq) (vI zl) (ms, es, gE, gM, gB, gT, gG, gN, gK, gD) 1 _ hC
        have hP : va_P D vwCl ((CW cI cE cG cM cS x0 q0 q1 qr (ms, es, gE, gM, gB, gT, gG, gN, gK, gD) κ) ++ [(am, .inl (cI, 22, .inl (fun i => jI (fm i)))), (ae, .inl (cI, 45, .inl (fun i => jI (fe i)))), (ag, .inl (cI, 2, .inl (fun i => jI ((fg i : Nat) : Int))))]) s.heap := hP.perm (List.perm_append_comm (l₁ := ([(am, .inl (cI, 22, .inl (fun i => jI (fm i)))), (ae, .inl (cI, 45, .inl (fun i => jI (fe i)))), (ag, .inl (cI, 2, .inl (fun i => jI ((fg i : Nat) : Int))))] : va_W)) (l₂ := (CW cI cE cG cM cS x0 q0 q1 qr (ms, es, gE, gM, gB, gT, gG, gN, gK, gD) κ)))
        have hD : va_D A ((CW cI cE cG cM cS x0 q0 q1 qr (ms, es, gE, gM, gB, gT, gG, gN, gK, gD) κ) ++ [(am, .inl (cI, 22, .inl (fun i => jI (fm i)))), (ae, .inl (cI, 45, .inl (fun i => jI (fe i)))), (ag, .inl (cI, 2, .inl (fun i => jI ((fg i : Nat) : Int))))]) := hD.perm (List.perm_append_comm (l₁ := ([(am, .inl (cI, 22, .inl (fun i => jI (fm i)))), (ae, .inl (cI, 45, .inl (fun i => jI (fe i)))), (ag, .inl (cI, 2, .inl (fun i => jI ((fg i : Nat) : Int))))] : va_W)) (l₂ := (CW cI cE cG cM cS x0 q0 q1 qr (ms, es, gE, gM, gB, gT, gG, gN, gK, gD) κ)))
        refine a_goNI (vx_runSW (As := [.ref x0, .int (jI 2), .int (jI ((mo : Nat) : Int)), .int (vI zx), .int (vI zt), .int (jI 10007), .int (vI zq), .int (vI zl)]) (rest := []) ⟨hx, hb, hml, hown, hts⟩ (hW _) (vx_cwSW 8 hts gL_isTold_L_does rfl rfl rfl (by decide +kernel) ⟨(Nat.le_of_ble_eq_true rfl), (Nat.le_of_ble_eq_true rfl)⟩) (c_pre hK hXK hZ hN hP hD hS hA) rfl rfl hl.1 rfl (lv_room (Nat.le_of_ble_eq_true rfl)) dL_isTold_468 ⟨(Nat.le_of_ble_eq_true rfl), (Nat.le_of_ble_eq_true rfl)⟩) hP hD hS hA (fun r κ2 H locs hpost hP hD hS => ?_)
        obtain ⟨hr9, hI2⟩ := hpost
        have hr9 : r = jI (-3) := hr9
        subst hr9
        have hP : va_P D vwCl ((CW cI cE cG cM cS x0 q0 q1 qr (ms, es, gE, gM, gB, gT, gG, gN, gK, gD) κ2) ++ [(am, .inl (cI, 22, .inl (fun i => jI (fm i)))), (ae, .inl (cI, 45, .inl (fun i => jI (fe i)))), (ag, .inl (cI, 2, .inl (fun i => jI ((fg i : Nat) : Int))))]) H := hP
        have hD : va_D A ((CW cI cE cG cM cS x0 q0 q1 qr (ms, es, gE, gM, gB, gT, gG, gN, gK, gD) κ2) ++ [(am, .inl (cI, 22, .inl (fun i => jI (fm i)))), (ae, .inl (cI, 45, .inl (fun i => jI (fe i)))), (ag, .inl (cI, 2, .inl (fun i => jI ((fg i : Nat) : Int))))]) := hD
        have hP : va_P D vwCl ((am, .inl (cI, 22, .inl (fun i => jI (fm i)))) :: (ae, .inl (cI, 45, .inl (fun i => jI (fe i)))) :: (ag, .inl (cI, 2, .inl (fun i => jI ((fg i : Nat) : Int)))) :: (CW cI cE cG cM cS x0 q0 q1 qr (ms, es, gE, gM, gB, gT, gG, gN, gK, gD) κ2)) H := hP.perm (List.perm_append_comm (l₁ := (CW cI cE cG cM cS x0 q0 q1 qr (ms, es, gE, gM, gB, gT, gG, gN, gK, gD) κ2)) (l₂ := ([(am, .inl (cI, 22, .inl (fun i => jI (fm i)))), (ae, .inl (cI, 45, .inl (fun i => jI (fe i)))), (ag, .inl (cI, 2, .inl (fun i => jI ((fg i : Nat) : Int))))] : va_W)))
        have hD : va_D A ((am, .inl (cI, 22, .inl (fun i => jI (fm i)))) :: (ae, .inl (cI, 45, .inl (fun i => jI (fe i)))) :: (ag, .inl (cI, 2, .inl (fun i => jI ((fg i : Nat) : Int)))) :: (CW cI cE cG cM cS x0 q0 q1 qr (ms, es, gE, gM, gB, gT, gG, gN, gK, gD) κ2)) := hD.perm (List.perm_append_comm (l₁ := (CW cI cE cG cM cS x0 q0 q1 qr (ms, es, gE, gM, gB, gT, gG, gN, gK, gD) κ2)) (l₂ := ([(am, .inl (cI, 22, .inl (fun i => jI (fm i)))), (ae, .inl (cI, 45, .inl (fun i => jI (fe i)))), (ag, .inl (cI, 2, .inl (fun i => jI ((fg i : Nat) : Int))))] : va_W)))
        refine lv_iload hx hb dL_isTold_471 (lv_at hl 0 rfl) ?_
        refine n_if_ne (tgt := 481) hx hb (by unfold r32; decide) dL_isTold_473 (by decide) (fun h473 => False.elim (by revert h473; decide)) (fun h473 => ?_)
        refine n_bipush hx hb dL_isTold_476 (by decide) ?_
        refine lv_goto (tgt := 499) hx hb dL_isTold_478 (by decide) ?_
        refine n_icmp_ne (tgt := 506) hx hb (by unfold r32; omega) (by unfold r32; omega) dL_isTold_499 (by decide) (fun h499 => False.elim (h499 rfl)) (fun h499 => ?_)
        refine n_iconst hx hb dL_isTold_502 ?_
        refine lv_goto (tgt := 507) hx hb dL_isTold_503 (by decide) ?_
        refine W.widen (k := 228) (n := 867) (Nat.le_of_ble_eq_true rfl) (Nat.le_of_ble_eq_true rfl) ?_
        exact y_zret (b := true) ((ms, es, gE, gM, gB, gT, gG, gN, gK, gD), κ2, fm, fe, fg) hx hb hr hlocks dL_isTold_507 hP hD hS rfl ⟨rfl, hI2, hL.up⟩
    · refine n_icmp_ne (tgt := 290) hx hb (by unfold r32; omega) (by unfold r32; omega) dL_isTold_281 (by decide) (fun h281 => ?_) (fun h281 => False.elim (by omega))
      refine lv_iload hx hb dL_isTold_290 (lv_at hl 8 rfl) ?_
      refine n_iconst hx hb dL_isTold_292 ?_
      refine n_iremv (v := (zv zp)) hx hb dL_isTold_293 (by omega) (by omega) (by omega) (by omega) (by omega) ?_
      refine lv_istore (lv' := [(9, .int (vI zp)), (8, .int (vI zx)), (7, .int (jI ((mo : Nat) : Int))), (0, .ref x0), (1, .ref am), (2, .ref ae), (3, .ref ag), (4, .int (jI 2)), (5, .int (jI ((one : Nat) : Int))), (6, .int (jI ((two : Nat) : Int)))]) hx hb dL_isTold_294 hl (by decide) rfl (fun ls hl => ?_)
      refine lv_iload hx hb dL_isTold_296 (lv_at hl 9 rfl) ?_
      refine n_bipush hx hb dL_isTold_298 (by decide) ?_
      refine n_idivv (v := (((two / 13) : Nat) : Int)) hx hb dL_isTold_300 (by omega) (by omega) (by omega) (by omega) (by omega) ?_
      refine n_iconst hx hb dL_isTold_301 ?_
      refine n_iremv (v := (zv zq)) hx hb dL_isTold_302 (by omega) (by omega) (by omega) (by omega) (by omega) ?_
      refine lv_istore (lv' := [(10, .int (vI zq)), (9, .int (vI zp)), (8, .int (vI zx)), (7, .int (jI ((mo : Nat) : Int))), (0, .ref x0), (1, .ref am), (2, .ref ae), (3, .ref ag), (4, .int (jI 2)), (5, .int (jI ((one : Nat) : Int))), (6, .int (jI ((two : Nat) : Int)))]) hx hb dL_isTold_303 hl (by decide) rfl (fun ls hl => ?_)
      refine lv_iload hx hb dL_isTold_305 (lv_at hl 10 rfl) ?_
      refine n_bipush hx hb dL_isTold_307 (by decide) ?_
      refine n_idivv (v := (((two / 39) : Nat) : Int)) hx hb dL_isTold_309 (by omega) (by omega) (by omega) (by omega) (by omega) ?_
      refine n_bipush hx hb dL_isTold_310 (by decide) ?_
      refine n_iremv (v := (zv zl)) hx hb dL_isTold_312 (by omega) (by omega) (by omega) (by omega) (by omega) ?_
      refine lv_istore (lv' := [(11, .int (vI zl)), (10, .int (vI zq)), (9, .int (vI zp)), (8, .int (vI zx)), (7, .int (jI ((mo : Nat) : Int))), (0, .ref x0), (1, .ref am), (2, .ref ae), (3, .ref ag), (4, .int (jI 2)), (5, .int (jI ((one : Nat) : Int))), (6, .int (jI ((two : Nat) : Int)))]) hx hb dL_isTold_313 hl (by decide) rfl (fun ls hl => ?_)
      refine lv_iload hx hb dL_isTold_315 (lv_at hl 4 rfl) ?_
      refine lv_aload_n hx hb dL_isTold_317 rfl (lv_at hl 8 rfl) ?_
      refine n_iconst hx hb dL_isTold_318 ?_
      refine n_nalv (i := 0) (v := ((ms : Nat) : Int)) hx hb hK hP 2 0 rfl htI rfl (Nat.le_of_ble_eq_true rfl) (Nat.le_of_ble_eq_true rfl) (congrArg (fun z : Nat => (z : Int)) hg0) dL_isTold_319 ?_
      by_cases hmo : mo < ms
      · refine n_icmp_ge (tgt := 327) hx hb (by unfold r32; omega) (by unfold r32; omega) dL_isTold_320 (by decide) (fun h320 => False.elim (by omega)) (fun h320 => ?_)
        refine n_iconst hx hb dL_isTold_323 ?_
        refine lv_goto (tgt := 328) hx hb dL_isTold_324 (by decide) ?_
        refine lv_istore (lv' := [(12, .int (jI 1)), (11, .int (vI zl)), (10, .int (vI zq)), (9, .int (vI zp)), (8, .int (vI zx)), (7, .int (jI ((mo : Nat) : Int))), (0, .ref x0), (1, .ref am), (2, .ref ae), (3, .ref ag), (4, .int (jI 2)), (5, .int (jI ((one : Nat) : Int))), (6, .int (jI ((two : Nat) : Int)))]) hx hb dL_isTold_328 hl (by decide) rfl (fun ls hl => ?_)
        refine lv_iload hx hb dL_isTold_330 (lv_at hl 0 rfl) ?_
        refine n_if_eq (tgt := 450) hx hb (by unfold r32; decide) dL_isTold_332 (by decide) (fun h332 => False.elim (by revert h332; decide)) (fun h332 => ?_)
        refine lv_iload hx hb dL_isTold_335 (lv_at hl 3 rfl) ?_
        refine n_sipush hx hb dL_isTold_337 (by decide) ?_
        refine n_icmp_ge (tgt := 450) hx hb (r32_z _) (by unfold r32; omega) dL_isTold_340 (by decide) (fun h340 => False.elim (by omega)) (fun h340 => ?_)
        refine n_bipush hx hb dL_isTold_343 (by decide) ?_
        refine lv_aload_n hx hb dL_isTold_345 rfl (lv_at hl 9 rfl) ?_
        refine n_iconst hx hb dL_isTold_346 ?_
        refine n_nalv (i := 1) (v := ((es : Nat) : Int)) hx hb hK hP 2 0 rfl htI rfl (Nat.le_of_ble_eq_true rfl) (Nat.le_of_ble_eq_true rfl) (congrArg (fun z : Nat => (z : Int)) hg1) dL_isTold_347 ?_
        refine n_imul hx hb dL_isTold_348 ?_
        rw [hat]
        refine lv_istore (lv' := [(13, .int (jI (((15 * es) : Nat) : Int))), (12, .int (jI 1)), (11, .int (vI zl)), (10, .int (vI zq)), (9, .int (vI zp)), (8, .int (vI zx)), (7, .int (jI ((mo : Nat) : Int))), (0, .ref x0), (1, .ref am), (2, .ref ae), (3, .ref ag), (4, .int (jI 2)), (5, .int (jI ((one : Nat) : Int))), (6, .int (jI ((two : Nat) : Int)))]) hx hb dL_isTold_349 hl (by decide) rfl (fun ls hl => ?_)
        refine n_iconst hx hb dL_isTold_351 ?_
        refine lv_istore (lv' := [(14, .int (jI 0)), (13, .int (jI (((15 * es) : Nat) : Int))), (12, .int (jI 1)), (11, .int (vI zl)), (10, .int (vI zq)), (9, .int (vI zp)), (8, .int (vI zx)), (7, .int (jI ((mo : Nat) : Int))), (0, .ref x0), (1, .ref am), (2, .ref ae), (3, .ref ag), (4, .int (jI 2)), (5, .int (jI ((one : Nat) : Int))), (6, .int (jI ((two : Nat) : Int)))]) hx hb dL_isTold_352 hl (by decide) rfl (fun ls hl => ?_)
        refine lv_iload hx hb dL_isTold_354 (lv_at hl 0 rfl) ?_
        refine n_bipush hx hb dL_isTold_356 (by decide) ?_
        refine n_icmp_ge (tgt := 384) hx hb (by unfold r32; decide) (by unfold r32; decide) dL_isTold_358 (by decide) (fun h358 => False.elim (by revert h358; decide)) (fun h358 => ?_)
        refine lv_aload_n hx hb dL_isTold_361 rfl (lv_at hl 10 rfl) ?_
        refine lv_iload hx hb dL_isTold_362 (lv_at hl 1 rfl) ?_
        refine lv_iload hx hb dL_isTold_364 (lv_at hl 0 rfl) ?_
        refine n_iadd hx hb dL_isTold_366 ?_
        refine lv_aload_n hx hb dL_isTold_367 rfl (lv_at hl 9 rfl) ?_
        refine n_bipush hx hb dL_isTold_368 (by decide) ?_
        refine lv_iload hx hb dL_isTold_370 (lv_at hl 7 rfl) ?_
        refine n_imul hx hb dL_isTold_372 ?_
        refine lv_iload hx hb dL_isTold_373 (lv_at hl 0 rfl) ?_
        refine n_iadd hx hb dL_isTold_375 ?_
        refine n_ialdv (i := (7 * mo + 0)) (v := (zv (gE (7 * mo + 0)))) hx hb hK hP 0 0 rfl htI (by omega) (by omega) (Nat.le_of_ble_eq_true rfl) (hm _ (by omega)) dL_isTold_376 ?_
        refine n_iast (i := (15 * es + 0)) hx hb hK hP hD hS 1 0 rfl htI (by omega) (by omega) (Nat.le_of_ble_eq_true rfl) dL_isTold_377 (fun H locs hP hD hS => ?_)
        have hP : va_P D vwCl ((am, .inl (cI, 22, .inl (fun i => jI (fm i)))) :: (ae, .inl (cI, 45, .inl (fun i => jI ((va_up fe (15 * es + 0) (zv (gE (7 * mo + 0)))) i)))) :: (ag, .inl (cI, 2, .inl (fun i => jI ((fg i : Nat) : Int)))) :: (CW cI cE cG cM cS x0 q0 q1 qr (ms, es, gE, gM, gB, gT, gG, gN, gK, gD) κ)) H := hP
        have hD : va_D A ((am, .inl (cI, 22, .inl (fun i => jI (fm i)))) :: (ae, .inl (cI, 45, .inl (fun i => jI ((va_up fe (15 * es + 0) (zv (gE (7 * mo + 0)))) i)))) :: (ag, .inl (cI, 2, .inl (fun i => jI ((fg i : Nat) : Int)))) :: (CW cI cE cG cM cS x0 q0 q1 qr (ms, es, gE, gM, gB, gT, gG, gN, gK, gD) κ)) := hD
        refine lv_iinc (v := jI 1) (lv' := [(14, .int (jI 1)), (13, .int (jI (((15 * es) : Nat) : Int))), (12, .int (jI 1)), (11, .int (vI zl)), (10, .int (vI zq)), (9, .int (vI zp)), (8, .int (vI zx)), (7, .int (jI ((mo : Nat) : Int))), (0, .ref x0), (1, .ref am), (2, .ref ae), (3, .ref ag), (4, .int (jI 2)), (5, .int (jI ((one : Nat) : Int))), (6, .int (jI ((two : Nat) : Int)))]) hx hb dL_isTold_378 hl (k := 0) rfl (jI_add 0 1) (by decide) rfl (fun ls hl => ?_)
        refine lv_goto (tgt := 354) hx hb dL_isTold_381 (by decide) ?_
        refine lv_iload hx hb dL_isTold_354 (lv_at hl 0 rfl) ?_
        refine n_bipush hx hb dL_isTold_356 (by decide) ?_
        refine n_icmp_ge (tgt := 384) hx hb (by unfold r32; decide) (by unfold r32; decide) dL_isTold_358 (by decide) (fun h358 => False.elim (by revert h358; decide)) (fun h358 => ?_)
        refine lv_aload_n hx hb dL_isTold_361 rfl (lv_at hl 10 rfl) ?_
        refine lv_iload hx hb dL_isTold_362 (lv_at hl 1 rfl) ?_
        refine lv_iload hx hb dL_isTold_364 (lv_at hl 0 rfl) ?_
        refine n_iadd hx hb dL_isTold_366 ?_
        refine lv_aload_n hx hb dL_isTold_367 rfl (lv_at hl 9 rfl) ?_
        refine n_bipush hx hb dL_isTold_368 (by decide) ?_
        refine lv_iload hx hb dL_isTold_370 (lv_at hl 7 rfl) ?_
        refine n_imul hx hb dL_isTold_372 ?_
        refine lv_iload hx hb dL_isTold_373 (lv_at hl 0 rfl) ?_
        refine n_iadd hx hb dL_isTold_375 ?_
        refine n_ialdv (i := (7 * mo + 1)) (v := (zv (gE (7 * mo + 1)))) hx hb hK hP 0 0 rfl htI (by omega) (by omega) (Nat.le_of_ble_eq_true rfl) (hm _ (by omega)) dL_isTold_376 ?_
        refine n_iast (i := (15 * es + 1)) hx hb hK hP hD hS 1 0 rfl htI (by omega) (by omega) (Nat.le_of_ble_eq_true rfl) dL_isTold_377 (fun H locs hP hD hS => ?_)
        have hP : va_P D vwCl ((am, .inl (cI, 22, .inl (fun i => jI (fm i)))) :: (ae, .inl (cI, 45, .inl (fun i => jI ((va_up (va_up fe (15 * es + 0) (zv (gE (7 * mo + 0)))) (15 * es + 1) (zv (gE (7 * mo + 1)))) i)))) :: (ag, .inl (cI, 2, .inl (fun i => jI ((fg i : Nat) : Int)))) :: (CW cI cE cG cM cS x0 q0 q1 qr (ms, es, gE, gM, gB, gT, gG, gN, gK, gD) κ)) H := hP
        have hD : va_D A ((am, .inl (cI, 22, .inl (fun i => jI (fm i)))) :: (ae, .inl (cI, 45, .inl (fun i => jI ((va_up (va_up fe (15 * es + 0) (zv (gE (7 * mo + 0)))) (15 * es + 1) (zv (gE (7 * mo + 1)))) i)))) :: (ag, .inl (cI, 2, .inl (fun i => jI ((fg i : Nat) : Int)))) :: (CW cI cE cG cM cS x0 q0 q1 qr (ms, es, gE, gM, gB, gT, gG, gN, gK, gD) κ)) := hD
        refine lv_iinc (v := jI 2) (lv' := [(14, .int (jI 2)), (13, .int (jI (((15 * es) : Nat) : Int))), (12, .int (jI 1)), (11, .int (vI zl)), (10, .int (vI zq)), (9, .int (vI zp)), (8, .int (vI zx)), (7, .int (jI ((mo : Nat) : Int))), (0, .ref x0), (1, .ref am), (2, .ref ae), (3, .ref ag), (4, .int (jI 2)), (5, .int (jI ((one : Nat) : Int))), (6, .int (jI ((two : Nat) : Int)))]) hx hb dL_isTold_378 hl (k := 0) rfl (jI_add 1 1) (by decide) rfl (fun ls hl => ?_)
        refine lv_goto (tgt := 354) hx hb dL_isTold_381 (by decide) ?_
        refine lv_iload hx hb dL_isTold_354 (lv_at hl 0 rfl) ?_
        refine n_bipush hx hb dL_isTold_356 (by decide) ?_
        refine n_icmp_ge (tgt := 384) hx hb (by unfold r32; decide) (by unfold r32; decide) dL_isTold_358 (by decide) (fun h358 => False.elim (by revert h358; decide)) (fun h358 => ?_)
        refine lv_aload_n hx hb dL_isTold_361 rfl (lv_at hl 10 rfl) ?_
        refine lv_iload hx hb dL_isTold_362 (lv_at hl 1 rfl) ?_
        refine lv_iload hx hb dL_isTold_364 (lv_at hl 0 rfl) ?_
        refine n_iadd hx hb dL_isTold_366 ?_
        refine lv_aload_n hx hb dL_isTold_367 rfl (lv_at hl 9 rfl) ?_
        refine n_bipush hx hb dL_isTold_368 (by decide) ?_
        refine lv_iload hx hb dL_isTold_370 (lv_at hl 7 rfl) ?_
        refine n_imul hx hb dL_isTold_372 ?_
        refine lv_iload hx hb dL_isTold_373 (lv_at hl 0 rfl) ?_
        refine n_iadd hx hb dL_isTold_375 ?_
        refine n_ialdv (i := (7 * mo + 2)) (v := (zv (gE (7 * mo + 2)))) hx hb hK hP 0 0 rfl htI (by omega) (by omega) (Nat.le_of_ble_eq_true rfl) (hm _ (by omega)) dL_isTold_376 ?_
        refine n_iast (i := (15 * es + 2)) hx hb hK hP hD hS 1 0 rfl htI (by omega) (by omega) (Nat.le_of_ble_eq_true rfl) dL_isTold_377 (fun H locs hP hD hS => ?_)
        have hP : va_P D vwCl ((am, .inl (cI, 22, .inl (fun i => jI (fm i)))) :: (ae, .inl (cI, 45, .inl (fun i => jI ((va_up (va_up (va_up fe (15 * es + 0) (zv (gE (7 * mo + 0)))) (15 * es + 1) (zv (gE (7 * mo + 1)))) (15 * es + 2) (zv (gE (7 * mo + 2)))) i)))) :: (ag, .inl (cI, 2, .inl (fun i => jI ((fg i : Nat) : Int)))) :: (CW cI cE cG cM cS x0 q0 q1 qr (ms, es, gE, gM, gB, gT, gG, gN, gK, gD) κ)) H := hP
        have hD : va_D A ((am, .inl (cI, 22, .inl (fun i => jI (fm i)))) :: (ae, .inl (cI, 45, .inl (fun i => jI ((va_up (va_up (va_up fe (15 * es + 0) (zv (gE (7 * mo + 0)))) (15 * es + 1) (zv (gE (7 * mo + 1)))) (15 * es + 2) (zv (gE (7 * mo + 2)))) i)))) :: (ag, .inl (cI, 2, .inl (fun i => jI ((fg i : Nat) : Int)))) :: (CW cI cE cG cM cS x0 q0 q1 qr (ms, es, gE, gM, gB, gT, gG, gN, gK, gD) κ)) := hD
        refine lv_iinc (v := jI 3) (lv' := [(14, .int (jI 3)), (13, .int (jI (((15 * es) : Nat) : Int))), (12, .int (jI 1)), (11, .int (vI zl)), (10, .int (vI zq)), (9, .int (vI zp)), (8, .int (vI zx)), (7, .int (jI ((mo : Nat) : Int))), (0, .ref x0), (1, .ref am), (2, .ref ae), (3, .ref ag), (4, .int (jI 2)), (5, .int (jI ((one : Nat) : Int))), (6, .int (jI ((two : Nat) : Int)))]) hx hb dL_isTold_378 hl (k := 0) rfl (jI_add 2 1) (by decide) rfl (fun ls hl => ?_)
        refine lv_goto (tgt := 354) hx hb dL_isTold_381 (by decide) ?_
        refine lv_iload hx hb dL_isTold_354 (lv_at hl 0 rfl) ?_
        refine n_bipush hx hb dL_isTold_356 (by decide) ?_
        refine n_icmp_ge (tgt := 384) hx hb (by unfold r32; decide) (by unfold r32; decide) dL_isTold_358 (by decide) (fun h358 => False.elim (by revert h358; decide)) (fun h358 => ?_)
        refine lv_aload_n hx hb dL_isTold_361 rfl (lv_at hl 10 rfl) ?_
        refine lv_iload hx hb dL_isTold_362 (lv_at hl 1 rfl) ?_
        refine lv_iload hx hb dL_isTold_364 (lv_at hl 0 rfl) ?_
        refine n_iadd hx hb dL_isTold_366 ?_
        refine lv_aload_n hx hb dL_isTold_367 rfl (lv_at hl 9 rfl) ?_
        refine n_bipush hx hb dL_isTold_368 (by decide) ?_
        refine lv_iload hx hb dL_isTold_370 (lv_at hl 7 rfl) ?_
        refine n_imul hx hb dL_isTold_372 ?_
        refine lv_iload hx hb dL_isTold_373 (lv_at hl 0 rfl) ?_
        refine n_iadd hx hb dL_isTold_375 ?_
        refine n_ialdv (i := (7 * mo + 3)) (v := (zv (gE (7 * mo + 3)))) hx hb hK hP 0 0 rfl htI (by omega) (by omega) (Nat.le_of_ble_eq_true rfl) (hm _ (by omega)) dL_isTold_376 ?_
        refine n_iast (i := (15 * es + 3)) hx hb hK hP hD hS 1 0 rfl htI (by omega) (by omega) (Nat.le_of_ble_eq_true rfl) dL_isTold_377 (fun H locs hP hD hS => ?_)
        have hP : va_P D vwCl ((am, .inl (cI, 22, .inl (fun i => jI (fm i)))) :: (ae, .inl (cI, 45, .inl (fun i => jI ((va_up (va_up (va_up (va_up fe (15 * es + 0) (zv (gE (7 * mo + 0)))) (15 * es + 1) (zv (gE (7 * mo + 1)))) (15 * es + 2) (zv (gE (7 * mo + 2)))) (15 * es + 3) (zv (gE (7 * mo + 3)))) i)))) :: (ag, .inl (cI, 2, .inl (fun i => jI ((fg i : Nat) : Int)))) :: (CW cI cE cG cM cS x0 q0 q1 qr (ms, es, gE, gM, gB, gT, gG, gN, gK, gD) κ)) H := hP
        have hD : va_D A ((am, .inl (cI, 22, .inl (fun i => jI (fm i)))) :: (ae, .inl (cI, 45, .inl (fun i => jI ((va_up (va_up (va_up (va_up fe (15 * es + 0) (zv (gE (7 * mo + 0)))) (15 * es + 1) (zv (gE (7 * mo + 1)))) (15 * es + 2) (zv (gE (7 * mo + 2)))) (15 * es + 3) (zv (gE (7 * mo + 3)))) i)))) :: (ag, .inl (cI, 2, .inl (fun i => jI ((fg i : Nat) : Int)))) :: (CW cI cE cG cM cS x0 q0 q1 qr (ms, es, gE, gM, gB, gT, gG, gN, gK, gD) κ)) := hD
        refine lv_iinc (v := jI 4) (lv' := [(14, .int (jI 4)), (13, .int (jI (((15 * es) : Nat) : Int))), (12, .int (jI 1)), (11, .int (vI zl)), (10, .int (vI zq)), (9, .int (vI zp)), (8, .int (vI zx)), (7, .int (jI ((mo : Nat) : Int))), (0, .ref x0), (1, .ref am), (2, .ref ae), (3, .ref ag), (4, .int (jI 2)), (5, .int (jI ((one : Nat) : Int))), (6, .int (jI ((two : Nat) : Int)))]) hx hb dL_isTold_378 hl (k := 0) rfl (jI_add 3 1) (by decide) rfl (fun ls hl => ?_)
        refine lv_goto (tgt := 354) hx hb dL_isTold_381 (by decide) ?_
        refine lv_iload hx hb dL_isTold_354 (lv_at hl 0 rfl) ?_
        refine n_bipush hx hb dL_isTold_356 (by decide) ?_
        refine n_icmp_ge (tgt := 384) hx hb (by unfold r32; decide) (by unfold r32; decide) dL_isTold_358 (by decide) (fun h358 => False.elim (by revert h358; decide)) (fun h358 => ?_)
        refine lv_aload_n hx hb dL_isTold_361 rfl (lv_at hl 10 rfl) ?_
        refine lv_iload hx hb dL_isTold_362 (lv_at hl 1 rfl) ?_
        refine lv_iload hx hb dL_isTold_364 (lv_at hl 0 rfl) ?_
        refine n_iadd hx hb dL_isTold_366 ?_
        refine lv_aload_n hx hb dL_isTold_367 rfl (lv_at hl 9 rfl) ?_
        refine n_bipush hx hb dL_isTold_368 (by decide) ?_
        refine lv_iload hx hb dL_isTold_370 (lv_at hl 7 rfl) ?_
        refine n_imul hx hb dL_isTold_372 ?_
        refine lv_iload hx hb dL_isTold_373 (lv_at hl 0 rfl) ?_
        refine n_iadd hx hb dL_isTold_375 ?_
        refine n_ialdv (i := (7 * mo + 4)) (v := (zv (gE (7 * mo + 4)))) hx hb hK hP 0 0 rfl htI (by omega) (by omega) (Nat.le_of_ble_eq_true rfl) (hm _ (by omega)) dL_isTold_376 ?_
        refine n_iast (i := (15 * es + 4)) hx hb hK hP hD hS 1 0 rfl htI (by omega) (by omega) (Nat.le_of_ble_eq_true rfl) dL_isTold_377 (fun H locs hP hD hS => ?_)
        have hP : va_P D vwCl ((am, .inl (cI, 22, .inl (fun i => jI (fm i)))) :: (ae, .inl (cI, 45, .inl (fun i => jI ((va_up (va_up (va_up (va_up (va_up fe (15 * es + 0) (zv (gE (7 * mo + 0)))) (15 * es + 1) (zv (gE (7 * mo + 1)))) (15 * es + 2) (zv (gE (7 * mo + 2)))) (15 * es + 3) (zv (gE (7 * mo + 3)))) (15 * es + 4) (zv (gE (7 * mo + 4)))) i)))) :: (ag, .inl (cI, 2, .inl (fun i => jI ((fg i : Nat) : Int)))) :: (CW cI cE cG cM cS x0 q0 q1 qr (ms, es, gE, gM, gB, gT, gG, gN, gK, gD) κ)) H := hP
        have hD : va_D A ((am, .inl (cI, 22, .inl (fun i => jI (fm i)))) :: (ae, .inl (cI, 45, .inl (fun i => jI ((va_up (va_up (va_up (va_up (va_up fe (15 * es + 0) (zv (gE (7 * mo + 0)))) (15 * es + 1) (zv (gE (7 * mo + 1)))) (15 * es + 2) (zv (gE (7 * mo + 2)))) (15 * es + 3) (zv (gE (7 * mo + 3)))) (15 * es + 4) (zv (gE (7 * mo + 4)))) i)))) :: (ag, .inl (cI, 2, .inl (fun i => jI ((fg i : Nat) : Int)))) :: (CW cI cE cG cM cS x0 q0 q1 qr (ms, es, gE, gM, gB, gT, gG, gN, gK, gD) κ)) := hD
        refine lv_iinc (v := jI 5) (lv' := [(14, .int (jI 5)), (13, .int (jI (((15 * es) : Nat) : Int))), (12, .int (jI 1)), (11, .int (vI zl)), (10, .int (vI zq)), (9, .int (vI zp)), (8, .int (vI zx)), (7, .int (jI ((mo : Nat) : Int))), (0, .ref x0), (1, .ref am), (2, .ref ae), (3, .ref ag), (4, .int (jI 2)), (5, .int (jI ((one : Nat) : Int))), (6, .int (jI ((two : Nat) : Int)))]) hx hb dL_isTold_378 hl (k := 0) rfl (jI_add 4 1) (by decide) rfl (fun ls hl => ?_)
        refine lv_goto (tgt := 354) hx hb dL_isTold_381 (by decide) ?_
        refine lv_iload hx hb dL_isTold_354 (lv_at hl 0 rfl) ?_
        refine n_bipush hx hb dL_isTold_356 (by decide) ?_
        refine n_icmp_ge (tgt := 384) hx hb (by unfold r32; decide) (by unfold r32; decide) dL_isTold_358 (by decide) (fun h358 => False.elim (by revert h358; decide)) (fun h358 => ?_)
        refine lv_aload_n hx hb dL_isTold_361 rfl (lv_at hl 10 rfl) ?_
        refine lv_iload hx hb dL_isTold_362 (lv_at hl 1 rfl) ?_
        refine lv_iload hx hb dL_isTold_364 (lv_at hl 0 rfl) ?_
        refine n_iadd hx hb dL_isTold_366 ?_
        refine lv_aload_n hx hb dL_isTold_367 rfl (lv_at hl 9 rfl) ?_
        refine n_bipush hx hb dL_isTold_368 (by decide) ?_
        refine lv_iload hx hb dL_isTold_370 (lv_at hl 7 rfl) ?_
        refine n_imul hx hb dL_isTold_372 ?_
        refine lv_iload hx hb dL_isTold_373 (lv_at hl 0 rfl) ?_
        refine n_iadd hx hb dL_isTold_375 ?_
        refine n_ialdv (i := (7 * mo + 5)) (v := (zv (gE (7 * mo + 5)))) hx hb hK hP 0 0 rfl htI (by omega) (by omega) (Nat.le_of_ble_eq_true rfl) (hm _ (by omega)) dL_isTold_376 ?_
        refine n_iast (i := (15 * es + 5)) hx hb hK hP hD hS 1 0 rfl htI (by omega) (by omega) (Nat.le_of_ble_eq_true rfl) dL_isTold_377 (fun H locs hP hD hS => ?_)
        have hP : va_P D vwCl ((am, .inl (cI, 22, .inl (fun i => jI (fm i)))) :: (ae, .inl (cI, 45, .inl (fun i => jI ((va_up (va_up (va_up (va_up (va_up (va_up fe (15 * es + 0) (zv (gE (7 * mo + 0)))) (15 * es + 1) (zv (gE (7 * mo + 1)))) (15 * es + 2) (zv (gE (7 * mo + 2)))) (15 * es + 3) (zv (gE (7 * mo + 3)))) (15 * es + 4) (zv (gE (7 * mo + 4)))) (15 * es + 5) (zv (gE (7 * mo + 5)))) i)))) :: (ag, .inl (cI, 2, .inl (fun i => jI ((fg i : Nat) : Int)))) :: (CW cI cE cG cM cS x0 q0 q1 qr (ms, es, gE, gM, gB, gT, gG, gN, gK, gD) κ)) H := hP
        have hD : va_D A ((am, .inl (cI, 22, .inl (fun i => jI (fm i)))) :: (ae, .inl (cI, 45, .inl (fun i => jI ((va_up (va_up (va_up (va_up (va_up (va_up fe (15 * es + 0) (zv (gE (7 * mo + 0)))) (15 * es + 1) (zv (gE (7 * mo + 1)))) (15 * es + 2) (zv (gE (7 * mo + 2)))) (15 * es + 3) (zv (gE (7 * mo + 3)))) (15 * es + 4) (zv (gE (7 * mo + 4)))) (15 * es + 5) (zv (gE (7 * mo + 5)))) i)))) :: (ag, .inl (cI, 2, .inl (fun i => jI ((fg i : Nat) : Int)))) :: (CW cI cE cG cM cS x0 q0 q1 qr (ms, es, gE, gM, gB, gT, gG, gN, gK, gD) κ)) := hD
        refine lv_iinc (v := jI 6) (lv' := [(14, .int (jI 6)), (13, .int (jI (((15 * es) : Nat) : Int))), (12, .int (jI 1)), (11, .int (vI zl)), (10, .int (vI zq)), (9, .int (vI zp)), (8, .int (vI zx)), (7, .int (jI ((mo : Nat) : Int))), (0, .ref x0), (1, .ref am), (2, .ref ae), (3, .ref ag), (4, .int (jI 2)), (5, .int (jI ((one : Nat) : Int))), (6, .int (jI ((two : Nat) : Int)))]) hx hb dL_isTold_378 hl (k := 0) rfl (jI_add 5 1) (by decide) rfl (fun ls hl => ?_)
        refine lv_goto (tgt := 354) hx hb dL_isTold_381 (by decide) ?_
        refine lv_iload hx hb dL_isTold_354 (lv_at hl 0 rfl) ?_
        refine n_bipush hx hb dL_isTold_356 (by decide) ?_
        refine n_icmp_ge (tgt := 384) hx hb (by unfold r32; decide) (by unfold r32; decide) dL_isTold_358 (by decide) (fun h358 => False.elim (by revert h358; decide)) (fun h358 => ?_)
        refine lv_aload_n hx hb dL_isTold_361 rfl (lv_at hl 10 rfl) ?_
        refine lv_iload hx hb dL_isTold_362 (lv_at hl 1 rfl) ?_
        refine lv_iload hx hb dL_isTold_364 (lv_at hl 0 rfl) ?_
        refine n_iadd hx hb dL_isTold_366 ?_
        refine lv_aload_n hx hb dL_isTold_367 rfl (lv_at hl 9 rfl) ?_
        refine n_bipush hx hb dL_isTold_368 (by decide) ?_
        refine lv_iload hx hb dL_isTold_370 (lv_at hl 7 rfl) ?_
        refine n_imul hx hb dL_isTold_372 ?_
        refine lv_iload hx hb dL_isTold_373 (lv_at hl 0 rfl) ?_
        refine n_iadd hx hb dL_isTold_375 ?_
        refine n_ialdv (i := (7 * mo + 6)) (v := (zv (gE (7 * mo + 6)))) hx hb hK hP 0 0 rfl htI (by omega) (by omega) (Nat.le_of_ble_eq_true rfl) (hm _ (by omega)) dL_isTold_376 ?_
        refine n_iast (i := (15 * es + 6)) hx hb hK hP hD hS 1 0 rfl htI (by omega) (by omega) (Nat.le_of_ble_eq_true rfl) dL_isTold_377 (fun H locs hP hD hS => ?_)
        have hP : va_P D vwCl ((am, .inl (cI, 22, .inl (fun i => jI (fm i)))) :: (ae, .inl (cI, 45, .inl (fun i => jI ((va_up (va_up (va_up (va_up (va_up (va_up (va_up fe (15 * es + 0) (zv (gE (7 * mo + 0)))) (15 * es + 1) (zv (gE (7 * mo + 1)))) (15 * es + 2) (zv (gE (7 * mo + 2)))) (15 * es + 3) (zv (gE (7 * mo + 3)))) (15 * es + 4) (zv (gE (7 * mo + 4)))) (15 * es + 5) (zv (gE (7 * mo + 5)))) (15 * es + 6) (zv (gE (7 * mo + 6)))) i)))) :: (ag, .inl (cI, 2, .inl (fun i => jI ((fg i : Nat) : Int)))) :: (CW cI cE cG cM cS x0 q0 q1 qr (ms, es, gE, gM, gB, gT, gG, gN, gK, gD) κ)) H := hP
        have hD : va_D A ((am, .inl (cI, 22, .inl (fun i => jI (fm i)))) :: (ae, .inl (cI, 45, .inl (fun i => jI ((va_up (va_up (va_up (va_up (va_up (va_up (va_up fe (15 * es + 0) (zv (gE (7 * mo + 0)))) (15 * es + 1) (zv (gE (7 * mo + 1)))) (15 * es + 2) (zv (gE (7 * mo + 2)))) (15 * es + 3) (zv (gE (7 * mo + 3)))) (15 * es + 4) (zv (gE (7 * mo + 4)))) (15 * es + 5) (zv (gE (7 * mo + 5)))) (15 * es + 6) (zv (gE (7 * mo + 6)))) i)))) :: (ag, .inl (cI, 2, .inl (fun i => jI ((fg i : Nat) : Int)))) :: (CW cI cE cG cM cS x0 q0 q1 qr (ms, es, gE, gM, gB, gT, gG, gN, gK, gD) κ)) := hD
        refine lv_iinc (v := jI 7) (lv' := [(14, .int (jI 7)), (13, .int (jI (((15 * es) : Nat) : Int))), (12, .int (jI 1)), (11, .int (vI zl)), (10, .int (vI zq)), (9, .int (vI zp)), (8, .int (vI zx)), (7, .int (jI ((mo : Nat) : Int))), (0, .ref x0), (1, .ref am), (2, .ref ae), (3, .ref ag), (4, .int (jI 2)), (5, .int (jI ((one : Nat) : Int))), (6, .int (jI ((two : Nat) : Int)))]) hx hb dL_isTold_378 hl (k := 0) rfl (jI_add 6 1) (by decide) rfl (fun ls hl => ?_)
        refine lv_goto (tgt := 354) hx hb dL_isTold_381 (by decide) ?_
        refine lv_iload hx hb dL_isTold_354 (lv_at hl 0 rfl) ?_
        refine n_bipush hx hb dL_isTold_356 (by decide) ?_
        refine n_icmp_ge (tgt := 384) hx hb (by unfold r32; decide) (by unfold r32; decide) dL_isTold_358 (by decide) (fun h358 => ?_) (fun h358 => False.elim (by revert h358; decide))
        refine lv_aload_n hx hb dL_isTold_384 rfl (lv_at hl 10 rfl) ?_
        refine lv_iload hx hb dL_isTold_385 (lv_at hl 1 rfl) ?_
        refine n_bipush hx hb dL_isTold_387 (by decide) ?_
        refine n_iadd hx hb dL_isTold_389 ?_
        refine lv_iload hx hb dL_isTold_390 (lv_at hl 6 rfl) ?_
        refine n_iast (i := (15 * es + 7)) hx hb hK hP hD hS 1 0 rfl htI (by omega) (by omega) (Nat.le_of_ble_eq_true rfl) dL_isTold_392 (fun H locs hP hD hS => ?_)
        have hP : va_P D vwCl ((am, .inl (cI, 22, .inl (fun i => jI (fm i)))) :: (ae, .inl (cI, 45, .inl (fun i => jI ((va_up (va_up (va_up (va_up (va_up (va_up (va_up (va_up fe (15 * es + 0) (zv (gE (7 * mo + 0)))) (15 * es + 1) (zv (gE (7 * mo + 1)))) (15 * es + 2) (zv (gE (7 * mo + 2)))) (15 * es + 3) (zv (gE (7 * mo + 3)))) (15 * es + 4) (zv (gE (7 * mo + 4)))) (15 * es + 5) (zv (gE (7 * mo + 5)))) (15 * es + 6) (zv (gE (7 * mo + 6)))) (15 * es + 7) (zv zx)) i)))) :: (ag, .inl (cI, 2, .inl (fun i => jI ((fg i : Nat) : Int)))) :: (CW cI cE cG cM cS x0 q0 q1 qr (ms, es, gE, gM, gB, gT, gG, gN, gK, gD) κ)) H := hP
        have hD : va_D A ((am, .inl (cI, 22, .inl (fun i => jI (fm i)))) :: (ae, .inl (cI, 45, .inl (fun i => jI ((va_up (va_up (va_up (va_up (va_up (va_up (va_up (va_up fe (15 * es + 0) (zv (gE (7 * mo + 0)))) (15 * es + 1) (zv (gE (7 * mo + 1)))) (15 * es + 2) (zv (gE (7 * mo + 2)))) (15 * es + 3) (zv (gE (7 * mo + 3)))) (15 * es + 4) (zv (gE (7 * mo + 4)))) (15 * es + 5) (zv (gE (7 * mo + 5)))) (15 * es + 6) (zv (gE (7 * mo + 6)))) (15 * es + 7) (zv zx)) i)))) :: (ag, .inl (cI, 2, .inl (fun i => jI ((fg i : Nat) : Int)))) :: (CW cI cE cG cM cS x0 q0 q1 qr (ms, es, gE, gM, gB, gT, gG, gN, gK, gD) κ)) := hD
        refine lv_aload_n hx hb dL_isTold_393 rfl (lv_at hl 10 rfl) ?_
        refine lv_iload hx hb dL_isTold_394 (lv_at hl 1 rfl) ?_
        refine n_bipush hx hb dL_isTold_396 (by decide) ?_
        refine n_iadd hx hb dL_isTold_398 ?_
        refine lv_iload hx hb dL_isTold_399 (lv_at hl 14 rfl) ?_
        refine n_sipush hx hb dL_isTold_401 (by decide) ?_
        refine n_iremv (v := (zv zt)) hx hb dL_isTold_404 (by omega) (by omega) (by omega) (by omega) (by omega) ?_
        refine n_iast (i := (15 * es + 8)) hx hb hK hP hD hS 1 0 rfl htI (by omega) (by omega) (Nat.le_of_ble_eq_true rfl) dL_isTold_405 (fun H locs hP hD hS => ?_)
        have hP : va_P D vwCl ((am, .inl (cI, 22, .inl (fun i => jI (fm i)))) :: (ae, .inl (cI, 45, .inl (fun i => jI ((va_up (va_up (va_up (va_up (va_up (va_up (va_up (va_up (va_up fe (15 * es + 0) (zv (gE (7 * mo + 0)))) (15 * es + 1) (zv (gE (7 * mo + 1)))) (15 * es + 2) (zv (gE (7 * mo + 2)))) (15 * es + 3) (zv (gE (7 * mo + 3)))) (15 * es + 4) (zv (gE (7 * mo + 4)))) (15 * es + 5) (zv (gE (7 * mo + 5)))) (15 * es + 6) (zv (gE (7 * mo + 6)))) (15 * es + 7) (zv zx)) (15 * es + 8) (zv zt)) i)))) :: (ag, .inl (cI, 2, .inl (fun i => jI ((fg i : Nat) : Int)))) :: (CW cI cE cG cM cS x0 q0 q1 qr (ms, es, gE, gM, gB, gT, gG, gN, gK, gD) κ)) H := hP
        have hD : va_D A ((am, .inl (cI, 22, .inl (fun i => jI (fm i)))) :: (ae, .inl (cI, 45, .inl (fun i => jI ((va_up (va_up (va_up (va_up (va_up (va_up (va_up (va_up (va_up fe (15 * es + 0) (zv (gE (7 * mo + 0)))) (15 * es + 1) (zv (gE (7 * mo + 1)))) (15 * es + 2) (zv (gE (7 * mo + 2)))) (15 * es + 3) (zv (gE (7 * mo + 3)))) (15 * es + 4) (zv (gE (7 * mo + 4)))) (15 * es + 5) (zv (gE (7 * mo + 5)))) (15 * es + 6) (zv (gE (7 * mo + 6)))) (15 * es + 7) (zv zx)) (15 * es + 8) (zv zt)) i)))) :: (ag, .inl (cI, 2, .inl (fun i => jI ((fg i : Nat) : Int)))) :: (CW cI cE cG cM cS x0 q0 q1 qr (ms, es, gE, gM, gB, gT, gG, gN, gK, gD) κ)) := hD
        refine lv_aload_n hx hb dL_isTold_406 rfl (lv_at hl 10 rfl) ?_
        refine lv_iload hx hb dL_isTold_407 (lv_at hl 1 rfl) ?_
        refine n_bipush hx hb dL_isTold_409 (by decide) ?_
        refine n_iadd hx hb dL_isTold_411 ?_
        refine lv_iload hx hb dL_isTold_412 (lv_at hl 5 rfl) ?_
        refine n_iast (i := (15 * es + 9)) hx hb hK hP hD hS 1 0 rfl htI (by omega) (by omega) (Nat.le_of_ble_eq_true rfl) dL_isTold_414 (fun H locs hP hD hS => ?_)
        have hP : va_P D vwCl ((am, .inl (cI, 22, .inl (fun i => jI (fm i)))) :: (ae, .inl (cI, 45, .inl (fun i => jI ((va_up (va_up (va_up (va_up (va_up (va_up (va_up (va_up (va_up (va_up fe (15 * es + 0) (zv (gE (7 * mo + 0)))) (15 * es + 1) (zv (gE (7 * mo + 1)))) (15 * es + 2) (zv (gE (7 * mo + 2)))) (15 * es + 3) (zv (gE (7 * mo + 3)))) (15 * es + 4) (zv (gE (7 * mo + 4)))) (15 * es + 5) (zv (gE (7 * mo + 5)))) (15 * es + 6) (zv (gE (7 * mo + 6)))) (15 * es + 7) (zv zx)) (15 * es + 8) (zv zt)) (15 * es + 9) (zv zp)) i)))) :: (ag, .inl (cI, 2, .inl (fun i => jI ((fg i : Nat) : Int)))) :: (CW cI cE cG cM cS x0 q0 q1 qr (ms, es, gE, gM, gB, gT, gG, gN, gK, gD) κ)) H := hP
        have hD : va_D A ((am, .inl (cI, 22, .inl (fun i => jI (fm i)))) :: (ae, .inl (cI, 45, .inl (fun i => jI ((va_up (va_up (va_up (va_up (va_up (va_up (va_up (va_up (va_up (va_up fe (15 * es + 0) (zv (gE (7 * mo + 0)))) (15 * es + 1) (zv (gE (7 * mo + 1)))) (15 * es + 2) (zv (gE (7 * mo + 2)))) (15 * es + 3) (zv (gE (7 * mo + 3)))) (15 * es + 4) (zv (gE (7 * mo + 4)))) (15 * es + 5) (zv (gE (7 * mo + 5)))) (15 * es + 6) (zv (gE (7 * mo + 6)))) (15 * es + 7) (zv zx)) (15 * es + 8) (zv zt)) (15 * es + 9) (zv zp)) i)))) :: (ag, .inl (cI, 2, .inl (fun i => jI ((fg i : Nat) : Int)))) :: (CW cI cE cG cM cS x0 q0 q1 qr (ms, es, gE, gM, gB, gT, gG, gN, gK, gD) κ)) := hD
        refine lv_aload_n hx hb dL_isTold_415 rfl (lv_at hl 10 rfl) ?_
        refine lv_iload hx hb dL_isTold_416 (lv_at hl 1 rfl) ?_
        refine n_bipush hx hb dL_isTold_418 (by decide) ?_
        refine n_iadd hx hb dL_isTold_420 ?_
        refine lv_iload hx hb dL_isTold_421 (lv_at hl 4 rfl) ?_
        refine n_iast (i := (15 * es + 10)) hx hb hK hP hD hS 1 0 rfl htI (by omega) (by omega) (Nat.le_of_ble_eq_true rfl) dL_isTold_423 (fun H locs hP hD hS => ?_)
        have hP : va_P D vwCl ((am, .inl (cI, 22, .inl (fun i => jI (fm i)))) :: (ae, .inl (cI, 45, .inl (fun i => jI ((va_up (va_up (va_up (va_up (va_up (va_up (va_up (va_up (va_up (va_up (va_up fe (15 * es + 0) (zv (gE (7 * mo + 0)))) (15 * es + 1) (zv (gE (7 * mo + 1)))) (15 * es + 2) (zv (gE (7 * mo + 2)))) (15 * es + 3) (zv (gE (7 * mo + 3)))) (15 * es + 4) (zv (gE (7 * mo + 4)))) (15 * es + 5) (zv (gE (7 * mo + 5)))) (15 * es + 6) (zv (gE (7 * mo + 6)))) (15 * es + 7) (zv zx)) (15 * es + 8) (zv zt)) (15 * es + 9) (zv zp)) (15 * es + 10) (zv zq)) i)))) :: (ag, .inl (cI, 2, .inl (fun i => jI ((fg i : Nat) : Int)))) :: (CW cI cE cG cM cS x0 q0 q1 qr (ms, es, gE, gM, gB, gT, gG, gN, gK, gD) κ)) H := hP
        have hD : va_D A ((am, .inl (cI, 22, .inl (fun i => jI (fm i)))) :: (ae, .inl (cI, 45, .inl (fun i => jI ((va_up (va_up (va_up (va_up (va_up (va_up (va_up (va_up (va_up (va_up (va_up fe (15 * es + 0) (zv (gE (7 * mo + 0)))) (15 * es + 1) (zv (gE (7 * mo + 1)))) (15 * es + 2) (zv (gE (7 * mo + 2)))) (15 * es + 3) (zv (gE (7 * mo + 3)))) (15 * es + 4) (zv (gE (7 * mo + 4)))) (15 * es + 5) (zv (gE (7 * mo + 5)))) (15 * es + 6) (zv (gE (7 * mo + 6)))) (15 * es + 7) (zv zx)) (15 * es + 8) (zv zt)) (15 * es + 9) (zv zp)) (15 * es + 10) (zv zq)) i)))) :: (ag, .inl (cI, 2, .inl (fun i => jI ((fg i : Nat) : Int)))) :: (CW cI cE cG cM cS x0 q0 q1 qr (ms, es, gE, gM, gB, gT, gG, gN, gK, gD) κ)) := hD
        refine lv_aload_n hx hb dL_isTold_424 rfl (lv_at hl 10 rfl) ?_
        refine lv_iload hx hb dL_isTold_425 (lv_at hl 1 rfl) ?_
        refine n_bipush hx hb dL_isTold_427 (by decide) ?_
        refine n_iadd hx hb dL_isTold_429 ?_
        refine lv_iload hx hb dL_isTold_430 (lv_at hl 3 rfl) ?_
        refine n_iast (i := (15 * es + 11)) hx hb hK hP hD hS 1 0 rfl htI (by omega) (by omega) (Nat.le_of_ble_eq_true rfl) dL_isTold_432 (fun H locs hP hD hS => ?_)
        have hP : va_P D vwCl ((am, .inl (cI, 22, .inl (fun i => jI (fm i)))) :: (ae, .inl (cI, 45, .inl (fun i => jI ((va_up (va_up (va_up (va_up (va_up (va_up (va_up (va_up (va_up (va_up (va_up (va_up fe (15 * es + 0) (zv (gE (7 * mo + 0)))) (15 * es + 1) (zv (gE (7 * mo + 1)))) (15 * es + 2) (zv (gE (7 * mo + 2)))) (15 * es + 3) (zv (gE (7 * mo + 3)))) (15 * es + 4) (zv (gE (7 * mo + 4)))) (15 * es + 5) (zv (gE (7 * mo + 5)))) (15 * es + 6) (zv (gE (7 * mo + 6)))) (15 * es + 7) (zv zx)) (15 * es + 8) (zv zt)) (15 * es + 9) (zv zp)) (15 * es + 10) (zv zq)) (15 * es + 11) (zv zl)) i)))) :: (ag, .inl (cI, 2, .inl (fun i => jI ((fg i : Nat) : Int)))) :: (CW cI cE cG cM cS x0 q0 q1 qr (ms, es, gE, gM, gB, gT, gG, gN, gK, gD) κ)) H := hP
        have hD : va_D A ((am, .inl (cI, 22, .inl (fun i => jI (fm i)))) :: (ae, .inl (cI, 45, .inl (fun i => jI ((va_up (va_up (va_up (va_up (va_up (va_up (va_up (va_up (va_up (va_up (va_up (va_up fe (15 * es + 0) (zv (gE (7 * mo + 0)))) (15 * es + 1) (zv (gE (7 * mo + 1)))) (15 * es + 2) (zv (gE (7 * mo + 2)))) (15 * es + 3) (zv (gE (7 * mo + 3)))) (15 * es + 4) (zv (gE (7 * mo + 4)))) (15 * es + 5) (zv (gE (7 * mo + 5)))) (15 * es + 6) (zv (gE (7 * mo + 6)))) (15 * es + 7) (zv zx)) (15 * es + 8) (zv zt)) (15 * es + 9) (zv zp)) (15 * es + 10) (zv zq)) (15 * es + 11) (zv zl)) i)))) :: (ag, .inl (cI, 2, .inl (fun i => jI ((fg i : Nat) : Int)))) :: (CW cI cE cG cM cS x0 q0 q1 qr (ms, es, gE, gM, gB, gT, gG, gN, gK, gD) κ)) := hD
        refine lv_aload_n hx hb dL_isTold_433 rfl (lv_at hl 10 rfl) ?_
        refine lv_iload hx hb dL_isTold_434 (lv_at hl 1 rfl) ?_
        refine n_bipush hx hb dL_isTold_436 (by decide) ?_
        refine n_iadd hx hb dL_isTold_438 ?_
        refine n_sipush hx hb dL_isTold_439 (by decide) ?_
        refine n_iast (i := (15 * es + 13)) hx hb hK hP hD hS 1 0 rfl htI (by omega) (by omega) (Nat.le_of_ble_eq_true rfl) dL_isTold_442 (fun H locs hP hD hS => ?_)
        have hP : va_P D vwCl ((am, .inl (cI, 22, .inl (fun i => jI (fm i)))) :: (ae, .inl (cI, 45, .inl (fun i => jI ((va_up (va_up (va_up (va_up (va_up (va_up (va_up (va_up (va_up (va_up (va_up (va_up (va_up fe (15 * es + 0) (zv (gE (7 * mo + 0)))) (15 * es + 1) (zv (gE (7 * mo + 1)))) (15 * es + 2) (zv (gE (7 * mo + 2)))) (15 * es + 3) (zv (gE (7 * mo + 3)))) (15 * es + 4) (zv (gE (7 * mo + 4)))) (15 * es + 5) (zv (gE (7 * mo + 5)))) (15 * es + 6) (zv (gE (7 * mo + 6)))) (15 * es + 7) (zv zx)) (15 * es + 8) (zv zt)) (15 * es + 9) (zv zp)) (15 * es + 10) (zv zq)) (15 * es + 11) (zv zl)) (15 * es + 13) 10006) i)))) :: (ag, .inl (cI, 2, .inl (fun i => jI ((fg i : Nat) : Int)))) :: (CW cI cE cG cM cS x0 q0 q1 qr (ms, es, gE, gM, gB, gT, gG, gN, gK, gD) κ)) H := hP
        have hD : va_D A ((am, .inl (cI, 22, .inl (fun i => jI (fm i)))) :: (ae, .inl (cI, 45, .inl (fun i => jI ((va_up (va_up (va_up (va_up (va_up (va_up (va_up (va_up (va_up (va_up (va_up (va_up (va_up fe (15 * es + 0) (zv (gE (7 * mo + 0)))) (15 * es + 1) (zv (gE (7 * mo + 1)))) (15 * es + 2) (zv (gE (7 * mo + 2)))) (15 * es + 3) (zv (gE (7 * mo + 3)))) (15 * es + 4) (zv (gE (7 * mo + 4)))) (15 * es + 5) (zv (gE (7 * mo + 5)))) (15 * es + 6) (zv (gE (7 * mo + 6)))) (15 * es + 7) (zv zx)) (15 * es + 8) (zv zt)) (15 * es + 9) (zv zp)) (15 * es + 10) (zv zq)) (15 * es + 11) (zv zl)) (15 * es + 13) 10006) i)))) :: (ag, .inl (cI, 2, .inl (fun i => jI ((fg i : Nat) : Int)))) :: (CW cI cE cG cM cS x0 q0 q1 qr (ms, es, gE, gM, gB, gT, gG, gN, gK, gD) κ)) := hD
        refine lv_aload_n hx hb dL_isTold_443 rfl (lv_at hl 11 rfl) ?_
        refine n_iconst hx hb dL_isTold_444 ?_
        refine lv_dup2_11 hx hb dL_isTold_445 rfl rfl ?_
        refine n_nalv (i := 1) (v := ((es : Nat) : Int)) hx hb hK hP 2 0 rfl htI rfl (Nat.le_of_ble_eq_true rfl) (Nat.le_of_ble_eq_true rfl) (congrArg (fun z : Nat => (z : Int)) hg1) dL_isTold_446 ?_
        refine n_iconst hx hb dL_isTold_447 ?_
        refine n_iadd hx hb dL_isTold_448 ?_
        refine n_nast (i := 1) (v := (es + 1)) hx hb hK hP hD hS 2 0 rfl htI (by omega) rfl (Nat.le_of_ble_eq_true rfl) (Nat.le_of_ble_eq_true rfl) dL_isTold_449 (fun H locs hP hD hS => ?_)
        have hP : va_P D vwCl ((am, .inl (cI, 22, .inl (fun i => jI (fm i)))) :: (ae, .inl (cI, 45, .inl (fun i => jI ((va_up (va_up (va_up (va_up (va_up (va_up (va_up (va_up (va_up (va_up (va_up (va_up (va_up fe (15 * es + 0) (zv (gE (7 * mo + 0)))) (15 * es + 1) (zv (gE (7 * mo + 1)))) (15 * es + 2) (zv (gE (7 * mo + 2)))) (15 * es + 3) (zv (gE (7 * mo + 3)))) (15 * es + 4) (zv (gE (7 * mo + 4)))) (15 * es + 5) (zv (gE (7 * mo + 5)))) (15 * es + 6) (zv (gE (7 * mo + 6)))) (15 * es + 7) (zv zx)) (15 * es + 8) (zv zt)) (15 * es + 9) (zv zp)) (15 * es + 10) (zv zq)) (15 * es + 11) (zv zl)) (15 * es + 13) 10006) i)))) :: (ag, .inl (cI, 2, .inl (fun i => jI (((va_up fg 1 (es + 1)) i : Nat) : Int)))) :: (CW cI cE cG cM cS x0 q0 q1 qr (ms, es, gE, gM, gB, gT, gG, gN, gK, gD) κ)) H := hP
        have hD : va_D A ((am, .inl (cI, 22, .inl (fun i => jI (fm i)))) :: (ae, .inl (cI, 45, .inl (fun i => jI ((va_up (va_up (va_up (va_up (va_up (va_up (va_up (va_up (va_up (va_up (va_up (va_up (va_up fe (15 * es + 0) (zv (gE (7 * mo + 0)))) (15 * es + 1) (zv (gE (7 * mo + 1)))) (15 * es + 2) (zv (gE (7 * mo + 2)))) (15 * es + 3) (zv (gE (7 * mo + 3)))) (15 * es + 4) (zv (gE (7 * mo + 4)))) (15 * es + 5) (zv (gE (7 * mo + 5)))) (15 * es + 6) (zv (gE (7 * mo + 6)))) (15 * es + 7) (zv zx)) (15 * es + 8) (zv zt)) (15 * es + 9) (zv zp)) (15 * es + 10) (zv zq)) (15 * es + 11) (zv zl)) (15 * es + 13) 10006) i)))) :: (ag, .inl (cI, 2, .inl (fun i => jI (((va_up fg 1 (es + 1)) i : Nat) : Int)))) :: (CW cI cE cG cM cS x0 q0 q1 qr (ms, es, gE, gM, gB, gT, gG, gN, gK, gD) κ)) := hD
        refine lv_aload_n hx hb dL_isTold_450 rfl (lv_at hl 8 rfl) ?_
        refine n_iconst hx hb dL_isTold_451 ?_
        refine lv_iload hx hb dL_isTold_452 (lv_at hl 7 rfl) ?_
        refine lv_iload hx hb dL_isTold_454 (lv_at hl 6 rfl) ?_
        refine lv_iload hx hb dL_isTold_456 (lv_at hl 14 rfl) ?_
        refine n_sipush hx hb dL_isTold_458 (by decide) ?_
        refine n_iremv (v := (zv zt)) hx hb dL_isTold_461 (by omega) (by omega) (by omega) (by omega) (by omega) ?_
        refine lv_iload hx hb dL_isTold_462 (lv_at hl 5 rfl) ?_
        refine lv_iload hx hb dL_isTold_464 (lv_at hl 4 rfl) ?_
        refine lv_iload hx hb dL_isTold_466 (lv_at hl 3 rfl) ?_
        have hC := d_begin0 l hl9 D tys htI htE htM htS htG x0 q0 q1 qr ms es gE gM gB gT gG gN gK gD κ hI mo zx zt zp zq zl hmo (by omega)
        have hW := w_does_begin l D tys x0 q0 q1 qr ms es gE gM gB gT gG gN gK gD κ (jI ((mo : Nat) : Int)) (vI zx) (vI zt) (vI zp) (vI zq) (vI zl) (ms, es + 1, gE, put7 gM (7 * es) (fun i => gE (7 * mo + i)), putB gB (5 * es) zx zt zp zq zl, gT, va_up gG es 10006, gN, gK, gD) 0 _ hC
        have hP : va_P D vwCl ((CW cI cE cG cM cS x0 q0 q1 qr (ms, es, gE, gM, gB, gT, gG, gN, gK, gD) κ) ++ [(am, .inl (cI, 22, .inl (fun i => jI (fm i)))), (ae, .inl (cI, 45, .inl (fun i => jI ((va_up (va_up (va_up (va_up (va_up (va_up (va_up (va_up (va_up (va_up (va_up (va_up (va_up fe (15 * es + 0) (zv (gE (7 * mo + 0)))) (15 * es + 1) (zv (gE (7 * mo + 1)))) (15 * es + 2) (zv (gE (7 * mo + 2)))) (15 * es + 3) (zv (gE (7 * mo + 3)))) (15 * es + 4) (zv (gE (7 * mo + 4)))) (15 * es + 5) (zv (gE (7 * mo + 5)))) (15 * es + 6) (zv (gE (7 * mo + 6)))) (15 * es + 7) (zv zx)) (15 * es + 8) (zv zt)) (15 * es + 9) (zv zp)) (15 * es + 10) (zv zq)) (15 * es + 11) (zv zl)) (15 * es + 13) 10006) i)))), (ag, .inl (cI, 2, .inl (fun i => jI (((va_up fg 1 (es + 1)) i : Nat) : Int))))]) H := hP.perm (List.perm_append_comm (l₁ := ([(am, .inl (cI, 22, .inl (fun i => jI (fm i)))), (ae, .inl (cI, 45, .inl (fun i => jI ((va_up (va_up (va_up (va_up (va_up (va_up (va_up (va_up (va_up (va_up (va_up (va_up (va_up fe (15 * es + 0) (zv (gE (7 * mo + 0)))) (15 * es + 1) (zv (gE (7 * mo + 1)))) (15 * es + 2) (zv (gE (7 * mo + 2)))) (15 * es + 3) (zv (gE (7 * mo + 3)))) (15 * es + 4) (zv (gE (7 * mo + 4)))) (15 * es + 5) (zv (gE (7 * mo + 5)))) (15 * es + 6) (zv (gE (7 * mo + 6)))) (15 * es + 7) (zv zx)) (15 * es + 8) (zv zt)) (15 * es + 9) (zv zp)) (15 * es + 10) (zv zq)) (15 * es + 11) (zv zl)) (15 * es + 13) 10006) i)))), (ag, .inl (cI, 2, .inl (fun i => jI (((va_up fg 1 (es + 1)) i : Nat) : Int))))] : va_W)) (l₂ := (CW cI cE cG cM cS x0 q0 q1 qr (ms, es, gE, gM, gB, gT, gG, gN, gK, gD) κ)))
        have hD : va_D A ((CW cI cE cG cM cS x0 q0 q1 qr (ms, es, gE, gM, gB, gT, gG, gN, gK, gD) κ) ++ [(am, .inl (cI, 22, .inl (fun i => jI (fm i)))), (ae, .inl (cI, 45, .inl (fun i => jI ((va_up (va_up (va_up (va_up (va_up (va_up (va_up (va_up (va_up (va_up (va_up (va_up (va_up fe (15 * es + 0) (zv (gE (7 * mo + 0)))) (15 * es + 1) (zv (gE (7 * mo + 1)))) (15 * es + 2) (zv (gE (7 * mo + 2)))) (15 * es + 3) (zv (gE (7 * mo + 3)))) (15 * es + 4) (zv (gE (7 * mo + 4)))) (15 * es + 5) (zv (gE (7 * mo + 5)))) (15 * es + 6) (zv (gE (7 * mo + 6)))) (15 * es + 7) (zv zx)) (15 * es + 8) (zv zt)) (15 * es + 9) (zv zp)) (15 * es + 10) (zv zq)) (15 * es + 11) (zv zl)) (15 * es + 13) 10006) i)))), (ag, .inl (cI, 2, .inl (fun i => jI (((va_up fg 1 (es + 1)) i : Nat) : Int))))]) := hD.perm (List.perm_append_comm (l₁ := ([(am, .inl (cI, 22, .inl (fun i => jI (fm i)))), (ae, .inl (cI, 45, .inl (fun i => jI ((va_up (va_up (va_up (va_up (va_up (va_up (va_up (va_up (va_up (va_up (va_up (va_up (va_up fe (15 * es + 0) (zv (gE (7 * mo + 0)))) (15 * es + 1) (zv (gE (7 * mo + 1)))) (15 * es + 2) (zv (gE (7 * mo + 2)))) (15 * es + 3) (zv (gE (7 * mo + 3)))) (15 * es + 4) (zv (gE (7 * mo + 4)))) (15 * es + 5) (zv (gE (7 * mo + 5)))) (15 * es + 6) (zv (gE (7 * mo + 6)))) (15 * es + 7) (zv zx)) (15 * es + 8) (zv zt)) (15 * es + 9) (zv zp)) (15 * es + 10) (zv zq)) (15 * es + 11) (zv zl)) (15 * es + 13) 10006) i)))), (ag, .inl (cI, 2, .inl (fun i => jI (((va_up fg 1 (es + 1)) i : Nat) : Int))))] : va_W)) (l₂ := (CW cI cE cG cM cS x0 q0 q1 qr (ms, es, gE, gM, gB, gT, gG, gN, gK, gD) κ)))
        refine a_goNI (vx_runSW (As := [.ref x0, .int (jI 2), .int (jI ((mo : Nat) : Int)), .int (vI zx), .int (vI zt), .int (vI zp), .int (vI zq), .int (vI zl)]) (rest := []) ⟨hx, hb, hml, hown, hts⟩ (hW _) (vx_cwSW 8 hts gL_isTold_L_does rfl rfl rfl (by decide +kernel) ⟨(Nat.le_of_ble_eq_true rfl), (Nat.le_of_ble_eq_true rfl)⟩) (c_pre hK hXK hZ hN hP hD hS hA) rfl rfl hl.1 rfl (lv_room (Nat.le_of_ble_eq_true rfl)) dL_isTold_468 ⟨(Nat.le_of_ble_eq_true rfl), (Nat.le_of_ble_eq_true rfl)⟩) hP hD hS hA (fun r κ2 H locs hpost hP hD hS => ?_)
        obtain ⟨hr9, hI2⟩ := hpost
        have hr9 : r = jI ((es : Nat) : Int) := hr9
        subst hr9
        have hP : va_P D vwCl ((CW cI cE cG cM cS x0 q0 q1 qr (ms, es + 1, gE, put7 gM (7 * es) (fun i => gE (7 * mo + i)), putB gB (5 * es) zx zt zp zq zl, gT, va_up gG es 10006, gN, gK, gD) κ2) ++ [(am, .inl (cI, 22, .inl (fun i => jI (fm i)))), (ae, .inl (cI, 45, .inl (fun i => jI ((va_up (va_up (va_up (va_up (va_up (va_up (va_up (va_up (va_up (va_up (va_up (va_up (va_up fe (15 * es + 0) (zv (gE (7 * mo + 0)))) (15 * es + 1) (zv (gE (7 * mo + 1)))) (15 * es + 2) (zv (gE (7 * mo + 2)))) (15 * es + 3) (zv (gE (7 * mo + 3)))) (15 * es + 4) (zv (gE (7 * mo + 4)))) (15 * es + 5) (zv (gE (7 * mo + 5)))) (15 * es + 6) (zv (gE (7 * mo + 6)))) (15 * es + 7) (zv zx)) (15 * es + 8) (zv zt)) (15 * es + 9) (zv zp)) (15 * es + 10) (zv zq)) (15 * es + 11) (zv zl)) (15 * es + 13) 10006) i)))), (ag, .inl (cI, 2, .inl (fun i => jI (((va_up fg 1 (es + 1)) i : Nat) : Int))))]) H := hP
        have hD : va_D A ((CW cI cE cG cM cS x0 q0 q1 qr (ms, es + 1, gE, put7 gM (7 * es) (fun i => gE (7 * mo + i)), putB gB (5 * es) zx zt zp zq zl, gT, va_up gG es 10006, gN, gK, gD) κ2) ++ [(am, .inl (cI, 22, .inl (fun i => jI (fm i)))), (ae, .inl (cI, 45, .inl (fun i => jI ((va_up (va_up (va_up (va_up (va_up (va_up (va_up (va_up (va_up (va_up (va_up (va_up (va_up fe (15 * es + 0) (zv (gE (7 * mo + 0)))) (15 * es + 1) (zv (gE (7 * mo + 1)))) (15 * es + 2) (zv (gE (7 * mo + 2)))) (15 * es + 3) (zv (gE (7 * mo + 3)))) (15 * es + 4) (zv (gE (7 * mo + 4)))) (15 * es + 5) (zv (gE (7 * mo + 5)))) (15 * es + 6) (zv (gE (7 * mo + 6)))) (15 * es + 7) (zv zx)) (15 * es + 8) (zv zt)) (15 * es + 9) (zv zp)) (15 * es + 10) (zv zq)) (15 * es + 11) (zv zl)) (15 * es + 13) 10006) i)))), (ag, .inl (cI, 2, .inl (fun i => jI (((va_up fg 1 (es + 1)) i : Nat) : Int))))]) := hD
        have hP : va_P D vwCl ((am, .inl (cI, 22, .inl (fun i => jI (fm i)))) :: (ae, .inl (cI, 45, .inl (fun i => jI ((va_up (va_up (va_up (va_up (va_up (va_up (va_up (va_up (va_up (va_up (va_up (va_up (va_up fe (15 * es + 0) (zv (gE (7 * mo + 0)))) (15 * es + 1) (zv (gE (7 * mo + 1)))) (15 * es + 2) (zv (gE (7 * mo + 2)))) (15 * es + 3) (zv (gE (7 * mo + 3)))) (15 * es + 4) (zv (gE (7 * mo + 4)))) (15 * es + 5) (zv (gE (7 * mo + 5)))) (15 * es + 6) (zv (gE (7 * mo + 6)))) (15 * es + 7) (zv zx)) (15 * es + 8) (zv zt)) (15 * es + 9) (zv zp)) (15 * es + 10) (zv zq)) (15 * es + 11) (zv zl)) (15 * es + 13) 10006) i)))) :: (ag, .inl (cI, 2, .inl (fun i => jI (((va_up fg 1 (es + 1)) i : Nat) : Int)))) :: (CW cI cE cG cM cS x0 q0 q1 qr (ms, es + 1, gE, put7 gM (7 * es) (fun i => gE (7 * mo + i)), putB gB (5 * es) zx zt zp zq zl, gT, va_up gG es 10006, gN, gK, gD) κ2)) H := hP.perm (List.perm_append_comm (l₁ := (CW cI cE cG cM cS x0 q0 q1 qr (ms, es + 1, gE, put7 gM (7 * es) (fun i => gE (7 * mo + i)), putB gB (5 * es) zx zt zp zq zl, gT, va_up gG es 10006, gN, gK, gD) κ2)) (l₂ := ([(am, .inl (cI, 22, .inl (fun i => jI (fm i)))), (ae, .inl (cI, 45, .inl (fun i => jI ((va_up (va_up (va_up (va_up (va_up (va_up (va_up (va_up (va_up (va_up (va_up (va_up (va_up fe (15 * es + 0) (zv (gE (7 * mo + 0)))) (15 * es + 1) (zv (gE (7 * mo + 1)))) (15 * es + 2) (zv (gE (7 * mo + 2)))) (15 * es + 3) (zv (gE (7 * mo + 3)))) (15 * es + 4) (zv (gE (7 * mo + 4)))) (15 * es + 5) (zv (gE (7 * mo + 5)))) (15 * es + 6) (zv (gE (7 * mo + 6)))) (15 * es + 7) (zv zx)) (15 * es + 8) (zv zt)) (15 * es + 9) (zv zp)) (15 * es + 10) (zv zq)) (15 * es + 11) (zv zl)) (15 * es + 13) 10006) i)))), (ag, .inl (cI, 2, .inl (fun i => jI (((va_up fg 1 (es + 1)) i : Nat) : Int))))] : va_W)))
        have hD : va_D A ((am, .inl (cI, 22, .inl (fun i => jI (fm i)))) :: (ae, .inl (cI, 45, .inl (fun i => jI ((va_up (va_up (va_up (va_up (va_up (va_up (va_up (va_up (va_up (va_up (va_up (va_up (va_up fe (15 * es + 0) (zv (gE (7 * mo + 0)))) (15 * es + 1) (zv (gE (7 * mo + 1)))) (15 * es + 2) (zv (gE (7 * mo + 2)))) (15 * es + 3) (zv (gE (7 * mo + 3)))) (15 * es + 4) (zv (gE (7 * mo + 4)))) (15 * es + 5) (zv (gE (7 * mo + 5)))) (15 * es + 6) (zv (gE (7 * mo + 6)))) (15 * es + 7) (zv zx)) (15 * es + 8) (zv zt)) (15 * es + 9) (zv zp)) (15 * es + 10) (zv zq)) (15 * es + 11) (zv zl)) (15 * es + 13) 10006) i)))) :: (ag, .inl (cI, 2, .inl (fun i => jI (((va_up fg 1 (es + 1)) i : Nat) : Int)))) :: (CW cI cE cG cM cS x0 q0 q1 qr (ms, es + 1, gE, put7 gM (7 * es) (fun i => gE (7 * mo + i)), putB gB (5 * es) zx zt zp zq zl, gT, va_up gG es 10006, gN, gK, gD) κ2)) := hD.perm (List.perm_append_comm (l₁ := (CW cI cE cG cM cS x0 q0 q1 qr (ms, es + 1, gE, put7 gM (7 * es) (fun i => gE (7 * mo + i)), putB gB (5 * es) zx zt zp zq zl, gT, va_up gG es 10006, gN, gK, gD) κ2)) (l₂ := ([(am, .inl (cI, 22, .inl (fun i => jI (fm i)))), (ae, .inl (cI, 45, .inl (fun i => jI ((va_up (va_up (va_up (va_up (va_up (va_up (va_up (va_up (va_up (va_up (va_up (va_up (va_up fe (15 * es + 0) (zv (gE (7 * mo + 0)))) (15 * es + 1) (zv (gE (7 * mo + 1)))) (15 * es + 2) (zv (gE (7 * mo + 2)))) (15 * es + 3) (zv (gE (7 * mo + 3)))) (15 * es + 4) (zv (gE (7 * mo + 4)))) (15 * es + 5) (zv (gE (7 * mo + 5)))) (15 * es + 6) (zv (gE (7 * mo + 6)))) (15 * es + 7) (zv zx)) (15 * es + 8) (zv zt)) (15 * es + 9) (zv zp)) (15 * es + 10) (zv zq)) (15 * es + 11) (zv zl)) (15 * es + 13) 10006) i)))), (ag, .inl (cI, 2, .inl (fun i => jI (((va_up fg 1 (es + 1)) i : Nat) : Int))))] : va_W)))
        refine lv_iload hx hb dL_isTold_471 (lv_at hl 2 rfl) ?_
        refine n_if_ne (tgt := 481) hx hb (by unfold r32; decide) dL_isTold_473 (by decide) (fun h473 => ?_) (fun h473 => False.elim (by revert h473; decide))
        refine lv_iload hx hb dL_isTold_481 (lv_at hl 5 rfl) ?_
        refine n_sipush hx hb dL_isTold_483 (by decide) ?_
        refine n_icmp_ge (tgt := 497) hx hb (r32_z _) (by unfold r32; omega) dL_isTold_486 (by decide) (fun h486 => False.elim (by omega)) (fun h486 => ?_)
        refine lv_aload_n hx hb dL_isTold_489 rfl (lv_at hl 11 rfl) ?_
        refine n_iconst hx hb dL_isTold_490 ?_
        refine n_nalv (i := 1) (v := (((es + 1) : Nat) : Int)) hx hb hK hP 2 0 rfl htI rfl (Nat.le_of_ble_eq_true rfl) (Nat.le_of_ble_eq_true rfl) (congrArg (fun z : Nat => (z : Int)) (up_s _ _ _)) dL_isTold_491 ?_
        refine n_iconst hx hb dL_isTold_492 ?_
        refine n_isub hx hb dL_isTold_493 ?_
        refine lv_goto (tgt := 499) hx hb dL_isTold_494 (by decide) ?_
        refine n_icmp_ne (tgt := 506) hx hb (by unfold r32; omega) (by unfold r32; omega) dL_isTold_499 (by decide) (fun h499 => False.elim (h499 (by omega))) (fun h499 => ?_)
        refine n_iconst hx hb dL_isTold_502 ?_
        refine lv_goto (tgt := 507) hx hb dL_isTold_503 (by decide) ?_
        refine W.widen (k := 228) (n := 867) (Nat.le_of_ble_eq_true rfl) (Nat.le_of_ble_eq_true rfl) ?_
        exact y_zret (b := true) ((ms, es + 1, gE, put7 gM (7 * es) (fun i => gE (7 * mo + i)), putB gB (5 * es) zx zt zp zq zl, gT, va_up gG es 10006, gN, gK, gD), κ2, fm, va_up (va_up (va_up (va_up (va_up (va_up (va_up (va_up (va_up (va_up (va_up (va_up (va_up fe (15 * es + 0) (zv (gE (7 * mo + 0)))) (15 * es + 1) (zv (gE (7 * mo + 1)))) (15 * es + 2) (zv (gE (7 * mo + 2)))) (15 * es + 3) (zv (gE (7 * mo + 3)))) (15 * es + 4) (zv (gE (7 * mo + 4)))) (15 * es + 5) (zv (gE (7 * mo + 5)))) (15 * es + 6) (zv (gE (7 * mo + 6)))) (15 * es + 7) (zv zx)) (15 * es + 8) (zv zt)) (15 * es + 9) (zv zp)) (15 * es + 10) (zv zq)) (15 * es + 11) (zv zl)) (15 * es + 13) 10006, va_up fg 1 (es + 1)) hx hb hr hlocks dL_isTold_507 hP hD hS rfl ⟨rfl, hI2, (hL.begin hN0 (by omega) mo zx zt zp zq zl).up⟩
      · refine n_icmp_ge (tgt := 327) hx hb (by unfold r32; omega) (by unfold r32; omega) dL_isTold_320 (by decide) (fun h320 => ?_) (fun h320 => False.elim (by omega))
        refine n_iconst hx hb dL_isTold_327 ?_
        refine lv_istore (lv' := [(12, .int (jI 0)), (11, .int (vI zl)), (10, .int (vI zq)), (9, .int (vI zp)), (8, .int (vI zx)), (7, .int (jI ((mo : Nat) : Int))), (0, .ref x0), (1, .ref am), (2, .ref ae), (3, .ref ag), (4, .int (jI 2)), (5, .int (jI ((one : Nat) : Int))), (6, .int (jI ((two : Nat) : Int)))]) hx hb dL_isTold_328 hl (by decide) rfl (fun ls hl => ?_)
        refine lv_iload hx hb dL_isTold_330 (lv_at hl 0 rfl) ?_
        refine n_if_eq (tgt := 450) hx hb (by unfold r32; decide) dL_isTold_332 (by decide) (fun h332 => ?_) (fun h332 => False.elim (by revert h332; decide))
        refine lv_aload_n hx hb dL_isTold_450 rfl (lv_at hl 6 rfl) ?_
        refine n_iconst hx hb dL_isTold_451 ?_
        refine lv_iload hx hb dL_isTold_452 (lv_at hl 5 rfl) ?_
        refine lv_iload hx hb dL_isTold_454 (lv_at hl 4 rfl) ?_
        refine lv_iload hx hb dL_isTold_456 (lv_at hl 12 rfl) ?_
        refine n_sipush hx hb dL_isTold_458 (by decide) ?_
        refine n_iremv (v := (zv zt)) hx hb dL_isTold_461 (by omega) (by omega) (by omega) (by omega) (by omega) ?_
        refine lv_iload hx hb dL_isTold_462 (lv_at hl 3 rfl) ?_
        refine lv_iload hx hb dL_isTold_464 (lv_at hl 2 rfl) ?_
        refine lv_iload hx hb dL_isTold_466 (lv_at hl 1 rfl) ?_
        have hC := d_begin1 l hl9 D tys htI htE htM htS htG x0 q0 q1 qr ms es gE gM gB gT gG gN gK gD κ hI ((mo : Nat) : Int) (zv zx) (zv zt) (zv zp) (zv zq) (zv zl) (by unfold r32; omega) (r32_z _) (r32_z _) (r32_z _) (r32_z _) (r32_z _) (inB_f (by omega))
        have hW := w_does_begin l D tys x0 q0 q1 qr ms es gE gM gB gT gG gN gK gD κ (jI ((mo : Nat) : Int)) (vI zx) (vI zt) (vI zp) (vI zq) (vI zl) (ms, es, gE, gM, gB, gT, gG, gN, gK, gD) 1 _ hC
        have hP : va_P D vwCl ((CW cI cE cG cM cS x0 q0 q1 qr (ms, es, gE, gM, gB, gT, gG, gN, gK, gD) κ) ++ [(am, .inl (cI, 22, .inl (fun i => jI (fm i)))), (ae, .inl (cI, 45, .inl (fun i => jI (fe i)))), (ag, .inl (cI, 2, .inl (fun i => jI ((fg i : Nat) : Int))))]) s.heap := hP.perm (List.perm_append_comm (l₁ := ([(am, .inl (cI, 22, .inl (fun i => jI (fm i)))), (ae, .inl (cI, 45, .inl (fun i => jI (fe i)))), (ag, .inl (cI, 2, .inl (fun i => jI ((fg i : Nat) : Int))))] : va_W)) (l₂ := (CW cI cE cG cM cS x0 q0 q1 qr (ms, es, gE, gM, gB, gT, gG, gN, gK, gD) κ)))
        have hD : va_D A ((CW cI cE cG cM cS x0 q0 q1 qr (ms, es, gE, gM, gB, gT, gG, gN, gK, gD) κ) ++ [(am, .inl (cI, 22, .inl (fun i => jI (fm i)))), (ae, .inl (cI, 45, .inl (fun i => jI (fe i)))), (ag, .inl (cI, 2, .inl (fun i => jI ((fg i : Nat) : Int))))]) := hD.perm (List.perm_append_comm (l₁ := ([(am, .inl (cI, 22, .inl (fun i => jI (fm i)))), (ae, .inl (cI, 45, .inl (fun i => jI (fe i)))), (ag, .inl (cI, 2, .inl (fun i => jI ((fg i : Nat) : Int))))] : va_W)) (l₂ := (CW cI cE cG cM cS x0 q0 q1 qr (ms, es, gE, gM, gB, gT, gG, gN, gK, gD) κ)))
        refine a_goNI (vx_runSW (As := [.ref x0, .int (jI 2), .int (jI ((mo : Nat) : Int)), .int (vI zx), .int (vI zt), .int (vI zp), .int (vI zq), .int (vI zl)]) (rest := []) ⟨hx, hb, hml, hown, hts⟩ (hW _) (vx_cwSW 8 hts gL_isTold_L_does rfl rfl rfl (by decide +kernel) ⟨(Nat.le_of_ble_eq_true rfl), (Nat.le_of_ble_eq_true rfl)⟩) (c_pre hK hXK hZ hN hP hD hS hA) rfl rfl hl.1 rfl (lv_room (Nat.le_of_ble_eq_true rfl)) dL_isTold_468 ⟨(Nat.le_of_ble_eq_true rfl), (Nat.le_of_ble_eq_true rfl)⟩) hP hD hS hA (fun r κ2 H locs hpost hP hD hS => ?_)
        obtain ⟨hr9, hI2⟩ := hpost
        have hr9 : r = jI (-3) := hr9
        subst hr9
        have hP : va_P D vwCl ((CW cI cE cG cM cS x0 q0 q1 qr (ms, es, gE, gM, gB, gT, gG, gN, gK, gD) κ2) ++ [(am, .inl (cI, 22, .inl (fun i => jI (fm i)))), (ae, .inl (cI, 45, .inl (fun i => jI (fe i)))), (ag, .inl (cI, 2, .inl (fun i => jI ((fg i : Nat) : Int))))]) H := hP
        have hD : va_D A ((CW cI cE cG cM cS x0 q0 q1 qr (ms, es, gE, gM, gB, gT, gG, gN, gK, gD) κ2) ++ [(am, .inl (cI, 22, .inl (fun i => jI (fm i)))), (ae, .inl (cI, 45, .inl (fun i => jI (fe i)))), (ag, .inl (cI, 2, .inl (fun i => jI ((fg i : Nat) : Int))))]) := hD
        have hP : va_P D vwCl ((am, .inl (cI, 22, .inl (fun i => jI (fm i)))) :: (ae, .inl (cI, 45, .inl (fun i => jI (fe i)))) :: (ag, .inl (cI, 2, .inl (fun i => jI ((fg i : Nat) : Int)))) :: (CW cI cE cG cM cS x0 q0 q1 qr (ms, es, gE, gM, gB, gT, gG, gN, gK, gD) κ2)) H := hP.perm (List.perm_append_comm (l₁ := (CW cI cE cG cM cS x0 q0 q1 qr (ms, es, gE, gM, gB, gT, gG, gN, gK, gD) κ2)) (l₂ := ([(am, .inl (cI, 22, .inl (fun i => jI (fm i)))), (ae, .inl (cI, 45, .inl (fun i => jI (fe i)))), (ag, .inl (cI, 2, .inl (fun i => jI ((fg i : Nat) : Int))))] : va_W)))
        have hD : va_D A ((am, .inl (cI, 22, .inl (fun i => jI (fm i)))) :: (ae, .inl (cI, 45, .inl (fun i => jI (fe i)))) :: (ag, .inl (cI, 2, .inl (fun i => jI ((fg i : Nat) : Int)))) :: (CW cI cE cG cM cS x0 q0 q1 qr (ms, es, gE, gM, gB, gT, gG, gN, gK, gD) κ2)) := hD.perm (List.perm_append_comm (l₁ := (CW cI cE cG cM cS x0 q0 q1 qr (ms, es, gE, gM, gB, gT, gG, gN, gK, gD) κ2)) (l₂ := ([(am, .inl (cI, 22, .inl (fun i => jI (fm i)))), (ae, .inl (cI, 45, .inl (fun i => jI (fe i)))), (ag, .inl (cI, 2, .inl (fun i => jI ((fg i : Nat) : Int))))] : va_W)))
        refine lv_iload hx hb dL_isTold_471 (lv_at hl 0 rfl) ?_
        refine n_if_ne (tgt := 481) hx hb (by unfold r32; decide) dL_isTold_473 (by decide) (fun h473 => False.elim (by revert h473; decide)) (fun h473 => ?_)
        refine n_bipush hx hb dL_isTold_476 (by decide) ?_
        refine lv_goto (tgt := 499) hx hb dL_isTold_478 (by decide) ?_
        refine n_icmp_ne (tgt := 506) hx hb (by unfold r32; omega) (by unfold r32; omega) dL_isTold_499 (by decide) (fun h499 => False.elim (h499 rfl)) (fun h499 => ?_)
        refine n_iconst hx hb dL_isTold_502 ?_
        refine lv_goto (tgt := 507) hx hb dL_isTold_503 (by decide) ?_
        refine W.widen (k := 228) (n := 867) (Nat.le_of_ble_eq_true rfl) (Nat.le_of_ble_eq_true rfl) ?_
        exact y_zret (b := true) ((ms, es, gE, gM, gB, gT, gG, gN, gK, gD), κ2, fm, fe, fg) hx hb hr hlocks dL_isTold_507 hP hD hS rfl ⟨rfl, hI2, hL.up⟩
