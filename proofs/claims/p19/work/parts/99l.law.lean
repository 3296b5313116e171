/-! the law: isDone -/
/-- one stack for another -/
theorem n_sub0 (a : Int) : a - 0 = a := by omega

set_option maxHeartbeats 16000000 in
set_option maxRecDepth 100000 in
theorem c_L_isDone0 (l : Launch) (hl9 : l.stackTraces = false) (D : va_G) (tys : List (ClassId × FieldType)) {cI cE cG cM cS : ClassId} (htI : tys[0]? = some (cI, .int)) (htE : tys[3]? = some (cE, .object RX1)) (htM : tys[4]? = some (cM, .object RX2)) (htS : tys[5]? = some (cS, .object RX4)) (htG : tys[6]? = some (cG, .array .int)) (x0 q0 q1 : Nat) (qr : Nat → Nat) (ms es : Nat) (gE gM gB : Nat → Zp) (gT : Nat → Nat) (gG : Nat → Zp) (gN : Nat → Nat) (gK : Nat → Zp) (gD : Nat → Bool) (κ : Nat → EG) (hI : INV (ms, es, gE, gM, gB, gT, gG, gN, gK, gD) κ) {cJ : ClassId} (htJ : tys[1]? = some (cJ, .long)) (ae aq av au aw ay ag : Nat) (fm fe fq fv fu : Nat → Int) (fw fy : Nat → Zp) (fg : Nat → Nat) (c : Nat) (hL : LI (ms, es, gE, gM, gB, gT, gG, gN, gK, gD) fm fe fq fv fu fg c) (hc : c ≤ 60) (one two : Nat) (s1 : one < 60000) (s2 : two < 60000) : CtW (S := SG × (Nat → EG) × (Nat → Int) × (Nat → Int) × (Nat → Int) × (Nat → Int) × (Nat → Zp) × (Nat → Zp)) l D tys yL_isDone wsL_isDone 12 268 228 867 [.ref x0, .ref ae, .ref aq, .ref av, .ref au, .ref aw, .ref ay, .ref ag, .int (jI 0), .int (jI ((one : Nat) : Int)), .int (jI ((two : Nat) : Int))] (fun (r : Int32) (u : SG × (Nat → EG) × (Nat → Int) × (Nat → Int) × (Nat → Int) × (Nat → Int) × (Nat → Zp) × (Nat → Zp)) => r = jI (iB true) ∧ INV u.1 u.2.1 ∧ LI u.1 fm u.2.2.1 u.2.2.2.1 u.2.2.2.2.1 u.2.2.2.2.2.1 fg (c + 1)) ((ae, .inl (cI, 45, .inl (fun i => jI (fe i)))) :: (aq, .inl (cJ, 16, .inr (.inl (fun i => jL (fq i))))) :: (av, .inl (cJ, 16, .inr (.inl (fun i => jL (fv i))))) :: (au, .inl (cJ, 16, .inr (.inl (fun i => jL (fu i))))) :: (aw, .inl (cJ, 60, .inr (.inl (fun i => vL (fw i))))) :: (ay, .inl (cJ, 32, .inr (.inl (fun i => vL (fy i))))) :: (ag, .inl (cI, 2, .inl (fun i => jI ((fg i : Nat) : Int)))) :: (CW cI cE cG cM cS x0 q0 q1 qr (ms, es, gE, gM, gB, gT, gG, gN, gK, gD) κ)) (fun (u : SG × (Nat → EG) × (Nat → Int) × (Nat → Int) × (Nat → Int) × (Nat → Int) × (Nat → Zp) × (Nat → Zp)) => ((ae, .inl (cI, 45, .inl (fun i => jI (u.2.2.1 i)))) :: (aq, .inl (cJ, 16, .inr (.inl (fun i => jL (u.2.2.2.1 i))))) :: (av, .inl (cJ, 16, .inr (.inl (fun i => jL (u.2.2.2.2.1 i))))) :: (au, .inl (cJ, 16, .inr (.inl (fun i => jL (u.2.2.2.2.2.1 i))))) :: (aw, .inl (cJ, 60, .inr (.inl (fun i => vL (u.2.2.2.2.2.2.1 i))))) :: (ay, .inl (cJ, 32, .inr (.inl (fun i => vL (u.2.2.2.2.2.2.2 i))))) :: (ag, .inl (cI, 2, .inl (fun i => jI ((fg i : Nat) : Int)))) :: (CW cI cE cG cM cS x0 q0 q1 qr u.1 u.2.1))) := by
  refine CtW.ofP (cc := cL_isDone) (maxL := 24) (by decide +kernel) rfl (Nat.le_of_ble_eq_true rfl) ?_
  intro p e s m below meth c9 A ls hcx hK hXK hZ hN hP hD hA hl
  obtain ⟨hx, hb, hr, hml, hown, hts, hlocks⟩ := hcx
  have hS : va_S A s.heap s.heap [] := va_S.rf
  have hown : s.vm.findClass RL = some m.cls := hown
  have hl : lv_has ls 24 [(0, .ref x0), (1, .ref ae), (2, .ref aq), (3, .ref av), (4, .ref au), (5, .ref aw), (6, .ref ay), (7, .ref ag), (8, .int (jI 0)), (9, .int (jI ((one : Nat) : Int))), (10, .int (jI ((two : Nat) : Int)))] := hl
  obtain ⟨b3, b2, hg0, hg1, hm, hLe, c0, c1⟩ := id hL
  obtain ⟨zC, ezC⟩ := z_ex (two / 13)
  obtain ⟨zB, ezB⟩ := z_ex2 10006 (by omega)
  have bzC := zv_le zC
  have bzB := zv_le zB
  refine lv_iload hx hb dL_isDone_0 (lv_at hl 9 rfl) ?_
  refine n_bipush hx hb dL_isDone_2 (by decide) ?_
  refine n_iremv (v := (((one % 7) : Nat) : Int)) hx hb dL_isDone_4 (by omega) (by omega) (by omega) (by omega) (by omega) ?_
  refine n_bipush hx hb dL_isDone_5 (by decide) ?_
  have hF : ∀ nn : Nat, es ≤ nn → nn ≤ 2 → ∀ (ls : Array Slot), lv_has ls 24 [(0, .ref x0), (1, .ref ae), (2, .ref aq), (3, .ref av), (4, .ref au), (5, .ref aw), (6, .ref ay), (7, .ref ag), (8, .int (jI 0)), (9, .int (jI ((one : Nat) : Int))), (10, .int (jI ((two : Nat) : Int)))] → W p l e { frames := 12, cells := 228, slots := 867, locals := 268 } s m ([Value.ref x0, .ref ae, .ref aq, .ref av, .ref au, .ref aw, .ref ay, .ref ag, .int (jI 0), .int (jI ((one : Nat) : Int)), .int (jI ((two : Nat) : Int))] : List Value).toArray below meth c9 s.heap [] 0 0 (MQ below (ENI D A (fun (r : Int32) (u : SG × (Nat → EG) × (Nat → Int) × (Nat → Int) × (Nat → Int) × (Nat → Int) × (Nat → Zp) × (Nat → Zp)) => r = jI (iB true) ∧ INV u.1 u.2.1 ∧ LI u.1 fm u.2.2.1 u.2.2.2.1 u.2.2.2.2.1 u.2.2.2.2.2.1 fg (c + 1)) (fun (u : SG × (Nat → EG) × (Nat → Int) × (Nat → Int) × (Nat → Int) × (Nat → Int) × (Nat → Zp) × (Nat → Zp)) => ((ae, .inl (cI, 45, .inl (fun i => jI (u.2.2.1 i)))) :: (aq, .inl (cJ, 16, .inr (.inl (fun i => jL (u.2.2.2.1 i))))) :: (av, .inl (cJ, 16, .inr (.inl (fun i => jL (u.2.2.2.2.1 i))))) :: (au, .inl (cJ, 16, .inr (.inl (fun i => jL (u.2.2.2.2.2.1 i))))) :: (aw, .inl (cJ, 60, .inr (.inl (fun i => vL (u.2.2.2.2.2.2.1 i))))) :: (ay, .inl (cJ, 32, .inr (.inl (fun i => vL (u.2.2.2.2.2.2.2 i))))) :: (ag, .inl (cI, 2, .inl (fun i => jI ((fg i : Nat) : Int)))) :: (CW cI cE cG cM cS x0 q0 q1 qr u.1 u.2.1))) (fun _ => [])) ([Value.ref x0, .ref ae, .ref aq, .ref av, .ref au, .ref aw, .ref ay, .ref ag, .int (jI 0), .int (jI ((one : Nat) : Int)), .int (jI ((two : Nat) : Int))] : List Value).toArray s 228 867 A) (F0 m 35 ls [.int (jI ((nn : Nat) : Int))]) := by
    intro nn hnn hn2 ls hl
    refine lv_istore (lv' := [(11, .int (jI ((nn : Nat) : Int))), (0, .ref x0), (1, .ref ae), (2, .ref aq), (3, .ref av), (4, .ref au), (5, .ref aw), (6, .ref ay), (7, .ref ag), (8, .int (jI 0)), (9, .int (jI ((one : Nat) : Int))), (10, .int (jI ((two : Nat) : Int)))]) hx hb dL_isDone_35 hl (by decide) rfl (fun ls hl => ?_)
    refine lv_iload hx hb dL_isDone_37 (lv_at hl 0 rfl) ?_
    refine lv_aload hx hb dL_isDone_39 (lv_at hl 8 rfl) ?_
    refine n_iconst hx hb dL_isDone_41 ?_
    refine n_nalv (i := 1) (v := ((es : Nat) : Int)) hx hb hK hP 6 0 rfl htI rfl (Nat.le_of_ble_eq_true rfl) (Nat.le_of_ble_eq_true rfl) (congrArg (fun z : Nat => (z : Int)) hg1) dL_isDone_42 ?_
    refine n_icmp_ge (tgt := 50) hx hb (by unfold r32; omega) (by unfold r32; omega) dL_isDone_43 (by decide) (fun h43 => ?_) (fun h43 => False.elim (by omega))
    refine n_iconst hx hb dL_isDone_50 ?_
    refine lv_istore (lv' := [(12, .int (jI 0)), (11, .int (jI ((nn : Nat) : Int))), (0, .ref x0), (1, .ref ae), (2, .ref aq), (3, .ref av), (4, .ref au), (5, .ref aw), (6, .ref ay), (7, .ref ag), (8, .int (jI 0)), (9, .int (jI ((one : Nat) : Int))), (10, .int (jI ((two : Nat) : Int)))]) hx hb dL_isDone_51 hl (by decide) rfl (fun ls hl => ?_)
    refine lv_iload hx hb dL_isDone_53 (lv_at hl 0 rfl) ?_
    refine n_if_eq (tgt := 66) hx hb (by unfold r32; decide) dL_isDone_55 (by decide) (fun h55 => ?_) (fun h55 => False.elim (by revert h55; decide))
    refine n_bipush hx hb dL_isDone_66 (by decide) ?_
    refine lv_istore (lv' := [(13, .int (jI 30)), (12, .int (jI 0)), (11, .int (jI ((nn : Nat) : Int))), (0, .ref x0), (1, .ref ae), (2, .ref aq), (3, .ref av), (4, .ref au), (5, .ref aw), (6, .ref ay), (7, .ref ag), (8, .int (jI 0)), (9, .int (jI ((one : Nat) : Int))), (10, .int (jI ((two : Nat) : Int)))]) hx hb dL_isDone_68 hl (by decide) rfl (fun ls hl => ?_)
    refine lv_iload hx hb dL_isDone_70 (lv_at hl 11 rfl) ?_
    refine n_if_ne (tgt := 202) hx hb (by unfold r32; decide) dL_isDone_72 (by decide) (fun h72 => False.elim (by revert h72; decide)) (fun h72 => ?_)
    refine lv_iload hx hb dL_isDone_75 (lv_at hl 13 rfl) ?_
    refine n_bipush hx hb dL_isDone_77 (by decide) ?_
    refine n_iremv (v := (((two % 13) : Nat) : Int)) hx hb dL_isDone_79 (by omega) (by omega) (by omega) (by omega) (by omega) ?_
    refine n_bipush hx hb dL_isDone_80 (by decide) ?_
    by_cases hp : two % 13 = 12
    · refine n_icmp_ne (tgt := 91) hx hb (by unfold r32; omega) (by unfold r32; omega) dL_isDone_82 (by decide) (fun h82 => False.elim (by omega)) (fun h82 => ?_)
      refine n_sipush hx hb dL_isDone_85 (by decide) ?_
      refine lv_goto (tgt := 113) hx hb dL_isDone_88 (by decide) ?_
      refine lv_istore (lv' := [(14, .int (jI 10007)), (13, .int (jI 30)), (12, .int (jI 0)), (11, .int (jI ((nn : Nat) : Int))), (0, .ref x0), (1, .ref ae), (2, .ref aq), (3, .ref av), (4, .ref au), (5, .ref aw), (6, .ref ay), (7, .ref ag), (8, .int (jI 0)), (9, .int (jI ((one : Nat) : Int))), (10, .int (jI ((two : Nat) : Int)))]) hx hb dL_isDone_113 hl (by decide) rfl (fun ls hl => ?_)
      refine lv_iload hx hb dL_isDone_115 (lv_at hl 0 rfl) ?_
      refine n_sipush hx hb dL_isDone_117 (by decide) ?_
      refine n_icmp_ge (tgt := 127) hx hb (by unfold r32; omega) (by unfold r32; omega) dL_isDone_120 (by decide) (fun h120 => ?_) (fun h120 => False.elim (by omega))
      refine n_iconst hx hb dL_isDone_127 ?_
      refine lv_istore (lv' := [(15, .int (jI 0)), (14, .int (jI 10007)), (13, .int (jI 30)), (12, .int (jI 0)), (11, .int (jI ((nn : Nat) : Int))), (0, .ref x0), (1, .ref ae), (2, .ref aq), (3, .ref av), (4, .ref au), (5, .ref aw), (6, .ref ay), (7, .ref ag), (8, .int (jI 0)), (9, .int (jI ((one : Nat) : Int))), (10, .int (jI ((two : Nat) : Int)))]) hx hb dL_isDone_128 hl (by decide) rfl (fun ls hl => ?_)
      refine lv_aload_n hx hb dL_isDone_130 rfl (lv_at hl 6 rfl) ?_
      refine lv_iload hx hb dL_isDone_131 (lv_at hl 2 rfl) ?_
      refine n_bipush hx hb dL_isDone_133 (by decide) ?_
      refine n_iadd hx hb dL_isDone_135 ?_
      refine n_ialdv (i := (30 + 13)) (v := (fe 43)) hx hb hK hP 0 0 rfl htI (by omega) (by omega) (Nat.le_of_ble_eq_true rfl) rfl dL_isDone_136 ?_
      refine lv_istore (lv' := [(16, .int (jI (fe 43))), (15, .int (jI 0)), (14, .int (jI 10007)), (13, .int (jI 30)), (12, .int (jI 0)), (11, .int (jI ((nn : Nat) : Int))), (0, .ref x0), (1, .ref ae), (2, .ref aq), (3, .ref av), (4, .ref au), (5, .ref aw), (6, .ref ay), (7, .ref ag), (8, .int (jI 0)), (9, .int (jI ((one : Nat) : Int))), (10, .int (jI ((two : Nat) : Int)))]) hx hb dL_isDone_137 hl (by decide) rfl (fun ls hl => ?_)
      refine lv_aload_n hx hb dL_isDone_139 rfl (lv_at hl 7 rfl) ?_
      refine lv_iload hx hb dL_isDone_140 (lv_at hl 3 rfl) ?_
      refine n_bipush hx hb dL_isDone_142 (by decide) ?_
      refine n_iadd hx hb dL_isDone_144 ?_
      refine lv_iload hx hb dL_isDone_145 (lv_at hl 1 rfl) ?_
      refine n_if_eq (tgt := 155) hx hb (by unfold r32; decide) dL_isDone_147 (by decide) (fun h147 => ?_) (fun h147 => False.elim (by revert h147; decide))
      refine lv_iload hx hb dL_isDone_155 (lv_at hl 0 rfl) ?_
      refine n_iast (i := 43) hx hb hK hP hD hS 0 0 rfl htI (by omega) (Nat.le_of_ble_eq_true rfl) (Nat.le_of_ble_eq_true rfl) dL_isDone_157 (fun H locs hP hD hS => ?_)
      have hP : va_P D vwCl ((ae, .inl (cI, 45, .inl (fun i => jI ((va_up fe 43 (fe 43)) i)))) :: (aq, .inl (cJ, 16, .inr (.inl (fun i => jL (fq i))))) :: (av, .inl (cJ, 16, .inr (.inl (fun i => jL (fv i))))) :: (au, .inl (cJ, 16, .inr (.inl (fun i => jL (fu i))))) :: (aw, .inl (cJ, 60, .inr (.inl (fun i => vL (fw i))))) :: (ay, .inl (cJ, 32, .inr (.inl (fun i => vL (fy i))))) :: (ag, .inl (cI, 2, .inl (fun i => jI ((fg i : Nat) : Int)))) :: (CW cI cE cG cM cS x0 q0 q1 qr (ms, es, gE, gM, gB, gT, gG, gN, gK, gD) κ)) H := hP
      have hD : va_D A ((ae, .inl (cI, 45, .inl (fun i => jI ((va_up fe 43 (fe 43)) i)))) :: (aq, .inl (cJ, 16, .inr (.inl (fun i => jL (fq i))))) :: (av, .inl (cJ, 16, .inr (.inl (fun i => jL (fv i))))) :: (au, .inl (cJ, 16, .inr (.inl (fun i => jL (fu i))))) :: (aw, .inl (cJ, 60, .inr (.inl (fun i => vL (fw i))))) :: (ay, .inl (cJ, 32, .inr (.inl (fun i => vL (fy i))))) :: (ag, .inl (cI, 2, .inl (fun i => jI ((fg i : Nat) : Int)))) :: (CW cI cE cG cM cS x0 q0 q1 qr (ms, es, gE, gM, gB, gT, gG, gN, gK, gD) κ)) := hD
      refine lv_aload_n hx hb dL_isDone_158 rfl (lv_at hl 6 rfl) ?_
      refine n_iconst hx hb dL_isDone_159 ?_
      refine lv_iload hx hb dL_isDone_160 (lv_at hl 5 rfl) ?_
      refine lv_iload hx hb dL_isDone_162 (lv_at hl 2 rfl) ?_
      refine n_iconst hx hb dL_isDone_164 ?_
      refine n_iconst hx hb dL_isDone_165 ?_
      refine n_iconst hx hb dL_isDone_166 ?_
      refine n_iconst hx hb dL_isDone_167 ?_
      have hC := d_gate1 l hl9 D tys htI htE htM htS htG x0 q0 q1 qr ms es gE gM gB gT gG gN gK gD κ hI ((nn : Nat) : Int) 10007 (by unfold r32; omega) (by unfold r32; omega) (inB_f (by omega))
      have hW := w_does_gate l D tys x0 q0 q1 qr ms es gE gM gB gT gG gN gK gD κ (jI ((nn : Nat) : Int)) (jI 10007) (jI 0) (jI 0) (jI 0) (jI 0) (ms, es, gE, gM, gB, gT, gG, gN, gK, gD) 1 _ hC
      have hP : va_P D vwCl ((CW cI cE cG cM cS x0 q0 q1 qr (ms, es, gE, gM, gB, gT, gG, gN, gK, gD) κ) ++ [(ae, .inl (cI, 45, .inl (fun i => jI ((va_up fe 43 (fe 43)) i)))), (aq, .inl (cJ, 16, .inr (.inl (fun i => jL (fq i))))), (av, .inl (cJ, 16, .inr (.inl (fun i => jL (fv i))))), (au, .inl (cJ, 16, .inr (.inl (fun i => jL (fu i))))), (aw, .inl (cJ, 60, .inr (.inl (fun i => vL (fw i))))), (ay, .inl (cJ, 32, .inr (.inl (fun i => vL (fy i))))), (ag, .inl (cI, 2, .inl (fun i => jI ((fg i : Nat) : Int))))]) H := hP.perm (List.perm_append_comm (l₁ := ([(ae, .inl (cI, 45, .inl (fun i => jI ((va_up fe 43 (fe 43)) i)))), (aq, .inl (cJ, 16, .inr (.inl (fun i => jL (fq i))))), (av, .inl (cJ, 16, .inr (.inl (fun i => jL (fv i))))), (au, .inl (cJ, 16, .inr (.inl (fun i => jL (fu i))))), (aw, .inl (cJ, 60, .inr (.inl (fun i => vL (fw i))))), (ay, .inl (cJ, 32, .inr (.inl (fun i => vL (fy i))))), (ag, .inl (cI, 2, .inl (fun i => jI ((fg i : Nat) : Int))))] : va_W)) (l₂ := (CW cI cE cG cM cS x0 q0 q1 qr (ms, es, gE, gM, gB, gT, gG, gN, gK, gD) κ)))
      have hD : va_D A ((CW cI cE cG cM cS x0 q0 q1 qr (ms, es, gE, gM, gB, gT, gG, gN, gK, gD) κ) ++ [(ae, .inl (cI, 45, .inl (fun i => jI ((va_up fe 43 (fe 43)) i)))), (aq, .inl (cJ, 16, .inr (.inl (fun i => jL (fq i))))), (av, .inl (cJ, 16, .inr (.inl (fun i => jL (fv i))))), (au, .inl (cJ, 16, .inr (.inl (fun i => jL (fu i))))), (aw, .inl (cJ, 60, .inr (.inl (fun i => vL (fw i))))), (ay, .inl (cJ, 32, .inr (.inl (fun i => vL (fy i))))), (ag, .inl (cI, 2, .inl (fun i => jI ((fg i : Nat) : Int))))]) := hD.perm (List.perm_append_comm (l₁ := ([(ae, .inl (cI, 45, .inl (fun i => jI ((va_up fe 43 (fe 43)) i)))), (aq, .inl (cJ, 16, .inr (.inl (fun i => jL (fq i))))), (av, .inl (cJ, 16, .inr (.inl (fun i => jL (fv i))))), (au, .inl (cJ, 16, .inr (.inl (fun i => jL (fu i))))), (aw, .inl (cJ, 60, .inr (.inl (fun i => vL (fw i))))), (ay, .inl (cJ, 32, .inr (.inl (fun i => vL (fy i))))), (ag, .inl (cI, 2, .inl (fun i => jI ((fg i : Nat) : Int))))] : va_W)) (l₂ := (CW cI cE cG cM cS x0 q0 q1 qr (ms, es, gE, gM, gB, gT, gG, gN, gK, gD) κ)))
      refine a_goNI (vx_runSW (As := [.ref x0, .int (jI 3), .int (jI ((nn : Nat) : Int)), .int (jI 10007), .int (jI 0), .int (jI 0), .int (jI 0), .int (jI 0)]) (rest := []) ⟨hx, hb, hml, hown, hts⟩ (hW _) (vx_cwSW 8 hts gL_isDone_L_does rfl rfl rfl (by decide +kernel) ⟨(Nat.le_of_ble_eq_true rfl), (Nat.le_of_ble_eq_true rfl)⟩) (c_pre hK hXK hZ hN hP hD hS hA) rfl rfl hl.1 rfl (lv_room (Nat.le_of_ble_eq_true rfl)) dL_isDone_168 ⟨(Nat.le_of_ble_eq_true rfl), (Nat.le_of_ble_eq_true rfl)⟩) hP hD hS hA (fun r κ2 H locs hpost hP hD hS => ?_)
      obtain ⟨hr9, hI2⟩ := hpost
      have hr9 : r = jI (-3) := hr9
      subst hr9
      have hP : va_P D vwCl ((CW cI cE cG cM cS x0 q0 q1 qr (ms, es, gE, gM, gB, gT, gG, gN, gK, gD) κ2) ++ [(ae, .inl (cI, 45, .inl (fun i => jI ((va_up fe 43 (fe 43)) i)))), (aq, .inl (cJ, 16, .inr (.inl (fun i => jL (fq i))))), (av, .inl (cJ, 16, .inr (.inl (fun i => jL (fv i))))), (au, .inl (cJ, 16, .inr (.inl (fun i => jL (fu i))))), (aw, .inl (cJ, 60, .inr (.inl (fun i => vL (fw i))))), (ay, .inl (cJ, 32, .inr (.inl (fun i => vL (fy i))))), (ag, .inl (cI, 2, .inl (fun i => jI ((fg i : Nat) : Int))))]) H := hP
      have hD : va_D A ((CW cI cE cG cM cS x0 q0 q1 qr (ms, es, gE, gM, gB, gT, gG, gN, gK, gD) κ2) ++ [(ae, .inl (cI, 45, .inl (fun i => jI ((va_up fe 43 (fe 43)) i)))), (aq, .inl (cJ, 16, .inr (.inl (fun i => jL (fq i))))), (av, .inl (cJ, 16, .inr (.inl (fun i => jL (fv i))))), (au, .inl (cJ, 16, .inr (.inl (fun i => jL (fu i))))), (aw, .inl (cJ, 60, .inr (.inl (fun i => vL (fw i))))), (ay, .inl (cJ, 32, .inr (.inl (fun i => vL (fy i))))), (ag, .inl (cI, 2, .inl (fun i => jI ((fg i : Nat) : Int))))]) := hD
      have hP : va_P D vwCl ((ae, .inl (cI, 45, .inl (fun i => jI ((va_up fe 43 (fe 43)) i)))) :: (aq, .inl (cJ, 16, .inr (.inl (fun i => jL (fq i))))) :: (av, .inl (cJ, 16, .inr (.inl (fun i => jL (fv i))))) :: (au, .inl (cJ, 16, .inr (.inl (fun i => jL (fu i))))) :: (aw, .inl (cJ, 60, .inr (.inl (fun i => vL (fw i))))) :: (ay, .inl (cJ, 32, .inr (.inl (fun i => vL (fy i))))) :: (ag, .inl (cI, 2, .inl (fun i => jI ((fg i : Nat) : Int)))) :: (CW cI cE cG cM cS x0 q0 q1 qr (ms, es, gE, gM, gB, gT, gG, gN, gK, gD) κ2)) H := hP.perm (List.perm_append_comm (l₁ := (CW cI cE cG cM cS x0 q0 q1 qr (ms, es, gE, gM, gB, gT, gG, gN, gK, gD) κ2)) (l₂ := ([(ae, .inl (cI, 45, .inl (fun i => jI ((va_up fe 43 (fe 43)) i)))), (aq, .inl (cJ, 16, .inr (.inl (fun i => jL (fq i))))), (av, .inl (cJ, 16, .inr (.inl (fun i => jL (fv i))))), (au, .inl (cJ, 16, .inr (.inl (fun i => jL (fu i))))), (aw, .inl (cJ, 60, .inr (.inl (fun i => vL (fw i))))), (ay, .inl (cJ, 32, .inr (.inl (fun i => vL (fy i))))), (ag, .inl (cI, 2, .inl (fun i => jI ((fg i : Nat) : Int))))] : va_W)))
      have hD : va_D A ((ae, .inl (cI, 45, .inl (fun i => jI ((va_up fe 43 (fe 43)) i)))) :: (aq, .inl (cJ, 16, .inr (.inl (fun i => jL (fq i))))) :: (av, .inl (cJ, 16, .inr (.inl (fun i => jL (fv i))))) :: (au, .inl (cJ, 16, .inr (.inl (fun i => jL (fu i))))) :: (aw, .inl (cJ, 60, .inr (.inl (fun i => vL (fw i))))) :: (ay, .inl (cJ, 32, .inr (.inl (fun i => vL (fy i))))) :: (ag, .inl (cI, 2, .inl (fun i => jI ((fg i : Nat) : Int)))) :: (CW cI cE cG cM cS x0 q0 q1 qr (ms, es, gE, gM, gB, gT, gG, gN, gK, gD) κ2)) := hD.perm (List.perm_append_comm (l₁ := (CW cI cE cG cM cS x0 q0 q1 qr (ms, es, gE, gM, gB, gT, gG, gN, gK, gD) κ2)) (l₂ := ([(ae, .inl (cI, 45, .inl (fun i => jI ((va_up fe 43 (fe 43)) i)))), (aq, .inl (cJ, 16, .inr (.inl (fun i => jL (fq i))))), (av, .inl (cJ, 16, .inr (.inl (fun i => jL (fv i))))), (au, .inl (cJ, 16, .inr (.inl (fun i => jL (fu i))))), (aw, .inl (cJ, 60, .inr (.inl (fun i => vL (fw i))))), (ay, .inl (cJ, 32, .inr (.inl (fun i => vL (fy i))))), (ag, .inl (cI, 2, .inl (fun i => jI ((fg i : Nat) : Int))))] : va_W)))
      refine lv_iload hx hb dL_isDone_171 (lv_at hl 4 rfl) ?_
      refine n_if_ne (tgt := 181) hx hb (by unfold r32; decide) dL_isDone_173 (by decide) (fun h173 => False.elim (by revert h173; decide)) (fun h173 => ?_)
      refine n_bipush hx hb dL_isDone_176 (by decide) ?_
      refine lv_goto (tgt := 193) hx hb dL_isDone_178 (by decide) ?_
      refine n_icmp_ne (tgt := 200) hx hb (by unfold r32; omega) (by unfold r32; omega) dL_isDone_193 (by decide) (fun h193 => False.elim (h193 rfl)) (fun h193 => ?_)
      refine n_iconst hx hb dL_isDone_196 ?_
      refine lv_goto (tgt := 201) hx hb dL_isDone_197 (by decide) ?_
      refine W.widen (k := 228) (n := 867) (Nat.le_of_ble_eq_true rfl) (Nat.le_of_ble_eq_true rfl) ?_
      exact y_zret (b := true) ((ms, es, gE, gM, gB, gT, gG, gN, gK, gD), κ2, va_up fe 43 (fe 43), fq, fv, fu, fw, fy) hx hb hr hlocks dL_isDone_201 hP hD hS rfl ⟨rfl, hI2, (hL.e43 _).up⟩
    · refine n_icmp_ne (tgt := 91) hx hb (by unfold r32; omega) (by unfold r32; omega) dL_isDone_82 (by decide) (fun h82 => ?_) (fun h82 => False.elim (by omega))
      refine lv_iload hx hb dL_isDone_91 (lv_at hl 13 rfl) ?_
      refine n_iconst hx hb dL_isDone_93 ?_
      refine n_iremv (v := (((two % 3) : Nat) : Int)) hx hb dL_isDone_94 (by omega) (by omega) (by omega) (by omega) (by omega) ?_
      by_cases h3 : two % 3 = 0
      · refine n_if_ne (tgt := 104) hx hb (by unfold r32; omega) dL_isDone_95 (by decide) (fun h95 => False.elim (by omega)) (fun h95 => ?_)
        refine n_sipush hx hb dL_isDone_98 (by decide) ?_
        refine lv_goto (tgt := 113) hx hb dL_isDone_101 (by decide) ?_
        refine W.eq (g2 := F0 m 113 ls (.int (vI zB) :: [])) (congrArg (fun z : Int => F0 m 113 ls (.int (jI z) :: [])) ezB.symm) ?_
        refine lv_istore (lv' := [(14, .int (vI zB)), (13, .int (jI 30)), (12, .int (jI 0)), (11, .int (jI ((nn : Nat) : Int))), (0, .ref x0), (1, .ref ae), (2, .ref aq), (3, .ref av), (4, .ref au), (5, .ref aw), (6, .ref ay), (7, .ref ag), (8, .int (jI 0)), (9, .int (jI ((one : Nat) : Int))), (10, .int (jI ((two : Nat) : Int)))]) hx hb dL_isDone_113 hl (by decide) rfl (fun ls hl => ?_)
        refine lv_iload hx hb dL_isDone_115 (lv_at hl 0 rfl) ?_
        refine n_sipush hx hb dL_isDone_117 (by decide) ?_
        refine n_icmp_ge (tgt := 127) hx hb (r32_z _) (by unfold r32; omega) dL_isDone_120 (by decide) (fun h120 => False.elim (by omega)) (fun h120 => ?_)
        refine n_iconst hx hb dL_isDone_123 ?_
        refine lv_goto (tgt := 128) hx hb dL_isDone_124 (by decide) ?_
        refine lv_istore (lv' := [(15, .int (jI 1)), (14, .int (vI zB)), (13, .int (jI 30)), (12, .int (jI 0)), (11, .int (jI ((nn : Nat) : Int))), (0, .ref x0), (1, .ref ae), (2, .ref aq), (3, .ref av), (4, .ref au), (5, .ref aw), (6, .ref ay), (7, .ref ag), (8, .int (jI 0)), (9, .int (jI ((one : Nat) : Int))), (10, .int (jI ((two : Nat) : Int)))]) hx hb dL_isDone_128 hl (by decide) rfl (fun ls hl => ?_)
        refine lv_aload_n hx hb dL_isDone_130 rfl (lv_at hl 6 rfl) ?_
        refine lv_iload hx hb dL_isDone_131 (lv_at hl 2 rfl) ?_
        refine n_bipush hx hb dL_isDone_133 (by decide) ?_
        refine n_iadd hx hb dL_isDone_135 ?_
        refine n_ialdv (i := (30 + 13)) (v := (fe 43)) hx hb hK hP 0 0 rfl htI (by omega) (by omega) (Nat.le_of_ble_eq_true rfl) rfl dL_isDone_136 ?_
        refine lv_istore (lv' := [(16, .int (jI (fe 43))), (15, .int (jI 1)), (14, .int (vI zB)), (13, .int (jI 30)), (12, .int (jI 0)), (11, .int (jI ((nn : Nat) : Int))), (0, .ref x0), (1, .ref ae), (2, .ref aq), (3, .ref av), (4, .ref au), (5, .ref aw), (6, .ref ay), (7, .ref ag), (8, .int (jI 0)), (9, .int (jI ((one : Nat) : Int))), (10, .int (jI ((two : Nat) : Int)))]) hx hb dL_isDone_137 hl (by decide) rfl (fun ls hl => ?_)
        refine lv_aload_n hx hb dL_isDone_139 rfl (lv_at hl 7 rfl) ?_
        refine lv_iload hx hb dL_isDone_140 (lv_at hl 3 rfl) ?_
        refine n_bipush hx hb dL_isDone_142 (by decide) ?_
        refine n_iadd hx hb dL_isDone_144 ?_
        refine lv_iload hx hb dL_isDone_145 (lv_at hl 1 rfl) ?_
        refine n_if_eq (tgt := 155) hx hb (by unfold r32; decide) dL_isDone_147 (by decide) (fun h147 => False.elim (by revert h147; decide)) (fun h147 => ?_)
        refine lv_iload hx hb dL_isDone_150 (lv_at hl 2 rfl) ?_
        refine lv_goto (tgt := 157) hx hb dL_isDone_152 (by decide) ?_
        refine n_iast (i := 43) hx hb hK hP hD hS 0 0 rfl htI (by omega) (Nat.le_of_ble_eq_true rfl) (Nat.le_of_ble_eq_true rfl) dL_isDone_157 (fun H locs hP hD hS => ?_)
        have hP : va_P D vwCl ((ae, .inl (cI, 45, .inl (fun i => jI ((va_up fe 43 (zv zB)) i)))) :: (aq, .inl (cJ, 16, .inr (.inl (fun i => jL (fq i))))) :: (av, .inl (cJ, 16, .inr (.inl (fun i => jL (fv i))))) :: (au, .inl (cJ, 16, .inr (.inl (fun i => jL (fu i))))) :: (aw, .inl (cJ, 60, .inr (.inl (fun i => vL (fw i))))) :: (ay, .inl (cJ, 32, .inr (.inl (fun i => vL (fy i))))) :: (ag, .inl (cI, 2, .inl (fun i => jI ((fg i : Nat) : Int)))) :: (CW cI cE cG cM cS x0 q0 q1 qr (ms, es, gE, gM, gB, gT, gG, gN, gK, gD) κ)) H := hP
        have hD : va_D A ((ae, .inl (cI, 45, .inl (fun i => jI ((va_up fe 43 (zv zB)) i)))) :: (aq, .inl (cJ, 16, .inr (.inl (fun i => jL (fq i))))) :: (av, .inl (cJ, 16, .inr (.inl (fun i => jL (fv i))))) :: (au, .inl (cJ, 16, .inr (.inl (fun i => jL (fu i))))) :: (aw, .inl (cJ, 60, .inr (.inl (fun i => vL (fw i))))) :: (ay, .inl (cJ, 32, .inr (.inl (fun i => vL (fy i))))) :: (ag, .inl (cI, 2, .inl (fun i => jI ((fg i : Nat) : Int)))) :: (CW cI cE cG cM cS x0 q0 q1 qr (ms, es, gE, gM, gB, gT, gG, gN, gK, gD) κ)) := hD
        refine lv_aload_n hx hb dL_isDone_158 rfl (lv_at hl 6 rfl) ?_
        refine n_iconst hx hb dL_isDone_159 ?_
        refine lv_iload hx hb dL_isDone_160 (lv_at hl 5 rfl) ?_
        refine lv_iload hx hb dL_isDone_162 (lv_at hl 2 rfl) ?_
        refine n_iconst hx hb dL_isDone_164 ?_
        refine n_iconst hx hb dL_isDone_165 ?_
        refine n_iconst hx hb dL_isDone_166 ?_
        refine n_iconst hx hb dL_isDone_167 ?_
        have hC := d_gate1 l hl9 D tys htI htE htM htS htG x0 q0 q1 qr ms es gE gM gB gT gG gN gK gD κ hI ((nn : Nat) : Int) (zv zB) (by unfold r32; omega) (r32_z _) (inB_f (by omega))
        have hW := w_does_gate l D tys x0 q0 q1 qr ms es gE gM gB gT gG gN gK gD κ (jI ((nn : Nat) : Int)) (vI zB) (jI 0) (jI 0) (jI 0) (jI 0) (ms, es, gE, gM, gB, gT, gG, gN, gK, gD) 1 _ hC
        have hP : va_P D vwCl ((CW cI cE cG cM cS x0 q0 q1 qr (ms, es, gE, gM, gB, gT, gG, gN, gK, gD) κ) ++ [(ae, .inl (cI, 45, .inl (fun i => jI ((va_up fe 43 (zv zB)) i)))), (aq, .inl (cJ, 16, .inr (.inl (fun i => jL (fq i))))), (av, .inl (cJ, 16, .inr (.inl (fun i => jL (fv i))))), (au, .inl (cJ, 16, .inr (.inl (fun i => jL (fu i))))), (aw, .inl (cJ, 60, .inr (.inl (fun i => vL (fw i))))), (ay, .inl (cJ, 32, .inr (.inl (fun i => vL (fy i))))), (ag, .inl (cI, 2, .inl (fun i => jI ((fg i : Nat) : Int))))]) H := hP.perm (List.perm_append_comm (l₁ := ([(ae, .inl (cI, 45, .inl (fun i => jI ((va_up fe 43 (zv zB)) i)))), (aq, .inl (cJ, 16, .inr (.inl (fun i => jL (fq i))))), (av, .inl (cJ, 16, .inr (.inl (fun i => jL (fv i))))), (au, .inl (cJ, 16, .inr (.inl (fun i => jL (fu i))))), (aw, .inl (cJ, 60, .inr (.inl (fun i => vL (fw i))))), (ay, .inl (cJ, 32, .inr (.inl (fun i => vL (fy i))))), (ag, .inl (cI, 2, .inl (fun i => jI ((fg i : Nat) : Int))))] : va_W)) (l₂ := (CW cI cE cG cM cS x0 q0 q1 qr (ms, es, gE, gM, gB, gT, gG, gN, gK, gD) κ)))
        have hD : va_D A ((CW cI cE cG cM cS x0 q0 q1 qr (ms, es, gE, gM, gB, gT, gG, gN, gK, gD) κ) ++ [(ae, .inl (cI, 45, .inl (fun i => jI ((va_up fe 43 (zv zB)) i)))), (aq, .inl (cJ, 16, .inr (.inl (fun i => jL (fq i))))), (av, .inl (cJ, 16, .inr (.inl (fun i => jL (fv i))))), (au, .inl (cJ, 16, .inr (.inl (fun i => jL (fu i))))), (aw, .inl (cJ, 60, .inr (.inl (fun i => vL (fw i))))), (ay, .inl (cJ, 32, .inr (.inl (fun i => vL (fy i))))), (ag, .inl (cI, 2, .inl (fun i => jI ((fg i : Nat) : Int))))]) := hD.perm (List.perm_append_comm (l₁ := ([(ae, .inl (cI, 45, .inl (fun i => jI ((va_up fe 43 (zv zB)) i)))), (aq, .inl (cJ, 16, .inr (.inl (fun i => jL (fq i))))), (av, .inl (cJ, 16, .inr (.inl (fun i => jL (fv i))))), (au, .inl (cJ, 16, .inr (.inl (fun i => jL (fu i))))), (aw, .inl (cJ, 60, .inr (.inl (fun i => vL (fw i))))), (ay, .inl (cJ, 32, .inr (.inl (fun i => vL (fy i))))), (ag, .inl (cI, 2, .inl (fun i => jI ((fg i : Nat) : Int))))] : va_W)) (l₂ := (CW cI cE cG cM cS x0 q0 q1 qr (ms, es, gE, gM, gB, gT, gG, gN, gK, gD) κ)))
        refine a_goNI (vx_runSW (As := [.ref x0, .int (jI 3), .int (jI ((nn : Nat) : Int)), .int (vI zB), .int (jI 0), .int (jI 0), .int (jI 0), .int (jI 0)]) (rest := []) ⟨hx, hb, hml, hown, hts⟩ (hW _) (vx_cwSW 8 hts gL_isDone_L_does rfl rfl rfl (by decide +kernel) ⟨(Nat.le_of_ble_eq_true rfl), (Nat.le_of_ble_eq_true rfl)⟩) (c_pre hK hXK hZ hN hP hD hS hA) rfl rfl hl.1 rfl (lv_room (Nat.le_of_ble_eq_true rfl)) dL_isDone_168 ⟨(Nat.le_of_ble_eq_true rfl), (Nat.le_of_ble_eq_true rfl)⟩) hP hD hS hA (fun r κ2 H locs hpost hP hD hS => ?_)
        obtain ⟨hr9, hI2⟩ := hpost
        have hr9 : r = jI (-3) := hr9
        subst hr9
        have hP : va_P D vwCl ((CW cI cE cG cM cS x0 q0 q1 qr (ms, es, gE, gM, gB, gT, gG, gN, gK, gD) κ2) ++ [(ae, .inl (cI, 45, .inl (fun i => jI ((va_up fe 43 (zv zB)) i)))), (aq, .inl (cJ, 16, .inr (.inl (fun i => jL (fq i))))), (av, .inl (cJ, 16, .inr (.inl (fun i => jL (fv i))))), (au, .inl (cJ, 16, .inr (.inl (fun i => jL (fu i))))), (aw, .inl (cJ, 60, .inr (.inl (fun i => vL (fw i))))), (ay, .inl (cJ, 32, .inr (.inl (fun i => vL (fy i))))), (ag, .inl (cI, 2, .inl (fun i => jI ((fg i : Nat) : Int))))]) H := hP
        have hD : va_D A ((CW cI cE cG cM cS x0 q0 q1 qr (ms, es, gE, gM, gB, gT, gG, gN, gK, gD) κ2) ++ [(ae, .inl (cI, 45, .inl (fun i => jI ((va_up fe 43 (zv zB)) i)))), (aq, .inl (cJ, 16, .inr (.inl (fun i => jL (fq i))))), (av, .inl (cJ, 16, .inr (.inl (fun i => jL (fv i))))), (au, .inl (cJ, 16, .inr (.inl (fun i => jL (fu i))))), (aw, .inl (cJ, 60, .inr (.inl (fun i => vL (fw i))))), (ay, .inl (cJ, 32, .inr (.inl (fun i => vL (fy i))))), (ag, .inl (cI, 2, .inl (fun i => jI ((fg i : Nat) : Int))))]) := hD
        have hP : va_P D vwCl ((ae, .inl (cI, 45, .inl (fun i => jI ((va_up fe 43 (zv zB)) i)))) :: (aq, .inl (cJ, 16, .inr (.inl (fun i => jL (fq i))))) :: (av, .inl (cJ, 16, .inr (.inl (fun i => jL (fv i))))) :: (au, .inl (cJ, 16, .inr (.inl (fun i => jL (fu i))))) :: (aw, .inl (cJ, 60, .inr (.inl (fun i => vL (fw i))))) :: (ay, .inl (cJ, 32, .inr (.inl (fun i => vL (fy i))))) :: (ag, .inl (cI, 2, .inl (fun i => jI ((fg i : Nat) : Int)))) :: (CW cI cE cG cM cS x0 q0 q1 qr (ms, es, gE, gM, gB, gT, gG, gN, gK, gD) κ2)) H := hP.perm (List.perm_append_comm (l₁ := (CW cI cE cG cM cS x0 q0 q1 qr (ms, es, gE, gM, gB, gT, gG, gN, gK, gD) κ2)) (l₂ := ([(ae, .inl (cI, 45, .inl (fun i => jI ((va_up fe 43 (zv zB)) i)))), (aq, .inl (cJ, 16, .inr (.inl (fun i => jL (fq i))))), (av, .inl (cJ, 16, .inr (.inl (fun i => jL (fv i))))), (au, .inl (cJ, 16, .inr (.inl (fun i => jL (fu i))))), (aw, .inl (cJ, 60, .inr (.inl (fun i => vL (fw i))))), (ay, .inl (cJ, 32, .inr (.inl (fun i => vL (fy i))))), (ag, .inl (cI, 2, .inl (fun i => jI ((fg i : Nat) : Int))))] : va_W)))
        have hD : va_D A ((ae, .inl (cI, 45, .inl (fun i => jI ((va_up fe 43 (zv zB)) i)))) :: (aq, .inl (cJ, 16, .inr (.inl (fun i => jL (fq i))))) :: (av, .inl (cJ, 16, .inr (.inl (fun i => jL (fv i))))) :: (au, .inl (cJ, 16, .inr (.inl (fun i => jL (fu i))))) :: (aw, .inl (cJ, 60, .inr (.inl (fun i => vL (fw i))))) :: (ay, .inl (cJ, 32, .inr (.inl (fun i => vL (fy i))))) :: (ag, .inl (cI, 2, .inl (fun i => jI ((fg i : Nat) : Int)))) :: (CW cI cE cG cM cS x0 q0 q1 qr (ms, es, gE, gM, gB, gT, gG, gN, gK, gD) κ2)) := hD.perm (List.perm_append_comm (l₁ := (CW cI cE cG cM cS x0 q0 q1 qr (ms, es, gE, gM, gB, gT, gG, gN, gK, gD) κ2)) (l₂ := ([(ae, .inl (cI, 45, .inl (fun i => jI ((va_up fe 43 (zv zB)) i)))), (aq, .inl (cJ, 16, .inr (.inl (fun i => jL (fq i))))), (av, .inl (cJ, 16, .inr (.inl (fun i => jL (fv i))))), (au, .inl (cJ, 16, .inr (.inl (fun i => jL (fu i))))), (aw, .inl (cJ, 60, .inr (.inl (fun i => vL (fw i))))), (ay, .inl (cJ, 32, .inr (.inl (fun i => vL (fy i))))), (ag, .inl (cI, 2, .inl (fun i => jI ((fg i : Nat) : Int))))] : va_W)))
        refine lv_iload hx hb dL_isDone_171 (lv_at hl 4 rfl) ?_
        refine n_if_ne (tgt := 181) hx hb (by unfold r32; decide) dL_isDone_173 (by decide) (fun h173 => False.elim (by revert h173; decide)) (fun h173 => ?_)
        refine n_bipush hx hb dL_isDone_176 (by decide) ?_
        refine lv_goto (tgt := 193) hx hb dL_isDone_178 (by decide) ?_
        refine n_icmp_ne (tgt := 200) hx hb (by unfold r32; omega) (by unfold r32; omega) dL_isDone_193 (by decide) (fun h193 => False.elim (h193 rfl)) (fun h193 => ?_)
        refine n_iconst hx hb dL_isDone_196 ?_
        refine lv_goto (tgt := 201) hx hb dL_isDone_197 (by decide) ?_
        refine W.widen (k := 228) (n := 867) (Nat.le_of_ble_eq_true rfl) (Nat.le_of_ble_eq_true rfl) ?_
        exact y_zret (b := true) ((ms, es, gE, gM, gB, gT, gG, gN, gK, gD), κ2, va_up fe 43 (zv zB), fq, fv, fu, fw, fy) hx hb hr hlocks dL_isDone_201 hP hD hS rfl ⟨rfl, hI2, (hL.e43 _).up⟩
      · refine n_if_ne (tgt := 104) hx hb (by unfold r32; omega) dL_isDone_95 (by decide) (fun h95 => ?_) (fun h95 => False.elim (by omega))
        refine lv_iload hx hb dL_isDone_104 (lv_at hl 13 rfl) ?_
        refine n_bipush hx hb dL_isDone_106 (by decide) ?_
        refine n_idivv (v := (((two / 13) : Nat) : Int)) hx hb dL_isDone_108 (by omega) (by omega) (by omega) (by omega) (by omega) ?_
        refine n_sipush hx hb dL_isDone_109 (by decide) ?_
        refine n_iremv (v := (zv zC)) hx hb dL_isDone_112 (by omega) (by omega) (by omega) (by omega) (by omega) ?_
        refine lv_istore (lv' := [(14, .int (vI zC)), (13, .int (jI 30)), (12, .int (jI 0)), (11, .int (jI ((nn : Nat) : Int))), (0, .ref x0), (1, .ref ae), (2, .ref aq), (3, .ref av), (4, .ref au), (5, .ref aw), (6, .ref ay), (7, .ref ag), (8, .int (jI 0)), (9, .int (jI ((one : Nat) : Int))), (10, .int (jI ((two : Nat) : Int)))]) hx hb dL_isDone_113 hl (by decide) rfl (fun ls hl => ?_)
        refine lv_iload hx hb dL_isDone_115 (lv_at hl 0 rfl) ?_
        refine n_sipush hx hb dL_isDone_117 (by decide) ?_
        refine n_icmp_ge (tgt := 127) hx hb (r32_z _) (by unfold r32; omega) dL_isDone_120 (by decide) (fun h120 => False.elim (by omega)) (fun h120 => ?_)
        refine n_iconst hx hb dL_isDone_123 ?_
        refine lv_goto (tgt := 128) hx hb dL_isDone_124 (by decide) ?_
        refine lv_istore (lv' := [(15, .int (jI 1)), (14, .int (vI zC)), (13, .int (jI 30)), (12, .int (jI 0)), (11, .int (jI ((nn : Nat) : Int))), (0, .ref x0), (1, .ref ae), (2, .ref aq), (3, .ref av), (4, .ref au), (5, .ref aw), (6, .ref ay), (7, .ref ag), (8, .int (jI 0)), (9, .int (jI ((one : Nat) : Int))), (10, .int (jI ((two : Nat) : Int)))]) hx hb dL_isDone_128 hl (by decide) rfl (fun ls hl => ?_)
        refine lv_aload_n hx hb dL_isDone_130 rfl (lv_at hl 6 rfl) ?_
        refine lv_iload hx hb dL_isDone_131 (lv_at hl 2 rfl) ?_
        refine n_bipush hx hb dL_isDone_133 (by decide) ?_
        refine n_iadd hx hb dL_isDone_135 ?_
        refine n_ialdv (i := (30 + 13)) (v := (fe 43)) hx hb hK hP 0 0 rfl htI (by omega) (by omega) (Nat.le_of_ble_eq_true rfl) rfl dL_isDone_136 ?_
        refine lv_istore (lv' := [(16, .int (jI (fe 43))), (15, .int (jI 1)), (14, .int (vI zC)), (13, .int (jI 30)), (12, .int (jI 0)), (11, .int (jI ((nn : Nat) : Int))), (0, .ref x0), (1, .ref ae), (2, .ref aq), (3, .ref av), (4, .ref au), (5, .ref aw), (6, .ref ay), (7, .ref ag), (8, .int (jI 0)), (9, .int (jI ((one : Nat) : Int))), (10, .int (jI ((two : Nat) : Int)))]) hx hb dL_isDone_137 hl (by decide) rfl (fun ls hl => ?_)
        refine lv_aload_n hx hb dL_isDone_139 rfl (lv_at hl 7 rfl) ?_
        refine lv_iload hx hb dL_isDone_140 (lv_at hl 3 rfl) ?_
        refine n_bipush hx hb dL_isDone_142 (by decide) ?_
        refine n_iadd hx hb dL_isDone_144 ?_
        refine lv_iload hx hb dL_isDone_145 (lv_at hl 1 rfl) ?_
        refine n_if_eq (tgt := 155) hx hb (by unfold r32; decide) dL_isDone_147 (by decide) (fun h147 => False.elim (by revert h147; decide)) (fun h147 => ?_)
        refine lv_iload hx hb dL_isDone_150 (lv_at hl 2 rfl) ?_
        refine lv_goto (tgt := 157) hx hb dL_isDone_152 (by decide) ?_
        refine n_iast (i := 43) hx hb hK hP hD hS 0 0 rfl htI (by omega) (Nat.le_of_ble_eq_true rfl) (Nat.le_of_ble_eq_true rfl) dL_isDone_157 (fun H locs hP hD hS => ?_)
        have hP : va_P D vwCl ((ae, .inl (cI, 45, .inl (fun i => jI ((va_up fe 43 (zv zC)) i)))) :: (aq, .inl (cJ, 16, .inr (.inl (fun i => jL (fq i))))) :: (av, .inl (cJ, 16, .inr (.inl (fun i => jL (fv i))))) :: (au, .inl (cJ, 16, .inr (.inl (fun i => jL (fu i))))) :: (aw, .inl (cJ, 60, .inr (.inl (fun i => vL (fw i))))) :: (ay, .inl (cJ, 32, .inr (.inl (fun i => vL (fy i))))) :: (ag, .inl (cI, 2, .inl (fun i => jI ((fg i : Nat) : Int)))) :: (CW cI cE cG cM cS x0 q0 q1 qr (ms, es, gE, gM, gB, gT, gG, gN, gK, gD) κ)) H := hP
        have hD : va_D A ((ae, .inl (cI, 45, .inl (fun i => jI ((va_up fe 43 (zv zC)) i)))) :: (aq, .inl (cJ, 16, .inr (.inl (fun i => jL (fq i))))) :: (av, .inl (cJ, 16, .inr (.inl (fun i => jL (fv i))))) :: (au, .inl (cJ, 16, .inr (.inl (fun i => jL (fu i))))) :: (aw, .inl (cJ, 60, .inr (.inl (fun i => vL (fw i))))) :: (ay, .inl (cJ, 32, .inr (.inl (fun i => vL (fy i))))) :: (ag, .inl (cI, 2, .inl (fun i => jI ((fg i : Nat) : Int)))) :: (CW cI cE cG cM cS x0 q0 q1 qr (ms, es, gE, gM, gB, gT, gG, gN, gK, gD) κ)) := hD
        refine lv_aload_n hx hb dL_isDone_158 rfl (lv_at hl 6 rfl) ?_
        refine n_iconst hx hb dL_isDone_159 ?_
        refine lv_iload hx hb dL_isDone_160 (lv_at hl 5 rfl) ?_
        refine lv_iload hx hb dL_isDone_162 (lv_at hl 2 rfl) ?_
        refine n_iconst hx hb dL_isDone_164 ?_
        refine n_iconst hx hb dL_isDone_165 ?_
        refine n_iconst hx hb dL_isDone_166 ?_
        refine n_iconst hx hb dL_isDone_167 ?_
        have hC := d_gate1 l hl9 D tys htI htE htM htS htG x0 q0 q1 qr ms es gE gM gB gT gG gN gK gD κ hI ((nn : Nat) : Int) (zv zC) (by unfold r32; omega) (r32_z _) (inB_f (by omega))
        have hW := w_does_gate l D tys x0 q0 q1 qr ms es gE gM gB gT gG gN gK gD κ (jI ((nn : Nat) : Int)) (vI zC) (jI 0) (jI 0) (jI 0) (jI 0) (ms, es, gE, gM, gB, gT, gG, gN, gK, gD) 1 _ hC
        have hP : va_P D vwCl ((CW cI cE cG cM cS x0 q0 q1 qr (ms, es, gE, gM, gB, gT, gG, gN, gK, gD) κ) ++ [(ae, .inl (cI, 45, .inl (fun i => jI ((va_up fe 43 (zv zC)) i)))), (aq, .inl (cJ, 16, .inr (.inl (fun i => jL (fq i))))), (av, .inl (cJ, 16, .inr (.inl (fun i => jL (fv i))))), (au, .inl (cJ, 16, .inr (.inl (fun i => jL (fu i))))), (aw, .inl (cJ, 60, .inr (.inl (fun i => vL (fw i))))), (ay, .inl (cJ, 32, .inr (.inl (fun i => vL (fy i))))), (ag, .inl (cI, 2, .inl (fun i => jI ((fg i : Nat) : Int))))]) H := hP.perm (List.perm_append_comm (l₁ := ([(ae, .inl (cI, 45, .inl (fun i => jI ((va_up fe 43 (zv zC)) i)))), (aq, .inl (cJ, 16, .inr (.inl (fun i => jL (fq i))))), (av, .inl (cJ, 16, .inr (.inl (fun i => jL (fv i))))), (au, .inl (cJ, 16, .inr (.inl (fun i => jL (fu i))))), (aw, .inl (cJ, 60, .inr (.inl (fun i => vL (fw i))))), (ay, .inl (cJ, 32, .inr (.inl (fun i => vL (fy i))))), (ag, .inl (cI, 2, .inl (fun i => jI ((fg i : Nat) : Int))))] : va_W)) (l₂ := (CW cI cE cG cM cS x0 q0 q1 qr (ms, es, gE, gM, gB, gT, gG, gN, gK, gD) κ)))
        have hD : va_D A ((CW cI cE cG cM cS x0 q0 q1 qr (ms, es, gE, gM, gB, gT, gG, gN, gK, gD) κ) ++ [(ae, .inl (cI, 45, .inl (fun i => jI ((va_up fe 43 (zv zC)) i)))), (aq, .inl (cJ, 16, .inr (.inl (fun i => jL (fq i))))), (av, .inl (cJ, 16, .inr (.inl (fun i => jL (fv i))))), (au, .inl (cJ, 16, .inr (.inl (fun i => jL (fu i))))), (aw, .inl (cJ, 60, .inr (.inl (fun i => vL (fw i))))), (ay, .inl (cJ, 32, .inr (.inl (fun i => vL (fy i))))), (ag, .inl (cI, 2, .inl (fun i => jI ((fg i : Nat) : Int))))]) := hD.perm (List.perm_append_comm (l₁ := ([(ae, .inl (cI, 45, .inl (fun i => jI ((va_up fe 43 (zv zC)) i)))), (aq, .inl (cJ, 16, .inr (.inl (fun i => jL (fq i))))), (av, .inl (cJ, 16, .inr (.inl (fun i => jL (fv i))))), (au, .inl (cJ, 16, .inr (.inl (fun i => jL (fu i))))), (aw, .inl (cJ, 60, .inr (.inl (fun i => vL (fw i))))), (ay, .inl (cJ, 32, .inr (.inl (fun i => vL (fy i))))), (ag, .inl (cI, 2, .inl (fun i => jI ((fg i : Nat) : Int))))] : va_W)) (l₂ := (CW cI cE cG cM cS x0 q0 q1 qr (ms, es, gE, gM, gB, gT, gG, gN, gK, gD) κ)))
        refine a_goNI (vx_runSW (As := [.ref x0, .int (jI 3), .int (jI ((nn : Nat) : Int)), .int (vI zC), .int (jI 0), .int (jI 0), .int (jI 0), .int (jI 0)]) (rest := []) ⟨hx, hb, hml, hown, hts⟩ (hW _) (vx_cwSW 8 hts gL_isDone_L_does rfl rfl rfl (by decide +kernel) ⟨(Nat.le_of_ble_eq_true rfl), (Nat.le_of_ble_eq_true rfl)⟩) (c_pre hK hXK hZ hN hP hD hS hA) rfl rfl hl.1 rfl (lv_room (Nat.le_of_ble_eq_true rfl)) dL_isDone_168 ⟨(Nat.le_of_ble_eq_true rfl), (Nat.le_of_ble_eq_true rfl)⟩) hP hD hS hA (fun r κ2 H locs hpost hP hD hS => ?_)
        obtain ⟨hr9, hI2⟩ := hpost
        have hr9 : r = jI (-3) := hr9
        subst hr9
        have hP : va_P D vwCl ((CW cI cE cG cM cS x0 q0 q1 qr (ms, es, gE, gM, gB, gT, gG, gN, gK, gD) κ2) ++ [(ae, .inl (cI, 45, .inl (fun i => jI ((va_up fe 43 (zv zC)) i)))), (aq, .inl (cJ, 16, .inr (.inl (fun i => jL (fq i))))), (av, .inl (cJ, 16, .inr (.inl (fun i => jL (fv i))))), (au, .inl (cJ, 16, .inr (.inl (fun i => jL (fu i))))), (aw, .inl (cJ, 60, .inr (.inl (fun i => vL (fw i))))), (ay, .inl (cJ, 32, .inr (.inl (fun i => vL (fy i))))), (ag, .inl (cI, 2, .inl (fun i => jI ((fg i : Nat) : Int))))]) H := hP
        have hD : va_D A ((CW cI cE cG cM cS x0 q0 q1 qr (ms, es, gE, gM, gB, gT, gG, gN, gK, gD) κ2) ++ [(ae, .inl (cI, 45, .inl (fun i => jI ((va_up fe 43 (zv zC)) i)))), (aq, .inl (cJ, 16, .inr (.inl (fun i => jL (fq i))))), (av, .inl (cJ, 16, .inr (.inl (fun i => jL (fv i))))), (au, .inl (cJ, 16, .inr (.inl (fun i => jL (fu i))))), (aw, .inl (cJ, 60, .inr (.inl (fun i => vL (fw i))))), (ay, .inl (cJ, 32, .inr (.inl (fun i => vL (fy i))))), (ag, .inl (cI, 2, .inl (fun i => jI ((fg i : Nat) : Int))))]) := hD
        have hP : va_P D vwCl ((ae, .inl (cI, 45, .inl (fun i => jI ((va_up fe 43 (zv zC)) i)))) :: (aq, .inl (cJ, 16, .inr (.inl (fun i => jL (fq i))))) :: (av, .inl (cJ, 16, .inr (.inl (fun i => jL (fv i))))) :: (au, .inl (cJ, 16, .inr (.inl (fun i => jL (fu i))))) :: (aw, .inl (cJ, 60, .inr (.inl (fun i => vL (fw i))))) :: (ay, .inl (cJ, 32, .inr (.inl (fun i => vL (fy i))))) :: (ag, .inl (cI, 2, .inl (fun i => jI ((fg i : Nat) : Int)))) :: (CW cI cE cG cM cS x0 q0 q1 qr (ms, es, gE, gM, gB, gT, gG, gN, gK, gD) κ2)) H := hP.perm (List.perm_append_comm (l₁ := (CW cI cE cG cM cS x0 q0 q1 qr (ms, es, gE, gM, gB, gT, gG, gN, gK, gD) κ2)) (l₂ := ([(ae, .inl (cI, 45, .inl (fun i => jI ((va_up fe 43 (zv zC)) i)))), (aq, .inl (cJ, 16, .inr (.inl (fun i => jL (fq i))))), (av, .inl (cJ, 16, .inr (.inl (fun i => jL (fv i))))), (au, .inl (cJ, 16, .inr (.inl (fun i => jL (fu i))))), (aw, .inl (cJ, 60, .inr (.inl (fun i => vL (fw i))))), (ay, .inl (cJ, 32, .inr (.inl (fun i => vL (fy i))))), (ag, .inl (cI, 2, .inl (fun i => jI ((fg i : Nat) : Int))))] : va_W)))
        have hD : va_D A ((ae, .inl (cI, 45, .inl (fun i => jI ((va_up fe 43 (zv zC)) i)))) :: (aq, .inl (cJ, 16, .inr (.inl (fun i => jL (fq i))))) :: (av, .inl (cJ, 16, .inr (.inl (fun i => jL (fv i))))) :: (au, .inl (cJ, 16, .inr (.inl (fun i => jL (fu i))))) :: (aw, .inl (cJ, 60, .inr (.inl (fun i => vL (fw i))))) :: (ay, .inl (cJ, 32, .inr (.inl (fun i => vL (fy i))))) :: (ag, .inl (cI, 2, .inl (fun i => jI ((fg i : Nat) : Int)))) :: (CW cI cE cG cM cS x0 q0 q1 qr (ms, es, gE, gM, gB, gT, gG, gN, gK, gD) κ2)) := hD.perm (List.perm_append_comm (l₁ := (CW cI cE cG cM cS x0 q0 q1 qr (ms, es, gE, gM, gB, gT, gG, gN, gK, gD) κ2)) (l₂ := ([(ae, .inl (cI, 45, .inl (fun i => jI ((va_up fe 43 (zv zC)) i)))), (aq, .inl (cJ, 16, .inr (.inl (fun i => jL (fq i))))), (av, .inl (cJ, 16, .inr (.inl (fun i => jL (fv i))))), (au, .inl (cJ, 16, .inr (.inl (fun i => jL (fu i))))), (aw, .inl (cJ, 60, .inr (.inl (fun i => vL (fw i))))), (ay, .inl (cJ, 32, .inr (.inl (fun i => vL (fy i))))), (ag, .inl (cI, 2, .inl (fun i => jI ((fg i : Nat) : Int))))] : va_W)))
        refine lv_iload hx hb dL_isDone_171 (lv_at hl 4 rfl) ?_
        refine n_if_ne (tgt := 181) hx hb (by unfold r32; decide) dL_isDone_173 (by decide) (fun h173 => False.elim (by revert h173; decide)) (fun h173 => ?_)
        refine n_bipush hx hb dL_isDone_176 (by decide) ?_
        refine lv_goto (tgt := 193) hx hb dL_isDone_178 (by decide) ?_
        refine n_icmp_ne (tgt := 200) hx hb (by unfold r32; omega) (by unfold r32; omega) dL_isDone_193 (by decide) (fun h193 => False.elim (h193 rfl)) (fun h193 => ?_)
        refine n_iconst hx hb dL_isDone_196 ?_
        refine lv_goto (tgt := 201) hx hb dL_isDone_197 (by decide) ?_
        refine W.widen (k := 228) (n := 867) (Nat.le_of_ble_eq_true rfl) (Nat.le_of_ble_eq_true rfl) ?_
        exact y_zret (b := true) ((ms, es, gE, gM, gB, gT, gG, gN, gK, gD), κ2, va_up fe 43 (zv zC), fq, fv, fu, fw, fy) hx hb hr hlocks dL_isDone_201 hP hD hS rfl ⟨rfl, hI2, (hL.e43 _).up⟩
  by_cases h6 : one % 7 = 6
  · refine n_icmp_ne (tgt := 17) hx hb (by unfold r32; omega) (by unfold r32; omega) dL_isDone_7 (by decide) (fun h7 => False.elim (by omega)) (fun h7 => ?_)
    refine lv_aload hx hb dL_isDone_10 (lv_at hl 7 rfl) ?_
    refine n_iconst hx hb dL_isDone_12 ?_
    refine n_nalv (i := 1) (v := ((es : Nat) : Int)) hx hb hK hP 6 0 rfl htI rfl (Nat.le_of_ble_eq_true rfl) (Nat.le_of_ble_eq_true rfl) (congrArg (fun z : Nat => (z : Int)) hg1) dL_isDone_13 ?_
    refine lv_goto (tgt := 35) hx hb dL_isDone_14 (by decide) ?_
    exact hF es (by omega) (by omega) ls hl
  · refine n_icmp_ne (tgt := 17) hx hb (by unfold r32; omega) (by unfold r32; omega) dL_isDone_7 (by decide) (fun h7 => ?_) (fun h7 => False.elim (by omega))
    refine lv_aload hx hb dL_isDone_17 (lv_at hl 7 rfl) ?_
    refine n_iconst hx hb dL_isDone_19 ?_
    refine n_nalv (i := 1) (v := ((es : Nat) : Int)) hx hb hK hP 6 0 rfl htI rfl (Nat.le_of_ble_eq_true rfl) (Nat.le_of_ble_eq_true rfl) (congrArg (fun z : Nat => (z : Int)) hg1) dL_isDone_20 ?_
    by_cases he0 : es = 0
    · refine n_if_ne (tgt := 28) hx hb (by unfold r32; omega) dL_isDone_21 (by decide) (fun h21 => False.elim (by omega)) (fun h21 => ?_)
      refine n_iconst hx hb dL_isDone_24 ?_
      refine lv_goto (tgt := 35) hx hb dL_isDone_25 (by decide) ?_
      exact hF 0 (by omega) (by omega) ls hl
    · refine n_if_ne (tgt := 28) hx hb (by unfold r32; omega) dL_isDone_21 (by decide) (fun h21 => ?_) (fun h21 => False.elim (by omega))
      obtain ⟨ev, eev, lev⟩ := rem_ex ((one : Nat) : Int) ((es : Nat) : Int) (by omega)
      have hev : ev < es := by omega
      obtain ⟨h12, h14, hT6, hN8, hZ8, hEs⟩ := hLe ev (by omega)
      obtain ⟨hEW, h13, hMW⟩ := hEs hev
      have bG := zv_le (gG ev)
      have aG := zv_0 (gG ev)
      have hat : (15 * ((ev : Nat) : Int)) = (((15 * ev) : Nat) : Int) := by omega
      refine lv_iload hx hb dL_isDone_28 (lv_at hl 9 rfl) ?_
      refine lv_aload hx hb dL_isDone_30 (lv_at hl 7 rfl) ?_
      refine n_iconst hx hb dL_isDone_32 ?_
      refine n_nalv (i := 1) (v := ((es : Nat) : Int)) hx hb hK hP 6 0 rfl htI rfl (Nat.le_of_ble_eq_true rfl) (Nat.le_of_ble_eq_true rfl) (congrArg (fun z : Nat => (z : Int)) hg1) dL_isDone_33 ?_
      refine n_iremv (v := ((ev : Nat) : Int)) hx hb dL_isDone_34 (by omega) (by omega) (by omega) (by omega) eev ?_
      refine lv_istore (lv' := [(11, .int (jI ((ev : Nat) : Int))), (0, .ref x0), (1, .ref ae), (2, .ref aq), (3, .ref av), (4, .ref au), (5, .ref aw), (6, .ref ay), (7, .ref ag), (8, .int (jI 0)), (9, .int (jI ((one : Nat) : Int))), (10, .int (jI ((two : Nat) : Int)))]) hx hb dL_isDone_35 hl (by decide) rfl (fun ls hl => ?_)
      refine lv_iload hx hb dL_isDone_37 (lv_at hl 0 rfl) ?_
      refine lv_aload hx hb dL_isDone_39 (lv_at hl 8 rfl) ?_
      refine n_iconst hx hb dL_isDone_41 ?_
      refine n_nalv (i := 1) (v := ((es : Nat) : Int)) hx hb hK hP 6 0 rfl htI rfl (Nat.le_of_ble_eq_true rfl) (Nat.le_of_ble_eq_true rfl) (congrArg (fun z : Nat => (z : Int)) hg1) dL_isDone_42 ?_
      refine n_icmp_ge (tgt := 50) hx hb (by unfold r32; omega) (by unfold r32; omega) dL_isDone_43 (by decide) (fun h43 => False.elim (by omega)) (fun h43 => ?_)
      refine n_iconst hx hb dL_isDone_46 ?_
      refine lv_goto (tgt := 51) hx hb dL_isDone_47 (by decide) ?_
      refine lv_istore (lv' := [(12, .int (jI 1)), (11, .int (jI ((ev : Nat) : Int))), (0, .ref x0), (1, .ref ae), (2, .ref aq), (3, .ref av), (4, .ref au), (5, .ref aw), (6, .ref ay), (7, .ref ag), (8, .int (jI 0)), (9, .int (jI ((one : Nat) : Int))), (10, .int (jI ((two : Nat) : Int)))]) hx hb dL_isDone_51 hl (by decide) rfl (fun ls hl => ?_)
      refine lv_iload hx hb dL_isDone_53 (lv_at hl 0 rfl) ?_
      refine n_if_eq (tgt := 66) hx hb (by unfold r32; decide) dL_isDone_55 (by decide) (fun h55 => False.elim (by revert h55; decide)) (fun h55 => ?_)
      refine n_bipush hx hb dL_isDone_58 (by decide) ?_
      refine lv_iload hx hb dL_isDone_60 (lv_at hl 1 rfl) ?_
      refine n_imul hx hb dL_isDone_62 ?_
      rw [hat]
      refine lv_goto (tgt := 68) hx hb dL_isDone_63 (by decide) ?_
      refine lv_istore (lv' := [(13, .int (jI (((15 * ev) : Nat) : Int))), (12, .int (jI 1)), (11, .int (jI ((ev : Nat) : Int))), (0, .ref x0), (1, .ref ae), (2, .ref aq), (3, .ref av), (4, .ref au), (5, .ref aw), (6, .ref ay), (7, .ref ag), (8, .int (jI 0)), (9, .int (jI ((one : Nat) : Int))), (10, .int (jI ((two : Nat) : Int)))]) hx hb dL_isDone_68 hl (by decide) rfl (fun ls hl => ?_)
      refine lv_iload hx hb dL_isDone_70 (lv_at hl 11 rfl) ?_
      refine n_if_ne (tgt := 202) hx hb (by unfold r32; decide) dL_isDone_72 (by decide) (fun h72 => False.elim (by revert h72; decide)) (fun h72 => ?_)
      refine lv_iload hx hb dL_isDone_75 (lv_at hl 13 rfl) ?_
      refine n_bipush hx hb dL_isDone_77 (by decide) ?_
      refine n_iremv (v := (((two % 13) : Nat) : Int)) hx hb dL_isDone_79 (by omega) (by omega) (by omega) (by omega) (by omega) ?_
      refine n_bipush hx hb dL_isDone_80 (by decide) ?_
      by_cases hp : two % 13 = 12
      · refine n_icmp_ne (tgt := 91) hx hb (by unfold r32; omega) (by unfold r32; omega) dL_isDone_82 (by decide) (fun h82 => False.elim (by omega)) (fun h82 => ?_)
        refine n_sipush hx hb dL_isDone_85 (by decide) ?_
        refine lv_goto (tgt := 113) hx hb dL_isDone_88 (by decide) ?_
        refine lv_istore (lv' := [(14, .int (jI 10007)), (13, .int (jI (((15 * ev) : Nat) : Int))), (12, .int (jI 1)), (11, .int (jI ((ev : Nat) : Int))), (0, .ref x0), (1, .ref ae), (2, .ref aq), (3, .ref av), (4, .ref au), (5, .ref aw), (6, .ref ay), (7, .ref ag), (8, .int (jI 0)), (9, .int (jI ((one : Nat) : Int))), (10, .int (jI ((two : Nat) : Int)))]) hx hb dL_isDone_113 hl (by decide) rfl (fun ls hl => ?_)
        refine lv_iload hx hb dL_isDone_115 (lv_at hl 0 rfl) ?_
        refine n_sipush hx hb dL_isDone_117 (by decide) ?_
        refine n_icmp_ge (tgt := 127) hx hb (by unfold r32; omega) (by unfold r32; omega) dL_isDone_120 (by decide) (fun h120 => ?_) (fun h120 => False.elim (by omega))
        refine n_iconst hx hb dL_isDone_127 ?_
        refine lv_istore (lv' := [(15, .int (jI 0)), (14, .int (jI 10007)), (13, .int (jI (((15 * ev) : Nat) : Int))), (12, .int (jI 1)), (11, .int (jI ((ev : Nat) : Int))), (0, .ref x0), (1, .ref ae), (2, .ref aq), (3, .ref av), (4, .ref au), (5, .ref aw), (6, .ref ay), (7, .ref ag), (8, .int (jI 0)), (9, .int (jI ((one : Nat) : Int))), (10, .int (jI ((two : Nat) : Int)))]) hx hb dL_isDone_128 hl (by decide) rfl (fun ls hl => ?_)
        refine lv_aload_n hx hb dL_isDone_130 rfl (lv_at hl 6 rfl) ?_
        refine lv_iload hx hb dL_isDone_131 (lv_at hl 2 rfl) ?_
        refine n_bipush hx hb dL_isDone_133 (by decide) ?_
        refine n_iadd hx hb dL_isDone_135 ?_
        refine n_ialdv (i := ((15 * ev) + 13)) (v := (zv (gG ev))) hx hb hK hP 0 0 rfl htI (by omega) (by omega) (Nat.le_of_ble_eq_true rfl) h13 dL_isDone_136 ?_
        refine lv_istore (lv' := [(16, .int (vI (gG ev))), (15, .int (jI 0)), (14, .int (jI 10007)), (13, .int (jI (((15 * ev) : Nat) : Int))), (12, .int (jI 1)), (11, .int (jI ((ev : Nat) : Int))), (0, .ref x0), (1, .ref ae), (2, .ref aq), (3, .ref av), (4, .ref au), (5, .ref aw), (6, .ref ay), (7, .ref ag), (8, .int (jI 0)), (9, .int (jI ((one : Nat) : Int))), (10, .int (jI ((two : Nat) : Int)))]) hx hb dL_isDone_137 hl (by decide) rfl (fun ls hl => ?_)
        refine lv_aload_n hx hb dL_isDone_139 rfl (lv_at hl 7 rfl) ?_
        refine lv_iload hx hb dL_isDone_140 (lv_at hl 3 rfl) ?_
        refine n_bipush hx hb dL_isDone_142 (by decide) ?_
        refine n_iadd hx hb dL_isDone_144 ?_
        refine lv_iload hx hb dL_isDone_145 (lv_at hl 1 rfl) ?_
        refine n_if_eq (tgt := 155) hx hb (by unfold r32; decide) dL_isDone_147 (by decide) (fun h147 => ?_) (fun h147 => False.elim (by revert h147; decide))
        refine lv_iload hx hb dL_isDone_155 (lv_at hl 0 rfl) ?_
        refine n_iast (i := (15 * ev + 13)) hx hb hK hP hD hS 0 0 rfl htI (by omega) (by omega) (Nat.le_of_ble_eq_true rfl) dL_isDone_157 (fun H locs hP hD hS => ?_)
        have hP : va_P D vwCl ((ae, .inl (cI, 45, .inl (fun i => jI ((va_up fe (15 * ev + 13) (zv (gG ev))) i)))) :: (aq, .inl (cJ, 16, .inr (.inl (fun i => jL (fq i))))) :: (av, .inl (cJ, 16, .inr (.inl (fun i => jL (fv i))))) :: (au, .inl (cJ, 16, .inr (.inl (fun i => jL (fu i))))) :: (aw, .inl (cJ, 60, .inr (.inl (fun i => vL (fw i))))) :: (ay, .inl (cJ, 32, .inr (.inl (fun i => vL (fy i))))) :: (ag, .inl (cI, 2, .inl (fun i => jI ((fg i : Nat) : Int)))) :: (CW cI cE cG cM cS x0 q0 q1 qr (ms, es, gE, gM, gB, gT, gG, gN, gK, gD) κ)) H := hP
        have hD : va_D A ((ae, .inl (cI, 45, .inl (fun i => jI ((va_up fe (15 * ev + 13) (zv (gG ev))) i)))) :: (aq, .inl (cJ, 16, .inr (.inl (fun i => jL (fq i))))) :: (av, .inl (cJ, 16, .inr (.inl (fun i => jL (fv i))))) :: (au, .inl (cJ, 16, .inr (.inl (fun i => jL (fu i))))) :: (aw, .inl (cJ, 60, .inr (.inl (fun i => vL (fw i))))) :: (ay, .inl (cJ, 32, .inr (.inl (fun i => vL (fy i))))) :: (ag, .inl (cI, 2, .inl (fun i => jI ((fg i : Nat) : Int)))) :: (CW cI cE cG cM cS x0 q0 q1 qr (ms, es, gE, gM, gB, gT, gG, gN, gK, gD) κ)) := hD
        refine lv_aload_n hx hb dL_isDone_158 rfl (lv_at hl 6 rfl) ?_
        refine n_iconst hx hb dL_isDone_159 ?_
        refine lv_iload hx hb dL_isDone_160 (lv_at hl 5 rfl) ?_
        refine lv_iload hx hb dL_isDone_162 (lv_at hl 2 rfl) ?_
        refine n_iconst hx hb dL_isDone_164 ?_
        refine n_iconst hx hb dL_isDone_165 ?_
        refine n_iconst hx hb dL_isDone_166 ?_
        refine n_iconst hx hb dL_isDone_167 ?_
        have hC := d_gate2 l hl9 D tys htI htE htM htS htG x0 q0 q1 qr ms es gE gM gB gT gG gN gK gD κ hI ev hev 10007 (by unfold r32; omega) (inB_f (by omega))
        have hW := w_does_gate l D tys x0 q0 q1 qr ms es gE gM gB gT gG gN gK gD κ (jI ((ev : Nat) : Int)) (jI 10007) (jI 0) (jI 0) (jI 0) (jI 0) (ms, es, gE, gM, gB, gT, gG, gN, gK, gD) 2 _ hC
        have hP : va_P D vwCl ((CW cI cE cG cM cS x0 q0 q1 qr (ms, es, gE, gM, gB, gT, gG, gN, gK, gD) κ) ++ [(ae, .inl (cI, 45, .inl (fun i => jI ((va_up fe (15 * ev + 13) (zv (gG ev))) i)))), (aq, .inl (cJ, 16, .inr (.inl (fun i => jL (fq i))))), (av, .inl (cJ, 16, .inr (.inl (fun i => jL (fv i))))), (au, .inl (cJ, 16, .inr (.inl (fun i => jL (fu i))))), (aw, .inl (cJ, 60, .inr (.inl (fun i => vL (fw i))))), (ay, .inl (cJ, 32, .inr (.inl (fun i => vL (fy i))))), (ag, .inl (cI, 2, .inl (fun i => jI ((fg i : Nat) : Int))))]) H := hP.perm (List.perm_append_comm (l₁ := ([(ae, .inl (cI, 45, .inl (fun i => jI ((va_up fe (15 * ev + 13) (zv (gG ev))) i)))), (aq, .inl (cJ, 16, .inr (.inl (fun i => jL (fq i))))), (av, .inl (cJ, 16, .inr (.inl (fun i => jL (fv i))))), (au, .inl (cJ, 16, .inr (.inl (fun i => jL (fu i))))), (aw, .inl (cJ, 60, .inr (.inl (fun i => vL (fw i))))), (ay, .inl (cJ, 32, .inr (.inl (fun i => vL (fy i))))), (ag, .inl (cI, 2, .inl (fun i => jI ((fg i : Nat) : Int))))] : va_W)) (l₂ := (CW cI cE cG cM cS x0 q0 q1 qr (ms, es, gE, gM, gB, gT, gG, gN, gK, gD) κ)))
        have hD : va_D A ((CW cI cE cG cM cS x0 q0 q1 qr (ms, es, gE, gM, gB, gT, gG, gN, gK, gD) κ) ++ [(ae, .inl (cI, 45, .inl (fun i => jI ((va_up fe (15 * ev + 13) (zv (gG ev))) i)))), (aq, .inl (cJ, 16, .inr (.inl (fun i => jL (fq i))))), (av, .inl (cJ, 16, .inr (.inl (fun i => jL (fv i))))), (au, .inl (cJ, 16, .inr (.inl (fun i => jL (fu i))))), (aw, .inl (cJ, 60, .inr (.inl (fun i => vL (fw i))))), (ay, .inl (cJ, 32, .inr (.inl (fun i => vL (fy i))))), (ag, .inl (cI, 2, .inl (fun i => jI ((fg i : Nat) : Int))))]) := hD.perm (List.perm_append_comm (l₁ := ([(ae, .inl (cI, 45, .inl (fun i => jI ((va_up fe (15 * ev + 13) (zv (gG ev))) i)))), (aq, .inl (cJ, 16, .inr (.inl (fun i => jL (fq i))))), (av, .inl (cJ, 16, .inr (.inl (fun i => jL (fv i))))), (au, .inl (cJ, 16, .inr (.inl (fun i => jL (fu i))))), (aw, .inl (cJ, 60, .inr (.inl (fun i => vL (fw i))))), (ay, .inl (cJ, 32, .inr (.inl (fun i => vL (fy i))))), (ag, .inl (cI, 2, .inl (fun i => jI ((fg i : Nat) : Int))))] : va_W)) (l₂ := (CW cI cE cG cM cS x0 q0 q1 qr (ms, es, gE, gM, gB, gT, gG, gN, gK, gD) κ)))
        refine a_goNI (vx_runSW (As := [.ref x0, .int (jI 3), .int (jI ((ev : Nat) : Int)), .int (jI 10007), .int (jI 0), .int (jI 0), .int (jI 0), .int (jI 0)]) (rest := []) ⟨hx, hb, hml, hown, hts⟩ (hW _) (vx_cwSW 8 hts gL_isDone_L_does rfl rfl rfl (by decide +kernel) ⟨(Nat.le_of_ble_eq_true rfl), (Nat.le_of_ble_eq_true rfl)⟩) (c_pre hK hXK hZ hN hP hD hS hA) rfl rfl hl.1 rfl (lv_room (Nat.le_of_ble_eq_true rfl)) dL_isDone_168 ⟨(Nat.le_of_ble_eq_true rfl), (Nat.le_of_ble_eq_true rfl)⟩) hP hD hS hA (fun r κ2 H locs hpost hP hD hS => ?_)
        obtain ⟨hr9, hI2⟩ := hpost
        have hr9 : r = jI (-2) := hr9
        subst hr9
        have hP : va_P D vwCl ((CW cI cE cG cM cS x0 q0 q1 qr (ms, es, gE, gM, gB, gT, gG, gN, gK, gD) κ2) ++ [(ae, .inl (cI, 45, .inl (fun i => jI ((va_up fe (15 * ev + 13) (zv (gG ev))) i)))), (aq, .inl (cJ, 16, .inr (.inl (fun i => jL (fq i))))), (av, .inl (cJ, 16, .inr (.inl (fun i => jL (fv i))))), (au, .inl (cJ, 16, .inr (.inl (fun i => jL (fu i))))), (aw, .inl (cJ, 60, .inr (.inl (fun i => vL (fw i))))), (ay, .inl (cJ, 32, .inr (.inl (fun i => vL (fy i))))), (ag, .inl (cI, 2, .inl (fun i => jI ((fg i : Nat) : Int))))]) H := hP
        have hD : va_D A ((CW cI cE cG cM cS x0 q0 q1 qr (ms, es, gE, gM, gB, gT, gG, gN, gK, gD) κ2) ++ [(ae, .inl (cI, 45, .inl (fun i => jI ((va_up fe (15 * ev + 13) (zv (gG ev))) i)))), (aq, .inl (cJ, 16, .inr (.inl (fun i => jL (fq i))))), (av, .inl (cJ, 16, .inr (.inl (fun i => jL (fv i))))), (au, .inl (cJ, 16, .inr (.inl (fun i => jL (fu i))))), (aw, .inl (cJ, 60, .inr (.inl (fun i => vL (fw i))))), (ay, .inl (cJ, 32, .inr (.inl (fun i => vL (fy i))))), (ag, .inl (cI, 2, .inl (fun i => jI ((fg i : Nat) : Int))))]) := hD
        have hP : va_P D vwCl ((ae, .inl (cI, 45, .inl (fun i => jI ((va_up fe (15 * ev + 13) (zv (gG ev))) i)))) :: (aq, .inl (cJ, 16, .inr (.inl (fun i => jL (fq i))))) :: (av, .inl (cJ, 16, .inr (.inl (fun i => jL (fv i))))) :: (au, .inl (cJ, 16, .inr (.inl (fun i => jL (fu i))))) :: (aw, .inl (cJ, 60, .inr (.inl (fun i => vL (fw i))))) :: (ay, .inl (cJ, 32, .inr (.inl (fun i => vL (fy i))))) :: (ag, .inl (cI, 2, .inl (fun i => jI ((fg i : Nat) : Int)))) :: (CW cI cE cG cM cS x0 q0 q1 qr (ms, es, gE, gM, gB, gT, gG, gN, gK, gD) κ2)) H := hP.perm (List.perm_append_comm (l₁ := (CW cI cE cG cM cS x0 q0 q1 qr (ms, es, gE, gM, gB, gT, gG, gN, gK, gD) κ2)) (l₂ := ([(ae, .inl (cI, 45, .inl (fun i => jI ((va_up fe (15 * ev + 13) (zv (gG ev))) i)))), (aq, .inl (cJ, 16, .inr (.inl (fun i => jL (fq i))))), (av, .inl (cJ, 16, .inr (.inl (fun i => jL (fv i))))), (au, .inl (cJ, 16, .inr (.inl (fun i => jL (fu i))))), (aw, .inl (cJ, 60, .inr (.inl (fun i => vL (fw i))))), (ay, .inl (cJ, 32, .inr (.inl (fun i => vL (fy i))))), (ag, .inl (cI, 2, .inl (fun i => jI ((fg i : Nat) : Int))))] : va_W)))
        have hD : va_D A ((ae, .inl (cI, 45, .inl (fun i => jI ((va_up fe (15 * ev + 13) (zv (gG ev))) i)))) :: (aq, .inl (cJ, 16, .inr (.inl (fun i => jL (fq i))))) :: (av, .inl (cJ, 16, .inr (.inl (fun i => jL (fv i))))) :: (au, .inl (cJ, 16, .inr (.inl (fun i => jL (fu i))))) :: (aw, .inl (cJ, 60, .inr (.inl (fun i => vL (fw i))))) :: (ay, .inl (cJ, 32, .inr (.inl (fun i => vL (fy i))))) :: (ag, .inl (cI, 2, .inl (fun i => jI ((fg i : Nat) : Int)))) :: (CW cI cE cG cM cS x0 q0 q1 qr (ms, es, gE, gM, gB, gT, gG, gN, gK, gD) κ2)) := hD.perm (List.perm_append_comm (l₁ := (CW cI cE cG cM cS x0 q0 q1 qr (ms, es, gE, gM, gB, gT, gG, gN, gK, gD) κ2)) (l₂ := ([(ae, .inl (cI, 45, .inl (fun i => jI ((va_up fe (15 * ev + 13) (zv (gG ev))) i)))), (aq, .inl (cJ, 16, .inr (.inl (fun i => jL (fq i))))), (av, .inl (cJ, 16, .inr (.inl (fun i => jL (fv i))))), (au, .inl (cJ, 16, .inr (.inl (fun i => jL (fu i))))), (aw, .inl (cJ, 60, .inr (.inl (fun i => vL (fw i))))), (ay, .inl (cJ, 32, .inr (.inl (fun i => vL (fy i))))), (ag, .inl (cI, 2, .inl (fun i => jI ((fg i : Nat) : Int))))] : va_W)))
        refine lv_iload hx hb dL_isDone_171 (lv_at hl 4 rfl) ?_
        refine n_if_ne (tgt := 181) hx hb (by unfold r32; decide) dL_isDone_173 (by decide) (fun h173 => ?_) (fun h173 => False.elim (by revert h173; decide))
        refine lv_iload hx hb dL_isDone_181 (lv_at hl 1 rfl) ?_
        refine n_if_eq (tgt := 191) hx hb (by unfold r32; decide) dL_isDone_183 (by decide) (fun h183 => ?_) (fun h183 => False.elim (by revert h183; decide))
        refine n_bipush hx hb dL_isDone_191 (by decide) ?_
        refine n_icmp_ne (tgt := 200) hx hb (by unfold r32; omega) (by unfold r32; omega) dL_isDone_193 (by decide) (fun h193 => False.elim (h193 rfl)) (fun h193 => ?_)
        refine n_iconst hx hb dL_isDone_196 ?_
        refine lv_goto (tgt := 201) hx hb dL_isDone_197 (by decide) ?_
        refine W.widen (k := 228) (n := 867) (Nat.le_of_ble_eq_true rfl) (Nat.le_of_ble_eq_true rfl) ?_
        exact y_zret (b := true) ((ms, es, gE, gM, gB, gT, gG, gN, gK, gD), κ2, va_up fe (15 * ev + 13) (zv (gG ev)), fq, fv, fu, fw, fy) hx hb hr hlocks dL_isDone_201 hP hD hS rfl ⟨rfl, hI2, (by have h9 := hL.gate hev (gG ev); rw [up_id] at h9; exact h9.up)⟩
      · refine n_icmp_ne (tgt := 91) hx hb (by unfold r32; omega) (by unfold r32; omega) dL_isDone_82 (by decide) (fun h82 => ?_) (fun h82 => False.elim (by omega))
        refine lv_iload hx hb dL_isDone_91 (lv_at hl 13 rfl) ?_
        refine n_iconst hx hb dL_isDone_93 ?_
        refine n_iremv (v := (((two % 3) : Nat) : Int)) hx hb dL_isDone_94 (by omega) (by omega) (by omega) (by omega) (by omega) ?_
        by_cases h3 : two % 3 = 0
        · refine n_if_ne (tgt := 104) hx hb (by unfold r32; omega) dL_isDone_95 (by decide) (fun h95 => False.elim (by omega)) (fun h95 => ?_)
          refine n_sipush hx hb dL_isDone_98 (by decide) ?_
          refine lv_goto (tgt := 113) hx hb dL_isDone_101 (by decide) ?_
          refine W.eq (g2 := F0 m 113 ls (.int (vI zB) :: [])) (congrArg (fun z : Int => F0 m 113 ls (.int (jI z) :: [])) ezB.symm) ?_
          refine lv_istore (lv' := [(14, .int (vI zB)), (13, .int (jI (((15 * ev) : Nat) : Int))), (12, .int (jI 1)), (11, .int (jI ((ev : Nat) : Int))), (0, .ref x0), (1, .ref ae), (2, .ref aq), (3, .ref av), (4, .ref au), (5, .ref aw), (6, .ref ay), (7, .ref ag), (8, .int (jI 0)), (9, .int (jI ((one : Nat) : Int))), (10, .int (jI ((two : Nat) : Int)))]) hx hb dL_isDone_113 hl (by decide) rfl (fun ls hl => ?_)
          refine lv_iload hx hb dL_isDone_115 (lv_at hl 0 rfl) ?_
          refine n_sipush hx hb dL_isDone_117 (by decide) ?_
          refine n_icmp_ge (tgt := 127) hx hb (r32_z _) (by unfold r32; omega) dL_isDone_120 (by decide) (fun h120 => False.elim (by omega)) (fun h120 => ?_)
          refine n_iconst hx hb dL_isDone_123 ?_
          refine lv_goto (tgt := 128) hx hb dL_isDone_124 (by decide) ?_
          refine lv_istore (lv' := [(15, .int (jI 1)), (14, .int (vI zB)), (13, .int (jI (((15 * ev) : Nat) : Int))), (12, .int (jI 1)), (11, .int (jI ((ev : Nat) : Int))), (0, .ref x0), (1, .ref ae), (2, .ref aq), (3, .ref av), (4, .ref au), (5, .ref aw), (6, .ref ay), (7, .ref ag), (8, .int (jI 0)), (9, .int (jI ((one : Nat) : Int))), (10, .int (jI ((two : Nat) : Int)))]) hx hb dL_isDone_128 hl (by decide) rfl (fun ls hl => ?_)
          refine lv_aload_n hx hb dL_isDone_130 rfl (lv_at hl 6 rfl) ?_
          refine lv_iload hx hb dL_isDone_131 (lv_at hl 2 rfl) ?_
          refine n_bipush hx hb dL_isDone_133 (by decide) ?_
          refine n_iadd hx hb dL_isDone_135 ?_
          refine n_ialdv (i := ((15 * ev) + 13)) (v := (zv (gG ev))) hx hb hK hP 0 0 rfl htI (by omega) (by omega) (Nat.le_of_ble_eq_true rfl) h13 dL_isDone_136 ?_
          refine lv_istore (lv' := [(16, .int (vI (gG ev))), (15, .int (jI 1)), (14, .int (vI zB)), (13, .int (jI (((15 * ev) : Nat) : Int))), (12, .int (jI 1)), (11, .int (jI ((ev : Nat) : Int))), (0, .ref x0), (1, .ref ae), (2, .ref aq), (3, .ref av), (4, .ref au), (5, .ref aw), (6, .ref ay), (7, .ref ag), (8, .int (jI 0)), (9, .int (jI ((one : Nat) : Int))), (10, .int (jI ((two : Nat) : Int)))]) hx hb dL_isDone_137 hl (by decide) rfl (fun ls hl => ?_)
          refine lv_aload_n hx hb dL_isDone_139 rfl (lv_at hl 7 rfl) ?_
          refine lv_iload hx hb dL_isDone_140 (lv_at hl 3 rfl) ?_
          refine n_bipush hx hb dL_isDone_142 (by decide) ?_
          refine n_iadd hx hb dL_isDone_144 ?_
          refine lv_iload hx hb dL_isDone_145 (lv_at hl 1 rfl) ?_
          refine n_if_eq (tgt := 155) hx hb (by unfold r32; decide) dL_isDone_147 (by decide) (fun h147 => False.elim (by revert h147; decide)) (fun h147 => ?_)
          refine lv_iload hx hb dL_isDone_150 (lv_at hl 2 rfl) ?_
          refine lv_goto (tgt := 157) hx hb dL_isDone_152 (by decide) ?_
          refine n_iast (i := (15 * ev + 13)) hx hb hK hP hD hS 0 0 rfl htI (by omega) (by omega) (Nat.le_of_ble_eq_true rfl) dL_isDone_157 (fun H locs hP hD hS => ?_)
          have hP : va_P D vwCl ((ae, .inl (cI, 45, .inl (fun i => jI ((va_up fe (15 * ev + 13) (zv zB)) i)))) :: (aq, .inl (cJ, 16, .inr (.inl (fun i => jL (fq i))))) :: (av, .inl (cJ, 16, .inr (.inl (fun i => jL (fv i))))) :: (au, .inl (cJ, 16, .inr (.inl (fun i => jL (fu i))))) :: (aw, .inl (cJ, 60, .inr (.inl (fun i => vL (fw i))))) :: (ay, .inl (cJ, 32, .inr (.inl (fun i => vL (fy i))))) :: (ag, .inl (cI, 2, .inl (fun i => jI ((fg i : Nat) : Int)))) :: (CW cI cE cG cM cS x0 q0 q1 qr (ms, es, gE, gM, gB, gT, gG, gN, gK, gD) κ)) H := hP
          have hD : va_D A ((ae, .inl (cI, 45, .inl (fun i => jI ((va_up fe (15 * ev + 13) (zv zB)) i)))) :: (aq, .inl (cJ, 16, .inr (.inl (fun i => jL (fq i))))) :: (av, .inl (cJ, 16, .inr (.inl (fun i => jL (fv i))))) :: (au, .inl (cJ, 16, .inr (.inl (fun i => jL (fu i))))) :: (aw, .inl (cJ, 60, .inr (.inl (fun i => vL (fw i))))) :: (ay, .inl (cJ, 32, .inr (.inl (fun i => vL (fy i))))) :: (ag, .inl (cI, 2, .inl (fun i => jI ((fg i : Nat) : Int)))) :: (CW cI cE cG cM cS x0 q0 q1 qr (ms, es, gE, gM, gB, gT, gG, gN, gK, gD) κ)) := hD
          refine lv_aload_n hx hb dL_isDone_158 rfl (lv_at hl 6 rfl) ?_
          refine n_iconst hx hb dL_isDone_159 ?_
          refine lv_iload hx hb dL_isDone_160 (lv_at hl 5 rfl) ?_
          refine lv_iload hx hb dL_isDone_162 (lv_at hl 2 rfl) ?_
          refine n_iconst hx hb dL_isDone_164 ?_
          refine n_iconst hx hb dL_isDone_165 ?_
          refine n_iconst hx hb dL_isDone_166 ?_
          refine n_iconst hx hb dL_isDone_167 ?_
          have hC := d_gate0 l hl9 D tys htI htE htM htS htG x0 q0 q1 qr ms es gE gM gB gT gG gN gK gD κ hI ev hev zB
          have hW := w_does_gate l D tys x0 q0 q1 qr ms es gE gM gB gT gG gN gK gD κ (jI ((ev : Nat) : Int)) (vI zB) (jI 0) (jI 0) (jI 0) (jI 0) (ms, es, gE, gM, gB, gT, va_up gG ev zB, gN, gK, gD) 0 _ hC
          have hP : va_P D vwCl ((CW cI cE cG cM cS x0 q0 q1 qr (ms, es, gE, gM, gB, gT, gG, gN, gK, gD) κ) ++ [(ae, .inl (cI, 45, .inl (fun i => jI ((va_up fe (15 * ev + 13) (zv zB)) i)))), (aq, .inl (cJ, 16, .inr (.inl (fun i => jL (fq i))))), (av, .inl (cJ, 16, .inr (.inl (fun i => jL (fv i))))), (au, .inl (cJ, 16, .inr (.inl (fun i => jL (fu i))))), (aw, .inl (cJ, 60, .inr (.inl (fun i => vL (fw i))))), (ay, .inl (cJ, 32, .inr (.inl (fun i => vL (fy i))))), (ag, .inl (cI, 2, .inl (fun i => jI ((fg i : Nat) : Int))))]) H := hP.perm (List.perm_append_comm (l₁ := ([(ae, .inl (cI, 45, .inl (fun i => jI ((va_up fe (15 * ev + 13) (zv zB)) i)))), (aq, .inl (cJ, 16, .inr (.inl (fun i => jL (fq i))))), (av, .inl (cJ, 16, .inr (.inl (fun i => jL (fv i))))), (au, .inl (cJ, 16, .inr (.inl (fun i => jL (fu i))))), (aw, .inl (cJ, 60, .inr (.inl (fun i => vL (fw i))))), (ay, .inl (cJ, 32, .inr (.inl (fun i => vL (fy i))))), (ag, .inl (cI, 2, .inl (fun i => jI ((fg i : Nat) : Int))))] : va_W)) (l₂ := (CW cI cE cG cM cS x0 q0 q1 qr (ms, es, gE, gM, gB, gT, gG, gN, gK, gD) κ)))
          have hD : va_D A ((CW cI cE cG cM cS x0 q0 q1 qr (ms, es, gE, gM, gB, gT, gG, gN, gK, gD) κ) ++ [(ae, .inl (cI, 45, .inl (fun i => jI ((va_up fe (15 * ev + 13) (zv zB)) i)))), (aq, .inl (cJ, 16, .inr (.inl (fun i => jL (fq i))))), (av, .inl (cJ, 16, .inr (.inl (fun i => jL (fv i))))), (au, .inl (cJ, 16, .inr (.inl (fun i => jL (fu i))))), (aw, .inl (cJ, 60, .inr (.inl (fun i => vL (fw i))))), (ay, .inl (cJ, 32, .inr (.inl (fun i => vL (fy i))))), (ag, .inl (cI, 2, .inl (fun i => jI ((fg i : Nat) : Int))))]) := hD.perm (List.perm_append_comm (l₁ := ([(ae, .inl (cI, 45, .inl (fun i => jI ((va_up fe (15 * ev + 13) (zv zB)) i)))), (aq, .inl (cJ, 16, .inr (.inl (fun i => jL (fq i))))), (av, .inl (cJ, 16, .inr (.inl (fun i => jL (fv i))))), (au, .inl (cJ, 16, .inr (.inl (fun i => jL (fu i))))), (aw, .inl (cJ, 60, .inr (.inl (fun i => vL (fw i))))), (ay, .inl (cJ, 32, .inr (.inl (fun i => vL (fy i))))), (ag, .inl (cI, 2, .inl (fun i => jI ((fg i : Nat) : Int))))] : va_W)) (l₂ := (CW cI cE cG cM cS x0 q0 q1 qr (ms, es, gE, gM, gB, gT, gG, gN, gK, gD) κ)))
          refine a_goNI (vx_runSW (As := [.ref x0, .int (jI 3), .int (jI ((ev : Nat) : Int)), .int (vI zB), .int (jI 0), .int (jI 0), .int (jI 0), .int (jI 0)]) (rest := []) ⟨hx, hb, hml, hown, hts⟩ (hW _) (vx_cwSW 8 hts gL_isDone_L_does rfl rfl rfl (by decide +kernel) ⟨(Nat.le_of_ble_eq_true rfl), (Nat.le_of_ble_eq_true rfl)⟩) (c_pre hK hXK hZ hN hP hD hS hA) rfl rfl hl.1 rfl (lv_room (Nat.le_of_ble_eq_true rfl)) dL_isDone_168 ⟨(Nat.le_of_ble_eq_true rfl), (Nat.le_of_ble_eq_true rfl)⟩) hP hD hS hA (fun r κ2 H locs hpost hP hD hS => ?_)
          obtain ⟨hr9, hI2⟩ := hpost
          have hr9 : r = vI (gG ev) := hr9
          subst hr9
          have hP : va_P D vwCl ((CW cI cE cG cM cS x0 q0 q1 qr (ms, es, gE, gM, gB, gT, va_up gG ev zB, gN, gK, gD) κ2) ++ [(ae, .inl (cI, 45, .inl (fun i => jI ((va_up fe (15 * ev + 13) (zv zB)) i)))), (aq, .inl (cJ, 16, .inr (.inl (fun i => jL (fq i))))), (av, .inl (cJ, 16, .inr (.inl (fun i => jL (fv i))))), (au, .inl (cJ, 16, .inr (.inl (fun i => jL (fu i))))), (aw, .inl (cJ, 60, .inr (.inl (fun i => vL (fw i))))), (ay, .inl (cJ, 32, .inr (.inl (fun i => vL (fy i))))), (ag, .inl (cI, 2, .inl (fun i => jI ((fg i : Nat) : Int))))]) H := hP
          have hD : va_D A ((CW cI cE cG cM cS x0 q0 q1 qr (ms, es, gE, gM, gB, gT, va_up gG ev zB, gN, gK, gD) κ2) ++ [(ae, .inl (cI, 45, .inl (fun i => jI ((va_up fe (15 * ev + 13) (zv zB)) i)))), (aq, .inl (cJ, 16, .inr (.inl (fun i => jL (fq i))))), (av, .inl (cJ, 16, .inr (.inl (fun i => jL (fv i))))), (au, .inl (cJ, 16, .inr (.inl (fun i => jL (fu i))))), (aw, .inl (cJ, 60, .inr (.inl (fun i => vL (fw i))))), (ay, .inl (cJ, 32, .inr (.inl (fun i => vL (fy i))))), (ag, .inl (cI, 2, .inl (fun i => jI ((fg i : Nat) : Int))))]) := hD
          have hP : va_P D vwCl ((ae, .inl (cI, 45, .inl (fun i => jI ((va_up fe (15 * ev + 13) (zv zB)) i)))) :: (aq, .inl (cJ, 16, .inr (.inl (fun i => jL (fq i))))) :: (av, .inl (cJ, 16, .inr (.inl (fun i => jL (fv i))))) :: (au, .inl (cJ, 16, .inr (.inl (fun i => jL (fu i))))) :: (aw, .inl (cJ, 60, .inr (.inl (fun i => vL (fw i))))) :: (ay, .inl (cJ, 32, .inr (.inl (fun i => vL (fy i))))) :: (ag, .inl (cI, 2, .inl (fun i => jI ((fg i : Nat) : Int)))) :: (CW cI cE cG cM cS x0 q0 q1 qr (ms, es, gE, gM, gB, gT, va_up gG ev zB, gN, gK, gD) κ2)) H := hP.perm (List.perm_append_comm (l₁ := (CW cI cE cG cM cS x0 q0 q1 qr (ms, es, gE, gM, gB, gT, va_up gG ev zB, gN, gK, gD) κ2)) (l₂ := ([(ae, .inl (cI, 45, .inl (fun i => jI ((va_up fe (15 * ev + 13) (zv zB)) i)))), (aq, .inl (cJ, 16, .inr (.inl (fun i => jL (fq i))))), (av, .inl (cJ, 16, .inr (.inl (fun i => jL (fv i))))), (au, .inl (cJ, 16, .inr (.inl (fun i => jL (fu i))))), (aw, .inl (cJ, 60, .inr (.inl (fun i => vL (fw i))))), (ay, .inl (cJ, 32, .inr (.inl (fun i => vL (fy i))))), (ag, .inl (cI, 2, .inl (fun i => jI ((fg i : Nat) : Int))))] : va_W)))
          have hD : va_D A ((ae, .inl (cI, 45, .inl (fun i => jI ((va_up fe (15 * ev + 13) (zv zB)) i)))) :: (aq, .inl (cJ, 16, .inr (.inl (fun i => jL (fq i))))) :: (av, .inl (cJ, 16, .inr (.inl (fun i => jL (fv i))))) :: (au, .inl (cJ, 16, .inr (.inl (fun i => jL (fu i))))) :: (aw, .inl (cJ, 60, .inr (.inl (fun i => vL (fw i))))) :: (ay, .inl (cJ, 32, .inr (.inl (fun i => vL (fy i))))) :: (ag, .inl (cI, 2, .inl (fun i => jI ((fg i : Nat) : Int)))) :: (CW cI cE cG cM cS x0 q0 q1 qr (ms, es, gE, gM, gB, gT, va_up gG ev zB, gN, gK, gD) κ2)) := hD.perm (List.perm_append_comm (l₁ := (CW cI cE cG cM cS x0 q0 q1 qr (ms, es, gE, gM, gB, gT, va_up gG ev zB, gN, gK, gD) κ2)) (l₂ := ([(ae, .inl (cI, 45, .inl (fun i => jI ((va_up fe (15 * ev + 13) (zv zB)) i)))), (aq, .inl (cJ, 16, .inr (.inl (fun i => jL (fq i))))), (av, .inl (cJ, 16, .inr (.inl (fun i => jL (fv i))))), (au, .inl (cJ, 16, .inr (.inl (fun i => jL (fu i))))), (aw, .inl (cJ, 60, .inr (.inl (fun i => vL (fw i))))), (ay, .inl (cJ, 32, .inr (.inl (fun i => vL (fy i))))), (ag, .inl (cI, 2, .inl (fun i => jI ((fg i : Nat) : Int))))] : va_W)))
          refine lv_iload hx hb dL_isDone_171 (lv_at hl 4 rfl) ?_
          refine n_if_ne (tgt := 181) hx hb (by unfold r32; decide) dL_isDone_173 (by decide) (fun h173 => ?_) (fun h173 => False.elim (by revert h173; decide))
          refine lv_iload hx hb dL_isDone_181 (lv_at hl 1 rfl) ?_
          refine n_if_eq (tgt := 191) hx hb (by unfold r32; decide) dL_isDone_183 (by decide) (fun h183 => False.elim (by revert h183; decide)) (fun h183 => ?_)
          refine lv_iload hx hb dL_isDone_186 (lv_at hl 0 rfl) ?_
          refine lv_goto (tgt := 193) hx hb dL_isDone_188 (by decide) ?_
          refine n_icmp_ne (tgt := 200) hx hb (r32_z _) (r32_z _) dL_isDone_193 (by decide) (fun h193 => False.elim (h193 rfl)) (fun h193 => ?_)
          refine n_iconst hx hb dL_isDone_196 ?_
          refine lv_goto (tgt := 201) hx hb dL_isDone_197 (by decide) ?_
          refine W.widen (k := 228) (n := 867) (Nat.le_of_ble_eq_true rfl) (Nat.le_of_ble_eq_true rfl) ?_
          exact y_zret (b := true) ((ms, es, gE, gM, gB, gT, va_up gG ev zB, gN, gK, gD), κ2, va_up fe (15 * ev + 13) (zv zB), fq, fv, fu, fw, fy) hx hb hr hlocks dL_isDone_201 hP hD hS rfl ⟨rfl, hI2, (hL.gate hev zB).up⟩
        · refine n_if_ne (tgt := 104) hx hb (by unfold r32; omega) dL_isDone_95 (by decide) (fun h95 => ?_) (fun h95 => False.elim (by omega))
          refine lv_iload hx hb dL_isDone_104 (lv_at hl 13 rfl) ?_
          refine n_bipush hx hb dL_isDone_106 (by decide) ?_
          refine n_idivv (v := (((two / 13) : Nat) : Int)) hx hb dL_isDone_108 (by omega) (by omega) (by omega) (by omega) (by omega) ?_
          refine n_sipush hx hb dL_isDone_109 (by decide) ?_
          refine n_iremv (v := (zv zC)) hx hb dL_isDone_112 (by omega) (by omega) (by omega) (by omega) (by omega) ?_
          refine lv_istore (lv' := [(14, .int (vI zC)), (13, .int (jI (((15 * ev) : Nat) : Int))), (12, .int (jI 1)), (11, .int (jI ((ev : Nat) : Int))), (0, .ref x0), (1, .ref ae), (2, .ref aq), (3, .ref av), (4, .ref au), (5, .ref aw), (6, .ref ay), (7, .ref ag), (8, .int (jI 0)), (9, .int (jI ((one : Nat) : Int))), (10, .int (jI ((two : Nat) : Int)))]) hx hb dL_isDone_113 hl (by decide) rfl (fun ls hl => ?_)
          refine lv_iload hx hb dL_isDone_115 (lv_at hl 0 rfl) ?_
          refine n_sipush hx hb dL_isDone_117 (by decide) ?_
          refine n_icmp_ge (tgt := 127) hx hb (r32_z _) (by unfold r32; omega) dL_isDone_120 (by decide) (fun h120 => False.elim (by omega)) (fun h120 => ?_)
          refine n_iconst hx hb dL_isDone_123 ?_
          refine lv_goto (tgt := 128) hx hb dL_isDone_124 (by decide) ?_
          refine lv_istore (lv' := [(15, .int (jI 1)), (14, .int (vI zC)), (13, .int (jI (((15 * ev) : Nat) : Int))), (12, .int (jI 1)), (11, .int (jI ((ev : Nat) : Int))), (0, .ref x0), (1, .ref ae), (2, .ref aq), (3, .ref av), (4, .ref au), (5, .ref aw), (6, .ref ay), (7, .ref ag), (8, .int (jI 0)), (9, .int (jI ((one : Nat) : Int))), (10, .int (jI ((two : Nat) : Int)))]) hx hb dL_isDone_128 hl (by decide) rfl (fun ls hl => ?_)
          refine lv_aload_n hx hb dL_isDone_130 rfl (lv_at hl 6 rfl) ?_
          refine lv_iload hx hb dL_isDone_131 (lv_at hl 2 rfl) ?_
          refine n_bipush hx hb dL_isDone_133 (by decide) ?_
          refine n_iadd hx hb dL_isDone_135 ?_
          refine n_ialdv (i := ((15 * ev) + 13)) (v := (zv (gG ev))) hx hb hK hP 0 0 rfl htI (by omega) (by omega) (Nat.le_of_ble_eq_true rfl) h13 dL_isDone_136 ?_
          refine lv_istore (lv' := [(16, .int (vI (gG ev))), (15, .int (jI 1)), (14, .int (vI zC)), (13, .int (jI (((15 * ev) : Nat) : Int))), (12, .int (jI 1)), (11, .int (jI ((ev : Nat) : Int))), (0, .ref x0), (1, .ref ae), (2, .ref aq), (3, .ref av), (4, .ref au), (5, .ref aw), (6, .ref ay), (7, .ref ag), (8, .int (jI 0)), (9, .int (jI ((one : Nat) : Int))), (10, .int (jI ((two : Nat) : Int)))]) hx hb dL_isDone_137 hl (by decide) rfl (fun ls hl => ?_)
          refine lv_aload_n hx hb dL_isDone_139 rfl (lv_at hl 7 rfl) ?_
          refine lv_iload hx hb dL_isDone_140 (lv_at hl 3 rfl) ?_
          refine n_bipush hx hb dL_isDone_142 (by decide) ?_
          refine n_iadd hx hb dL_isDone_144 ?_
          refine lv_iload hx hb dL_isDone_145 (lv_at hl 1 rfl) ?_
          refine n_if_eq (tgt := 155) hx hb (by unfold r32; decide) dL_isDone_147 (by decide) (fun h147 => False.elim (by revert h147; decide)) (fun h147 => ?_)
          refine lv_iload hx hb dL_isDone_150 (lv_at hl 2 rfl) ?_
          refine lv_goto (tgt := 157) hx hb dL_isDone_152 (by decide) ?_
          refine n_iast (i := (15 * ev + 13)) hx hb hK hP hD hS 0 0 rfl htI (by omega) (by omega) (Nat.le_of_ble_eq_true rfl) dL_isDone_157 (fun H locs hP hD hS => ?_)
          have hP : va_P D vwCl ((ae, .inl (cI, 45, .inl (fun i => jI ((va_up fe (15 * ev + 13) (zv zC)) i)))) :: (aq, .inl (cJ, 16, .inr (.inl (fun i => jL (fq i))))) :: (av, .inl (cJ, 16, .inr (.inl (fun i => jL (fv i))))) :: (au, .inl (cJ, 16, .inr (.inl (fun i => jL (fu i))))) :: (aw, .inl (cJ, 60, .inr (.inl (fun i => vL (fw i))))) :: (ay, .inl (cJ, 32, .inr (.inl (fun i => vL (fy i))))) :: (ag, .inl (cI, 2, .inl (fun i => jI ((fg i : Nat) : Int)))) :: (CW cI cE cG cM cS x0 q0 q1 qr (ms, es, gE, gM, gB, gT, gG, gN, gK, gD) κ)) H := hP
          have hD : va_D A ((ae, .inl (cI, 45, .inl (fun i => jI ((va_up fe (15 * ev + 13) (zv zC)) i)))) :: (aq, .inl (cJ, 16, .inr (.inl (fun i => jL (fq i))))) :: (av, .inl (cJ, 16, .inr (.inl (fun i => jL (fv i))))) :: (au, .inl (cJ, 16, .inr (.inl (fun i => jL (fu i))))) :: (aw, .inl (cJ, 60, .inr (.inl (fun i => vL (fw i))))) :: (ay, .inl (cJ, 32, .inr (.inl (fun i => vL (fy i))))) :: (ag, .inl (cI, 2, .inl (fun i => jI ((fg i : Nat) : Int)))) :: (CW cI cE cG cM cS x0 q0 q1 qr (ms, es, gE, gM, gB, gT, gG, gN, gK, gD) κ)) := hD
          refine lv_aload_n hx hb dL_isDone_158 rfl (lv_at hl 6 rfl) ?_
          refine n_iconst hx hb dL_isDone_159 ?_
          refine lv_iload hx hb dL_isDone_160 (lv_at hl 5 rfl) ?_
          refine lv_iload hx hb dL_isDone_162 (lv_at hl 2 rfl) ?_
          refine n_iconst hx hb dL_isDone_164 ?_
          refine n_iconst hx hb dL_isDone_165 ?_
          refine n_iconst hx hb dL_isDone_166 ?_
          refine n_iconst hx hb dL_isDone_167 ?_
          have hC := d_gate0 l hl9 D tys htI htE htM htS htG x0 q0 q1 qr ms es gE gM gB gT gG gN gK gD κ hI ev hev zC
          have hW := w_does_gate l D tys x0 q0 q1 qr ms es gE gM gB gT gG gN gK gD κ (jI ((ev : Nat) : Int)) (vI zC) (jI 0) (jI 0) (jI 0) (jI 0) (ms, es, gE, gM, gB, gT, va_up gG ev zC, gN, gK, gD) 0 _ hC
          have hP : va_P D vwCl ((CW cI cE cG cM cS x0 q0 q1 qr (ms, es, gE, gM, gB, gT, gG, gN, gK, gD) κ) ++ [(ae, .inl (cI, 45, .inl (fun i => jI ((va_up fe (15 * ev + 13) (zv zC)) i)))), (aq, .inl (cJ, 16, .inr (.inl (fun i => jL (fq i))))), (av, .inl (cJ, 16, .inr (.inl (fun i => jL (fv i))))), (au, .inl (cJ, 16, .inr (.inl (fun i => jL (fu i))))), (aw, .inl (cJ, 60, .inr (.inl (fun i => vL (fw i))))), (ay, .inl (cJ, 32, .inr (.inl (fun i => vL (fy i))))), (ag, .inl (cI, 2, .inl (fun i => jI ((fg i : Nat) : Int))))]) H := hP.perm (List.perm_append_comm (l₁ := ([(ae, .inl (cI, 45, .inl (fun i => jI ((va_up fe (15 * ev + 13) (zv zC)) i)))), (aq, .inl (cJ, 16, .inr (.inl (fun i => jL (fq i))))), (av, .inl (cJ, 16, .inr (.inl (fun i => jL (fv i))))), (au, .inl (cJ, 16, .inr (.inl (fun i => jL (fu i))))), (aw, .inl (cJ, 60, .inr (.inl (fun i => vL (fw i))))), (ay, .inl (cJ, 32, .inr (.inl (fun i => vL (fy i))))), (ag, .inl (cI, 2, .inl (fun i => jI ((fg i : Nat) : Int))))] : va_W)) (l₂ := (CW cI cE cG cM cS x0 q0 q1 qr (ms, es, gE, gM, gB, gT, gG, gN, gK, gD) κ)))
          have hD : va_D A ((CW cI cE cG cM cS x0 q0 q1 qr (ms, es, gE, gM, gB, gT, gG, gN, gK, gD) κ) ++ [(ae, .inl (cI, 45, .inl (fun i => jI ((va_up fe (15 * ev + 13) (zv zC)) i)))), (aq, .inl (cJ, 16, .inr (.inl (fun i => jL (fq i))))), (av, .inl (cJ, 16, .inr (.inl (fun i => jL (fv i))))), (au, .inl (cJ, 16, .inr (.inl (fun i => jL (fu i))))), (aw, .inl (cJ, 60, .inr (.inl (fun i => vL (fw i))))), (ay, .inl (cJ, 32, .inr (.inl (fun i => vL (fy i))))), (ag, .inl (cI, 2, .inl (fun i => jI ((fg i : Nat) : Int))))]) := hD.perm (List.perm_append_comm (l₁ := ([(ae, .inl (cI, 45, .inl (fun i => jI ((va_up fe (15 * ev + 13) (zv zC)) i)))), (aq, .inl (cJ, 16, .inr (.inl (fun i => jL (fq i))))), (av, .inl (cJ, 16, .inr (.inl (fun i => jL (fv i))))), (au, .inl (cJ, 16, .inr (.inl (fun i => jL (fu i))))), (aw, .inl (cJ, 60, .inr (.inl (fun i => vL (fw i))))), (ay, .inl (cJ, 32, .inr (.inl (fun i => vL (fy i))))), (ag, .inl (cI, 2, .inl (fun i => jI ((fg i : Nat) : Int))))] : va_W)) (l₂ := (CW cI cE cG cM cS x0 q0 q1 qr (ms, es, gE, gM, gB, gT, gG, gN, gK, gD) κ)))
          refine a_goNI (vx_runSW (As := [.ref x0, .int (jI 3), .int (jI ((ev : Nat) : Int)), .int (vI zC), .int (jI 0), .int (jI 0), .int (jI 0), .int (jI 0)]) (rest := []) ⟨hx, hb, hml, hown, hts⟩ (hW _) (vx_cwSW 8 hts gL_isDone_L_does rfl rfl rfl (by decide +kernel) ⟨(Nat.le_of_ble_eq_true rfl), (Nat.le_of_ble_eq_true rfl)⟩) (c_pre hK hXK hZ hN hP hD hS hA) rfl rfl hl.1 rfl (lv_room (Nat.le_of_ble_eq_true rfl)) dL_isDone_168 ⟨(Nat.le_of_ble_eq_true rfl), (Nat.le_of_ble_eq_true rfl)⟩) hP hD hS hA (fun r κ2 H locs hpost hP hD hS => ?_)
          obtain ⟨hr9, hI2⟩ := hpost
          have hr9 : r = vI (gG ev) := hr9
          subst hr9
          have hP : va_P D vwCl ((CW cI cE cG cM cS x0 q0 q1 qr (ms, es, gE, gM, gB, gT, va_up gG ev zC, gN, gK, gD) κ2) ++ [(ae, .inl (cI, 45, .inl (fun i => jI ((va_up fe (15 * ev + 13) (zv zC)) i)))), (aq, .inl (cJ, 16, .inr (.inl (fun i => jL (fq i))))), (av, .inl (cJ, 16, .inr (.inl (fun i => jL (fv i))))), (au, .inl (cJ, 16, .inr (.inl (fun i => jL (fu i))))), (aw, .inl (cJ, 60, .inr (.inl (fun i => vL (fw i))))), (ay, .inl (cJ, 32, .inr (.inl (fun i => vL (fy i))))), (ag, .inl (cI, 2, .inl (fun i => jI ((fg i : Nat) : Int))))]) H := hP
          have hD : va_D A ((CW cI cE cG cM cS x0 q0 q1 qr (ms, es, gE, gM, gB, gT, va_up gG ev zC, gN, gK, gD) κ2) ++ [(ae, .inl (cI, 45, .inl (fun i => jI ((va_up fe (15 * ev + 13) (zv zC)) i)))), (aq, .inl (cJ, 16, .inr (.inl (fun i => jL (fq i))))), (av, .inl (cJ, 16, .inr (.inl (fun i => jL (fv i))))), (au, .inl (cJ, 16, .inr (.inl (fun i => jL (fu i))))), (aw, .inl (cJ, 60, .inr (.inl (fun i => vL (fw i))))), (ay, .inl (cJ, 32, .inr (.inl (fun i => vL (fy i))))), (ag, .inl (cI, 2, .inl (fun i => jI ((fg i : Nat) : Int))))]) := hD
          have hP : va_P D vwCl ((ae, .inl (cI, 45, .inl (fun i => jI ((va_up fe (15 * ev + 13) (zv zC)) i)))) :: (aq, .inl (cJ, 16, .inr (.inl (fun i => jL (fq i))))) :: (av, .inl (cJ, 16, .inr (.inl (fun i => jL (fv i))))) :: (au, .inl (cJ, 16, .inr (.inl (fun i => jL (fu i))))) :: (aw, .inl (cJ, 60, .inr (.inl (fun i => vL (fw i))))) :: (ay, .inl (cJ, 32, .inr (.inl (fun i => vL (fy i))))) :: (ag, .inl (cI, 2, .inl (fun i => jI ((fg i : Nat) : Int)))) :: (CW cI cE cG cM cS x0 q0 q1 qr (ms, es, gE, gM, gB, gT, va_up gG ev zC, gN, gK, gD) κ2)) H := hP.perm (List.perm_append_comm (l₁ := (CW cI cE cG cM cS x0 q0 q1 qr (ms, es, gE, gM, gB, gT, va_up gG ev zC, gN, gK, gD) κ2)) (l₂ := ([(ae, .inl (cI, 45, .inl (fun i => jI ((va_up fe (15 * ev + 13) (zv zC)) i)))), (aq, .inl (cJ, 16, .inr (.inl (fun i => jL (fq i))))), (av, .inl (cJ, 16, .inr (.inl (fun i => jL (fv i))))), (au, .inl (cJ, 16, .inr (.inl (fun i => jL (fu i))))), (aw, .inl (cJ, 60, .inr (.inl (fun i => vL (fw i))))), (ay, .inl (cJ, 32, .inr (.inl (fun i => vL (fy i))))), (ag, .inl (cI, 2, .inl (fun i => jI ((fg i : Nat) : Int))))] : va_W)))
          have hD : va_D A ((ae, .inl (cI, 45, .inl (fun i => jI ((va_up fe (15 * ev + 13) (zv zC)) i)))) :: (aq, .inl (cJ, 16, .inr (.inl (fun i => jL (fq i))))) :: (av, .inl (cJ, 16, .inr (.inl (fun i => jL (fv i))))) :: (au, .inl (cJ, 16, .inr (.inl (fun i => jL (fu i))))) :: (aw, .inl (cJ, 60, .inr (.inl (fun i => vL (fw i))))) :: (ay, .inl (cJ, 32, .inr (.inl (fun i => vL (fy i))))) :: (ag, .inl (cI, 2, .inl (fun i => jI ((fg i : Nat) : Int)))) :: (CW cI cE cG cM cS x0 q0 q1 qr (ms, es, gE, gM, gB, gT, va_up gG ev zC, gN, gK, gD) κ2)) := hD.perm (List.perm_append_comm (l₁ := (CW cI cE cG cM cS x0 q0 q1 qr (ms, es, gE, gM, gB, gT, va_up gG ev zC, gN, gK, gD) κ2)) (l₂ := ([(ae, .inl (cI, 45, .inl (fun i => jI ((va_up fe (15 * ev + 13) (zv zC)) i)))), (aq, .inl (cJ, 16, .inr (.inl (fun i => jL (fq i))))), (av, .inl (cJ, 16, .inr (.inl (fun i => jL (fv i))))), (au, .inl (cJ, 16, .inr (.inl (fun i => jL (fu i))))), (aw, .inl (cJ, 60, .inr (.inl (fun i => vL (fw i))))), (ay, .inl (cJ, 32, .inr (.inl (fun i => vL (fy i))))), (ag, .inl (cI, 2, .inl (fun i => jI ((fg i : Nat) : Int))))] : va_W)))
          refine lv_iload hx hb dL_isDone_171 (lv_at hl 4 rfl) ?_
          refine n_if_ne (tgt := 181) hx hb (by unfold r32; decide) dL_isDone_173 (by decide) (fun h173 => ?_) (fun h173 => False.elim (by revert h173; decide))
          refine lv_iload hx hb dL_isDone_181 (lv_at hl 1 rfl) ?_
          refine n_if_eq (tgt := 191) hx hb (by unfold r32; decide) dL_isDone_183 (by decide) (fun h183 => False.elim (by revert h183; decide)) (fun h183 => ?_)
          refine lv_iload hx hb dL_isDone_186 (lv_at hl 0 rfl) ?_
          refine lv_goto (tgt := 193) hx hb dL_isDone_188 (by decide) ?_
          refine n_icmp_ne (tgt := 200) hx hb (r32_z _) (r32_z _) dL_isDone_193 (by decide) (fun h193 => False.elim (h193 rfl)) (fun h193 => ?_)
          refine n_iconst hx hb dL_isDone_196 ?_
          refine lv_goto (tgt := 201) hx hb dL_isDone_197 (by decide) ?_
          refine W.widen (k := 228) (n := 867) (Nat.le_of_ble_eq_true rfl) (Nat.le_of_ble_eq_true rfl) ?_
          exact y_zret (b := true) ((ms, es, gE, gM, gB, gT, va_up gG ev zC, gN, gK, gD), κ2, va_up fe (15 * ev + 13) (zv zC), fq, fv, fu, fw, fy) hx hb hr hlocks dL_isDone_201 hP hD hS rfl ⟨rfl, hI2, (hL.gate hev zC).up⟩

set_option maxHeartbeats 16000000 in
set_option maxRecDepth 100000 in
theorem c_L_isDone1 (l : Launch) (hl9 : l.stackTraces = false) (D : va_G) (tys : List (ClassId × FieldType)) {cI cE cG cM cS : ClassId} (htI : tys[0]? = some (cI, .int)) (htE : tys[3]? = some (cE, .object RX1)) (htM : tys[4]? = some (cM, .object RX2)) (htS : tys[5]? = some (cS, .object RX4)) (htG : tys[6]? = some (cG, .array .int)) (x0 q0 q1 : Nat) (qr : Nat → Nat) (ms es : Nat) (gE gM gB : Nat → Zp) (gT : Nat → Nat) (gG : Nat → Zp) (gN : Nat → Nat) (gK : Nat → Zp) (gD : Nat → Bool) (κ : Nat → EG) (hI : INV (ms, es, gE, gM, gB, gT, gG, gN, gK, gD) κ) {cJ : ClassId} (htJ : tys[1]? = some (cJ, .long)) (ae aq av au aw ay ag : Nat) (fm fe fq fv fu : Nat → Int) (fw fy : Nat → Zp) (fg : Nat → Nat) (c : Nat) (hL : LI (ms, es, gE, gM, gB, gT, gG, gN, gK, gD) fm fe fq fv fu fg c) (hc : c ≤ 60) (one two : Nat) (s1 : one < 60000) (s2 : two < 60000) : CtW (S := SG × (Nat → EG) × (Nat → Int) × (Nat → Int) × (Nat → Int) × (Nat → Int) × (Nat → Zp) × (Nat → Zp)) l D tys yL_isDone wsL_isDone 12 268 228 867 [.ref x0, .ref ae, .ref aq, .ref av, .ref au, .ref aw, .ref ay, .ref ag, .int (jI 1), .int (jI ((one : Nat) : Int)), .int (jI ((two : Nat) : Int))] (fun (r : Int32) (u : SG × (Nat → EG) × (Nat → Int) × (Nat → Int) × (Nat → Int) × (Nat → Int) × (Nat → Zp) × (Nat → Zp)) => r = jI (iB true) ∧ INV u.1 u.2.1 ∧ LI u.1 fm u.2.2.1 u.2.2.2.1 u.2.2.2.2.1 u.2.2.2.2.2.1 fg (c + 1)) ((ae, .inl (cI, 45, .inl (fun i => jI (fe i)))) :: (aq, .inl (cJ, 16, .inr (.inl (fun i => jL (fq i))))) :: (av, .inl (cJ, 16, .inr (.inl (fun i => jL (fv i))))) :: (au, .inl (cJ, 16, .inr (.inl (fun i => jL (fu i))))) :: (aw, .inl (cJ, 60, .inr (.inl (fun i => vL (fw i))))) :: (ay, .inl (cJ, 32, .inr (.inl (fun i => vL (fy i))))) :: (ag, .inl (cI, 2, .inl (fun i => jI ((fg i : Nat) : Int)))) :: (CW cI cE cG cM cS x0 q0 q1 qr (ms, es, gE, gM, gB, gT, gG, gN, gK, gD) κ)) (fun (u : SG × (Nat → EG) × (Nat → Int) × (Nat → Int) × (Nat → Int) × (Nat → Int) × (Nat → Zp) × (Nat → Zp)) => ((ae, .inl (cI, 45, .inl (fun i => jI (u.2.2.1 i)))) :: (aq, .inl (cJ, 16, .inr (.inl (fun i => jL (u.2.2.2.1 i))))) :: (av, .inl (cJ, 16, .inr (.inl (fun i => jL (u.2.2.2.2.1 i))))) :: (au, .inl (cJ, 16, .inr (.inl (fun i => jL (u.2.2.2.2.2.1 i))))) :: (aw, .inl (cJ, 60, .inr (.inl (fun i => vL (u.2.2.2.2.2.2.1 i))))) :: (ay, .inl (cJ, 32, .inr (.inl (fun i => vL (u.2.2.2.2.2.2.2 i))))) :: (ag, .inl (cI, 2, .inl (fun i => jI ((fg i : Nat) : Int)))) :: (CW cI cE cG cM cS x0 q0 q1 qr u.1 u.2.1))) := by
  refine CtW.ofP (cc := cL_isDone) (maxL := 24) (by decide +kernel) rfl (Nat.le_of_ble_eq_true rfl) ?_
  intro p e s m below meth c9 A ls hcx hK hXK hZ hN hP hD hA hl
  obtain ⟨hx, hb, hr, hml, hown, hts, hlocks⟩ := hcx
  have hS : va_S A s.heap s.heap [] := va_S.rf
  have hown : s.vm.findClass RL = some m.cls := hown
  have hl : lv_has ls 24 [(0, .ref x0), (1, .ref ae), (2, .ref aq), (3, .ref av), (4, .ref au), (5, .ref aw), (6, .ref ay), (7, .ref ag), (8, .int (jI 1)), (9, .int (jI ((one : Nat) : Int))), (10, .int (jI ((two : Nat) : Int)))] := hl
  obtain ⟨b3, b2, hg0, hg1, hm, hLe, c0, c1⟩ := id hL
  refine lv_iload hx hb dL_isDone_0 (lv_at hl 9 rfl) ?_
  refine n_bipush hx hb dL_isDone_2 (by decide) ?_
  refine n_iremv (v := (((one % 7) : Nat) : Int)) hx hb dL_isDone_4 (by omega) (by omega) (by omega) (by omega) (by omega) ?_
  refine n_bipush hx hb dL_isDone_5 (by decide) ?_
  have hF : ∀ nn : Nat, es ≤ nn → nn ≤ 2 → ∀ (ls : Array Slot), lv_has ls 24 [(0, .ref x0), (1, .ref ae), (2, .ref aq), (3, .ref av), (4, .ref au), (5, .ref aw), (6, .ref ay), (7, .ref ag), (8, .int (jI 1)), (9, .int (jI ((one : Nat) : Int))), (10, .int (jI ((two : Nat) : Int)))] → W p l e { frames := 12, cells := 228, slots := 867, locals := 268 } s m ([Value.ref x0, .ref ae, .ref aq, .ref av, .ref au, .ref aw, .ref ay, .ref ag, .int (jI 1), .int (jI ((one : Nat) : Int)), .int (jI ((two : Nat) : Int))] : List Value).toArray below meth c9 s.heap [] 0 0 (MQ below (ENI D A (fun (r : Int32) (u : SG × (Nat → EG) × (Nat → Int) × (Nat → Int) × (Nat → Int) × (Nat → Int) × (Nat → Zp) × (Nat → Zp)) => r = jI (iB true) ∧ INV u.1 u.2.1 ∧ LI u.1 fm u.2.2.1 u.2.2.2.1 u.2.2.2.2.1 u.2.2.2.2.2.1 fg (c + 1)) (fun (u : SG × (Nat → EG) × (Nat → Int) × (Nat → Int) × (Nat → Int) × (Nat → Int) × (Nat → Zp) × (Nat → Zp)) => ((ae, .inl (cI, 45, .inl (fun i => jI (u.2.2.1 i)))) :: (aq, .inl (cJ, 16, .inr (.inl (fun i => jL (u.2.2.2.1 i))))) :: (av, .inl (cJ, 16, .inr (.inl (fun i => jL (u.2.2.2.2.1 i))))) :: (au, .inl (cJ, 16, .inr (.inl (fun i => jL (u.2.2.2.2.2.1 i))))) :: (aw, .inl (cJ, 60, .inr (.inl (fun i => vL (u.2.2.2.2.2.2.1 i))))) :: (ay, .inl (cJ, 32, .inr (.inl (fun i => vL (u.2.2.2.2.2.2.2 i))))) :: (ag, .inl (cI, 2, .inl (fun i => jI ((fg i : Nat) : Int)))) :: (CW cI cE cG cM cS x0 q0 q1 qr u.1 u.2.1))) (fun _ => [])) ([Value.ref x0, .ref ae, .ref aq, .ref av, .ref au, .ref aw, .ref ay, .ref ag, .int (jI 1), .int (jI ((one : Nat) : Int)), .int (jI ((two : Nat) : Int))] : List Value).toArray s 228 867 A) (F0 m 35 ls [.int (jI ((nn : Nat) : Int))]) := by
    intro nn hnn hn2 ls hl
    refine lv_istore (lv' := [(11, .int (jI ((nn : Nat) : Int))), (0, .ref x0), (1, .ref ae), (2, .ref aq), (3, .ref av), (4, .ref au), (5, .ref aw), (6, .ref ay), (7, .ref ag), (8, .int (jI 1)), (9, .int (jI ((one : Nat) : Int))), (10, .int (jI ((two : Nat) : Int)))]) hx hb dL_isDone_35 hl (by decide) rfl (fun ls hl => ?_)
    refine lv_iload hx hb dL_isDone_37 (lv_at hl 0 rfl) ?_
    refine lv_aload hx hb dL_isDone_39 (lv_at hl 8 rfl) ?_
    refine n_iconst hx hb dL_isDone_41 ?_
    refine n_nalv (i := 1) (v := ((es : Nat) : Int)) hx hb hK hP 6 0 rfl htI rfl (Nat.le_of_ble_eq_true rfl) (Nat.le_of_ble_eq_true rfl) (congrArg (fun z : Nat => (z : Int)) hg1) dL_isDone_42 ?_
    refine n_icmp_ge (tgt := 50) hx hb (by unfold r32; omega) (by unfold r32; omega) dL_isDone_43 (by decide) (fun h43 => ?_) (fun h43 => False.elim (by omega))
    refine n_iconst hx hb dL_isDone_50 ?_
    refine lv_istore (lv' := [(12, .int (jI 0)), (11, .int (jI ((nn : Nat) : Int))), (0, .ref x0), (1, .ref ae), (2, .ref aq), (3, .ref av), (4, .ref au), (5, .ref aw), (6, .ref ay), (7, .ref ag), (8, .int (jI 1)), (9, .int (jI ((one : Nat) : Int))), (10, .int (jI ((two : Nat) : Int)))]) hx hb dL_isDone_51 hl (by decide) rfl (fun ls hl => ?_)
    refine lv_iload hx hb dL_isDone_53 (lv_at hl 0 rfl) ?_
    refine n_if_eq (tgt := 66) hx hb (by unfold r32; decide) dL_isDone_55 (by decide) (fun h55 => ?_) (fun h55 => False.elim (by revert h55; decide))
    refine n_bipush hx hb dL_isDone_66 (by decide) ?_
    refine lv_istore (lv' := [(13, .int (jI 30)), (12, .int (jI 0)), (11, .int (jI ((nn : Nat) : Int))), (0, .ref x0), (1, .ref ae), (2, .ref aq), (3, .ref av), (4, .ref au), (5, .ref aw), (6, .ref ay), (7, .ref ag), (8, .int (jI 1)), (9, .int (jI ((one : Nat) : Int))), (10, .int (jI ((two : Nat) : Int)))]) hx hb dL_isDone_68 hl (by decide) rfl (fun ls hl => ?_)
    refine lv_iload hx hb dL_isDone_70 (lv_at hl 11 rfl) ?_
    refine n_if_ne (tgt := 202) hx hb (by unfold r32; decide) dL_isDone_72 (by decide) (fun h72 => ?_) (fun h72 => False.elim (by revert h72; decide))
    refine lv_iload hx hb dL_isDone_202 (lv_at hl 11 rfl) ?_
    refine n_iconst hx hb dL_isDone_204 ?_
    refine n_icmp_ne (tgt := 276) hx hb (by unfold r32; decide) (by unfold r32; decide) dL_isDone_205 (by decide) (fun h205 => False.elim (by revert h205; decide)) (fun h205 => ?_)
    refine lv_iload hx hb dL_isDone_208 (lv_at hl 1 rfl) ?_
    refine n_if_eq (tgt := 227) hx hb (by unfold r32; decide) dL_isDone_210 (by decide) (fun h210 => ?_) (fun h210 => False.elim (by revert h210; decide))
    refine lv_aload_n hx hb dL_isDone_227 rfl (lv_at hl 4 rfl) ?_
    refine lv_iload hx hb dL_isDone_228 (lv_at hl 0 rfl) ?_
    refine n_bipush hx hb dL_isDone_230 (by decide) ?_
    refine n_iadd hx hb dL_isDone_232 ?_
    refine lv_dup2_11 hx hb dL_isDone_233 rfl rfl ?_
    refine n_ialdv (i := (30 + 12)) (v := (fe 42)) hx hb hK hP 0 0 rfl htI (by omega) (by omega) (Nat.le_of_ble_eq_true rfl) rfl dL_isDone_234 ?_
    refine n_iconst hx hb dL_isDone_235 ?_
    refine n_iadd hx hb dL_isDone_236 ?_
    refine n_iast (i := 42) hx hb hK hP hD hS 0 0 rfl htI (by omega) (Nat.le_of_ble_eq_true rfl) (Nat.le_of_ble_eq_true rfl) dL_isDone_237 (fun H locs hP hD hS => ?_)
    have hP : va_P D vwCl ((ae, .inl (cI, 45, .inl (fun i => jI ((va_up fe 42 ((fe 42) + 1)) i)))) :: (aq, .inl (cJ, 16, .inr (.inl (fun i => jL (fq i))))) :: (av, .inl (cJ, 16, .inr (.inl (fun i => jL (fv i))))) :: (au, .inl (cJ, 16, .inr (.inl (fun i => jL (fu i))))) :: (aw, .inl (cJ, 60, .inr (.inl (fun i => vL (fw i))))) :: (ay, .inl (cJ, 32, .inr (.inl (fun i => vL (fy i))))) :: (ag, .inl (cI, 2, .inl (fun i => jI ((fg i : Nat) : Int)))) :: (CW cI cE cG cM cS x0 q0 q1 qr (ms, es, gE, gM, gB, gT, gG, gN, gK, gD) κ)) H := hP
    have hD : va_D A ((ae, .inl (cI, 45, .inl (fun i => jI ((va_up fe 42 ((fe 42) + 1)) i)))) :: (aq, .inl (cJ, 16, .inr (.inl (fun i => jL (fq i))))) :: (av, .inl (cJ, 16, .inr (.inl (fun i => jL (fv i))))) :: (au, .inl (cJ, 16, .inr (.inl (fun i => jL (fu i))))) :: (aw, .inl (cJ, 60, .inr (.inl (fun i => vL (fw i))))) :: (ay, .inl (cJ, 32, .inr (.inl (fun i => vL (fy i))))) :: (ag, .inl (cI, 2, .inl (fun i => jI ((fg i : Nat) : Int)))) :: (CW cI cE cG cM cS x0 q0 q1 qr (ms, es, gE, gM, gB, gT, gG, gN, gK, gD) κ)) := hD
    refine lv_aload_n hx hb dL_isDone_238 rfl (lv_at hl 3 rfl) ?_
    refine n_iconst hx hb dL_isDone_239 ?_
    refine lv_iload hx hb dL_isDone_240 (lv_at hl 2 rfl) ?_
    refine n_iconst hx hb dL_isDone_242 ?_
    refine n_iconst hx hb dL_isDone_243 ?_
    refine n_iconst hx hb dL_isDone_244 ?_
    refine n_iconst hx hb dL_isDone_245 ?_
    refine n_iconst hx hb dL_isDone_246 ?_
    have hC := d_predict1 l hl9 D tys htI htE htM htS htG x0 q0 q1 qr ms es gE gM gB gT gG gN gK gD κ hI ((nn : Nat) : Int) (by unfold r32; omega) (inB_f (by omega))
    have hW := w_does_predict l D tys x0 q0 q1 qr ms es gE gM gB gT gG gN gK gD κ (jI ((nn : Nat) : Int)) (jI 0) (jI 0) (jI 0) (jI 0) (jI 0) (ms, es, gE, gM, gB, gT, gG, gN, gK, gD) 1 _ hC
    have hP : va_P D vwCl ((CW cI cE cG cM cS x0 q0 q1 qr (ms, es, gE, gM, gB, gT, gG, gN, gK, gD) κ) ++ [(ae, .inl (cI, 45, .inl (fun i => jI ((va_up fe 42 ((fe 42) + 1)) i)))), (aq, .inl (cJ, 16, .inr (.inl (fun i => jL (fq i))))), (av, .inl (cJ, 16, .inr (.inl (fun i => jL (fv i))))), (au, .inl (cJ, 16, .inr (.inl (fun i => jL (fu i))))), (aw, .inl (cJ, 60, .inr (.inl (fun i => vL (fw i))))), (ay, .inl (cJ, 32, .inr (.inl (fun i => vL (fy i))))), (ag, .inl (cI, 2, .inl (fun i => jI ((fg i : Nat) : Int))))]) H := hP.perm (List.perm_append_comm (l₁ := ([(ae, .inl (cI, 45, .inl (fun i => jI ((va_up fe 42 ((fe 42) + 1)) i)))), (aq, .inl (cJ, 16, .inr (.inl (fun i => jL (fq i))))), (av, .inl (cJ, 16, .inr (.inl (fun i => jL (fv i))))), (au, .inl (cJ, 16, .inr (.inl (fun i => jL (fu i))))), (aw, .inl (cJ, 60, .inr (.inl (fun i => vL (fw i))))), (ay, .inl (cJ, 32, .inr (.inl (fun i => vL (fy i))))), (ag, .inl (cI, 2, .inl (fun i => jI ((fg i : Nat) : Int))))] : va_W)) (l₂ := (CW cI cE cG cM cS x0 q0 q1 qr (ms, es, gE, gM, gB, gT, gG, gN, gK, gD) κ)))
    have hD : va_D A ((CW cI cE cG cM cS x0 q0 q1 qr (ms, es, gE, gM, gB, gT, gG, gN, gK, gD) κ) ++ [(ae, .inl (cI, 45, .inl (fun i => jI ((va_up fe 42 ((fe 42) + 1)) i)))), (aq, .inl (cJ, 16, .inr (.inl (fun i => jL (fq i))))), (av, .inl (cJ, 16, .inr (.inl (fun i => jL (fv i))))), (au, .inl (cJ, 16, .inr (.inl (fun i => jL (fu i))))), (aw, .inl (cJ, 60, .inr (.inl (fun i => vL (fw i))))), (ay, .inl (cJ, 32, .inr (.inl (fun i => vL (fy i))))), (ag, .inl (cI, 2, .inl (fun i => jI ((fg i : Nat) : Int))))]) := hD.perm (List.perm_append_comm (l₁ := ([(ae, .inl (cI, 45, .inl (fun i => jI ((va_up fe 42 ((fe 42) + 1)) i)))), (aq, .inl (cJ, 16, .inr (.inl (fun i => jL (fq i))))), (av, .inl (cJ, 16, .inr (.inl (fun i => jL (fv i))))), (au, .inl (cJ, 16, .inr (.inl (fun i => jL (fu i))))), (aw, .inl (cJ, 60, .inr (.inl (fun i => vL (fw i))))), (ay, .inl (cJ, 32, .inr (.inl (fun i => vL (fy i))))), (ag, .inl (cI, 2, .inl (fun i => jI ((fg i : Nat) : Int))))] : va_W)) (l₂ := (CW cI cE cG cM cS x0 q0 q1 qr (ms, es, gE, gM, gB, gT, gG, gN, gK, gD) κ)))
    refine a_goNI (vx_runSW (As := [.ref x0, .int (jI 4), .int (jI ((nn : Nat) : Int)), .int (jI 0), .int (jI 0), .int (jI 0), .int (jI 0), .int (jI 0)]) (rest := []) ⟨hx, hb, hml, hown, hts⟩ (hW _) (vx_cwSW 8 hts gL_isDone_L_does rfl rfl rfl (by decide +kernel) ⟨(Nat.le_of_ble_eq_true rfl), (Nat.le_of_ble_eq_true rfl)⟩) (c_pre hK hXK hZ hN hP hD hS hA) rfl rfl hl.1 rfl (lv_room (Nat.le_of_ble_eq_true rfl)) dL_isDone_247 ⟨(Nat.le_of_ble_eq_true rfl), (Nat.le_of_ble_eq_true rfl)⟩) hP hD hS hA (fun r κ2 H locs hpost hP hD hS => ?_)
    obtain ⟨hr9, hI2⟩ := hpost
    have hr9 : r = jI (-3) := hr9
    subst hr9
    have hP : va_P D vwCl ((CW cI cE cG cM cS x0 q0 q1 qr (ms, es, gE, gM, gB, gT, gG, gN, gK, gD) κ2) ++ [(ae, .inl (cI, 45, .inl (fun i => jI ((va_up fe 42 ((fe 42) + 1)) i)))), (aq, .inl (cJ, 16, .inr (.inl (fun i => jL (fq i))))), (av, .inl (cJ, 16, .inr (.inl (fun i => jL (fv i))))), (au, .inl (cJ, 16, .inr (.inl (fun i => jL (fu i))))), (aw, .inl (cJ, 60, .inr (.inl (fun i => vL (fw i))))), (ay, .inl (cJ, 32, .inr (.inl (fun i => vL (fy i))))), (ag, .inl (cI, 2, .inl (fun i => jI ((fg i : Nat) : Int))))]) H := hP
    have hD : va_D A ((CW cI cE cG cM cS x0 q0 q1 qr (ms, es, gE, gM, gB, gT, gG, gN, gK, gD) κ2) ++ [(ae, .inl (cI, 45, .inl (fun i => jI ((va_up fe 42 ((fe 42) + 1)) i)))), (aq, .inl (cJ, 16, .inr (.inl (fun i => jL (fq i))))), (av, .inl (cJ, 16, .inr (.inl (fun i => jL (fv i))))), (au, .inl (cJ, 16, .inr (.inl (fun i => jL (fu i))))), (aw, .inl (cJ, 60, .inr (.inl (fun i => vL (fw i))))), (ay, .inl (cJ, 32, .inr (.inl (fun i => vL (fy i))))), (ag, .inl (cI, 2, .inl (fun i => jI ((fg i : Nat) : Int))))]) := hD
    have hP : va_P D vwCl ((ae, .inl (cI, 45, .inl (fun i => jI ((va_up fe 42 ((fe 42) + 1)) i)))) :: (aq, .inl (cJ, 16, .inr (.inl (fun i => jL (fq i))))) :: (av, .inl (cJ, 16, .inr (.inl (fun i => jL (fv i))))) :: (au, .inl (cJ, 16, .inr (.inl (fun i => jL (fu i))))) :: (aw, .inl (cJ, 60, .inr (.inl (fun i => vL (fw i))))) :: (ay, .inl (cJ, 32, .inr (.inl (fun i => vL (fy i))))) :: (ag, .inl (cI, 2, .inl (fun i => jI ((fg i : Nat) : Int)))) :: (CW cI cE cG cM cS x0 q0 q1 qr (ms, es, gE, gM, gB, gT, gG, gN, gK, gD) κ2)) H := hP.perm (List.perm_append_comm (l₁ := (CW cI cE cG cM cS x0 q0 q1 qr (ms, es, gE, gM, gB, gT, gG, gN, gK, gD) κ2)) (l₂ := ([(ae, .inl (cI, 45, .inl (fun i => jI ((va_up fe 42 ((fe 42) + 1)) i)))), (aq, .inl (cJ, 16, .inr (.inl (fun i => jL (fq i))))), (av, .inl (cJ, 16, .inr (.inl (fun i => jL (fv i))))), (au, .inl (cJ, 16, .inr (.inl (fun i => jL (fu i))))), (aw, .inl (cJ, 60, .inr (.inl (fun i => vL (fw i))))), (ay, .inl (cJ, 32, .inr (.inl (fun i => vL (fy i))))), (ag, .inl (cI, 2, .inl (fun i => jI ((fg i : Nat) : Int))))] : va_W)))
    have hD : va_D A ((ae, .inl (cI, 45, .inl (fun i => jI ((va_up fe 42 ((fe 42) + 1)) i)))) :: (aq, .inl (cJ, 16, .inr (.inl (fun i => jL (fq i))))) :: (av, .inl (cJ, 16, .inr (.inl (fun i => jL (fv i))))) :: (au, .inl (cJ, 16, .inr (.inl (fun i => jL (fu i))))) :: (aw, .inl (cJ, 60, .inr (.inl (fun i => vL (fw i))))) :: (ay, .inl (cJ, 32, .inr (.inl (fun i => vL (fy i))))) :: (ag, .inl (cI, 2, .inl (fun i => jI ((fg i : Nat) : Int)))) :: (CW cI cE cG cM cS x0 q0 q1 qr (ms, es, gE, gM, gB, gT, gG, gN, gK, gD) κ2)) := hD.perm (List.perm_append_comm (l₁ := (CW cI cE cG cM cS x0 q0 q1 qr (ms, es, gE, gM, gB, gT, gG, gN, gK, gD) κ2)) (l₂ := ([(ae, .inl (cI, 45, .inl (fun i => jI ((va_up fe 42 ((fe 42) + 1)) i)))), (aq, .inl (cJ, 16, .inr (.inl (fun i => jL (fq i))))), (av, .inl (cJ, 16, .inr (.inl (fun i => jL (fv i))))), (au, .inl (cJ, 16, .inr (.inl (fun i => jL (fu i))))), (aw, .inl (cJ, 60, .inr (.inl (fun i => vL (fw i))))), (ay, .inl (cJ, 32, .inr (.inl (fun i => vL (fy i))))), (ag, .inl (cI, 2, .inl (fun i => jI ((fg i : Nat) : Int))))] : va_W)))
    refine lv_iload hx hb dL_isDone_250 (lv_at hl 1 rfl) ?_
    refine n_if_eq (tgt := 265) hx hb (by unfold r32; decide) dL_isDone_252 (by decide) (fun h252 => ?_) (fun h252 => False.elim (by revert h252; decide))
    refine n_bipush hx hb dL_isDone_265 (by decide) ?_
    refine n_icmp_ne (tgt := 274) hx hb (by unfold r32; omega) (by unfold r32; omega) dL_isDone_267 (by decide) (fun h267 => False.elim (h267 rfl)) (fun h267 => ?_)
    refine n_iconst hx hb dL_isDone_270 ?_
    refine lv_goto (tgt := 275) hx hb dL_isDone_271 (by decide) ?_
    refine W.widen (k := 228) (n := 867) (Nat.le_of_ble_eq_true rfl) (Nat.le_of_ble_eq_true rfl) ?_
    exact y_zret (b := true) ((ms, es, gE, gM, gB, gT, gG, gN, gK, gD), κ2, va_up fe 42 ((fe 42) + 1), fq, fv, fu, fw, fy) hx hb hr hlocks dL_isDone_275 hP hD hS rfl ⟨rfl, hI2, hL.e42⟩
  by_cases h6 : one % 7 = 6
  · refine n_icmp_ne (tgt := 17) hx hb (by unfold r32; omega) (by unfold r32; omega) dL_isDone_7 (by decide) (fun h7 => False.elim (by omega)) (fun h7 => ?_)
    refine lv_aload hx hb dL_isDone_10 (lv_at hl 7 rfl) ?_
    refine n_iconst hx hb dL_isDone_12 ?_
    refine n_nalv (i := 1) (v := ((es : Nat) : Int)) hx hb hK hP 6 0 rfl htI rfl (Nat.le_of_ble_eq_true rfl) (Nat.le_of_ble_eq_true rfl) (congrArg (fun z : Nat => (z : Int)) hg1) dL_isDone_13 ?_
    refine lv_goto (tgt := 35) hx hb dL_isDone_14 (by decide) ?_
    exact hF es (by omega) (by omega) ls hl
  · refine n_icmp_ne (tgt := 17) hx hb (by unfold r32; omega) (by unfold r32; omega) dL_isDone_7 (by decide) (fun h7 => ?_) (fun h7 => False.elim (by omega))
    refine lv_aload hx hb dL_isDone_17 (lv_at hl 7 rfl) ?_
    refine n_iconst hx hb dL_isDone_19 ?_
    refine n_nalv (i := 1) (v := ((es : Nat) : Int)) hx hb hK hP 6 0 rfl htI rfl (Nat.le_of_ble_eq_true rfl) (Nat.le_of_ble_eq_true rfl) (congrArg (fun z : Nat => (z : Int)) hg1) dL_isDone_20 ?_
    by_cases he0 : es = 0
    · refine n_if_ne (tgt := 28) hx hb (by unfold r32; omega) dL_isDone_21 (by decide) (fun h21 => False.elim (by omega)) (fun h21 => ?_)
      refine n_iconst hx hb dL_isDone_24 ?_
      refine lv_goto (tgt := 35) hx hb dL_isDone_25 (by decide) ?_
      exact hF 0 (by omega) (by omega) ls hl
    · refine n_if_ne (tgt := 28) hx hb (by unfold r32; omega) dL_isDone_21 (by decide) (fun h21 => ?_) (fun h21 => False.elim (by omega))
      obtain ⟨ev, eev, lev⟩ := rem_ex ((one : Nat) : Int) ((es : Nat) : Int) (by omega)
      have hev : ev < es := by omega
      obtain ⟨h12, h14, hT6, hN8, hZ8, hEs⟩ := hLe ev (by omega)
      obtain ⟨hEW, h13, hMW⟩ := hEs hev
      have bG := zv_le (gG ev)
      have aG := zv_0 (gG ev)
      have hat : (15 * ((ev : Nat) : Int)) = (((15 * ev) : Nat) : Int) := by omega
      refine lv_iload hx hb dL_isDone_28 (lv_at hl 9 rfl) ?_
      refine lv_aload hx hb dL_isDone_30 (lv_at hl 7 rfl) ?_
      refine n_iconst hx hb dL_isDone_32 ?_
      refine n_nalv (i := 1) (v := ((es : Nat) : Int)) hx hb hK hP 6 0 rfl htI rfl (Nat.le_of_ble_eq_true rfl) (Nat.le_of_ble_eq_true rfl) (congrArg (fun z : Nat => (z : Int)) hg1) dL_isDone_33 ?_
      refine n_iremv (v := ((ev : Nat) : Int)) hx hb dL_isDone_34 (by omega) (by omega) (by omega) (by omega) eev ?_
      refine lv_istore (lv' := [(11, .int (jI ((ev : Nat) : Int))), (0, .ref x0), (1, .ref ae), (2, .ref aq), (3, .ref av), (4, .ref au), (5, .ref aw), (6, .ref ay), (7, .ref ag), (8, .int (jI 1)), (9, .int (jI ((one : Nat) : Int))), (10, .int (jI ((two : Nat) : Int)))]) hx hb dL_isDone_35 hl (by decide) rfl (fun ls hl => ?_)
      refine lv_iload hx hb dL_isDone_37 (lv_at hl 0 rfl) ?_
      refine lv_aload hx hb dL_isDone_39 (lv_at hl 8 rfl) ?_
      refine n_iconst hx hb dL_isDone_41 ?_
      refine n_nalv (i := 1) (v := ((es : Nat) : Int)) hx hb hK hP 6 0 rfl htI rfl (Nat.le_of_ble_eq_true rfl) (Nat.le_of_ble_eq_true rfl) (congrArg (fun z : Nat => (z : Int)) hg1) dL_isDone_42 ?_
      refine n_icmp_ge (tgt := 50) hx hb (by unfold r32; omega) (by unfold r32; omega) dL_isDone_43 (by decide) (fun h43 => False.elim (by omega)) (fun h43 => ?_)
      refine n_iconst hx hb dL_isDone_46 ?_
      refine lv_goto (tgt := 51) hx hb dL_isDone_47 (by decide) ?_
      refine lv_istore (lv' := [(12, .int (jI 1)), (11, .int (jI ((ev : Nat) : Int))), (0, .ref x0), (1, .ref ae), (2, .ref aq), (3, .ref av), (4, .ref au), (5, .ref aw), (6, .ref ay), (7, .ref ag), (8, .int (jI 1)), (9, .int (jI ((one : Nat) : Int))), (10, .int (jI ((two : Nat) : Int)))]) hx hb dL_isDone_51 hl (by decide) rfl (fun ls hl => ?_)
      refine lv_iload hx hb dL_isDone_53 (lv_at hl 0 rfl) ?_
      refine n_if_eq (tgt := 66) hx hb (by unfold r32; decide) dL_isDone_55 (by decide) (fun h55 => False.elim (by revert h55; decide)) (fun h55 => ?_)
      refine n_bipush hx hb dL_isDone_58 (by decide) ?_
      refine lv_iload hx hb dL_isDone_60 (lv_at hl 1 rfl) ?_
      refine n_imul hx hb dL_isDone_62 ?_
      rw [hat]
      refine lv_goto (tgt := 68) hx hb dL_isDone_63 (by decide) ?_
      refine lv_istore (lv' := [(13, .int (jI (((15 * ev) : Nat) : Int))), (12, .int (jI 1)), (11, .int (jI ((ev : Nat) : Int))), (0, .ref x0), (1, .ref ae), (2, .ref aq), (3, .ref av), (4, .ref au), (5, .ref aw), (6, .ref ay), (7, .ref ag), (8, .int (jI 1)), (9, .int (jI ((one : Nat) : Int))), (10, .int (jI ((two : Nat) : Int)))]) hx hb dL_isDone_68 hl (by decide) rfl (fun ls hl => ?_)
      refine lv_iload hx hb dL_isDone_70 (lv_at hl 11 rfl) ?_
      refine n_if_ne (tgt := 202) hx hb (by unfold r32; decide) dL_isDone_72 (by decide) (fun h72 => ?_) (fun h72 => False.elim (by revert h72; decide))
      refine lv_iload hx hb dL_isDone_202 (lv_at hl 11 rfl) ?_
      refine n_iconst hx hb dL_isDone_204 ?_
      refine n_icmp_ne (tgt := 276) hx hb (by unfold r32; decide) (by unfold r32; decide) dL_isDone_205 (by decide) (fun h205 => False.elim (by revert h205; decide)) (fun h205 => ?_)
      refine lv_iload hx hb dL_isDone_208 (lv_at hl 1 rfl) ?_
      refine n_if_eq (tgt := 227) hx hb (by unfold r32; decide) dL_isDone_210 (by decide) (fun h210 => False.elim (by revert h210; decide)) (fun h210 => ?_)
      refine lv_aload_n hx hb dL_isDone_213 rfl (lv_at hl 4 rfl) ?_
      refine lv_iload hx hb dL_isDone_214 (lv_at hl 0 rfl) ?_
      refine n_bipush hx hb dL_isDone_216 (by decide) ?_
      refine n_iadd hx hb dL_isDone_218 ?_
      refine n_ialdv (i := ((15 * ev) + 12)) (v := (((gT ev) : Nat) : Int)) hx hb hK hP 0 0 rfl htI (by omega) (by omega) (Nat.le_of_ble_eq_true rfl) h12 dL_isDone_219 ?_
      refine n_bipush hx hb dL_isDone_220 (by decide) ?_
      by_cases h6 : gT ev = 6
      · refine n_icmp_ne (tgt := 227) hx hb (by unfold r32; omega) (by unfold r32; omega) dL_isDone_222 (by decide) (fun h222 => False.elim (by omega)) (fun h222 => ?_)
        refine n_iconst hx hb dL_isDone_225 ?_
        refine W.widen (k := 228) (n := 867) (Nat.le_of_ble_eq_true rfl) (Nat.le_of_ble_eq_true rfl) ?_
        exact y_zret (b := true) ((ms, es, gE, gM, gB, gT, gG, gN, gK, gD), κ, fe, fq, fv, fu, fw, fy) hx hb hr hlocks dL_isDone_226 hP hD hS rfl ⟨rfl, hI, hL.up⟩
      · refine n_icmp_ne (tgt := 227) hx hb (by unfold r32; omega) (by unfold r32; omega) dL_isDone_222 (by decide) (fun h222 => ?_) (fun h222 => False.elim (by omega))
        refine lv_aload_n hx hb dL_isDone_227 rfl (lv_at hl 4 rfl) ?_
        refine lv_iload hx hb dL_isDone_228 (lv_at hl 0 rfl) ?_
        refine n_bipush hx hb dL_isDone_230 (by decide) ?_
        refine n_iadd hx hb dL_isDone_232 ?_
        refine lv_dup2_11 hx hb dL_isDone_233 rfl rfl ?_
        refine n_ialdv (i := ((15 * ev) + 12)) (v := (((gT ev) : Nat) : Int)) hx hb hK hP 0 0 rfl htI (by omega) (by omega) (Nat.le_of_ble_eq_true rfl) h12 dL_isDone_234 ?_
        refine n_iconst hx hb dL_isDone_235 ?_
        refine n_iadd hx hb dL_isDone_236 ?_
        refine W.eq (g2 := F0 m 237 ls (.int (jI (((gT ev + 1) : Nat) : Int)) :: [.int (jI ((((15 * ev) : Nat) : Int) + 12)), .ref ae])) (congrArg (fun z : Int => F0 m 237 ls (.int (jI z) :: [.int (jI ((((15 * ev) : Nat) : Int) + 12)), .ref ae])) (by omega)) ?_
        refine n_iast (i := (15 * ev + 12)) hx hb hK hP hD hS 0 0 rfl htI (by omega) (by omega) (Nat.le_of_ble_eq_true rfl) dL_isDone_237 (fun H locs hP hD hS => ?_)
        have hP : va_P D vwCl ((ae, .inl (cI, 45, .inl (fun i => jI ((va_up fe (15 * ev + 12) (((gT ev + 1) : Nat) : Int)) i)))) :: (aq, .inl (cJ, 16, .inr (.inl (fun i => jL (fq i))))) :: (av, .inl (cJ, 16, .inr (.inl (fun i => jL (fv i))))) :: (au, .inl (cJ, 16, .inr (.inl (fun i => jL (fu i))))) :: (aw, .inl (cJ, 60, .inr (.inl (fun i => vL (fw i))))) :: (ay, .inl (cJ, 32, .inr (.inl (fun i => vL (fy i))))) :: (ag, .inl (cI, 2, .inl (fun i => jI ((fg i : Nat) : Int)))) :: (CW cI cE cG cM cS x0 q0 q1 qr (ms, es, gE, gM, gB, gT, gG, gN, gK, gD) κ)) H := hP
        have hD : va_D A ((ae, .inl (cI, 45, .inl (fun i => jI ((va_up fe (15 * ev + 12) (((gT ev + 1) : Nat) : Int)) i)))) :: (aq, .inl (cJ, 16, .inr (.inl (fun i => jL (fq i))))) :: (av, .inl (cJ, 16, .inr (.inl (fun i => jL (fv i))))) :: (au, .inl (cJ, 16, .inr (.inl (fun i => jL (fu i))))) :: (aw, .inl (cJ, 60, .inr (.inl (fun i => vL (fw i))))) :: (ay, .inl (cJ, 32, .inr (.inl (fun i => vL (fy i))))) :: (ag, .inl (cI, 2, .inl (fun i => jI ((fg i : Nat) : Int)))) :: (CW cI cE cG cM cS x0 q0 q1 qr (ms, es, gE, gM, gB, gT, gG, gN, gK, gD) κ)) := hD
        refine lv_aload_n hx hb dL_isDone_238 rfl (lv_at hl 3 rfl) ?_
        refine n_iconst hx hb dL_isDone_239 ?_
        refine lv_iload hx hb dL_isDone_240 (lv_at hl 2 rfl) ?_
        refine n_iconst hx hb dL_isDone_242 ?_
        refine n_iconst hx hb dL_isDone_243 ?_
        refine n_iconst hx hb dL_isDone_244 ?_
        refine n_iconst hx hb dL_isDone_245 ?_
        refine n_iconst hx hb dL_isDone_246 ?_
        have hC := d_predict0 l hl9 D tys htI htE htM htS htG x0 q0 q1 qr ms es gE gM gB gT gG gN gK gD κ hI ev hev (by omega)
        have hW := w_does_predict l D tys x0 q0 q1 qr ms es gE gM gB gT gG gN gK gD κ (jI ((ev : Nat) : Int)) (jI 0) (jI 0) (jI 0) (jI 0) (jI 0) (ms, es, gE, gM, gB, va_up gT ev (gT ev + 1), gG, gN, gK, gD) 0 _ hC
        have hP : va_P D vwCl ((CW cI cE cG cM cS x0 q0 q1 qr (ms, es, gE, gM, gB, gT, gG, gN, gK, gD) κ) ++ [(ae, .inl (cI, 45, .inl (fun i => jI ((va_up fe (15 * ev + 12) (((gT ev + 1) : Nat) : Int)) i)))), (aq, .inl (cJ, 16, .inr (.inl (fun i => jL (fq i))))), (av, .inl (cJ, 16, .inr (.inl (fun i => jL (fv i))))), (au, .inl (cJ, 16, .inr (.inl (fun i => jL (fu i))))), (aw, .inl (cJ, 60, .inr (.inl (fun i => vL (fw i))))), (ay, .inl (cJ, 32, .inr (.inl (fun i => vL (fy i))))), (ag, .inl (cI, 2, .inl (fun i => jI ((fg i : Nat) : Int))))]) H := hP.perm (List.perm_append_comm (l₁ := ([(ae, .inl (cI, 45, .inl (fun i => jI ((va_up fe (15 * ev + 12) (((gT ev + 1) : Nat) : Int)) i)))), (aq, .inl (cJ, 16, .inr (.inl (fun i => jL (fq i))))), (av, .inl (cJ, 16, .inr (.inl (fun i => jL (fv i))))), (au, .inl (cJ, 16, .inr (.inl (fun i => jL (fu i))))), (aw, .inl (cJ, 60, .inr (.inl (fun i => vL (fw i))))), (ay, .inl (cJ, 32, .inr (.inl (fun i => vL (fy i))))), (ag, .inl (cI, 2, .inl (fun i => jI ((fg i : Nat) : Int))))] : va_W)) (l₂ := (CW cI cE cG cM cS x0 q0 q1 qr (ms, es, gE, gM, gB, gT, gG, gN, gK, gD) κ)))
        have hD : va_D A ((CW cI cE cG cM cS x0 q0 q1 qr (ms, es, gE, gM, gB, gT, gG, gN, gK, gD) κ) ++ [(ae, .inl (cI, 45, .inl (fun i => jI ((va_up fe (15 * ev + 12) (((gT ev + 1) : Nat) : Int)) i)))), (aq, .inl (cJ, 16, .inr (.inl (fun i => jL (fq i))))), (av, .inl (cJ, 16, .inr (.inl (fun i => jL (fv i))))), (au, .inl (cJ, 16, .inr (.inl (fun i => jL (fu i))))), (aw, .inl (cJ, 60, .inr (.inl (fun i => vL (fw i))))), (ay, .inl (cJ, 32, .inr (.inl (fun i => vL (fy i))))), (ag, .inl (cI, 2, .inl (fun i => jI ((fg i : Nat) : Int))))]) := hD.perm (List.perm_append_comm (l₁ := ([(ae, .inl (cI, 45, .inl (fun i => jI ((va_up fe (15 * ev + 12) (((gT ev + 1) : Nat) : Int)) i)))), (aq, .inl (cJ, 16, .inr (.inl (fun i => jL (fq i))))), (av, .inl (cJ, 16, .inr (.inl (fun i => jL (fv i))))), (au, .inl (cJ, 16, .inr (.inl (fun i => jL (fu i))))), (aw, .inl (cJ, 60, .inr (.inl (fun i => vL (fw i))))), (ay, .inl (cJ, 32, .inr (.inl (fun i => vL (fy i))))), (ag, .inl (cI, 2, .inl (fun i => jI ((fg i : Nat) : Int))))] : va_W)) (l₂ := (CW cI cE cG cM cS x0 q0 q1 qr (ms, es, gE, gM, gB, gT, gG, gN, gK, gD) κ)))
        refine a_goNI (vx_runSW (As := [.ref x0, .int (jI 4), .int (jI ((ev : Nat) : Int)), .int (jI 0), .int (jI 0), .int (jI 0), .int (jI 0), .int (jI 0)]) (rest := []) ⟨hx, hb, hml, hown, hts⟩ (hW _) (vx_cwSW 8 hts gL_isDone_L_does rfl rfl rfl (by decide +kernel) ⟨(Nat.le_of_ble_eq_true rfl), (Nat.le_of_ble_eq_true rfl)⟩) (c_pre hK hXK hZ hN hP hD hS hA) rfl rfl hl.1 rfl (lv_room (Nat.le_of_ble_eq_true rfl)) dL_isDone_247 ⟨(Nat.le_of_ble_eq_true rfl), (Nat.le_of_ble_eq_true rfl)⟩) hP hD hS hA (fun r κ2 H locs hpost hP hD hS => ?_)
        obtain ⟨hr9, hI2⟩ := hpost
        have hr9 : r = jI ((gT ev + 1 : Nat) : Int) := hr9
        subst hr9
        have hP : va_P D vwCl ((CW cI cE cG cM cS x0 q0 q1 qr (ms, es, gE, gM, gB, va_up gT ev (gT ev + 1), gG, gN, gK, gD) κ2) ++ [(ae, .inl (cI, 45, .inl (fun i => jI ((va_up fe (15 * ev + 12) (((gT ev + 1) : Nat) : Int)) i)))), (aq, .inl (cJ, 16, .inr (.inl (fun i => jL (fq i))))), (av, .inl (cJ, 16, .inr (.inl (fun i => jL (fv i))))), (au, .inl (cJ, 16, .inr (.inl (fun i => jL (fu i))))), (aw, .inl (cJ, 60, .inr (.inl (fun i => vL (fw i))))), (ay, .inl (cJ, 32, .inr (.inl (fun i => vL (fy i))))), (ag, .inl (cI, 2, .inl (fun i => jI ((fg i : Nat) : Int))))]) H := hP
        have hD : va_D A ((CW cI cE cG cM cS x0 q0 q1 qr (ms, es, gE, gM, gB, va_up gT ev (gT ev + 1), gG, gN, gK, gD) κ2) ++ [(ae, .inl (cI, 45, .inl (fun i => jI ((va_up fe (15 * ev + 12) (((gT ev + 1) : Nat) : Int)) i)))), (aq, .inl (cJ, 16, .inr (.inl (fun i => jL (fq i))))), (av, .inl (cJ, 16, .inr (.inl (fun i => jL (fv i))))), (au, .inl (cJ, 16, .inr (.inl (fun i => jL (fu i))))), (aw, .inl (cJ, 60, .inr (.inl (fun i => vL (fw i))))), (ay, .inl (cJ, 32, .inr (.inl (fun i => vL (fy i))))), (ag, .inl (cI, 2, .inl (fun i => jI ((fg i : Nat) : Int))))]) := hD
        have hP : va_P D vwCl ((ae, .inl (cI, 45, .inl (fun i => jI ((va_up fe (15 * ev + 12) (((gT ev + 1) : Nat) : Int)) i)))) :: (aq, .inl (cJ, 16, .inr (.inl (fun i => jL (fq i))))) :: (av, .inl (cJ, 16, .inr (.inl (fun i => jL (fv i))))) :: (au, .inl (cJ, 16, .inr (.inl (fun i => jL (fu i))))) :: (aw, .inl (cJ, 60, .inr (.inl (fun i => vL (fw i))))) :: (ay, .inl (cJ, 32, .inr (.inl (fun i => vL (fy i))))) :: (ag, .inl (cI, 2, .inl (fun i => jI ((fg i : Nat) : Int)))) :: (CW cI cE cG cM cS x0 q0 q1 qr (ms, es, gE, gM, gB, va_up gT ev (gT ev + 1), gG, gN, gK, gD) κ2)) H := hP.perm (List.perm_append_comm (l₁ := (CW cI cE cG cM cS x0 q0 q1 qr (ms, es, gE, gM, gB, va_up gT ev (gT ev + 1), gG, gN, gK, gD) κ2)) (l₂ := ([(ae, .inl (cI, 45, .inl (fun i => jI ((va_up fe (15 * ev + 12) (((gT ev + 1) : Nat) : Int)) i)))), (aq, .inl (cJ, 16, .inr (.inl (fun i => jL (fq i))))), (av, .inl (cJ, 16, .inr (.inl (fun i => jL (fv i))))), (au, .inl (cJ, 16, .inr (.inl (fun i => jL (fu i))))), (aw, .inl (cJ, 60, .inr (.inl (fun i => vL (fw i))))), (ay, .inl (cJ, 32, .inr (.inl (fun i => vL (fy i))))), (ag, .inl (cI, 2, .inl (fun i => jI ((fg i : Nat) : Int))))] : va_W)))
        have hD : va_D A ((ae, .inl (cI, 45, .inl (fun i => jI ((va_up fe (15 * ev + 12) (((gT ev + 1) : Nat) : Int)) i)))) :: (aq, .inl (cJ, 16, .inr (.inl (fun i => jL (fq i))))) :: (av, .inl (cJ, 16, .inr (.inl (fun i => jL (fv i))))) :: (au, .inl (cJ, 16, .inr (.inl (fun i => jL (fu i))))) :: (aw, .inl (cJ, 60, .inr (.inl (fun i => vL (fw i))))) :: (ay, .inl (cJ, 32, .inr (.inl (fun i => vL (fy i))))) :: (ag, .inl (cI, 2, .inl (fun i => jI ((fg i : Nat) : Int)))) :: (CW cI cE cG cM cS x0 q0 q1 qr (ms, es, gE, gM, gB, va_up gT ev (gT ev + 1), gG, gN, gK, gD) κ2)) := hD.perm (List.perm_append_comm (l₁ := (CW cI cE cG cM cS x0 q0 q1 qr (ms, es, gE, gM, gB, va_up gT ev (gT ev + 1), gG, gN, gK, gD) κ2)) (l₂ := ([(ae, .inl (cI, 45, .inl (fun i => jI ((va_up fe (15 * ev + 12) (((gT ev + 1) : Nat) : Int)) i)))), (aq, .inl (cJ, 16, .inr (.inl (fun i => jL (fq i))))), (av, .inl (cJ, 16, .inr (.inl (fun i => jL (fv i))))), (au, .inl (cJ, 16, .inr (.inl (fun i => jL (fu i))))), (aw, .inl (cJ, 60, .inr (.inl (fun i => vL (fw i))))), (ay, .inl (cJ, 32, .inr (.inl (fun i => vL (fy i))))), (ag, .inl (cI, 2, .inl (fun i => jI ((fg i : Nat) : Int))))] : va_W)))
        refine lv_iload hx hb dL_isDone_250 (lv_at hl 1 rfl) ?_
        refine n_if_eq (tgt := 265) hx hb (by unfold r32; decide) dL_isDone_252 (by decide) (fun h252 => False.elim (by revert h252; decide)) (fun h252 => ?_)
        refine lv_aload_n hx hb dL_isDone_255 rfl (lv_at hl 4 rfl) ?_
        refine lv_iload hx hb dL_isDone_256 (lv_at hl 0 rfl) ?_
        refine n_bipush hx hb dL_isDone_258 (by decide) ?_
        refine n_iadd hx hb dL_isDone_260 ?_
        refine n_ialdv (i := ((15 * ev) + 12)) (v := (((gT ev + 1) : Nat) : Int)) hx hb hK hP 0 0 rfl htI (by omega) (by omega) (Nat.le_of_ble_eq_true rfl) (up_s _ _ _) dL_isDone_261 ?_
        refine lv_goto (tgt := 267) hx hb dL_isDone_262 (by decide) ?_
        refine n_icmp_ne (tgt := 274) hx hb (by unfold r32; omega) (by unfold r32; omega) dL_isDone_267 (by decide) (fun h267 => False.elim (h267 rfl)) (fun h267 => ?_)
        refine n_iconst hx hb dL_isDone_270 ?_
        refine lv_goto (tgt := 275) hx hb dL_isDone_271 (by decide) ?_
        refine W.widen (k := 228) (n := 867) (Nat.le_of_ble_eq_true rfl) (Nat.le_of_ble_eq_true rfl) ?_
        exact y_zret (b := true) ((ms, es, gE, gM, gB, va_up gT ev (gT ev + 1), gG, gN, gK, gD), κ2, va_up fe (15 * ev + 12) (((gT ev + 1) : Nat) : Int), fq, fv, fu, fw, fy) hx hb hr hlocks dL_isDone_275 hP hD hS rfl ⟨rfl, hI2, (hL.predict hev (by omega)).up⟩

set_option maxHeartbeats 16000000 in
set_option maxRecDepth 100000 in
theorem c_L_isDone2 (l : Launch) (hl9 : l.stackTraces = false) (D : va_G) (tys : List (ClassId × FieldType)) {cI cE cG cM cS : ClassId} (htI : tys[0]? = some (cI, .int)) (htE : tys[3]? = some (cE, .object RX1)) (htM : tys[4]? = some (cM, .object RX2)) (htS : tys[5]? = some (cS, .object RX4)) (htG : tys[6]? = some (cG, .array .int)) (x0 q0 q1 : Nat) (qr : Nat → Nat) (ms es : Nat) (gE gM gB : Nat → Zp) (gT : Nat → Nat) (gG : Nat → Zp) (gN : Nat → Nat) (gK : Nat → Zp) (gD : Nat → Bool) (κ : Nat → EG) (hI : INV (ms, es, gE, gM, gB, gT, gG, gN, gK, gD) κ) {cJ : ClassId} (htJ : tys[1]? = some (cJ, .long)) (ae aq av au aw ay ag : Nat) (fm fe fq fv fu : Nat → Int) (fw fy : Nat → Zp) (fg : Nat → Nat) (c : Nat) (hL : LI (ms, es, gE, gM, gB, gT, gG, gN, gK, gD) fm fe fq fv fu fg c) (hc : c ≤ 60) (one two : Nat) (s1 : one < 60000) (s2 : two < 60000) : CtW (S := SG × (Nat → EG) × (Nat → Int) × (Nat → Int) × (Nat → Int) × (Nat → Int) × (Nat → Zp) × (Nat → Zp)) l D tys yL_isDone wsL_isDone 12 268 228 867 [.ref x0, .ref ae, .ref aq, .ref av, .ref au, .ref aw, .ref ay, .ref ag, .int (jI 2), .int (jI ((one : Nat) : Int)), .int (jI ((two : Nat) : Int))] (fun (r : Int32) (u : SG × (Nat → EG) × (Nat → Int) × (Nat → Int) × (Nat → Int) × (Nat → Int) × (Nat → Zp) × (Nat → Zp)) => r = jI (iB true) ∧ INV u.1 u.2.1 ∧ LI u.1 fm u.2.2.1 u.2.2.2.1 u.2.2.2.2.1 u.2.2.2.2.2.1 fg (c + 1)) ((ae, .inl (cI, 45, .inl (fun i => jI (fe i)))) :: (aq, .inl (cJ, 16, .inr (.inl (fun i => jL (fq i))))) :: (av, .inl (cJ, 16, .inr (.inl (fun i => jL (fv i))))) :: (au, .inl (cJ, 16, .inr (.inl (fun i => jL (fu i))))) :: (aw, .inl (cJ, 60, .inr (.inl (fun i => vL (fw i))))) :: (ay, .inl (cJ, 32, .inr (.inl (fun i => vL (fy i))))) :: (ag, .inl (cI, 2, .inl (fun i => jI ((fg i : Nat) : Int)))) :: (CW cI cE cG cM cS x0 q0 q1 qr (ms, es, gE, gM, gB, gT, gG, gN, gK, gD) κ)) (fun (u : SG × (Nat → EG) × (Nat → Int) × (Nat → Int) × (Nat → Int) × (Nat → Int) × (Nat → Zp) × (Nat → Zp)) => ((ae, .inl (cI, 45, .inl (fun i => jI (u.2.2.1 i)))) :: (aq, .inl (cJ, 16, .inr (.inl (fun i => jL (u.2.2.2.1 i))))) :: (av, .inl (cJ, 16, .inr (.inl (fun i => jL (u.2.2.2.2.1 i))))) :: (au, .inl (cJ, 16, .inr (.inl (fun i => jL (u.2.2.2.2.2.1 i))))) :: (aw, .inl (cJ, 60, .inr (.inl (fun i => vL (u.2.2.2.2.2.2.1 i))))) :: (ay, .inl (cJ, 32, .inr (.inl (fun i => vL (u.2.2.2.2.2.2.2 i))))) :: (ag, .inl (cI, 2, .inl (fun i => jI ((fg i : Nat) : Int)))) :: (CW cI cE cG cM cS x0 q0 q1 qr u.1 u.2.1))) := by
  refine CtW.ofP (cc := cL_isDone) (maxL := 24) (by decide +kernel) rfl (Nat.le_of_ble_eq_true rfl) ?_
  intro p e s m below meth c9 A ls hcx hK hXK hZ hN hP hD hA hl
  obtain ⟨hx, hb, hr, hml, hown, hts, hlocks⟩ := hcx
  have hS : va_S A s.heap s.heap [] := va_S.rf
  have hown : s.vm.findClass RL = some m.cls := hown
  have hl : lv_has ls 24 [(0, .ref x0), (1, .ref ae), (2, .ref aq), (3, .ref av), (4, .ref au), (5, .ref aw), (6, .ref ay), (7, .ref ag), (8, .int (jI 2)), (9, .int (jI ((one : Nat) : Int))), (10, .int (jI ((two : Nat) : Int)))] := hl
  obtain ⟨b3, b2, hg0, hg1, hm, hLe, c0, c1⟩ := id hL
  have k84 : (Cond.constantLong RL 84 (jL (16))).before _ s = true := hts (.constantLong RL 84 (16)) (by decide +kernel)
  have k86 : (Cond.constantLong RL 86 (jL (2))).before _ s = true := hts (.constantLong RL 86 (2)) (by decide +kernel)
  obtain ⟨zh, ezh⟩ := z_ex2 (one / 3 % 4) (by omega)
  obtain ⟨zj, ezj⟩ := z_ex2 (two / 2 % 5) (by omega)
  obtain ⟨zz, ezz⟩ := z_ex (one / 11)
  obtain ⟨zr, ezr⟩ := z_ex2 (if two / 10 % 9 = 0 then 0 else two / 10 % 10007) (by split <;> omega)
  have bzh := zv_le zh
  have azh := zv_0 zh
  have bzj := zv_le zj
  have azj := zv_0 zj
  have bzz := zv_le zz
  have azz := zv_0 zz
  have bzr := zv_le zr
  have azr := zv_0 zr
  refine lv_iload hx hb dL_isDone_0 (lv_at hl 9 rfl) ?_
  refine n_bipush hx hb dL_isDone_2 (by decide) ?_
  refine n_iremv (v := (((one % 7) : Nat) : Int)) hx hb dL_isDone_4 (by omega) (by omega) (by omega) (by omega) (by omega) ?_
  refine n_bipush hx hb dL_isDone_5 (by decide) ?_
  have hF : ∀ nn : Nat, es ≤ nn → nn ≤ 2 → ∀ (ls : Array Slot), lv_has ls 24 [(0, .ref x0), (1, .ref ae), (2, .ref aq), (3, .ref av), (4, .ref au), (5, .ref aw), (6, .ref ay), (7, .ref ag), (8, .int (jI 2)), (9, .int (jI ((one : Nat) : Int))), (10, .int (jI ((two : Nat) : Int)))] → W p l e { frames := 12, cells := 228, slots := 867, locals := 268 } s m ([Value.ref x0, .ref ae, .ref aq, .ref av, .ref au, .ref aw, .ref ay, .ref ag, .int (jI 2), .int (jI ((one : Nat) : Int)), .int (jI ((two : Nat) : Int))] : List Value).toArray below meth c9 s.heap [] 0 0 (MQ below (ENI D A (fun (r : Int32) (u : SG × (Nat → EG) × (Nat → Int) × (Nat → Int) × (Nat → Int) × (Nat → Int) × (Nat → Zp) × (Nat → Zp)) => r = jI (iB true) ∧ INV u.1 u.2.1 ∧ LI u.1 fm u.2.2.1 u.2.2.2.1 u.2.2.2.2.1 u.2.2.2.2.2.1 fg (c + 1)) (fun (u : SG × (Nat → EG) × (Nat → Int) × (Nat → Int) × (Nat → Int) × (Nat → Int) × (Nat → Zp) × (Nat → Zp)) => ((ae, .inl (cI, 45, .inl (fun i => jI (u.2.2.1 i)))) :: (aq, .inl (cJ, 16, .inr (.inl (fun i => jL (u.2.2.2.1 i))))) :: (av, .inl (cJ, 16, .inr (.inl (fun i => jL (u.2.2.2.2.1 i))))) :: (au, .inl (cJ, 16, .inr (.inl (fun i => jL (u.2.2.2.2.2.1 i))))) :: (aw, .inl (cJ, 60, .inr (.inl (fun i => vL (u.2.2.2.2.2.2.1 i))))) :: (ay, .inl (cJ, 32, .inr (.inl (fun i => vL (u.2.2.2.2.2.2.2 i))))) :: (ag, .inl (cI, 2, .inl (fun i => jI ((fg i : Nat) : Int)))) :: (CW cI cE cG cM cS x0 q0 q1 qr u.1 u.2.1))) (fun _ => [])) ([Value.ref x0, .ref ae, .ref aq, .ref av, .ref au, .ref aw, .ref ay, .ref ag, .int (jI 2), .int (jI ((one : Nat) : Int)), .int (jI ((two : Nat) : Int))] : List Value).toArray s 228 867 A) (F0 m 35 ls [.int (jI ((nn : Nat) : Int))]) := by
    intro nn hnn hn2 ls hl
    refine lv_istore (lv' := [(11, .int (jI ((nn : Nat) : Int))), (0, .ref x0), (1, .ref ae), (2, .ref aq), (3, .ref av), (4, .ref au), (5, .ref aw), (6, .ref ay), (7, .ref ag), (8, .int (jI 2)), (9, .int (jI ((one : Nat) : Int))), (10, .int (jI ((two : Nat) : Int)))]) hx hb dL_isDone_35 hl (by decide) rfl (fun ls hl => ?_)
    refine lv_iload hx hb dL_isDone_37 (lv_at hl 0 rfl) ?_
    refine lv_aload hx hb dL_isDone_39 (lv_at hl 8 rfl) ?_
    refine n_iconst hx hb dL_isDone_41 ?_
    refine n_nalv (i := 1) (v := ((es : Nat) : Int)) hx hb hK hP 6 0 rfl htI rfl (Nat.le_of_ble_eq_true rfl) (Nat.le_of_ble_eq_true rfl) (congrArg (fun z : Nat => (z : Int)) hg1) dL_isDone_42 ?_
    refine n_icmp_ge (tgt := 50) hx hb (by unfold r32; omega) (by unfold r32; omega) dL_isDone_43 (by decide) (fun h43 => ?_) (fun h43 => False.elim (by omega))
    refine n_iconst hx hb dL_isDone_50 ?_
    refine lv_istore (lv' := [(12, .int (jI 0)), (11, .int (jI ((nn : Nat) : Int))), (0, .ref x0), (1, .ref ae), (2, .ref aq), (3, .ref av), (4, .ref au), (5, .ref aw), (6, .ref ay), (7, .ref ag), (8, .int (jI 2)), (9, .int (jI ((one : Nat) : Int))), (10, .int (jI ((two : Nat) : Int)))]) hx hb dL_isDone_51 hl (by decide) rfl (fun ls hl => ?_)
    refine lv_iload hx hb dL_isDone_53 (lv_at hl 0 rfl) ?_
    refine n_if_eq (tgt := 66) hx hb (by unfold r32; decide) dL_isDone_55 (by decide) (fun h55 => ?_) (fun h55 => False.elim (by revert h55; decide))
    refine n_bipush hx hb dL_isDone_66 (by decide) ?_
    refine lv_istore (lv' := [(13, .int (jI 30)), (12, .int (jI 0)), (11, .int (jI ((nn : Nat) : Int))), (0, .ref x0), (1, .ref ae), (2, .ref aq), (3, .ref av), (4, .ref au), (5, .ref aw), (6, .ref ay), (7, .ref ag), (8, .int (jI 2)), (9, .int (jI ((one : Nat) : Int))), (10, .int (jI ((two : Nat) : Int)))]) hx hb dL_isDone_68 hl (by decide) rfl (fun ls hl => ?_)
    refine lv_iload hx hb dL_isDone_70 (lv_at hl 11 rfl) ?_
    refine n_if_ne (tgt := 202) hx hb (by unfold r32; decide) dL_isDone_72 (by decide) (fun h72 => ?_) (fun h72 => False.elim (by revert h72; decide))
    refine lv_iload hx hb dL_isDone_202 (lv_at hl 11 rfl) ?_
    refine n_iconst hx hb dL_isDone_204 ?_
    refine n_icmp_ne (tgt := 276) hx hb (by unfold r32; decide) (by unfold r32; decide) dL_isDone_205 (by decide) (fun h205 => ?_) (fun h205 => False.elim (by revert h205; decide))
    refine lv_iload hx hb dL_isDone_276 (lv_at hl 11 rfl) ?_
    refine n_iconst hx hb dL_isDone_278 ?_
    refine n_icmp_ne (tgt := 698) hx hb (by unfold r32; decide) (by unfold r32; decide) dL_isDone_279 (by decide) (fun h279 => False.elim (by revert h279; decide)) (fun h279 => ?_)
    refine lv_iload hx hb dL_isDone_282 (lv_at hl 1 rfl) ?_
    refine n_if_eq (tgt := 301) hx hb (by unfold r32; decide) dL_isDone_284 (by decide) (fun h284 => ?_) (fun h284 => False.elim (by revert h284; decide))
    refine lv_iload hx hb dL_isDone_301 (lv_at hl 13 rfl) ?_
    refine n_iconst hx hb dL_isDone_303 ?_
    refine n_iremv (v := (((two % 2) : Nat) : Int)) hx hb dL_isDone_304 (by omega) (by omega) (by omega) (by omega) (by omega) ?_
    by_cases hlt : two % 2 = 0
    · refine n_if_ne (tgt := 312) hx hb (by unfold r32; omega) dL_isDone_305 (by decide) (fun h305 => False.elim (by omega)) (fun h305 => ?_)
      refine n_iconst hx hb dL_isDone_308 ?_
      refine lv_goto (tgt := 313) hx hb dL_isDone_309 (by decide) ?_
      refine lv_istore (lv' := [(14, .int (jI 1)), (13, .int (jI 30)), (12, .int (jI 0)), (11, .int (jI ((nn : Nat) : Int))), (0, .ref x0), (1, .ref ae), (2, .ref aq), (3, .ref av), (4, .ref au), (5, .ref aw), (6, .ref ay), (7, .ref ag), (8, .int (jI 2)), (9, .int (jI ((one : Nat) : Int))), (10, .int (jI ((two : Nat) : Int)))]) hx hb dL_isDone_313 hl (by decide) rfl (fun ls hl => ?_)
      refine lv_iload hx hb dL_isDone_315 (lv_at hl 0 rfl) ?_
      refine n_if_ne (tgt := 330) hx hb (by unfold r32; decide) dL_isDone_317 (by decide) (fun h317 => ?_) (fun h317 => False.elim (by revert h317; decide))
      refine lv_iload hx hb dL_isDone_330 (lv_at hl 13 rfl) ?_
      refine n_bipush hx hb dL_isDone_332 (by decide) ?_
      refine n_idivv (v := (((one / 7) : Nat) : Int)) hx hb dL_isDone_334 (by omega) (by omega) (by omega) (by omega) (by omega) ?_
      refine n_bipush hx hb dL_isDone_335 (by decide) ?_
      refine n_iremv (v := (((one / 7 % 11) : Nat) : Int)) hx hb dL_isDone_337 (by omega) (by omega) (by omega) (by omega) (by omega) ?_
      refine n_bipush hx hb dL_isDone_338 (by decide) ?_
      by_cases h10 : one / 7 % 11 = 10
      · refine n_icmp_ne (tgt := 355) hx hb (by unfold r32; omega) (by unfold r32; omega) dL_isDone_340 (by decide) (fun h340 => False.elim (by omega)) (fun h340 => ?_)
        refine lv_aload_n hx hb dL_isDone_343 rfl (lv_at hl 5 rfl) ?_
        refine lv_iload hx hb dL_isDone_344 (lv_at hl 1 rfl) ?_
        refine n_bipush hx hb dL_isDone_346 (by decide) ?_
        refine n_iadd hx hb dL_isDone_348 ?_
        refine n_ialdv (i := (30 + 12)) (v := (fe 42)) hx hb hK hP 0 0 rfl htI (by omega) (by omega) (Nat.le_of_ble_eq_true rfl) rfl dL_isDone_349 ?_
        refine n_iconst hx hb dL_isDone_350 ?_
        refine n_iadd hx hb dL_isDone_351 ?_
        refine lv_goto (tgt := 370) hx hb dL_isDone_352 (by decide) ?_
        refine lv_istore (lv' := [(15, .int (jI ((fe 42) + 1))), (14, .int (jI 1)), (13, .int (jI 30)), (12, .int (jI 0)), (11, .int (jI ((nn : Nat) : Int))), (0, .ref x0), (1, .ref ae), (2, .ref aq), (3, .ref av), (4, .ref au), (5, .ref aw), (6, .ref ay), (7, .ref ag), (8, .int (jI 2)), (9, .int (jI ((one : Nat) : Int))), (10, .int (jI ((two : Nat) : Int)))]) hx hb dL_isDone_370 hl (by decide) rfl (fun ls hl => ?_)
        refine lv_iload hx hb dL_isDone_372 (lv_at hl 14 rfl) ?_
        refine n_iconst hx hb dL_isDone_374 ?_
        refine n_idivv (v := (((one / 3) : Nat) : Int)) hx hb dL_isDone_375 (by omega) (by omega) (by omega) (by omega) (by omega) ?_
        refine n_bipush hx hb dL_isDone_376 (by decide) ?_
        refine n_iremv (v := (((one / 3 % 17) : Nat) : Int)) hx hb dL_isDone_378 (by omega) (by omega) (by omega) (by omega) (by omega) ?_
        refine n_bipush hx hb dL_isDone_379 (by decide) ?_
        by_cases hh : one / 3 % 17 = 16
        · refine n_icmp_ne (tgt := 390) hx hb (by unfold r32; omega) (by unfold r32; omega) dL_isDone_381 (by decide) (fun h381 => False.elim (by omega)) (fun h381 => ?_)
          refine n_sipush hx hb dL_isDone_384 (by decide) ?_
          refine lv_goto (tgt := 396) hx hb dL_isDone_387 (by decide) ?_
          refine lv_istore (lv' := [(16, .int (jI 10007)), (15, .int (jI ((fe 42) + 1))), (14, .int (jI 1)), (13, .int (jI 30)), (12, .int (jI 0)), (11, .int (jI ((nn : Nat) : Int))), (0, .ref x0), (1, .ref ae), (2, .ref aq), (3, .ref av), (4, .ref au), (5, .ref aw), (6, .ref ay), (7, .ref ag), (8, .int (jI 2)), (9, .int (jI ((one : Nat) : Int))), (10, .int (jI ((two : Nat) : Int)))]) hx hb dL_isDone_396 hl (by decide) rfl (fun ls hl => ?_)
          refine lv_iload hx hb dL_isDone_398 (lv_at hl 16 rfl) ?_
          refine n_iconst hx hb dL_isDone_400 ?_
          refine n_idivv (v := (((two / 2) : Nat) : Int)) hx hb dL_isDone_401 (by omega) (by omega) (by omega) (by omega) (by omega) ?_
          refine n_iconst hx hb dL_isDone_402 ?_
          refine n_iremv (v := (zv zj)) hx hb dL_isDone_403 (by omega) (by omega) (by omega) (by omega) (by omega) ?_
          refine lv_istore (lv' := [(17, .int (vI zj)), (16, .int (jI 10007)), (15, .int (jI ((fe 42) + 1))), (14, .int (jI 1)), (13, .int (jI 30)), (12, .int (jI 0)), (11, .int (jI ((nn : Nat) : Int))), (0, .ref x0), (1, .ref ae), (2, .ref aq), (3, .ref av), (4, .ref au), (5, .ref aw), (6, .ref ay), (7, .ref ag), (8, .int (jI 2)), (9, .int (jI ((one : Nat) : Int))), (10, .int (jI ((two : Nat) : Int)))]) hx hb dL_isDone_404 hl (by decide) rfl (fun ls hl => ?_)
          refine lv_iload hx hb dL_isDone_406 (lv_at hl 16 rfl) ?_
          refine n_bipush hx hb dL_isDone_408 (by decide) ?_
          refine n_idivv (v := (((one / 11) : Nat) : Int)) hx hb dL_isDone_410 (by omega) (by omega) (by omega) (by omega) (by omega) ?_
          refine n_sipush hx hb dL_isDone_411 (by decide) ?_
          refine n_iremv (v := (zv zz)) hx hb dL_isDone_414 (by omega) (by omega) (by omega) (by omega) (by omega) ?_
          refine lv_istore (lv' := [(18, .int (vI zz)), (17, .int (vI zj)), (16, .int (jI 10007)), (15, .int (jI ((fe 42) + 1))), (14, .int (jI 1)), (13, .int (jI 30)), (12, .int (jI 0)), (11, .int (jI ((nn : Nat) : Int))), (0, .ref x0), (1, .ref ae), (2, .ref aq), (3, .ref av), (4, .ref au), (5, .ref aw), (6, .ref ay), (7, .ref ag), (8, .int (jI 2)), (9, .int (jI ((one : Nat) : Int))), (10, .int (jI ((two : Nat) : Int)))]) hx hb dL_isDone_415 hl (by decide) rfl (fun ls hl => ?_)
          refine lv_iload hx hb dL_isDone_417 (lv_at hl 18 rfl) ?_
          refine n_bipush hx hb dL_isDone_419 (by decide) ?_
          refine n_idivv (v := (((two / 10) : Nat) : Int)) hx hb dL_isDone_421 (by omega) (by omega) (by omega) (by omega) (by omega) ?_
          refine n_bipush hx hb dL_isDone_422 (by decide) ?_
          refine n_iremv (v := (((two / 10 % 9) : Nat) : Int)) hx hb dL_isDone_424 (by omega) (by omega) (by omega) (by omega) (by omega) ?_
          have hk : W p l e { frames := 12, cells := 228, slots := 867, locals := 268 } s m ([Value.ref x0, .ref ae, .ref aq, .ref av, .ref au, .ref aw, .ref ay, .ref ag, .int (jI 2), .int (jI ((one : Nat) : Int)), .int (jI ((two : Nat) : Int))] : List Value).toArray below meth c9 s.heap [] 0 0 (MQ below (ENI D A (fun (r : Int32) (u : SG × (Nat → EG) × (Nat → Int) × (Nat → Int) × (Nat → Int) × (Nat → Int) × (Nat → Zp) × (Nat → Zp)) => r = jI (iB true) ∧ INV u.1 u.2.1 ∧ LI u.1 fm u.2.2.1 u.2.2.2.1 u.2.2.2.2.1 u.2.2.2.2.2.1 fg (c + 1)) (fun (u : SG × (Nat → EG) × (Nat → Int) × (Nat → Int) × (Nat → Int) × (Nat → Int) × (Nat → Zp) × (Nat → Zp)) => ((ae, .inl (cI, 45, .inl (fun i => jI (u.2.2.1 i)))) :: (aq, .inl (cJ, 16, .inr (.inl (fun i => jL (u.2.2.2.1 i))))) :: (av, .inl (cJ, 16, .inr (.inl (fun i => jL (u.2.2.2.2.1 i))))) :: (au, .inl (cJ, 16, .inr (.inl (fun i => jL (u.2.2.2.2.2.1 i))))) :: (aw, .inl (cJ, 60, .inr (.inl (fun i => vL (u.2.2.2.2.2.2.1 i))))) :: (ay, .inl (cJ, 32, .inr (.inl (fun i => vL (u.2.2.2.2.2.2.2 i))))) :: (ag, .inl (cI, 2, .inl (fun i => jI ((fg i : Nat) : Int)))) :: (CW cI cE cG cM cS x0 q0 q1 qr u.1 u.2.1))) (fun _ => [])) ([Value.ref x0, .ref ae, .ref aq, .ref av, .ref au, .ref aw, .ref ay, .ref ag, .int (jI 2), .int (jI ((one : Nat) : Int)), .int (jI ((two : Nat) : Int))] : List Value).toArray s 228 867 A) (F0 m 441 ls [.int (vI zr)]) := by
            refine lv_istore (lv' := [(19, .int (vI zr)), (18, .int (vI zz)), (17, .int (vI zj)), (16, .int (jI 10007)), (15, .int (jI ((fe 42) + 1))), (14, .int (jI 1)), (13, .int (jI 30)), (12, .int (jI 0)), (11, .int (jI ((nn : Nat) : Int))), (0, .ref x0), (1, .ref ae), (2, .ref aq), (3, .ref av), (4, .ref au), (5, .ref aw), (6, .ref ay), (7, .ref ag), (8, .int (jI 2)), (9, .int (jI ((one : Nat) : Int))), (10, .int (jI ((two : Nat) : Int)))]) hx hb dL_isDone_441 hl (by decide) rfl (fun ls hl => ?_)
            refine lv_iload hx hb dL_isDone_443 (lv_at hl 4 rfl) ?_
            refine lv_aload_n hx hb dL_isDone_445 rfl (lv_at hl 10 rfl) ?_
            refine lv_iload hx hb dL_isDone_446 (lv_at hl 6 rfl) ?_
            refine n_bipush hx hb dL_isDone_448 (by decide) ?_
            refine n_iadd hx hb dL_isDone_450 ?_
            refine n_ialdv (i := (30 + 12)) (v := (fe 42)) hx hb hK hP 0 0 rfl htI (by omega) (by omega) (Nat.le_of_ble_eq_true rfl) rfl dL_isDone_451 ?_
            refine n_icmp_gt (tgt := 467) hx hb (by unfold r32; omega) (by unfold r32; omega) dL_isDone_452 (by decide) (fun h452 => ?_) (fun h452 => False.elim (by omega))
            refine n_iconst hx hb dL_isDone_467 ?_
            refine lv_istore (lv' := [(20, .int (jI 0)), (19, .int (vI zr)), (18, .int (vI zz)), (17, .int (vI zj)), (16, .int (jI 10007)), (15, .int (jI ((fe 42) + 1))), (14, .int (jI 1)), (13, .int (jI 30)), (12, .int (jI 0)), (11, .int (jI ((nn : Nat) : Int))), (0, .ref x0), (1, .ref ae), (2, .ref aq), (3, .ref av), (4, .ref au), (5, .ref aw), (6, .ref ay), (7, .ref ag), (8, .int (jI 2)), (9, .int (jI ((one : Nat) : Int))), (10, .int (jI ((two : Nat) : Int)))]) hx hb dL_isDone_468 hl (by decide) rfl (fun ls hl => ?_)
            refine lv_iload hx hb dL_isDone_470 (lv_at hl 8 rfl) ?_
            refine n_if_eq (tgt := 484) hx hb (by unfold r32; decide) dL_isDone_472 (by decide) (fun h472 => ?_) (fun h472 => False.elim (by revert h472; decide))
            refine n_iconst hx hb dL_isDone_484 ?_
            refine lv_istore (lv' := [(21, .int (jI 0)), (20, .int (jI 0)), (19, .int (vI zr)), (18, .int (vI zz)), (17, .int (vI zj)), (16, .int (jI 10007)), (15, .int (jI ((fe 42) + 1))), (14, .int (jI 1)), (13, .int (jI 30)), (12, .int (jI 0)), (11, .int (jI ((nn : Nat) : Int))), (0, .ref x0), (1, .ref ae), (2, .ref aq), (3, .ref av), (4, .ref au), (5, .ref aw), (6, .ref ay), (7, .ref ag), (8, .int (jI 2)), (9, .int (jI ((one : Nat) : Int))), (10, .int (jI ((two : Nat) : Int)))]) hx hb dL_isDone_485 hl (by decide) rfl (fun ls hl => ?_)
            refine n_bipush hx hb dL_isDone_487 (by decide) ?_
            refine lv_iload hx hb dL_isDone_489 (lv_at hl 10 rfl) ?_
            refine n_imul hx hb dL_isDone_491 ?_
            refine lv_aload_n hx hb dL_isDone_492 rfl (lv_at hl 12 rfl) ?_
            refine lv_iload hx hb dL_isDone_493 (lv_at hl 8 rfl) ?_
            refine n_bipush hx hb dL_isDone_495 (by decide) ?_
            refine n_iadd hx hb dL_isDone_497 ?_
            refine n_ialdv (i := (30 + 14)) (v := (fe 44)) hx hb hK hP 0 0 rfl htI (by omega) (by omega) (Nat.le_of_ble_eq_true rfl) rfl dL_isDone_498 ?_
            refine n_iadd hx hb dL_isDone_499 ?_
            refine lv_istore (lv' := [(22, .int (jI ((8 * ((nn : Nat) : Int)) + (fe 44)))), (21, .int (jI 0)), (20, .int (jI 0)), (19, .int (vI zr)), (18, .int (vI zz)), (17, .int (vI zj)), (16, .int (jI 10007)), (15, .int (jI ((fe 42) + 1))), (14, .int (jI 1)), (13, .int (jI 30)), (12, .int (jI 0)), (11, .int (jI ((nn : Nat) : Int))), (0, .ref x0), (1, .ref ae), (2, .ref aq), (3, .ref av), (4, .ref au), (5, .ref aw), (6, .ref ay), (7, .ref ag), (8, .int (jI 2)), (9, .int (jI ((one : Nat) : Int))), (10, .int (jI ((two : Nat) : Int)))]) hx hb dL_isDone_500 hl (by decide) rfl (fun ls hl => ?_)
            refine lv_iload hx hb dL_isDone_502 (lv_at hl 1 rfl) ?_
            refine n_if_eq (tgt := 609) hx hb (by unfold r32; decide) dL_isDone_504 (by decide) (fun h504 => ?_) (fun h504 => False.elim (by revert h504; decide))
            refine lv_iload hx hb dL_isDone_609 (lv_at hl 10 rfl) ?_
            refine n_if_ne (tgt := 619) hx hb (by unfold r32; decide) dL_isDone_611 (by decide) (fun h611 => False.elim (by revert h611; decide)) (fun h611 => ?_)
            refine n_bipush hx hb dL_isDone_614 (by decide) ?_
            refine lv_goto (tgt := 643) hx hb dL_isDone_616 (by decide) ?_
            refine lv_istore (lv' := [(23, .int (jI (-3))), (22, .int (jI ((8 * ((nn : Nat) : Int)) + (fe 44)))), (21, .int (jI 0)), (20, .int (jI 0)), (19, .int (vI zr)), (18, .int (vI zz)), (17, .int (vI zj)), (16, .int (jI 10007)), (15, .int (jI ((fe 42) + 1))), (14, .int (jI 1)), (13, .int (jI 30)), (12, .int (jI 0)), (11, .int (jI ((nn : Nat) : Int))), (0, .ref x0), (1, .ref ae), (2, .ref aq), (3, .ref av), (4, .ref au), (5, .ref aw), (6, .ref ay), (7, .ref ag), (8, .int (jI 2)), (9, .int (jI ((one : Nat) : Int))), (10, .int (jI ((two : Nat) : Int)))]) hx hb dL_isDone_643 hl (by decide) rfl (fun ls hl => ?_)
            refine lv_iload hx hb dL_isDone_645 (lv_at hl 9 rfl) ?_
            refine n_if_eq (tgt := 671) hx hb (by unfold r32; decide) dL_isDone_647 (by decide) (fun h647 => False.elim (by revert h647; decide)) (fun h647 => ?_)
            refine lv_aload_n hx hb dL_isDone_650 rfl (lv_at hl 13 rfl) ?_
            refine n_bipush hx hb dL_isDone_651 (by decide) ?_
            refine lv_iload hx hb dL_isDone_653 (lv_at hl 12 rfl) ?_
            refine lv_iload hx hb dL_isDone_655 (lv_at hl 8 rfl) ?_
            refine lv_iload hx hb dL_isDone_657 (lv_at hl 7 rfl) ?_
            refine lv_iload hx hb dL_isDone_659 (lv_at hl 6 rfl) ?_
            refine lv_iload hx hb dL_isDone_661 (lv_at hl 5 rfl) ?_
            refine lv_iload hx hb dL_isDone_663 (lv_at hl 4 rfl) ?_
            have hC := d_late1 l hl9 D tys htI htE htM htS htG x0 q0 q1 qr ms es gE gM gB gT gG gN gK gD κ hI ((nn : Nat) : Int) (fe 42 + 1) 10007 (zv zj) (zv zz) (zv zr) (by unfold r32; omega) (by unfold r32; omega) (by unfold r32; omega) (r32_z _) (r32_z _) (r32_z _) (inB_f (by omega))
            have hW := w_does_late l D tys x0 q0 q1 qr ms es gE gM gB gT gG gN gK gD κ (jI ((nn : Nat) : Int)) (jI ((fe 42) + 1)) (jI 10007) (vI zj) (vI zz) (vI zr) (ms, es, gE, gM, gB, gT, gG, gN, gK, gD) 1 _ hC
            have hP : va_P D vwCl ((CW cI cE cG cM cS x0 q0 q1 qr (ms, es, gE, gM, gB, gT, gG, gN, gK, gD) κ) ++ [(ae, .inl (cI, 45, .inl (fun i => jI (fe i)))), (aq, .inl (cJ, 16, .inr (.inl (fun i => jL (fq i))))), (av, .inl (cJ, 16, .inr (.inl (fun i => jL (fv i))))), (au, .inl (cJ, 16, .inr (.inl (fun i => jL (fu i))))), (aw, .inl (cJ, 60, .inr (.inl (fun i => vL (fw i))))), (ay, .inl (cJ, 32, .inr (.inl (fun i => vL (fy i))))), (ag, .inl (cI, 2, .inl (fun i => jI ((fg i : Nat) : Int))))]) s.heap := hP.perm (List.perm_append_comm (l₁ := ([(ae, .inl (cI, 45, .inl (fun i => jI (fe i)))), (aq, .inl (cJ, 16, .inr (.inl (fun i => jL (fq i))))), (av, .inl (cJ, 16, .inr (.inl (fun i => jL (fv i))))), (au, .inl (cJ, 16, .inr (.inl (fun i => jL (fu i))))), (aw, .inl (cJ, 60, .inr (.inl (fun i => vL (fw i))))), (ay, .inl (cJ, 32, .inr (.inl (fun i => vL (fy i))))), (ag, .inl (cI, 2, .inl (fun i => jI ((fg i : Nat) : Int))))] : va_W)) (l₂ := (CW cI cE cG cM cS x0 q0 q1 qr (ms, es, gE, gM, gB, gT, gG, gN, gK, gD) κ)))
            have hD : va_D A ((CW cI cE cG cM cS x0 q0 q1 qr (ms, es, gE, gM, gB, gT, gG, gN, gK, gD) κ) ++ [(ae, .inl (cI, 45, .inl (fun i => jI (fe i)))), (aq, .inl (cJ, 16, .inr (.inl (fun i => jL (fq i))))), (av, .inl (cJ, 16, .inr (.inl (fun i => jL (fv i))))), (au, .inl (cJ, 16, .inr (.inl (fun i => jL (fu i))))), (aw, .inl (cJ, 60, .inr (.inl (fun i => vL (fw i))))), (ay, .inl (cJ, 32, .inr (.inl (fun i => vL (fy i))))), (ag, .inl (cI, 2, .inl (fun i => jI ((fg i : Nat) : Int))))]) := hD.perm (List.perm_append_comm (l₁ := ([(ae, .inl (cI, 45, .inl (fun i => jI (fe i)))), (aq, .inl (cJ, 16, .inr (.inl (fun i => jL (fq i))))), (av, .inl (cJ, 16, .inr (.inl (fun i => jL (fv i))))), (au, .inl (cJ, 16, .inr (.inl (fun i => jL (fu i))))), (aw, .inl (cJ, 60, .inr (.inl (fun i => vL (fw i))))), (ay, .inl (cJ, 32, .inr (.inl (fun i => vL (fy i))))), (ag, .inl (cI, 2, .inl (fun i => jI ((fg i : Nat) : Int))))] : va_W)) (l₂ := (CW cI cE cG cM cS x0 q0 q1 qr (ms, es, gE, gM, gB, gT, gG, gN, gK, gD) κ)))
            refine a_goNI (vx_runSW (As := [.ref x0, .int (jI 6), .int (jI ((nn : Nat) : Int)), .int (jI ((fe 42) + 1)), .int (jI 10007), .int (vI zj), .int (vI zz), .int (vI zr)]) (rest := []) ⟨hx, hb, hml, hown, hts⟩ (hW _) (vx_cwSW 8 hts gL_isDone_L_does rfl rfl rfl (by decide +kernel) ⟨(Nat.le_of_ble_eq_true rfl), (Nat.le_of_ble_eq_true rfl)⟩) (c_pre hK hXK hZ hN hP hD hS hA) rfl rfl hl.1 rfl (lv_room (Nat.le_of_ble_eq_true rfl)) dL_isDone_665 ⟨(Nat.le_of_ble_eq_true rfl), (Nat.le_of_ble_eq_true rfl)⟩) hP hD hS hA (fun r κ2 H locs hpost hP hD hS => ?_)
            obtain ⟨hr9, hI2⟩ := hpost
            have hr9 : r = jI (-3) := hr9
            subst hr9
            have hP : va_P D vwCl ((CW cI cE cG cM cS x0 q0 q1 qr (ms, es, gE, gM, gB, gT, gG, gN, gK, gD) κ2) ++ [(ae, .inl (cI, 45, .inl (fun i => jI (fe i)))), (aq, .inl (cJ, 16, .inr (.inl (fun i => jL (fq i))))), (av, .inl (cJ, 16, .inr (.inl (fun i => jL (fv i))))), (au, .inl (cJ, 16, .inr (.inl (fun i => jL (fu i))))), (aw, .inl (cJ, 60, .inr (.inl (fun i => vL (fw i))))), (ay, .inl (cJ, 32, .inr (.inl (fun i => vL (fy i))))), (ag, .inl (cI, 2, .inl (fun i => jI ((fg i : Nat) : Int))))]) H := hP
            have hD : va_D A ((CW cI cE cG cM cS x0 q0 q1 qr (ms, es, gE, gM, gB, gT, gG, gN, gK, gD) κ2) ++ [(ae, .inl (cI, 45, .inl (fun i => jI (fe i)))), (aq, .inl (cJ, 16, .inr (.inl (fun i => jL (fq i))))), (av, .inl (cJ, 16, .inr (.inl (fun i => jL (fv i))))), (au, .inl (cJ, 16, .inr (.inl (fun i => jL (fu i))))), (aw, .inl (cJ, 60, .inr (.inl (fun i => vL (fw i))))), (ay, .inl (cJ, 32, .inr (.inl (fun i => vL (fy i))))), (ag, .inl (cI, 2, .inl (fun i => jI ((fg i : Nat) : Int))))]) := hD
            have hP : va_P D vwCl ((ae, .inl (cI, 45, .inl (fun i => jI (fe i)))) :: (aq, .inl (cJ, 16, .inr (.inl (fun i => jL (fq i))))) :: (av, .inl (cJ, 16, .inr (.inl (fun i => jL (fv i))))) :: (au, .inl (cJ, 16, .inr (.inl (fun i => jL (fu i))))) :: (aw, .inl (cJ, 60, .inr (.inl (fun i => vL (fw i))))) :: (ay, .inl (cJ, 32, .inr (.inl (fun i => vL (fy i))))) :: (ag, .inl (cI, 2, .inl (fun i => jI ((fg i : Nat) : Int)))) :: (CW cI cE cG cM cS x0 q0 q1 qr (ms, es, gE, gM, gB, gT, gG, gN, gK, gD) κ2)) H := hP.perm (List.perm_append_comm (l₁ := (CW cI cE cG cM cS x0 q0 q1 qr (ms, es, gE, gM, gB, gT, gG, gN, gK, gD) κ2)) (l₂ := ([(ae, .inl (cI, 45, .inl (fun i => jI (fe i)))), (aq, .inl (cJ, 16, .inr (.inl (fun i => jL (fq i))))), (av, .inl (cJ, 16, .inr (.inl (fun i => jL (fv i))))), (au, .inl (cJ, 16, .inr (.inl (fun i => jL (fu i))))), (aw, .inl (cJ, 60, .inr (.inl (fun i => vL (fw i))))), (ay, .inl (cJ, 32, .inr (.inl (fun i => vL (fy i))))), (ag, .inl (cI, 2, .inl (fun i => jI ((fg i : Nat) : Int))))] : va_W)))
            have hD : va_D A ((ae, .inl (cI, 45, .inl (fun i => jI (fe i)))) :: (aq, .inl (cJ, 16, .inr (.inl (fun i => jL (fq i))))) :: (av, .inl (cJ, 16, .inr (.inl (fun i => jL (fv i))))) :: (au, .inl (cJ, 16, .inr (.inl (fun i => jL (fu i))))) :: (aw, .inl (cJ, 60, .inr (.inl (fun i => vL (fw i))))) :: (ay, .inl (cJ, 32, .inr (.inl (fun i => vL (fy i))))) :: (ag, .inl (cI, 2, .inl (fun i => jI ((fg i : Nat) : Int)))) :: (CW cI cE cG cM cS x0 q0 q1 qr (ms, es, gE, gM, gB, gT, gG, gN, gK, gD) κ2)) := hD.perm (List.perm_append_comm (l₁ := (CW cI cE cG cM cS x0 q0 q1 qr (ms, es, gE, gM, gB, gT, gG, gN, gK, gD) κ2)) (l₂ := ([(ae, .inl (cI, 45, .inl (fun i => jI (fe i)))), (aq, .inl (cJ, 16, .inr (.inl (fun i => jL (fq i))))), (av, .inl (cJ, 16, .inr (.inl (fun i => jL (fv i))))), (au, .inl (cJ, 16, .inr (.inl (fun i => jL (fu i))))), (aw, .inl (cJ, 60, .inr (.inl (fun i => vL (fw i))))), (ay, .inl (cJ, 32, .inr (.inl (fun i => vL (fy i))))), (ag, .inl (cI, 2, .inl (fun i => jI ((fg i : Nat) : Int))))] : va_W)))
            refine lv_goto (tgt := 687) hx hb dL_isDone_668 (by decide) ?_
            refine lv_iload hx hb dL_isDone_687 (lv_at hl 0 rfl) ?_
            refine n_icmp_ne (tgt := 696) hx hb (by unfold r32; omega) (by unfold r32; omega) dL_isDone_689 (by decide) (fun h689 => False.elim (h689 rfl)) (fun h689 => ?_)
            refine n_iconst hx hb dL_isDone_692 ?_
            refine lv_goto (tgt := 697) hx hb dL_isDone_693 (by decide) ?_
            refine W.widen (k := 228) (n := 867) (Nat.le_of_ble_eq_true rfl) (Nat.le_of_ble_eq_true rfl) ?_
            exact y_zret (b := true) ((ms, es, gE, gM, gB, gT, gG, gN, gK, gD), κ2, fe, fq, fv, fu, fw, fy) hx hb hr hlocks dL_isDone_697 hP hD hS rfl ⟨rfl, hI2, hL.up⟩
          by_cases h0 : two / 10 % 9 = 0
          · refine n_if_ne (tgt := 432) hx hb (by unfold r32; omega) dL_isDone_425 (by decide) (fun h425 => False.elim (by omega)) (fun h425 => ?_)
            refine n_iconst hx hb dL_isDone_428 ?_
            refine lv_goto (tgt := 441) hx hb dL_isDone_429 (by decide) ?_
            refine W.eq (g2 := F0 m 441 ls (.int (vI zr) :: [])) (congrArg (fun z : Int => F0 m 441 ls (.int (jI z) :: [])) (by rw [ezr, if_pos h0]; rfl)) ?_
            exact hk
          · refine n_if_ne (tgt := 432) hx hb (by unfold r32; omega) dL_isDone_425 (by decide) (fun h425 => ?_) (fun h425 => False.elim (by omega))
            refine lv_iload hx hb dL_isDone_432 (lv_at hl 18 rfl) ?_
            refine n_bipush hx hb dL_isDone_434 (by decide) ?_
            refine n_idivv (v := (((two / 10) : Nat) : Int)) hx hb dL_isDone_436 (by omega) (by omega) (by omega) (by omega) (by omega) ?_
            refine n_sipush hx hb dL_isDone_437 (by decide) ?_
            refine n_iremv (v := (zv zr)) hx hb dL_isDone_440 (by omega) (by omega) (by omega) (by omega) (by rw [ezr, if_neg h0]; omega) ?_
            exact hk
        · refine n_icmp_ne (tgt := 390) hx hb (by unfold r32; omega) (by unfold r32; omega) dL_isDone_381 (by decide) (fun h381 => ?_) (fun h381 => False.elim (by omega))
          refine lv_iload hx hb dL_isDone_390 (lv_at hl 14 rfl) ?_
          refine n_iconst hx hb dL_isDone_392 ?_
          refine n_idivv (v := (((one / 3) : Nat) : Int)) hx hb dL_isDone_393 (by omega) (by omega) (by omega) (by omega) (by omega) ?_
          refine n_iconst hx hb dL_isDone_394 ?_
          refine n_iremv (v := (zv zh)) hx hb dL_isDone_395 (by omega) (by omega) (by omega) (by omega) (by omega) ?_
          refine lv_istore (lv' := [(16, .int (vI zh)), (15, .int (jI ((fe 42) + 1))), (14, .int (jI 1)), (13, .int (jI 30)), (12, .int (jI 0)), (11, .int (jI ((nn : Nat) : Int))), (0, .ref x0), (1, .ref ae), (2, .ref aq), (3, .ref av), (4, .ref au), (5, .ref aw), (6, .ref ay), (7, .ref ag), (8, .int (jI 2)), (9, .int (jI ((one : Nat) : Int))), (10, .int (jI ((two : Nat) : Int)))]) hx hb dL_isDone_396 hl (by decide) rfl (fun ls hl => ?_)
          refine lv_iload hx hb dL_isDone_398 (lv_at hl 16 rfl) ?_
          refine n_iconst hx hb dL_isDone_400 ?_
          refine n_idivv (v := (((two / 2) : Nat) : Int)) hx hb dL_isDone_401 (by omega) (by omega) (by omega) (by omega) (by omega) ?_
          refine n_iconst hx hb dL_isDone_402 ?_
          refine n_iremv (v := (zv zj)) hx hb dL_isDone_403 (by omega) (by omega) (by omega) (by omega) (by omega) ?_
          refine lv_istore (lv' := [(17, .int (vI zj)), (16, .int (vI zh)), (15, .int (jI ((fe 42) + 1))), (14, .int (jI 1)), (13, .int (jI 30)), (12, .int (jI 0)), (11, .int (jI ((nn : Nat) : Int))), (0, .ref x0), (1, .ref ae), (2, .ref aq), (3, .ref av), (4, .ref au), (5, .ref aw), (6, .ref ay), (7, .ref ag), (8, .int (jI 2)), (9, .int (jI ((one : Nat) : Int))), (10, .int (jI ((two : Nat) : Int)))]) hx hb dL_isDone_404 hl (by decide) rfl (fun ls hl => ?_)
          refine lv_iload hx hb dL_isDone_406 (lv_at hl 16 rfl) ?_
          refine n_bipush hx hb dL_isDone_408 (by decide) ?_
          refine n_idivv (v := (((one / 11) : Nat) : Int)) hx hb dL_isDone_410 (by omega) (by omega) (by omega) (by omega) (by omega) ?_
          refine n_sipush hx hb dL_isDone_411 (by decide) ?_
          refine n_iremv (v := (zv zz)) hx hb dL_isDone_414 (by omega) (by omega) (by omega) (by omega) (by omega) ?_
          refine lv_istore (lv' := [(18, .int (vI zz)), (17, .int (vI zj)), (16, .int (vI zh)), (15, .int (jI ((fe 42) + 1))), (14, .int (jI 1)), (13, .int (jI 30)), (12, .int (jI 0)), (11, .int (jI ((nn : Nat) : Int))), (0, .ref x0), (1, .ref ae), (2, .ref aq), (3, .ref av), (4, .ref au), (5, .ref aw), (6, .ref ay), (7, .ref ag), (8, .int (jI 2)), (9, .int (jI ((one : Nat) : Int))), (10, .int (jI ((two : Nat) : Int)))]) hx hb dL_isDone_415 hl (by decide) rfl (fun ls hl => ?_)
          refine lv_iload hx hb dL_isDone_417 (lv_at hl 18 rfl) ?_
          refine n_bipush hx hb dL_isDone_419 (by decide) ?_
          refine n_idivv (v := (((two / 10) : Nat) : Int)) hx hb dL_isDone_421 (by omega) (by omega) (by omega) (by omega) (by omega) ?_
          refine n_bipush hx hb dL_isDone_422 (by decide) ?_
          refine n_iremv (v := (((two / 10 % 9) : Nat) : Int)) hx hb dL_isDone_424 (by omega) (by omega) (by omega) (by omega) (by omega) ?_
          have hk : W p l e { frames := 12, cells := 228, slots := 867, locals := 268 } s m ([Value.ref x0, .ref ae, .ref aq, .ref av, .ref au, .ref aw, .ref ay, .ref ag, .int (jI 2), .int (jI ((one : Nat) : Int)), .int (jI ((two : Nat) : Int))] : List Value).toArray below meth c9 s.heap [] 0 0 (MQ below (ENI D A (fun (r : Int32) (u : SG × (Nat → EG) × (Nat → Int) × (Nat → Int) × (Nat → Int) × (Nat → Int) × (Nat → Zp) × (Nat → Zp)) => r = jI (iB true) ∧ INV u.1 u.2.1 ∧ LI u.1 fm u.2.2.1 u.2.2.2.1 u.2.2.2.2.1 u.2.2.2.2.2.1 fg (c + 1)) (fun (u : SG × (Nat → EG) × (Nat → Int) × (Nat → Int) × (Nat → Int) × (Nat → Int) × (Nat → Zp) × (Nat → Zp)) => ((ae, .inl (cI, 45, .inl (fun i => jI (u.2.2.1 i)))) :: (aq, .inl (cJ, 16, .inr (.inl (fun i => jL (u.2.2.2.1 i))))) :: (av, .inl (cJ, 16, .inr (.inl (fun i => jL (u.2.2.2.2.1 i))))) :: (au, .inl (cJ, 16, .inr (.inl (fun i => jL (u.2.2.2.2.2.1 i))))) :: (aw, .inl (cJ, 60, .inr (.inl (fun i => vL (u.2.2.2.2.2.2.1 i))))) :: (ay, .inl (cJ, 32, .inr (.inl (fun i => vL (u.2.2.2.2.2.2.2 i))))) :: (ag, .inl (cI, 2, .inl (fun i => jI ((fg i : Nat) : Int)))) :: (CW cI cE cG cM cS x0 q0 q1 qr u.1 u.2.1))) (fun _ => [])) ([Value.ref x0, .ref ae, .ref aq, .ref av, .ref au, .ref aw, .ref ay, .ref ag, .int (jI 2), .int (jI ((one : Nat) : Int)), .int (jI ((two : Nat) : Int))] : List Value).toArray s 228 867 A) (F0 m 441 ls [.int (vI zr)]) := by
            refine lv_istore (lv' := [(19, .int (vI zr)), (18, .int (vI zz)), (17, .int (vI zj)), (16, .int (vI zh)), (15, .int (jI ((fe 42) + 1))), (14, .int (jI 1)), (13, .int (jI 30)), (12, .int (jI 0)), (11, .int (jI ((nn : Nat) : Int))), (0, .ref x0), (1, .ref ae), (2, .ref aq), (3, .ref av), (4, .ref au), (5, .ref aw), (6, .ref ay), (7, .ref ag), (8, .int (jI 2)), (9, .int (jI ((one : Nat) : Int))), (10, .int (jI ((two : Nat) : Int)))]) hx hb dL_isDone_441 hl (by decide) rfl (fun ls hl => ?_)
            refine lv_iload hx hb dL_isDone_443 (lv_at hl 4 rfl) ?_
            refine lv_aload_n hx hb dL_isDone_445 rfl (lv_at hl 10 rfl) ?_
            refine lv_iload hx hb dL_isDone_446 (lv_at hl 6 rfl) ?_
            refine n_bipush hx hb dL_isDone_448 (by decide) ?_
            refine n_iadd hx hb dL_isDone_450 ?_
            refine n_ialdv (i := (30 + 12)) (v := (fe 42)) hx hb hK hP 0 0 rfl htI (by omega) (by omega) (Nat.le_of_ble_eq_true rfl) rfl dL_isDone_451 ?_
            refine n_icmp_gt (tgt := 467) hx hb (by unfold r32; omega) (by unfold r32; omega) dL_isDone_452 (by decide) (fun h452 => ?_) (fun h452 => False.elim (by omega))
            refine n_iconst hx hb dL_isDone_467 ?_
            refine lv_istore (lv' := [(20, .int (jI 0)), (19, .int (vI zr)), (18, .int (vI zz)), (17, .int (vI zj)), (16, .int (vI zh)), (15, .int (jI ((fe 42) + 1))), (14, .int (jI 1)), (13, .int (jI 30)), (12, .int (jI 0)), (11, .int (jI ((nn : Nat) : Int))), (0, .ref x0), (1, .ref ae), (2, .ref aq), (3, .ref av), (4, .ref au), (5, .ref aw), (6, .ref ay), (7, .ref ag), (8, .int (jI 2)), (9, .int (jI ((one : Nat) : Int))), (10, .int (jI ((two : Nat) : Int)))]) hx hb dL_isDone_468 hl (by decide) rfl (fun ls hl => ?_)
            refine lv_iload hx hb dL_isDone_470 (lv_at hl 8 rfl) ?_
            refine n_if_eq (tgt := 484) hx hb (by unfold r32; decide) dL_isDone_472 (by decide) (fun h472 => ?_) (fun h472 => False.elim (by revert h472; decide))
            refine n_iconst hx hb dL_isDone_484 ?_
            refine lv_istore (lv' := [(21, .int (jI 0)), (20, .int (jI 0)), (19, .int (vI zr)), (18, .int (vI zz)), (17, .int (vI zj)), (16, .int (vI zh)), (15, .int (jI ((fe 42) + 1))), (14, .int (jI 1)), (13, .int (jI 30)), (12, .int (jI 0)), (11, .int (jI ((nn : Nat) : Int))), (0, .ref x0), (1, .ref ae), (2, .ref aq), (3, .ref av), (4, .ref au), (5, .ref aw), (6, .ref ay), (7, .ref ag), (8, .int (jI 2)), (9, .int (jI ((one : Nat) : Int))), (10, .int (jI ((two : Nat) : Int)))]) hx hb dL_isDone_485 hl (by decide) rfl (fun ls hl => ?_)
            refine n_bipush hx hb dL_isDone_487 (by decide) ?_
            refine lv_iload hx hb dL_isDone_489 (lv_at hl 10 rfl) ?_
            refine n_imul hx hb dL_isDone_491 ?_
            refine lv_aload_n hx hb dL_isDone_492 rfl (lv_at hl 12 rfl) ?_
            refine lv_iload hx hb dL_isDone_493 (lv_at hl 8 rfl) ?_
            refine n_bipush hx hb dL_isDone_495 (by decide) ?_
            refine n_iadd hx hb dL_isDone_497 ?_
            refine n_ialdv (i := (30 + 14)) (v := (fe 44)) hx hb hK hP 0 0 rfl htI (by omega) (by omega) (Nat.le_of_ble_eq_true rfl) rfl dL_isDone_498 ?_
            refine n_iadd hx hb dL_isDone_499 ?_
            refine lv_istore (lv' := [(22, .int (jI ((8 * ((nn : Nat) : Int)) + (fe 44)))), (21, .int (jI 0)), (20, .int (jI 0)), (19, .int (vI zr)), (18, .int (vI zz)), (17, .int (vI zj)), (16, .int (vI zh)), (15, .int (jI ((fe 42) + 1))), (14, .int (jI 1)), (13, .int (jI 30)), (12, .int (jI 0)), (11, .int (jI ((nn : Nat) : Int))), (0, .ref x0), (1, .ref ae), (2, .ref aq), (3, .ref av), (4, .ref au), (5, .ref aw), (6, .ref ay), (7, .ref ag), (8, .int (jI 2)), (9, .int (jI ((one : Nat) : Int))), (10, .int (jI ((two : Nat) : Int)))]) hx hb dL_isDone_500 hl (by decide) rfl (fun ls hl => ?_)
            refine lv_iload hx hb dL_isDone_502 (lv_at hl 1 rfl) ?_
            refine n_if_eq (tgt := 609) hx hb (by unfold r32; decide) dL_isDone_504 (by decide) (fun h504 => ?_) (fun h504 => False.elim (by revert h504; decide))
            refine lv_iload hx hb dL_isDone_609 (lv_at hl 10 rfl) ?_
            refine n_if_ne (tgt := 619) hx hb (by unfold r32; decide) dL_isDone_611 (by decide) (fun h611 => False.elim (by revert h611; decide)) (fun h611 => ?_)
            refine n_bipush hx hb dL_isDone_614 (by decide) ?_
            refine lv_goto (tgt := 643) hx hb dL_isDone_616 (by decide) ?_
            refine lv_istore (lv' := [(23, .int (jI (-3))), (22, .int (jI ((8 * ((nn : Nat) : Int)) + (fe 44)))), (21, .int (jI 0)), (20, .int (jI 0)), (19, .int (vI zr)), (18, .int (vI zz)), (17, .int (vI zj)), (16, .int (vI zh)), (15, .int (jI ((fe 42) + 1))), (14, .int (jI 1)), (13, .int (jI 30)), (12, .int (jI 0)), (11, .int (jI ((nn : Nat) : Int))), (0, .ref x0), (1, .ref ae), (2, .ref aq), (3, .ref av), (4, .ref au), (5, .ref aw), (6, .ref ay), (7, .ref ag), (8, .int (jI 2)), (9, .int (jI ((one : Nat) : Int))), (10, .int (jI ((two : Nat) : Int)))]) hx hb dL_isDone_643 hl (by decide) rfl (fun ls hl => ?_)
            refine lv_iload hx hb dL_isDone_645 (lv_at hl 9 rfl) ?_
            refine n_if_eq (tgt := 671) hx hb (by unfold r32; decide) dL_isDone_647 (by decide) (fun h647 => False.elim (by revert h647; decide)) (fun h647 => ?_)
            refine lv_aload_n hx hb dL_isDone_650 rfl (lv_at hl 13 rfl) ?_
            refine n_bipush hx hb dL_isDone_651 (by decide) ?_
            refine lv_iload hx hb dL_isDone_653 (lv_at hl 12 rfl) ?_
            refine lv_iload hx hb dL_isDone_655 (lv_at hl 8 rfl) ?_
            refine lv_iload hx hb dL_isDone_657 (lv_at hl 7 rfl) ?_
            refine lv_iload hx hb dL_isDone_659 (lv_at hl 6 rfl) ?_
            refine lv_iload hx hb dL_isDone_661 (lv_at hl 5 rfl) ?_
            refine lv_iload hx hb dL_isDone_663 (lv_at hl 4 rfl) ?_
            have hC := d_late1 l hl9 D tys htI htE htM htS htG x0 q0 q1 qr ms es gE gM gB gT gG gN gK gD κ hI ((nn : Nat) : Int) (fe 42 + 1) (zv zh) (zv zj) (zv zz) (zv zr) (by unfold r32; omega) (by unfold r32; omega) (r32_z _) (r32_z _) (r32_z _) (r32_z _) (inB_f (by omega))
            have hW := w_does_late l D tys x0 q0 q1 qr ms es gE gM gB gT gG gN gK gD κ (jI ((nn : Nat) : Int)) (jI ((fe 42) + 1)) (vI zh) (vI zj) (vI zz) (vI zr) (ms, es, gE, gM, gB, gT, gG, gN, gK, gD) 1 _ hC
            have hP : va_P D vwCl ((CW cI cE cG cM cS x0 q0 q1 qr (ms, es, gE, gM, gB, gT, gG, gN, gK, gD) κ) ++ [(ae, .inl (cI, 45, .inl (fun i => jI (fe i)))), (aq, .inl (cJ, 16, .inr (.inl (fun i => jL (fq i))))), (av, .inl (cJ, 16, .inr (.inl (fun i => jL (fv i))))), (au, .inl (cJ, 16, .inr (.inl (fun i => jL (fu i))))), (aw, .inl (cJ, 60, .inr (.inl (fun i => vL (fw i))))), (ay, .inl (cJ, 32, .inr (.inl (fun i => vL (fy i))))), (ag, .inl (cI, 2, .inl (fun i => jI ((fg i : Nat) : Int))))]) s.heap := hP.perm (List.perm_append_comm (l₁ := ([(ae, .inl (cI, 45, .inl (fun i => jI (fe i)))), (aq, .inl (cJ, 16, .inr (.inl (fun i => jL (fq i))))), (av, .inl (cJ, 16, .inr (.inl (fun i => jL (fv i))))), (au, .inl (cJ, 16, .inr (.inl (fun i => jL (fu i))))), (aw, .inl (cJ, 60, .inr (.inl (fun i => vL (fw i))))), (ay, .inl (cJ, 32, .inr (.inl (fun i => vL (fy i))))), (ag, .inl (cI, 2, .inl (fun i => jI ((fg i : Nat) : Int))))] : va_W)) (l₂ := (CW cI cE cG cM cS x0 q0 q1 qr (ms, es, gE, gM, gB, gT, gG, gN, gK, gD) κ)))
            have hD : va_D A ((CW cI cE cG cM cS x0 q0 q1 qr (ms, es, gE, gM, gB, gT, gG, gN, gK, gD) κ) ++ [(ae, .inl (cI, 45, .inl (fun i => jI (fe i)))), (aq, .inl (cJ, 16, .inr (.inl (fun i => jL (fq i))))), (av, .inl (cJ, 16, .inr (.inl (fun i => jL (fv i))))), (au, .inl (cJ, 16, .inr (.inl (fun i => jL (fu i))))), (aw, .inl (cJ, 60, .inr (.inl (fun i => vL (fw i))))), (ay, .inl (cJ, 32, .inr (.inl (fun i => vL (fy i))))), (ag, .inl (cI, 2, .inl (fun i => jI ((fg i : Nat) : Int))))]) := hD.perm (List.perm_append_comm (l₁ := ([(ae, .inl (cI, 45, .inl (fun i => jI (fe i)))), (aq, .inl (cJ, 16, .inr (.inl (fun i => jL (fq i))))), (av, .inl (cJ, 16, .inr (.inl (fun i => jL (fv i))))), (au, .inl (cJ, 16, .inr (.inl (fun i => jL (fu i))))), (aw, .inl (cJ, 60, .inr (.inl (fun i => vL (fw i))))), (ay, .inl (cJ, 32, .inr (.inl (fun i => vL (fy i))))), (ag, .inl (cI, 2, .inl (fun i => jI ((fg i : Nat) : Int))))] : va_W)) (l₂ := (CW cI cE cG cM cS x0 q0 q1 qr (ms, es, gE, gM, gB, gT, gG, gN, gK, gD) κ)))
            refine a_goNI (vx_runSW (As := [.ref x0, .int (jI 6), .int (jI ((nn : Nat) : Int)), .int (jI ((fe 42) + 1)), .int (vI zh), .int (vI zj), .int (vI zz), .int (vI zr)]) (rest := []) ⟨hx, hb, hml, hown, hts⟩ (hW _) (vx_cwSW 8 hts gL_isDone_L_does rfl rfl rfl (by decide +kernel) ⟨(Nat.le_of_ble_eq_true rfl), (Nat.le_of_ble_eq_true rfl)⟩) (c_pre hK hXK hZ hN hP hD hS hA) rfl rfl hl.1 rfl (lv_room (Nat.le_of_ble_eq_true rfl)) dL_isDone_665 ⟨(Nat.le_of_ble_eq_true rfl), (Nat.le_of_ble_eq_true rfl)⟩) hP hD hS hA (fun r κ2 H locs hpost hP hD hS => ?_)
            obtain ⟨hr9, hI2⟩ := hpost
            have hr9 : r = jI (-3) := hr9
            subst hr9
            have hP : va_P D vwCl ((CW cI cE cG cM cS x0 q0 q1 qr (ms, es, gE, gM, gB, gT, gG, gN, gK, gD) κ2) ++ [(ae, .inl (cI, 45, .inl (fun i => jI (fe i)))), (aq, .inl (cJ, 16, .inr (.inl (fun i => jL (fq i))))), (av, .inl (cJ, 16, .inr (.inl (fun i => jL (fv i))))), (au, .inl (cJ, 16, .inr (.inl (fun i => jL (fu i))))), (aw, .inl (cJ, 60, .inr (.inl (fun i => vL (fw i))))), (ay, .inl (cJ, 32, .inr (.inl (fun i => vL (fy i))))), (ag, .inl (cI, 2, .inl (fun i => jI ((fg i : Nat) : Int))))]) H := hP
            have hD : va_D A ((CW cI cE cG cM cS x0 q0 q1 qr (ms, es, gE, gM, gB, gT, gG, gN, gK, gD) κ2) ++ [(ae, .inl (cI, 45, .inl (fun i => jI (fe i)))), (aq, .inl (cJ, 16, .inr (.inl (fun i => jL (fq i))))), (av, .inl (cJ, 16, .inr (.inl (fun i => jL (fv i))))), (au, .inl (cJ, 16, .inr (.inl (fun i => jL (fu i))))), (aw, .inl (cJ, 60, .inr (.inl (fun i => vL (fw i))))), (ay, .inl (cJ, 32, .inr (.inl (fun i => vL (fy i))))), (ag, .inl (cI, 2, .inl (fun i => jI ((fg i : Nat) : Int))))]) := hD
            have hP : va_P D vwCl ((ae, .inl (cI, 45, .inl (fun i => jI (fe i)))) :: (aq, .inl (cJ, 16, .inr (.inl (fun i => jL (fq i))))) :: (av, .inl (cJ, 16, .inr (.inl (fun i => jL (fv i))))) :: (au, .inl (cJ, 16, .inr (.inl (fun i => jL (fu i))))) :: (aw, .inl (cJ, 60, .inr (.inl (fun i => vL (fw i))))) :: (ay, .inl (cJ, 32, .inr (.inl (fun i => vL (fy i))))) :: (ag, .inl (cI, 2, .inl (fun i => jI ((fg i : Nat) : Int)))) :: (CW cI cE cG cM cS x0 q0 q1 qr (ms, es, gE, gM, gB, gT, gG, gN, gK, gD) κ2)) H := hP.perm (List.perm_append_comm (l₁ := (CW cI cE cG cM cS x0 q0 q1 qr (ms, es, gE, gM, gB, gT, gG, gN, gK, gD) κ2)) (l₂ := ([(ae, .inl (cI, 45, .inl (fun i => jI (fe i)))), (aq, .inl (cJ, 16, .inr (.inl (fun i => jL (fq i))))), (av, .inl (cJ, 16, .inr (.inl (fun i => jL (fv i))))), (au, .inl (cJ, 16, .inr (.inl (fun i => jL (fu i))))), (aw, .inl (cJ, 60, .inr (.inl (fun i => vL (fw i))))), (ay, .inl (cJ, 32, .inr (.inl (fun i => vL (fy i))))), (ag, .inl (cI, 2, .inl (fun i => jI ((fg i : Nat) : Int))))] : va_W)))
            have hD : va_D A ((ae, .inl (cI, 45, .inl (fun i => jI (fe i)))) :: (aq, .inl (cJ, 16, .inr (.inl (fun i => jL (fq i))))) :: (av, .inl (cJ, 16, .inr (.inl (fun i => jL (fv i))))) :: (au, .inl (cJ, 16, .inr (.inl (fun i => jL (fu i))))) :: (aw, .inl (cJ, 60, .inr (.inl (fun i => vL (fw i))))) :: (ay, .inl (cJ, 32, .inr (.inl (fun i => vL (fy i))))) :: (ag, .inl (cI, 2, .inl (fun i => jI ((fg i : Nat) : Int)))) :: (CW cI cE cG cM cS x0 q0 q1 qr (ms, es, gE, gM, gB, gT, gG, gN, gK, gD) κ2)) := hD.perm (List.perm_append_comm (l₁ := (CW cI cE cG cM cS x0 q0 q1 qr (ms, es, gE, gM, gB, gT, gG, gN, gK, gD) κ2)) (l₂ := ([(ae, .inl (cI, 45, .inl (fun i => jI (fe i)))), (aq, .inl (cJ, 16, .inr (.inl (fun i => jL (fq i))))), (av, .inl (cJ, 16, .inr (.inl (fun i => jL (fv i))))), (au, .inl (cJ, 16, .inr (.inl (fun i => jL (fu i))))), (aw, .inl (cJ, 60, .inr (.inl (fun i => vL (fw i))))), (ay, .inl (cJ, 32, .inr (.inl (fun i => vL (fy i))))), (ag, .inl (cI, 2, .inl (fun i => jI ((fg i : Nat) : Int))))] : va_W)))
            refine lv_goto (tgt := 687) hx hb dL_isDone_668 (by decide) ?_
            refine lv_iload hx hb dL_isDone_687 (lv_at hl 0 rfl) ?_
            refine n_icmp_ne (tgt := 696) hx hb (by unfold r32; omega) (by unfold r32; omega) dL_isDone_689 (by decide) (fun h689 => False.elim (h689 rfl)) (fun h689 => ?_)
            refine n_iconst hx hb dL_isDone_692 ?_
            refine lv_goto (tgt := 697) hx hb dL_isDone_693 (by decide) ?_
            refine W.widen (k := 228) (n := 867) (Nat.le_of_ble_eq_true rfl) (Nat.le_of_ble_eq_true rfl) ?_
            exact y_zret (b := true) ((ms, es, gE, gM, gB, gT, gG, gN, gK, gD), κ2, fe, fq, fv, fu, fw, fy) hx hb hr hlocks dL_isDone_697 hP hD hS rfl ⟨rfl, hI2, hL.up⟩
          by_cases h0 : two / 10 % 9 = 0
          · refine n_if_ne (tgt := 432) hx hb (by unfold r32; omega) dL_isDone_425 (by decide) (fun h425 => False.elim (by omega)) (fun h425 => ?_)
            refine n_iconst hx hb dL_isDone_428 ?_
            refine lv_goto (tgt := 441) hx hb dL_isDone_429 (by decide) ?_
            refine W.eq (g2 := F0 m 441 ls (.int (vI zr) :: [])) (congrArg (fun z : Int => F0 m 441 ls (.int (jI z) :: [])) (by rw [ezr, if_pos h0]; rfl)) ?_
            exact hk
          · refine n_if_ne (tgt := 432) hx hb (by unfold r32; omega) dL_isDone_425 (by decide) (fun h425 => ?_) (fun h425 => False.elim (by omega))
            refine lv_iload hx hb dL_isDone_432 (lv_at hl 18 rfl) ?_
            refine n_bipush hx hb dL_isDone_434 (by decide) ?_
            refine n_idivv (v := (((two / 10) : Nat) : Int)) hx hb dL_isDone_436 (by omega) (by omega) (by omega) (by omega) (by omega) ?_
            refine n_sipush hx hb dL_isDone_437 (by decide) ?_
            refine n_iremv (v := (zv zr)) hx hb dL_isDone_440 (by omega) (by omega) (by omega) (by omega) (by rw [ezr, if_neg h0]; omega) ?_
            exact hk
      · refine n_icmp_ne (tgt := 355) hx hb (by unfold r32; omega) (by unfold r32; omega) dL_isDone_340 (by decide) (fun h340 => ?_) (fun h340 => False.elim (by omega))
        refine lv_iload hx hb dL_isDone_355 (lv_at hl 13 rfl) ?_
        refine n_bipush hx hb dL_isDone_357 (by decide) ?_
        refine n_idivv (v := (((one / 7) : Nat) : Int)) hx hb dL_isDone_359 (by omega) (by omega) (by omega) (by omega) (by omega) ?_
        refine lv_aload_n hx hb dL_isDone_360 rfl (lv_at hl 5 rfl) ?_
        refine lv_iload hx hb dL_isDone_361 (lv_at hl 1 rfl) ?_
        refine n_bipush hx hb dL_isDone_363 (by decide) ?_
        refine n_iadd hx hb dL_isDone_365 ?_
        refine n_ialdv (i := (30 + 12)) (v := (fe 42)) hx hb hK hP 0 0 rfl htI (by omega) (by omega) (Nat.le_of_ble_eq_true rfl) rfl dL_isDone_366 ?_
        refine n_iconst hx hb dL_isDone_367 ?_
        refine n_iadd hx hb dL_isDone_368 ?_
        obtain ⟨tn, etn, ltn⟩ := rem_ex ((one / 7 : Nat) : Int) ((fe 42) + 1) (by omega)
        refine n_iremv (v := ((tn : Nat) : Int)) hx hb dL_isDone_369 (by omega) (by omega) (by omega) (by omega) etn ?_
        refine lv_istore (lv' := [(15, .int (jI ((tn : Nat) : Int))), (14, .int (jI 1)), (13, .int (jI 30)), (12, .int (jI 0)), (11, .int (jI ((nn : Nat) : Int))), (0, .ref x0), (1, .ref ae), (2, .ref aq), (3, .ref av), (4, .ref au), (5, .ref aw), (6, .ref ay), (7, .ref ag), (8, .int (jI 2)), (9, .int (jI ((one : Nat) : Int))), (10, .int (jI ((two : Nat) : Int)))]) hx hb dL_isDone_370 hl (by decide) rfl (fun ls hl => ?_)
        refine lv_iload hx hb dL_isDone_372 (lv_at hl 14 rfl) ?_
        refine n_iconst hx hb dL_isDone_374 ?_
        refine n_idivv (v := (((one / 3) : Nat) : Int)) hx hb dL_isDone_375 (by omega) (by omega) (by omega) (by omega) (by omega) ?_
        refine n_bipush hx hb dL_isDone_376 (by decide) ?_
        refine n_iremv (v := (((one / 3 % 17) : Nat) : Int)) hx hb dL_isDone_378 (by omega) (by omega) (by omega) (by omega) (by omega) ?_
        refine n_bipush hx hb dL_isDone_379 (by decide) ?_
        by_cases hh : one / 3 % 17 = 16
        · refine n_icmp_ne (tgt := 390) hx hb (by unfold r32; omega) (by unfold r32; omega) dL_isDone_381 (by decide) (fun h381 => False.elim (by omega)) (fun h381 => ?_)
          refine n_sipush hx hb dL_isDone_384 (by decide) ?_
          refine lv_goto (tgt := 396) hx hb dL_isDone_387 (by decide) ?_
          refine lv_istore (lv' := [(16, .int (jI 10007)), (15, .int (jI ((tn : Nat) : Int))), (14, .int (jI 1)), (13, .int (jI 30)), (12, .int (jI 0)), (11, .int (jI ((nn : Nat) : Int))), (0, .ref x0), (1, .ref ae), (2, .ref aq), (3, .ref av), (4, .ref au), (5, .ref aw), (6, .ref ay), (7, .ref ag), (8, .int (jI 2)), (9, .int (jI ((one : Nat) : Int))), (10, .int (jI ((two : Nat) : Int)))]) hx hb dL_isDone_396 hl (by decide) rfl (fun ls hl => ?_)
          refine lv_iload hx hb dL_isDone_398 (lv_at hl 16 rfl) ?_
          refine n_iconst hx hb dL_isDone_400 ?_
          refine n_idivv (v := (((two / 2) : Nat) : Int)) hx hb dL_isDone_401 (by omega) (by omega) (by omega) (by omega) (by omega) ?_
          refine n_iconst hx hb dL_isDone_402 ?_
          refine n_iremv (v := (zv zj)) hx hb dL_isDone_403 (by omega) (by omega) (by omega) (by omega) (by omega) ?_
          refine lv_istore (lv' := [(17, .int (vI zj)), (16, .int (jI 10007)), (15, .int (jI ((tn : Nat) : Int))), (14, .int (jI 1)), (13, .int (jI 30)), (12, .int (jI 0)), (11, .int (jI ((nn : Nat) : Int))), (0, .ref x0), (1, .ref ae), (2, .ref aq), (3, .ref av), (4, .ref au), (5, .ref aw), (6, .ref ay), (7, .ref ag), (8, .int (jI 2)), (9, .int (jI ((one : Nat) : Int))), (10, .int (jI ((two : Nat) : Int)))]) hx hb dL_isDone_404 hl (by decide) rfl (fun ls hl => ?_)
          refine lv_iload hx hb dL_isDone_406 (lv_at hl 16 rfl) ?_
          refine n_bipush hx hb dL_isDone_408 (by decide) ?_
          refine n_idivv (v := (((one / 11) : Nat) : Int)) hx hb dL_isDone_410 (by omega) (by omega) (by omega) (by omega) (by omega) ?_
          refine n_sipush hx hb dL_isDone_411 (by decide) ?_
          refine n_iremv (v := (zv zz)) hx hb dL_isDone_414 (by omega) (by omega) (by omega) (by omega) (by omega) ?_
          refine lv_istore (lv' := [(18, .int (vI zz)), (17, .int (vI zj)), (16, .int (jI 10007)), (15, .int (jI ((tn : Nat) : Int))), (14, .int (jI 1)), (13, .int (jI 30)), (12, .int (jI 0)), (11, .int (jI ((nn : Nat) : Int))), (0, .ref x0), (1, .ref ae), (2, .ref aq), (3, .ref av), (4, .ref au), (5, .ref aw), (6, .ref ay), (7, .ref ag), (8, .int (jI 2)), (9, .int (jI ((one : Nat) : Int))), (10, .int (jI ((two : Nat) : Int)))]) hx hb dL_isDone_415 hl (by decide) rfl (fun ls hl => ?_)
          refine lv_iload hx hb dL_isDone_417 (lv_at hl 18 rfl) ?_
          refine n_bipush hx hb dL_isDone_419 (by decide) ?_
          refine n_idivv (v := (((two / 10) : Nat) : Int)) hx hb dL_isDone_421 (by omega) (by omega) (by omega) (by omega) (by omega) ?_
          refine n_bipush hx hb dL_isDone_422 (by decide) ?_
          refine n_iremv (v := (((two / 10 % 9) : Nat) : Int)) hx hb dL_isDone_424 (by omega) (by omega) (by omega) (by omega) (by omega) ?_
          have hk : W p l e { frames := 12, cells := 228, slots := 867, locals := 268 } s m ([Value.ref x0, .ref ae, .ref aq, .ref av, .ref au, .ref aw, .ref ay, .ref ag, .int (jI 2), .int (jI ((one : Nat) : Int)), .int (jI ((two : Nat) : Int))] : List Value).toArray below meth c9 s.heap [] 0 0 (MQ below (ENI D A (fun (r : Int32) (u : SG × (Nat → EG) × (Nat → Int) × (Nat → Int) × (Nat → Int) × (Nat → Int) × (Nat → Zp) × (Nat → Zp)) => r = jI (iB true) ∧ INV u.1 u.2.1 ∧ LI u.1 fm u.2.2.1 u.2.2.2.1 u.2.2.2.2.1 u.2.2.2.2.2.1 fg (c + 1)) (fun (u : SG × (Nat → EG) × (Nat → Int) × (Nat → Int) × (Nat → Int) × (Nat → Int) × (Nat → Zp) × (Nat → Zp)) => ((ae, .inl (cI, 45, .inl (fun i => jI (u.2.2.1 i)))) :: (aq, .inl (cJ, 16, .inr (.inl (fun i => jL (u.2.2.2.1 i))))) :: (av, .inl (cJ, 16, .inr (.inl (fun i => jL (u.2.2.2.2.1 i))))) :: (au, .inl (cJ, 16, .inr (.inl (fun i => jL (u.2.2.2.2.2.1 i))))) :: (aw, .inl (cJ, 60, .inr (.inl (fun i => vL (u.2.2.2.2.2.2.1 i))))) :: (ay, .inl (cJ, 32, .inr (.inl (fun i => vL (u.2.2.2.2.2.2.2 i))))) :: (ag, .inl (cI, 2, .inl (fun i => jI ((fg i : Nat) : Int)))) :: (CW cI cE cG cM cS x0 q0 q1 qr u.1 u.2.1))) (fun _ => [])) ([Value.ref x0, .ref ae, .ref aq, .ref av, .ref au, .ref aw, .ref ay, .ref ag, .int (jI 2), .int (jI ((one : Nat) : Int)), .int (jI ((two : Nat) : Int))] : List Value).toArray s 228 867 A) (F0 m 441 ls [.int (vI zr)]) := by
            refine lv_istore (lv' := [(19, .int (vI zr)), (18, .int (vI zz)), (17, .int (vI zj)), (16, .int (jI 10007)), (15, .int (jI ((tn : Nat) : Int))), (14, .int (jI 1)), (13, .int (jI 30)), (12, .int (jI 0)), (11, .int (jI ((nn : Nat) : Int))), (0, .ref x0), (1, .ref ae), (2, .ref aq), (3, .ref av), (4, .ref au), (5, .ref aw), (6, .ref ay), (7, .ref ag), (8, .int (jI 2)), (9, .int (jI ((one : Nat) : Int))), (10, .int (jI ((two : Nat) : Int)))]) hx hb dL_isDone_441 hl (by decide) rfl (fun ls hl => ?_)
            refine lv_iload hx hb dL_isDone_443 (lv_at hl 4 rfl) ?_
            refine lv_aload_n hx hb dL_isDone_445 rfl (lv_at hl 10 rfl) ?_
            refine lv_iload hx hb dL_isDone_446 (lv_at hl 6 rfl) ?_
            refine n_bipush hx hb dL_isDone_448 (by decide) ?_
            refine n_iadd hx hb dL_isDone_450 ?_
            refine n_ialdv (i := (30 + 12)) (v := (fe 42)) hx hb hK hP 0 0 rfl htI (by omega) (by omega) (Nat.le_of_ble_eq_true rfl) rfl dL_isDone_451 ?_
            refine n_icmp_gt (tgt := 467) hx hb (by unfold r32; omega) (by unfold r32; omega) dL_isDone_452 (by decide) (fun h452 => False.elim (by omega)) (fun h452 => ?_)
            refine lv_iload hx hb dL_isDone_455 (lv_at hl 3 rfl) ?_
            refine n_sipush hx hb dL_isDone_457 (by decide) ?_
            refine n_icmp_ge (tgt := 467) hx hb (by unfold r32; omega) (by unfold r32; omega) dL_isDone_460 (by decide) (fun h460 => ?_) (fun h460 => False.elim (by omega))
            refine n_iconst hx hb dL_isDone_467 ?_
            refine lv_istore (lv' := [(20, .int (jI 0)), (19, .int (vI zr)), (18, .int (vI zz)), (17, .int (vI zj)), (16, .int (jI 10007)), (15, .int (jI ((tn : Nat) : Int))), (14, .int (jI 1)), (13, .int (jI 30)), (12, .int (jI 0)), (11, .int (jI ((nn : Nat) : Int))), (0, .ref x0), (1, .ref ae), (2, .ref aq), (3, .ref av), (4, .ref au), (5, .ref aw), (6, .ref ay), (7, .ref ag), (8, .int (jI 2)), (9, .int (jI ((one : Nat) : Int))), (10, .int (jI ((two : Nat) : Int)))]) hx hb dL_isDone_468 hl (by decide) rfl (fun ls hl => ?_)
            refine lv_iload hx hb dL_isDone_470 (lv_at hl 8 rfl) ?_
            refine n_if_eq (tgt := 484) hx hb (by unfold r32; decide) dL_isDone_472 (by decide) (fun h472 => ?_) (fun h472 => False.elim (by revert h472; decide))
            refine n_iconst hx hb dL_isDone_484 ?_
            refine lv_istore (lv' := [(21, .int (jI 0)), (20, .int (jI 0)), (19, .int (vI zr)), (18, .int (vI zz)), (17, .int (vI zj)), (16, .int (jI 10007)), (15, .int (jI ((tn : Nat) : Int))), (14, .int (jI 1)), (13, .int (jI 30)), (12, .int (jI 0)), (11, .int (jI ((nn : Nat) : Int))), (0, .ref x0), (1, .ref ae), (2, .ref aq), (3, .ref av), (4, .ref au), (5, .ref aw), (6, .ref ay), (7, .ref ag), (8, .int (jI 2)), (9, .int (jI ((one : Nat) : Int))), (10, .int (jI ((two : Nat) : Int)))]) hx hb dL_isDone_485 hl (by decide) rfl (fun ls hl => ?_)
            refine n_bipush hx hb dL_isDone_487 (by decide) ?_
            refine lv_iload hx hb dL_isDone_489 (lv_at hl 10 rfl) ?_
            refine n_imul hx hb dL_isDone_491 ?_
            refine lv_aload_n hx hb dL_isDone_492 rfl (lv_at hl 12 rfl) ?_
            refine lv_iload hx hb dL_isDone_493 (lv_at hl 8 rfl) ?_
            refine n_bipush hx hb dL_isDone_495 (by decide) ?_
            refine n_iadd hx hb dL_isDone_497 ?_
            refine n_ialdv (i := (30 + 14)) (v := (fe 44)) hx hb hK hP 0 0 rfl htI (by omega) (by omega) (Nat.le_of_ble_eq_true rfl) rfl dL_isDone_498 ?_
            refine n_iadd hx hb dL_isDone_499 ?_
            refine lv_istore (lv' := [(22, .int (jI ((8 * ((nn : Nat) : Int)) + (fe 44)))), (21, .int (jI 0)), (20, .int (jI 0)), (19, .int (vI zr)), (18, .int (vI zz)), (17, .int (vI zj)), (16, .int (jI 10007)), (15, .int (jI ((tn : Nat) : Int))), (14, .int (jI 1)), (13, .int (jI 30)), (12, .int (jI 0)), (11, .int (jI ((nn : Nat) : Int))), (0, .ref x0), (1, .ref ae), (2, .ref aq), (3, .ref av), (4, .ref au), (5, .ref aw), (6, .ref ay), (7, .ref ag), (8, .int (jI 2)), (9, .int (jI ((one : Nat) : Int))), (10, .int (jI ((two : Nat) : Int)))]) hx hb dL_isDone_500 hl (by decide) rfl (fun ls hl => ?_)
            refine lv_iload hx hb dL_isDone_502 (lv_at hl 1 rfl) ?_
            refine n_if_eq (tgt := 609) hx hb (by unfold r32; decide) dL_isDone_504 (by decide) (fun h504 => ?_) (fun h504 => False.elim (by revert h504; decide))
            refine lv_iload hx hb dL_isDone_609 (lv_at hl 10 rfl) ?_
            refine n_if_ne (tgt := 619) hx hb (by unfold r32; decide) dL_isDone_611 (by decide) (fun h611 => False.elim (by revert h611; decide)) (fun h611 => ?_)
            refine n_bipush hx hb dL_isDone_614 (by decide) ?_
            refine lv_goto (tgt := 643) hx hb dL_isDone_616 (by decide) ?_
            refine lv_istore (lv' := [(23, .int (jI (-3))), (22, .int (jI ((8 * ((nn : Nat) : Int)) + (fe 44)))), (21, .int (jI 0)), (20, .int (jI 0)), (19, .int (vI zr)), (18, .int (vI zz)), (17, .int (vI zj)), (16, .int (jI 10007)), (15, .int (jI ((tn : Nat) : Int))), (14, .int (jI 1)), (13, .int (jI 30)), (12, .int (jI 0)), (11, .int (jI ((nn : Nat) : Int))), (0, .ref x0), (1, .ref ae), (2, .ref aq), (3, .ref av), (4, .ref au), (5, .ref aw), (6, .ref ay), (7, .ref ag), (8, .int (jI 2)), (9, .int (jI ((one : Nat) : Int))), (10, .int (jI ((two : Nat) : Int)))]) hx hb dL_isDone_643 hl (by decide) rfl (fun ls hl => ?_)
            refine lv_iload hx hb dL_isDone_645 (lv_at hl 9 rfl) ?_
            refine n_if_eq (tgt := 671) hx hb (by unfold r32; decide) dL_isDone_647 (by decide) (fun h647 => False.elim (by revert h647; decide)) (fun h647 => ?_)
            refine lv_aload_n hx hb dL_isDone_650 rfl (lv_at hl 13 rfl) ?_
            refine n_bipush hx hb dL_isDone_651 (by decide) ?_
            refine lv_iload hx hb dL_isDone_653 (lv_at hl 12 rfl) ?_
            refine lv_iload hx hb dL_isDone_655 (lv_at hl 8 rfl) ?_
            refine lv_iload hx hb dL_isDone_657 (lv_at hl 7 rfl) ?_
            refine lv_iload hx hb dL_isDone_659 (lv_at hl 6 rfl) ?_
            refine lv_iload hx hb dL_isDone_661 (lv_at hl 5 rfl) ?_
            refine lv_iload hx hb dL_isDone_663 (lv_at hl 4 rfl) ?_
            have hC := d_late1 l hl9 D tys htI htE htM htS htG x0 q0 q1 qr ms es gE gM gB gT gG gN gK gD κ hI ((nn : Nat) : Int) ((tn : Nat) : Int) 10007 (zv zj) (zv zz) (zv zr) (by unfold r32; omega) (by unfold r32; omega) (by unfold r32; omega) (r32_z _) (r32_z _) (r32_z _) (inB_f (by omega))
            have hW := w_does_late l D tys x0 q0 q1 qr ms es gE gM gB gT gG gN gK gD κ (jI ((nn : Nat) : Int)) (jI ((tn : Nat) : Int)) (jI 10007) (vI zj) (vI zz) (vI zr) (ms, es, gE, gM, gB, gT, gG, gN, gK, gD) 1 _ hC
            have hP : va_P D vwCl ((CW cI cE cG cM cS x0 q0 q1 qr (ms, es, gE, gM, gB, gT, gG, gN, gK, gD) κ) ++ [(ae, .inl (cI, 45, .inl (fun i => jI (fe i)))), (aq, .inl (cJ, 16, .inr (.inl (fun i => jL (fq i))))), (av, .inl (cJ, 16, .inr (.inl (fun i => jL (fv i))))), (au, .inl (cJ, 16, .inr (.inl (fun i => jL (fu i))))), (aw, .inl (cJ, 60, .inr (.inl (fun i => vL (fw i))))), (ay, .inl (cJ, 32, .inr (.inl (fun i => vL (fy i))))), (ag, .inl (cI, 2, .inl (fun i => jI ((fg i : Nat) : Int))))]) s.heap := hP.perm (List.perm_append_comm (l₁ := ([(ae, .inl (cI, 45, .inl (fun i => jI (fe i)))), (aq, .inl (cJ, 16, .inr (.inl (fun i => jL (fq i))))), (av, .inl (cJ, 16, .inr (.inl (fun i => jL (fv i))))), (au, .inl (cJ, 16, .inr (.inl (fun i => jL (fu i))))), (aw, .inl (cJ, 60, .inr (.inl (fun i => vL (fw i))))), (ay, .inl (cJ, 32, .inr (.inl (fun i => vL (fy i))))), (ag, .inl (cI, 2, .inl (fun i => jI ((fg i : Nat) : Int))))] : va_W)) (l₂ := (CW cI cE cG cM cS x0 q0 q1 qr (ms, es, gE, gM, gB, gT, gG, gN, gK, gD) κ)))
            have hD : va_D A ((CW cI cE cG cM cS x0 q0 q1 qr (ms, es, gE, gM, gB, gT, gG, gN, gK, gD) κ) ++ [(ae, .inl (cI, 45, .inl (fun i => jI (fe i)))), (aq, .inl (cJ, 16, .inr (.inl (fun i => jL (fq i))))), (av, .inl (cJ, 16, .inr (.inl (fun i => jL (fv i))))), (au, .inl (cJ, 16, .inr (.inl (fun i => jL (fu i))))), (aw, .inl (cJ, 60, .inr (.inl (fun i => vL (fw i))))), (ay, .inl (cJ, 32, .inr (.inl (fun i => vL (fy i))))), (ag, .inl (cI, 2, .inl (fun i => jI ((fg i : Nat) : Int))))]) := hD.perm (List.perm_append_comm (l₁ := ([(ae, .inl (cI, 45, .inl (fun i => jI (fe i)))), (aq, .inl (cJ, 16, .inr (.inl (fun i => jL (fq i))))), (av, .inl (cJ, 16, .inr (.inl (fun i => jL (fv i))))), (au, .inl (cJ, 16, .inr (.inl (fun i => jL (fu i))))), (aw, .inl (cJ, 60, .inr (.inl (fun i => vL (fw i))))), (ay, .inl (cJ, 32, .inr (.inl (fun i => vL (fy i))))), (ag, .inl (cI, 2, .inl (fun i => jI ((fg i : Nat) : Int))))] : va_W)) (l₂ := (CW cI cE cG cM cS x0 q0 q1 qr (ms, es, gE, gM, gB, gT, gG, gN, gK, gD) κ)))
            refine a_goNI (vx_runSW (As := [.ref x0, .int (jI 6), .int (jI ((nn : Nat) : Int)), .int (jI ((tn : Nat) : Int)), .int (jI 10007), .int (vI zj), .int (vI zz), .int (vI zr)]) (rest := []) ⟨hx, hb, hml, hown, hts⟩ (hW _) (vx_cwSW 8 hts gL_isDone_L_does rfl rfl rfl (by decide +kernel) ⟨(Nat.le_of_ble_eq_true rfl), (Nat.le_of_ble_eq_true rfl)⟩) (c_pre hK hXK hZ hN hP hD hS hA) rfl rfl hl.1 rfl (lv_room (Nat.le_of_ble_eq_true rfl)) dL_isDone_665 ⟨(Nat.le_of_ble_eq_true rfl), (Nat.le_of_ble_eq_true rfl)⟩) hP hD hS hA (fun r κ2 H locs hpost hP hD hS => ?_)
            obtain ⟨hr9, hI2⟩ := hpost
            have hr9 : r = jI (-3) := hr9
            subst hr9
            have hP : va_P D vwCl ((CW cI cE cG cM cS x0 q0 q1 qr (ms, es, gE, gM, gB, gT, gG, gN, gK, gD) κ2) ++ [(ae, .inl (cI, 45, .inl (fun i => jI (fe i)))), (aq, .inl (cJ, 16, .inr (.inl (fun i => jL (fq i))))), (av, .inl (cJ, 16, .inr (.inl (fun i => jL (fv i))))), (au, .inl (cJ, 16, .inr (.inl (fun i => jL (fu i))))), (aw, .inl (cJ, 60, .inr (.inl (fun i => vL (fw i))))), (ay, .inl (cJ, 32, .inr (.inl (fun i => vL (fy i))))), (ag, .inl (cI, 2, .inl (fun i => jI ((fg i : Nat) : Int))))]) H := hP
            have hD : va_D A ((CW cI cE cG cM cS x0 q0 q1 qr (ms, es, gE, gM, gB, gT, gG, gN, gK, gD) κ2) ++ [(ae, .inl (cI, 45, .inl (fun i => jI (fe i)))), (aq, .inl (cJ, 16, .inr (.inl (fun i => jL (fq i))))), (av, .inl (cJ, 16, .inr (.inl (fun i => jL (fv i))))), (au, .inl (cJ, 16, .inr (.inl (fun i => jL (fu i))))), (aw, .inl (cJ, 60, .inr (.inl (fun i => vL (fw i))))), (ay, .inl (cJ, 32, .inr (.inl (fun i => vL (fy i))))), (ag, .inl (cI, 2, .inl (fun i => jI ((fg i : Nat) : Int))))]) := hD
            have hP : va_P D vwCl ((ae, .inl (cI, 45, .inl (fun i => jI (fe i)))) :: (aq, .inl (cJ, 16, .inr (.inl (fun i => jL (fq i))))) :: (av, .inl (cJ, 16, .inr (.inl (fun i => jL (fv i))))) :: (au, .inl (cJ, 16, .inr (.inl (fun i => jL (fu i))))) :: (aw, .inl (cJ, 60, .inr (.inl (fun i => vL (fw i))))) :: (ay, .inl (cJ, 32, .inr (.inl (fun i => vL (fy i))))) :: (ag, .inl (cI, 2, .inl (fun i => jI ((fg i : Nat) : Int)))) :: (CW cI cE cG cM cS x0 q0 q1 qr (ms, es, gE, gM, gB, gT, gG, gN, gK, gD) κ2)) H := hP.perm (List.perm_append_comm (l₁ := (CW cI cE cG cM cS x0 q0 q1 qr (ms, es, gE, gM, gB, gT, gG, gN, gK, gD) κ2)) (l₂ := ([(ae, .inl (cI, 45, .inl (fun i => jI (fe i)))), (aq, .inl (cJ, 16, .inr (.inl (fun i => jL (fq i))))), (av, .inl (cJ, 16, .inr (.inl (fun i => jL (fv i))))), (au, .inl (cJ, 16, .inr (.inl (fun i => jL (fu i))))), (aw, .inl (cJ, 60, .inr (.inl (fun i => vL (fw i))))), (ay, .inl (cJ, 32, .inr (.inl (fun i => vL (fy i))))), (ag, .inl (cI, 2, .inl (fun i => jI ((fg i : Nat) : Int))))] : va_W)))
            have hD : va_D A ((ae, .inl (cI, 45, .inl (fun i => jI (fe i)))) :: (aq, .inl (cJ, 16, .inr (.inl (fun i => jL (fq i))))) :: (av, .inl (cJ, 16, .inr (.inl (fun i => jL (fv i))))) :: (au, .inl (cJ, 16, .inr (.inl (fun i => jL (fu i))))) :: (aw, .inl (cJ, 60, .inr (.inl (fun i => vL (fw i))))) :: (ay, .inl (cJ, 32, .inr (.inl (fun i => vL (fy i))))) :: (ag, .inl (cI, 2, .inl (fun i => jI ((fg i : Nat) : Int)))) :: (CW cI cE cG cM cS x0 q0 q1 qr (ms, es, gE, gM, gB, gT, gG, gN, gK, gD) κ2)) := hD.perm (List.perm_append_comm (l₁ := (CW cI cE cG cM cS x0 q0 q1 qr (ms, es, gE, gM, gB, gT, gG, gN, gK, gD) κ2)) (l₂ := ([(ae, .inl (cI, 45, .inl (fun i => jI (fe i)))), (aq, .inl (cJ, 16, .inr (.inl (fun i => jL (fq i))))), (av, .inl (cJ, 16, .inr (.inl (fun i => jL (fv i))))), (au, .inl (cJ, 16, .inr (.inl (fun i => jL (fu i))))), (aw, .inl (cJ, 60, .inr (.inl (fun i => vL (fw i))))), (ay, .inl (cJ, 32, .inr (.inl (fun i => vL (fy i))))), (ag, .inl (cI, 2, .inl (fun i => jI ((fg i : Nat) : Int))))] : va_W)))
            refine lv_goto (tgt := 687) hx hb dL_isDone_668 (by decide) ?_
            refine lv_iload hx hb dL_isDone_687 (lv_at hl 0 rfl) ?_
            refine n_icmp_ne (tgt := 696) hx hb (by unfold r32; omega) (by unfold r32; omega) dL_isDone_689 (by decide) (fun h689 => False.elim (h689 rfl)) (fun h689 => ?_)
            refine n_iconst hx hb dL_isDone_692 ?_
            refine lv_goto (tgt := 697) hx hb dL_isDone_693 (by decide) ?_
            refine W.widen (k := 228) (n := 867) (Nat.le_of_ble_eq_true rfl) (Nat.le_of_ble_eq_true rfl) ?_
            exact y_zret (b := true) ((ms, es, gE, gM, gB, gT, gG, gN, gK, gD), κ2, fe, fq, fv, fu, fw, fy) hx hb hr hlocks dL_isDone_697 hP hD hS rfl ⟨rfl, hI2, hL.up⟩
          by_cases h0 : two / 10 % 9 = 0
          · refine n_if_ne (tgt := 432) hx hb (by unfold r32; omega) dL_isDone_425 (by decide) (fun h425 => False.elim (by omega)) (fun h425 => ?_)
            refine n_iconst hx hb dL_isDone_428 ?_
            refine lv_goto (tgt := 441) hx hb dL_isDone_429 (by decide) ?_
            refine W.eq (g2 := F0 m 441 ls (.int (vI zr) :: [])) (congrArg (fun z : Int => F0 m 441 ls (.int (jI z) :: [])) (by rw [ezr, if_pos h0]; rfl)) ?_
            exact hk
          · refine n_if_ne (tgt := 432) hx hb (by unfold r32; omega) dL_isDone_425 (by decide) (fun h425 => ?_) (fun h425 => False.elim (by omega))
            refine lv_iload hx hb dL_isDone_432 (lv_at hl 18 rfl) ?_
            refine n_bipush hx hb dL_isDone_434 (by decide) ?_
            refine n_idivv (v := (((two / 10) : Nat) : Int)) hx hb dL_isDone_436 (by omega) (by omega) (by omega) (by omega) (by omega) ?_
            refine n_sipush hx hb dL_isDone_437 (by decide) ?_
            refine n_iremv (v := (zv zr)) hx hb dL_isDone_440 (by omega) (by omega) (by omega) (by omega) (by rw [ezr, if_neg h0]; omega) ?_
            exact hk
        · refine n_icmp_ne (tgt := 390) hx hb (by unfold r32; omega) (by unfold r32; omega) dL_isDone_381 (by decide) (fun h381 => ?_) (fun h381 => False.elim (by omega))
          refine lv_iload hx hb dL_isDone_390 (lv_at hl 14 rfl) ?_
          refine n_iconst hx hb dL_isDone_392 ?_
          refine n_idivv (v := (((one / 3) : Nat) : Int)) hx hb dL_isDone_393 (by omega) (by omega) (by omega) (by omega) (by omega) ?_
          refine n_iconst hx hb dL_isDone_394 ?_
          refine n_iremv (v := (zv zh)) hx hb dL_isDone_395 (by omega) (by omega) (by omega) (by omega) (by omega) ?_
          refine lv_istore (lv' := [(16, .int (vI zh)), (15, .int (jI ((tn : Nat) : Int))), (14, .int (jI 1)), (13, .int (jI 30)), (12, .int (jI 0)), (11, .int (jI ((nn : Nat) : Int))), (0, .ref x0), (1, .ref ae), (2, .ref aq), (3, .ref av), (4, .ref au), (5, .ref aw), (6, .ref ay), (7, .ref ag), (8, .int (jI 2)), (9, .int (jI ((one : Nat) : Int))), (10, .int (jI ((two : Nat) : Int)))]) hx hb dL_isDone_396 hl (by decide) rfl (fun ls hl => ?_)
          refine lv_iload hx hb dL_isDone_398 (lv_at hl 16 rfl) ?_
          refine n_iconst hx hb dL_isDone_400 ?_
          refine n_idivv (v := (((two / 2) : Nat) : Int)) hx hb dL_isDone_401 (by omega) (by omega) (by omega) (by omega) (by omega) ?_
          refine n_iconst hx hb dL_isDone_402 ?_
          refine n_iremv (v := (zv zj)) hx hb dL_isDone_403 (by omega) (by omega) (by omega) (by omega) (by omega) ?_
          refine lv_istore (lv' := [(17, .int (vI zj)), (16, .int (vI zh)), (15, .int (jI ((tn : Nat) : Int))), (14, .int (jI 1)), (13, .int (jI 30)), (12, .int (jI 0)), (11, .int (jI ((nn : Nat) : Int))), (0, .ref x0), (1, .ref ae), (2, .ref aq), (3, .ref av), (4, .ref au), (5, .ref aw), (6, .ref ay), (7, .ref ag), (8, .int (jI 2)), (9, .int (jI ((one : Nat) : Int))), (10, .int (jI ((two : Nat) : Int)))]) hx hb dL_isDone_404 hl (by decide) rfl (fun ls hl => ?_)
          refine lv_iload hx hb dL_isDone_406 (lv_at hl 16 rfl) ?_
          refine n_bipush hx hb dL_isDone_408 (by decide) ?_
          refine n_idivv (v := (((one / 11) : Nat) : Int)) hx hb dL_isDone_410 (by omega) (by omega) (by omega) (by omega) (by omega) ?_
          refine n_sipush hx hb dL_isDone_411 (by decide) ?_
          refine n_iremv (v := (zv zz)) hx hb dL_isDone_414 (by omega) (by omega) (by omega) (by omega) (by omega) ?_
          refine lv_istore (lv' := [(18, .int (vI zz)), (17, .int (vI zj)), (16, .int (vI zh)), (15, .int (jI ((tn : Nat) : Int))), (14, .int (jI 1)), (13, .int (jI 30)), (12, .int (jI 0)), (11, .int (jI ((nn : Nat) : Int))), (0, .ref x0), (1, .ref ae), (2, .ref aq), (3, .ref av), (4, .ref au), (5, .ref aw), (6, .ref ay), (7, .ref ag), (8, .int (jI 2)), (9, .int (jI ((one : Nat) : Int))), (10, .int (jI ((two : Nat) : Int)))]) hx hb dL_isDone_415 hl (by decide) rfl (fun ls hl => ?_)
          refine lv_iload hx hb dL_isDone_417 (lv_at hl 18 rfl) ?_
          refine n_bipush hx hb dL_isDone_419 (by decide) ?_
          refine n_idivv (v := (((two / 10) : Nat) : Int)) hx hb dL_isDone_421 (by omega) (by omega) (by omega) (by omega) (by omega) ?_
          refine n_bipush hx hb dL_isDone_422 (by decide) ?_
          refine n_iremv (v := (((two / 10 % 9) : Nat) : Int)) hx hb dL_isDone_424 (by omega) (by omega) (by omega) (by omega) (by omega) ?_
          have hk : W p l e { frames := 12, cells := 228, slots := 867, locals := 268 } s m ([Value.ref x0, .ref ae, .ref aq, .ref av, .ref au, .ref aw, .ref ay, .ref ag, .int (jI 2), .int (jI ((one : Nat) : Int)), .int (jI ((two : Nat) : Int))] : List Value).toArray below meth c9 s.heap [] 0 0 (MQ below (ENI D A (fun (r : Int32) (u : SG × (Nat → EG) × (Nat → Int) × (Nat → Int) × (Nat → Int) × (Nat → Int) × (Nat → Zp) × (Nat → Zp)) => r = jI (iB true) ∧ INV u.1 u.2.1 ∧ LI u.1 fm u.2.2.1 u.2.2.2.1 u.2.2.2.2.1 u.2.2.2.2.2.1 fg (c + 1)) (fun (u : SG × (Nat → EG) × (Nat → Int) × (Nat → Int) × (Nat → Int) × (Nat → Int) × (Nat → Zp) × (Nat → Zp)) => ((ae, .inl (cI, 45, .inl (fun i => jI (u.2.2.1 i)))) :: (aq, .inl (cJ, 16, .inr (.inl (fun i => jL (u.2.2.2.1 i))))) :: (av, .inl (cJ, 16, .inr (.inl (fun i => jL (u.2.2.2.2.1 i))))) :: (au, .inl (cJ, 16, .inr (.inl (fun i => jL (u.2.2.2.2.2.1 i))))) :: (aw, .inl (cJ, 60, .inr (.inl (fun i => vL (u.2.2.2.2.2.2.1 i))))) :: (ay, .inl (cJ, 32, .inr (.inl (fun i => vL (u.2.2.2.2.2.2.2 i))))) :: (ag, .inl (cI, 2, .inl (fun i => jI ((fg i : Nat) : Int)))) :: (CW cI cE cG cM cS x0 q0 q1 qr u.1 u.2.1))) (fun _ => [])) ([Value.ref x0, .ref ae, .ref aq, .ref av, .ref au, .ref aw, .ref ay, .ref ag, .int (jI 2), .int (jI ((one : Nat) : Int)), .int (jI ((two : Nat) : Int))] : List Value).toArray s 228 867 A) (F0 m 441 ls [.int (vI zr)]) := by
            refine lv_istore (lv' := [(19, .int (vI zr)), (18, .int (vI zz)), (17, .int (vI zj)), (16, .int (vI zh)), (15, .int (jI ((tn : Nat) : Int))), (14, .int (jI 1)), (13, .int (jI 30)), (12, .int (jI 0)), (11, .int (jI ((nn : Nat) : Int))), (0, .ref x0), (1, .ref ae), (2, .ref aq), (3, .ref av), (4, .ref au), (5, .ref aw), (6, .ref ay), (7, .ref ag), (8, .int (jI 2)), (9, .int (jI ((one : Nat) : Int))), (10, .int (jI ((two : Nat) : Int)))]) hx hb dL_isDone_441 hl (by decide) rfl (fun ls hl => ?_)
            refine lv_iload hx hb dL_isDone_443 (lv_at hl 4 rfl) ?_
            refine lv_aload_n hx hb dL_isDone_445 rfl (lv_at hl 10 rfl) ?_
            refine lv_iload hx hb dL_isDone_446 (lv_at hl 6 rfl) ?_
            refine n_bipush hx hb dL_isDone_448 (by decide) ?_
            refine n_iadd hx hb dL_isDone_450 ?_
            refine n_ialdv (i := (30 + 12)) (v := (fe 42)) hx hb hK hP 0 0 rfl htI (by omega) (by omega) (Nat.le_of_ble_eq_true rfl) rfl dL_isDone_451 ?_
            refine n_icmp_gt (tgt := 467) hx hb (by unfold r32; omega) (by unfold r32; omega) dL_isDone_452 (by decide) (fun h452 => False.elim (by omega)) (fun h452 => ?_)
            refine lv_iload hx hb dL_isDone_455 (lv_at hl 3 rfl) ?_
            refine n_sipush hx hb dL_isDone_457 (by decide) ?_
            refine n_icmp_ge (tgt := 467) hx hb (r32_z _) (by unfold r32; omega) dL_isDone_460 (by decide) (fun h460 => False.elim (by omega)) (fun h460 => ?_)
            refine n_iconst hx hb dL_isDone_463 ?_
            refine lv_goto (tgt := 468) hx hb dL_isDone_464 (by decide) ?_
            refine lv_istore (lv' := [(20, .int (jI 1)), (19, .int (vI zr)), (18, .int (vI zz)), (17, .int (vI zj)), (16, .int (vI zh)), (15, .int (jI ((tn : Nat) : Int))), (14, .int (jI 1)), (13, .int (jI 30)), (12, .int (jI 0)), (11, .int (jI ((nn : Nat) : Int))), (0, .ref x0), (1, .ref ae), (2, .ref aq), (3, .ref av), (4, .ref au), (5, .ref aw), (6, .ref ay), (7, .ref ag), (8, .int (jI 2)), (9, .int (jI ((one : Nat) : Int))), (10, .int (jI ((two : Nat) : Int)))]) hx hb dL_isDone_468 hl (by decide) rfl (fun ls hl => ?_)
            refine lv_iload hx hb dL_isDone_470 (lv_at hl 8 rfl) ?_
            refine n_if_eq (tgt := 484) hx hb (by unfold r32; decide) dL_isDone_472 (by decide) (fun h472 => ?_) (fun h472 => False.elim (by revert h472; decide))
            refine n_iconst hx hb dL_isDone_484 ?_
            refine lv_istore (lv' := [(21, .int (jI 0)), (20, .int (jI 1)), (19, .int (vI zr)), (18, .int (vI zz)), (17, .int (vI zj)), (16, .int (vI zh)), (15, .int (jI ((tn : Nat) : Int))), (14, .int (jI 1)), (13, .int (jI 30)), (12, .int (jI 0)), (11, .int (jI ((nn : Nat) : Int))), (0, .ref x0), (1, .ref ae), (2, .ref aq), (3, .ref av), (4, .ref au), (5, .ref aw), (6, .ref ay), (7, .ref ag), (8, .int (jI 2)), (9, .int (jI ((one : Nat) : Int))), (10, .int (jI ((two : Nat) : Int)))]) hx hb dL_isDone_485 hl (by decide) rfl (fun ls hl => ?_)
            refine n_bipush hx hb dL_isDone_487 (by decide) ?_
            refine lv_iload hx hb dL_isDone_489 (lv_at hl 10 rfl) ?_
            refine n_imul hx hb dL_isDone_491 ?_
            refine lv_aload_n hx hb dL_isDone_492 rfl (lv_at hl 12 rfl) ?_
            refine lv_iload hx hb dL_isDone_493 (lv_at hl 8 rfl) ?_
            refine n_bipush hx hb dL_isDone_495 (by decide) ?_
            refine n_iadd hx hb dL_isDone_497 ?_
            refine n_ialdv (i := (30 + 14)) (v := (fe 44)) hx hb hK hP 0 0 rfl htI (by omega) (by omega) (Nat.le_of_ble_eq_true rfl) rfl dL_isDone_498 ?_
            refine n_iadd hx hb dL_isDone_499 ?_
            refine lv_istore (lv' := [(22, .int (jI ((8 * ((nn : Nat) : Int)) + (fe 44)))), (21, .int (jI 0)), (20, .int (jI 1)), (19, .int (vI zr)), (18, .int (vI zz)), (17, .int (vI zj)), (16, .int (vI zh)), (15, .int (jI ((tn : Nat) : Int))), (14, .int (jI 1)), (13, .int (jI 30)), (12, .int (jI 0)), (11, .int (jI ((nn : Nat) : Int))), (0, .ref x0), (1, .ref ae), (2, .ref aq), (3, .ref av), (4, .ref au), (5, .ref aw), (6, .ref ay), (7, .ref ag), (8, .int (jI 2)), (9, .int (jI ((one : Nat) : Int))), (10, .int (jI ((two : Nat) : Int)))]) hx hb dL_isDone_500 hl (by decide) rfl (fun ls hl => ?_)
            refine lv_iload hx hb dL_isDone_502 (lv_at hl 1 rfl) ?_
            refine n_if_eq (tgt := 609) hx hb (by unfold r32; decide) dL_isDone_504 (by decide) (fun h504 => ?_) (fun h504 => False.elim (by revert h504; decide))
            refine lv_iload hx hb dL_isDone_609 (lv_at hl 10 rfl) ?_
            refine n_if_ne (tgt := 619) hx hb (by unfold r32; decide) dL_isDone_611 (by decide) (fun h611 => False.elim (by revert h611; decide)) (fun h611 => ?_)
            refine n_bipush hx hb dL_isDone_614 (by decide) ?_
            refine lv_goto (tgt := 643) hx hb dL_isDone_616 (by decide) ?_
            refine lv_istore (lv' := [(23, .int (jI (-3))), (22, .int (jI ((8 * ((nn : Nat) : Int)) + (fe 44)))), (21, .int (jI 0)), (20, .int (jI 1)), (19, .int (vI zr)), (18, .int (vI zz)), (17, .int (vI zj)), (16, .int (vI zh)), (15, .int (jI ((tn : Nat) : Int))), (14, .int (jI 1)), (13, .int (jI 30)), (12, .int (jI 0)), (11, .int (jI ((nn : Nat) : Int))), (0, .ref x0), (1, .ref ae), (2, .ref aq), (3, .ref av), (4, .ref au), (5, .ref aw), (6, .ref ay), (7, .ref ag), (8, .int (jI 2)), (9, .int (jI ((one : Nat) : Int))), (10, .int (jI ((two : Nat) : Int)))]) hx hb dL_isDone_643 hl (by decide) rfl (fun ls hl => ?_)
            refine lv_iload hx hb dL_isDone_645 (lv_at hl 9 rfl) ?_
            refine n_if_eq (tgt := 671) hx hb (by unfold r32; decide) dL_isDone_647 (by decide) (fun h647 => False.elim (by revert h647; decide)) (fun h647 => ?_)
            refine lv_aload_n hx hb dL_isDone_650 rfl (lv_at hl 13 rfl) ?_
            refine n_bipush hx hb dL_isDone_651 (by decide) ?_
            refine lv_iload hx hb dL_isDone_653 (lv_at hl 12 rfl) ?_
            refine lv_iload hx hb dL_isDone_655 (lv_at hl 8 rfl) ?_
            refine lv_iload hx hb dL_isDone_657 (lv_at hl 7 rfl) ?_
            refine lv_iload hx hb dL_isDone_659 (lv_at hl 6 rfl) ?_
            refine lv_iload hx hb dL_isDone_661 (lv_at hl 5 rfl) ?_
            refine lv_iload hx hb dL_isDone_663 (lv_at hl 4 rfl) ?_
            have hC := d_late1 l hl9 D tys htI htE htM htS htG x0 q0 q1 qr ms es gE gM gB gT gG gN gK gD κ hI ((nn : Nat) : Int) ((tn : Nat) : Int) (zv zh) (zv zj) (zv zz) (zv zr) (by unfold r32; omega) (by unfold r32; omega) (r32_z _) (r32_z _) (r32_z _) (r32_z _) (inB_f (by omega))
            have hW := w_does_late l D tys x0 q0 q1 qr ms es gE gM gB gT gG gN gK gD κ (jI ((nn : Nat) : Int)) (jI ((tn : Nat) : Int)) (vI zh) (vI zj) (vI zz) (vI zr) (ms, es, gE, gM, gB, gT, gG, gN, gK, gD) 1 _ hC
            have hP : va_P D vwCl ((CW cI cE cG cM cS x0 q0 q1 qr (ms, es, gE, gM, gB, gT, gG, gN, gK, gD) κ) ++ [(ae, .inl (cI, 45, .inl (fun i => jI (fe i)))), (aq, .inl (cJ, 16, .inr (.inl (fun i => jL (fq i))))), (av, .inl (cJ, 16, .inr (.inl (fun i => jL (fv i))))), (au, .inl (cJ, 16, .inr (.inl (fun i => jL (fu i))))), (aw, .inl (cJ, 60, .inr (.inl (fun i => vL (fw i))))), (ay, .inl (cJ, 32, .inr (.inl (fun i => vL (fy i))))), (ag, .inl (cI, 2, .inl (fun i => jI ((fg i : Nat) : Int))))]) s.heap := hP.perm (List.perm_append_comm (l₁ := ([(ae, .inl (cI, 45, .inl (fun i => jI (fe i)))), (aq, .inl (cJ, 16, .inr (.inl (fun i => jL (fq i))))), (av, .inl (cJ, 16, .inr (.inl (fun i => jL (fv i))))), (au, .inl (cJ, 16, .inr (.inl (fun i => jL (fu i))))), (aw, .inl (cJ, 60, .inr (.inl (fun i => vL (fw i))))), (ay, .inl (cJ, 32, .inr (.inl (fun i => vL (fy i))))), (ag, .inl (cI, 2, .inl (fun i => jI ((fg i : Nat) : Int))))] : va_W)) (l₂ := (CW cI cE cG cM cS x0 q0 q1 qr (ms, es, gE, gM, gB, gT, gG, gN, gK, gD) κ)))
            have hD : va_D A ((CW cI cE cG cM cS x0 q0 q1 qr (ms, es, gE, gM, gB, gT, gG, gN, gK, gD) κ) ++ [(ae, .inl (cI, 45, .inl (fun i => jI (fe i)))), (aq, .inl (cJ, 16, .inr (.inl (fun i => jL (fq i))))), (av, .inl (cJ, 16, .inr (.inl (fun i => jL (fv i))))), (au, .inl (cJ, 16, .inr (.inl (fun i => jL (fu i))))), (aw, .inl (cJ, 60, .inr (.inl (fun i => vL (fw i))))), (ay, .inl (cJ, 32, .inr (.inl (fun i => vL (fy i))))), (ag, .inl (cI, 2, .inl (fun i => jI ((fg i : Nat) : Int))))]) := hD.perm (List.perm_append_comm (l₁ := ([(ae, .inl (cI, 45, .inl (fun i => jI (fe i)))), (aq, .inl (cJ, 16, .inr (.inl (fun i => jL (fq i))))), (av, .inl (cJ, 16, .inr (.inl (fun i => jL (fv i))))), (au, .inl (cJ, 16, .inr (.inl (fun i => jL (fu i))))), (aw, .inl (cJ, 60, .inr (.inl (fun i => vL (fw i))))), (ay, .inl (cJ, 32, .inr (.inl (fun i => vL (fy i))))), (ag, .inl (cI, 2, .inl (fun i => jI ((fg i : Nat) : Int))))] : va_W)) (l₂ := (CW cI cE cG cM cS x0 q0 q1 qr (ms, es, gE, gM, gB, gT, gG, gN, gK, gD) κ)))
            refine a_goNI (vx_runSW (As := [.ref x0, .int (jI 6), .int (jI ((nn : Nat) : Int)), .int (jI ((tn : Nat) : Int)), .int (vI zh), .int (vI zj), .int (vI zz), .int (vI zr)]) (rest := []) ⟨hx, hb, hml, hown, hts⟩ (hW _) (vx_cwSW 8 hts gL_isDone_L_does rfl rfl rfl (by decide +kernel) ⟨(Nat.le_of_ble_eq_true rfl), (Nat.le_of_ble_eq_true rfl)⟩) (c_pre hK hXK hZ hN hP hD hS hA) rfl rfl hl.1 rfl (lv_room (Nat.le_of_ble_eq_true rfl)) dL_isDone_665 ⟨(Nat.le_of_ble_eq_true rfl), (Nat.le_of_ble_eq_true rfl)⟩) hP hD hS hA (fun r κ2 H locs hpost hP hD hS => ?_)
            obtain ⟨hr9, hI2⟩ := hpost
            have hr9 : r = jI (-3) := hr9
            subst hr9
            have hP : va_P D vwCl ((CW cI cE cG cM cS x0 q0 q1 qr (ms, es, gE, gM, gB, gT, gG, gN, gK, gD) κ2) ++ [(ae, .inl (cI, 45, .inl (fun i => jI (fe i)))), (aq, .inl (cJ, 16, .inr (.inl (fun i => jL (fq i))))), (av, .inl (cJ, 16, .inr (.inl (fun i => jL (fv i))))), (au, .inl (cJ, 16, .inr (.inl (fun i => jL (fu i))))), (aw, .inl (cJ, 60, .inr (.inl (fun i => vL (fw i))))), (ay, .inl (cJ, 32, .inr (.inl (fun i => vL (fy i))))), (ag, .inl (cI, 2, .inl (fun i => jI ((fg i : Nat) : Int))))]) H := hP
            have hD : va_D A ((CW cI cE cG cM cS x0 q0 q1 qr (ms, es, gE, gM, gB, gT, gG, gN, gK, gD) κ2) ++ [(ae, .inl (cI, 45, .inl (fun i => jI (fe i)))), (aq, .inl (cJ, 16, .inr (.inl (fun i => jL (fq i))))), (av, .inl (cJ, 16, .inr (.inl (fun i => jL (fv i))))), (au, .inl (cJ, 16, .inr (.inl (fun i => jL (fu i))))), (aw, .inl (cJ, 60, .inr (.inl (fun i => vL (fw i))))), (ay, .inl (cJ, 32, .inr (.inl (fun i => vL (fy i))))), (ag, .inl (cI, 2, .inl (fun i => jI ((fg i : Nat) : Int))))]) := hD
            have hP : va_P D vwCl ((ae, .inl (cI, 45, .inl (fun i => jI (fe i)))) :: (aq, .inl (cJ, 16, .inr (.inl (fun i => jL (fq i))))) :: (av, .inl (cJ, 16, .inr (.inl (fun i => jL (fv i))))) :: (au, .inl (cJ, 16, .inr (.inl (fun i => jL (fu i))))) :: (aw, .inl (cJ, 60, .inr (.inl (fun i => vL (fw i))))) :: (ay, .inl (cJ, 32, .inr (.inl (fun i => vL (fy i))))) :: (ag, .inl (cI, 2, .inl (fun i => jI ((fg i : Nat) : Int)))) :: (CW cI cE cG cM cS x0 q0 q1 qr (ms, es, gE, gM, gB, gT, gG, gN, gK, gD) κ2)) H := hP.perm (List.perm_append_comm (l₁ := (CW cI cE cG cM cS x0 q0 q1 qr (ms, es, gE, gM, gB, gT, gG, gN, gK, gD) κ2)) (l₂ := ([(ae, .inl (cI, 45, .inl (fun i => jI (fe i)))), (aq, .inl (cJ, 16, .inr (.inl (fun i => jL (fq i))))), (av, .inl (cJ, 16, .inr (.inl (fun i => jL (fv i))))), (au, .inl (cJ, 16, .inr (.inl (fun i => jL (fu i))))), (aw, .inl (cJ, 60, .inr (.inl (fun i => vL (fw i))))), (ay, .inl (cJ, 32, .inr (.inl (fun i => vL (fy i))))), (ag, .inl (cI, 2, .inl (fun i => jI ((fg i : Nat) : Int))))] : va_W)))
            have hD : va_D A ((ae, .inl (cI, 45, .inl (fun i => jI (fe i)))) :: (aq, .inl (cJ, 16, .inr (.inl (fun i => jL (fq i))))) :: (av, .inl (cJ, 16, .inr (.inl (fun i => jL (fv i))))) :: (au, .inl (cJ, 16, .inr (.inl (fun i => jL (fu i))))) :: (aw, .inl (cJ, 60, .inr (.inl (fun i => vL (fw i))))) :: (ay, .inl (cJ, 32, .inr (.inl (fun i => vL (fy i))))) :: (ag, .inl (cI, 2, .inl (fun i => jI ((fg i : Nat) : Int)))) :: (CW cI cE cG cM cS x0 q0 q1 qr (ms, es, gE, gM, gB, gT, gG, gN, gK, gD) κ2)) := hD.perm (List.perm_append_comm (l₁ := (CW cI cE cG cM cS x0 q0 q1 qr (ms, es, gE, gM, gB, gT, gG, gN, gK, gD) κ2)) (l₂ := ([(ae, .inl (cI, 45, .inl (fun i => jI (fe i)))), (aq, .inl (cJ, 16, .inr (.inl (fun i => jL (fq i))))), (av, .inl (cJ, 16, .inr (.inl (fun i => jL (fv i))))), (au, .inl (cJ, 16, .inr (.inl (fun i => jL (fu i))))), (aw, .inl (cJ, 60, .inr (.inl (fun i => vL (fw i))))), (ay, .inl (cJ, 32, .inr (.inl (fun i => vL (fy i))))), (ag, .inl (cI, 2, .inl (fun i => jI ((fg i : Nat) : Int))))] : va_W)))
            refine lv_goto (tgt := 687) hx hb dL_isDone_668 (by decide) ?_
            refine lv_iload hx hb dL_isDone_687 (lv_at hl 0 rfl) ?_
            refine n_icmp_ne (tgt := 696) hx hb (by unfold r32; omega) (by unfold r32; omega) dL_isDone_689 (by decide) (fun h689 => False.elim (h689 rfl)) (fun h689 => ?_)
            refine n_iconst hx hb dL_isDone_692 ?_
            refine lv_goto (tgt := 697) hx hb dL_isDone_693 (by decide) ?_
            refine W.widen (k := 228) (n := 867) (Nat.le_of_ble_eq_true rfl) (Nat.le_of_ble_eq_true rfl) ?_
            exact y_zret (b := true) ((ms, es, gE, gM, gB, gT, gG, gN, gK, gD), κ2, fe, fq, fv, fu, fw, fy) hx hb hr hlocks dL_isDone_697 hP hD hS rfl ⟨rfl, hI2, hL.up⟩
          by_cases h0 : two / 10 % 9 = 0
          · refine n_if_ne (tgt := 432) hx hb (by unfold r32; omega) dL_isDone_425 (by decide) (fun h425 => False.elim (by omega)) (fun h425 => ?_)
            refine n_iconst hx hb dL_isDone_428 ?_
            refine lv_goto (tgt := 441) hx hb dL_isDone_429 (by decide) ?_
            refine W.eq (g2 := F0 m 441 ls (.int (vI zr) :: [])) (congrArg (fun z : Int => F0 m 441 ls (.int (jI z) :: [])) (by rw [ezr, if_pos h0]; rfl)) ?_
            exact hk
          · refine n_if_ne (tgt := 432) hx hb (by unfold r32; omega) dL_isDone_425 (by decide) (fun h425 => ?_) (fun h425 => False.elim (by omega))
            refine lv_iload hx hb dL_isDone_432 (lv_at hl 18 rfl) ?_
            refine n_bipush hx hb dL_isDone_434 (by decide) ?_
            refine n_idivv (v := (((two / 10) : Nat) : Int)) hx hb dL_isDone_436 (by omega) (by omega) (by omega) (by omega) (by omega) ?_
            refine n_sipush hx hb dL_isDone_437 (by decide) ?_
            refine n_iremv (v := (zv zr)) hx hb dL_isDone_440 (by omega) (by omega) (by omega) (by omega) (by rw [ezr, if_neg h0]; omega) ?_
            exact hk
    · refine n_if_ne (tgt := 312) hx hb (by unfold r32; omega) dL_isDone_305 (by decide) (fun h305 => ?_) (fun h305 => False.elim (by omega))
      refine n_iconst hx hb dL_isDone_312 ?_
      refine lv_istore (lv' := [(14, .int (jI 0)), (13, .int (jI 30)), (12, .int (jI 0)), (11, .int (jI ((nn : Nat) : Int))), (0, .ref x0), (1, .ref ae), (2, .ref aq), (3, .ref av), (4, .ref au), (5, .ref aw), (6, .ref ay), (7, .ref ag), (8, .int (jI 2)), (9, .int (jI ((one : Nat) : Int))), (10, .int (jI ((two : Nat) : Int)))]) hx hb dL_isDone_313 hl (by decide) rfl (fun ls hl => ?_)
      refine lv_iload hx hb dL_isDone_315 (lv_at hl 0 rfl) ?_
      refine n_if_ne (tgt := 330) hx hb (by unfold r32; decide) dL_isDone_317 (by decide) (fun h317 => False.elim (by revert h317; decide)) (fun h317 => ?_)
      refine lv_aload_n hx hb dL_isDone_320 rfl (lv_at hl 5 rfl) ?_
      refine lv_iload hx hb dL_isDone_321 (lv_at hl 1 rfl) ?_
      refine n_bipush hx hb dL_isDone_323 (by decide) ?_
      refine n_iadd hx hb dL_isDone_325 ?_
      refine n_ialdv (i := (30 + 12)) (v := (fe 42)) hx hb hK hP 0 0 rfl htI (by omega) (by omega) (Nat.le_of_ble_eq_true rfl) rfl dL_isDone_326 ?_
      refine lv_goto (tgt := 370) hx hb dL_isDone_327 (by decide) ?_
      refine lv_istore (lv' := [(15, .int (jI (fe 42))), (14, .int (jI 0)), (13, .int (jI 30)), (12, .int (jI 0)), (11, .int (jI ((nn : Nat) : Int))), (0, .ref x0), (1, .ref ae), (2, .ref aq), (3, .ref av), (4, .ref au), (5, .ref aw), (6, .ref ay), (7, .ref ag), (8, .int (jI 2)), (9, .int (jI ((one : Nat) : Int))), (10, .int (jI ((two : Nat) : Int)))]) hx hb dL_isDone_370 hl (by decide) rfl (fun ls hl => ?_)
      refine lv_iload hx hb dL_isDone_372 (lv_at hl 14 rfl) ?_
      refine n_iconst hx hb dL_isDone_374 ?_
      refine n_idivv (v := (((one / 3) : Nat) : Int)) hx hb dL_isDone_375 (by omega) (by omega) (by omega) (by omega) (by omega) ?_
      refine n_bipush hx hb dL_isDone_376 (by decide) ?_
      refine n_iremv (v := (((one / 3 % 17) : Nat) : Int)) hx hb dL_isDone_378 (by omega) (by omega) (by omega) (by omega) (by omega) ?_
      refine n_bipush hx hb dL_isDone_379 (by decide) ?_
      by_cases hh : one / 3 % 17 = 16
      · refine n_icmp_ne (tgt := 390) hx hb (by unfold r32; omega) (by unfold r32; omega) dL_isDone_381 (by decide) (fun h381 => False.elim (by omega)) (fun h381 => ?_)
        refine n_sipush hx hb dL_isDone_384 (by decide) ?_
        refine lv_goto (tgt := 396) hx hb dL_isDone_387 (by decide) ?_
        refine lv_istore (lv' := [(16, .int (jI 10007)), (15, .int (jI (fe 42))), (14, .int (jI 0)), (13, .int (jI 30)), (12, .int (jI 0)), (11, .int (jI ((nn : Nat) : Int))), (0, .ref x0), (1, .ref ae), (2, .ref aq), (3, .ref av), (4, .ref au), (5, .ref aw), (6, .ref ay), (7, .ref ag), (8, .int (jI 2)), (9, .int (jI ((one : Nat) : Int))), (10, .int (jI ((two : Nat) : Int)))]) hx hb dL_isDone_396 hl (by decide) rfl (fun ls hl => ?_)
        refine lv_iload hx hb dL_isDone_398 (lv_at hl 16 rfl) ?_
        refine n_iconst hx hb dL_isDone_400 ?_
        refine n_idivv (v := (((two / 2) : Nat) : Int)) hx hb dL_isDone_401 (by omega) (by omega) (by omega) (by omega) (by omega) ?_
        refine n_iconst hx hb dL_isDone_402 ?_
        refine n_iremv (v := (zv zj)) hx hb dL_isDone_403 (by omega) (by omega) (by omega) (by omega) (by omega) ?_
        refine lv_istore (lv' := [(17, .int (vI zj)), (16, .int (jI 10007)), (15, .int (jI (fe 42))), (14, .int (jI 0)), (13, .int (jI 30)), (12, .int (jI 0)), (11, .int (jI ((nn : Nat) : Int))), (0, .ref x0), (1, .ref ae), (2, .ref aq), (3, .ref av), (4, .ref au), (5, .ref aw), (6, .ref ay), (7, .ref ag), (8, .int (jI 2)), (9, .int (jI ((one : Nat) : Int))), (10, .int (jI ((two : Nat) : Int)))]) hx hb dL_isDone_404 hl (by decide) rfl (fun ls hl => ?_)
        refine lv_iload hx hb dL_isDone_406 (lv_at hl 16 rfl) ?_
        refine n_bipush hx hb dL_isDone_408 (by decide) ?_
        refine n_idivv (v := (((one / 11) : Nat) : Int)) hx hb dL_isDone_410 (by omega) (by omega) (by omega) (by omega) (by omega) ?_
        refine n_sipush hx hb dL_isDone_411 (by decide) ?_
        refine n_iremv (v := (zv zz)) hx hb dL_isDone_414 (by omega) (by omega) (by omega) (by omega) (by omega) ?_
        refine lv_istore (lv' := [(18, .int (vI zz)), (17, .int (vI zj)), (16, .int (jI 10007)), (15, .int (jI (fe 42))), (14, .int (jI 0)), (13, .int (jI 30)), (12, .int (jI 0)), (11, .int (jI ((nn : Nat) : Int))), (0, .ref x0), (1, .ref ae), (2, .ref aq), (3, .ref av), (4, .ref au), (5, .ref aw), (6, .ref ay), (7, .ref ag), (8, .int (jI 2)), (9, .int (jI ((one : Nat) : Int))), (10, .int (jI ((two : Nat) : Int)))]) hx hb dL_isDone_415 hl (by decide) rfl (fun ls hl => ?_)
        refine lv_iload hx hb dL_isDone_417 (lv_at hl 18 rfl) ?_
        refine n_bipush hx hb dL_isDone_419 (by decide) ?_
        refine n_idivv (v := (((two / 10) : Nat) : Int)) hx hb dL_isDone_421 (by omega) (by omega) (by omega) (by omega) (by omega) ?_
        refine n_bipush hx hb dL_isDone_422 (by decide) ?_
        refine n_iremv (v := (((two / 10 % 9) : Nat) : Int)) hx hb dL_isDone_424 (by omega) (by omega) (by omega) (by omega) (by omega) ?_
        have hk : W p l e { frames := 12, cells := 228, slots := 867, locals := 268 } s m ([Value.ref x0, .ref ae, .ref aq, .ref av, .ref au, .ref aw, .ref ay, .ref ag, .int (jI 2), .int (jI ((one : Nat) : Int)), .int (jI ((two : Nat) : Int))] : List Value).toArray below meth c9 s.heap [] 0 0 (MQ below (ENI D A (fun (r : Int32) (u : SG × (Nat → EG) × (Nat → Int) × (Nat → Int) × (Nat → Int) × (Nat → Int) × (Nat → Zp) × (Nat → Zp)) => r = jI (iB true) ∧ INV u.1 u.2.1 ∧ LI u.1 fm u.2.2.1 u.2.2.2.1 u.2.2.2.2.1 u.2.2.2.2.2.1 fg (c + 1)) (fun (u : SG × (Nat → EG) × (Nat → Int) × (Nat → Int) × (Nat → Int) × (Nat → Int) × (Nat → Zp) × (Nat → Zp)) => ((ae, .inl (cI, 45, .inl (fun i => jI (u.2.2.1 i)))) :: (aq, .inl (cJ, 16, .inr (.inl (fun i => jL (u.2.2.2.1 i))))) :: (av, .inl (cJ, 16, .inr (.inl (fun i => jL (u.2.2.2.2.1 i))))) :: (au, .inl (cJ, 16, .inr (.inl (fun i => jL (u.2.2.2.2.2.1 i))))) :: (aw, .inl (cJ, 60, .inr (.inl (fun i => vL (u.2.2.2.2.2.2.1 i))))) :: (ay, .inl (cJ, 32, .inr (.inl (fun i => vL (u.2.2.2.2.2.2.2 i))))) :: (ag, .inl (cI, 2, .inl (fun i => jI ((fg i : Nat) : Int)))) :: (CW cI cE cG cM cS x0 q0 q1 qr u.1 u.2.1))) (fun _ => [])) ([Value.ref x0, .ref ae, .ref aq, .ref av, .ref au, .ref aw, .ref ay, .ref ag, .int (jI 2), .int (jI ((one : Nat) : Int)), .int (jI ((two : Nat) : Int))] : List Value).toArray s 228 867 A) (F0 m 441 ls [.int (vI zr)]) := by
          refine lv_istore (lv' := [(19, .int (vI zr)), (18, .int (vI zz)), (17, .int (vI zj)), (16, .int (jI 10007)), (15, .int (jI (fe 42))), (14, .int (jI 0)), (13, .int (jI 30)), (12, .int (jI 0)), (11, .int (jI ((nn : Nat) : Int))), (0, .ref x0), (1, .ref ae), (2, .ref aq), (3, .ref av), (4, .ref au), (5, .ref aw), (6, .ref ay), (7, .ref ag), (8, .int (jI 2)), (9, .int (jI ((one : Nat) : Int))), (10, .int (jI ((two : Nat) : Int)))]) hx hb dL_isDone_441 hl (by decide) rfl (fun ls hl => ?_)
          refine lv_iload hx hb dL_isDone_443 (lv_at hl 4 rfl) ?_
          refine lv_aload_n hx hb dL_isDone_445 rfl (lv_at hl 10 rfl) ?_
          refine lv_iload hx hb dL_isDone_446 (lv_at hl 6 rfl) ?_
          refine n_bipush hx hb dL_isDone_448 (by decide) ?_
          refine n_iadd hx hb dL_isDone_450 ?_
          refine n_ialdv (i := (30 + 12)) (v := (fe 42)) hx hb hK hP 0 0 rfl htI (by omega) (by omega) (Nat.le_of_ble_eq_true rfl) rfl dL_isDone_451 ?_
          refine n_icmp_gt (tgt := 467) hx hb (by unfold r32; omega) (by unfold r32; omega) dL_isDone_452 (by decide) (fun h452 => False.elim (by omega)) (fun h452 => ?_)
          refine lv_iload hx hb dL_isDone_455 (lv_at hl 3 rfl) ?_
          refine n_sipush hx hb dL_isDone_457 (by decide) ?_
          refine n_icmp_ge (tgt := 467) hx hb (by unfold r32; omega) (by unfold r32; omega) dL_isDone_460 (by decide) (fun h460 => ?_) (fun h460 => False.elim (by omega))
          refine n_iconst hx hb dL_isDone_467 ?_
          refine lv_istore (lv' := [(20, .int (jI 0)), (19, .int (vI zr)), (18, .int (vI zz)), (17, .int (vI zj)), (16, .int (jI 10007)), (15, .int (jI (fe 42))), (14, .int (jI 0)), (13, .int (jI 30)), (12, .int (jI 0)), (11, .int (jI ((nn : Nat) : Int))), (0, .ref x0), (1, .ref ae), (2, .ref aq), (3, .ref av), (4, .ref au), (5, .ref aw), (6, .ref ay), (7, .ref ag), (8, .int (jI 2)), (9, .int (jI ((one : Nat) : Int))), (10, .int (jI ((two : Nat) : Int)))]) hx hb dL_isDone_468 hl (by decide) rfl (fun ls hl => ?_)
          refine lv_iload hx hb dL_isDone_470 (lv_at hl 8 rfl) ?_
          refine n_if_eq (tgt := 484) hx hb (by unfold r32; decide) dL_isDone_472 (by decide) (fun h472 => ?_) (fun h472 => False.elim (by revert h472; decide))
          refine n_iconst hx hb dL_isDone_484 ?_
          refine lv_istore (lv' := [(21, .int (jI 0)), (20, .int (jI 0)), (19, .int (vI zr)), (18, .int (vI zz)), (17, .int (vI zj)), (16, .int (jI 10007)), (15, .int (jI (fe 42))), (14, .int (jI 0)), (13, .int (jI 30)), (12, .int (jI 0)), (11, .int (jI ((nn : Nat) : Int))), (0, .ref x0), (1, .ref ae), (2, .ref aq), (3, .ref av), (4, .ref au), (5, .ref aw), (6, .ref ay), (7, .ref ag), (8, .int (jI 2)), (9, .int (jI ((one : Nat) : Int))), (10, .int (jI ((two : Nat) : Int)))]) hx hb dL_isDone_485 hl (by decide) rfl (fun ls hl => ?_)
          refine n_bipush hx hb dL_isDone_487 (by decide) ?_
          refine lv_iload hx hb dL_isDone_489 (lv_at hl 10 rfl) ?_
          refine n_imul hx hb dL_isDone_491 ?_
          refine lv_aload_n hx hb dL_isDone_492 rfl (lv_at hl 12 rfl) ?_
          refine lv_iload hx hb dL_isDone_493 (lv_at hl 8 rfl) ?_
          refine n_bipush hx hb dL_isDone_495 (by decide) ?_
          refine n_iadd hx hb dL_isDone_497 ?_
          refine n_ialdv (i := (30 + 14)) (v := (fe 44)) hx hb hK hP 0 0 rfl htI (by omega) (by omega) (Nat.le_of_ble_eq_true rfl) rfl dL_isDone_498 ?_
          refine n_iadd hx hb dL_isDone_499 ?_
          refine lv_istore (lv' := [(22, .int (jI ((8 * ((nn : Nat) : Int)) + (fe 44)))), (21, .int (jI 0)), (20, .int (jI 0)), (19, .int (vI zr)), (18, .int (vI zz)), (17, .int (vI zj)), (16, .int (jI 10007)), (15, .int (jI (fe 42))), (14, .int (jI 0)), (13, .int (jI 30)), (12, .int (jI 0)), (11, .int (jI ((nn : Nat) : Int))), (0, .ref x0), (1, .ref ae), (2, .ref aq), (3, .ref av), (4, .ref au), (5, .ref aw), (6, .ref ay), (7, .ref ag), (8, .int (jI 2)), (9, .int (jI ((one : Nat) : Int))), (10, .int (jI ((two : Nat) : Int)))]) hx hb dL_isDone_500 hl (by decide) rfl (fun ls hl => ?_)
          refine lv_iload hx hb dL_isDone_502 (lv_at hl 1 rfl) ?_
          refine n_if_eq (tgt := 609) hx hb (by unfold r32; decide) dL_isDone_504 (by decide) (fun h504 => ?_) (fun h504 => False.elim (by revert h504; decide))
          refine lv_iload hx hb dL_isDone_609 (lv_at hl 10 rfl) ?_
          refine n_if_ne (tgt := 619) hx hb (by unfold r32; decide) dL_isDone_611 (by decide) (fun h611 => False.elim (by revert h611; decide)) (fun h611 => ?_)
          refine n_bipush hx hb dL_isDone_614 (by decide) ?_
          refine lv_goto (tgt := 643) hx hb dL_isDone_616 (by decide) ?_
          refine lv_istore (lv' := [(23, .int (jI (-3))), (22, .int (jI ((8 * ((nn : Nat) : Int)) + (fe 44)))), (21, .int (jI 0)), (20, .int (jI 0)), (19, .int (vI zr)), (18, .int (vI zz)), (17, .int (vI zj)), (16, .int (jI 10007)), (15, .int (jI (fe 42))), (14, .int (jI 0)), (13, .int (jI 30)), (12, .int (jI 0)), (11, .int (jI ((nn : Nat) : Int))), (0, .ref x0), (1, .ref ae), (2, .ref aq), (3, .ref av), (4, .ref au), (5, .ref aw), (6, .ref ay), (7, .ref ag), (8, .int (jI 2)), (9, .int (jI ((one : Nat) : Int))), (10, .int (jI ((two : Nat) : Int)))]) hx hb dL_isDone_643 hl (by decide) rfl (fun ls hl => ?_)
          refine lv_iload hx hb dL_isDone_645 (lv_at hl 9 rfl) ?_
          refine n_if_eq (tgt := 671) hx hb (by unfold r32; decide) dL_isDone_647 (by decide) (fun h647 => ?_) (fun h647 => False.elim (by revert h647; decide))
          refine lv_aload_n hx hb dL_isDone_671 rfl (lv_at hl 13 rfl) ?_
          refine n_iconst hx hb dL_isDone_672 ?_
          refine lv_iload hx hb dL_isDone_673 (lv_at hl 12 rfl) ?_
          refine lv_iload hx hb dL_isDone_675 (lv_at hl 7 rfl) ?_
          refine lv_iload hx hb dL_isDone_677 (lv_at hl 6 rfl) ?_
          refine lv_iload hx hb dL_isDone_679 (lv_at hl 5 rfl) ?_
          refine lv_iload hx hb dL_isDone_681 (lv_at hl 4 rfl) ?_
          refine n_iconst hx hb dL_isDone_683 ?_
          have hC := d_measure1 l hl9 D tys htI htE htM htS htG x0 q0 q1 qr ms es gE gM gB gT gG gN gK gD κ hI ((nn : Nat) : Int) 10007 (zv zj) (zv zz) (zv zr) (by unfold r32; omega) (by unfold r32; omega) (r32_z _) (r32_z _) (r32_z _) (inB_f (by omega))
          have hW := w_does_measure l D tys x0 q0 q1 qr ms es gE gM gB gT gG gN gK gD κ (jI ((nn : Nat) : Int)) (jI 10007) (vI zj) (vI zz) (vI zr) (jI 0) (ms, es, gE, gM, gB, gT, gG, gN, gK, gD) 1 _ hC
          have hP : va_P D vwCl ((CW cI cE cG cM cS x0 q0 q1 qr (ms, es, gE, gM, gB, gT, gG, gN, gK, gD) κ) ++ [(ae, .inl (cI, 45, .inl (fun i => jI (fe i)))), (aq, .inl (cJ, 16, .inr (.inl (fun i => jL (fq i))))), (av, .inl (cJ, 16, .inr (.inl (fun i => jL (fv i))))), (au, .inl (cJ, 16, .inr (.inl (fun i => jL (fu i))))), (aw, .inl (cJ, 60, .inr (.inl (fun i => vL (fw i))))), (ay, .inl (cJ, 32, .inr (.inl (fun i => vL (fy i))))), (ag, .inl (cI, 2, .inl (fun i => jI ((fg i : Nat) : Int))))]) s.heap := hP.perm (List.perm_append_comm (l₁ := ([(ae, .inl (cI, 45, .inl (fun i => jI (fe i)))), (aq, .inl (cJ, 16, .inr (.inl (fun i => jL (fq i))))), (av, .inl (cJ, 16, .inr (.inl (fun i => jL (fv i))))), (au, .inl (cJ, 16, .inr (.inl (fun i => jL (fu i))))), (aw, .inl (cJ, 60, .inr (.inl (fun i => vL (fw i))))), (ay, .inl (cJ, 32, .inr (.inl (fun i => vL (fy i))))), (ag, .inl (cI, 2, .inl (fun i => jI ((fg i : Nat) : Int))))] : va_W)) (l₂ := (CW cI cE cG cM cS x0 q0 q1 qr (ms, es, gE, gM, gB, gT, gG, gN, gK, gD) κ)))
          have hD : va_D A ((CW cI cE cG cM cS x0 q0 q1 qr (ms, es, gE, gM, gB, gT, gG, gN, gK, gD) κ) ++ [(ae, .inl (cI, 45, .inl (fun i => jI (fe i)))), (aq, .inl (cJ, 16, .inr (.inl (fun i => jL (fq i))))), (av, .inl (cJ, 16, .inr (.inl (fun i => jL (fv i))))), (au, .inl (cJ, 16, .inr (.inl (fun i => jL (fu i))))), (aw, .inl (cJ, 60, .inr (.inl (fun i => vL (fw i))))), (ay, .inl (cJ, 32, .inr (.inl (fun i => vL (fy i))))), (ag, .inl (cI, 2, .inl (fun i => jI ((fg i : Nat) : Int))))]) := hD.perm (List.perm_append_comm (l₁ := ([(ae, .inl (cI, 45, .inl (fun i => jI (fe i)))), (aq, .inl (cJ, 16, .inr (.inl (fun i => jL (fq i))))), (av, .inl (cJ, 16, .inr (.inl (fun i => jL (fv i))))), (au, .inl (cJ, 16, .inr (.inl (fun i => jL (fu i))))), (aw, .inl (cJ, 60, .inr (.inl (fun i => vL (fw i))))), (ay, .inl (cJ, 32, .inr (.inl (fun i => vL (fy i))))), (ag, .inl (cI, 2, .inl (fun i => jI ((fg i : Nat) : Int))))] : va_W)) (l₂ := (CW cI cE cG cM cS x0 q0 q1 qr (ms, es, gE, gM, gB, gT, gG, gN, gK, gD) κ)))
          refine a_goNI (vx_runSW (As := [.ref x0, .int (jI 5), .int (jI ((nn : Nat) : Int)), .int (jI 10007), .int (vI zj), .int (vI zz), .int (vI zr), .int (jI 0)]) (rest := []) ⟨hx, hb, hml, hown, hts⟩ (hW _) (vx_cwSW 8 hts gL_isDone_L_does rfl rfl rfl (by decide +kernel) ⟨(Nat.le_of_ble_eq_true rfl), (Nat.le_of_ble_eq_true rfl)⟩) (c_pre hK hXK hZ hN hP hD hS hA) rfl rfl hl.1 rfl (lv_room (Nat.le_of_ble_eq_true rfl)) dL_isDone_684 ⟨(Nat.le_of_ble_eq_true rfl), (Nat.le_of_ble_eq_true rfl)⟩) hP hD hS hA (fun r κ2 H locs hpost hP hD hS => ?_)
          obtain ⟨hr9, hI2⟩ := hpost
          have hr9 : r = jI (-3) := hr9
          subst hr9
          have hP : va_P D vwCl ((CW cI cE cG cM cS x0 q0 q1 qr (ms, es, gE, gM, gB, gT, gG, gN, gK, gD) κ2) ++ [(ae, .inl (cI, 45, .inl (fun i => jI (fe i)))), (aq, .inl (cJ, 16, .inr (.inl (fun i => jL (fq i))))), (av, .inl (cJ, 16, .inr (.inl (fun i => jL (fv i))))), (au, .inl (cJ, 16, .inr (.inl (fun i => jL (fu i))))), (aw, .inl (cJ, 60, .inr (.inl (fun i => vL (fw i))))), (ay, .inl (cJ, 32, .inr (.inl (fun i => vL (fy i))))), (ag, .inl (cI, 2, .inl (fun i => jI ((fg i : Nat) : Int))))]) H := hP
          have hD : va_D A ((CW cI cE cG cM cS x0 q0 q1 qr (ms, es, gE, gM, gB, gT, gG, gN, gK, gD) κ2) ++ [(ae, .inl (cI, 45, .inl (fun i => jI (fe i)))), (aq, .inl (cJ, 16, .inr (.inl (fun i => jL (fq i))))), (av, .inl (cJ, 16, .inr (.inl (fun i => jL (fv i))))), (au, .inl (cJ, 16, .inr (.inl (fun i => jL (fu i))))), (aw, .inl (cJ, 60, .inr (.inl (fun i => vL (fw i))))), (ay, .inl (cJ, 32, .inr (.inl (fun i => vL (fy i))))), (ag, .inl (cI, 2, .inl (fun i => jI ((fg i : Nat) : Int))))]) := hD
          have hP : va_P D vwCl ((ae, .inl (cI, 45, .inl (fun i => jI (fe i)))) :: (aq, .inl (cJ, 16, .inr (.inl (fun i => jL (fq i))))) :: (av, .inl (cJ, 16, .inr (.inl (fun i => jL (fv i))))) :: (au, .inl (cJ, 16, .inr (.inl (fun i => jL (fu i))))) :: (aw, .inl (cJ, 60, .inr (.inl (fun i => vL (fw i))))) :: (ay, .inl (cJ, 32, .inr (.inl (fun i => vL (fy i))))) :: (ag, .inl (cI, 2, .inl (fun i => jI ((fg i : Nat) : Int)))) :: (CW cI cE cG cM cS x0 q0 q1 qr (ms, es, gE, gM, gB, gT, gG, gN, gK, gD) κ2)) H := hP.perm (List.perm_append_comm (l₁ := (CW cI cE cG cM cS x0 q0 q1 qr (ms, es, gE, gM, gB, gT, gG, gN, gK, gD) κ2)) (l₂ := ([(ae, .inl (cI, 45, .inl (fun i => jI (fe i)))), (aq, .inl (cJ, 16, .inr (.inl (fun i => jL (fq i))))), (av, .inl (cJ, 16, .inr (.inl (fun i => jL (fv i))))), (au, .inl (cJ, 16, .inr (.inl (fun i => jL (fu i))))), (aw, .inl (cJ, 60, .inr (.inl (fun i => vL (fw i))))), (ay, .inl (cJ, 32, .inr (.inl (fun i => vL (fy i))))), (ag, .inl (cI, 2, .inl (fun i => jI ((fg i : Nat) : Int))))] : va_W)))
          have hD : va_D A ((ae, .inl (cI, 45, .inl (fun i => jI (fe i)))) :: (aq, .inl (cJ, 16, .inr (.inl (fun i => jL (fq i))))) :: (av, .inl (cJ, 16, .inr (.inl (fun i => jL (fv i))))) :: (au, .inl (cJ, 16, .inr (.inl (fun i => jL (fu i))))) :: (aw, .inl (cJ, 60, .inr (.inl (fun i => vL (fw i))))) :: (ay, .inl (cJ, 32, .inr (.inl (fun i => vL (fy i))))) :: (ag, .inl (cI, 2, .inl (fun i => jI ((fg i : Nat) : Int)))) :: (CW cI cE cG cM cS x0 q0 q1 qr (ms, es, gE, gM, gB, gT, gG, gN, gK, gD) κ2)) := hD.perm (List.perm_append_comm (l₁ := (CW cI cE cG cM cS x0 q0 q1 qr (ms, es, gE, gM, gB, gT, gG, gN, gK, gD) κ2)) (l₂ := ([(ae, .inl (cI, 45, .inl (fun i => jI (fe i)))), (aq, .inl (cJ, 16, .inr (.inl (fun i => jL (fq i))))), (av, .inl (cJ, 16, .inr (.inl (fun i => jL (fv i))))), (au, .inl (cJ, 16, .inr (.inl (fun i => jL (fu i))))), (aw, .inl (cJ, 60, .inr (.inl (fun i => vL (fw i))))), (ay, .inl (cJ, 32, .inr (.inl (fun i => vL (fy i))))), (ag, .inl (cI, 2, .inl (fun i => jI ((fg i : Nat) : Int))))] : va_W)))
          refine lv_iload hx hb dL_isDone_687 (lv_at hl 0 rfl) ?_
          refine n_icmp_ne (tgt := 696) hx hb (by unfold r32; omega) (by unfold r32; omega) dL_isDone_689 (by decide) (fun h689 => False.elim (h689 rfl)) (fun h689 => ?_)
          refine n_iconst hx hb dL_isDone_692 ?_
          refine lv_goto (tgt := 697) hx hb dL_isDone_693 (by decide) ?_
          refine W.widen (k := 228) (n := 867) (Nat.le_of_ble_eq_true rfl) (Nat.le_of_ble_eq_true rfl) ?_
          exact y_zret (b := true) ((ms, es, gE, gM, gB, gT, gG, gN, gK, gD), κ2, fe, fq, fv, fu, fw, fy) hx hb hr hlocks dL_isDone_697 hP hD hS rfl ⟨rfl, hI2, hL.up⟩
        by_cases h0 : two / 10 % 9 = 0
        · refine n_if_ne (tgt := 432) hx hb (by unfold r32; omega) dL_isDone_425 (by decide) (fun h425 => False.elim (by omega)) (fun h425 => ?_)
          refine n_iconst hx hb dL_isDone_428 ?_
          refine lv_goto (tgt := 441) hx hb dL_isDone_429 (by decide) ?_
          refine W.eq (g2 := F0 m 441 ls (.int (vI zr) :: [])) (congrArg (fun z : Int => F0 m 441 ls (.int (jI z) :: [])) (by rw [ezr, if_pos h0]; rfl)) ?_
          exact hk
        · refine n_if_ne (tgt := 432) hx hb (by unfold r32; omega) dL_isDone_425 (by decide) (fun h425 => ?_) (fun h425 => False.elim (by omega))
          refine lv_iload hx hb dL_isDone_432 (lv_at hl 18 rfl) ?_
          refine n_bipush hx hb dL_isDone_434 (by decide) ?_
          refine n_idivv (v := (((two / 10) : Nat) : Int)) hx hb dL_isDone_436 (by omega) (by omega) (by omega) (by omega) (by omega) ?_
          refine n_sipush hx hb dL_isDone_437 (by decide) ?_
          refine n_iremv (v := (zv zr)) hx hb dL_isDone_440 (by omega) (by omega) (by omega) (by omega) (by rw [ezr, if_neg h0]; omega) ?_
          exact hk
      · refine n_icmp_ne (tgt := 390) hx hb (by unfold r32; omega) (by unfold r32; omega) dL_isDone_381 (by decide) (fun h381 => ?_) (fun h381 => False.elim (by omega))
        refine lv_iload hx hb dL_isDone_390 (lv_at hl 14 rfl) ?_
        refine n_iconst hx hb dL_isDone_392 ?_
        refine n_idivv (v := (((one / 3) : Nat) : Int)) hx hb dL_isDone_393 (by omega) (by omega) (by omega) (by omega) (by omega) ?_
        refine n_iconst hx hb dL_isDone_394 ?_
        refine n_iremv (v := (zv zh)) hx hb dL_isDone_395 (by omega) (by omega) (by omega) (by omega) (by omega) ?_
        refine lv_istore (lv' := [(16, .int (vI zh)), (15, .int (jI (fe 42))), (14, .int (jI 0)), (13, .int (jI 30)), (12, .int (jI 0)), (11, .int (jI ((nn : Nat) : Int))), (0, .ref x0), (1, .ref ae), (2, .ref aq), (3, .ref av), (4, .ref au), (5, .ref aw), (6, .ref ay), (7, .ref ag), (8, .int (jI 2)), (9, .int (jI ((one : Nat) : Int))), (10, .int (jI ((two : Nat) : Int)))]) hx hb dL_isDone_396 hl (by decide) rfl (fun ls hl => ?_)
        refine lv_iload hx hb dL_isDone_398 (lv_at hl 16 rfl) ?_
        refine n_iconst hx hb dL_isDone_400 ?_
        refine n_idivv (v := (((two / 2) : Nat) : Int)) hx hb dL_isDone_401 (by omega) (by omega) (by omega) (by omega) (by omega) ?_
        refine n_iconst hx hb dL_isDone_402 ?_
        refine n_iremv (v := (zv zj)) hx hb dL_isDone_403 (by omega) (by omega) (by omega) (by omega) (by omega) ?_
        refine lv_istore (lv' := [(17, .int (vI zj)), (16, .int (vI zh)), (15, .int (jI (fe 42))), (14, .int (jI 0)), (13, .int (jI 30)), (12, .int (jI 0)), (11, .int (jI ((nn : Nat) : Int))), (0, .ref x0), (1, .ref ae), (2, .ref aq), (3, .ref av), (4, .ref au), (5, .ref aw), (6, .ref ay), (7, .ref ag), (8, .int (jI 2)), (9, .int (jI ((one : Nat) : Int))), (10, .int (jI ((two : Nat) : Int)))]) hx hb dL_isDone_404 hl (by decide) rfl (fun ls hl => ?_)
        refine lv_iload hx hb dL_isDone_406 (lv_at hl 16 rfl) ?_
        refine n_bipush hx hb dL_isDone_408 (by decide) ?_
        refine n_idivv (v := (((one / 11) : Nat) : Int)) hx hb dL_isDone_410 (by omega) (by omega) (by omega) (by omega) (by omega) ?_
        refine n_sipush hx hb dL_isDone_411 (by decide) ?_
        refine n_iremv (v := (zv zz)) hx hb dL_isDone_414 (by omega) (by omega) (by omega) (by omega) (by omega) ?_
        refine lv_istore (lv' := [(18, .int (vI zz)), (17, .int (vI zj)), (16, .int (vI zh)), (15, .int (jI (fe 42))), (14, .int (jI 0)), (13, .int (jI 30)), (12, .int (jI 0)), (11, .int (jI ((nn : Nat) : Int))), (0, .ref x0), (1, .ref ae), (2, .ref aq), (3, .ref av), (4, .ref au), (5, .ref aw), (6, .ref ay), (7, .ref ag), (8, .int (jI 2)), (9, .int (jI ((one : Nat) : Int))), (10, .int (jI ((two : Nat) : Int)))]) hx hb dL_isDone_415 hl (by decide) rfl (fun ls hl => ?_)
        refine lv_iload hx hb dL_isDone_417 (lv_at hl 18 rfl) ?_
        refine n_bipush hx hb dL_isDone_419 (by decide) ?_
        refine n_idivv (v := (((two / 10) : Nat) : Int)) hx hb dL_isDone_421 (by omega) (by omega) (by omega) (by omega) (by omega) ?_
        refine n_bipush hx hb dL_isDone_422 (by decide) ?_
        refine n_iremv (v := (((two / 10 % 9) : Nat) : Int)) hx hb dL_isDone_424 (by omega) (by omega) (by omega) (by omega) (by omega) ?_
        have hk : W p l e { frames := 12, cells := 228, slots := 867, locals := 268 } s m ([Value.ref x0, .ref ae, .ref aq, .ref av, .ref au, .ref aw, .ref ay, .ref ag, .int (jI 2), .int (jI ((one : Nat) : Int)), .int (jI ((two : Nat) : Int))] : List Value).toArray below meth c9 s.heap [] 0 0 (MQ below (ENI D A (fun (r : Int32) (u : SG × (Nat → EG) × (Nat → Int) × (Nat → Int) × (Nat → Int) × (Nat → Int) × (Nat → Zp) × (Nat → Zp)) => r = jI (iB true) ∧ INV u.1 u.2.1 ∧ LI u.1 fm u.2.2.1 u.2.2.2.1 u.2.2.2.2.1 u.2.2.2.2.2.1 fg (c + 1)) (fun (u : SG × (Nat → EG) × (Nat → Int) × (Nat → Int) × (Nat → Int) × (Nat → Int) × (Nat → Zp) × (Nat → Zp)) => ((ae, .inl (cI, 45, .inl (fun i => jI (u.2.2.1 i)))) :: (aq, .inl (cJ, 16, .inr (.inl (fun i => jL (u.2.2.2.1 i))))) :: (av, .inl (cJ, 16, .inr (.inl (fun i => jL (u.2.2.2.2.1 i))))) :: (au, .inl (cJ, 16, .inr (.inl (fun i => jL (u.2.2.2.2.2.1 i))))) :: (aw, .inl (cJ, 60, .inr (.inl (fun i => vL (u.2.2.2.2.2.2.1 i))))) :: (ay, .inl (cJ, 32, .inr (.inl (fun i => vL (u.2.2.2.2.2.2.2 i))))) :: (ag, .inl (cI, 2, .inl (fun i => jI ((fg i : Nat) : Int)))) :: (CW cI cE cG cM cS x0 q0 q1 qr u.1 u.2.1))) (fun _ => [])) ([Value.ref x0, .ref ae, .ref aq, .ref av, .ref au, .ref aw, .ref ay, .ref ag, .int (jI 2), .int (jI ((one : Nat) : Int)), .int (jI ((two : Nat) : Int))] : List Value).toArray s 228 867 A) (F0 m 441 ls [.int (vI zr)]) := by
          refine lv_istore (lv' := [(19, .int (vI zr)), (18, .int (vI zz)), (17, .int (vI zj)), (16, .int (vI zh)), (15, .int (jI (fe 42))), (14, .int (jI 0)), (13, .int (jI 30)), (12, .int (jI 0)), (11, .int (jI ((nn : Nat) : Int))), (0, .ref x0), (1, .ref ae), (2, .ref aq), (3, .ref av), (4, .ref au), (5, .ref aw), (6, .ref ay), (7, .ref ag), (8, .int (jI 2)), (9, .int (jI ((one : Nat) : Int))), (10, .int (jI ((two : Nat) : Int)))]) hx hb dL_isDone_441 hl (by decide) rfl (fun ls hl => ?_)
          refine lv_iload hx hb dL_isDone_443 (lv_at hl 4 rfl) ?_
          refine lv_aload_n hx hb dL_isDone_445 rfl (lv_at hl 10 rfl) ?_
          refine lv_iload hx hb dL_isDone_446 (lv_at hl 6 rfl) ?_
          refine n_bipush hx hb dL_isDone_448 (by decide) ?_
          refine n_iadd hx hb dL_isDone_450 ?_
          refine n_ialdv (i := (30 + 12)) (v := (fe 42)) hx hb hK hP 0 0 rfl htI (by omega) (by omega) (Nat.le_of_ble_eq_true rfl) rfl dL_isDone_451 ?_
          refine n_icmp_gt (tgt := 467) hx hb (by unfold r32; omega) (by unfold r32; omega) dL_isDone_452 (by decide) (fun h452 => False.elim (by omega)) (fun h452 => ?_)
          refine lv_iload hx hb dL_isDone_455 (lv_at hl 3 rfl) ?_
          refine n_sipush hx hb dL_isDone_457 (by decide) ?_
          refine n_icmp_ge (tgt := 467) hx hb (r32_z _) (by unfold r32; omega) dL_isDone_460 (by decide) (fun h460 => False.elim (by omega)) (fun h460 => ?_)
          refine n_iconst hx hb dL_isDone_463 ?_
          refine lv_goto (tgt := 468) hx hb dL_isDone_464 (by decide) ?_
          refine lv_istore (lv' := [(20, .int (jI 1)), (19, .int (vI zr)), (18, .int (vI zz)), (17, .int (vI zj)), (16, .int (vI zh)), (15, .int (jI (fe 42))), (14, .int (jI 0)), (13, .int (jI 30)), (12, .int (jI 0)), (11, .int (jI ((nn : Nat) : Int))), (0, .ref x0), (1, .ref ae), (2, .ref aq), (3, .ref av), (4, .ref au), (5, .ref aw), (6, .ref ay), (7, .ref ag), (8, .int (jI 2)), (9, .int (jI ((one : Nat) : Int))), (10, .int (jI ((two : Nat) : Int)))]) hx hb dL_isDone_468 hl (by decide) rfl (fun ls hl => ?_)
          refine lv_iload hx hb dL_isDone_470 (lv_at hl 8 rfl) ?_
          refine n_if_eq (tgt := 484) hx hb (by unfold r32; decide) dL_isDone_472 (by decide) (fun h472 => ?_) (fun h472 => False.elim (by revert h472; decide))
          refine n_iconst hx hb dL_isDone_484 ?_
          refine lv_istore (lv' := [(21, .int (jI 0)), (20, .int (jI 1)), (19, .int (vI zr)), (18, .int (vI zz)), (17, .int (vI zj)), (16, .int (vI zh)), (15, .int (jI (fe 42))), (14, .int (jI 0)), (13, .int (jI 30)), (12, .int (jI 0)), (11, .int (jI ((nn : Nat) : Int))), (0, .ref x0), (1, .ref ae), (2, .ref aq), (3, .ref av), (4, .ref au), (5, .ref aw), (6, .ref ay), (7, .ref ag), (8, .int (jI 2)), (9, .int (jI ((one : Nat) : Int))), (10, .int (jI ((two : Nat) : Int)))]) hx hb dL_isDone_485 hl (by decide) rfl (fun ls hl => ?_)
          refine n_bipush hx hb dL_isDone_487 (by decide) ?_
          refine lv_iload hx hb dL_isDone_489 (lv_at hl 10 rfl) ?_
          refine n_imul hx hb dL_isDone_491 ?_
          refine lv_aload_n hx hb dL_isDone_492 rfl (lv_at hl 12 rfl) ?_
          refine lv_iload hx hb dL_isDone_493 (lv_at hl 8 rfl) ?_
          refine n_bipush hx hb dL_isDone_495 (by decide) ?_
          refine n_iadd hx hb dL_isDone_497 ?_
          refine n_ialdv (i := (30 + 14)) (v := (fe 44)) hx hb hK hP 0 0 rfl htI (by omega) (by omega) (Nat.le_of_ble_eq_true rfl) rfl dL_isDone_498 ?_
          refine n_iadd hx hb dL_isDone_499 ?_
          refine lv_istore (lv' := [(22, .int (jI ((8 * ((nn : Nat) : Int)) + (fe 44)))), (21, .int (jI 0)), (20, .int (jI 1)), (19, .int (vI zr)), (18, .int (vI zz)), (17, .int (vI zj)), (16, .int (vI zh)), (15, .int (jI (fe 42))), (14, .int (jI 0)), (13, .int (jI 30)), (12, .int (jI 0)), (11, .int (jI ((nn : Nat) : Int))), (0, .ref x0), (1, .ref ae), (2, .ref aq), (3, .ref av), (4, .ref au), (5, .ref aw), (6, .ref ay), (7, .ref ag), (8, .int (jI 2)), (9, .int (jI ((one : Nat) : Int))), (10, .int (jI ((two : Nat) : Int)))]) hx hb dL_isDone_500 hl (by decide) rfl (fun ls hl => ?_)
          refine lv_iload hx hb dL_isDone_502 (lv_at hl 1 rfl) ?_
          refine n_if_eq (tgt := 609) hx hb (by unfold r32; decide) dL_isDone_504 (by decide) (fun h504 => ?_) (fun h504 => False.elim (by revert h504; decide))
          refine lv_iload hx hb dL_isDone_609 (lv_at hl 10 rfl) ?_
          refine n_if_ne (tgt := 619) hx hb (by unfold r32; decide) dL_isDone_611 (by decide) (fun h611 => False.elim (by revert h611; decide)) (fun h611 => ?_)
          refine n_bipush hx hb dL_isDone_614 (by decide) ?_
          refine lv_goto (tgt := 643) hx hb dL_isDone_616 (by decide) ?_
          refine lv_istore (lv' := [(23, .int (jI (-3))), (22, .int (jI ((8 * ((nn : Nat) : Int)) + (fe 44)))), (21, .int (jI 0)), (20, .int (jI 1)), (19, .int (vI zr)), (18, .int (vI zz)), (17, .int (vI zj)), (16, .int (vI zh)), (15, .int (jI (fe 42))), (14, .int (jI 0)), (13, .int (jI 30)), (12, .int (jI 0)), (11, .int (jI ((nn : Nat) : Int))), (0, .ref x0), (1, .ref ae), (2, .ref aq), (3, .ref av), (4, .ref au), (5, .ref aw), (6, .ref ay), (7, .ref ag), (8, .int (jI 2)), (9, .int (jI ((one : Nat) : Int))), (10, .int (jI ((two : Nat) : Int)))]) hx hb dL_isDone_643 hl (by decide) rfl (fun ls hl => ?_)
          refine lv_iload hx hb dL_isDone_645 (lv_at hl 9 rfl) ?_
          refine n_if_eq (tgt := 671) hx hb (by unfold r32; decide) dL_isDone_647 (by decide) (fun h647 => ?_) (fun h647 => False.elim (by revert h647; decide))
          refine lv_aload_n hx hb dL_isDone_671 rfl (lv_at hl 13 rfl) ?_
          refine n_iconst hx hb dL_isDone_672 ?_
          refine lv_iload hx hb dL_isDone_673 (lv_at hl 12 rfl) ?_
          refine lv_iload hx hb dL_isDone_675 (lv_at hl 7 rfl) ?_
          refine lv_iload hx hb dL_isDone_677 (lv_at hl 6 rfl) ?_
          refine lv_iload hx hb dL_isDone_679 (lv_at hl 5 rfl) ?_
          refine lv_iload hx hb dL_isDone_681 (lv_at hl 4 rfl) ?_
          refine n_iconst hx hb dL_isDone_683 ?_
          have hC := d_measure1 l hl9 D tys htI htE htM htS htG x0 q0 q1 qr ms es gE gM gB gT gG gN gK gD κ hI ((nn : Nat) : Int) (zv zh) (zv zj) (zv zz) (zv zr) (by unfold r32; omega) (r32_z _) (r32_z _) (r32_z _) (r32_z _) (inB_f (by omega))
          have hW := w_does_measure l D tys x0 q0 q1 qr ms es gE gM gB gT gG gN gK gD κ (jI ((nn : Nat) : Int)) (vI zh) (vI zj) (vI zz) (vI zr) (jI 0) (ms, es, gE, gM, gB, gT, gG, gN, gK, gD) 1 _ hC
          have hP : va_P D vwCl ((CW cI cE cG cM cS x0 q0 q1 qr (ms, es, gE, gM, gB, gT, gG, gN, gK, gD) κ) ++ [(ae, .inl (cI, 45, .inl (fun i => jI (fe i)))), (aq, .inl (cJ, 16, .inr (.inl (fun i => jL (fq i))))), (av, .inl (cJ, 16, .inr (.inl (fun i => jL (fv i))))), (au, .inl (cJ, 16, .inr (.inl (fun i => jL (fu i))))), (aw, .inl (cJ, 60, .inr (.inl (fun i => vL (fw i))))), (ay, .inl (cJ, 32, .inr (.inl (fun i => vL (fy i))))), (ag, .inl (cI, 2, .inl (fun i => jI ((fg i : Nat) : Int))))]) s.heap := hP.perm (List.perm_append_comm (l₁ := ([(ae, .inl (cI, 45, .inl (fun i => jI (fe i)))), (aq, .inl (cJ, 16, .inr (.inl (fun i => jL (fq i))))), (av, .inl (cJ, 16, .inr (.inl (fun i => jL (fv i))))), (au, .inl (cJ, 16, .inr (.inl (fun i => jL (fu i))))), (aw, .inl (cJ, 60, .inr (.inl (fun i => vL (fw i))))), (ay, .inl (cJ, 32, .inr (.inl (fun i => vL (fy i))))), (ag, .inl (cI, 2, .inl (fun i => jI ((fg i : Nat) : Int))))] : va_W)) (l₂ := (CW cI cE cG cM cS x0 q0 q1 qr (ms, es, gE, gM, gB, gT, gG, gN, gK, gD) κ)))
          have hD : va_D A ((CW cI cE cG cM cS x0 q0 q1 qr (ms, es, gE, gM, gB, gT, gG, gN, gK, gD) κ) ++ [(ae, .inl (cI, 45, .inl (fun i => jI (fe i)))), (aq, .inl (cJ, 16, .inr (.inl (fun i => jL (fq i))))), (av, .inl (cJ, 16, .inr (.inl (fun i => jL (fv i))))), (au, .inl (cJ, 16, .inr (.inl (fun i => jL (fu i))))), (aw, .inl (cJ, 60, .inr (.inl (fun i => vL (fw i))))), (ay, .inl (cJ, 32, .inr (.inl (fun i => vL (fy i))))), (ag, .inl (cI, 2, .inl (fun i => jI ((fg i : Nat) : Int))))]) := hD.perm (List.perm_append_comm (l₁ := ([(ae, .inl (cI, 45, .inl (fun i => jI (fe i)))), (aq, .inl (cJ, 16, .inr (.inl (fun i => jL (fq i))))), (av, .inl (cJ, 16, .inr (.inl (fun i => jL (fv i))))), (au, .inl (cJ, 16, .inr (.inl (fun i => jL (fu i))))), (aw, .inl (cJ, 60, .inr (.inl (fun i => vL (fw i))))), (ay, .inl (cJ, 32, .inr (.inl (fun i => vL (fy i))))), (ag, .inl (cI, 2, .inl (fun i => jI ((fg i : Nat) : Int))))] : va_W)) (l₂ := (CW cI cE cG cM cS x0 q0 q1 qr (ms, es, gE, gM, gB, gT, gG, gN, gK, gD) κ)))
          refine a_goNI (vx_runSW (As := [.ref x0, .int (jI 5), .int (jI ((nn : Nat) : Int)), .int (vI zh), .int (vI zj), .int (vI zz), .int (vI zr), .int (jI 0)]) (rest := []) ⟨hx, hb, hml, hown, hts⟩ (hW _) (vx_cwSW 8 hts gL_isDone_L_does rfl rfl rfl (by decide +kernel) ⟨(Nat.le_of_ble_eq_true rfl), (Nat.le_of_ble_eq_true rfl)⟩) (c_pre hK hXK hZ hN hP hD hS hA) rfl rfl hl.1 rfl (lv_room (Nat.le_of_ble_eq_true rfl)) dL_isDone_684 ⟨(Nat.le_of_ble_eq_true rfl), (Nat.le_of_ble_eq_true rfl)⟩) hP hD hS hA (fun r κ2 H locs hpost hP hD hS => ?_)
          obtain ⟨hr9, hI2⟩ := hpost
          have hr9 : r = jI (-3) := hr9
          subst hr9
          have hP : va_P D vwCl ((CW cI cE cG cM cS x0 q0 q1 qr (ms, es, gE, gM, gB, gT, gG, gN, gK, gD) κ2) ++ [(ae, .inl (cI, 45, .inl (fun i => jI (fe i)))), (aq, .inl (cJ, 16, .inr (.inl (fun i => jL (fq i))))), (av, .inl (cJ, 16, .inr (.inl (fun i => jL (fv i))))), (au, .inl (cJ, 16, .inr (.inl (fun i => jL (fu i))))), (aw, .inl (cJ, 60, .inr (.inl (fun i => vL (fw i))))), (ay, .inl (cJ, 32, .inr (.inl (fun i => vL (fy i))))), (ag, .inl (cI, 2, .inl (fun i => jI ((fg i : Nat) : Int))))]) H := hP
          have hD : va_D A ((CW cI cE cG cM cS x0 q0 q1 qr (ms, es, gE, gM, gB, gT, gG, gN, gK, gD) κ2) ++ [(ae, .inl (cI, 45, .inl (fun i => jI (fe i)))), (aq, .inl (cJ, 16, .inr (.inl (fun i => jL (fq i))))), (av, .inl (cJ, 16, .inr (.inl (fun i => jL (fv i))))), (au, .inl (cJ, 16, .inr (.inl (fun i => jL (fu i))))), (aw, .inl (cJ, 60, .inr (.inl (fun i => vL (fw i))))), (ay, .inl (cJ, 32, .inr (.inl (fun i => vL (fy i))))), (ag, .inl (cI, 2, .inl (fun i => jI ((fg i : Nat) : Int))))]) := hD
          have hP : va_P D vwCl ((ae, .inl (cI, 45, .inl (fun i => jI (fe i)))) :: (aq, .inl (cJ, 16, .inr (.inl (fun i => jL (fq i))))) :: (av, .inl (cJ, 16, .inr (.inl (fun i => jL (fv i))))) :: (au, .inl (cJ, 16, .inr (.inl (fun i => jL (fu i))))) :: (aw, .inl (cJ, 60, .inr (.inl (fun i => vL (fw i))))) :: (ay, .inl (cJ, 32, .inr (.inl (fun i => vL (fy i))))) :: (ag, .inl (cI, 2, .inl (fun i => jI ((fg i : Nat) : Int)))) :: (CW cI cE cG cM cS x0 q0 q1 qr (ms, es, gE, gM, gB, gT, gG, gN, gK, gD) κ2)) H := hP.perm (List.perm_append_comm (l₁ := (CW cI cE cG cM cS x0 q0 q1 qr (ms, es, gE, gM, gB, gT, gG, gN, gK, gD) κ2)) (l₂ := ([(ae, .inl (cI, 45, .inl (fun i => jI (fe i)))), (aq, .inl (cJ, 16, .inr (.inl (fun i => jL (fq i))))), (av, .inl (cJ, 16, .inr (.inl (fun i => jL (fv i))))), (au, .inl (cJ, 16, .inr (.inl (fun i => jL (fu i))))), (aw, .inl (cJ, 60, .inr (.inl (fun i => vL (fw i))))), (ay, .inl (cJ, 32, .inr (.inl (fun i => vL (fy i))))), (ag, .inl (cI, 2, .inl (fun i => jI ((fg i : Nat) : Int))))] : va_W)))
          have hD : va_D A ((ae, .inl (cI, 45, .inl (fun i => jI (fe i)))) :: (aq, .inl (cJ, 16, .inr (.inl (fun i => jL (fq i))))) :: (av, .inl (cJ, 16, .inr (.inl (fun i => jL (fv i))))) :: (au, .inl (cJ, 16, .inr (.inl (fun i => jL (fu i))))) :: (aw, .inl (cJ, 60, .inr (.inl (fun i => vL (fw i))))) :: (ay, .inl (cJ, 32, .inr (.inl (fun i => vL (fy i))))) :: (ag, .inl (cI, 2, .inl (fun i => jI ((fg i : Nat) : Int)))) :: (CW cI cE cG cM cS x0 q0 q1 qr (ms, es, gE, gM, gB, gT, gG, gN, gK, gD) κ2)) := hD.perm (List.perm_append_comm (l₁ := (CW cI cE cG cM cS x0 q0 q1 qr (ms, es, gE, gM, gB, gT, gG, gN, gK, gD) κ2)) (l₂ := ([(ae, .inl (cI, 45, .inl (fun i => jI (fe i)))), (aq, .inl (cJ, 16, .inr (.inl (fun i => jL (fq i))))), (av, .inl (cJ, 16, .inr (.inl (fun i => jL (fv i))))), (au, .inl (cJ, 16, .inr (.inl (fun i => jL (fu i))))), (aw, .inl (cJ, 60, .inr (.inl (fun i => vL (fw i))))), (ay, .inl (cJ, 32, .inr (.inl (fun i => vL (fy i))))), (ag, .inl (cI, 2, .inl (fun i => jI ((fg i : Nat) : Int))))] : va_W)))
          refine lv_iload hx hb dL_isDone_687 (lv_at hl 0 rfl) ?_
          refine n_icmp_ne (tgt := 696) hx hb (by unfold r32; omega) (by unfold r32; omega) dL_isDone_689 (by decide) (fun h689 => False.elim (h689 rfl)) (fun h689 => ?_)
          refine n_iconst hx hb dL_isDone_692 ?_
          refine lv_goto (tgt := 697) hx hb dL_isDone_693 (by decide) ?_
          refine W.widen (k := 228) (n := 867) (Nat.le_of_ble_eq_true rfl) (Nat.le_of_ble_eq_true rfl) ?_
          exact y_zret (b := true) ((ms, es, gE, gM, gB, gT, gG, gN, gK, gD), κ2, fe, fq, fv, fu, fw, fy) hx hb hr hlocks dL_isDone_697 hP hD hS rfl ⟨rfl, hI2, hL.up⟩
        by_cases h0 : two / 10 % 9 = 0
        · refine n_if_ne (tgt := 432) hx hb (by unfold r32; omega) dL_isDone_425 (by decide) (fun h425 => False.elim (by omega)) (fun h425 => ?_)
          refine n_iconst hx hb dL_isDone_428 ?_
          refine lv_goto (tgt := 441) hx hb dL_isDone_429 (by decide) ?_
          refine W.eq (g2 := F0 m 441 ls (.int (vI zr) :: [])) (congrArg (fun z : Int => F0 m 441 ls (.int (jI z) :: [])) (by rw [ezr, if_pos h0]; rfl)) ?_
          exact hk
        · refine n_if_ne (tgt := 432) hx hb (by unfold r32; omega) dL_isDone_425 (by decide) (fun h425 => ?_) (fun h425 => False.elim (by omega))
          refine lv_iload hx hb dL_isDone_432 (lv_at hl 18 rfl) ?_
          refine n_bipush hx hb dL_isDone_434 (by decide) ?_
          refine n_idivv (v := (((two / 10) : Nat) : Int)) hx hb dL_isDone_436 (by omega) (by omega) (by omega) (by omega) (by omega) ?_
          refine n_sipush hx hb dL_isDone_437 (by decide) ?_
          refine n_iremv (v := (zv zr)) hx hb dL_isDone_440 (by omega) (by omega) (by omega) (by omega) (by rw [ezr, if_neg h0]; omega) ?_
          exact hk
  by_cases h6 : one % 7 = 6
  · refine n_icmp_ne (tgt := 17) hx hb (by unfold r32; omega) (by unfold r32; omega) dL_isDone_7 (by decide) (fun h7 => False.elim (by omega)) (fun h7 => ?_)
    refine lv_aload hx hb dL_isDone_10 (lv_at hl 7 rfl) ?_
    refine n_iconst hx hb dL_isDone_12 ?_
    refine n_nalv (i := 1) (v := ((es : Nat) : Int)) hx hb hK hP 6 0 rfl htI rfl (Nat.le_of_ble_eq_true rfl) (Nat.le_of_ble_eq_true rfl) (congrArg (fun z : Nat => (z : Int)) hg1) dL_isDone_13 ?_
    refine lv_goto (tgt := 35) hx hb dL_isDone_14 (by decide) ?_
    exact hF es (by omega) (by omega) ls hl
  · refine n_icmp_ne (tgt := 17) hx hb (by unfold r32; omega) (by unfold r32; omega) dL_isDone_7 (by decide) (fun h7 => ?_) (fun h7 => False.elim (by omega))
    refine lv_aload hx hb dL_isDone_17 (lv_at hl 7 rfl) ?_
    refine n_iconst hx hb dL_isDone_19 ?_
    refine n_nalv (i := 1) (v := ((es : Nat) : Int)) hx hb hK hP 6 0 rfl htI rfl (Nat.le_of_ble_eq_true rfl) (Nat.le_of_ble_eq_true rfl) (congrArg (fun z : Nat => (z : Int)) hg1) dL_isDone_20 ?_
    by_cases he0 : es = 0
    · refine n_if_ne (tgt := 28) hx hb (by unfold r32; omega) dL_isDone_21 (by decide) (fun h21 => False.elim (by omega)) (fun h21 => ?_)
      refine n_iconst hx hb dL_isDone_24 ?_
      refine lv_goto (tgt := 35) hx hb dL_isDone_25 (by decide) ?_
      exact hF 0 (by omega) (by omega) ls hl
    · refine n_if_ne (tgt := 28) hx hb (by unfold r32; omega) dL_isDone_21 (by decide) (fun h21 => ?_) (fun h21 => False.elim (by omega))
      obtain ⟨ev, eev, lev⟩ := rem_ex ((one : Nat) : Int) ((es : Nat) : Int) (by omega)
      have hev : ev < es := by omega
      obtain ⟨h12, h14, hT6, hN8, hZ8, hEs⟩ := hLe ev (by omega)
      obtain ⟨hEW, h13, hMW⟩ := hEs hev
      have bG := zv_le (gG ev)
      have aG := zv_0 (gG ev)
      have hat : (15 * ((ev : Nat) : Int)) = (((15 * ev) : Nat) : Int) := by omega
      refine lv_iload hx hb dL_isDone_28 (lv_at hl 9 rfl) ?_
      refine lv_aload hx hb dL_isDone_30 (lv_at hl 7 rfl) ?_
      refine n_iconst hx hb dL_isDone_32 ?_
      refine n_nalv (i := 1) (v := ((es : Nat) : Int)) hx hb hK hP 6 0 rfl htI rfl (Nat.le_of_ble_eq_true rfl) (Nat.le_of_ble_eq_true rfl) (congrArg (fun z : Nat => (z : Int)) hg1) dL_isDone_33 ?_
      refine n_iremv (v := ((ev : Nat) : Int)) hx hb dL_isDone_34 (by omega) (by omega) (by omega) (by omega) eev ?_
      refine lv_istore (lv' := [(11, .int (jI ((ev : Nat) : Int))), (0, .ref x0), (1, .ref ae), (2, .ref aq), (3, .ref av), (4, .ref au), (5, .ref aw), (6, .ref ay), (7, .ref ag), (8, .int (jI 2)), (9, .int (jI ((one : Nat) : Int))), (10, .int (jI ((two : Nat) : Int)))]) hx hb dL_isDone_35 hl (by decide) rfl (fun ls hl => ?_)
      refine lv_iload hx hb dL_isDone_37 (lv_at hl 0 rfl) ?_
      refine lv_aload hx hb dL_isDone_39 (lv_at hl 8 rfl) ?_
      refine n_iconst hx hb dL_isDone_41 ?_
      refine n_nalv (i := 1) (v := ((es : Nat) : Int)) hx hb hK hP 6 0 rfl htI rfl (Nat.le_of_ble_eq_true rfl) (Nat.le_of_ble_eq_true rfl) (congrArg (fun z : Nat => (z : Int)) hg1) dL_isDone_42 ?_
      refine n_icmp_ge (tgt := 50) hx hb (by unfold r32; omega) (by unfold r32; omega) dL_isDone_43 (by decide) (fun h43 => False.elim (by omega)) (fun h43 => ?_)
      refine n_iconst hx hb dL_isDone_46 ?_
      refine lv_goto (tgt := 51) hx hb dL_isDone_47 (by decide) ?_
      refine lv_istore (lv' := [(12, .int (jI 1)), (11, .int (jI ((ev : Nat) : Int))), (0, .ref x0), (1, .ref ae), (2, .ref aq), (3, .ref av), (4, .ref au), (5, .ref aw), (6, .ref ay), (7, .ref ag), (8, .int (jI 2)), (9, .int (jI ((one : Nat) : Int))), (10, .int (jI ((two : Nat) : Int)))]) hx hb dL_isDone_51 hl (by decide) rfl (fun ls hl => ?_)
      refine lv_iload hx hb dL_isDone_53 (lv_at hl 0 rfl) ?_
      refine n_if_eq (tgt := 66) hx hb (by unfold r32; decide) dL_isDone_55 (by decide) (fun h55 => False.elim (by revert h55; decide)) (fun h55 => ?_)
      refine n_bipush hx hb dL_isDone_58 (by decide) ?_
      refine lv_iload hx hb dL_isDone_60 (lv_at hl 1 rfl) ?_
      refine n_imul hx hb dL_isDone_62 ?_
      rw [hat]
      refine lv_goto (tgt := 68) hx hb dL_isDone_63 (by decide) ?_
      refine lv_istore (lv' := [(13, .int (jI (((15 * ev) : Nat) : Int))), (12, .int (jI 1)), (11, .int (jI ((ev : Nat) : Int))), (0, .ref x0), (1, .ref ae), (2, .ref aq), (3, .ref av), (4, .ref au), (5, .ref aw), (6, .ref ay), (7, .ref ag), (8, .int (jI 2)), (9, .int (jI ((one : Nat) : Int))), (10, .int (jI ((two : Nat) : Int)))]) hx hb dL_isDone_68 hl (by decide) rfl (fun ls hl => ?_)
      refine lv_iload hx hb dL_isDone_70 (lv_at hl 11 rfl) ?_
      refine n_if_ne (tgt := 202) hx hb (by unfold r32; decide) dL_isDone_72 (by decide) (fun h72 => ?_) (fun h72 => False.elim (by revert h72; decide))
      refine lv_iload hx hb dL_isDone_202 (lv_at hl 11 rfl) ?_
      refine n_iconst hx hb dL_isDone_204 ?_
      refine n_icmp_ne (tgt := 276) hx hb (by unfold r32; decide) (by unfold r32; decide) dL_isDone_205 (by decide) (fun h205 => ?_) (fun h205 => False.elim (by revert h205; decide))
      refine lv_iload hx hb dL_isDone_276 (lv_at hl 11 rfl) ?_
      refine n_iconst hx hb dL_isDone_278 ?_
      refine n_icmp_ne (tgt := 698) hx hb (by unfold r32; decide) (by unfold r32; decide) dL_isDone_279 (by decide) (fun h279 => False.elim (by revert h279; decide)) (fun h279 => ?_)
      refine lv_iload hx hb dL_isDone_282 (lv_at hl 1 rfl) ?_
      refine n_if_eq (tgt := 301) hx hb (by unfold r32; decide) dL_isDone_284 (by decide) (fun h284 => False.elim (by revert h284; decide)) (fun h284 => ?_)
      refine lv_aload_n hx hb dL_isDone_287 rfl (lv_at hl 4 rfl) ?_
      refine lv_iload hx hb dL_isDone_288 (lv_at hl 0 rfl) ?_
      refine n_bipush hx hb dL_isDone_290 (by decide) ?_
      refine n_iadd hx hb dL_isDone_292 ?_
      refine n_ialdv (i := ((15 * ev) + 14)) (v := (((gN ev) : Nat) : Int)) hx hb hK hP 0 0 rfl htI (by omega) (by omega) (Nat.le_of_ble_eq_true rfl) h14 dL_isDone_293 ?_
      refine n_bipush hx hb dL_isDone_294 (by decide) ?_
      by_cases h8 : gN ev = 8
      · refine n_icmp_ne (tgt := 301) hx hb (by unfold r32; omega) (by unfold r32; omega) dL_isDone_296 (by decide) (fun h296 => False.elim (by omega)) (fun h296 => ?_)
        refine n_iconst hx hb dL_isDone_299 ?_
        refine W.widen (k := 228) (n := 867) (Nat.le_of_ble_eq_true rfl) (Nat.le_of_ble_eq_true rfl) ?_
        exact y_zret (b := true) ((ms, es, gE, gM, gB, gT, gG, gN, gK, gD), κ, fe, fq, fv, fu, fw, fy) hx hb hr hlocks dL_isDone_300 hP hD hS rfl ⟨rfl, hI, hL.up⟩
      · refine n_icmp_ne (tgt := 301) hx hb (by unfold r32; omega) (by unfold r32; omega) dL_isDone_296 (by decide) (fun h296 => ?_) (fun h296 => False.elim (by omega))
        refine lv_iload hx hb dL_isDone_301 (lv_at hl 13 rfl) ?_
        refine n_iconst hx hb dL_isDone_303 ?_
        refine n_iremv (v := (((two % 2) : Nat) : Int)) hx hb dL_isDone_304 (by omega) (by omega) (by omega) (by omega) (by omega) ?_
        by_cases hlt : two % 2 = 0
        · refine n_if_ne (tgt := 312) hx hb (by unfold r32; omega) dL_isDone_305 (by decide) (fun h305 => False.elim (by omega)) (fun h305 => ?_)
          refine n_iconst hx hb dL_isDone_308 ?_
          refine lv_goto (tgt := 313) hx hb dL_isDone_309 (by decide) ?_
          refine lv_istore (lv' := [(14, .int (jI 1)), (13, .int (jI (((15 * ev) : Nat) : Int))), (12, .int (jI 1)), (11, .int (jI ((ev : Nat) : Int))), (0, .ref x0), (1, .ref ae), (2, .ref aq), (3, .ref av), (4, .ref au), (5, .ref aw), (6, .ref ay), (7, .ref ag), (8, .int (jI 2)), (9, .int (jI ((one : Nat) : Int))), (10, .int (jI ((two : Nat) : Int)))]) hx hb dL_isDone_313 hl (by decide) rfl (fun ls hl => ?_)
          refine lv_iload hx hb dL_isDone_315 (lv_at hl 0 rfl) ?_
          refine n_if_ne (tgt := 330) hx hb (by unfold r32; decide) dL_isDone_317 (by decide) (fun h317 => ?_) (fun h317 => False.elim (by revert h317; decide))
          refine lv_iload hx hb dL_isDone_330 (lv_at hl 13 rfl) ?_
          refine n_bipush hx hb dL_isDone_332 (by decide) ?_
          refine n_idivv (v := (((one / 7) : Nat) : Int)) hx hb dL_isDone_334 (by omega) (by omega) (by omega) (by omega) (by omega) ?_
          refine n_bipush hx hb dL_isDone_335 (by decide) ?_
          refine n_iremv (v := (((one / 7 % 11) : Nat) : Int)) hx hb dL_isDone_337 (by omega) (by omega) (by omega) (by omega) (by omega) ?_
          refine n_bipush hx hb dL_isDone_338 (by decide) ?_
          by_cases h10 : one / 7 % 11 = 10
          · refine n_icmp_ne (tgt := 355) hx hb (by unfold r32; omega) (by unfold r32; omega) dL_isDone_340 (by decide) (fun h340 => False.elim (by omega)) (fun h340 => ?_)
            refine lv_aload_n hx hb dL_isDone_343 rfl (lv_at hl 5 rfl) ?_
            refine lv_iload hx hb dL_isDone_344 (lv_at hl 1 rfl) ?_
            refine n_bipush hx hb dL_isDone_346 (by decide) ?_
            refine n_iadd hx hb dL_isDone_348 ?_
            refine n_ialdv (i := ((15 * ev) + 12)) (v := (((gT ev) : Nat) : Int)) hx hb hK hP 0 0 rfl htI (by omega) (by omega) (Nat.le_of_ble_eq_true rfl) h12 dL_isDone_349 ?_
            refine n_iconst hx hb dL_isDone_350 ?_
            refine n_iadd hx hb dL_isDone_351 ?_
            refine lv_goto (tgt := 370) hx hb dL_isDone_352 (by decide) ?_
            refine lv_istore (lv' := [(15, .int (jI ((((gT ev) : Nat) : Int) + 1))), (14, .int (jI 1)), (13, .int (jI (((15 * ev) : Nat) : Int))), (12, .int (jI 1)), (11, .int (jI ((ev : Nat) : Int))), (0, .ref x0), (1, .ref ae), (2, .ref aq), (3, .ref av), (4, .ref au), (5, .ref aw), (6, .ref ay), (7, .ref ag), (8, .int (jI 2)), (9, .int (jI ((one : Nat) : Int))), (10, .int (jI ((two : Nat) : Int)))]) hx hb dL_isDone_370 hl (by decide) rfl (fun ls hl => ?_)
            refine lv_iload hx hb dL_isDone_372 (lv_at hl 14 rfl) ?_
            refine n_iconst hx hb dL_isDone_374 ?_
            refine n_idivv (v := (((one / 3) : Nat) : Int)) hx hb dL_isDone_375 (by omega) (by omega) (by omega) (by omega) (by omega) ?_
            refine n_bipush hx hb dL_isDone_376 (by decide) ?_
            refine n_iremv (v := (((one / 3 % 17) : Nat) : Int)) hx hb dL_isDone_378 (by omega) (by omega) (by omega) (by omega) (by omega) ?_
            refine n_bipush hx hb dL_isDone_379 (by decide) ?_
            by_cases hh : one / 3 % 17 = 16
            · refine n_icmp_ne (tgt := 390) hx hb (by unfold r32; omega) (by unfold r32; omega) dL_isDone_381 (by decide) (fun h381 => False.elim (by omega)) (fun h381 => ?_)
              refine n_sipush hx hb dL_isDone_384 (by decide) ?_
              refine lv_goto (tgt := 396) hx hb dL_isDone_387 (by decide) ?_
              refine lv_istore (lv' := [(16, .int (jI 10007)), (15, .int (jI ((((gT ev) : Nat) : Int) + 1))), (14, .int (jI 1)), (13, .int (jI (((15 * ev) : Nat) : Int))), (12, .int (jI 1)), (11, .int (jI ((ev : Nat) : Int))), (0, .ref x0), (1, .ref ae), (2, .ref aq), (3, .ref av), (4, .ref au), (5, .ref aw), (6, .ref ay), (7, .ref ag), (8, .int (jI 2)), (9, .int (jI ((one : Nat) : Int))), (10, .int (jI ((two : Nat) : Int)))]) hx hb dL_isDone_396 hl (by decide) rfl (fun ls hl => ?_)
              refine lv_iload hx hb dL_isDone_398 (lv_at hl 16 rfl) ?_
              refine n_iconst hx hb dL_isDone_400 ?_
              refine n_idivv (v := (((two / 2) : Nat) : Int)) hx hb dL_isDone_401 (by omega) (by omega) (by omega) (by omega) (by omega) ?_
              refine n_iconst hx hb dL_isDone_402 ?_
              refine n_iremv (v := (zv zj)) hx hb dL_isDone_403 (by omega) (by omega) (by omega) (by omega) (by omega) ?_
              refine lv_istore (lv' := [(17, .int (vI zj)), (16, .int (jI 10007)), (15, .int (jI ((((gT ev) : Nat) : Int) + 1))), (14, .int (jI 1)), (13, .int (jI (((15 * ev) : Nat) : Int))), (12, .int (jI 1)), (11, .int (jI ((ev : Nat) : Int))), (0, .ref x0), (1, .ref ae), (2, .ref aq), (3, .ref av), (4, .ref au), (5, .ref aw), (6, .ref ay), (7, .ref ag), (8, .int (jI 2)), (9, .int (jI ((one : Nat) : Int))), (10, .int (jI ((two : Nat) : Int)))]) hx hb dL_isDone_404 hl (by decide) rfl (fun ls hl => ?_)
              refine lv_iload hx hb dL_isDone_406 (lv_at hl 16 rfl) ?_
              refine n_bipush hx hb dL_isDone_408 (by decide) ?_
              refine n_idivv (v := (((one / 11) : Nat) : Int)) hx hb dL_isDone_410 (by omega) (by omega) (by omega) (by omega) (by omega) ?_
              refine n_sipush hx hb dL_isDone_411 (by decide) ?_
              refine n_iremv (v := (zv zz)) hx hb dL_isDone_414 (by omega) (by omega) (by omega) (by omega) (by omega) ?_
              refine lv_istore (lv' := [(18, .int (vI zz)), (17, .int (vI zj)), (16, .int (jI 10007)), (15, .int (jI ((((gT ev) : Nat) : Int) + 1))), (14, .int (jI 1)), (13, .int (jI (((15 * ev) : Nat) : Int))), (12, .int (jI 1)), (11, .int (jI ((ev : Nat) : Int))), (0, .ref x0), (1, .ref ae), (2, .ref aq), (3, .ref av), (4, .ref au), (5, .ref aw), (6, .ref ay), (7, .ref ag), (8, .int (jI 2)), (9, .int (jI ((one : Nat) : Int))), (10, .int (jI ((two : Nat) : Int)))]) hx hb dL_isDone_415 hl (by decide) rfl (fun ls hl => ?_)
              refine lv_iload hx hb dL_isDone_417 (lv_at hl 18 rfl) ?_
              refine n_bipush hx hb dL_isDone_419 (by decide) ?_
              refine n_idivv (v := (((two / 10) : Nat) : Int)) hx hb dL_isDone_421 (by omega) (by omega) (by omega) (by omega) (by omega) ?_
              refine n_bipush hx hb dL_isDone_422 (by decide) ?_
              refine n_iremv (v := (((two / 10 % 9) : Nat) : Int)) hx hb dL_isDone_424 (by omega) (by omega) (by omega) (by omega) (by omega) ?_
              have hk : W p l e { frames := 12, cells := 228, slots := 867, locals := 268 } s m ([Value.ref x0, .ref ae, .ref aq, .ref av, .ref au, .ref aw, .ref ay, .ref ag, .int (jI 2), .int (jI ((one : Nat) : Int)), .int (jI ((two : Nat) : Int))] : List Value).toArray below meth c9 s.heap [] 0 0 (MQ below (ENI D A (fun (r : Int32) (u : SG × (Nat → EG) × (Nat → Int) × (Nat → Int) × (Nat → Int) × (Nat → Int) × (Nat → Zp) × (Nat → Zp)) => r = jI (iB true) ∧ INV u.1 u.2.1 ∧ LI u.1 fm u.2.2.1 u.2.2.2.1 u.2.2.2.2.1 u.2.2.2.2.2.1 fg (c + 1)) (fun (u : SG × (Nat → EG) × (Nat → Int) × (Nat → Int) × (Nat → Int) × (Nat → Int) × (Nat → Zp) × (Nat → Zp)) => ((ae, .inl (cI, 45, .inl (fun i => jI (u.2.2.1 i)))) :: (aq, .inl (cJ, 16, .inr (.inl (fun i => jL (u.2.2.2.1 i))))) :: (av, .inl (cJ, 16, .inr (.inl (fun i => jL (u.2.2.2.2.1 i))))) :: (au, .inl (cJ, 16, .inr (.inl (fun i => jL (u.2.2.2.2.2.1 i))))) :: (aw, .inl (cJ, 60, .inr (.inl (fun i => vL (u.2.2.2.2.2.2.1 i))))) :: (ay, .inl (cJ, 32, .inr (.inl (fun i => vL (u.2.2.2.2.2.2.2 i))))) :: (ag, .inl (cI, 2, .inl (fun i => jI ((fg i : Nat) : Int)))) :: (CW cI cE cG cM cS x0 q0 q1 qr u.1 u.2.1))) (fun _ => [])) ([Value.ref x0, .ref ae, .ref aq, .ref av, .ref au, .ref aw, .ref ay, .ref ag, .int (jI 2), .int (jI ((one : Nat) : Int)), .int (jI ((two : Nat) : Int))] : List Value).toArray s 228 867 A) (F0 m 441 ls [.int (vI zr)]) := by
                refine lv_istore (lv' := [(19, .int (vI zr)), (18, .int (vI zz)), (17, .int (vI zj)), (16, .int (jI 10007)), (15, .int (jI ((((gT ev) : Nat) : Int) + 1))), (14, .int (jI 1)), (13, .int (jI (((15 * ev) : Nat) : Int))), (12, .int (jI 1)), (11, .int (jI ((ev : Nat) : Int))), (0, .ref x0), (1, .ref ae), (2, .ref aq), (3, .ref av), (4, .ref au), (5, .ref aw), (6, .ref ay), (7, .ref ag), (8, .int (jI 2)), (9, .int (jI ((one : Nat) : Int))), (10, .int (jI ((two : Nat) : Int)))]) hx hb dL_isDone_441 hl (by decide) rfl (fun ls hl => ?_)
                refine lv_iload hx hb dL_isDone_443 (lv_at hl 4 rfl) ?_
                refine lv_aload_n hx hb dL_isDone_445 rfl (lv_at hl 10 rfl) ?_
                refine lv_iload hx hb dL_isDone_446 (lv_at hl 6 rfl) ?_
                refine n_bipush hx hb dL_isDone_448 (by decide) ?_
                refine n_iadd hx hb dL_isDone_450 ?_
                refine n_ialdv (i := ((15 * ev) + 12)) (v := (((gT ev) : Nat) : Int)) hx hb hK hP 0 0 rfl htI (by omega) (by omega) (Nat.le_of_ble_eq_true rfl) h12 dL_isDone_451 ?_
                refine n_icmp_gt (tgt := 467) hx hb (by unfold r32; omega) (by unfold r32; omega) dL_isDone_452 (by decide) (fun h452 => ?_) (fun h452 => False.elim (by omega))
                refine n_iconst hx hb dL_isDone_467 ?_
                refine lv_istore (lv' := [(20, .int (jI 0)), (19, .int (vI zr)), (18, .int (vI zz)), (17, .int (vI zj)), (16, .int (jI 10007)), (15, .int (jI ((((gT ev) : Nat) : Int) + 1))), (14, .int (jI 1)), (13, .int (jI (((15 * ev) : Nat) : Int))), (12, .int (jI 1)), (11, .int (jI ((ev : Nat) : Int))), (0, .ref x0), (1, .ref ae), (2, .ref aq), (3, .ref av), (4, .ref au), (5, .ref aw), (6, .ref ay), (7, .ref ag), (8, .int (jI 2)), (9, .int (jI ((one : Nat) : Int))), (10, .int (jI ((two : Nat) : Int)))]) hx hb dL_isDone_468 hl (by decide) rfl (fun ls hl => ?_)
                refine lv_iload hx hb dL_isDone_470 (lv_at hl 8 rfl) ?_
                refine n_if_eq (tgt := 484) hx hb (by unfold r32; decide) dL_isDone_472 (by decide) (fun h472 => False.elim (by revert h472; decide)) (fun h472 => ?_)
                refine lv_iload hx hb dL_isDone_475 (lv_at hl 0 rfl) ?_
                refine n_if_eq (tgt := 484) hx hb (by unfold r32; decide) dL_isDone_477 (by decide) (fun h477 => ?_) (fun h477 => False.elim (by revert h477; decide))
                refine n_iconst hx hb dL_isDone_484 ?_
                refine lv_istore (lv' := [(21, .int (jI 0)), (20, .int (jI 0)), (19, .int (vI zr)), (18, .int (vI zz)), (17, .int (vI zj)), (16, .int (jI 10007)), (15, .int (jI ((((gT ev) : Nat) : Int) + 1))), (14, .int (jI 1)), (13, .int (jI (((15 * ev) : Nat) : Int))), (12, .int (jI 1)), (11, .int (jI ((ev : Nat) : Int))), (0, .ref x0), (1, .ref ae), (2, .ref aq), (3, .ref av), (4, .ref au), (5, .ref aw), (6, .ref ay), (7, .ref ag), (8, .int (jI 2)), (9, .int (jI ((one : Nat) : Int))), (10, .int (jI ((two : Nat) : Int)))]) hx hb dL_isDone_485 hl (by decide) rfl (fun ls hl => ?_)
                refine n_bipush hx hb dL_isDone_487 (by decide) ?_
                refine lv_iload hx hb dL_isDone_489 (lv_at hl 10 rfl) ?_
                refine n_imul hx hb dL_isDone_491 ?_
                refine lv_aload_n hx hb dL_isDone_492 rfl (lv_at hl 12 rfl) ?_
                refine lv_iload hx hb dL_isDone_493 (lv_at hl 8 rfl) ?_
                refine n_bipush hx hb dL_isDone_495 (by decide) ?_
                refine n_iadd hx hb dL_isDone_497 ?_
                refine n_ialdv (i := ((15 * ev) + 14)) (v := (((gN ev) : Nat) : Int)) hx hb hK hP 0 0 rfl htI (by omega) (by omega) (Nat.le_of_ble_eq_true rfl) h14 dL_isDone_498 ?_
                refine n_iadd hx hb dL_isDone_499 ?_
                refine W.eq (g2 := F0 m 500 ls (.int (jI (((8 * ev + gN ev) : Nat) : Int)) :: [])) (congrArg (fun z : Int => F0 m 500 ls (.int (jI z) :: [])) (by omega)) ?_
                refine lv_istore (lv' := [(22, .int (jI (((8 * ev + gN ev) : Nat) : Int))), (21, .int (jI 0)), (20, .int (jI 0)), (19, .int (vI zr)), (18, .int (vI zz)), (17, .int (vI zj)), (16, .int (jI 10007)), (15, .int (jI ((((gT ev) : Nat) : Int) + 1))), (14, .int (jI 1)), (13, .int (jI (((15 * ev) : Nat) : Int))), (12, .int (jI 1)), (11, .int (jI ((ev : Nat) : Int))), (0, .ref x0), (1, .ref ae), (2, .ref aq), (3, .ref av), (4, .ref au), (5, .ref aw), (6, .ref ay), (7, .ref ag), (8, .int (jI 2)), (9, .int (jI ((one : Nat) : Int))), (10, .int (jI ((two : Nat) : Int)))]) hx hb dL_isDone_500 hl (by decide) rfl (fun ls hl => ?_)
                refine lv_iload hx hb dL_isDone_502 (lv_at hl 1 rfl) ?_
                refine n_if_eq (tgt := 609) hx hb (by unfold r32; decide) dL_isDone_504 (by decide) (fun h504 => ?_) (fun h504 => False.elim (by revert h504; decide))
                refine lv_iload hx hb dL_isDone_609 (lv_at hl 10 rfl) ?_
                refine n_if_ne (tgt := 619) hx hb (by unfold r32; decide) dL_isDone_611 (by decide) (fun h611 => ?_) (fun h611 => False.elim (by revert h611; decide))
                refine lv_iload hx hb dL_isDone_619 (lv_at hl 2 rfl) ?_
                refine n_if_ne (tgt := 629) hx hb (by unfold r32; decide) dL_isDone_621 (by decide) (fun h621 => False.elim (by revert h621; decide)) (fun h621 => ?_)
                refine n_bipush hx hb dL_isDone_624 (by decide) ?_
                refine lv_goto (tgt := 643) hx hb dL_isDone_626 (by decide) ?_
                refine lv_istore (lv' := [(23, .int (jI (-2))), (22, .int (jI (((8 * ev + gN ev) : Nat) : Int))), (21, .int (jI 0)), (20, .int (jI 0)), (19, .int (vI zr)), (18, .int (vI zz)), (17, .int (vI zj)), (16, .int (jI 10007)), (15, .int (jI ((((gT ev) : Nat) : Int) + 1))), (14, .int (jI 1)), (13, .int (jI (((15 * ev) : Nat) : Int))), (12, .int (jI 1)), (11, .int (jI ((ev : Nat) : Int))), (0, .ref x0), (1, .ref ae), (2, .ref aq), (3, .ref av), (4, .ref au), (5, .ref aw), (6, .ref ay), (7, .ref ag), (8, .int (jI 2)), (9, .int (jI ((one : Nat) : Int))), (10, .int (jI ((two : Nat) : Int)))]) hx hb dL_isDone_643 hl (by decide) rfl (fun ls hl => ?_)
                refine lv_iload hx hb dL_isDone_645 (lv_at hl 9 rfl) ?_
                refine n_if_eq (tgt := 671) hx hb (by unfold r32; decide) dL_isDone_647 (by decide) (fun h647 => False.elim (by revert h647; decide)) (fun h647 => ?_)
                refine lv_aload_n hx hb dL_isDone_650 rfl (lv_at hl 13 rfl) ?_
                refine n_bipush hx hb dL_isDone_651 (by decide) ?_
                refine lv_iload hx hb dL_isDone_653 (lv_at hl 12 rfl) ?_
                refine lv_iload hx hb dL_isDone_655 (lv_at hl 8 rfl) ?_
                refine lv_iload hx hb dL_isDone_657 (lv_at hl 7 rfl) ?_
                refine lv_iload hx hb dL_isDone_659 (lv_at hl 6 rfl) ?_
                refine lv_iload hx hb dL_isDone_661 (lv_at hl 5 rfl) ?_
                refine lv_iload hx hb dL_isDone_663 (lv_at hl 4 rfl) ?_
                have hC := d_late2 l hl9 D tys htI htE htM htS htG x0 q0 q1 qr ms es gE gM gB gT gG gN gK gD κ hI ev hev (((gT ev : Nat) : Int) + 1) 10007 (zv zj) (zv zz) (zv zr) (by unfold r32; omega) (by unfold r32; omega) (r32_z _) (r32_z _) (r32_z _) (by rw [show inB 0 ((gT ev : Nat) : Int) (((gT ev : Nat) : Int) + 1) = false from inB_f (by omega), Bool.false_and])
                have hW := w_does_late l D tys x0 q0 q1 qr ms es gE gM gB gT gG gN gK gD κ (jI ((ev : Nat) : Int)) (jI ((((gT ev) : Nat) : Int) + 1)) (jI 10007) (vI zj) (vI zz) (vI zr) (ms, es, gE, gM, gB, gT, gG, gN, gK, gD) 2 _ hC
                have hP : va_P D vwCl ((CW cI cE cG cM cS x0 q0 q1 qr (ms, es, gE, gM, gB, gT, gG, gN, gK, gD) κ) ++ [(ae, .inl (cI, 45, .inl (fun i => jI (fe i)))), (aq, .inl (cJ, 16, .inr (.inl (fun i => jL (fq i))))), (av, .inl (cJ, 16, .inr (.inl (fun i => jL (fv i))))), (au, .inl (cJ, 16, .inr (.inl (fun i => jL (fu i))))), (aw, .inl (cJ, 60, .inr (.inl (fun i => vL (fw i))))), (ay, .inl (cJ, 32, .inr (.inl (fun i => vL (fy i))))), (ag, .inl (cI, 2, .inl (fun i => jI ((fg i : Nat) : Int))))]) s.heap := hP.perm (List.perm_append_comm (l₁ := ([(ae, .inl (cI, 45, .inl (fun i => jI (fe i)))), (aq, .inl (cJ, 16, .inr (.inl (fun i => jL (fq i))))), (av, .inl (cJ, 16, .inr (.inl (fun i => jL (fv i))))), (au, .inl (cJ, 16, .inr (.inl (fun i => jL (fu i))))), (aw, .inl (cJ, 60, .inr (.inl (fun i => vL (fw i))))), (ay, .inl (cJ, 32, .inr (.inl (fun i => vL (fy i))))), (ag, .inl (cI, 2, .inl (fun i => jI ((fg i : Nat) : Int))))] : va_W)) (l₂ := (CW cI cE cG cM cS x0 q0 q1 qr (ms, es, gE, gM, gB, gT, gG, gN, gK, gD) κ)))
                have hD : va_D A ((CW cI cE cG cM cS x0 q0 q1 qr (ms, es, gE, gM, gB, gT, gG, gN, gK, gD) κ) ++ [(ae, .inl (cI, 45, .inl (fun i => jI (fe i)))), (aq, .inl (cJ, 16, .inr (.inl (fun i => jL (fq i))))), (av, .inl (cJ, 16, .inr (.inl (fun i => jL (fv i))))), (au, .inl (cJ, 16, .inr (.inl (fun i => jL (fu i))))), (aw, .inl (cJ, 60, .inr (.inl (fun i => vL (fw i))))), (ay, .inl (cJ, 32, .inr (.inl (fun i => vL (fy i))))), (ag, .inl (cI, 2, .inl (fun i => jI ((fg i : Nat) : Int))))]) := hD.perm (List.perm_append_comm (l₁ := ([(ae, .inl (cI, 45, .inl (fun i => jI (fe i)))), (aq, .inl (cJ, 16, .inr (.inl (fun i => jL (fq i))))), (av, .inl (cJ, 16, .inr (.inl (fun i => jL (fv i))))), (au, .inl (cJ, 16, .inr (.inl (fun i => jL (fu i))))), (aw, .inl (cJ, 60, .inr (.inl (fun i => vL (fw i))))), (ay, .inl (cJ, 32, .inr (.inl (fun i => vL (fy i))))), (ag, .inl (cI, 2, .inl (fun i => jI ((fg i : Nat) : Int))))] : va_W)) (l₂ := (CW cI cE cG cM cS x0 q0 q1 qr (ms, es, gE, gM, gB, gT, gG, gN, gK, gD) κ)))
                refine a_goNI (vx_runSW (As := [.ref x0, .int (jI 6), .int (jI ((ev : Nat) : Int)), .int (jI ((((gT ev) : Nat) : Int) + 1)), .int (jI 10007), .int (vI zj), .int (vI zz), .int (vI zr)]) (rest := []) ⟨hx, hb, hml, hown, hts⟩ (hW _) (vx_cwSW 8 hts gL_isDone_L_does rfl rfl rfl (by decide +kernel) ⟨(Nat.le_of_ble_eq_true rfl), (Nat.le_of_ble_eq_true rfl)⟩) (c_pre hK hXK hZ hN hP hD hS hA) rfl rfl hl.1 rfl (lv_room (Nat.le_of_ble_eq_true rfl)) dL_isDone_665 ⟨(Nat.le_of_ble_eq_true rfl), (Nat.le_of_ble_eq_true rfl)⟩) hP hD hS hA (fun r κ2 H locs hpost hP hD hS => ?_)
                obtain ⟨hr9, hI2⟩ := hpost
                have hr9 : r = jI (-2) := hr9
                subst hr9
                have hP : va_P D vwCl ((CW cI cE cG cM cS x0 q0 q1 qr (ms, es, gE, gM, gB, gT, gG, gN, gK, gD) κ2) ++ [(ae, .inl (cI, 45, .inl (fun i => jI (fe i)))), (aq, .inl (cJ, 16, .inr (.inl (fun i => jL (fq i))))), (av, .inl (cJ, 16, .inr (.inl (fun i => jL (fv i))))), (au, .inl (cJ, 16, .inr (.inl (fun i => jL (fu i))))), (aw, .inl (cJ, 60, .inr (.inl (fun i => vL (fw i))))), (ay, .inl (cJ, 32, .inr (.inl (fun i => vL (fy i))))), (ag, .inl (cI, 2, .inl (fun i => jI ((fg i : Nat) : Int))))]) H := hP
                have hD : va_D A ((CW cI cE cG cM cS x0 q0 q1 qr (ms, es, gE, gM, gB, gT, gG, gN, gK, gD) κ2) ++ [(ae, .inl (cI, 45, .inl (fun i => jI (fe i)))), (aq, .inl (cJ, 16, .inr (.inl (fun i => jL (fq i))))), (av, .inl (cJ, 16, .inr (.inl (fun i => jL (fv i))))), (au, .inl (cJ, 16, .inr (.inl (fun i => jL (fu i))))), (aw, .inl (cJ, 60, .inr (.inl (fun i => vL (fw i))))), (ay, .inl (cJ, 32, .inr (.inl (fun i => vL (fy i))))), (ag, .inl (cI, 2, .inl (fun i => jI ((fg i : Nat) : Int))))]) := hD
                have hP : va_P D vwCl ((ae, .inl (cI, 45, .inl (fun i => jI (fe i)))) :: (aq, .inl (cJ, 16, .inr (.inl (fun i => jL (fq i))))) :: (av, .inl (cJ, 16, .inr (.inl (fun i => jL (fv i))))) :: (au, .inl (cJ, 16, .inr (.inl (fun i => jL (fu i))))) :: (aw, .inl (cJ, 60, .inr (.inl (fun i => vL (fw i))))) :: (ay, .inl (cJ, 32, .inr (.inl (fun i => vL (fy i))))) :: (ag, .inl (cI, 2, .inl (fun i => jI ((fg i : Nat) : Int)))) :: (CW cI cE cG cM cS x0 q0 q1 qr (ms, es, gE, gM, gB, gT, gG, gN, gK, gD) κ2)) H := hP.perm (List.perm_append_comm (l₁ := (CW cI cE cG cM cS x0 q0 q1 qr (ms, es, gE, gM, gB, gT, gG, gN, gK, gD) κ2)) (l₂ := ([(ae, .inl (cI, 45, .inl (fun i => jI (fe i)))), (aq, .inl (cJ, 16, .inr (.inl (fun i => jL (fq i))))), (av, .inl (cJ, 16, .inr (.inl (fun i => jL (fv i))))), (au, .inl (cJ, 16, .inr (.inl (fun i => jL (fu i))))), (aw, .inl (cJ, 60, .inr (.inl (fun i => vL (fw i))))), (ay, .inl (cJ, 32, .inr (.inl (fun i => vL (fy i))))), (ag, .inl (cI, 2, .inl (fun i => jI ((fg i : Nat) : Int))))] : va_W)))
                have hD : va_D A ((ae, .inl (cI, 45, .inl (fun i => jI (fe i)))) :: (aq, .inl (cJ, 16, .inr (.inl (fun i => jL (fq i))))) :: (av, .inl (cJ, 16, .inr (.inl (fun i => jL (fv i))))) :: (au, .inl (cJ, 16, .inr (.inl (fun i => jL (fu i))))) :: (aw, .inl (cJ, 60, .inr (.inl (fun i => vL (fw i))))) :: (ay, .inl (cJ, 32, .inr (.inl (fun i => vL (fy i))))) :: (ag, .inl (cI, 2, .inl (fun i => jI ((fg i : Nat) : Int)))) :: (CW cI cE cG cM cS x0 q0 q1 qr (ms, es, gE, gM, gB, gT, gG, gN, gK, gD) κ2)) := hD.perm (List.perm_append_comm (l₁ := (CW cI cE cG cM cS x0 q0 q1 qr (ms, es, gE, gM, gB, gT, gG, gN, gK, gD) κ2)) (l₂ := ([(ae, .inl (cI, 45, .inl (fun i => jI (fe i)))), (aq, .inl (cJ, 16, .inr (.inl (fun i => jL (fq i))))), (av, .inl (cJ, 16, .inr (.inl (fun i => jL (fv i))))), (au, .inl (cJ, 16, .inr (.inl (fun i => jL (fu i))))), (aw, .inl (cJ, 60, .inr (.inl (fun i => vL (fw i))))), (ay, .inl (cJ, 32, .inr (.inl (fun i => vL (fy i))))), (ag, .inl (cI, 2, .inl (fun i => jI ((fg i : Nat) : Int))))] : va_W)))
                refine lv_goto (tgt := 687) hx hb dL_isDone_668 (by decide) ?_
                refine lv_iload hx hb dL_isDone_687 (lv_at hl 0 rfl) ?_
                refine n_icmp_ne (tgt := 696) hx hb (by unfold r32; omega) (by unfold r32; omega) dL_isDone_689 (by decide) (fun h689 => False.elim (h689 rfl)) (fun h689 => ?_)
                refine n_iconst hx hb dL_isDone_692 ?_
                refine lv_goto (tgt := 697) hx hb dL_isDone_693 (by decide) ?_
                refine W.widen (k := 228) (n := 867) (Nat.le_of_ble_eq_true rfl) (Nat.le_of_ble_eq_true rfl) ?_
                exact y_zret (b := true) ((ms, es, gE, gM, gB, gT, gG, gN, gK, gD), κ2, fe, fq, fv, fu, fw, fy) hx hb hr hlocks dL_isDone_697 hP hD hS rfl ⟨rfl, hI2, hL.up⟩
              by_cases h0 : two / 10 % 9 = 0
              · refine n_if_ne (tgt := 432) hx hb (by unfold r32; omega) dL_isDone_425 (by decide) (fun h425 => False.elim (by omega)) (fun h425 => ?_)
                refine n_iconst hx hb dL_isDone_428 ?_
                refine lv_goto (tgt := 441) hx hb dL_isDone_429 (by decide) ?_
                refine W.eq (g2 := F0 m 441 ls (.int (vI zr) :: [])) (congrArg (fun z : Int => F0 m 441 ls (.int (jI z) :: [])) (by rw [ezr, if_pos h0]; rfl)) ?_
                exact hk
              · refine n_if_ne (tgt := 432) hx hb (by unfold r32; omega) dL_isDone_425 (by decide) (fun h425 => ?_) (fun h425 => False.elim (by omega))
                refine lv_iload hx hb dL_isDone_432 (lv_at hl 18 rfl) ?_
                refine n_bipush hx hb dL_isDone_434 (by decide) ?_
                refine n_idivv (v := (((two / 10) : Nat) : Int)) hx hb dL_isDone_436 (by omega) (by omega) (by omega) (by omega) (by omega) ?_
                refine n_sipush hx hb dL_isDone_437 (by decide) ?_
                refine n_iremv (v := (zv zr)) hx hb dL_isDone_440 (by omega) (by omega) (by omega) (by omega) (by rw [ezr, if_neg h0]; omega) ?_
                exact hk
            · refine n_icmp_ne (tgt := 390) hx hb (by unfold r32; omega) (by unfold r32; omega) dL_isDone_381 (by decide) (fun h381 => ?_) (fun h381 => False.elim (by omega))
              refine lv_iload hx hb dL_isDone_390 (lv_at hl 14 rfl) ?_
              refine n_iconst hx hb dL_isDone_392 ?_
              refine n_idivv (v := (((one / 3) : Nat) : Int)) hx hb dL_isDone_393 (by omega) (by omega) (by omega) (by omega) (by omega) ?_
              refine n_iconst hx hb dL_isDone_394 ?_
              refine n_iremv (v := (zv zh)) hx hb dL_isDone_395 (by omega) (by omega) (by omega) (by omega) (by omega) ?_
              refine lv_istore (lv' := [(16, .int (vI zh)), (15, .int (jI ((((gT ev) : Nat) : Int) + 1))), (14, .int (jI 1)), (13, .int (jI (((15 * ev) : Nat) : Int))), (12, .int (jI 1)), (11, .int (jI ((ev : Nat) : Int))), (0, .ref x0), (1, .ref ae), (2, .ref aq), (3, .ref av), (4, .ref au), (5, .ref aw), (6, .ref ay), (7, .ref ag), (8, .int (jI 2)), (9, .int (jI ((one : Nat) : Int))), (10, .int (jI ((two : Nat) : Int)))]) hx hb dL_isDone_396 hl (by decide) rfl (fun ls hl => ?_)
              refine lv_iload hx hb dL_isDone_398 (lv_at hl 16 rfl) ?_
              refine n_iconst hx hb dL_isDone_400 ?_
              refine n_idivv (v := (((two / 2) : Nat) : Int)) hx hb dL_isDone_401 (by omega) (by omega) (by omega) (by omega) (by omega) ?_
              refine n_iconst hx hb dL_isDone_402 ?_
              refine n_iremv (v := (zv zj)) hx hb dL_isDone_403 (by omega) (by omega) (by omega) (by omega) (by omega) ?_
              refine lv_istore (lv' := [(17, .int (vI zj)), (16, .int (vI zh)), (15, .int (jI ((((gT ev) : Nat) : Int) + 1))), (14, .int (jI 1)), (13, .int (jI (((15 * ev) : Nat) : Int))), (12, .int (jI 1)), (11, .int (jI ((ev : Nat) : Int))), (0, .ref x0), (1, .ref ae), (2, .ref aq), (3, .ref av), (4, .ref au), (5, .ref aw), (6, .ref ay), (7, .ref ag), (8, .int (jI 2)), (9, .int (jI ((one : Nat) : Int))), (10, .int (jI ((two : Nat) : Int)))]) hx hb dL_isDone_404 hl (by decide) rfl (fun ls hl => ?_)
              refine lv_iload hx hb dL_isDone_406 (lv_at hl 16 rfl) ?_
              refine n_bipush hx hb dL_isDone_408 (by decide) ?_
              refine n_idivv (v := (((one / 11) : Nat) : Int)) hx hb dL_isDone_410 (by omega) (by omega) (by omega) (by omega) (by omega) ?_
              refine n_sipush hx hb dL_isDone_411 (by decide) ?_
              refine n_iremv (v := (zv zz)) hx hb dL_isDone_414 (by omega) (by omega) (by omega) (by omega) (by omega) ?_
              refine lv_istore (lv' := [(18, .int (vI zz)), (17, .int (vI zj)), (16, .int (vI zh)), (15, .int (jI ((((gT ev) : Nat) : Int) + 1))), (14, .int (jI 1)), (13, .int (jI (((15 * ev) : Nat) : Int))), (12, .int (jI 1)), (11, .int (jI ((ev : Nat) : Int))), (0, .ref x0), (1, .ref ae), (2, .ref aq), (3, .ref av), (4, .ref au), (5, .ref aw), (6, .ref ay), (7, .ref ag), (8, .int (jI 2)), (9, .int (jI ((one : Nat) : Int))), (10, .int (jI ((two : Nat) : Int)))]) hx hb dL_isDone_415 hl (by decide) rfl (fun ls hl => ?_)
              refine lv_iload hx hb dL_isDone_417 (lv_at hl 18 rfl) ?_
              refine n_bipush hx hb dL_isDone_419 (by decide) ?_
              refine n_idivv (v := (((two / 10) : Nat) : Int)) hx hb dL_isDone_421 (by omega) (by omega) (by omega) (by omega) (by omega) ?_
              refine n_bipush hx hb dL_isDone_422 (by decide) ?_
              refine n_iremv (v := (((two / 10 % 9) : Nat) : Int)) hx hb dL_isDone_424 (by omega) (by omega) (by omega) (by omega) (by omega) ?_
              have hk : W p l e { frames := 12, cells := 228, slots := 867, locals := 268 } s m ([Value.ref x0, .ref ae, .ref aq, .ref av, .ref au, .ref aw, .ref ay, .ref ag, .int (jI 2), .int (jI ((one : Nat) : Int)), .int (jI ((two : Nat) : Int))] : List Value).toArray below meth c9 s.heap [] 0 0 (MQ below (ENI D A (fun (r : Int32) (u : SG × (Nat → EG) × (Nat → Int) × (Nat → Int) × (Nat → Int) × (Nat → Int) × (Nat → Zp) × (Nat → Zp)) => r = jI (iB true) ∧ INV u.1 u.2.1 ∧ LI u.1 fm u.2.2.1 u.2.2.2.1 u.2.2.2.2.1 u.2.2.2.2.2.1 fg (c + 1)) (fun (u : SG × (Nat → EG) × (Nat → Int) × (Nat → Int) × (Nat → Int) × (Nat → Int) × (Nat → Zp) × (Nat → Zp)) => ((ae, .inl (cI, 45, .inl (fun i => jI (u.2.2.1 i)))) :: (aq, .inl (cJ, 16, .inr (.inl (fun i => jL (u.2.2.2.1 i))))) :: (av, .inl (cJ, 16, .inr (.inl (fun i => jL (u.2.2.2.2.1 i))))) :: (au, .inl (cJ, 16, .inr (.inl (fun i => jL (u.2.2.2.2.2.1 i))))) :: (aw, .inl (cJ, 60, .inr (.inl (fun i => vL (u.2.2.2.2.2.2.1 i))))) :: (ay, .inl (cJ, 32, .inr (.inl (fun i => vL (u.2.2.2.2.2.2.2 i))))) :: (ag, .inl (cI, 2, .inl (fun i => jI ((fg i : Nat) : Int)))) :: (CW cI cE cG cM cS x0 q0 q1 qr u.1 u.2.1))) (fun _ => [])) ([Value.ref x0, .ref ae, .ref aq, .ref av, .ref au, .ref aw, .ref ay, .ref ag, .int (jI 2), .int (jI ((one : Nat) : Int)), .int (jI ((two : Nat) : Int))] : List Value).toArray s 228 867 A) (F0 m 441 ls [.int (vI zr)]) := by
                refine lv_istore (lv' := [(19, .int (vI zr)), (18, .int (vI zz)), (17, .int (vI zj)), (16, .int (vI zh)), (15, .int (jI ((((gT ev) : Nat) : Int) + 1))), (14, .int (jI 1)), (13, .int (jI (((15 * ev) : Nat) : Int))), (12, .int (jI 1)), (11, .int (jI ((ev : Nat) : Int))), (0, .ref x0), (1, .ref ae), (2, .ref aq), (3, .ref av), (4, .ref au), (5, .ref aw), (6, .ref ay), (7, .ref ag), (8, .int (jI 2)), (9, .int (jI ((one : Nat) : Int))), (10, .int (jI ((two : Nat) : Int)))]) hx hb dL_isDone_441 hl (by decide) rfl (fun ls hl => ?_)
                refine lv_iload hx hb dL_isDone_443 (lv_at hl 4 rfl) ?_
                refine lv_aload_n hx hb dL_isDone_445 rfl (lv_at hl 10 rfl) ?_
                refine lv_iload hx hb dL_isDone_446 (lv_at hl 6 rfl) ?_
                refine n_bipush hx hb dL_isDone_448 (by decide) ?_
                refine n_iadd hx hb dL_isDone_450 ?_
                refine n_ialdv (i := ((15 * ev) + 12)) (v := (((gT ev) : Nat) : Int)) hx hb hK hP 0 0 rfl htI (by omega) (by omega) (Nat.le_of_ble_eq_true rfl) h12 dL_isDone_451 ?_
                refine n_icmp_gt (tgt := 467) hx hb (by unfold r32; omega) (by unfold r32; omega) dL_isDone_452 (by decide) (fun h452 => ?_) (fun h452 => False.elim (by omega))
                refine n_iconst hx hb dL_isDone_467 ?_
                refine lv_istore (lv' := [(20, .int (jI 0)), (19, .int (vI zr)), (18, .int (vI zz)), (17, .int (vI zj)), (16, .int (vI zh)), (15, .int (jI ((((gT ev) : Nat) : Int) + 1))), (14, .int (jI 1)), (13, .int (jI (((15 * ev) : Nat) : Int))), (12, .int (jI 1)), (11, .int (jI ((ev : Nat) : Int))), (0, .ref x0), (1, .ref ae), (2, .ref aq), (3, .ref av), (4, .ref au), (5, .ref aw), (6, .ref ay), (7, .ref ag), (8, .int (jI 2)), (9, .int (jI ((one : Nat) : Int))), (10, .int (jI ((two : Nat) : Int)))]) hx hb dL_isDone_468 hl (by decide) rfl (fun ls hl => ?_)
                refine lv_iload hx hb dL_isDone_470 (lv_at hl 8 rfl) ?_
                refine n_if_eq (tgt := 484) hx hb (by unfold r32; decide) dL_isDone_472 (by decide) (fun h472 => False.elim (by revert h472; decide)) (fun h472 => ?_)
                refine lv_iload hx hb dL_isDone_475 (lv_at hl 0 rfl) ?_
                refine n_if_eq (tgt := 484) hx hb (by unfold r32; decide) dL_isDone_477 (by decide) (fun h477 => ?_) (fun h477 => False.elim (by revert h477; decide))
                refine n_iconst hx hb dL_isDone_484 ?_
                refine lv_istore (lv' := [(21, .int (jI 0)), (20, .int (jI 0)), (19, .int (vI zr)), (18, .int (vI zz)), (17, .int (vI zj)), (16, .int (vI zh)), (15, .int (jI ((((gT ev) : Nat) : Int) + 1))), (14, .int (jI 1)), (13, .int (jI (((15 * ev) : Nat) : Int))), (12, .int (jI 1)), (11, .int (jI ((ev : Nat) : Int))), (0, .ref x0), (1, .ref ae), (2, .ref aq), (3, .ref av), (4, .ref au), (5, .ref aw), (6, .ref ay), (7, .ref ag), (8, .int (jI 2)), (9, .int (jI ((one : Nat) : Int))), (10, .int (jI ((two : Nat) : Int)))]) hx hb dL_isDone_485 hl (by decide) rfl (fun ls hl => ?_)
                refine n_bipush hx hb dL_isDone_487 (by decide) ?_
                refine lv_iload hx hb dL_isDone_489 (lv_at hl 10 rfl) ?_
                refine n_imul hx hb dL_isDone_491 ?_
                refine lv_aload_n hx hb dL_isDone_492 rfl (lv_at hl 12 rfl) ?_
                refine lv_iload hx hb dL_isDone_493 (lv_at hl 8 rfl) ?_
                refine n_bipush hx hb dL_isDone_495 (by decide) ?_
                refine n_iadd hx hb dL_isDone_497 ?_
                refine n_ialdv (i := ((15 * ev) + 14)) (v := (((gN ev) : Nat) : Int)) hx hb hK hP 0 0 rfl htI (by omega) (by omega) (Nat.le_of_ble_eq_true rfl) h14 dL_isDone_498 ?_
                refine n_iadd hx hb dL_isDone_499 ?_
                refine W.eq (g2 := F0 m 500 ls (.int (jI (((8 * ev + gN ev) : Nat) : Int)) :: [])) (congrArg (fun z : Int => F0 m 500 ls (.int (jI z) :: [])) (by omega)) ?_
                refine lv_istore (lv' := [(22, .int (jI (((8 * ev + gN ev) : Nat) : Int))), (21, .int (jI 0)), (20, .int (jI 0)), (19, .int (vI zr)), (18, .int (vI zz)), (17, .int (vI zj)), (16, .int (vI zh)), (15, .int (jI ((((gT ev) : Nat) : Int) + 1))), (14, .int (jI 1)), (13, .int (jI (((15 * ev) : Nat) : Int))), (12, .int (jI 1)), (11, .int (jI ((ev : Nat) : Int))), (0, .ref x0), (1, .ref ae), (2, .ref aq), (3, .ref av), (4, .ref au), (5, .ref aw), (6, .ref ay), (7, .ref ag), (8, .int (jI 2)), (9, .int (jI ((one : Nat) : Int))), (10, .int (jI ((two : Nat) : Int)))]) hx hb dL_isDone_500 hl (by decide) rfl (fun ls hl => ?_)
                refine lv_iload hx hb dL_isDone_502 (lv_at hl 1 rfl) ?_
                refine n_if_eq (tgt := 609) hx hb (by unfold r32; decide) dL_isDone_504 (by decide) (fun h504 => ?_) (fun h504 => False.elim (by revert h504; decide))
                refine lv_iload hx hb dL_isDone_609 (lv_at hl 10 rfl) ?_
                refine n_if_ne (tgt := 619) hx hb (by unfold r32; decide) dL_isDone_611 (by decide) (fun h611 => ?_) (fun h611 => False.elim (by revert h611; decide))
                refine lv_iload hx hb dL_isDone_619 (lv_at hl 2 rfl) ?_
                refine n_if_ne (tgt := 629) hx hb (by unfold r32; decide) dL_isDone_621 (by decide) (fun h621 => False.elim (by revert h621; decide)) (fun h621 => ?_)
                refine n_bipush hx hb dL_isDone_624 (by decide) ?_
                refine lv_goto (tgt := 643) hx hb dL_isDone_626 (by decide) ?_
                refine lv_istore (lv' := [(23, .int (jI (-2))), (22, .int (jI (((8 * ev + gN ev) : Nat) : Int))), (21, .int (jI 0)), (20, .int (jI 0)), (19, .int (vI zr)), (18, .int (vI zz)), (17, .int (vI zj)), (16, .int (vI zh)), (15, .int (jI ((((gT ev) : Nat) : Int) + 1))), (14, .int (jI 1)), (13, .int (jI (((15 * ev) : Nat) : Int))), (12, .int (jI 1)), (11, .int (jI ((ev : Nat) : Int))), (0, .ref x0), (1, .ref ae), (2, .ref aq), (3, .ref av), (4, .ref au), (5, .ref aw), (6, .ref ay), (7, .ref ag), (8, .int (jI 2)), (9, .int (jI ((one : Nat) : Int))), (10, .int (jI ((two : Nat) : Int)))]) hx hb dL_isDone_643 hl (by decide) rfl (fun ls hl => ?_)
                refine lv_iload hx hb dL_isDone_645 (lv_at hl 9 rfl) ?_
                refine n_if_eq (tgt := 671) hx hb (by unfold r32; decide) dL_isDone_647 (by decide) (fun h647 => False.elim (by revert h647; decide)) (fun h647 => ?_)
                refine lv_aload_n hx hb dL_isDone_650 rfl (lv_at hl 13 rfl) ?_
                refine n_bipush hx hb dL_isDone_651 (by decide) ?_
                refine lv_iload hx hb dL_isDone_653 (lv_at hl 12 rfl) ?_
                refine lv_iload hx hb dL_isDone_655 (lv_at hl 8 rfl) ?_
                refine lv_iload hx hb dL_isDone_657 (lv_at hl 7 rfl) ?_
                refine lv_iload hx hb dL_isDone_659 (lv_at hl 6 rfl) ?_
                refine lv_iload hx hb dL_isDone_661 (lv_at hl 5 rfl) ?_
                refine lv_iload hx hb dL_isDone_663 (lv_at hl 4 rfl) ?_
                have hC := d_late2 l hl9 D tys htI htE htM htS htG x0 q0 q1 qr ms es gE gM gB gT gG gN gK gD κ hI ev hev (((gT ev : Nat) : Int) + 1) (zv zh) (zv zj) (zv zz) (zv zr) (by unfold r32; omega) (r32_z _) (r32_z _) (r32_z _) (r32_z _) (by rw [show inB 0 ((gT ev : Nat) : Int) (((gT ev : Nat) : Int) + 1) = false from inB_f (by omega), Bool.false_and])
                have hW := w_does_late l D tys x0 q0 q1 qr ms es gE gM gB gT gG gN gK gD κ (jI ((ev : Nat) : Int)) (jI ((((gT ev) : Nat) : Int) + 1)) (vI zh) (vI zj) (vI zz) (vI zr) (ms, es, gE, gM, gB, gT, gG, gN, gK, gD) 2 _ hC
                have hP : va_P D vwCl ((CW cI cE cG cM cS x0 q0 q1 qr (ms, es, gE, gM, gB, gT, gG, gN, gK, gD) κ) ++ [(ae, .inl (cI, 45, .inl (fun i => jI (fe i)))), (aq, .inl (cJ, 16, .inr (.inl (fun i => jL (fq i))))), (av, .inl (cJ, 16, .inr (.inl (fun i => jL (fv i))))), (au, .inl (cJ, 16, .inr (.inl (fun i => jL (fu i))))), (aw, .inl (cJ, 60, .inr (.inl (fun i => vL (fw i))))), (ay, .inl (cJ, 32, .inr (.inl (fun i => vL (fy i))))), (ag, .inl (cI, 2, .inl (fun i => jI ((fg i : Nat) : Int))))]) s.heap := hP.perm (List.perm_append_comm (l₁ := ([(ae, .inl (cI, 45, .inl (fun i => jI (fe i)))), (aq, .inl (cJ, 16, .inr (.inl (fun i => jL (fq i))))), (av, .inl (cJ, 16, .inr (.inl (fun i => jL (fv i))))), (au, .inl (cJ, 16, .inr (.inl (fun i => jL (fu i))))), (aw, .inl (cJ, 60, .inr (.inl (fun i => vL (fw i))))), (ay, .inl (cJ, 32, .inr (.inl (fun i => vL (fy i))))), (ag, .inl (cI, 2, .inl (fun i => jI ((fg i : Nat) : Int))))] : va_W)) (l₂ := (CW cI cE cG cM cS x0 q0 q1 qr (ms, es, gE, gM, gB, gT, gG, gN, gK, gD) κ)))
                have hD : va_D A ((CW cI cE cG cM cS x0 q0 q1 qr (ms, es, gE, gM, gB, gT, gG, gN, gK, gD) κ) ++ [(ae, .inl (cI, 45, .inl (fun i => jI (fe i)))), (aq, .inl (cJ, 16, .inr (.inl (fun i => jL (fq i))))), (av, .inl (cJ, 16, .inr (.inl (fun i => jL (fv i))))), (au, .inl (cJ, 16, .inr (.inl (fun i => jL (fu i))))), (aw, .inl (cJ, 60, .inr (.inl (fun i => vL (fw i))))), (ay, .inl (cJ, 32, .inr (.inl (fun i => vL (fy i))))), (ag, .inl (cI, 2, .inl (fun i => jI ((fg i : Nat) : Int))))]) := hD.perm (List.perm_append_comm (l₁ := ([(ae, .inl (cI, 45, .inl (fun i => jI (fe i)))), (aq, .inl (cJ, 16, .inr (.inl (fun i => jL (fq i))))), (av, .inl (cJ, 16, .inr (.inl (fun i => jL (fv i))))), (au, .inl (cJ, 16, .inr (.inl (fun i => jL (fu i))))), (aw, .inl (cJ, 60, .inr (.inl (fun i => vL (fw i))))), (ay, .inl (cJ, 32, .inr (.inl (fun i => vL (fy i))))), (ag, .inl (cI, 2, .inl (fun i => jI ((fg i : Nat) : Int))))] : va_W)) (l₂ := (CW cI cE cG cM cS x0 q0 q1 qr (ms, es, gE, gM, gB, gT, gG, gN, gK, gD) κ)))
                refine a_goNI (vx_runSW (As := [.ref x0, .int (jI 6), .int (jI ((ev : Nat) : Int)), .int (jI ((((gT ev) : Nat) : Int) + 1)), .int (vI zh), .int (vI zj), .int (vI zz), .int (vI zr)]) (rest := []) ⟨hx, hb, hml, hown, hts⟩ (hW _) (vx_cwSW 8 hts gL_isDone_L_does rfl rfl rfl (by decide +kernel) ⟨(Nat.le_of_ble_eq_true rfl), (Nat.le_of_ble_eq_true rfl)⟩) (c_pre hK hXK hZ hN hP hD hS hA) rfl rfl hl.1 rfl (lv_room (Nat.le_of_ble_eq_true rfl)) dL_isDone_665 ⟨(Nat.le_of_ble_eq_true rfl), (Nat.le_of_ble_eq_true rfl)⟩) hP hD hS hA (fun r κ2 H locs hpost hP hD hS => ?_)
                obtain ⟨hr9, hI2⟩ := hpost
                have hr9 : r = jI (-2) := hr9
                subst hr9
                have hP : va_P D vwCl ((CW cI cE cG cM cS x0 q0 q1 qr (ms, es, gE, gM, gB, gT, gG, gN, gK, gD) κ2) ++ [(ae, .inl (cI, 45, .inl (fun i => jI (fe i)))), (aq, .inl (cJ, 16, .inr (.inl (fun i => jL (fq i))))), (av, .inl (cJ, 16, .inr (.inl (fun i => jL (fv i))))), (au, .inl (cJ, 16, .inr (.inl (fun i => jL (fu i))))), (aw, .inl (cJ, 60, .inr (.inl (fun i => vL (fw i))))), (ay, .inl (cJ, 32, .inr (.inl (fun i => vL (fy i))))), (ag, .inl (cI, 2, .inl (fun i => jI ((fg i : Nat) : Int))))]) H := hP
                have hD : va_D A ((CW cI cE cG cM cS x0 q0 q1 qr (ms, es, gE, gM, gB, gT, gG, gN, gK, gD) κ2) ++ [(ae, .inl (cI, 45, .inl (fun i => jI (fe i)))), (aq, .inl (cJ, 16, .inr (.inl (fun i => jL (fq i))))), (av, .inl (cJ, 16, .inr (.inl (fun i => jL (fv i))))), (au, .inl (cJ, 16, .inr (.inl (fun i => jL (fu i))))), (aw, .inl (cJ, 60, .inr (.inl (fun i => vL (fw i))))), (ay, .inl (cJ, 32, .inr (.inl (fun i => vL (fy i))))), (ag, .inl (cI, 2, .inl (fun i => jI ((fg i : Nat) : Int))))]) := hD
                have hP : va_P D vwCl ((ae, .inl (cI, 45, .inl (fun i => jI (fe i)))) :: (aq, .inl (cJ, 16, .inr (.inl (fun i => jL (fq i))))) :: (av, .inl (cJ, 16, .inr (.inl (fun i => jL (fv i))))) :: (au, .inl (cJ, 16, .inr (.inl (fun i => jL (fu i))))) :: (aw, .inl (cJ, 60, .inr (.inl (fun i => vL (fw i))))) :: (ay, .inl (cJ, 32, .inr (.inl (fun i => vL (fy i))))) :: (ag, .inl (cI, 2, .inl (fun i => jI ((fg i : Nat) : Int)))) :: (CW cI cE cG cM cS x0 q0 q1 qr (ms, es, gE, gM, gB, gT, gG, gN, gK, gD) κ2)) H := hP.perm (List.perm_append_comm (l₁ := (CW cI cE cG cM cS x0 q0 q1 qr (ms, es, gE, gM, gB, gT, gG, gN, gK, gD) κ2)) (l₂ := ([(ae, .inl (cI, 45, .inl (fun i => jI (fe i)))), (aq, .inl (cJ, 16, .inr (.inl (fun i => jL (fq i))))), (av, .inl (cJ, 16, .inr (.inl (fun i => jL (fv i))))), (au, .inl (cJ, 16, .inr (.inl (fun i => jL (fu i))))), (aw, .inl (cJ, 60, .inr (.inl (fun i => vL (fw i))))), (ay, .inl (cJ, 32, .inr (.inl (fun i => vL (fy i))))), (ag, .inl (cI, 2, .inl (fun i => jI ((fg i : Nat) : Int))))] : va_W)))
                have hD : va_D A ((ae, .inl (cI, 45, .inl (fun i => jI (fe i)))) :: (aq, .inl (cJ, 16, .inr (.inl (fun i => jL (fq i))))) :: (av, .inl (cJ, 16, .inr (.inl (fun i => jL (fv i))))) :: (au, .inl (cJ, 16, .inr (.inl (fun i => jL (fu i))))) :: (aw, .inl (cJ, 60, .inr (.inl (fun i => vL (fw i))))) :: (ay, .inl (cJ, 32, .inr (.inl (fun i => vL (fy i))))) :: (ag, .inl (cI, 2, .inl (fun i => jI ((fg i : Nat) : Int)))) :: (CW cI cE cG cM cS x0 q0 q1 qr (ms, es, gE, gM, gB, gT, gG, gN, gK, gD) κ2)) := hD.perm (List.perm_append_comm (l₁ := (CW cI cE cG cM cS x0 q0 q1 qr (ms, es, gE, gM, gB, gT, gG, gN, gK, gD) κ2)) (l₂ := ([(ae, .inl (cI, 45, .inl (fun i => jI (fe i)))), (aq, .inl (cJ, 16, .inr (.inl (fun i => jL (fq i))))), (av, .inl (cJ, 16, .inr (.inl (fun i => jL (fv i))))), (au, .inl (cJ, 16, .inr (.inl (fun i => jL (fu i))))), (aw, .inl (cJ, 60, .inr (.inl (fun i => vL (fw i))))), (ay, .inl (cJ, 32, .inr (.inl (fun i => vL (fy i))))), (ag, .inl (cI, 2, .inl (fun i => jI ((fg i : Nat) : Int))))] : va_W)))
                refine lv_goto (tgt := 687) hx hb dL_isDone_668 (by decide) ?_
                refine lv_iload hx hb dL_isDone_687 (lv_at hl 0 rfl) ?_
                refine n_icmp_ne (tgt := 696) hx hb (by unfold r32; omega) (by unfold r32; omega) dL_isDone_689 (by decide) (fun h689 => False.elim (h689 rfl)) (fun h689 => ?_)
                refine n_iconst hx hb dL_isDone_692 ?_
                refine lv_goto (tgt := 697) hx hb dL_isDone_693 (by decide) ?_
                refine W.widen (k := 228) (n := 867) (Nat.le_of_ble_eq_true rfl) (Nat.le_of_ble_eq_true rfl) ?_
                exact y_zret (b := true) ((ms, es, gE, gM, gB, gT, gG, gN, gK, gD), κ2, fe, fq, fv, fu, fw, fy) hx hb hr hlocks dL_isDone_697 hP hD hS rfl ⟨rfl, hI2, hL.up⟩
              by_cases h0 : two / 10 % 9 = 0
              · refine n_if_ne (tgt := 432) hx hb (by unfold r32; omega) dL_isDone_425 (by decide) (fun h425 => False.elim (by omega)) (fun h425 => ?_)
                refine n_iconst hx hb dL_isDone_428 ?_
                refine lv_goto (tgt := 441) hx hb dL_isDone_429 (by decide) ?_
                refine W.eq (g2 := F0 m 441 ls (.int (vI zr) :: [])) (congrArg (fun z : Int => F0 m 441 ls (.int (jI z) :: [])) (by rw [ezr, if_pos h0]; rfl)) ?_
                exact hk
              · refine n_if_ne (tgt := 432) hx hb (by unfold r32; omega) dL_isDone_425 (by decide) (fun h425 => ?_) (fun h425 => False.elim (by omega))
                refine lv_iload hx hb dL_isDone_432 (lv_at hl 18 rfl) ?_
                refine n_bipush hx hb dL_isDone_434 (by decide) ?_
                refine n_idivv (v := (((two / 10) : Nat) : Int)) hx hb dL_isDone_436 (by omega) (by omega) (by omega) (by omega) (by omega) ?_
                refine n_sipush hx hb dL_isDone_437 (by decide) ?_
                refine n_iremv (v := (zv zr)) hx hb dL_isDone_440 (by omega) (by omega) (by omega) (by omega) (by rw [ezr, if_neg h0]; omega) ?_
                exact hk
          · refine n_icmp_ne (tgt := 355) hx hb (by unfold r32; omega) (by unfold r32; omega) dL_isDone_340 (by decide) (fun h340 => ?_) (fun h340 => False.elim (by omega))
            refine lv_iload hx hb dL_isDone_355 (lv_at hl 13 rfl) ?_
            refine n_bipush hx hb dL_isDone_357 (by decide) ?_
            refine n_idivv (v := (((one / 7) : Nat) : Int)) hx hb dL_isDone_359 (by omega) (by omega) (by omega) (by omega) (by omega) ?_
            refine lv_aload_n hx hb dL_isDone_360 rfl (lv_at hl 5 rfl) ?_
            refine lv_iload hx hb dL_isDone_361 (lv_at hl 1 rfl) ?_
            refine n_bipush hx hb dL_isDone_363 (by decide) ?_
            refine n_iadd hx hb dL_isDone_365 ?_
            refine n_ialdv (i := ((15 * ev) + 12)) (v := (((gT ev) : Nat) : Int)) hx hb hK hP 0 0 rfl htI (by omega) (by omega) (Nat.le_of_ble_eq_true rfl) h12 dL_isDone_366 ?_
            refine n_iconst hx hb dL_isDone_367 ?_
            refine n_iadd hx hb dL_isDone_368 ?_
            obtain ⟨tn, etn, ltn⟩ := rem_ex ((one / 7 : Nat) : Int) (((gT ev : Nat) : Int) + 1) (by omega)
            refine n_iremv (v := ((tn : Nat) : Int)) hx hb dL_isDone_369 (by omega) (by omega) (by omega) (by omega) etn ?_
            obtain ⟨tt, ett⟩ := z_ex2 tn (by omega)
            refine W.eq (g2 := F0 m 370 ls (.int (vI tt) :: [])) (congrArg (fun z : Int => F0 m 370 ls (.int (jI z) :: [])) ett.symm) ?_
            refine lv_istore (lv' := [(15, .int (vI tt)), (14, .int (jI 1)), (13, .int (jI (((15 * ev) : Nat) : Int))), (12, .int (jI 1)), (11, .int (jI ((ev : Nat) : Int))), (0, .ref x0), (1, .ref ae), (2, .ref aq), (3, .ref av), (4, .ref au), (5, .ref aw), (6, .ref ay), (7, .ref ag), (8, .int (jI 2)), (9, .int (jI ((one : Nat) : Int))), (10, .int (jI ((two : Nat) : Int)))]) hx hb dL_isDone_370 hl (by decide) rfl (fun ls hl => ?_)
            refine lv_iload hx hb dL_isDone_372 (lv_at hl 14 rfl) ?_
            refine n_iconst hx hb dL_isDone_374 ?_
            refine n_idivv (v := (((one / 3) : Nat) : Int)) hx hb dL_isDone_375 (by omega) (by omega) (by omega) (by omega) (by omega) ?_
            refine n_bipush hx hb dL_isDone_376 (by decide) ?_
            refine n_iremv (v := (((one / 3 % 17) : Nat) : Int)) hx hb dL_isDone_378 (by omega) (by omega) (by omega) (by omega) (by omega) ?_
            refine n_bipush hx hb dL_isDone_379 (by decide) ?_
            by_cases hh : one / 3 % 17 = 16
            · refine n_icmp_ne (tgt := 390) hx hb (by unfold r32; omega) (by unfold r32; omega) dL_isDone_381 (by decide) (fun h381 => False.elim (by omega)) (fun h381 => ?_)
              refine n_sipush hx hb dL_isDone_384 (by decide) ?_
              refine lv_goto (tgt := 396) hx hb dL_isDone_387 (by decide) ?_
              refine lv_istore (lv' := [(16, .int (jI 10007)), (15, .int (vI tt)), (14, .int (jI 1)), (13, .int (jI (((15 * ev) : Nat) : Int))), (12, .int (jI 1)), (11, .int (jI ((ev : Nat) : Int))), (0, .ref x0), (1, .ref ae), (2, .ref aq), (3, .ref av), (4, .ref au), (5, .ref aw), (6, .ref ay), (7, .ref ag), (8, .int (jI 2)), (9, .int (jI ((one : Nat) : Int))), (10, .int (jI ((two : Nat) : Int)))]) hx hb dL_isDone_396 hl (by decide) rfl (fun ls hl => ?_)
              refine lv_iload hx hb dL_isDone_398 (lv_at hl 16 rfl) ?_
              refine n_iconst hx hb dL_isDone_400 ?_
              refine n_idivv (v := (((two / 2) : Nat) : Int)) hx hb dL_isDone_401 (by omega) (by omega) (by omega) (by omega) (by omega) ?_
              refine n_iconst hx hb dL_isDone_402 ?_
              refine n_iremv (v := (zv zj)) hx hb dL_isDone_403 (by omega) (by omega) (by omega) (by omega) (by omega) ?_
              refine lv_istore (lv' := [(17, .int (vI zj)), (16, .int (jI 10007)), (15, .int (vI tt)), (14, .int (jI 1)), (13, .int (jI (((15 * ev) : Nat) : Int))), (12, .int (jI 1)), (11, .int (jI ((ev : Nat) : Int))), (0, .ref x0), (1, .ref ae), (2, .ref aq), (3, .ref av), (4, .ref au), (5, .ref aw), (6, .ref ay), (7, .ref ag), (8, .int (jI 2)), (9, .int (jI ((one : Nat) : Int))), (10, .int (jI ((two : Nat) : Int)))]) hx hb dL_isDone_404 hl (by decide) rfl (fun ls hl => ?_)
              refine lv_iload hx hb dL_isDone_406 (lv_at hl 16 rfl) ?_
              refine n_bipush hx hb dL_isDone_408 (by decide) ?_
              refine n_idivv (v := (((one / 11) : Nat) : Int)) hx hb dL_isDone_410 (by omega) (by omega) (by omega) (by omega) (by omega) ?_
              refine n_sipush hx hb dL_isDone_411 (by decide) ?_
              refine n_iremv (v := (zv zz)) hx hb dL_isDone_414 (by omega) (by omega) (by omega) (by omega) (by omega) ?_
              refine lv_istore (lv' := [(18, .int (vI zz)), (17, .int (vI zj)), (16, .int (jI 10007)), (15, .int (vI tt)), (14, .int (jI 1)), (13, .int (jI (((15 * ev) : Nat) : Int))), (12, .int (jI 1)), (11, .int (jI ((ev : Nat) : Int))), (0, .ref x0), (1, .ref ae), (2, .ref aq), (3, .ref av), (4, .ref au), (5, .ref aw), (6, .ref ay), (7, .ref ag), (8, .int (jI 2)), (9, .int (jI ((one : Nat) : Int))), (10, .int (jI ((two : Nat) : Int)))]) hx hb dL_isDone_415 hl (by decide) rfl (fun ls hl => ?_)
              refine lv_iload hx hb dL_isDone_417 (lv_at hl 18 rfl) ?_
              refine n_bipush hx hb dL_isDone_419 (by decide) ?_
              refine n_idivv (v := (((two / 10) : Nat) : Int)) hx hb dL_isDone_421 (by omega) (by omega) (by omega) (by omega) (by omega) ?_
              refine n_bipush hx hb dL_isDone_422 (by decide) ?_
              refine n_iremv (v := (((two / 10 % 9) : Nat) : Int)) hx hb dL_isDone_424 (by omega) (by omega) (by omega) (by omega) (by omega) ?_
              have hk : W p l e { frames := 12, cells := 228, slots := 867, locals := 268 } s m ([Value.ref x0, .ref ae, .ref aq, .ref av, .ref au, .ref aw, .ref ay, .ref ag, .int (jI 2), .int (jI ((one : Nat) : Int)), .int (jI ((two : Nat) : Int))] : List Value).toArray below meth c9 s.heap [] 0 0 (MQ below (ENI D A (fun (r : Int32) (u : SG × (Nat → EG) × (Nat → Int) × (Nat → Int) × (Nat → Int) × (Nat → Int) × (Nat → Zp) × (Nat → Zp)) => r = jI (iB true) ∧ INV u.1 u.2.1 ∧ LI u.1 fm u.2.2.1 u.2.2.2.1 u.2.2.2.2.1 u.2.2.2.2.2.1 fg (c + 1)) (fun (u : SG × (Nat → EG) × (Nat → Int) × (Nat → Int) × (Nat → Int) × (Nat → Int) × (Nat → Zp) × (Nat → Zp)) => ((ae, .inl (cI, 45, .inl (fun i => jI (u.2.2.1 i)))) :: (aq, .inl (cJ, 16, .inr (.inl (fun i => jL (u.2.2.2.1 i))))) :: (av, .inl (cJ, 16, .inr (.inl (fun i => jL (u.2.2.2.2.1 i))))) :: (au, .inl (cJ, 16, .inr (.inl (fun i => jL (u.2.2.2.2.2.1 i))))) :: (aw, .inl (cJ, 60, .inr (.inl (fun i => vL (u.2.2.2.2.2.2.1 i))))) :: (ay, .inl (cJ, 32, .inr (.inl (fun i => vL (u.2.2.2.2.2.2.2 i))))) :: (ag, .inl (cI, 2, .inl (fun i => jI ((fg i : Nat) : Int)))) :: (CW cI cE cG cM cS x0 q0 q1 qr u.1 u.2.1))) (fun _ => [])) ([Value.ref x0, .ref ae, .ref aq, .ref av, .ref au, .ref aw, .ref ay, .ref ag, .int (jI 2), .int (jI ((one : Nat) : Int)), .int (jI ((two : Nat) : Int))] : List Value).toArray s 228 867 A) (F0 m 441 ls [.int (vI zr)]) := by
                refine lv_istore (lv' := [(19, .int (vI zr)), (18, .int (vI zz)), (17, .int (vI zj)), (16, .int (jI 10007)), (15, .int (vI tt)), (14, .int (jI 1)), (13, .int (jI (((15 * ev) : Nat) : Int))), (12, .int (jI 1)), (11, .int (jI ((ev : Nat) : Int))), (0, .ref x0), (1, .ref ae), (2, .ref aq), (3, .ref av), (4, .ref au), (5, .ref aw), (6, .ref ay), (7, .ref ag), (8, .int (jI 2)), (9, .int (jI ((one : Nat) : Int))), (10, .int (jI ((two : Nat) : Int)))]) hx hb dL_isDone_441 hl (by decide) rfl (fun ls hl => ?_)
                refine lv_iload hx hb dL_isDone_443 (lv_at hl 4 rfl) ?_
                refine lv_aload_n hx hb dL_isDone_445 rfl (lv_at hl 10 rfl) ?_
                refine lv_iload hx hb dL_isDone_446 (lv_at hl 6 rfl) ?_
                refine n_bipush hx hb dL_isDone_448 (by decide) ?_
                refine n_iadd hx hb dL_isDone_450 ?_
                refine n_ialdv (i := ((15 * ev) + 12)) (v := (((gT ev) : Nat) : Int)) hx hb hK hP 0 0 rfl htI (by omega) (by omega) (Nat.le_of_ble_eq_true rfl) h12 dL_isDone_451 ?_
                refine n_icmp_gt (tgt := 467) hx hb (r32_z _) (by unfold r32; omega) dL_isDone_452 (by decide) (fun h452 => False.elim (by omega)) (fun h452 => ?_)
                refine lv_iload hx hb dL_isDone_455 (lv_at hl 3 rfl) ?_
                refine n_sipush hx hb dL_isDone_457 (by decide) ?_
                refine n_icmp_ge (tgt := 467) hx hb (by unfold r32; omega) (by unfold r32; omega) dL_isDone_460 (by decide) (fun h460 => ?_) (fun h460 => False.elim (by omega))
                refine n_iconst hx hb dL_isDone_467 ?_
                refine lv_istore (lv' := [(20, .int (jI 0)), (19, .int (vI zr)), (18, .int (vI zz)), (17, .int (vI zj)), (16, .int (jI 10007)), (15, .int (vI tt)), (14, .int (jI 1)), (13, .int (jI (((15 * ev) : Nat) : Int))), (12, .int (jI 1)), (11, .int (jI ((ev : Nat) : Int))), (0, .ref x0), (1, .ref ae), (2, .ref aq), (3, .ref av), (4, .ref au), (5, .ref aw), (6, .ref ay), (7, .ref ag), (8, .int (jI 2)), (9, .int (jI ((one : Nat) : Int))), (10, .int (jI ((two : Nat) : Int)))]) hx hb dL_isDone_468 hl (by decide) rfl (fun ls hl => ?_)
                refine lv_iload hx hb dL_isDone_470 (lv_at hl 8 rfl) ?_
                refine n_if_eq (tgt := 484) hx hb (by unfold r32; decide) dL_isDone_472 (by decide) (fun h472 => False.elim (by revert h472; decide)) (fun h472 => ?_)
                refine lv_iload hx hb dL_isDone_475 (lv_at hl 0 rfl) ?_
                refine n_if_eq (tgt := 484) hx hb (by unfold r32; decide) dL_isDone_477 (by decide) (fun h477 => ?_) (fun h477 => False.elim (by revert h477; decide))
                refine n_iconst hx hb dL_isDone_484 ?_
                refine lv_istore (lv' := [(21, .int (jI 0)), (20, .int (jI 0)), (19, .int (vI zr)), (18, .int (vI zz)), (17, .int (vI zj)), (16, .int (jI 10007)), (15, .int (vI tt)), (14, .int (jI 1)), (13, .int (jI (((15 * ev) : Nat) : Int))), (12, .int (jI 1)), (11, .int (jI ((ev : Nat) : Int))), (0, .ref x0), (1, .ref ae), (2, .ref aq), (3, .ref av), (4, .ref au), (5, .ref aw), (6, .ref ay), (7, .ref ag), (8, .int (jI 2)), (9, .int (jI ((one : Nat) : Int))), (10, .int (jI ((two : Nat) : Int)))]) hx hb dL_isDone_485 hl (by decide) rfl (fun ls hl => ?_)
                refine n_bipush hx hb dL_isDone_487 (by decide) ?_
                refine lv_iload hx hb dL_isDone_489 (lv_at hl 10 rfl) ?_
                refine n_imul hx hb dL_isDone_491 ?_
                refine lv_aload_n hx hb dL_isDone_492 rfl (lv_at hl 12 rfl) ?_
                refine lv_iload hx hb dL_isDone_493 (lv_at hl 8 rfl) ?_
                refine n_bipush hx hb dL_isDone_495 (by decide) ?_
                refine n_iadd hx hb dL_isDone_497 ?_
                refine n_ialdv (i := ((15 * ev) + 14)) (v := (((gN ev) : Nat) : Int)) hx hb hK hP 0 0 rfl htI (by omega) (by omega) (Nat.le_of_ble_eq_true rfl) h14 dL_isDone_498 ?_
                refine n_iadd hx hb dL_isDone_499 ?_
                refine W.eq (g2 := F0 m 500 ls (.int (jI (((8 * ev + gN ev) : Nat) : Int)) :: [])) (congrArg (fun z : Int => F0 m 500 ls (.int (jI z) :: [])) (by omega)) ?_
                refine lv_istore (lv' := [(22, .int (jI (((8 * ev + gN ev) : Nat) : Int))), (21, .int (jI 0)), (20, .int (jI 0)), (19, .int (vI zr)), (18, .int (vI zz)), (17, .int (vI zj)), (16, .int (jI 10007)), (15, .int (vI tt)), (14, .int (jI 1)), (13, .int (jI (((15 * ev) : Nat) : Int))), (12, .int (jI 1)), (11, .int (jI ((ev : Nat) : Int))), (0, .ref x0), (1, .ref ae), (2, .ref aq), (3, .ref av), (4, .ref au), (5, .ref aw), (6, .ref ay), (7, .ref ag), (8, .int (jI 2)), (9, .int (jI ((one : Nat) : Int))), (10, .int (jI ((two : Nat) : Int)))]) hx hb dL_isDone_500 hl (by decide) rfl (fun ls hl => ?_)
                refine lv_iload hx hb dL_isDone_502 (lv_at hl 1 rfl) ?_
                refine n_if_eq (tgt := 609) hx hb (by unfold r32; decide) dL_isDone_504 (by decide) (fun h504 => ?_) (fun h504 => False.elim (by revert h504; decide))
                refine lv_iload hx hb dL_isDone_609 (lv_at hl 10 rfl) ?_
                refine n_if_ne (tgt := 619) hx hb (by unfold r32; decide) dL_isDone_611 (by decide) (fun h611 => ?_) (fun h611 => False.elim (by revert h611; decide))
                refine lv_iload hx hb dL_isDone_619 (lv_at hl 2 rfl) ?_
                refine n_if_ne (tgt := 629) hx hb (by unfold r32; decide) dL_isDone_621 (by decide) (fun h621 => False.elim (by revert h621; decide)) (fun h621 => ?_)
                refine n_bipush hx hb dL_isDone_624 (by decide) ?_
                refine lv_goto (tgt := 643) hx hb dL_isDone_626 (by decide) ?_
                refine lv_istore (lv' := [(23, .int (jI (-2))), (22, .int (jI (((8 * ev + gN ev) : Nat) : Int))), (21, .int (jI 0)), (20, .int (jI 0)), (19, .int (vI zr)), (18, .int (vI zz)), (17, .int (vI zj)), (16, .int (jI 10007)), (15, .int (vI tt)), (14, .int (jI 1)), (13, .int (jI (((15 * ev) : Nat) : Int))), (12, .int (jI 1)), (11, .int (jI ((ev : Nat) : Int))), (0, .ref x0), (1, .ref ae), (2, .ref aq), (3, .ref av), (4, .ref au), (5, .ref aw), (6, .ref ay), (7, .ref ag), (8, .int (jI 2)), (9, .int (jI ((one : Nat) : Int))), (10, .int (jI ((two : Nat) : Int)))]) hx hb dL_isDone_643 hl (by decide) rfl (fun ls hl => ?_)
                refine lv_iload hx hb dL_isDone_645 (lv_at hl 9 rfl) ?_
                refine n_if_eq (tgt := 671) hx hb (by unfold r32; decide) dL_isDone_647 (by decide) (fun h647 => False.elim (by revert h647; decide)) (fun h647 => ?_)
                refine lv_aload_n hx hb dL_isDone_650 rfl (lv_at hl 13 rfl) ?_
                refine n_bipush hx hb dL_isDone_651 (by decide) ?_
                refine lv_iload hx hb dL_isDone_653 (lv_at hl 12 rfl) ?_
                refine lv_iload hx hb dL_isDone_655 (lv_at hl 8 rfl) ?_
                refine lv_iload hx hb dL_isDone_657 (lv_at hl 7 rfl) ?_
                refine lv_iload hx hb dL_isDone_659 (lv_at hl 6 rfl) ?_
                refine lv_iload hx hb dL_isDone_661 (lv_at hl 5 rfl) ?_
                refine lv_iload hx hb dL_isDone_663 (lv_at hl 4 rfl) ?_
                have hC := d_late2 l hl9 D tys htI htE htM htS htG x0 q0 q1 qr ms es gE gM gB gT gG gN gK gD κ hI ev hev (zv tt) 10007 (zv zj) (zv zz) (zv zr) (r32_z _) (by unfold r32; omega) (r32_z _) (r32_z _) (r32_z _) (by rw [show inB 0 10006 10007 = false from inB_f (by omega), Bool.false_and, Bool.and_false])
                have hW := w_does_late l D tys x0 q0 q1 qr ms es gE gM gB gT gG gN gK gD κ (jI ((ev : Nat) : Int)) (vI tt) (jI 10007) (vI zj) (vI zz) (vI zr) (ms, es, gE, gM, gB, gT, gG, gN, gK, gD) 2 _ hC
                have hP : va_P D vwCl ((CW cI cE cG cM cS x0 q0 q1 qr (ms, es, gE, gM, gB, gT, gG, gN, gK, gD) κ) ++ [(ae, .inl (cI, 45, .inl (fun i => jI (fe i)))), (aq, .inl (cJ, 16, .inr (.inl (fun i => jL (fq i))))), (av, .inl (cJ, 16, .inr (.inl (fun i => jL (fv i))))), (au, .inl (cJ, 16, .inr (.inl (fun i => jL (fu i))))), (aw, .inl (cJ, 60, .inr (.inl (fun i => vL (fw i))))), (ay, .inl (cJ, 32, .inr (.inl (fun i => vL (fy i))))), (ag, .inl (cI, 2, .inl (fun i => jI ((fg i : Nat) : Int))))]) s.heap := hP.perm (List.perm_append_comm (l₁ := ([(ae, .inl (cI, 45, .inl (fun i => jI (fe i)))), (aq, .inl (cJ, 16, .inr (.inl (fun i => jL (fq i))))), (av, .inl (cJ, 16, .inr (.inl (fun i => jL (fv i))))), (au, .inl (cJ, 16, .inr (.inl (fun i => jL (fu i))))), (aw, .inl (cJ, 60, .inr (.inl (fun i => vL (fw i))))), (ay, .inl (cJ, 32, .inr (.inl (fun i => vL (fy i))))), (ag, .inl (cI, 2, .inl (fun i => jI ((fg i : Nat) : Int))))] : va_W)) (l₂ := (CW cI cE cG cM cS x0 q0 q1 qr (ms, es, gE, gM, gB, gT, gG, gN, gK, gD) κ)))
                have hD : va_D A ((CW cI cE cG cM cS x0 q0 q1 qr (ms, es, gE, gM, gB, gT, gG, gN, gK, gD) κ) ++ [(ae, .inl (cI, 45, .inl (fun i => jI (fe i)))), (aq, .inl (cJ, 16, .inr (.inl (fun i => jL (fq i))))), (av, .inl (cJ, 16, .inr (.inl (fun i => jL (fv i))))), (au, .inl (cJ, 16, .inr (.inl (fun i => jL (fu i))))), (aw, .inl (cJ, 60, .inr (.inl (fun i => vL (fw i))))), (ay, .inl (cJ, 32, .inr (.inl (fun i => vL (fy i))))), (ag, .inl (cI, 2, .inl (fun i => jI ((fg i : Nat) : Int))))]) := hD.perm (List.perm_append_comm (l₁ := ([(ae, .inl (cI, 45, .inl (fun i => jI (fe i)))), (aq, .inl (cJ, 16, .inr (.inl (fun i => jL (fq i))))), (av, .inl (cJ, 16, .inr (.inl (fun i => jL (fv i))))), (au, .inl (cJ, 16, .inr (.inl (fun i => jL (fu i))))), (aw, .inl (cJ, 60, .inr (.inl (fun i => vL (fw i))))), (ay, .inl (cJ, 32, .inr (.inl (fun i => vL (fy i))))), (ag, .inl (cI, 2, .inl (fun i => jI ((fg i : Nat) : Int))))] : va_W)) (l₂ := (CW cI cE cG cM cS x0 q0 q1 qr (ms, es, gE, gM, gB, gT, gG, gN, gK, gD) κ)))
                refine a_goNI (vx_runSW (As := [.ref x0, .int (jI 6), .int (jI ((ev : Nat) : Int)), .int (vI tt), .int (jI 10007), .int (vI zj), .int (vI zz), .int (vI zr)]) (rest := []) ⟨hx, hb, hml, hown, hts⟩ (hW _) (vx_cwSW 8 hts gL_isDone_L_does rfl rfl rfl (by decide +kernel) ⟨(Nat.le_of_ble_eq_true rfl), (Nat.le_of_ble_eq_true rfl)⟩) (c_pre hK hXK hZ hN hP hD hS hA) rfl rfl hl.1 rfl (lv_room (Nat.le_of_ble_eq_true rfl)) dL_isDone_665 ⟨(Nat.le_of_ble_eq_true rfl), (Nat.le_of_ble_eq_true rfl)⟩) hP hD hS hA (fun r κ2 H locs hpost hP hD hS => ?_)
                obtain ⟨hr9, hI2⟩ := hpost
                have hr9 : r = jI (-2) := hr9
                subst hr9
                have hP : va_P D vwCl ((CW cI cE cG cM cS x0 q0 q1 qr (ms, es, gE, gM, gB, gT, gG, gN, gK, gD) κ2) ++ [(ae, .inl (cI, 45, .inl (fun i => jI (fe i)))), (aq, .inl (cJ, 16, .inr (.inl (fun i => jL (fq i))))), (av, .inl (cJ, 16, .inr (.inl (fun i => jL (fv i))))), (au, .inl (cJ, 16, .inr (.inl (fun i => jL (fu i))))), (aw, .inl (cJ, 60, .inr (.inl (fun i => vL (fw i))))), (ay, .inl (cJ, 32, .inr (.inl (fun i => vL (fy i))))), (ag, .inl (cI, 2, .inl (fun i => jI ((fg i : Nat) : Int))))]) H := hP
                have hD : va_D A ((CW cI cE cG cM cS x0 q0 q1 qr (ms, es, gE, gM, gB, gT, gG, gN, gK, gD) κ2) ++ [(ae, .inl (cI, 45, .inl (fun i => jI (fe i)))), (aq, .inl (cJ, 16, .inr (.inl (fun i => jL (fq i))))), (av, .inl (cJ, 16, .inr (.inl (fun i => jL (fv i))))), (au, .inl (cJ, 16, .inr (.inl (fun i => jL (fu i))))), (aw, .inl (cJ, 60, .inr (.inl (fun i => vL (fw i))))), (ay, .inl (cJ, 32, .inr (.inl (fun i => vL (fy i))))), (ag, .inl (cI, 2, .inl (fun i => jI ((fg i : Nat) : Int))))]) := hD
                have hP : va_P D vwCl ((ae, .inl (cI, 45, .inl (fun i => jI (fe i)))) :: (aq, .inl (cJ, 16, .inr (.inl (fun i => jL (fq i))))) :: (av, .inl (cJ, 16, .inr (.inl (fun i => jL (fv i))))) :: (au, .inl (cJ, 16, .inr (.inl (fun i => jL (fu i))))) :: (aw, .inl (cJ, 60, .inr (.inl (fun i => vL (fw i))))) :: (ay, .inl (cJ, 32, .inr (.inl (fun i => vL (fy i))))) :: (ag, .inl (cI, 2, .inl (fun i => jI ((fg i : Nat) : Int)))) :: (CW cI cE cG cM cS x0 q0 q1 qr (ms, es, gE, gM, gB, gT, gG, gN, gK, gD) κ2)) H := hP.perm (List.perm_append_comm (l₁ := (CW cI cE cG cM cS x0 q0 q1 qr (ms, es, gE, gM, gB, gT, gG, gN, gK, gD) κ2)) (l₂ := ([(ae, .inl (cI, 45, .inl (fun i => jI (fe i)))), (aq, .inl (cJ, 16, .inr (.inl (fun i => jL (fq i))))), (av, .inl (cJ, 16, .inr (.inl (fun i => jL (fv i))))), (au, .inl (cJ, 16, .inr (.inl (fun i => jL (fu i))))), (aw, .inl (cJ, 60, .inr (.inl (fun i => vL (fw i))))), (ay, .inl (cJ, 32, .inr (.inl (fun i => vL (fy i))))), (ag, .inl (cI, 2, .inl (fun i => jI ((fg i : Nat) : Int))))] : va_W)))
                have hD : va_D A ((ae, .inl (cI, 45, .inl (fun i => jI (fe i)))) :: (aq, .inl (cJ, 16, .inr (.inl (fun i => jL (fq i))))) :: (av, .inl (cJ, 16, .inr (.inl (fun i => jL (fv i))))) :: (au, .inl (cJ, 16, .inr (.inl (fun i => jL (fu i))))) :: (aw, .inl (cJ, 60, .inr (.inl (fun i => vL (fw i))))) :: (ay, .inl (cJ, 32, .inr (.inl (fun i => vL (fy i))))) :: (ag, .inl (cI, 2, .inl (fun i => jI ((fg i : Nat) : Int)))) :: (CW cI cE cG cM cS x0 q0 q1 qr (ms, es, gE, gM, gB, gT, gG, gN, gK, gD) κ2)) := hD.perm (List.perm_append_comm (l₁ := (CW cI cE cG cM cS x0 q0 q1 qr (ms, es, gE, gM, gB, gT, gG, gN, gK, gD) κ2)) (l₂ := ([(ae, .inl (cI, 45, .inl (fun i => jI (fe i)))), (aq, .inl (cJ, 16, .inr (.inl (fun i => jL (fq i))))), (av, .inl (cJ, 16, .inr (.inl (fun i => jL (fv i))))), (au, .inl (cJ, 16, .inr (.inl (fun i => jL (fu i))))), (aw, .inl (cJ, 60, .inr (.inl (fun i => vL (fw i))))), (ay, .inl (cJ, 32, .inr (.inl (fun i => vL (fy i))))), (ag, .inl (cI, 2, .inl (fun i => jI ((fg i : Nat) : Int))))] : va_W)))
                refine lv_goto (tgt := 687) hx hb dL_isDone_668 (by decide) ?_
                refine lv_iload hx hb dL_isDone_687 (lv_at hl 0 rfl) ?_
                refine n_icmp_ne (tgt := 696) hx hb (by unfold r32; omega) (by unfold r32; omega) dL_isDone_689 (by decide) (fun h689 => False.elim (h689 rfl)) (fun h689 => ?_)
                refine n_iconst hx hb dL_isDone_692 ?_
                refine lv_goto (tgt := 697) hx hb dL_isDone_693 (by decide) ?_
                refine W.widen (k := 228) (n := 867) (Nat.le_of_ble_eq_true rfl) (Nat.le_of_ble_eq_true rfl) ?_
                exact y_zret (b := true) ((ms, es, gE, gM, gB, gT, gG, gN, gK, gD), κ2, fe, fq, fv, fu, fw, fy) hx hb hr hlocks dL_isDone_697 hP hD hS rfl ⟨rfl, hI2, hL.up⟩
              by_cases h0 : two / 10 % 9 = 0
              · refine n_if_ne (tgt := 432) hx hb (by unfold r32; omega) dL_isDone_425 (by decide) (fun h425 => False.elim (by omega)) (fun h425 => ?_)
                refine n_iconst hx hb dL_isDone_428 ?_
                refine lv_goto (tgt := 441) hx hb dL_isDone_429 (by decide) ?_
                refine W.eq (g2 := F0 m 441 ls (.int (vI zr) :: [])) (congrArg (fun z : Int => F0 m 441 ls (.int (jI z) :: [])) (by rw [ezr, if_pos h0]; rfl)) ?_
                exact hk
              · refine n_if_ne (tgt := 432) hx hb (by unfold r32; omega) dL_isDone_425 (by decide) (fun h425 => ?_) (fun h425 => False.elim (by omega))
                refine lv_iload hx hb dL_isDone_432 (lv_at hl 18 rfl) ?_
                refine n_bipush hx hb dL_isDone_434 (by decide) ?_
                refine n_idivv (v := (((two / 10) : Nat) : Int)) hx hb dL_isDone_436 (by omega) (by omega) (by omega) (by omega) (by omega) ?_
                refine n_sipush hx hb dL_isDone_437 (by decide) ?_
                refine n_iremv (v := (zv zr)) hx hb dL_isDone_440 (by omega) (by omega) (by omega) (by omega) (by rw [ezr, if_neg h0]; omega) ?_
                exact hk
            · refine n_icmp_ne (tgt := 390) hx hb (by unfold r32; omega) (by unfold r32; omega) dL_isDone_381 (by decide) (fun h381 => ?_) (fun h381 => False.elim (by omega))
              refine lv_iload hx hb dL_isDone_390 (lv_at hl 14 rfl) ?_
              refine n_iconst hx hb dL_isDone_392 ?_
              refine n_idivv (v := (((one / 3) : Nat) : Int)) hx hb dL_isDone_393 (by omega) (by omega) (by omega) (by omega) (by omega) ?_
              refine n_iconst hx hb dL_isDone_394 ?_
              refine n_iremv (v := (zv zh)) hx hb dL_isDone_395 (by omega) (by omega) (by omega) (by omega) (by omega) ?_
              refine lv_istore (lv' := [(16, .int (vI zh)), (15, .int (vI tt)), (14, .int (jI 1)), (13, .int (jI (((15 * ev) : Nat) : Int))), (12, .int (jI 1)), (11, .int (jI ((ev : Nat) : Int))), (0, .ref x0), (1, .ref ae), (2, .ref aq), (3, .ref av), (4, .ref au), (5, .ref aw), (6, .ref ay), (7, .ref ag), (8, .int (jI 2)), (9, .int (jI ((one : Nat) : Int))), (10, .int (jI ((two : Nat) : Int)))]) hx hb dL_isDone_396 hl (by decide) rfl (fun ls hl => ?_)
              refine lv_iload hx hb dL_isDone_398 (lv_at hl 16 rfl) ?_
              refine n_iconst hx hb dL_isDone_400 ?_
              refine n_idivv (v := (((two / 2) : Nat) : Int)) hx hb dL_isDone_401 (by omega) (by omega) (by omega) (by omega) (by omega) ?_
              refine n_iconst hx hb dL_isDone_402 ?_
              refine n_iremv (v := (zv zj)) hx hb dL_isDone_403 (by omega) (by omega) (by omega) (by omega) (by omega) ?_
              refine lv_istore (lv' := [(17, .int (vI zj)), (16, .int (vI zh)), (15, .int (vI tt)), (14, .int (jI 1)), (13, .int (jI (((15 * ev) : Nat) : Int))), (12, .int (jI 1)), (11, .int (jI ((ev : Nat) : Int))), (0, .ref x0), (1, .ref ae), (2, .ref aq), (3, .ref av), (4, .ref au), (5, .ref aw), (6, .ref ay), (7, .ref ag), (8, .int (jI 2)), (9, .int (jI ((one : Nat) : Int))), (10, .int (jI ((two : Nat) : Int)))]) hx hb dL_isDone_404 hl (by decide) rfl (fun ls hl => ?_)
              refine lv_iload hx hb dL_isDone_406 (lv_at hl 16 rfl) ?_
              refine n_bipush hx hb dL_isDone_408 (by decide) ?_
              refine n_idivv (v := (((one / 11) : Nat) : Int)) hx hb dL_isDone_410 (by omega) (by omega) (by omega) (by omega) (by omega) ?_
              refine n_sipush hx hb dL_isDone_411 (by decide) ?_
              refine n_iremv (v := (zv zz)) hx hb dL_isDone_414 (by omega) (by omega) (by omega) (by omega) (by omega) ?_
              refine lv_istore (lv' := [(18, .int (vI zz)), (17, .int (vI zj)), (16, .int (vI zh)), (15, .int (vI tt)), (14, .int (jI 1)), (13, .int (jI (((15 * ev) : Nat) : Int))), (12, .int (jI 1)), (11, .int (jI ((ev : Nat) : Int))), (0, .ref x0), (1, .ref ae), (2, .ref aq), (3, .ref av), (4, .ref au), (5, .ref aw), (6, .ref ay), (7, .ref ag), (8, .int (jI 2)), (9, .int (jI ((one : Nat) : Int))), (10, .int (jI ((two : Nat) : Int)))]) hx hb dL_isDone_415 hl (by decide) rfl (fun ls hl => ?_)
              refine lv_iload hx hb dL_isDone_417 (lv_at hl 18 rfl) ?_
              refine n_bipush hx hb dL_isDone_419 (by decide) ?_
              refine n_idivv (v := (((two / 10) : Nat) : Int)) hx hb dL_isDone_421 (by omega) (by omega) (by omega) (by omega) (by omega) ?_
              refine n_bipush hx hb dL_isDone_422 (by decide) ?_
              refine n_iremv (v := (((two / 10 % 9) : Nat) : Int)) hx hb dL_isDone_424 (by omega) (by omega) (by omega) (by omega) (by omega) ?_
              have hk : W p l e { frames := 12, cells := 228, slots := 867, locals := 268 } s m ([Value.ref x0, .ref ae, .ref aq, .ref av, .ref au, .ref aw, .ref ay, .ref ag, .int (jI 2), .int (jI ((one : Nat) : Int)), .int (jI ((two : Nat) : Int))] : List Value).toArray below meth c9 s.heap [] 0 0 (MQ below (ENI D A (fun (r : Int32) (u : SG × (Nat → EG) × (Nat → Int) × (Nat → Int) × (Nat → Int) × (Nat → Int) × (Nat → Zp) × (Nat → Zp)) => r = jI (iB true) ∧ INV u.1 u.2.1 ∧ LI u.1 fm u.2.2.1 u.2.2.2.1 u.2.2.2.2.1 u.2.2.2.2.2.1 fg (c + 1)) (fun (u : SG × (Nat → EG) × (Nat → Int) × (Nat → Int) × (Nat → Int) × (Nat → Int) × (Nat → Zp) × (Nat → Zp)) => ((ae, .inl (cI, 45, .inl (fun i => jI (u.2.2.1 i)))) :: (aq, .inl (cJ, 16, .inr (.inl (fun i => jL (u.2.2.2.1 i))))) :: (av, .inl (cJ, 16, .inr (.inl (fun i => jL (u.2.2.2.2.1 i))))) :: (au, .inl (cJ, 16, .inr (.inl (fun i => jL (u.2.2.2.2.2.1 i))))) :: (aw, .inl (cJ, 60, .inr (.inl (fun i => vL (u.2.2.2.2.2.2.1 i))))) :: (ay, .inl (cJ, 32, .inr (.inl (fun i => vL (u.2.2.2.2.2.2.2 i))))) :: (ag, .inl (cI, 2, .inl (fun i => jI ((fg i : Nat) : Int)))) :: (CW cI cE cG cM cS x0 q0 q1 qr u.1 u.2.1))) (fun _ => [])) ([Value.ref x0, .ref ae, .ref aq, .ref av, .ref au, .ref aw, .ref ay, .ref ag, .int (jI 2), .int (jI ((one : Nat) : Int)), .int (jI ((two : Nat) : Int))] : List Value).toArray s 228 867 A) (F0 m 441 ls [.int (vI zr)]) := by
                refine lv_istore (lv' := [(19, .int (vI zr)), (18, .int (vI zz)), (17, .int (vI zj)), (16, .int (vI zh)), (15, .int (vI tt)), (14, .int (jI 1)), (13, .int (jI (((15 * ev) : Nat) : Int))), (12, .int (jI 1)), (11, .int (jI ((ev : Nat) : Int))), (0, .ref x0), (1, .ref ae), (2, .ref aq), (3, .ref av), (4, .ref au), (5, .ref aw), (6, .ref ay), (7, .ref ag), (8, .int (jI 2)), (9, .int (jI ((one : Nat) : Int))), (10, .int (jI ((two : Nat) : Int)))]) hx hb dL_isDone_441 hl (by decide) rfl (fun ls hl => ?_)
                refine lv_iload hx hb dL_isDone_443 (lv_at hl 4 rfl) ?_
                refine lv_aload_n hx hb dL_isDone_445 rfl (lv_at hl 10 rfl) ?_
                refine lv_iload hx hb dL_isDone_446 (lv_at hl 6 rfl) ?_
                refine n_bipush hx hb dL_isDone_448 (by decide) ?_
                refine n_iadd hx hb dL_isDone_450 ?_
                refine n_ialdv (i := ((15 * ev) + 12)) (v := (((gT ev) : Nat) : Int)) hx hb hK hP 0 0 rfl htI (by omega) (by omega) (Nat.le_of_ble_eq_true rfl) h12 dL_isDone_451 ?_
                refine n_icmp_gt (tgt := 467) hx hb (r32_z _) (by unfold r32; omega) dL_isDone_452 (by decide) (fun h452 => False.elim (by omega)) (fun h452 => ?_)
                refine lv_iload hx hb dL_isDone_455 (lv_at hl 3 rfl) ?_
                refine n_sipush hx hb dL_isDone_457 (by decide) ?_
                refine n_icmp_ge (tgt := 467) hx hb (r32_z _) (by unfold r32; omega) dL_isDone_460 (by decide) (fun h460 => False.elim (by omega)) (fun h460 => ?_)
                refine n_iconst hx hb dL_isDone_463 ?_
                refine lv_goto (tgt := 468) hx hb dL_isDone_464 (by decide) ?_
                refine lv_istore (lv' := [(20, .int (jI 1)), (19, .int (vI zr)), (18, .int (vI zz)), (17, .int (vI zj)), (16, .int (vI zh)), (15, .int (vI tt)), (14, .int (jI 1)), (13, .int (jI (((15 * ev) : Nat) : Int))), (12, .int (jI 1)), (11, .int (jI ((ev : Nat) : Int))), (0, .ref x0), (1, .ref ae), (2, .ref aq), (3, .ref av), (4, .ref au), (5, .ref aw), (6, .ref ay), (7, .ref ag), (8, .int (jI 2)), (9, .int (jI ((one : Nat) : Int))), (10, .int (jI ((two : Nat) : Int)))]) hx hb dL_isDone_468 hl (by decide) rfl (fun ls hl => ?_)
                refine lv_iload hx hb dL_isDone_470 (lv_at hl 8 rfl) ?_
                refine n_if_eq (tgt := 484) hx hb (by unfold r32; decide) dL_isDone_472 (by decide) (fun h472 => False.elim (by revert h472; decide)) (fun h472 => ?_)
                refine lv_iload hx hb dL_isDone_475 (lv_at hl 0 rfl) ?_
                refine n_if_eq (tgt := 484) hx hb (by unfold r32; decide) dL_isDone_477 (by decide) (fun h477 => False.elim (by revert h477; decide)) (fun h477 => ?_)
                refine n_iconst hx hb dL_isDone_480 ?_
                refine lv_goto (tgt := 485) hx hb dL_isDone_481 (by decide) ?_
                refine lv_istore (lv' := [(21, .int (jI 1)), (20, .int (jI 1)), (19, .int (vI zr)), (18, .int (vI zz)), (17, .int (vI zj)), (16, .int (vI zh)), (15, .int (vI tt)), (14, .int (jI 1)), (13, .int (jI (((15 * ev) : Nat) : Int))), (12, .int (jI 1)), (11, .int (jI ((ev : Nat) : Int))), (0, .ref x0), (1, .ref ae), (2, .ref aq), (3, .ref av), (4, .ref au), (5, .ref aw), (6, .ref ay), (7, .ref ag), (8, .int (jI 2)), (9, .int (jI ((one : Nat) : Int))), (10, .int (jI ((two : Nat) : Int)))]) hx hb dL_isDone_485 hl (by decide) rfl (fun ls hl => ?_)
                refine n_bipush hx hb dL_isDone_487 (by decide) ?_
                refine lv_iload hx hb dL_isDone_489 (lv_at hl 10 rfl) ?_
                refine n_imul hx hb dL_isDone_491 ?_
                refine lv_aload_n hx hb dL_isDone_492 rfl (lv_at hl 12 rfl) ?_
                refine lv_iload hx hb dL_isDone_493 (lv_at hl 8 rfl) ?_
                refine n_bipush hx hb dL_isDone_495 (by decide) ?_
                refine n_iadd hx hb dL_isDone_497 ?_
                refine n_ialdv (i := ((15 * ev) + 14)) (v := (((gN ev) : Nat) : Int)) hx hb hK hP 0 0 rfl htI (by omega) (by omega) (Nat.le_of_ble_eq_true rfl) h14 dL_isDone_498 ?_
                refine n_iadd hx hb dL_isDone_499 ?_
                refine W.eq (g2 := F0 m 500 ls (.int (jI (((8 * ev + gN ev) : Nat) : Int)) :: [])) (congrArg (fun z : Int => F0 m 500 ls (.int (jI z) :: [])) (by omega)) ?_
                refine lv_istore (lv' := [(22, .int (jI (((8 * ev + gN ev) : Nat) : Int))), (21, .int (jI 1)), (20, .int (jI 1)), (19, .int (vI zr)), (18, .int (vI zz)), (17, .int (vI zj)), (16, .int (vI zh)), (15, .int (vI tt)), (14, .int (jI 1)), (13, .int (jI (((15 * ev) : Nat) : Int))), (12, .int (jI 1)), (11, .int (jI ((ev : Nat) : Int))), (0, .ref x0), (1, .ref ae), (2, .ref aq), (3, .ref av), (4, .ref au), (5, .ref aw), (6, .ref ay), (7, .ref ag), (8, .int (jI 2)), (9, .int (jI ((one : Nat) : Int))), (10, .int (jI ((two : Nat) : Int)))]) hx hb dL_isDone_500 hl (by decide) rfl (fun ls hl => ?_)
                refine lv_iload hx hb dL_isDone_502 (lv_at hl 1 rfl) ?_
                refine n_if_eq (tgt := 609) hx hb (by unfold r32; decide) dL_isDone_504 (by decide) (fun h504 => False.elim (by revert h504; decide)) (fun h504 => ?_)
                refine lv_aload_n hx hb dL_isDone_507 rfl (lv_at hl 14 rfl) ?_
                refine lv_iload hx hb dL_isDone_508 (lv_at hl 0 rfl) ?_
                refine lv_iload hx hb dL_isDone_510 (lv_at hl 6 rfl) ?_
                refine n_i2lZ hx hb dL_isDone_512 ?_
                refine n_bipush hx hb dL_isDone_513 (by decide) ?_
                refine n_lshlv hx hb dL_isDone_515 (by omega) ?_
                refine lv_ldc2 (v := jL (16)) hx hb hown k84 dL_isDone_516 ?_
                refine lv_aload_n hx hb dL_isDone_519 rfl (lv_at hl 13 rfl) ?_
                refine lv_iload hx hb dL_isDone_520 (lv_at hl 9 rfl) ?_
                refine n_bipush hx hb dL_isDone_522 (by decide) ?_
                refine n_iadd hx hb dL_isDone_524 ?_
                refine n_ialdv (i := ((15 * ev) + 13)) (v := (zv (gG ev))) hx hb hK hP 0 0 rfl htI (by omega) (by omega) (Nat.le_of_ble_eq_true rfl) h13 dL_isDone_525 ?_
                refine n_iconst hx hb dL_isDone_526 ?_
                refine n_iadd hx hb dL_isDone_527 ?_
                refine n_i2l hx hb dL_isDone_528 (by omega) (by omega) ?_
                refine n_lmul hx hb dL_isDone_529 ?_
                refine n_ladd hx hb dL_isDone_530 ?_
                refine lv_iload hx hb dL_isDone_531 (lv_at hl 7 rfl) ?_
                refine n_i2lZ hx hb dL_isDone_533 ?_
                refine n_ladd hx hb dL_isDone_534 ?_
                refine W.eq (g2 := F0 m 535 ls (.long (jL (zv zh * 4294967296 + (16 * (zv (gG ev) + 1) + zv tt))) :: [.int (jI (((8 * ev + gN ev) : Nat) : Int)), .ref aq])) (congrArg (fun z : Int => F0 m 535 ls (.long (jL z) :: [.int (jI (((8 * ev + gN ev) : Nat) : Int)), .ref aq])) (by omega)) ?_
                refine n_last (i := (8 * ev + gN ev)) hx hb hK hP hD hS 1 1 rfl htJ rfl (by omega) (Nat.le_of_ble_eq_true rfl) dL_isDone_535 (fun H locs hP hD hS => ?_)
                have hP : va_P D vwCl ((ae, .inl (cI, 45, .inl (fun i => jI (fe i)))) :: (aq, .inl (cJ, 16, .inr (.inl (fun i => jL ((va_up fq (8 * ev + gN ev) (zv zh * 4294967296 + (16 * (zv (gG ev) + 1) + zv tt))) i))))) :: (av, .inl (cJ, 16, .inr (.inl (fun i => jL (fv i))))) :: (au, .inl (cJ, 16, .inr (.inl (fun i => jL (fu i))))) :: (aw, .inl (cJ, 60, .inr (.inl (fun i => vL (fw i))))) :: (ay, .inl (cJ, 32, .inr (.inl (fun i => vL (fy i))))) :: (ag, .inl (cI, 2, .inl (fun i => jI ((fg i : Nat) : Int)))) :: (CW cI cE cG cM cS x0 q0 q1 qr (ms, es, gE, gM, gB, gT, gG, gN, gK, gD) κ)) H := hP
                have hD : va_D A ((ae, .inl (cI, 45, .inl (fun i => jI (fe i)))) :: (aq, .inl (cJ, 16, .inr (.inl (fun i => jL ((va_up fq (8 * ev + gN ev) (zv zh * 4294967296 + (16 * (zv (gG ev) + 1) + zv tt))) i))))) :: (av, .inl (cJ, 16, .inr (.inl (fun i => jL (fv i))))) :: (au, .inl (cJ, 16, .inr (.inl (fun i => jL (fu i))))) :: (aw, .inl (cJ, 60, .inr (.inl (fun i => vL (fw i))))) :: (ay, .inl (cJ, 32, .inr (.inl (fun i => vL (fy i))))) :: (ag, .inl (cI, 2, .inl (fun i => jI ((fg i : Nat) : Int)))) :: (CW cI cE cG cM cS x0 q0 q1 qr (ms, es, gE, gM, gB, gT, gG, gN, gK, gD) κ)) := hD
                refine lv_aload_n hx hb dL_isDone_536 rfl (lv_at hl 15 rfl) ?_
                refine lv_iload hx hb dL_isDone_537 (lv_at hl 0 rfl) ?_
                refine lv_iload hx hb dL_isDone_539 (lv_at hl 5 rfl) ?_
                refine n_i2lZ hx hb dL_isDone_541 ?_
                refine n_bipush hx hb dL_isDone_542 (by decide) ?_
                refine n_lshlv hx hb dL_isDone_544 (by omega) ?_
                refine lv_iload hx hb dL_isDone_545 (lv_at hl 4 rfl) ?_
                refine n_i2lZ hx hb dL_isDone_547 ?_
                refine n_ladd hx hb dL_isDone_548 ?_
                refine n_last (i := (8 * ev + gN ev)) hx hb hK hP hD hS 2 1 rfl htJ rfl (by omega) (Nat.le_of_ble_eq_true rfl) dL_isDone_549 (fun H locs hP hD hS => ?_)
                have hP : va_P D vwCl ((ae, .inl (cI, 45, .inl (fun i => jI (fe i)))) :: (aq, .inl (cJ, 16, .inr (.inl (fun i => jL ((va_up fq (8 * ev + gN ev) (zv zh * 4294967296 + (16 * (zv (gG ev) + 1) + zv tt))) i))))) :: (av, .inl (cJ, 16, .inr (.inl (fun i => jL ((va_up fv (8 * ev + gN ev) ((zv zj * 4294967296) + zv zz)) i))))) :: (au, .inl (cJ, 16, .inr (.inl (fun i => jL (fu i))))) :: (aw, .inl (cJ, 60, .inr (.inl (fun i => vL (fw i))))) :: (ay, .inl (cJ, 32, .inr (.inl (fun i => vL (fy i))))) :: (ag, .inl (cI, 2, .inl (fun i => jI ((fg i : Nat) : Int)))) :: (CW cI cE cG cM cS x0 q0 q1 qr (ms, es, gE, gM, gB, gT, gG, gN, gK, gD) κ)) H := hP
                have hD : va_D A ((ae, .inl (cI, 45, .inl (fun i => jI (fe i)))) :: (aq, .inl (cJ, 16, .inr (.inl (fun i => jL ((va_up fq (8 * ev + gN ev) (zv zh * 4294967296 + (16 * (zv (gG ev) + 1) + zv tt))) i))))) :: (av, .inl (cJ, 16, .inr (.inl (fun i => jL ((va_up fv (8 * ev + gN ev) ((zv zj * 4294967296) + zv zz)) i))))) :: (au, .inl (cJ, 16, .inr (.inl (fun i => jL (fu i))))) :: (aw, .inl (cJ, 60, .inr (.inl (fun i => vL (fw i))))) :: (ay, .inl (cJ, 32, .inr (.inl (fun i => vL (fy i))))) :: (ag, .inl (cI, 2, .inl (fun i => jI ((fg i : Nat) : Int)))) :: (CW cI cE cG cM cS x0 q0 q1 qr (ms, es, gE, gM, gB, gT, gG, gN, gK, gD) κ)) := hD
                refine lv_aload hx hb dL_isDone_550 (lv_at hl 16 rfl) ?_
                refine lv_iload hx hb dL_isDone_552 (lv_at hl 0 rfl) ?_
                refine lv_ldc2 (v := jL (2)) hx hb hown k86 dL_isDone_554 ?_
                refine lv_iload hx hb dL_isDone_557 (lv_at hl 3 rfl) ?_
                refine n_i2lZ hx hb dL_isDone_559 ?_
                refine n_lmul hx hb dL_isDone_560 ?_
                refine n_last (i := (8 * ev + gN ev)) hx hb hK hP hD hS 3 1 rfl htJ rfl (by omega) (Nat.le_of_ble_eq_true rfl) dL_isDone_561 (fun H locs hP hD hS => ?_)
                have hP : va_P D vwCl ((ae, .inl (cI, 45, .inl (fun i => jI (fe i)))) :: (aq, .inl (cJ, 16, .inr (.inl (fun i => jL ((va_up fq (8 * ev + gN ev) (zv zh * 4294967296 + (16 * (zv (gG ev) + 1) + zv tt))) i))))) :: (av, .inl (cJ, 16, .inr (.inl (fun i => jL ((va_up fv (8 * ev + gN ev) ((zv zj * 4294967296) + zv zz)) i))))) :: (au, .inl (cJ, 16, .inr (.inl (fun i => jL ((va_up fu (8 * ev + gN ev) (2 * zv zr)) i))))) :: (aw, .inl (cJ, 60, .inr (.inl (fun i => vL (fw i))))) :: (ay, .inl (cJ, 32, .inr (.inl (fun i => vL (fy i))))) :: (ag, .inl (cI, 2, .inl (fun i => jI ((fg i : Nat) : Int)))) :: (CW cI cE cG cM cS x0 q0 q1 qr (ms, es, gE, gM, gB, gT, gG, gN, gK, gD) κ)) H := hP
                have hD : va_D A ((ae, .inl (cI, 45, .inl (fun i => jI (fe i)))) :: (aq, .inl (cJ, 16, .inr (.inl (fun i => jL ((va_up fq (8 * ev + gN ev) (zv zh * 4294967296 + (16 * (zv (gG ev) + 1) + zv tt))) i))))) :: (av, .inl (cJ, 16, .inr (.inl (fun i => jL ((va_up fv (8 * ev + gN ev) ((zv zj * 4294967296) + zv zz)) i))))) :: (au, .inl (cJ, 16, .inr (.inl (fun i => jL ((va_up fu (8 * ev + gN ev) (2 * zv zr)) i))))) :: (aw, .inl (cJ, 60, .inr (.inl (fun i => vL (fw i))))) :: (ay, .inl (cJ, 32, .inr (.inl (fun i => vL (fy i))))) :: (ag, .inl (cI, 2, .inl (fun i => jI ((fg i : Nat) : Int)))) :: (CW cI cE cG cM cS x0 q0 q1 qr (ms, es, gE, gM, gB, gT, gG, gN, gK, gD) κ)) := hD
                refine lv_aload_n hx hb dL_isDone_562 rfl (lv_at hl 13 rfl) ?_
                refine lv_iload hx hb dL_isDone_563 (lv_at hl 9 rfl) ?_
                refine n_bipush hx hb dL_isDone_565 (by decide) ?_
                refine n_iadd hx hb dL_isDone_567 ?_
                refine lv_dup2_11 hx hb dL_isDone_568 rfl rfl ?_
                refine n_ialdv (i := ((15 * ev) + 14)) (v := (((gN ev) : Nat) : Int)) hx hb hK hP 0 0 rfl htI (by omega) (by omega) (Nat.le_of_ble_eq_true rfl) h14 dL_isDone_569 ?_
                refine n_iconst hx hb dL_isDone_570 ?_
                refine n_iadd hx hb dL_isDone_571 ?_
                refine W.eq (g2 := F0 m 572 ls (.int (jI (((gN ev + 1) : Nat) : Int)) :: [.int (jI ((((15 * ev) : Nat) : Int) + 14)), .ref ae])) (congrArg (fun z : Int => F0 m 572 ls (.int (jI z) :: [.int (jI ((((15 * ev) : Nat) : Int) + 14)), .ref ae])) (by omega)) ?_
                refine n_iast (i := (15 * ev + 14)) hx hb hK hP hD hS 0 0 rfl htI (by omega) (by omega) (Nat.le_of_ble_eq_true rfl) dL_isDone_572 (fun H locs hP hD hS => ?_)
                have hP : va_P D vwCl ((ae, .inl (cI, 45, .inl (fun i => jI ((va_up fe (15 * ev + 14) (((gN ev + 1) : Nat) : Int)) i)))) :: (aq, .inl (cJ, 16, .inr (.inl (fun i => jL ((va_up fq (8 * ev + gN ev) (zv zh * 4294967296 + (16 * (zv (gG ev) + 1) + zv tt))) i))))) :: (av, .inl (cJ, 16, .inr (.inl (fun i => jL ((va_up fv (8 * ev + gN ev) ((zv zj * 4294967296) + zv zz)) i))))) :: (au, .inl (cJ, 16, .inr (.inl (fun i => jL ((va_up fu (8 * ev + gN ev) (2 * zv zr)) i))))) :: (aw, .inl (cJ, 60, .inr (.inl (fun i => vL (fw i))))) :: (ay, .inl (cJ, 32, .inr (.inl (fun i => vL (fy i))))) :: (ag, .inl (cI, 2, .inl (fun i => jI ((fg i : Nat) : Int)))) :: (CW cI cE cG cM cS x0 q0 q1 qr (ms, es, gE, gM, gB, gT, gG, gN, gK, gD) κ)) H := hP
                have hD : va_D A ((ae, .inl (cI, 45, .inl (fun i => jI ((va_up fe (15 * ev + 14) (((gN ev + 1) : Nat) : Int)) i)))) :: (aq, .inl (cJ, 16, .inr (.inl (fun i => jL ((va_up fq (8 * ev + gN ev) (zv zh * 4294967296 + (16 * (zv (gG ev) + 1) + zv tt))) i))))) :: (av, .inl (cJ, 16, .inr (.inl (fun i => jL ((va_up fv (8 * ev + gN ev) ((zv zj * 4294967296) + zv zz)) i))))) :: (au, .inl (cJ, 16, .inr (.inl (fun i => jL ((va_up fu (8 * ev + gN ev) (2 * zv zr)) i))))) :: (aw, .inl (cJ, 60, .inr (.inl (fun i => vL (fw i))))) :: (ay, .inl (cJ, 32, .inr (.inl (fun i => vL (fy i))))) :: (ag, .inl (cI, 2, .inl (fun i => jI ((fg i : Nat) : Int)))) :: (CW cI cE cG cM cS x0 q0 q1 qr (ms, es, gE, gM, gB, gT, gG, gN, gK, gD) κ)) := hD
                refine lv_aload_n hx hb dL_isDone_573 rfl (lv_at hl 13 rfl) ?_
                refine lv_aload_n hx hb dL_isDone_574 rfl (lv_at hl 14 rfl) ?_
                refine lv_aload_n hx hb dL_isDone_575 rfl (lv_at hl 15 rfl) ?_
                refine lv_aload hx hb dL_isDone_576 (lv_at hl 16 rfl) ?_
                refine lv_aload hx hb dL_isDone_578 (lv_at hl 17 rfl) ?_
                refine lv_aload hx hb dL_isDone_580 (lv_at hl 18 rfl) ?_
                refine lv_iload hx hb dL_isDone_582 (lv_at hl 11 rfl) ?_
                have hMg := hMW.told (tt := tt) (h0 := zh) (h1 := zj) (zz := zz) (rr := zr) (th := gG ev) (hZ8 (gN ev) (Nat.le_refl _) (by omega))
                have hEg := hEW.count (N' := gN ev + 1) (x := ((gN ev + 1 : Nat) : Int)) rfl
                have htmg : ∀ k, k < gN ev + 1 → ((told6 gK (6 * (30 * ev + gN ev)) tt zh zj zz zr (gG ev)) (6 * (30 * ev + k) + 0)).val ≤ gT ev := by
                  intro k hk9
                  by_cases hkn : k = gN ev
                  · rw [hkn, told_n (by omega)]; show (tt : Zp).val ≤ gT ev; unfold zv at ett; omega
                  · rw [told_o (by omega)]; exact (hI.2.2.1 ev hev).2.2.2.2 k (by omega)
                have ctg := c_L_goes l D tys htI htJ ae aq av au aw ay ev (va_up fe (15 * ev + 14) (((gN ev + 1) : Nat) : Int)) (va_up fq (8 * ev + gN ev) (zv zh * 4294967296 + (16 * (zv (gG ev) + 1) + zv tt))) (va_up fv (8 * ev + gN ev) ((zv zj * 4294967296) + zv zz)) (va_up fu (8 * ev + gN ev) (2 * zv zr)) fw fy (fun i => gM (7 * ev + i)) (s5at gB ev) (fun k c => (told6 gK (6 * (30 * ev + gN ev)) tt zh zj zz zr (gG ev)) (6 * (30 * ev + k) + c)) (fun k => gD (30 * ev + k)) (gT ev) (gN ev + 1) (by omega) (by omega) (by omega) hEg hMg htmg
                refine k_goE (va_runS (As := [.ref ae, .ref aq, .ref av, .ref au, .ref aw, .ref ay, .int (jI ((ev : Nat) : Int))]) (rest := []) ⟨hx, hb, hml, hown, hts⟩ (ctg.2 _) (va_cwS 7 hts gL_isDone_L_goes rfl rfl rfl (by decide +kernel) ⟨(Nat.le_of_ble_eq_true rfl), (Nat.le_of_ble_eq_true rfl)⟩) (k_pre hK hP hD (is := [0, 1, 2, 3, 4, 5]) rfl rfl) rfl rfl hl.1 rfl (lv_room (Nat.le_of_ble_eq_true rfl)) dL_isDone_584 ⟨(Nat.le_of_ble_eq_true rfl), (Nat.le_of_ble_eq_true rfl)⟩) ctg.1 hP hD hS hA [0, 1, 2, 3, 4, 5] rfl rfl (fun r u H locs hgo hP hD hS => ?_)
                obtain ⟨fw2, fy2⟩ := u
                have hP : va_P D vwCl ((ae, .inl (cI, 45, .inl (fun i => jI ((va_up fe (15 * ev + 14) (((gN ev + 1) : Nat) : Int)) i)))) :: (aq, .inl (cJ, 16, .inr (.inl (fun i => jL ((va_up fq (8 * ev + gN ev) (zv zh * 4294967296 + (16 * (zv (gG ev) + 1) + zv tt))) i))))) :: (av, .inl (cJ, 16, .inr (.inl (fun i => jL ((va_up fv (8 * ev + gN ev) ((zv zj * 4294967296) + zv zz)) i))))) :: (au, .inl (cJ, 16, .inr (.inl (fun i => jL ((va_up fu (8 * ev + gN ev) (2 * zv zr)) i))))) :: (aw, .inl (cJ, 60, .inr (.inl (fun i => vL (fw2 i))))) :: (ay, .inl (cJ, 32, .inr (.inl (fun i => vL (fy2 i))))) :: (ag, .inl (cI, 2, .inl (fun i => jI ((fg i : Nat) : Int)))) :: (CW cI cE cG cM cS x0 q0 q1 qr (ms, es, gE, gM, gB, gT, gG, gN, gK, gD) κ)) H := hP
                have hD : va_D A ((ae, .inl (cI, 45, .inl (fun i => jI ((va_up fe (15 * ev + 14) (((gN ev + 1) : Nat) : Int)) i)))) :: (aq, .inl (cJ, 16, .inr (.inl (fun i => jL ((va_up fq (8 * ev + gN ev) (zv zh * 4294967296 + (16 * (zv (gG ev) + 1) + zv tt))) i))))) :: (av, .inl (cJ, 16, .inr (.inl (fun i => jL ((va_up fv (8 * ev + gN ev) ((zv zj * 4294967296) + zv zz)) i))))) :: (au, .inl (cJ, 16, .inr (.inl (fun i => jL ((va_up fu (8 * ev + gN ev) (2 * zv zr)) i))))) :: (aw, .inl (cJ, 60, .inr (.inl (fun i => vL (fw2 i))))) :: (ay, .inl (cJ, 32, .inr (.inl (fun i => vL (fy2 i))))) :: (ag, .inl (cI, 2, .inl (fun i => jI ((fg i : Nat) : Int)))) :: (CW cI cE cG cM cS x0 q0 q1 qr (ms, es, gE, gM, gB, gT, gG, gN, gK, gD) κ)) := hD
                rcases hgo with ⟨hbn, hr9⟩ | ⟨hr9, hbs, -, -, -⟩
                · have hr9 : r = jI 0 := hr9
                  subst hr9
                  refine lv_istore (lv' := [(21, .int (jI 0)), (22, .int (jI (((8 * ev + gN ev) : Nat) : Int))), (20, .int (jI 1)), (19, .int (vI zr)), (18, .int (vI zz)), (17, .int (vI zj)), (16, .int (vI zh)), (15, .int (vI tt)), (14, .int (jI 1)), (13, .int (jI (((15 * ev) : Nat) : Int))), (12, .int (jI 1)), (11, .int (jI ((ev : Nat) : Int))), (0, .ref x0), (1, .ref ae), (2, .ref aq), (3, .ref av), (4, .ref au), (5, .ref aw), (6, .ref ay), (7, .ref ag), (8, .int (jI 2)), (9, .int (jI ((one : Nat) : Int))), (10, .int (jI ((two : Nat) : Int)))]) hx hb dL_isDone_587 hl (by decide) rfl (fun ls hl => ?_)
                  refine lv_aload_n hx hb dL_isDone_589 rfl (lv_at hl 13 rfl) ?_
                  refine lv_iload hx hb dL_isDone_590 (lv_at hl 9 rfl) ?_
                  refine n_bipush hx hb dL_isDone_592 (by decide) ?_
                  refine n_iadd hx hb dL_isDone_594 ?_
                  refine lv_dup2_11 hx hb dL_isDone_595 rfl rfl ?_
                  refine n_ialdv (i := ((15 * ev) + 14)) (v := (((gN ev + 1) : Nat) : Int)) hx hb hK hP 0 0 rfl htI (by omega) (by omega) (Nat.le_of_ble_eq_true rfl) (up_s _ _ _) dL_isDone_596 ?_
                  refine lv_iload hx hb dL_isDone_597 (lv_at hl 0 rfl) ?_
                  refine n_if_eq (tgt := 606) hx hb (by unfold r32; decide) dL_isDone_599 (by decide) (fun h599 => ?_) (fun h599 => False.elim (by revert h599; decide))
                  refine n_iconst hx hb dL_isDone_606 ?_
                  refine n_isub hx hb dL_isDone_607 ?_
                  refine W.eq (g2 := F0 m 608 ls (.int (jI (((gN ev) : Nat) : Int)) :: [.int (jI ((((15 * ev) : Nat) : Int) + 14)), .ref ae])) (congrArg (fun z : Int => F0 m 608 ls (.int (jI z) :: [.int (jI ((((15 * ev) : Nat) : Int) + 14)), .ref ae])) (by omega)) ?_
                  refine n_iast (i := (15 * ev + 14)) hx hb hK hP hD hS 0 0 rfl htI (by omega) (by omega) (Nat.le_of_ble_eq_true rfl) dL_isDone_608 (fun H locs hP hD hS => ?_)
                  have hP : va_P D vwCl ((ae, .inl (cI, 45, .inl (fun i => jI ((va_up (va_up fe (15 * ev + 14) (((gN ev + 1) : Nat) : Int)) (15 * ev + 14) (((gN ev) : Nat) : Int)) i)))) :: (aq, .inl (cJ, 16, .inr (.inl (fun i => jL ((va_up fq (8 * ev + gN ev) (zv zh * 4294967296 + (16 * (zv (gG ev) + 1) + zv tt))) i))))) :: (av, .inl (cJ, 16, .inr (.inl (fun i => jL ((va_up fv (8 * ev + gN ev) ((zv zj * 4294967296) + zv zz)) i))))) :: (au, .inl (cJ, 16, .inr (.inl (fun i => jL ((va_up fu (8 * ev + gN ev) (2 * zv zr)) i))))) :: (aw, .inl (cJ, 60, .inr (.inl (fun i => vL (fw2 i))))) :: (ay, .inl (cJ, 32, .inr (.inl (fun i => vL (fy2 i))))) :: (ag, .inl (cI, 2, .inl (fun i => jI ((fg i : Nat) : Int)))) :: (CW cI cE cG cM cS x0 q0 q1 qr (ms, es, gE, gM, gB, gT, gG, gN, gK, gD) κ)) H := hP
                  have hD : va_D A ((ae, .inl (cI, 45, .inl (fun i => jI ((va_up (va_up fe (15 * ev + 14) (((gN ev + 1) : Nat) : Int)) (15 * ev + 14) (((gN ev) : Nat) : Int)) i)))) :: (aq, .inl (cJ, 16, .inr (.inl (fun i => jL ((va_up fq (8 * ev + gN ev) (zv zh * 4294967296 + (16 * (zv (gG ev) + 1) + zv tt))) i))))) :: (av, .inl (cJ, 16, .inr (.inl (fun i => jL ((va_up fv (8 * ev + gN ev) ((zv zj * 4294967296) + zv zz)) i))))) :: (au, .inl (cJ, 16, .inr (.inl (fun i => jL ((va_up fu (8 * ev + gN ev) (2 * zv zr)) i))))) :: (aw, .inl (cJ, 60, .inr (.inl (fun i => vL (fw2 i))))) :: (ay, .inl (cJ, 32, .inr (.inl (fun i => vL (fy2 i))))) :: (ag, .inl (cI, 2, .inl (fun i => jI ((fg i : Nat) : Int)))) :: (CW cI cE cG cM cS x0 q0 q1 qr (ms, es, gE, gM, gB, gT, gG, gN, gK, gD) κ)) := hD
                  refine lv_iload hx hb dL_isDone_609 (lv_at hl 10 rfl) ?_
                  refine n_if_ne (tgt := 619) hx hb (by unfold r32; decide) dL_isDone_611 (by decide) (fun h611 => ?_) (fun h611 => False.elim (by revert h611; decide))
                  refine lv_iload hx hb dL_isDone_619 (lv_at hl 2 rfl) ?_
                  refine n_if_ne (tgt := 629) hx hb (by unfold r32; decide) dL_isDone_621 (by decide) (fun h621 => ?_) (fun h621 => False.elim (by revert h621; decide))
                  refine lv_iload hx hb dL_isDone_629 (lv_at hl 0 rfl) ?_
                  refine n_if_eq (tgt := 642) hx hb (by unfold r32; decide) dL_isDone_631 (by decide) (fun h631 => ?_) (fun h631 => False.elim (by revert h631; decide))
                  refine n_iconst hx hb dL_isDone_642 ?_
                  refine lv_istore (lv' := [(23, .int (jI (-1))), (21, .int (jI 0)), (22, .int (jI (((8 * ev + gN ev) : Nat) : Int))), (20, .int (jI 1)), (19, .int (vI zr)), (18, .int (vI zz)), (17, .int (vI zj)), (16, .int (vI zh)), (15, .int (vI tt)), (14, .int (jI 1)), (13, .int (jI (((15 * ev) : Nat) : Int))), (12, .int (jI 1)), (11, .int (jI ((ev : Nat) : Int))), (0, .ref x0), (1, .ref ae), (2, .ref aq), (3, .ref av), (4, .ref au), (5, .ref aw), (6, .ref ay), (7, .ref ag), (8, .int (jI 2)), (9, .int (jI ((one : Nat) : Int))), (10, .int (jI ((two : Nat) : Int)))]) hx hb dL_isDone_643 hl (by decide) rfl (fun ls hl => ?_)
                  refine lv_iload hx hb dL_isDone_645 (lv_at hl 9 rfl) ?_
                  refine n_if_eq (tgt := 671) hx hb (by unfold r32; decide) dL_isDone_647 (by decide) (fun h647 => False.elim (by revert h647; decide)) (fun h647 => ?_)
                  refine lv_aload_n hx hb dL_isDone_650 rfl (lv_at hl 13 rfl) ?_
                  refine n_bipush hx hb dL_isDone_651 (by decide) ?_
                  refine lv_iload hx hb dL_isDone_653 (lv_at hl 12 rfl) ?_
                  refine lv_iload hx hb dL_isDone_655 (lv_at hl 8 rfl) ?_
                  refine lv_iload hx hb dL_isDone_657 (lv_at hl 7 rfl) ?_
                  refine lv_iload hx hb dL_isDone_659 (lv_at hl 6 rfl) ?_
                  refine lv_iload hx hb dL_isDone_661 (lv_at hl 5 rfl) ?_
                  refine lv_iload hx hb dL_isDone_663 (lv_at hl 4 rfl) ?_
                  have hb9 : beh (fun i => gM (7 * ev + i)) (s5at gB ev) (fun k c => (told6 gK (6 * (30 * ev + gN ev)) tt zh zj zz zr (gG ev)) (6 * (30 * ev + k) + c)) (fun k => gD (30 * ev + k)) ((va_up gN ev (gN ev + 1)) ev) (gT ev) = none := by rw [up_s]; exact hbn
                  have hC := d_late4 l hl9 D tys htI htE htM htS htG x0 q0 q1 qr ms es gE gM gB gT gG gN gK gD κ hI ev hev tt zh zj zz zr (by omega) (by omega) hb9
                  have hW := w_does_late l D tys x0 q0 q1 qr ms es gE gM gB gT gG gN gK gD κ (jI ((ev : Nat) : Int)) (vI tt) (vI zh) (vI zj) (vI zz) (vI zr) (ms, es, gE, gM, gB, gT, gG, va_up (va_up gN ev (gN ev + 1)) ev (gN ev), (told6 gK (6 * (30 * ev + gN ev)) tt zh zj zz zr (gG ev)), gD) 3 _ hC
                  have hP : va_P D vwCl ((CW cI cE cG cM cS x0 q0 q1 qr (ms, es, gE, gM, gB, gT, gG, gN, gK, gD) κ) ++ [(ae, .inl (cI, 45, .inl (fun i => jI ((va_up (va_up fe (15 * ev + 14) (((gN ev + 1) : Nat) : Int)) (15 * ev + 14) (((gN ev) : Nat) : Int)) i)))), (aq, .inl (cJ, 16, .inr (.inl (fun i => jL ((va_up fq (8 * ev + gN ev) (zv zh * 4294967296 + (16 * (zv (gG ev) + 1) + zv tt))) i))))), (av, .inl (cJ, 16, .inr (.inl (fun i => jL ((va_up fv (8 * ev + gN ev) ((zv zj * 4294967296) + zv zz)) i))))), (au, .inl (cJ, 16, .inr (.inl (fun i => jL ((va_up fu (8 * ev + gN ev) (2 * zv zr)) i))))), (aw, .inl (cJ, 60, .inr (.inl (fun i => vL (fw2 i))))), (ay, .inl (cJ, 32, .inr (.inl (fun i => vL (fy2 i))))), (ag, .inl (cI, 2, .inl (fun i => jI ((fg i : Nat) : Int))))]) H := hP.perm (List.perm_append_comm (l₁ := ([(ae, .inl (cI, 45, .inl (fun i => jI ((va_up (va_up fe (15 * ev + 14) (((gN ev + 1) : Nat) : Int)) (15 * ev + 14) (((gN ev) : Nat) : Int)) i)))), (aq, .inl (cJ, 16, .inr (.inl (fun i => jL ((va_up fq (8 * ev + gN ev) (zv zh * 4294967296 + (16 * (zv (gG ev) + 1) + zv tt))) i))))), (av, .inl (cJ, 16, .inr (.inl (fun i => jL ((va_up fv (8 * ev + gN ev) ((zv zj * 4294967296) + zv zz)) i))))), (au, .inl (cJ, 16, .inr (.inl (fun i => jL ((va_up fu (8 * ev + gN ev) (2 * zv zr)) i))))), (aw, .inl (cJ, 60, .inr (.inl (fun i => vL (fw2 i))))), (ay, .inl (cJ, 32, .inr (.inl (fun i => vL (fy2 i))))), (ag, .inl (cI, 2, .inl (fun i => jI ((fg i : Nat) : Int))))] : va_W)) (l₂ := (CW cI cE cG cM cS x0 q0 q1 qr (ms, es, gE, gM, gB, gT, gG, gN, gK, gD) κ)))
                  have hD : va_D A ((CW cI cE cG cM cS x0 q0 q1 qr (ms, es, gE, gM, gB, gT, gG, gN, gK, gD) κ) ++ [(ae, .inl (cI, 45, .inl (fun i => jI ((va_up (va_up fe (15 * ev + 14) (((gN ev + 1) : Nat) : Int)) (15 * ev + 14) (((gN ev) : Nat) : Int)) i)))), (aq, .inl (cJ, 16, .inr (.inl (fun i => jL ((va_up fq (8 * ev + gN ev) (zv zh * 4294967296 + (16 * (zv (gG ev) + 1) + zv tt))) i))))), (av, .inl (cJ, 16, .inr (.inl (fun i => jL ((va_up fv (8 * ev + gN ev) ((zv zj * 4294967296) + zv zz)) i))))), (au, .inl (cJ, 16, .inr (.inl (fun i => jL ((va_up fu (8 * ev + gN ev) (2 * zv zr)) i))))), (aw, .inl (cJ, 60, .inr (.inl (fun i => vL (fw2 i))))), (ay, .inl (cJ, 32, .inr (.inl (fun i => vL (fy2 i))))), (ag, .inl (cI, 2, .inl (fun i => jI ((fg i : Nat) : Int))))]) := hD.perm (List.perm_append_comm (l₁ := ([(ae, .inl (cI, 45, .inl (fun i => jI ((va_up (va_up fe (15 * ev + 14) (((gN ev + 1) : Nat) : Int)) (15 * ev + 14) (((gN ev) : Nat) : Int)) i)))), (aq, .inl (cJ, 16, .inr (.inl (fun i => jL ((va_up fq (8 * ev + gN ev) (zv zh * 4294967296 + (16 * (zv (gG ev) + 1) + zv tt))) i))))), (av, .inl (cJ, 16, .inr (.inl (fun i => jL ((va_up fv (8 * ev + gN ev) ((zv zj * 4294967296) + zv zz)) i))))), (au, .inl (cJ, 16, .inr (.inl (fun i => jL ((va_up fu (8 * ev + gN ev) (2 * zv zr)) i))))), (aw, .inl (cJ, 60, .inr (.inl (fun i => vL (fw2 i))))), (ay, .inl (cJ, 32, .inr (.inl (fun i => vL (fy2 i))))), (ag, .inl (cI, 2, .inl (fun i => jI ((fg i : Nat) : Int))))] : va_W)) (l₂ := (CW cI cE cG cM cS x0 q0 q1 qr (ms, es, gE, gM, gB, gT, gG, gN, gK, gD) κ)))
                  refine a_goNI (vx_runSW (As := [.ref x0, .int (jI 6), .int (jI ((ev : Nat) : Int)), .int (vI tt), .int (vI zh), .int (vI zj), .int (vI zz), .int (vI zr)]) (rest := []) ⟨hx, hb, hml, hown, hts⟩ (hW _) (vx_cwSW 8 hts gL_isDone_L_does rfl rfl rfl (by decide +kernel) ⟨(Nat.le_of_ble_eq_true rfl), (Nat.le_of_ble_eq_true rfl)⟩) (c_pre hK hXK hZ hN hP hD hS hA) rfl rfl hl.1 rfl (lv_room (Nat.le_of_ble_eq_true rfl)) dL_isDone_665 ⟨(Nat.le_of_ble_eq_true rfl), (Nat.le_of_ble_eq_true rfl)⟩) hP hD hS hA (fun r κ2 H locs hpost hP hD hS => ?_)
                  obtain ⟨hr9, hI2⟩ := hpost
                  have hr9 : r = jI (-1) := hr9
                  subst hr9
                  have hP : va_P D vwCl ((CW cI cE cG cM cS x0 q0 q1 qr (ms, es, gE, gM, gB, gT, gG, va_up (va_up gN ev (gN ev + 1)) ev (gN ev), (told6 gK (6 * (30 * ev + gN ev)) tt zh zj zz zr (gG ev)), gD) κ2) ++ [(ae, .inl (cI, 45, .inl (fun i => jI ((va_up (va_up fe (15 * ev + 14) (((gN ev + 1) : Nat) : Int)) (15 * ev + 14) (((gN ev) : Nat) : Int)) i)))), (aq, .inl (cJ, 16, .inr (.inl (fun i => jL ((va_up fq (8 * ev + gN ev) (zv zh * 4294967296 + (16 * (zv (gG ev) + 1) + zv tt))) i))))), (av, .inl (cJ, 16, .inr (.inl (fun i => jL ((va_up fv (8 * ev + gN ev) ((zv zj * 4294967296) + zv zz)) i))))), (au, .inl (cJ, 16, .inr (.inl (fun i => jL ((va_up fu (8 * ev + gN ev) (2 * zv zr)) i))))), (aw, .inl (cJ, 60, .inr (.inl (fun i => vL (fw2 i))))), (ay, .inl (cJ, 32, .inr (.inl (fun i => vL (fy2 i))))), (ag, .inl (cI, 2, .inl (fun i => jI ((fg i : Nat) : Int))))]) H := hP
                  have hD : va_D A ((CW cI cE cG cM cS x0 q0 q1 qr (ms, es, gE, gM, gB, gT, gG, va_up (va_up gN ev (gN ev + 1)) ev (gN ev), (told6 gK (6 * (30 * ev + gN ev)) tt zh zj zz zr (gG ev)), gD) κ2) ++ [(ae, .inl (cI, 45, .inl (fun i => jI ((va_up (va_up fe (15 * ev + 14) (((gN ev + 1) : Nat) : Int)) (15 * ev + 14) (((gN ev) : Nat) : Int)) i)))), (aq, .inl (cJ, 16, .inr (.inl (fun i => jL ((va_up fq (8 * ev + gN ev) (zv zh * 4294967296 + (16 * (zv (gG ev) + 1) + zv tt))) i))))), (av, .inl (cJ, 16, .inr (.inl (fun i => jL ((va_up fv (8 * ev + gN ev) ((zv zj * 4294967296) + zv zz)) i))))), (au, .inl (cJ, 16, .inr (.inl (fun i => jL ((va_up fu (8 * ev + gN ev) (2 * zv zr)) i))))), (aw, .inl (cJ, 60, .inr (.inl (fun i => vL (fw2 i))))), (ay, .inl (cJ, 32, .inr (.inl (fun i => vL (fy2 i))))), (ag, .inl (cI, 2, .inl (fun i => jI ((fg i : Nat) : Int))))]) := hD
                  have hP : va_P D vwCl ((ae, .inl (cI, 45, .inl (fun i => jI ((va_up (va_up fe (15 * ev + 14) (((gN ev + 1) : Nat) : Int)) (15 * ev + 14) (((gN ev) : Nat) : Int)) i)))) :: (aq, .inl (cJ, 16, .inr (.inl (fun i => jL ((va_up fq (8 * ev + gN ev) (zv zh * 4294967296 + (16 * (zv (gG ev) + 1) + zv tt))) i))))) :: (av, .inl (cJ, 16, .inr (.inl (fun i => jL ((va_up fv (8 * ev + gN ev) ((zv zj * 4294967296) + zv zz)) i))))) :: (au, .inl (cJ, 16, .inr (.inl (fun i => jL ((va_up fu (8 * ev + gN ev) (2 * zv zr)) i))))) :: (aw, .inl (cJ, 60, .inr (.inl (fun i => vL (fw2 i))))) :: (ay, .inl (cJ, 32, .inr (.inl (fun i => vL (fy2 i))))) :: (ag, .inl (cI, 2, .inl (fun i => jI ((fg i : Nat) : Int)))) :: (CW cI cE cG cM cS x0 q0 q1 qr (ms, es, gE, gM, gB, gT, gG, va_up (va_up gN ev (gN ev + 1)) ev (gN ev), (told6 gK (6 * (30 * ev + gN ev)) tt zh zj zz zr (gG ev)), gD) κ2)) H := hP.perm (List.perm_append_comm (l₁ := (CW cI cE cG cM cS x0 q0 q1 qr (ms, es, gE, gM, gB, gT, gG, va_up (va_up gN ev (gN ev + 1)) ev (gN ev), (told6 gK (6 * (30 * ev + gN ev)) tt zh zj zz zr (gG ev)), gD) κ2)) (l₂ := ([(ae, .inl (cI, 45, .inl (fun i => jI ((va_up (va_up fe (15 * ev + 14) (((gN ev + 1) : Nat) : Int)) (15 * ev + 14) (((gN ev) : Nat) : Int)) i)))), (aq, .inl (cJ, 16, .inr (.inl (fun i => jL ((va_up fq (8 * ev + gN ev) (zv zh * 4294967296 + (16 * (zv (gG ev) + 1) + zv tt))) i))))), (av, .inl (cJ, 16, .inr (.inl (fun i => jL ((va_up fv (8 * ev + gN ev) ((zv zj * 4294967296) + zv zz)) i))))), (au, .inl (cJ, 16, .inr (.inl (fun i => jL ((va_up fu (8 * ev + gN ev) (2 * zv zr)) i))))), (aw, .inl (cJ, 60, .inr (.inl (fun i => vL (fw2 i))))), (ay, .inl (cJ, 32, .inr (.inl (fun i => vL (fy2 i))))), (ag, .inl (cI, 2, .inl (fun i => jI ((fg i : Nat) : Int))))] : va_W)))
                  have hD : va_D A ((ae, .inl (cI, 45, .inl (fun i => jI ((va_up (va_up fe (15 * ev + 14) (((gN ev + 1) : Nat) : Int)) (15 * ev + 14) (((gN ev) : Nat) : Int)) i)))) :: (aq, .inl (cJ, 16, .inr (.inl (fun i => jL ((va_up fq (8 * ev + gN ev) (zv zh * 4294967296 + (16 * (zv (gG ev) + 1) + zv tt))) i))))) :: (av, .inl (cJ, 16, .inr (.inl (fun i => jL ((va_up fv (8 * ev + gN ev) ((zv zj * 4294967296) + zv zz)) i))))) :: (au, .inl (cJ, 16, .inr (.inl (fun i => jL ((va_up fu (8 * ev + gN ev) (2 * zv zr)) i))))) :: (aw, .inl (cJ, 60, .inr (.inl (fun i => vL (fw2 i))))) :: (ay, .inl (cJ, 32, .inr (.inl (fun i => vL (fy2 i))))) :: (ag, .inl (cI, 2, .inl (fun i => jI ((fg i : Nat) : Int)))) :: (CW cI cE cG cM cS x0 q0 q1 qr (ms, es, gE, gM, gB, gT, gG, va_up (va_up gN ev (gN ev + 1)) ev (gN ev), (told6 gK (6 * (30 * ev + gN ev)) tt zh zj zz zr (gG ev)), gD) κ2)) := hD.perm (List.perm_append_comm (l₁ := (CW cI cE cG cM cS x0 q0 q1 qr (ms, es, gE, gM, gB, gT, gG, va_up (va_up gN ev (gN ev + 1)) ev (gN ev), (told6 gK (6 * (30 * ev + gN ev)) tt zh zj zz zr (gG ev)), gD) κ2)) (l₂ := ([(ae, .inl (cI, 45, .inl (fun i => jI ((va_up (va_up fe (15 * ev + 14) (((gN ev + 1) : Nat) : Int)) (15 * ev + 14) (((gN ev) : Nat) : Int)) i)))), (aq, .inl (cJ, 16, .inr (.inl (fun i => jL ((va_up fq (8 * ev + gN ev) (zv zh * 4294967296 + (16 * (zv (gG ev) + 1) + zv tt))) i))))), (av, .inl (cJ, 16, .inr (.inl (fun i => jL ((va_up fv (8 * ev + gN ev) ((zv zj * 4294967296) + zv zz)) i))))), (au, .inl (cJ, 16, .inr (.inl (fun i => jL ((va_up fu (8 * ev + gN ev) (2 * zv zr)) i))))), (aw, .inl (cJ, 60, .inr (.inl (fun i => vL (fw2 i))))), (ay, .inl (cJ, 32, .inr (.inl (fun i => vL (fy2 i))))), (ag, .inl (cI, 2, .inl (fun i => jI ((fg i : Nat) : Int))))] : va_W)))
                  refine lv_goto (tgt := 687) hx hb dL_isDone_668 (by decide) ?_
                  refine lv_iload hx hb dL_isDone_687 (lv_at hl 0 rfl) ?_
                  refine n_icmp_ne (tgt := 696) hx hb (by unfold r32; omega) (by unfold r32; omega) dL_isDone_689 (by decide) (fun h689 => False.elim (h689 rfl)) (fun h689 => ?_)
                  refine n_iconst hx hb dL_isDone_692 ?_
                  refine lv_goto (tgt := 697) hx hb dL_isDone_693 (by decide) ?_
                  refine W.widen (k := 228) (n := 867) (Nat.le_of_ble_eq_true rfl) (Nat.le_of_ble_eq_true rfl) ?_
                  exact y_zret (b := true) ((ms, es, gE, gM, gB, gT, gG, va_up (va_up gN ev (gN ev + 1)) ev (gN ev), (told6 gK (6 * (30 * ev + gN ev)) tt zh zj zz zr (gG ev)), gD), κ2, va_up (va_up fe (15 * ev + 14) (((gN ev + 1) : Nat) : Int)) (15 * ev + 14) (((gN ev) : Nat) : Int), va_up fq (8 * ev + gN ev) (zv zh * 4294967296 + (16 * (zv (gG ev) + 1) + zv tt)), va_up fv (8 * ev + gN ev) ((zv zj * 4294967296) + zv zz), va_up fu (8 * ev + gN ev) (2 * zv zr), fw2, fy2) hx hb hr hlocks dL_isDone_697 hP hD hS rfl ⟨rfl, hI2, (hL.notold hev (by omega)).up⟩
                · have hr9 : r = jI 1 := hr9
                  subst hr9
                  refine lv_istore (lv' := [(21, .int (jI 1)), (22, .int (jI (((8 * ev + gN ev) : Nat) : Int))), (20, .int (jI 1)), (19, .int (vI zr)), (18, .int (vI zz)), (17, .int (vI zj)), (16, .int (vI zh)), (15, .int (vI tt)), (14, .int (jI 1)), (13, .int (jI (((15 * ev) : Nat) : Int))), (12, .int (jI 1)), (11, .int (jI ((ev : Nat) : Int))), (0, .ref x0), (1, .ref ae), (2, .ref aq), (3, .ref av), (4, .ref au), (5, .ref aw), (6, .ref ay), (7, .ref ag), (8, .int (jI 2)), (9, .int (jI ((one : Nat) : Int))), (10, .int (jI ((two : Nat) : Int)))]) hx hb dL_isDone_587 hl (by decide) rfl (fun ls hl => ?_)
                  refine lv_aload_n hx hb dL_isDone_589 rfl (lv_at hl 13 rfl) ?_
                  refine lv_iload hx hb dL_isDone_590 (lv_at hl 9 rfl) ?_
                  refine n_bipush hx hb dL_isDone_592 (by decide) ?_
                  refine n_iadd hx hb dL_isDone_594 ?_
                  refine lv_dup2_11 hx hb dL_isDone_595 rfl rfl ?_
                  refine n_ialdv (i := ((15 * ev) + 14)) (v := (((gN ev + 1) : Nat) : Int)) hx hb hK hP 0 0 rfl htI (by omega) (by omega) (Nat.le_of_ble_eq_true rfl) (up_s _ _ _) dL_isDone_596 ?_
                  refine lv_iload hx hb dL_isDone_597 (lv_at hl 0 rfl) ?_
                  refine n_if_eq (tgt := 606) hx hb (by unfold r32; decide) dL_isDone_599 (by decide) (fun h599 => False.elim (by revert h599; decide)) (fun h599 => ?_)
                  refine n_iconst hx hb dL_isDone_602 ?_
                  refine lv_goto (tgt := 607) hx hb dL_isDone_603 (by decide) ?_
                  refine n_isub hx hb dL_isDone_607 ?_
                  refine W.eq (g2 := F0 m 608 ls (.int (jI (((gN ev + 1) : Nat) : Int)) :: [.int (jI ((((15 * ev) : Nat) : Int) + 14)), .ref ae])) (congrArg (fun z : Int => F0 m 608 ls (.int (jI z) :: [.int (jI ((((15 * ev) : Nat) : Int) + 14)), .ref ae])) (by omega)) ?_
                  refine n_iast (i := (15 * ev + 14)) hx hb hK hP hD hS 0 0 rfl htI (by omega) (by omega) (Nat.le_of_ble_eq_true rfl) dL_isDone_608 (fun H locs hP hD hS => ?_)
                  have hP : va_P D vwCl ((ae, .inl (cI, 45, .inl (fun i => jI ((va_up (va_up fe (15 * ev + 14) (((gN ev + 1) : Nat) : Int)) (15 * ev + 14) (((gN ev + 1) : Nat) : Int)) i)))) :: (aq, .inl (cJ, 16, .inr (.inl (fun i => jL ((va_up fq (8 * ev + gN ev) (zv zh * 4294967296 + (16 * (zv (gG ev) + 1) + zv tt))) i))))) :: (av, .inl (cJ, 16, .inr (.inl (fun i => jL ((va_up fv (8 * ev + gN ev) ((zv zj * 4294967296) + zv zz)) i))))) :: (au, .inl (cJ, 16, .inr (.inl (fun i => jL ((va_up fu (8 * ev + gN ev) (2 * zv zr)) i))))) :: (aw, .inl (cJ, 60, .inr (.inl (fun i => vL (fw2 i))))) :: (ay, .inl (cJ, 32, .inr (.inl (fun i => vL (fy2 i))))) :: (ag, .inl (cI, 2, .inl (fun i => jI ((fg i : Nat) : Int)))) :: (CW cI cE cG cM cS x0 q0 q1 qr (ms, es, gE, gM, gB, gT, gG, gN, gK, gD) κ)) H := hP
                  have hD : va_D A ((ae, .inl (cI, 45, .inl (fun i => jI ((va_up (va_up fe (15 * ev + 14) (((gN ev + 1) : Nat) : Int)) (15 * ev + 14) (((gN ev + 1) : Nat) : Int)) i)))) :: (aq, .inl (cJ, 16, .inr (.inl (fun i => jL ((va_up fq (8 * ev + gN ev) (zv zh * 4294967296 + (16 * (zv (gG ev) + 1) + zv tt))) i))))) :: (av, .inl (cJ, 16, .inr (.inl (fun i => jL ((va_up fv (8 * ev + gN ev) ((zv zj * 4294967296) + zv zz)) i))))) :: (au, .inl (cJ, 16, .inr (.inl (fun i => jL ((va_up fu (8 * ev + gN ev) (2 * zv zr)) i))))) :: (aw, .inl (cJ, 60, .inr (.inl (fun i => vL (fw2 i))))) :: (ay, .inl (cJ, 32, .inr (.inl (fun i => vL (fy2 i))))) :: (ag, .inl (cI, 2, .inl (fun i => jI ((fg i : Nat) : Int)))) :: (CW cI cE cG cM cS x0 q0 q1 qr (ms, es, gE, gM, gB, gT, gG, gN, gK, gD) κ)) := hD
                  refine lv_iload hx hb dL_isDone_609 (lv_at hl 10 rfl) ?_
                  refine n_if_ne (tgt := 619) hx hb (by unfold r32; decide) dL_isDone_611 (by decide) (fun h611 => ?_) (fun h611 => False.elim (by revert h611; decide))
                  refine lv_iload hx hb dL_isDone_619 (lv_at hl 2 rfl) ?_
                  refine n_if_ne (tgt := 629) hx hb (by unfold r32; decide) dL_isDone_621 (by decide) (fun h621 => ?_) (fun h621 => False.elim (by revert h621; decide))
                  refine lv_iload hx hb dL_isDone_629 (lv_at hl 0 rfl) ?_
                  refine n_if_eq (tgt := 642) hx hb (by unfold r32; decide) dL_isDone_631 (by decide) (fun h631 => False.elim (by revert h631; decide)) (fun h631 => ?_)
                  refine lv_iload hx hb dL_isDone_634 (lv_at hl 1 rfl) ?_
                  refine n_bipush hx hb dL_isDone_636 (by decide) ?_
                  refine n_iremv (v := (((gN ev) : Nat) : Int)) hx hb dL_isDone_638 (by omega) (by omega) (by omega) (by omega) (by omega) ?_
                  refine lv_goto (tgt := 643) hx hb dL_isDone_639 (by decide) ?_
                  refine lv_istore (lv' := [(23, .int (jI (((gN ev) : Nat) : Int))), (21, .int (jI 1)), (22, .int (jI (((8 * ev + gN ev) : Nat) : Int))), (20, .int (jI 1)), (19, .int (vI zr)), (18, .int (vI zz)), (17, .int (vI zj)), (16, .int (vI zh)), (15, .int (vI tt)), (14, .int (jI 1)), (13, .int (jI (((15 * ev) : Nat) : Int))), (12, .int (jI 1)), (11, .int (jI ((ev : Nat) : Int))), (0, .ref x0), (1, .ref ae), (2, .ref aq), (3, .ref av), (4, .ref au), (5, .ref aw), (6, .ref ay), (7, .ref ag), (8, .int (jI 2)), (9, .int (jI ((one : Nat) : Int))), (10, .int (jI ((two : Nat) : Int)))]) hx hb dL_isDone_643 hl (by decide) rfl (fun ls hl => ?_)
                  refine lv_iload hx hb dL_isDone_645 (lv_at hl 9 rfl) ?_
                  refine n_if_eq (tgt := 671) hx hb (by unfold r32; decide) dL_isDone_647 (by decide) (fun h647 => False.elim (by revert h647; decide)) (fun h647 => ?_)
                  refine lv_aload_n hx hb dL_isDone_650 rfl (lv_at hl 13 rfl) ?_
                  refine n_bipush hx hb dL_isDone_651 (by decide) ?_
                  refine lv_iload hx hb dL_isDone_653 (lv_at hl 12 rfl) ?_
                  refine lv_iload hx hb dL_isDone_655 (lv_at hl 8 rfl) ?_
                  refine lv_iload hx hb dL_isDone_657 (lv_at hl 7 rfl) ?_
                  refine lv_iload hx hb dL_isDone_659 (lv_at hl 6 rfl) ?_
                  refine lv_iload hx hb dL_isDone_661 (lv_at hl 5 rfl) ?_
                  refine lv_iload hx hb dL_isDone_663 (lv_at hl 4 rfl) ?_
                  have hb9 : beh (fun i => gM (7 * ev + i)) (s5at gB ev) (fun k c => (told6 gK (6 * (30 * ev + gN ev)) tt zh zj zz zr (gG ev)) (6 * (30 * ev + k) + c)) (fun k => gD (30 * ev + k)) ((va_up gN ev (gN ev + 1)) ev) (gT ev) = some (s5 fw2) := by rw [up_s]; exact hbs
                  have hC := d_late0 l hl9 D tys htI htE htM htS htG x0 q0 q1 qr ms es gE gM gB gT gG gN gK gD κ hI ev hev tt zh zj zz zr (s5 fw2) (by omega) (by omega) hb9
                  have hW := w_does_late l D tys x0 q0 q1 qr ms es gE gM gB gT gG gN gK gD κ (jI ((ev : Nat) : Int)) (vI tt) (vI zh) (vI zj) (vI zz) (vI zr) (ms, es, gE, gM, gB, gT, gG, va_up (va_up gN ev (gN ev + 1)) ev (gN ev + 1), (told6 gK (6 * (30 * ev + gN ev)) tt zh zj zz zr (gG ev)), gD) 0 _ hC
                  have hP : va_P D vwCl ((CW cI cE cG cM cS x0 q0 q1 qr (ms, es, gE, gM, gB, gT, gG, gN, gK, gD) κ) ++ [(ae, .inl (cI, 45, .inl (fun i => jI ((va_up (va_up fe (15 * ev + 14) (((gN ev + 1) : Nat) : Int)) (15 * ev + 14) (((gN ev + 1) : Nat) : Int)) i)))), (aq, .inl (cJ, 16, .inr (.inl (fun i => jL ((va_up fq (8 * ev + gN ev) (zv zh * 4294967296 + (16 * (zv (gG ev) + 1) + zv tt))) i))))), (av, .inl (cJ, 16, .inr (.inl (fun i => jL ((va_up fv (8 * ev + gN ev) ((zv zj * 4294967296) + zv zz)) i))))), (au, .inl (cJ, 16, .inr (.inl (fun i => jL ((va_up fu (8 * ev + gN ev) (2 * zv zr)) i))))), (aw, .inl (cJ, 60, .inr (.inl (fun i => vL (fw2 i))))), (ay, .inl (cJ, 32, .inr (.inl (fun i => vL (fy2 i))))), (ag, .inl (cI, 2, .inl (fun i => jI ((fg i : Nat) : Int))))]) H := hP.perm (List.perm_append_comm (l₁ := ([(ae, .inl (cI, 45, .inl (fun i => jI ((va_up (va_up fe (15 * ev + 14) (((gN ev + 1) : Nat) : Int)) (15 * ev + 14) (((gN ev + 1) : Nat) : Int)) i)))), (aq, .inl (cJ, 16, .inr (.inl (fun i => jL ((va_up fq (8 * ev + gN ev) (zv zh * 4294967296 + (16 * (zv (gG ev) + 1) + zv tt))) i))))), (av, .inl (cJ, 16, .inr (.inl (fun i => jL ((va_up fv (8 * ev + gN ev) ((zv zj * 4294967296) + zv zz)) i))))), (au, .inl (cJ, 16, .inr (.inl (fun i => jL ((va_up fu (8 * ev + gN ev) (2 * zv zr)) i))))), (aw, .inl (cJ, 60, .inr (.inl (fun i => vL (fw2 i))))), (ay, .inl (cJ, 32, .inr (.inl (fun i => vL (fy2 i))))), (ag, .inl (cI, 2, .inl (fun i => jI ((fg i : Nat) : Int))))] : va_W)) (l₂ := (CW cI cE cG cM cS x0 q0 q1 qr (ms, es, gE, gM, gB, gT, gG, gN, gK, gD) κ)))
                  have hD : va_D A ((CW cI cE cG cM cS x0 q0 q1 qr (ms, es, gE, gM, gB, gT, gG, gN, gK, gD) κ) ++ [(ae, .inl (cI, 45, .inl (fun i => jI ((va_up (va_up fe (15 * ev + 14) (((gN ev + 1) : Nat) : Int)) (15 * ev + 14) (((gN ev + 1) : Nat) : Int)) i)))), (aq, .inl (cJ, 16, .inr (.inl (fun i => jL ((va_up fq (8 * ev + gN ev) (zv zh * 4294967296 + (16 * (zv (gG ev) + 1) + zv tt))) i))))), (av, .inl (cJ, 16, .inr (.inl (fun i => jL ((va_up fv (8 * ev + gN ev) ((zv zj * 4294967296) + zv zz)) i))))), (au, .inl (cJ, 16, .inr (.inl (fun i => jL ((va_up fu (8 * ev + gN ev) (2 * zv zr)) i))))), (aw, .inl (cJ, 60, .inr (.inl (fun i => vL (fw2 i))))), (ay, .inl (cJ, 32, .inr (.inl (fun i => vL (fy2 i))))), (ag, .inl (cI, 2, .inl (fun i => jI ((fg i : Nat) : Int))))]) := hD.perm (List.perm_append_comm (l₁ := ([(ae, .inl (cI, 45, .inl (fun i => jI ((va_up (va_up fe (15 * ev + 14) (((gN ev + 1) : Nat) : Int)) (15 * ev + 14) (((gN ev + 1) : Nat) : Int)) i)))), (aq, .inl (cJ, 16, .inr (.inl (fun i => jL ((va_up fq (8 * ev + gN ev) (zv zh * 4294967296 + (16 * (zv (gG ev) + 1) + zv tt))) i))))), (av, .inl (cJ, 16, .inr (.inl (fun i => jL ((va_up fv (8 * ev + gN ev) ((zv zj * 4294967296) + zv zz)) i))))), (au, .inl (cJ, 16, .inr (.inl (fun i => jL ((va_up fu (8 * ev + gN ev) (2 * zv zr)) i))))), (aw, .inl (cJ, 60, .inr (.inl (fun i => vL (fw2 i))))), (ay, .inl (cJ, 32, .inr (.inl (fun i => vL (fy2 i))))), (ag, .inl (cI, 2, .inl (fun i => jI ((fg i : Nat) : Int))))] : va_W)) (l₂ := (CW cI cE cG cM cS x0 q0 q1 qr (ms, es, gE, gM, gB, gT, gG, gN, gK, gD) κ)))
                  refine a_goNI (vx_runSW (As := [.ref x0, .int (jI 6), .int (jI ((ev : Nat) : Int)), .int (vI tt), .int (vI zh), .int (vI zj), .int (vI zz), .int (vI zr)]) (rest := []) ⟨hx, hb, hml, hown, hts⟩ (hW _) (vx_cwSW 8 hts gL_isDone_L_does rfl rfl rfl (by decide +kernel) ⟨(Nat.le_of_ble_eq_true rfl), (Nat.le_of_ble_eq_true rfl)⟩) (c_pre hK hXK hZ hN hP hD hS hA) rfl rfl hl.1 rfl (lv_room (Nat.le_of_ble_eq_true rfl)) dL_isDone_665 ⟨(Nat.le_of_ble_eq_true rfl), (Nat.le_of_ble_eq_true rfl)⟩) hP hD hS hA (fun r κ2 H locs hpost hP hD hS => ?_)
                  obtain ⟨hr9, hI2⟩ := hpost
                  have hr9 : r = jI ((gN ev : Nat) : Int) := hr9
                  subst hr9
                  have hP : va_P D vwCl ((CW cI cE cG cM cS x0 q0 q1 qr (ms, es, gE, gM, gB, gT, gG, va_up (va_up gN ev (gN ev + 1)) ev (gN ev + 1), (told6 gK (6 * (30 * ev + gN ev)) tt zh zj zz zr (gG ev)), gD) κ2) ++ [(ae, .inl (cI, 45, .inl (fun i => jI ((va_up (va_up fe (15 * ev + 14) (((gN ev + 1) : Nat) : Int)) (15 * ev + 14) (((gN ev + 1) : Nat) : Int)) i)))), (aq, .inl (cJ, 16, .inr (.inl (fun i => jL ((va_up fq (8 * ev + gN ev) (zv zh * 4294967296 + (16 * (zv (gG ev) + 1) + zv tt))) i))))), (av, .inl (cJ, 16, .inr (.inl (fun i => jL ((va_up fv (8 * ev + gN ev) ((zv zj * 4294967296) + zv zz)) i))))), (au, .inl (cJ, 16, .inr (.inl (fun i => jL ((va_up fu (8 * ev + gN ev) (2 * zv zr)) i))))), (aw, .inl (cJ, 60, .inr (.inl (fun i => vL (fw2 i))))), (ay, .inl (cJ, 32, .inr (.inl (fun i => vL (fy2 i))))), (ag, .inl (cI, 2, .inl (fun i => jI ((fg i : Nat) : Int))))]) H := hP
                  have hD : va_D A ((CW cI cE cG cM cS x0 q0 q1 qr (ms, es, gE, gM, gB, gT, gG, va_up (va_up gN ev (gN ev + 1)) ev (gN ev + 1), (told6 gK (6 * (30 * ev + gN ev)) tt zh zj zz zr (gG ev)), gD) κ2) ++ [(ae, .inl (cI, 45, .inl (fun i => jI ((va_up (va_up fe (15 * ev + 14) (((gN ev + 1) : Nat) : Int)) (15 * ev + 14) (((gN ev + 1) : Nat) : Int)) i)))), (aq, .inl (cJ, 16, .inr (.inl (fun i => jL ((va_up fq (8 * ev + gN ev) (zv zh * 4294967296 + (16 * (zv (gG ev) + 1) + zv tt))) i))))), (av, .inl (cJ, 16, .inr (.inl (fun i => jL ((va_up fv (8 * ev + gN ev) ((zv zj * 4294967296) + zv zz)) i))))), (au, .inl (cJ, 16, .inr (.inl (fun i => jL ((va_up fu (8 * ev + gN ev) (2 * zv zr)) i))))), (aw, .inl (cJ, 60, .inr (.inl (fun i => vL (fw2 i))))), (ay, .inl (cJ, 32, .inr (.inl (fun i => vL (fy2 i))))), (ag, .inl (cI, 2, .inl (fun i => jI ((fg i : Nat) : Int))))]) := hD
                  have hP : va_P D vwCl ((ae, .inl (cI, 45, .inl (fun i => jI ((va_up (va_up fe (15 * ev + 14) (((gN ev + 1) : Nat) : Int)) (15 * ev + 14) (((gN ev + 1) : Nat) : Int)) i)))) :: (aq, .inl (cJ, 16, .inr (.inl (fun i => jL ((va_up fq (8 * ev + gN ev) (zv zh * 4294967296 + (16 * (zv (gG ev) + 1) + zv tt))) i))))) :: (av, .inl (cJ, 16, .inr (.inl (fun i => jL ((va_up fv (8 * ev + gN ev) ((zv zj * 4294967296) + zv zz)) i))))) :: (au, .inl (cJ, 16, .inr (.inl (fun i => jL ((va_up fu (8 * ev + gN ev) (2 * zv zr)) i))))) :: (aw, .inl (cJ, 60, .inr (.inl (fun i => vL (fw2 i))))) :: (ay, .inl (cJ, 32, .inr (.inl (fun i => vL (fy2 i))))) :: (ag, .inl (cI, 2, .inl (fun i => jI ((fg i : Nat) : Int)))) :: (CW cI cE cG cM cS x0 q0 q1 qr (ms, es, gE, gM, gB, gT, gG, va_up (va_up gN ev (gN ev + 1)) ev (gN ev + 1), (told6 gK (6 * (30 * ev + gN ev)) tt zh zj zz zr (gG ev)), gD) κ2)) H := hP.perm (List.perm_append_comm (l₁ := (CW cI cE cG cM cS x0 q0 q1 qr (ms, es, gE, gM, gB, gT, gG, va_up (va_up gN ev (gN ev + 1)) ev (gN ev + 1), (told6 gK (6 * (30 * ev + gN ev)) tt zh zj zz zr (gG ev)), gD) κ2)) (l₂ := ([(ae, .inl (cI, 45, .inl (fun i => jI ((va_up (va_up fe (15 * ev + 14) (((gN ev + 1) : Nat) : Int)) (15 * ev + 14) (((gN ev + 1) : Nat) : Int)) i)))), (aq, .inl (cJ, 16, .inr (.inl (fun i => jL ((va_up fq (8 * ev + gN ev) (zv zh * 4294967296 + (16 * (zv (gG ev) + 1) + zv tt))) i))))), (av, .inl (cJ, 16, .inr (.inl (fun i => jL ((va_up fv (8 * ev + gN ev) ((zv zj * 4294967296) + zv zz)) i))))), (au, .inl (cJ, 16, .inr (.inl (fun i => jL ((va_up fu (8 * ev + gN ev) (2 * zv zr)) i))))), (aw, .inl (cJ, 60, .inr (.inl (fun i => vL (fw2 i))))), (ay, .inl (cJ, 32, .inr (.inl (fun i => vL (fy2 i))))), (ag, .inl (cI, 2, .inl (fun i => jI ((fg i : Nat) : Int))))] : va_W)))
                  have hD : va_D A ((ae, .inl (cI, 45, .inl (fun i => jI ((va_up (va_up fe (15 * ev + 14) (((gN ev + 1) : Nat) : Int)) (15 * ev + 14) (((gN ev + 1) : Nat) : Int)) i)))) :: (aq, .inl (cJ, 16, .inr (.inl (fun i => jL ((va_up fq (8 * ev + gN ev) (zv zh * 4294967296 + (16 * (zv (gG ev) + 1) + zv tt))) i))))) :: (av, .inl (cJ, 16, .inr (.inl (fun i => jL ((va_up fv (8 * ev + gN ev) ((zv zj * 4294967296) + zv zz)) i))))) :: (au, .inl (cJ, 16, .inr (.inl (fun i => jL ((va_up fu (8 * ev + gN ev) (2 * zv zr)) i))))) :: (aw, .inl (cJ, 60, .inr (.inl (fun i => vL (fw2 i))))) :: (ay, .inl (cJ, 32, .inr (.inl (fun i => vL (fy2 i))))) :: (ag, .inl (cI, 2, .inl (fun i => jI ((fg i : Nat) : Int)))) :: (CW cI cE cG cM cS x0 q0 q1 qr (ms, es, gE, gM, gB, gT, gG, va_up (va_up gN ev (gN ev + 1)) ev (gN ev + 1), (told6 gK (6 * (30 * ev + gN ev)) tt zh zj zz zr (gG ev)), gD) κ2)) := hD.perm (List.perm_append_comm (l₁ := (CW cI cE cG cM cS x0 q0 q1 qr (ms, es, gE, gM, gB, gT, gG, va_up (va_up gN ev (gN ev + 1)) ev (gN ev + 1), (told6 gK (6 * (30 * ev + gN ev)) tt zh zj zz zr (gG ev)), gD) κ2)) (l₂ := ([(ae, .inl (cI, 45, .inl (fun i => jI ((va_up (va_up fe (15 * ev + 14) (((gN ev + 1) : Nat) : Int)) (15 * ev + 14) (((gN ev + 1) : Nat) : Int)) i)))), (aq, .inl (cJ, 16, .inr (.inl (fun i => jL ((va_up fq (8 * ev + gN ev) (zv zh * 4294967296 + (16 * (zv (gG ev) + 1) + zv tt))) i))))), (av, .inl (cJ, 16, .inr (.inl (fun i => jL ((va_up fv (8 * ev + gN ev) ((zv zj * 4294967296) + zv zz)) i))))), (au, .inl (cJ, 16, .inr (.inl (fun i => jL ((va_up fu (8 * ev + gN ev) (2 * zv zr)) i))))), (aw, .inl (cJ, 60, .inr (.inl (fun i => vL (fw2 i))))), (ay, .inl (cJ, 32, .inr (.inl (fun i => vL (fy2 i))))), (ag, .inl (cI, 2, .inl (fun i => jI ((fg i : Nat) : Int))))] : va_W)))
                  refine lv_goto (tgt := 687) hx hb dL_isDone_668 (by decide) ?_
                  refine lv_iload hx hb dL_isDone_687 (lv_at hl 0 rfl) ?_
                  refine n_icmp_ne (tgt := 696) hx hb (by unfold r32; omega) (by unfold r32; omega) dL_isDone_689 (by decide) (fun h689 => False.elim (h689 rfl)) (fun h689 => ?_)
                  refine n_iconst hx hb dL_isDone_692 ?_
                  refine lv_goto (tgt := 697) hx hb dL_isDone_693 (by decide) ?_
                  refine W.widen (k := 228) (n := 867) (Nat.le_of_ble_eq_true rfl) (Nat.le_of_ble_eq_true rfl) ?_
                  exact y_zret (b := true) ((ms, es, gE, gM, gB, gT, gG, va_up (va_up gN ev (gN ev + 1)) ev (gN ev + 1), (told6 gK (6 * (30 * ev + gN ev)) tt zh zj zz zr (gG ev)), gD), κ2, va_up (va_up fe (15 * ev + 14) (((gN ev + 1) : Nat) : Int)) (15 * ev + 14) (((gN ev + 1) : Nat) : Int), va_up fq (8 * ev + gN ev) (zv zh * 4294967296 + (16 * (zv (gG ev) + 1) + zv tt)), va_up fv (8 * ev + gN ev) ((zv zj * 4294967296) + zv zz), va_up fu (8 * ev + gN ev) (2 * zv zr), fw2, fy2) hx hb hr hlocks dL_isDone_697 hP hD hS rfl ⟨rfl, hI2, (hL.told hev (by omega) (hZ8 (gN ev) (Nat.le_refl _) (by omega))).up⟩
              by_cases h0 : two / 10 % 9 = 0
              · refine n_if_ne (tgt := 432) hx hb (by unfold r32; omega) dL_isDone_425 (by decide) (fun h425 => False.elim (by omega)) (fun h425 => ?_)
                refine n_iconst hx hb dL_isDone_428 ?_
                refine lv_goto (tgt := 441) hx hb dL_isDone_429 (by decide) ?_
                refine W.eq (g2 := F0 m 441 ls (.int (vI zr) :: [])) (congrArg (fun z : Int => F0 m 441 ls (.int (jI z) :: [])) (by rw [ezr, if_pos h0]; rfl)) ?_
                exact hk
              · refine n_if_ne (tgt := 432) hx hb (by unfold r32; omega) dL_isDone_425 (by decide) (fun h425 => ?_) (fun h425 => False.elim (by omega))
                refine lv_iload hx hb dL_isDone_432 (lv_at hl 18 rfl) ?_
                refine n_bipush hx hb dL_isDone_434 (by decide) ?_
                refine n_idivv (v := (((two / 10) : Nat) : Int)) hx hb dL_isDone_436 (by omega) (by omega) (by omega) (by omega) (by omega) ?_
                refine n_sipush hx hb dL_isDone_437 (by decide) ?_
                refine n_iremv (v := (zv zr)) hx hb dL_isDone_440 (by omega) (by omega) (by omega) (by omega) (by rw [ezr, if_neg h0]; omega) ?_
                exact hk
        · refine n_if_ne (tgt := 312) hx hb (by unfold r32; omega) dL_isDone_305 (by decide) (fun h305 => ?_) (fun h305 => False.elim (by omega))
          refine n_iconst hx hb dL_isDone_312 ?_
          refine lv_istore (lv' := [(14, .int (jI 0)), (13, .int (jI (((15 * ev) : Nat) : Int))), (12, .int (jI 1)), (11, .int (jI ((ev : Nat) : Int))), (0, .ref x0), (1, .ref ae), (2, .ref aq), (3, .ref av), (4, .ref au), (5, .ref aw), (6, .ref ay), (7, .ref ag), (8, .int (jI 2)), (9, .int (jI ((one : Nat) : Int))), (10, .int (jI ((two : Nat) : Int)))]) hx hb dL_isDone_313 hl (by decide) rfl (fun ls hl => ?_)
          refine lv_iload hx hb dL_isDone_315 (lv_at hl 0 rfl) ?_
          refine n_if_ne (tgt := 330) hx hb (by unfold r32; decide) dL_isDone_317 (by decide) (fun h317 => False.elim (by revert h317; decide)) (fun h317 => ?_)
          refine lv_aload_n hx hb dL_isDone_320 rfl (lv_at hl 5 rfl) ?_
          refine lv_iload hx hb dL_isDone_321 (lv_at hl 1 rfl) ?_
          refine n_bipush hx hb dL_isDone_323 (by decide) ?_
          refine n_iadd hx hb dL_isDone_325 ?_
          refine n_ialdv (i := ((15 * ev) + 12)) (v := (((gT ev) : Nat) : Int)) hx hb hK hP 0 0 rfl htI (by omega) (by omega) (Nat.le_of_ble_eq_true rfl) h12 dL_isDone_326 ?_
          refine lv_goto (tgt := 370) hx hb dL_isDone_327 (by decide) ?_
          have ett : zv (zc ((gT ev : Nat) : Int)) = ((gT ev : Nat) : Int) := zc_small (by omega) (by omega)
          refine W.eq (g2 := F0 m 370 ls (.int (vI (zc ((gT ev : Nat) : Int))) :: [])) (congrArg (fun z : Int => F0 m 370 ls (.int (jI z) :: [])) ett.symm) ?_
          refine lv_istore (lv' := [(15, .int (vI (zc ((gT ev : Nat) : Int)))), (14, .int (jI 0)), (13, .int (jI (((15 * ev) : Nat) : Int))), (12, .int (jI 1)), (11, .int (jI ((ev : Nat) : Int))), (0, .ref x0), (1, .ref ae), (2, .ref aq), (3, .ref av), (4, .ref au), (5, .ref aw), (6, .ref ay), (7, .ref ag), (8, .int (jI 2)), (9, .int (jI ((one : Nat) : Int))), (10, .int (jI ((two : Nat) : Int)))]) hx hb dL_isDone_370 hl (by decide) rfl (fun ls hl => ?_)
          refine lv_iload hx hb dL_isDone_372 (lv_at hl 14 rfl) ?_
          refine n_iconst hx hb dL_isDone_374 ?_
          refine n_idivv (v := (((one / 3) : Nat) : Int)) hx hb dL_isDone_375 (by omega) (by omega) (by omega) (by omega) (by omega) ?_
          refine n_bipush hx hb dL_isDone_376 (by decide) ?_
          refine n_iremv (v := (((one / 3 % 17) : Nat) : Int)) hx hb dL_isDone_378 (by omega) (by omega) (by omega) (by omega) (by omega) ?_
          refine n_bipush hx hb dL_isDone_379 (by decide) ?_
          by_cases hh : one / 3 % 17 = 16
          · refine n_icmp_ne (tgt := 390) hx hb (by unfold r32; omega) (by unfold r32; omega) dL_isDone_381 (by decide) (fun h381 => False.elim (by omega)) (fun h381 => ?_)
            refine n_sipush hx hb dL_isDone_384 (by decide) ?_
            refine lv_goto (tgt := 396) hx hb dL_isDone_387 (by decide) ?_
            refine lv_istore (lv' := [(16, .int (jI 10007)), (15, .int (vI (zc ((gT ev : Nat) : Int)))), (14, .int (jI 0)), (13, .int (jI (((15 * ev) : Nat) : Int))), (12, .int (jI 1)), (11, .int (jI ((ev : Nat) : Int))), (0, .ref x0), (1, .ref ae), (2, .ref aq), (3, .ref av), (4, .ref au), (5, .ref aw), (6, .ref ay), (7, .ref ag), (8, .int (jI 2)), (9, .int (jI ((one : Nat) : Int))), (10, .int (jI ((two : Nat) : Int)))]) hx hb dL_isDone_396 hl (by decide) rfl (fun ls hl => ?_)
            refine lv_iload hx hb dL_isDone_398 (lv_at hl 16 rfl) ?_
            refine n_iconst hx hb dL_isDone_400 ?_
            refine n_idivv (v := (((two / 2) : Nat) : Int)) hx hb dL_isDone_401 (by omega) (by omega) (by omega) (by omega) (by omega) ?_
            refine n_iconst hx hb dL_isDone_402 ?_
            refine n_iremv (v := (zv zj)) hx hb dL_isDone_403 (by omega) (by omega) (by omega) (by omega) (by omega) ?_
            refine lv_istore (lv' := [(17, .int (vI zj)), (16, .int (jI 10007)), (15, .int (vI (zc ((gT ev : Nat) : Int)))), (14, .int (jI 0)), (13, .int (jI (((15 * ev) : Nat) : Int))), (12, .int (jI 1)), (11, .int (jI ((ev : Nat) : Int))), (0, .ref x0), (1, .ref ae), (2, .ref aq), (3, .ref av), (4, .ref au), (5, .ref aw), (6, .ref ay), (7, .ref ag), (8, .int (jI 2)), (9, .int (jI ((one : Nat) : Int))), (10, .int (jI ((two : Nat) : Int)))]) hx hb dL_isDone_404 hl (by decide) rfl (fun ls hl => ?_)
            refine lv_iload hx hb dL_isDone_406 (lv_at hl 16 rfl) ?_
            refine n_bipush hx hb dL_isDone_408 (by decide) ?_
            refine n_idivv (v := (((one / 11) : Nat) : Int)) hx hb dL_isDone_410 (by omega) (by omega) (by omega) (by omega) (by omega) ?_
            refine n_sipush hx hb dL_isDone_411 (by decide) ?_
            refine n_iremv (v := (zv zz)) hx hb dL_isDone_414 (by omega) (by omega) (by omega) (by omega) (by omega) ?_
            refine lv_istore (lv' := [(18, .int (vI zz)), (17, .int (vI zj)), (16, .int (jI 10007)), (15, .int (vI (zc ((gT ev : Nat) : Int)))), (14, .int (jI 0)), (13, .int (jI (((15 * ev) : Nat) : Int))), (12, .int (jI 1)), (11, .int (jI ((ev : Nat) : Int))), (0, .ref x0), (1, .ref ae), (2, .ref aq), (3, .ref av), (4, .ref au), (5, .ref aw), (6, .ref ay), (7, .ref ag), (8, .int (jI 2)), (9, .int (jI ((one : Nat) : Int))), (10, .int (jI ((two : Nat) : Int)))]) hx hb dL_isDone_415 hl (by decide) rfl (fun ls hl => ?_)
            refine lv_iload hx hb dL_isDone_417 (lv_at hl 18 rfl) ?_
            refine n_bipush hx hb dL_isDone_419 (by decide) ?_
            refine n_idivv (v := (((two / 10) : Nat) : Int)) hx hb dL_isDone_421 (by omega) (by omega) (by omega) (by omega) (by omega) ?_
            refine n_bipush hx hb dL_isDone_422 (by decide) ?_
            refine n_iremv (v := (((two / 10 % 9) : Nat) : Int)) hx hb dL_isDone_424 (by omega) (by omega) (by omega) (by omega) (by omega) ?_
            have hk : W p l e { frames := 12, cells := 228, slots := 867, locals := 268 } s m ([Value.ref x0, .ref ae, .ref aq, .ref av, .ref au, .ref aw, .ref ay, .ref ag, .int (jI 2), .int (jI ((one : Nat) : Int)), .int (jI ((two : Nat) : Int))] : List Value).toArray below meth c9 s.heap [] 0 0 (MQ below (ENI D A (fun (r : Int32) (u : SG × (Nat → EG) × (Nat → Int) × (Nat → Int) × (Nat → Int) × (Nat → Int) × (Nat → Zp) × (Nat → Zp)) => r = jI (iB true) ∧ INV u.1 u.2.1 ∧ LI u.1 fm u.2.2.1 u.2.2.2.1 u.2.2.2.2.1 u.2.2.2.2.2.1 fg (c + 1)) (fun (u : SG × (Nat → EG) × (Nat → Int) × (Nat → Int) × (Nat → Int) × (Nat → Int) × (Nat → Zp) × (Nat → Zp)) => ((ae, .inl (cI, 45, .inl (fun i => jI (u.2.2.1 i)))) :: (aq, .inl (cJ, 16, .inr (.inl (fun i => jL (u.2.2.2.1 i))))) :: (av, .inl (cJ, 16, .inr (.inl (fun i => jL (u.2.2.2.2.1 i))))) :: (au, .inl (cJ, 16, .inr (.inl (fun i => jL (u.2.2.2.2.2.1 i))))) :: (aw, .inl (cJ, 60, .inr (.inl (fun i => vL (u.2.2.2.2.2.2.1 i))))) :: (ay, .inl (cJ, 32, .inr (.inl (fun i => vL (u.2.2.2.2.2.2.2 i))))) :: (ag, .inl (cI, 2, .inl (fun i => jI ((fg i : Nat) : Int)))) :: (CW cI cE cG cM cS x0 q0 q1 qr u.1 u.2.1))) (fun _ => [])) ([Value.ref x0, .ref ae, .ref aq, .ref av, .ref au, .ref aw, .ref ay, .ref ag, .int (jI 2), .int (jI ((one : Nat) : Int)), .int (jI ((two : Nat) : Int))] : List Value).toArray s 228 867 A) (F0 m 441 ls [.int (vI zr)]) := by
              refine lv_istore (lv' := [(19, .int (vI zr)), (18, .int (vI zz)), (17, .int (vI zj)), (16, .int (jI 10007)), (15, .int (vI (zc ((gT ev : Nat) : Int)))), (14, .int (jI 0)), (13, .int (jI (((15 * ev) : Nat) : Int))), (12, .int (jI 1)), (11, .int (jI ((ev : Nat) : Int))), (0, .ref x0), (1, .ref ae), (2, .ref aq), (3, .ref av), (4, .ref au), (5, .ref aw), (6, .ref ay), (7, .ref ag), (8, .int (jI 2)), (9, .int (jI ((one : Nat) : Int))), (10, .int (jI ((two : Nat) : Int)))]) hx hb dL_isDone_441 hl (by decide) rfl (fun ls hl => ?_)
              refine lv_iload hx hb dL_isDone_443 (lv_at hl 4 rfl) ?_
              refine lv_aload_n hx hb dL_isDone_445 rfl (lv_at hl 10 rfl) ?_
              refine lv_iload hx hb dL_isDone_446 (lv_at hl 6 rfl) ?_
              refine n_bipush hx hb dL_isDone_448 (by decide) ?_
              refine n_iadd hx hb dL_isDone_450 ?_
              refine n_ialdv (i := ((15 * ev) + 12)) (v := (((gT ev) : Nat) : Int)) hx hb hK hP 0 0 rfl htI (by omega) (by omega) (Nat.le_of_ble_eq_true rfl) h12 dL_isDone_451 ?_
              refine n_icmp_gt (tgt := 467) hx hb (r32_z _) (by unfold r32; omega) dL_isDone_452 (by decide) (fun h452 => False.elim (by omega)) (fun h452 => ?_)
              refine lv_iload hx hb dL_isDone_455 (lv_at hl 3 rfl) ?_
              refine n_sipush hx hb dL_isDone_457 (by decide) ?_
              refine n_icmp_ge (tgt := 467) hx hb (by unfold r32; omega) (by unfold r32; omega) dL_isDone_460 (by decide) (fun h460 => ?_) (fun h460 => False.elim (by omega))
              refine n_iconst hx hb dL_isDone_467 ?_
              refine lv_istore (lv' := [(20, .int (jI 0)), (19, .int (vI zr)), (18, .int (vI zz)), (17, .int (vI zj)), (16, .int (jI 10007)), (15, .int (vI (zc ((gT ev : Nat) : Int)))), (14, .int (jI 0)), (13, .int (jI (((15 * ev) : Nat) : Int))), (12, .int (jI 1)), (11, .int (jI ((ev : Nat) : Int))), (0, .ref x0), (1, .ref ae), (2, .ref aq), (3, .ref av), (4, .ref au), (5, .ref aw), (6, .ref ay), (7, .ref ag), (8, .int (jI 2)), (9, .int (jI ((one : Nat) : Int))), (10, .int (jI ((two : Nat) : Int)))]) hx hb dL_isDone_468 hl (by decide) rfl (fun ls hl => ?_)
              refine lv_iload hx hb dL_isDone_470 (lv_at hl 8 rfl) ?_
              refine n_if_eq (tgt := 484) hx hb (by unfold r32; decide) dL_isDone_472 (by decide) (fun h472 => False.elim (by revert h472; decide)) (fun h472 => ?_)
              refine lv_iload hx hb dL_isDone_475 (lv_at hl 0 rfl) ?_
              refine n_if_eq (tgt := 484) hx hb (by unfold r32; decide) dL_isDone_477 (by decide) (fun h477 => ?_) (fun h477 => False.elim (by revert h477; decide))
              refine n_iconst hx hb dL_isDone_484 ?_
              refine lv_istore (lv' := [(21, .int (jI 0)), (20, .int (jI 0)), (19, .int (vI zr)), (18, .int (vI zz)), (17, .int (vI zj)), (16, .int (jI 10007)), (15, .int (vI (zc ((gT ev : Nat) : Int)))), (14, .int (jI 0)), (13, .int (jI (((15 * ev) : Nat) : Int))), (12, .int (jI 1)), (11, .int (jI ((ev : Nat) : Int))), (0, .ref x0), (1, .ref ae), (2, .ref aq), (3, .ref av), (4, .ref au), (5, .ref aw), (6, .ref ay), (7, .ref ag), (8, .int (jI 2)), (9, .int (jI ((one : Nat) : Int))), (10, .int (jI ((two : Nat) : Int)))]) hx hb dL_isDone_485 hl (by decide) rfl (fun ls hl => ?_)
              refine n_bipush hx hb dL_isDone_487 (by decide) ?_
              refine lv_iload hx hb dL_isDone_489 (lv_at hl 10 rfl) ?_
              refine n_imul hx hb dL_isDone_491 ?_
              refine lv_aload_n hx hb dL_isDone_492 rfl (lv_at hl 12 rfl) ?_
              refine lv_iload hx hb dL_isDone_493 (lv_at hl 8 rfl) ?_
              refine n_bipush hx hb dL_isDone_495 (by decide) ?_
              refine n_iadd hx hb dL_isDone_497 ?_
              refine n_ialdv (i := ((15 * ev) + 14)) (v := (((gN ev) : Nat) : Int)) hx hb hK hP 0 0 rfl htI (by omega) (by omega) (Nat.le_of_ble_eq_true rfl) h14 dL_isDone_498 ?_
              refine n_iadd hx hb dL_isDone_499 ?_
              refine W.eq (g2 := F0 m 500 ls (.int (jI (((8 * ev + gN ev) : Nat) : Int)) :: [])) (congrArg (fun z : Int => F0 m 500 ls (.int (jI z) :: [])) (by omega)) ?_
              refine lv_istore (lv' := [(22, .int (jI (((8 * ev + gN ev) : Nat) : Int))), (21, .int (jI 0)), (20, .int (jI 0)), (19, .int (vI zr)), (18, .int (vI zz)), (17, .int (vI zj)), (16, .int (jI 10007)), (15, .int (vI (zc ((gT ev : Nat) : Int)))), (14, .int (jI 0)), (13, .int (jI (((15 * ev) : Nat) : Int))), (12, .int (jI 1)), (11, .int (jI ((ev : Nat) : Int))), (0, .ref x0), (1, .ref ae), (2, .ref aq), (3, .ref av), (4, .ref au), (5, .ref aw), (6, .ref ay), (7, .ref ag), (8, .int (jI 2)), (9, .int (jI ((one : Nat) : Int))), (10, .int (jI ((two : Nat) : Int)))]) hx hb dL_isDone_500 hl (by decide) rfl (fun ls hl => ?_)
              refine lv_iload hx hb dL_isDone_502 (lv_at hl 1 rfl) ?_
              refine n_if_eq (tgt := 609) hx hb (by unfold r32; decide) dL_isDone_504 (by decide) (fun h504 => ?_) (fun h504 => False.elim (by revert h504; decide))
              refine lv_iload hx hb dL_isDone_609 (lv_at hl 10 rfl) ?_
              refine n_if_ne (tgt := 619) hx hb (by unfold r32; decide) dL_isDone_611 (by decide) (fun h611 => ?_) (fun h611 => False.elim (by revert h611; decide))
              refine lv_iload hx hb dL_isDone_619 (lv_at hl 2 rfl) ?_
              refine n_if_ne (tgt := 629) hx hb (by unfold r32; decide) dL_isDone_621 (by decide) (fun h621 => False.elim (by revert h621; decide)) (fun h621 => ?_)
              refine n_bipush hx hb dL_isDone_624 (by decide) ?_
              refine lv_goto (tgt := 643) hx hb dL_isDone_626 (by decide) ?_
              refine lv_istore (lv' := [(23, .int (jI (-2))), (22, .int (jI (((8 * ev + gN ev) : Nat) : Int))), (21, .int (jI 0)), (20, .int (jI 0)), (19, .int (vI zr)), (18, .int (vI zz)), (17, .int (vI zj)), (16, .int (jI 10007)), (15, .int (vI (zc ((gT ev : Nat) : Int)))), (14, .int (jI 0)), (13, .int (jI (((15 * ev) : Nat) : Int))), (12, .int (jI 1)), (11, .int (jI ((ev : Nat) : Int))), (0, .ref x0), (1, .ref ae), (2, .ref aq), (3, .ref av), (4, .ref au), (5, .ref aw), (6, .ref ay), (7, .ref ag), (8, .int (jI 2)), (9, .int (jI ((one : Nat) : Int))), (10, .int (jI ((two : Nat) : Int)))]) hx hb dL_isDone_643 hl (by decide) rfl (fun ls hl => ?_)
              refine lv_iload hx hb dL_isDone_645 (lv_at hl 9 rfl) ?_
              refine n_if_eq (tgt := 671) hx hb (by unfold r32; decide) dL_isDone_647 (by decide) (fun h647 => ?_) (fun h647 => False.elim (by revert h647; decide))
              refine lv_aload_n hx hb dL_isDone_671 rfl (lv_at hl 13 rfl) ?_
              refine n_iconst hx hb dL_isDone_672 ?_
              refine lv_iload hx hb dL_isDone_673 (lv_at hl 12 rfl) ?_
              refine lv_iload hx hb dL_isDone_675 (lv_at hl 7 rfl) ?_
              refine lv_iload hx hb dL_isDone_677 (lv_at hl 6 rfl) ?_
              refine lv_iload hx hb dL_isDone_679 (lv_at hl 5 rfl) ?_
              refine lv_iload hx hb dL_isDone_681 (lv_at hl 4 rfl) ?_
              refine n_iconst hx hb dL_isDone_683 ?_
              have hC := d_measure2 l hl9 D tys htI htE htM htS htG x0 q0 q1 qr ms es gE gM gB gT gG gN gK gD κ hI ev hev 10007 (zv zj) (zv zz) (zv zr) (by unfold r32; omega) (r32_z _) (r32_z _) (r32_z _) (by rw [show inB 0 10006 10007 = false from inB_f (by omega), Bool.false_and])
              have hW := w_does_measure l D tys x0 q0 q1 qr ms es gE gM gB gT gG gN gK gD κ (jI ((ev : Nat) : Int)) (jI 10007) (vI zj) (vI zz) (vI zr) (jI 0) (ms, es, gE, gM, gB, gT, gG, gN, gK, gD) 2 _ hC
              have hP : va_P D vwCl ((CW cI cE cG cM cS x0 q0 q1 qr (ms, es, gE, gM, gB, gT, gG, gN, gK, gD) κ) ++ [(ae, .inl (cI, 45, .inl (fun i => jI (fe i)))), (aq, .inl (cJ, 16, .inr (.inl (fun i => jL (fq i))))), (av, .inl (cJ, 16, .inr (.inl (fun i => jL (fv i))))), (au, .inl (cJ, 16, .inr (.inl (fun i => jL (fu i))))), (aw, .inl (cJ, 60, .inr (.inl (fun i => vL (fw i))))), (ay, .inl (cJ, 32, .inr (.inl (fun i => vL (fy i))))), (ag, .inl (cI, 2, .inl (fun i => jI ((fg i : Nat) : Int))))]) s.heap := hP.perm (List.perm_append_comm (l₁ := ([(ae, .inl (cI, 45, .inl (fun i => jI (fe i)))), (aq, .inl (cJ, 16, .inr (.inl (fun i => jL (fq i))))), (av, .inl (cJ, 16, .inr (.inl (fun i => jL (fv i))))), (au, .inl (cJ, 16, .inr (.inl (fun i => jL (fu i))))), (aw, .inl (cJ, 60, .inr (.inl (fun i => vL (fw i))))), (ay, .inl (cJ, 32, .inr (.inl (fun i => vL (fy i))))), (ag, .inl (cI, 2, .inl (fun i => jI ((fg i : Nat) : Int))))] : va_W)) (l₂ := (CW cI cE cG cM cS x0 q0 q1 qr (ms, es, gE, gM, gB, gT, gG, gN, gK, gD) κ)))
              have hD : va_D A ((CW cI cE cG cM cS x0 q0 q1 qr (ms, es, gE, gM, gB, gT, gG, gN, gK, gD) κ) ++ [(ae, .inl (cI, 45, .inl (fun i => jI (fe i)))), (aq, .inl (cJ, 16, .inr (.inl (fun i => jL (fq i))))), (av, .inl (cJ, 16, .inr (.inl (fun i => jL (fv i))))), (au, .inl (cJ, 16, .inr (.inl (fun i => jL (fu i))))), (aw, .inl (cJ, 60, .inr (.inl (fun i => vL (fw i))))), (ay, .inl (cJ, 32, .inr (.inl (fun i => vL (fy i))))), (ag, .inl (cI, 2, .inl (fun i => jI ((fg i : Nat) : Int))))]) := hD.perm (List.perm_append_comm (l₁ := ([(ae, .inl (cI, 45, .inl (fun i => jI (fe i)))), (aq, .inl (cJ, 16, .inr (.inl (fun i => jL (fq i))))), (av, .inl (cJ, 16, .inr (.inl (fun i => jL (fv i))))), (au, .inl (cJ, 16, .inr (.inl (fun i => jL (fu i))))), (aw, .inl (cJ, 60, .inr (.inl (fun i => vL (fw i))))), (ay, .inl (cJ, 32, .inr (.inl (fun i => vL (fy i))))), (ag, .inl (cI, 2, .inl (fun i => jI ((fg i : Nat) : Int))))] : va_W)) (l₂ := (CW cI cE cG cM cS x0 q0 q1 qr (ms, es, gE, gM, gB, gT, gG, gN, gK, gD) κ)))
              refine a_goNI (vx_runSW (As := [.ref x0, .int (jI 5), .int (jI ((ev : Nat) : Int)), .int (jI 10007), .int (vI zj), .int (vI zz), .int (vI zr), .int (jI 0)]) (rest := []) ⟨hx, hb, hml, hown, hts⟩ (hW _) (vx_cwSW 8 hts gL_isDone_L_does rfl rfl rfl (by decide +kernel) ⟨(Nat.le_of_ble_eq_true rfl), (Nat.le_of_ble_eq_true rfl)⟩) (c_pre hK hXK hZ hN hP hD hS hA) rfl rfl hl.1 rfl (lv_room (Nat.le_of_ble_eq_true rfl)) dL_isDone_684 ⟨(Nat.le_of_ble_eq_true rfl), (Nat.le_of_ble_eq_true rfl)⟩) hP hD hS hA (fun r κ2 H locs hpost hP hD hS => ?_)
              obtain ⟨hr9, hI2⟩ := hpost
              have hr9 : r = jI (-2) := hr9
              subst hr9
              have hP : va_P D vwCl ((CW cI cE cG cM cS x0 q0 q1 qr (ms, es, gE, gM, gB, gT, gG, gN, gK, gD) κ2) ++ [(ae, .inl (cI, 45, .inl (fun i => jI (fe i)))), (aq, .inl (cJ, 16, .inr (.inl (fun i => jL (fq i))))), (av, .inl (cJ, 16, .inr (.inl (fun i => jL (fv i))))), (au, .inl (cJ, 16, .inr (.inl (fun i => jL (fu i))))), (aw, .inl (cJ, 60, .inr (.inl (fun i => vL (fw i))))), (ay, .inl (cJ, 32, .inr (.inl (fun i => vL (fy i))))), (ag, .inl (cI, 2, .inl (fun i => jI ((fg i : Nat) : Int))))]) H := hP
              have hD : va_D A ((CW cI cE cG cM cS x0 q0 q1 qr (ms, es, gE, gM, gB, gT, gG, gN, gK, gD) κ2) ++ [(ae, .inl (cI, 45, .inl (fun i => jI (fe i)))), (aq, .inl (cJ, 16, .inr (.inl (fun i => jL (fq i))))), (av, .inl (cJ, 16, .inr (.inl (fun i => jL (fv i))))), (au, .inl (cJ, 16, .inr (.inl (fun i => jL (fu i))))), (aw, .inl (cJ, 60, .inr (.inl (fun i => vL (fw i))))), (ay, .inl (cJ, 32, .inr (.inl (fun i => vL (fy i))))), (ag, .inl (cI, 2, .inl (fun i => jI ((fg i : Nat) : Int))))]) := hD
              have hP : va_P D vwCl ((ae, .inl (cI, 45, .inl (fun i => jI (fe i)))) :: (aq, .inl (cJ, 16, .inr (.inl (fun i => jL (fq i))))) :: (av, .inl (cJ, 16, .inr (.inl (fun i => jL (fv i))))) :: (au, .inl (cJ, 16, .inr (.inl (fun i => jL (fu i))))) :: (aw, .inl (cJ, 60, .inr (.inl (fun i => vL (fw i))))) :: (ay, .inl (cJ, 32, .inr (.inl (fun i => vL (fy i))))) :: (ag, .inl (cI, 2, .inl (fun i => jI ((fg i : Nat) : Int)))) :: (CW cI cE cG cM cS x0 q0 q1 qr (ms, es, gE, gM, gB, gT, gG, gN, gK, gD) κ2)) H := hP.perm (List.perm_append_comm (l₁ := (CW cI cE cG cM cS x0 q0 q1 qr (ms, es, gE, gM, gB, gT, gG, gN, gK, gD) κ2)) (l₂ := ([(ae, .inl (cI, 45, .inl (fun i => jI (fe i)))), (aq, .inl (cJ, 16, .inr (.inl (fun i => jL (fq i))))), (av, .inl (cJ, 16, .inr (.inl (fun i => jL (fv i))))), (au, .inl (cJ, 16, .inr (.inl (fun i => jL (fu i))))), (aw, .inl (cJ, 60, .inr (.inl (fun i => vL (fw i))))), (ay, .inl (cJ, 32, .inr (.inl (fun i => vL (fy i))))), (ag, .inl (cI, 2, .inl (fun i => jI ((fg i : Nat) : Int))))] : va_W)))
              have hD : va_D A ((ae, .inl (cI, 45, .inl (fun i => jI (fe i)))) :: (aq, .inl (cJ, 16, .inr (.inl (fun i => jL (fq i))))) :: (av, .inl (cJ, 16, .inr (.inl (fun i => jL (fv i))))) :: (au, .inl (cJ, 16, .inr (.inl (fun i => jL (fu i))))) :: (aw, .inl (cJ, 60, .inr (.inl (fun i => vL (fw i))))) :: (ay, .inl (cJ, 32, .inr (.inl (fun i => vL (fy i))))) :: (ag, .inl (cI, 2, .inl (fun i => jI ((fg i : Nat) : Int)))) :: (CW cI cE cG cM cS x0 q0 q1 qr (ms, es, gE, gM, gB, gT, gG, gN, gK, gD) κ2)) := hD.perm (List.perm_append_comm (l₁ := (CW cI cE cG cM cS x0 q0 q1 qr (ms, es, gE, gM, gB, gT, gG, gN, gK, gD) κ2)) (l₂ := ([(ae, .inl (cI, 45, .inl (fun i => jI (fe i)))), (aq, .inl (cJ, 16, .inr (.inl (fun i => jL (fq i))))), (av, .inl (cJ, 16, .inr (.inl (fun i => jL (fv i))))), (au, .inl (cJ, 16, .inr (.inl (fun i => jL (fu i))))), (aw, .inl (cJ, 60, .inr (.inl (fun i => vL (fw i))))), (ay, .inl (cJ, 32, .inr (.inl (fun i => vL (fy i))))), (ag, .inl (cI, 2, .inl (fun i => jI ((fg i : Nat) : Int))))] : va_W)))
              refine lv_iload hx hb dL_isDone_687 (lv_at hl 0 rfl) ?_
              refine n_icmp_ne (tgt := 696) hx hb (by unfold r32; omega) (by unfold r32; omega) dL_isDone_689 (by decide) (fun h689 => False.elim (h689 rfl)) (fun h689 => ?_)
              refine n_iconst hx hb dL_isDone_692 ?_
              refine lv_goto (tgt := 697) hx hb dL_isDone_693 (by decide) ?_
              refine W.widen (k := 228) (n := 867) (Nat.le_of_ble_eq_true rfl) (Nat.le_of_ble_eq_true rfl) ?_
              exact y_zret (b := true) ((ms, es, gE, gM, gB, gT, gG, gN, gK, gD), κ2, fe, fq, fv, fu, fw, fy) hx hb hr hlocks dL_isDone_697 hP hD hS rfl ⟨rfl, hI2, hL.up⟩
            by_cases h0 : two / 10 % 9 = 0
            · refine n_if_ne (tgt := 432) hx hb (by unfold r32; omega) dL_isDone_425 (by decide) (fun h425 => False.elim (by omega)) (fun h425 => ?_)
              refine n_iconst hx hb dL_isDone_428 ?_
              refine lv_goto (tgt := 441) hx hb dL_isDone_429 (by decide) ?_
              refine W.eq (g2 := F0 m 441 ls (.int (vI zr) :: [])) (congrArg (fun z : Int => F0 m 441 ls (.int (jI z) :: [])) (by rw [ezr, if_pos h0]; rfl)) ?_
              exact hk
            · refine n_if_ne (tgt := 432) hx hb (by unfold r32; omega) dL_isDone_425 (by decide) (fun h425 => ?_) (fun h425 => False.elim (by omega))
              refine lv_iload hx hb dL_isDone_432 (lv_at hl 18 rfl) ?_
              refine n_bipush hx hb dL_isDone_434 (by decide) ?_
              refine n_idivv (v := (((two / 10) : Nat) : Int)) hx hb dL_isDone_436 (by omega) (by omega) (by omega) (by omega) (by omega) ?_
              refine n_sipush hx hb dL_isDone_437 (by decide) ?_
              refine n_iremv (v := (zv zr)) hx hb dL_isDone_440 (by omega) (by omega) (by omega) (by omega) (by rw [ezr, if_neg h0]; omega) ?_
              exact hk
          · refine n_icmp_ne (tgt := 390) hx hb (by unfold r32; omega) (by unfold r32; omega) dL_isDone_381 (by decide) (fun h381 => ?_) (fun h381 => False.elim (by omega))
            refine lv_iload hx hb dL_isDone_390 (lv_at hl 14 rfl) ?_
            refine n_iconst hx hb dL_isDone_392 ?_
            refine n_idivv (v := (((one / 3) : Nat) : Int)) hx hb dL_isDone_393 (by omega) (by omega) (by omega) (by omega) (by omega) ?_
            refine n_iconst hx hb dL_isDone_394 ?_
            refine n_iremv (v := (zv zh)) hx hb dL_isDone_395 (by omega) (by omega) (by omega) (by omega) (by omega) ?_
            refine lv_istore (lv' := [(16, .int (vI zh)), (15, .int (vI (zc ((gT ev : Nat) : Int)))), (14, .int (jI 0)), (13, .int (jI (((15 * ev) : Nat) : Int))), (12, .int (jI 1)), (11, .int (jI ((ev : Nat) : Int))), (0, .ref x0), (1, .ref ae), (2, .ref aq), (3, .ref av), (4, .ref au), (5, .ref aw), (6, .ref ay), (7, .ref ag), (8, .int (jI 2)), (9, .int (jI ((one : Nat) : Int))), (10, .int (jI ((two : Nat) : Int)))]) hx hb dL_isDone_396 hl (by decide) rfl (fun ls hl => ?_)
            refine lv_iload hx hb dL_isDone_398 (lv_at hl 16 rfl) ?_
            refine n_iconst hx hb dL_isDone_400 ?_
            refine n_idivv (v := (((two / 2) : Nat) : Int)) hx hb dL_isDone_401 (by omega) (by omega) (by omega) (by omega) (by omega) ?_
            refine n_iconst hx hb dL_isDone_402 ?_
            refine n_iremv (v := (zv zj)) hx hb dL_isDone_403 (by omega) (by omega) (by omega) (by omega) (by omega) ?_
            refine lv_istore (lv' := [(17, .int (vI zj)), (16, .int (vI zh)), (15, .int (vI (zc ((gT ev : Nat) : Int)))), (14, .int (jI 0)), (13, .int (jI (((15 * ev) : Nat) : Int))), (12, .int (jI 1)), (11, .int (jI ((ev : Nat) : Int))), (0, .ref x0), (1, .ref ae), (2, .ref aq), (3, .ref av), (4, .ref au), (5, .ref aw), (6, .ref ay), (7, .ref ag), (8, .int (jI 2)), (9, .int (jI ((one : Nat) : Int))), (10, .int (jI ((two : Nat) : Int)))]) hx hb dL_isDone_404 hl (by decide) rfl (fun ls hl => ?_)
            refine lv_iload hx hb dL_isDone_406 (lv_at hl 16 rfl) ?_
            refine n_bipush hx hb dL_isDone_408 (by decide) ?_
            refine n_idivv (v := (((one / 11) : Nat) : Int)) hx hb dL_isDone_410 (by omega) (by omega) (by omega) (by omega) (by omega) ?_
            refine n_sipush hx hb dL_isDone_411 (by decide) ?_
            refine n_iremv (v := (zv zz)) hx hb dL_isDone_414 (by omega) (by omega) (by omega) (by omega) (by omega) ?_
            refine lv_istore (lv' := [(18, .int (vI zz)), (17, .int (vI zj)), (16, .int (vI zh)), (15, .int (vI (zc ((gT ev : Nat) : Int)))), (14, .int (jI 0)), (13, .int (jI (((15 * ev) : Nat) : Int))), (12, .int (jI 1)), (11, .int (jI ((ev : Nat) : Int))), (0, .ref x0), (1, .ref ae), (2, .ref aq), (3, .ref av), (4, .ref au), (5, .ref aw), (6, .ref ay), (7, .ref ag), (8, .int (jI 2)), (9, .int (jI ((one : Nat) : Int))), (10, .int (jI ((two : Nat) : Int)))]) hx hb dL_isDone_415 hl (by decide) rfl (fun ls hl => ?_)
            refine lv_iload hx hb dL_isDone_417 (lv_at hl 18 rfl) ?_
            refine n_bipush hx hb dL_isDone_419 (by decide) ?_
            refine n_idivv (v := (((two / 10) : Nat) : Int)) hx hb dL_isDone_421 (by omega) (by omega) (by omega) (by omega) (by omega) ?_
            refine n_bipush hx hb dL_isDone_422 (by decide) ?_
            refine n_iremv (v := (((two / 10 % 9) : Nat) : Int)) hx hb dL_isDone_424 (by omega) (by omega) (by omega) (by omega) (by omega) ?_
            have hk : W p l e { frames := 12, cells := 228, slots := 867, locals := 268 } s m ([Value.ref x0, .ref ae, .ref aq, .ref av, .ref au, .ref aw, .ref ay, .ref ag, .int (jI 2), .int (jI ((one : Nat) : Int)), .int (jI ((two : Nat) : Int))] : List Value).toArray below meth c9 s.heap [] 0 0 (MQ below (ENI D A (fun (r : Int32) (u : SG × (Nat → EG) × (Nat → Int) × (Nat → Int) × (Nat → Int) × (Nat → Int) × (Nat → Zp) × (Nat → Zp)) => r = jI (iB true) ∧ INV u.1 u.2.1 ∧ LI u.1 fm u.2.2.1 u.2.2.2.1 u.2.2.2.2.1 u.2.2.2.2.2.1 fg (c + 1)) (fun (u : SG × (Nat → EG) × (Nat → Int) × (Nat → Int) × (Nat → Int) × (Nat → Int) × (Nat → Zp) × (Nat → Zp)) => ((ae, .inl (cI, 45, .inl (fun i => jI (u.2.2.1 i)))) :: (aq, .inl (cJ, 16, .inr (.inl (fun i => jL (u.2.2.2.1 i))))) :: (av, .inl (cJ, 16, .inr (.inl (fun i => jL (u.2.2.2.2.1 i))))) :: (au, .inl (cJ, 16, .inr (.inl (fun i => jL (u.2.2.2.2.2.1 i))))) :: (aw, .inl (cJ, 60, .inr (.inl (fun i => vL (u.2.2.2.2.2.2.1 i))))) :: (ay, .inl (cJ, 32, .inr (.inl (fun i => vL (u.2.2.2.2.2.2.2 i))))) :: (ag, .inl (cI, 2, .inl (fun i => jI ((fg i : Nat) : Int)))) :: (CW cI cE cG cM cS x0 q0 q1 qr u.1 u.2.1))) (fun _ => [])) ([Value.ref x0, .ref ae, .ref aq, .ref av, .ref au, .ref aw, .ref ay, .ref ag, .int (jI 2), .int (jI ((one : Nat) : Int)), .int (jI ((two : Nat) : Int))] : List Value).toArray s 228 867 A) (F0 m 441 ls [.int (vI zr)]) := by
              refine lv_istore (lv' := [(19, .int (vI zr)), (18, .int (vI zz)), (17, .int (vI zj)), (16, .int (vI zh)), (15, .int (vI (zc ((gT ev : Nat) : Int)))), (14, .int (jI 0)), (13, .int (jI (((15 * ev) : Nat) : Int))), (12, .int (jI 1)), (11, .int (jI ((ev : Nat) : Int))), (0, .ref x0), (1, .ref ae), (2, .ref aq), (3, .ref av), (4, .ref au), (5, .ref aw), (6, .ref ay), (7, .ref ag), (8, .int (jI 2)), (9, .int (jI ((one : Nat) : Int))), (10, .int (jI ((two : Nat) : Int)))]) hx hb dL_isDone_441 hl (by decide) rfl (fun ls hl => ?_)
              refine lv_iload hx hb dL_isDone_443 (lv_at hl 4 rfl) ?_
              refine lv_aload_n hx hb dL_isDone_445 rfl (lv_at hl 10 rfl) ?_
              refine lv_iload hx hb dL_isDone_446 (lv_at hl 6 rfl) ?_
              refine n_bipush hx hb dL_isDone_448 (by decide) ?_
              refine n_iadd hx hb dL_isDone_450 ?_
              refine n_ialdv (i := ((15 * ev) + 12)) (v := (((gT ev) : Nat) : Int)) hx hb hK hP 0 0 rfl htI (by omega) (by omega) (Nat.le_of_ble_eq_true rfl) h12 dL_isDone_451 ?_
              refine n_icmp_gt (tgt := 467) hx hb (r32_z _) (by unfold r32; omega) dL_isDone_452 (by decide) (fun h452 => False.elim (by omega)) (fun h452 => ?_)
              refine lv_iload hx hb dL_isDone_455 (lv_at hl 3 rfl) ?_
              refine n_sipush hx hb dL_isDone_457 (by decide) ?_
              refine n_icmp_ge (tgt := 467) hx hb (r32_z _) (by unfold r32; omega) dL_isDone_460 (by decide) (fun h460 => False.elim (by omega)) (fun h460 => ?_)
              refine n_iconst hx hb dL_isDone_463 ?_
              refine lv_goto (tgt := 468) hx hb dL_isDone_464 (by decide) ?_
              refine lv_istore (lv' := [(20, .int (jI 1)), (19, .int (vI zr)), (18, .int (vI zz)), (17, .int (vI zj)), (16, .int (vI zh)), (15, .int (vI (zc ((gT ev : Nat) : Int)))), (14, .int (jI 0)), (13, .int (jI (((15 * ev) : Nat) : Int))), (12, .int (jI 1)), (11, .int (jI ((ev : Nat) : Int))), (0, .ref x0), (1, .ref ae), (2, .ref aq), (3, .ref av), (4, .ref au), (5, .ref aw), (6, .ref ay), (7, .ref ag), (8, .int (jI 2)), (9, .int (jI ((one : Nat) : Int))), (10, .int (jI ((two : Nat) : Int)))]) hx hb dL_isDone_468 hl (by decide) rfl (fun ls hl => ?_)
              refine lv_iload hx hb dL_isDone_470 (lv_at hl 8 rfl) ?_
              refine n_if_eq (tgt := 484) hx hb (by unfold r32; decide) dL_isDone_472 (by decide) (fun h472 => False.elim (by revert h472; decide)) (fun h472 => ?_)
              refine lv_iload hx hb dL_isDone_475 (lv_at hl 0 rfl) ?_
              refine n_if_eq (tgt := 484) hx hb (by unfold r32; decide) dL_isDone_477 (by decide) (fun h477 => False.elim (by revert h477; decide)) (fun h477 => ?_)
              refine n_iconst hx hb dL_isDone_480 ?_
              refine lv_goto (tgt := 485) hx hb dL_isDone_481 (by decide) ?_
              refine lv_istore (lv' := [(21, .int (jI 1)), (20, .int (jI 1)), (19, .int (vI zr)), (18, .int (vI zz)), (17, .int (vI zj)), (16, .int (vI zh)), (15, .int (vI (zc ((gT ev : Nat) : Int)))), (14, .int (jI 0)), (13, .int (jI (((15 * ev) : Nat) : Int))), (12, .int (jI 1)), (11, .int (jI ((ev : Nat) : Int))), (0, .ref x0), (1, .ref ae), (2, .ref aq), (3, .ref av), (4, .ref au), (5, .ref aw), (6, .ref ay), (7, .ref ag), (8, .int (jI 2)), (9, .int (jI ((one : Nat) : Int))), (10, .int (jI ((two : Nat) : Int)))]) hx hb dL_isDone_485 hl (by decide) rfl (fun ls hl => ?_)
              refine n_bipush hx hb dL_isDone_487 (by decide) ?_
              refine lv_iload hx hb dL_isDone_489 (lv_at hl 10 rfl) ?_
              refine n_imul hx hb dL_isDone_491 ?_
              refine lv_aload_n hx hb dL_isDone_492 rfl (lv_at hl 12 rfl) ?_
              refine lv_iload hx hb dL_isDone_493 (lv_at hl 8 rfl) ?_
              refine n_bipush hx hb dL_isDone_495 (by decide) ?_
              refine n_iadd hx hb dL_isDone_497 ?_
              refine n_ialdv (i := ((15 * ev) + 14)) (v := (((gN ev) : Nat) : Int)) hx hb hK hP 0 0 rfl htI (by omega) (by omega) (Nat.le_of_ble_eq_true rfl) h14 dL_isDone_498 ?_
              refine n_iadd hx hb dL_isDone_499 ?_
              refine W.eq (g2 := F0 m 500 ls (.int (jI (((8 * ev + gN ev) : Nat) : Int)) :: [])) (congrArg (fun z : Int => F0 m 500 ls (.int (jI z) :: [])) (by omega)) ?_
              refine lv_istore (lv' := [(22, .int (jI (((8 * ev + gN ev) : Nat) : Int))), (21, .int (jI 1)), (20, .int (jI 1)), (19, .int (vI zr)), (18, .int (vI zz)), (17, .int (vI zj)), (16, .int (vI zh)), (15, .int (vI (zc ((gT ev : Nat) : Int)))), (14, .int (jI 0)), (13, .int (jI (((15 * ev) : Nat) : Int))), (12, .int (jI 1)), (11, .int (jI ((ev : Nat) : Int))), (0, .ref x0), (1, .ref ae), (2, .ref aq), (3, .ref av), (4, .ref au), (5, .ref aw), (6, .ref ay), (7, .ref ag), (8, .int (jI 2)), (9, .int (jI ((one : Nat) : Int))), (10, .int (jI ((two : Nat) : Int)))]) hx hb dL_isDone_500 hl (by decide) rfl (fun ls hl => ?_)
              refine lv_iload hx hb dL_isDone_502 (lv_at hl 1 rfl) ?_
              refine n_if_eq (tgt := 609) hx hb (by unfold r32; decide) dL_isDone_504 (by decide) (fun h504 => False.elim (by revert h504; decide)) (fun h504 => ?_)
              refine lv_aload_n hx hb dL_isDone_507 rfl (lv_at hl 14 rfl) ?_
              refine lv_iload hx hb dL_isDone_508 (lv_at hl 0 rfl) ?_
              refine lv_iload hx hb dL_isDone_510 (lv_at hl 6 rfl) ?_
              refine n_i2lZ hx hb dL_isDone_512 ?_
              refine n_bipush hx hb dL_isDone_513 (by decide) ?_
              refine n_lshlv hx hb dL_isDone_515 (by omega) ?_
              refine lv_ldc2 (v := jL (16)) hx hb hown k84 dL_isDone_516 ?_
              refine lv_aload_n hx hb dL_isDone_519 rfl (lv_at hl 13 rfl) ?_
              refine lv_iload hx hb dL_isDone_520 (lv_at hl 9 rfl) ?_
              refine n_bipush hx hb dL_isDone_522 (by decide) ?_
              refine n_iadd hx hb dL_isDone_524 ?_
              refine n_ialdv (i := ((15 * ev) + 13)) (v := (zv (gG ev))) hx hb hK hP 0 0 rfl htI (by omega) (by omega) (Nat.le_of_ble_eq_true rfl) h13 dL_isDone_525 ?_
              refine n_iconst hx hb dL_isDone_526 ?_
              refine n_iadd hx hb dL_isDone_527 ?_
              refine n_i2l hx hb dL_isDone_528 (by omega) (by omega) ?_
              refine n_lmul hx hb dL_isDone_529 ?_
              refine n_ladd hx hb dL_isDone_530 ?_
              refine lv_iload hx hb dL_isDone_531 (lv_at hl 7 rfl) ?_
              refine n_i2lZ hx hb dL_isDone_533 ?_
              refine n_ladd hx hb dL_isDone_534 ?_
              refine W.eq (g2 := F0 m 535 ls (.long (jL (zv zh * 4294967296 + (16 * (zv (gG ev) + 1) + zv (zc ((gT ev : Nat) : Int))))) :: [.int (jI (((8 * ev + gN ev) : Nat) : Int)), .ref aq])) (congrArg (fun z : Int => F0 m 535 ls (.long (jL z) :: [.int (jI (((8 * ev + gN ev) : Nat) : Int)), .ref aq])) (by omega)) ?_
              refine n_last (i := (8 * ev + gN ev)) hx hb hK hP hD hS 1 1 rfl htJ rfl (by omega) (Nat.le_of_ble_eq_true rfl) dL_isDone_535 (fun H locs hP hD hS => ?_)
              have hP : va_P D vwCl ((ae, .inl (cI, 45, .inl (fun i => jI (fe i)))) :: (aq, .inl (cJ, 16, .inr (.inl (fun i => jL ((va_up fq (8 * ev + gN ev) (zv zh * 4294967296 + (16 * (zv (gG ev) + 1) + zv (zc ((gT ev : Nat) : Int))))) i))))) :: (av, .inl (cJ, 16, .inr (.inl (fun i => jL (fv i))))) :: (au, .inl (cJ, 16, .inr (.inl (fun i => jL (fu i))))) :: (aw, .inl (cJ, 60, .inr (.inl (fun i => vL (fw i))))) :: (ay, .inl (cJ, 32, .inr (.inl (fun i => vL (fy i))))) :: (ag, .inl (cI, 2, .inl (fun i => jI ((fg i : Nat) : Int)))) :: (CW cI cE cG cM cS x0 q0 q1 qr (ms, es, gE, gM, gB, gT, gG, gN, gK, gD) κ)) H := hP
              have hD : va_D A ((ae, .inl (cI, 45, .inl (fun i => jI (fe i)))) :: (aq, .inl (cJ, 16, .inr (.inl (fun i => jL ((va_up fq (8 * ev + gN ev) (zv zh * 4294967296 + (16 * (zv (gG ev) + 1) + zv (zc ((gT ev : Nat) : Int))))) i))))) :: (av, .inl (cJ, 16, .inr (.inl (fun i => jL (fv i))))) :: (au, .inl (cJ, 16, .inr (.inl (fun i => jL (fu i))))) :: (aw, .inl (cJ, 60, .inr (.inl (fun i => vL (fw i))))) :: (ay, .inl (cJ, 32, .inr (.inl (fun i => vL (fy i))))) :: (ag, .inl (cI, 2, .inl (fun i => jI ((fg i : Nat) : Int)))) :: (CW cI cE cG cM cS x0 q0 q1 qr (ms, es, gE, gM, gB, gT, gG, gN, gK, gD) κ)) := hD
              refine lv_aload_n hx hb dL_isDone_536 rfl (lv_at hl 15 rfl) ?_
              refine lv_iload hx hb dL_isDone_537 (lv_at hl 0 rfl) ?_
              refine lv_iload hx hb dL_isDone_539 (lv_at hl 5 rfl) ?_
              refine n_i2lZ hx hb dL_isDone_541 ?_
              refine n_bipush hx hb dL_isDone_542 (by decide) ?_
              refine n_lshlv hx hb dL_isDone_544 (by omega) ?_
              refine lv_iload hx hb dL_isDone_545 (lv_at hl 4 rfl) ?_
              refine n_i2lZ hx hb dL_isDone_547 ?_
              refine n_ladd hx hb dL_isDone_548 ?_
              refine n_last (i := (8 * ev + gN ev)) hx hb hK hP hD hS 2 1 rfl htJ rfl (by omega) (Nat.le_of_ble_eq_true rfl) dL_isDone_549 (fun H locs hP hD hS => ?_)
              have hP : va_P D vwCl ((ae, .inl (cI, 45, .inl (fun i => jI (fe i)))) :: (aq, .inl (cJ, 16, .inr (.inl (fun i => jL ((va_up fq (8 * ev + gN ev) (zv zh * 4294967296 + (16 * (zv (gG ev) + 1) + zv (zc ((gT ev : Nat) : Int))))) i))))) :: (av, .inl (cJ, 16, .inr (.inl (fun i => jL ((va_up fv (8 * ev + gN ev) ((zv zj * 4294967296) + zv zz)) i))))) :: (au, .inl (cJ, 16, .inr (.inl (fun i => jL (fu i))))) :: (aw, .inl (cJ, 60, .inr (.inl (fun i => vL (fw i))))) :: (ay, .inl (cJ, 32, .inr (.inl (fun i => vL (fy i))))) :: (ag, .inl (cI, 2, .inl (fun i => jI ((fg i : Nat) : Int)))) :: (CW cI cE cG cM cS x0 q0 q1 qr (ms, es, gE, gM, gB, gT, gG, gN, gK, gD) κ)) H := hP
              have hD : va_D A ((ae, .inl (cI, 45, .inl (fun i => jI (fe i)))) :: (aq, .inl (cJ, 16, .inr (.inl (fun i => jL ((va_up fq (8 * ev + gN ev) (zv zh * 4294967296 + (16 * (zv (gG ev) + 1) + zv (zc ((gT ev : Nat) : Int))))) i))))) :: (av, .inl (cJ, 16, .inr (.inl (fun i => jL ((va_up fv (8 * ev + gN ev) ((zv zj * 4294967296) + zv zz)) i))))) :: (au, .inl (cJ, 16, .inr (.inl (fun i => jL (fu i))))) :: (aw, .inl (cJ, 60, .inr (.inl (fun i => vL (fw i))))) :: (ay, .inl (cJ, 32, .inr (.inl (fun i => vL (fy i))))) :: (ag, .inl (cI, 2, .inl (fun i => jI ((fg i : Nat) : Int)))) :: (CW cI cE cG cM cS x0 q0 q1 qr (ms, es, gE, gM, gB, gT, gG, gN, gK, gD) κ)) := hD
              refine lv_aload hx hb dL_isDone_550 (lv_at hl 16 rfl) ?_
              refine lv_iload hx hb dL_isDone_552 (lv_at hl 0 rfl) ?_
              refine lv_ldc2 (v := jL (2)) hx hb hown k86 dL_isDone_554 ?_
              refine lv_iload hx hb dL_isDone_557 (lv_at hl 3 rfl) ?_
              refine n_i2lZ hx hb dL_isDone_559 ?_
              refine n_lmul hx hb dL_isDone_560 ?_
              refine n_last (i := (8 * ev + gN ev)) hx hb hK hP hD hS 3 1 rfl htJ rfl (by omega) (Nat.le_of_ble_eq_true rfl) dL_isDone_561 (fun H locs hP hD hS => ?_)
              have hP : va_P D vwCl ((ae, .inl (cI, 45, .inl (fun i => jI (fe i)))) :: (aq, .inl (cJ, 16, .inr (.inl (fun i => jL ((va_up fq (8 * ev + gN ev) (zv zh * 4294967296 + (16 * (zv (gG ev) + 1) + zv (zc ((gT ev : Nat) : Int))))) i))))) :: (av, .inl (cJ, 16, .inr (.inl (fun i => jL ((va_up fv (8 * ev + gN ev) ((zv zj * 4294967296) + zv zz)) i))))) :: (au, .inl (cJ, 16, .inr (.inl (fun i => jL ((va_up fu (8 * ev + gN ev) (2 * zv zr)) i))))) :: (aw, .inl (cJ, 60, .inr (.inl (fun i => vL (fw i))))) :: (ay, .inl (cJ, 32, .inr (.inl (fun i => vL (fy i))))) :: (ag, .inl (cI, 2, .inl (fun i => jI ((fg i : Nat) : Int)))) :: (CW cI cE cG cM cS x0 q0 q1 qr (ms, es, gE, gM, gB, gT, gG, gN, gK, gD) κ)) H := hP
              have hD : va_D A ((ae, .inl (cI, 45, .inl (fun i => jI (fe i)))) :: (aq, .inl (cJ, 16, .inr (.inl (fun i => jL ((va_up fq (8 * ev + gN ev) (zv zh * 4294967296 + (16 * (zv (gG ev) + 1) + zv (zc ((gT ev : Nat) : Int))))) i))))) :: (av, .inl (cJ, 16, .inr (.inl (fun i => jL ((va_up fv (8 * ev + gN ev) ((zv zj * 4294967296) + zv zz)) i))))) :: (au, .inl (cJ, 16, .inr (.inl (fun i => jL ((va_up fu (8 * ev + gN ev) (2 * zv zr)) i))))) :: (aw, .inl (cJ, 60, .inr (.inl (fun i => vL (fw i))))) :: (ay, .inl (cJ, 32, .inr (.inl (fun i => vL (fy i))))) :: (ag, .inl (cI, 2, .inl (fun i => jI ((fg i : Nat) : Int)))) :: (CW cI cE cG cM cS x0 q0 q1 qr (ms, es, gE, gM, gB, gT, gG, gN, gK, gD) κ)) := hD
              refine lv_aload_n hx hb dL_isDone_562 rfl (lv_at hl 13 rfl) ?_
              refine lv_iload hx hb dL_isDone_563 (lv_at hl 9 rfl) ?_
              refine n_bipush hx hb dL_isDone_565 (by decide) ?_
              refine n_iadd hx hb dL_isDone_567 ?_
              refine lv_dup2_11 hx hb dL_isDone_568 rfl rfl ?_
              refine n_ialdv (i := ((15 * ev) + 14)) (v := (((gN ev) : Nat) : Int)) hx hb hK hP 0 0 rfl htI (by omega) (by omega) (Nat.le_of_ble_eq_true rfl) h14 dL_isDone_569 ?_
              refine n_iconst hx hb dL_isDone_570 ?_
              refine n_iadd hx hb dL_isDone_571 ?_
              refine W.eq (g2 := F0 m 572 ls (.int (jI (((gN ev + 1) : Nat) : Int)) :: [.int (jI ((((15 * ev) : Nat) : Int) + 14)), .ref ae])) (congrArg (fun z : Int => F0 m 572 ls (.int (jI z) :: [.int (jI ((((15 * ev) : Nat) : Int) + 14)), .ref ae])) (by omega)) ?_
              refine n_iast (i := (15 * ev + 14)) hx hb hK hP hD hS 0 0 rfl htI (by omega) (by omega) (Nat.le_of_ble_eq_true rfl) dL_isDone_572 (fun H locs hP hD hS => ?_)
              have hP : va_P D vwCl ((ae, .inl (cI, 45, .inl (fun i => jI ((va_up fe (15 * ev + 14) (((gN ev + 1) : Nat) : Int)) i)))) :: (aq, .inl (cJ, 16, .inr (.inl (fun i => jL ((va_up fq (8 * ev + gN ev) (zv zh * 4294967296 + (16 * (zv (gG ev) + 1) + zv (zc ((gT ev : Nat) : Int))))) i))))) :: (av, .inl (cJ, 16, .inr (.inl (fun i => jL ((va_up fv (8 * ev + gN ev) ((zv zj * 4294967296) + zv zz)) i))))) :: (au, .inl (cJ, 16, .inr (.inl (fun i => jL ((va_up fu (8 * ev + gN ev) (2 * zv zr)) i))))) :: (aw, .inl (cJ, 60, .inr (.inl (fun i => vL (fw i))))) :: (ay, .inl (cJ, 32, .inr (.inl (fun i => vL (fy i))))) :: (ag, .inl (cI, 2, .inl (fun i => jI ((fg i : Nat) : Int)))) :: (CW cI cE cG cM cS x0 q0 q1 qr (ms, es, gE, gM, gB, gT, gG, gN, gK, gD) κ)) H := hP
              have hD : va_D A ((ae, .inl (cI, 45, .inl (fun i => jI ((va_up fe (15 * ev + 14) (((gN ev + 1) : Nat) : Int)) i)))) :: (aq, .inl (cJ, 16, .inr (.inl (fun i => jL ((va_up fq (8 * ev + gN ev) (zv zh * 4294967296 + (16 * (zv (gG ev) + 1) + zv (zc ((gT ev : Nat) : Int))))) i))))) :: (av, .inl (cJ, 16, .inr (.inl (fun i => jL ((va_up fv (8 * ev + gN ev) ((zv zj * 4294967296) + zv zz)) i))))) :: (au, .inl (cJ, 16, .inr (.inl (fun i => jL ((va_up fu (8 * ev + gN ev) (2 * zv zr)) i))))) :: (aw, .inl (cJ, 60, .inr (.inl (fun i => vL (fw i))))) :: (ay, .inl (cJ, 32, .inr (.inl (fun i => vL (fy i))))) :: (ag, .inl (cI, 2, .inl (fun i => jI ((fg i : Nat) : Int)))) :: (CW cI cE cG cM cS x0 q0 q1 qr (ms, es, gE, gM, gB, gT, gG, gN, gK, gD) κ)) := hD
              refine lv_aload_n hx hb dL_isDone_573 rfl (lv_at hl 13 rfl) ?_
              refine lv_aload_n hx hb dL_isDone_574 rfl (lv_at hl 14 rfl) ?_
              refine lv_aload_n hx hb dL_isDone_575 rfl (lv_at hl 15 rfl) ?_
              refine lv_aload hx hb dL_isDone_576 (lv_at hl 16 rfl) ?_
              refine lv_aload hx hb dL_isDone_578 (lv_at hl 17 rfl) ?_
              refine lv_aload hx hb dL_isDone_580 (lv_at hl 18 rfl) ?_
              refine lv_iload hx hb dL_isDone_582 (lv_at hl 11 rfl) ?_
              have hMg := hMW.told (tt := (zc ((gT ev : Nat) : Int))) (h0 := zh) (h1 := zj) (zz := zz) (rr := zr) (th := gG ev) (hZ8 (gN ev) (Nat.le_refl _) (by omega))
              have hEg := hEW.count (N' := gN ev + 1) (x := ((gN ev + 1 : Nat) : Int)) rfl
              have htmg : ∀ k, k < gN ev + 1 → ((told6 gK (6 * (30 * ev + gN ev)) (zc ((gT ev : Nat) : Int)) zh zj zz zr (gG ev)) (6 * (30 * ev + k) + 0)).val ≤ gT ev := by
                intro k hk9
                by_cases hkn : k = gN ev
                · rw [hkn, told_n (by omega)]; show ((zc ((gT ev : Nat) : Int)) : Zp).val ≤ gT ev; unfold zv at ett; omega
                · rw [told_o (by omega)]; exact (hI.2.2.1 ev hev).2.2.2.2 k (by omega)
              have ctg := c_L_goes l D tys htI htJ ae aq av au aw ay ev (va_up fe (15 * ev + 14) (((gN ev + 1) : Nat) : Int)) (va_up fq (8 * ev + gN ev) (zv zh * 4294967296 + (16 * (zv (gG ev) + 1) + zv (zc ((gT ev : Nat) : Int))))) (va_up fv (8 * ev + gN ev) ((zv zj * 4294967296) + zv zz)) (va_up fu (8 * ev + gN ev) (2 * zv zr)) fw fy (fun i => gM (7 * ev + i)) (s5at gB ev) (fun k c => (told6 gK (6 * (30 * ev + gN ev)) (zc ((gT ev : Nat) : Int)) zh zj zz zr (gG ev)) (6 * (30 * ev + k) + c)) (fun k => gD (30 * ev + k)) (gT ev) (gN ev + 1) (by omega) (by omega) (by omega) hEg hMg htmg
              refine k_goE (va_runS (As := [.ref ae, .ref aq, .ref av, .ref au, .ref aw, .ref ay, .int (jI ((ev : Nat) : Int))]) (rest := []) ⟨hx, hb, hml, hown, hts⟩ (ctg.2 _) (va_cwS 7 hts gL_isDone_L_goes rfl rfl rfl (by decide +kernel) ⟨(Nat.le_of_ble_eq_true rfl), (Nat.le_of_ble_eq_true rfl)⟩) (k_pre hK hP hD (is := [0, 1, 2, 3, 4, 5]) rfl rfl) rfl rfl hl.1 rfl (lv_room (Nat.le_of_ble_eq_true rfl)) dL_isDone_584 ⟨(Nat.le_of_ble_eq_true rfl), (Nat.le_of_ble_eq_true rfl)⟩) ctg.1 hP hD hS hA [0, 1, 2, 3, 4, 5] rfl rfl (fun r u H locs hgo hP hD hS => ?_)
              obtain ⟨fw2, fy2⟩ := u
              have hP : va_P D vwCl ((ae, .inl (cI, 45, .inl (fun i => jI ((va_up fe (15 * ev + 14) (((gN ev + 1) : Nat) : Int)) i)))) :: (aq, .inl (cJ, 16, .inr (.inl (fun i => jL ((va_up fq (8 * ev + gN ev) (zv zh * 4294967296 + (16 * (zv (gG ev) + 1) + zv (zc ((gT ev : Nat) : Int))))) i))))) :: (av, .inl (cJ, 16, .inr (.inl (fun i => jL ((va_up fv (8 * ev + gN ev) ((zv zj * 4294967296) + zv zz)) i))))) :: (au, .inl (cJ, 16, .inr (.inl (fun i => jL ((va_up fu (8 * ev + gN ev) (2 * zv zr)) i))))) :: (aw, .inl (cJ, 60, .inr (.inl (fun i => vL (fw2 i))))) :: (ay, .inl (cJ, 32, .inr (.inl (fun i => vL (fy2 i))))) :: (ag, .inl (cI, 2, .inl (fun i => jI ((fg i : Nat) : Int)))) :: (CW cI cE cG cM cS x0 q0 q1 qr (ms, es, gE, gM, gB, gT, gG, gN, gK, gD) κ)) H := hP
              have hD : va_D A ((ae, .inl (cI, 45, .inl (fun i => jI ((va_up fe (15 * ev + 14) (((gN ev + 1) : Nat) : Int)) i)))) :: (aq, .inl (cJ, 16, .inr (.inl (fun i => jL ((va_up fq (8 * ev + gN ev) (zv zh * 4294967296 + (16 * (zv (gG ev) + 1) + zv (zc ((gT ev : Nat) : Int))))) i))))) :: (av, .inl (cJ, 16, .inr (.inl (fun i => jL ((va_up fv (8 * ev + gN ev) ((zv zj * 4294967296) + zv zz)) i))))) :: (au, .inl (cJ, 16, .inr (.inl (fun i => jL ((va_up fu (8 * ev + gN ev) (2 * zv zr)) i))))) :: (aw, .inl (cJ, 60, .inr (.inl (fun i => vL (fw2 i))))) :: (ay, .inl (cJ, 32, .inr (.inl (fun i => vL (fy2 i))))) :: (ag, .inl (cI, 2, .inl (fun i => jI ((fg i : Nat) : Int)))) :: (CW cI cE cG cM cS x0 q0 q1 qr (ms, es, gE, gM, gB, gT, gG, gN, gK, gD) κ)) := hD
              rcases hgo with ⟨hbn, hr9⟩ | ⟨hr9, hbs, -, -, -⟩
              · have hr9 : r = jI 0 := hr9
                subst hr9
                refine lv_istore (lv' := [(21, .int (jI 0)), (22, .int (jI (((8 * ev + gN ev) : Nat) : Int))), (20, .int (jI 1)), (19, .int (vI zr)), (18, .int (vI zz)), (17, .int (vI zj)), (16, .int (vI zh)), (15, .int (vI (zc ((gT ev : Nat) : Int)))), (14, .int (jI 0)), (13, .int (jI (((15 * ev) : Nat) : Int))), (12, .int (jI 1)), (11, .int (jI ((ev : Nat) : Int))), (0, .ref x0), (1, .ref ae), (2, .ref aq), (3, .ref av), (4, .ref au), (5, .ref aw), (6, .ref ay), (7, .ref ag), (8, .int (jI 2)), (9, .int (jI ((one : Nat) : Int))), (10, .int (jI ((two : Nat) : Int)))]) hx hb dL_isDone_587 hl (by decide) rfl (fun ls hl => ?_)
                refine lv_aload_n hx hb dL_isDone_589 rfl (lv_at hl 13 rfl) ?_
                refine lv_iload hx hb dL_isDone_590 (lv_at hl 9 rfl) ?_
                refine n_bipush hx hb dL_isDone_592 (by decide) ?_
                refine n_iadd hx hb dL_isDone_594 ?_
                refine lv_dup2_11 hx hb dL_isDone_595 rfl rfl ?_
                refine n_ialdv (i := ((15 * ev) + 14)) (v := (((gN ev + 1) : Nat) : Int)) hx hb hK hP 0 0 rfl htI (by omega) (by omega) (Nat.le_of_ble_eq_true rfl) (up_s _ _ _) dL_isDone_596 ?_
                refine lv_iload hx hb dL_isDone_597 (lv_at hl 0 rfl) ?_
                refine n_if_eq (tgt := 606) hx hb (by unfold r32; decide) dL_isDone_599 (by decide) (fun h599 => ?_) (fun h599 => False.elim (by revert h599; decide))
                refine n_iconst hx hb dL_isDone_606 ?_
                refine n_isub hx hb dL_isDone_607 ?_
                refine W.eq (g2 := F0 m 608 ls (.int (jI (((gN ev) : Nat) : Int)) :: [.int (jI ((((15 * ev) : Nat) : Int) + 14)), .ref ae])) (congrArg (fun z : Int => F0 m 608 ls (.int (jI z) :: [.int (jI ((((15 * ev) : Nat) : Int) + 14)), .ref ae])) (by omega)) ?_
                refine n_iast (i := (15 * ev + 14)) hx hb hK hP hD hS 0 0 rfl htI (by omega) (by omega) (Nat.le_of_ble_eq_true rfl) dL_isDone_608 (fun H locs hP hD hS => ?_)
                have hP : va_P D vwCl ((ae, .inl (cI, 45, .inl (fun i => jI ((va_up (va_up fe (15 * ev + 14) (((gN ev + 1) : Nat) : Int)) (15 * ev + 14) (((gN ev) : Nat) : Int)) i)))) :: (aq, .inl (cJ, 16, .inr (.inl (fun i => jL ((va_up fq (8 * ev + gN ev) (zv zh * 4294967296 + (16 * (zv (gG ev) + 1) + zv (zc ((gT ev : Nat) : Int))))) i))))) :: (av, .inl (cJ, 16, .inr (.inl (fun i => jL ((va_up fv (8 * ev + gN ev) ((zv zj * 4294967296) + zv zz)) i))))) :: (au, .inl (cJ, 16, .inr (.inl (fun i => jL ((va_up fu (8 * ev + gN ev) (2 * zv zr)) i))))) :: (aw, .inl (cJ, 60, .inr (.inl (fun i => vL (fw2 i))))) :: (ay, .inl (cJ, 32, .inr (.inl (fun i => vL (fy2 i))))) :: (ag, .inl (cI, 2, .inl (fun i => jI ((fg i : Nat) : Int)))) :: (CW cI cE cG cM cS x0 q0 q1 qr (ms, es, gE, gM, gB, gT, gG, gN, gK, gD) κ)) H := hP
                have hD : va_D A ((ae, .inl (cI, 45, .inl (fun i => jI ((va_up (va_up fe (15 * ev + 14) (((gN ev + 1) : Nat) : Int)) (15 * ev + 14) (((gN ev) : Nat) : Int)) i)))) :: (aq, .inl (cJ, 16, .inr (.inl (fun i => jL ((va_up fq (8 * ev + gN ev) (zv zh * 4294967296 + (16 * (zv (gG ev) + 1) + zv (zc ((gT ev : Nat) : Int))))) i))))) :: (av, .inl (cJ, 16, .inr (.inl (fun i => jL ((va_up fv (8 * ev + gN ev) ((zv zj * 4294967296) + zv zz)) i))))) :: (au, .inl (cJ, 16, .inr (.inl (fun i => jL ((va_up fu (8 * ev + gN ev) (2 * zv zr)) i))))) :: (aw, .inl (cJ, 60, .inr (.inl (fun i => vL (fw2 i))))) :: (ay, .inl (cJ, 32, .inr (.inl (fun i => vL (fy2 i))))) :: (ag, .inl (cI, 2, .inl (fun i => jI ((fg i : Nat) : Int)))) :: (CW cI cE cG cM cS x0 q0 q1 qr (ms, es, gE, gM, gB, gT, gG, gN, gK, gD) κ)) := hD
                refine lv_iload hx hb dL_isDone_609 (lv_at hl 10 rfl) ?_
                refine n_if_ne (tgt := 619) hx hb (by unfold r32; decide) dL_isDone_611 (by decide) (fun h611 => ?_) (fun h611 => False.elim (by revert h611; decide))
                refine lv_iload hx hb dL_isDone_619 (lv_at hl 2 rfl) ?_
                refine n_if_ne (tgt := 629) hx hb (by unfold r32; decide) dL_isDone_621 (by decide) (fun h621 => ?_) (fun h621 => False.elim (by revert h621; decide))
                refine lv_iload hx hb dL_isDone_629 (lv_at hl 0 rfl) ?_
                refine n_if_eq (tgt := 642) hx hb (by unfold r32; decide) dL_isDone_631 (by decide) (fun h631 => ?_) (fun h631 => False.elim (by revert h631; decide))
                refine n_iconst hx hb dL_isDone_642 ?_
                refine lv_istore (lv' := [(23, .int (jI (-1))), (21, .int (jI 0)), (22, .int (jI (((8 * ev + gN ev) : Nat) : Int))), (20, .int (jI 1)), (19, .int (vI zr)), (18, .int (vI zz)), (17, .int (vI zj)), (16, .int (vI zh)), (15, .int (vI (zc ((gT ev : Nat) : Int)))), (14, .int (jI 0)), (13, .int (jI (((15 * ev) : Nat) : Int))), (12, .int (jI 1)), (11, .int (jI ((ev : Nat) : Int))), (0, .ref x0), (1, .ref ae), (2, .ref aq), (3, .ref av), (4, .ref au), (5, .ref aw), (6, .ref ay), (7, .ref ag), (8, .int (jI 2)), (9, .int (jI ((one : Nat) : Int))), (10, .int (jI ((two : Nat) : Int)))]) hx hb dL_isDone_643 hl (by decide) rfl (fun ls hl => ?_)
                refine lv_iload hx hb dL_isDone_645 (lv_at hl 9 rfl) ?_
                refine n_if_eq (tgt := 671) hx hb (by unfold r32; decide) dL_isDone_647 (by decide) (fun h647 => ?_) (fun h647 => False.elim (by revert h647; decide))
                refine lv_aload_n hx hb dL_isDone_671 rfl (lv_at hl 13 rfl) ?_
                refine n_iconst hx hb dL_isDone_672 ?_
                refine lv_iload hx hb dL_isDone_673 (lv_at hl 12 rfl) ?_
                refine lv_iload hx hb dL_isDone_675 (lv_at hl 7 rfl) ?_
                refine lv_iload hx hb dL_isDone_677 (lv_at hl 6 rfl) ?_
                refine lv_iload hx hb dL_isDone_679 (lv_at hl 5 rfl) ?_
                refine lv_iload hx hb dL_isDone_681 (lv_at hl 4 rfl) ?_
                refine n_iconst hx hb dL_isDone_683 ?_
                have hb9 : beh (fun i => gM (7 * ev + i)) (s5at gB ev) (fun k c => (told6 gK (6 * (30 * ev + gN ev)) (zc ((gT ev : Nat) : Int)) zh zj zz zr (gG ev)) (6 * (30 * ev + k) + c)) (fun k => gD (30 * ev + k)) ((va_up gN ev (gN ev + 1)) ev) (gT ev) = none := by rw [up_s]; exact hbn
                have hC := d_measure4 l hl9 D tys htI htE htM htS htG x0 q0 q1 qr ms es gE gM gB gT gG gN gK gD κ hI ev hev zh zj zz zr (by omega) hb9
                have hW := w_does_measure l D tys x0 q0 q1 qr ms es gE gM gB gT gG gN gK gD κ (jI ((ev : Nat) : Int)) (vI zh) (vI zj) (vI zz) (vI zr) (jI 0) (ms, es, gE, gM, gB, gT, gG, va_up (va_up gN ev (gN ev + 1)) ev (gN ev), (told6 gK (6 * (30 * ev + gN ev)) (zc ((gT ev : Nat) : Int)) zh zj zz zr (gG ev)), gD) 3 _ hC
                have hP : va_P D vwCl ((CW cI cE cG cM cS x0 q0 q1 qr (ms, es, gE, gM, gB, gT, gG, gN, gK, gD) κ) ++ [(ae, .inl (cI, 45, .inl (fun i => jI ((va_up (va_up fe (15 * ev + 14) (((gN ev + 1) : Nat) : Int)) (15 * ev + 14) (((gN ev) : Nat) : Int)) i)))), (aq, .inl (cJ, 16, .inr (.inl (fun i => jL ((va_up fq (8 * ev + gN ev) (zv zh * 4294967296 + (16 * (zv (gG ev) + 1) + zv (zc ((gT ev : Nat) : Int))))) i))))), (av, .inl (cJ, 16, .inr (.inl (fun i => jL ((va_up fv (8 * ev + gN ev) ((zv zj * 4294967296) + zv zz)) i))))), (au, .inl (cJ, 16, .inr (.inl (fun i => jL ((va_up fu (8 * ev + gN ev) (2 * zv zr)) i))))), (aw, .inl (cJ, 60, .inr (.inl (fun i => vL (fw2 i))))), (ay, .inl (cJ, 32, .inr (.inl (fun i => vL (fy2 i))))), (ag, .inl (cI, 2, .inl (fun i => jI ((fg i : Nat) : Int))))]) H := hP.perm (List.perm_append_comm (l₁ := ([(ae, .inl (cI, 45, .inl (fun i => jI ((va_up (va_up fe (15 * ev + 14) (((gN ev + 1) : Nat) : Int)) (15 * ev + 14) (((gN ev) : Nat) : Int)) i)))), (aq, .inl (cJ, 16, .inr (.inl (fun i => jL ((va_up fq (8 * ev + gN ev) (zv zh * 4294967296 + (16 * (zv (gG ev) + 1) + zv (zc ((gT ev : Nat) : Int))))) i))))), (av, .inl (cJ, 16, .inr (.inl (fun i => jL ((va_up fv (8 * ev + gN ev) ((zv zj * 4294967296) + zv zz)) i))))), (au, .inl (cJ, 16, .inr (.inl (fun i => jL ((va_up fu (8 * ev + gN ev) (2 * zv zr)) i))))), (aw, .inl (cJ, 60, .inr (.inl (fun i => vL (fw2 i))))), (ay, .inl (cJ, 32, .inr (.inl (fun i => vL (fy2 i))))), (ag, .inl (cI, 2, .inl (fun i => jI ((fg i : Nat) : Int))))] : va_W)) (l₂ := (CW cI cE cG cM cS x0 q0 q1 qr (ms, es, gE, gM, gB, gT, gG, gN, gK, gD) κ)))
                have hD : va_D A ((CW cI cE cG cM cS x0 q0 q1 qr (ms, es, gE, gM, gB, gT, gG, gN, gK, gD) κ) ++ [(ae, .inl (cI, 45, .inl (fun i => jI ((va_up (va_up fe (15 * ev + 14) (((gN ev + 1) : Nat) : Int)) (15 * ev + 14) (((gN ev) : Nat) : Int)) i)))), (aq, .inl (cJ, 16, .inr (.inl (fun i => jL ((va_up fq (8 * ev + gN ev) (zv zh * 4294967296 + (16 * (zv (gG ev) + 1) + zv (zc ((gT ev : Nat) : Int))))) i))))), (av, .inl (cJ, 16, .inr (.inl (fun i => jL ((va_up fv (8 * ev + gN ev) ((zv zj * 4294967296) + zv zz)) i))))), (au, .inl (cJ, 16, .inr (.inl (fun i => jL ((va_up fu (8 * ev + gN ev) (2 * zv zr)) i))))), (aw, .inl (cJ, 60, .inr (.inl (fun i => vL (fw2 i))))), (ay, .inl (cJ, 32, .inr (.inl (fun i => vL (fy2 i))))), (ag, .inl (cI, 2, .inl (fun i => jI ((fg i : Nat) : Int))))]) := hD.perm (List.perm_append_comm (l₁ := ([(ae, .inl (cI, 45, .inl (fun i => jI ((va_up (va_up fe (15 * ev + 14) (((gN ev + 1) : Nat) : Int)) (15 * ev + 14) (((gN ev) : Nat) : Int)) i)))), (aq, .inl (cJ, 16, .inr (.inl (fun i => jL ((va_up fq (8 * ev + gN ev) (zv zh * 4294967296 + (16 * (zv (gG ev) + 1) + zv (zc ((gT ev : Nat) : Int))))) i))))), (av, .inl (cJ, 16, .inr (.inl (fun i => jL ((va_up fv (8 * ev + gN ev) ((zv zj * 4294967296) + zv zz)) i))))), (au, .inl (cJ, 16, .inr (.inl (fun i => jL ((va_up fu (8 * ev + gN ev) (2 * zv zr)) i))))), (aw, .inl (cJ, 60, .inr (.inl (fun i => vL (fw2 i))))), (ay, .inl (cJ, 32, .inr (.inl (fun i => vL (fy2 i))))), (ag, .inl (cI, 2, .inl (fun i => jI ((fg i : Nat) : Int))))] : va_W)) (l₂ := (CW cI cE cG cM cS x0 q0 q1 qr (ms, es, gE, gM, gB, gT, gG, gN, gK, gD) κ)))
                refine a_goNI (vx_runSW (As := [.ref x0, .int (jI 5), .int (jI ((ev : Nat) : Int)), .int (vI zh), .int (vI zj), .int (vI zz), .int (vI zr), .int (jI 0)]) (rest := []) ⟨hx, hb, hml, hown, hts⟩ (hW _) (vx_cwSW 8 hts gL_isDone_L_does rfl rfl rfl (by decide +kernel) ⟨(Nat.le_of_ble_eq_true rfl), (Nat.le_of_ble_eq_true rfl)⟩) (c_pre hK hXK hZ hN hP hD hS hA) rfl rfl hl.1 rfl (lv_room (Nat.le_of_ble_eq_true rfl)) dL_isDone_684 ⟨(Nat.le_of_ble_eq_true rfl), (Nat.le_of_ble_eq_true rfl)⟩) hP hD hS hA (fun r κ2 H locs hpost hP hD hS => ?_)
                obtain ⟨hr9, hI2⟩ := hpost
                have hr9 : r = jI (-1) := hr9
                subst hr9
                have hP : va_P D vwCl ((CW cI cE cG cM cS x0 q0 q1 qr (ms, es, gE, gM, gB, gT, gG, va_up (va_up gN ev (gN ev + 1)) ev (gN ev), (told6 gK (6 * (30 * ev + gN ev)) (zc ((gT ev : Nat) : Int)) zh zj zz zr (gG ev)), gD) κ2) ++ [(ae, .inl (cI, 45, .inl (fun i => jI ((va_up (va_up fe (15 * ev + 14) (((gN ev + 1) : Nat) : Int)) (15 * ev + 14) (((gN ev) : Nat) : Int)) i)))), (aq, .inl (cJ, 16, .inr (.inl (fun i => jL ((va_up fq (8 * ev + gN ev) (zv zh * 4294967296 + (16 * (zv (gG ev) + 1) + zv (zc ((gT ev : Nat) : Int))))) i))))), (av, .inl (cJ, 16, .inr (.inl (fun i => jL ((va_up fv (8 * ev + gN ev) ((zv zj * 4294967296) + zv zz)) i))))), (au, .inl (cJ, 16, .inr (.inl (fun i => jL ((va_up fu (8 * ev + gN ev) (2 * zv zr)) i))))), (aw, .inl (cJ, 60, .inr (.inl (fun i => vL (fw2 i))))), (ay, .inl (cJ, 32, .inr (.inl (fun i => vL (fy2 i))))), (ag, .inl (cI, 2, .inl (fun i => jI ((fg i : Nat) : Int))))]) H := hP
                have hD : va_D A ((CW cI cE cG cM cS x0 q0 q1 qr (ms, es, gE, gM, gB, gT, gG, va_up (va_up gN ev (gN ev + 1)) ev (gN ev), (told6 gK (6 * (30 * ev + gN ev)) (zc ((gT ev : Nat) : Int)) zh zj zz zr (gG ev)), gD) κ2) ++ [(ae, .inl (cI, 45, .inl (fun i => jI ((va_up (va_up fe (15 * ev + 14) (((gN ev + 1) : Nat) : Int)) (15 * ev + 14) (((gN ev) : Nat) : Int)) i)))), (aq, .inl (cJ, 16, .inr (.inl (fun i => jL ((va_up fq (8 * ev + gN ev) (zv zh * 4294967296 + (16 * (zv (gG ev) + 1) + zv (zc ((gT ev : Nat) : Int))))) i))))), (av, .inl (cJ, 16, .inr (.inl (fun i => jL ((va_up fv (8 * ev + gN ev) ((zv zj * 4294967296) + zv zz)) i))))), (au, .inl (cJ, 16, .inr (.inl (fun i => jL ((va_up fu (8 * ev + gN ev) (2 * zv zr)) i))))), (aw, .inl (cJ, 60, .inr (.inl (fun i => vL (fw2 i))))), (ay, .inl (cJ, 32, .inr (.inl (fun i => vL (fy2 i))))), (ag, .inl (cI, 2, .inl (fun i => jI ((fg i : Nat) : Int))))]) := hD
                have hP : va_P D vwCl ((ae, .inl (cI, 45, .inl (fun i => jI ((va_up (va_up fe (15 * ev + 14) (((gN ev + 1) : Nat) : Int)) (15 * ev + 14) (((gN ev) : Nat) : Int)) i)))) :: (aq, .inl (cJ, 16, .inr (.inl (fun i => jL ((va_up fq (8 * ev + gN ev) (zv zh * 4294967296 + (16 * (zv (gG ev) + 1) + zv (zc ((gT ev : Nat) : Int))))) i))))) :: (av, .inl (cJ, 16, .inr (.inl (fun i => jL ((va_up fv (8 * ev + gN ev) ((zv zj * 4294967296) + zv zz)) i))))) :: (au, .inl (cJ, 16, .inr (.inl (fun i => jL ((va_up fu (8 * ev + gN ev) (2 * zv zr)) i))))) :: (aw, .inl (cJ, 60, .inr (.inl (fun i => vL (fw2 i))))) :: (ay, .inl (cJ, 32, .inr (.inl (fun i => vL (fy2 i))))) :: (ag, .inl (cI, 2, .inl (fun i => jI ((fg i : Nat) : Int)))) :: (CW cI cE cG cM cS x0 q0 q1 qr (ms, es, gE, gM, gB, gT, gG, va_up (va_up gN ev (gN ev + 1)) ev (gN ev), (told6 gK (6 * (30 * ev + gN ev)) (zc ((gT ev : Nat) : Int)) zh zj zz zr (gG ev)), gD) κ2)) H := hP.perm (List.perm_append_comm (l₁ := (CW cI cE cG cM cS x0 q0 q1 qr (ms, es, gE, gM, gB, gT, gG, va_up (va_up gN ev (gN ev + 1)) ev (gN ev), (told6 gK (6 * (30 * ev + gN ev)) (zc ((gT ev : Nat) : Int)) zh zj zz zr (gG ev)), gD) κ2)) (l₂ := ([(ae, .inl (cI, 45, .inl (fun i => jI ((va_up (va_up fe (15 * ev + 14) (((gN ev + 1) : Nat) : Int)) (15 * ev + 14) (((gN ev) : Nat) : Int)) i)))), (aq, .inl (cJ, 16, .inr (.inl (fun i => jL ((va_up fq (8 * ev + gN ev) (zv zh * 4294967296 + (16 * (zv (gG ev) + 1) + zv (zc ((gT ev : Nat) : Int))))) i))))), (av, .inl (cJ, 16, .inr (.inl (fun i => jL ((va_up fv (8 * ev + gN ev) ((zv zj * 4294967296) + zv zz)) i))))), (au, .inl (cJ, 16, .inr (.inl (fun i => jL ((va_up fu (8 * ev + gN ev) (2 * zv zr)) i))))), (aw, .inl (cJ, 60, .inr (.inl (fun i => vL (fw2 i))))), (ay, .inl (cJ, 32, .inr (.inl (fun i => vL (fy2 i))))), (ag, .inl (cI, 2, .inl (fun i => jI ((fg i : Nat) : Int))))] : va_W)))
                have hD : va_D A ((ae, .inl (cI, 45, .inl (fun i => jI ((va_up (va_up fe (15 * ev + 14) (((gN ev + 1) : Nat) : Int)) (15 * ev + 14) (((gN ev) : Nat) : Int)) i)))) :: (aq, .inl (cJ, 16, .inr (.inl (fun i => jL ((va_up fq (8 * ev + gN ev) (zv zh * 4294967296 + (16 * (zv (gG ev) + 1) + zv (zc ((gT ev : Nat) : Int))))) i))))) :: (av, .inl (cJ, 16, .inr (.inl (fun i => jL ((va_up fv (8 * ev + gN ev) ((zv zj * 4294967296) + zv zz)) i))))) :: (au, .inl (cJ, 16, .inr (.inl (fun i => jL ((va_up fu (8 * ev + gN ev) (2 * zv zr)) i))))) :: (aw, .inl (cJ, 60, .inr (.inl (fun i => vL (fw2 i))))) :: (ay, .inl (cJ, 32, .inr (.inl (fun i => vL (fy2 i))))) :: (ag, .inl (cI, 2, .inl (fun i => jI ((fg i : Nat) : Int)))) :: (CW cI cE cG cM cS x0 q0 q1 qr (ms, es, gE, gM, gB, gT, gG, va_up (va_up gN ev (gN ev + 1)) ev (gN ev), (told6 gK (6 * (30 * ev + gN ev)) (zc ((gT ev : Nat) : Int)) zh zj zz zr (gG ev)), gD) κ2)) := hD.perm (List.perm_append_comm (l₁ := (CW cI cE cG cM cS x0 q0 q1 qr (ms, es, gE, gM, gB, gT, gG, va_up (va_up gN ev (gN ev + 1)) ev (gN ev), (told6 gK (6 * (30 * ev + gN ev)) (zc ((gT ev : Nat) : Int)) zh zj zz zr (gG ev)), gD) κ2)) (l₂ := ([(ae, .inl (cI, 45, .inl (fun i => jI ((va_up (va_up fe (15 * ev + 14) (((gN ev + 1) : Nat) : Int)) (15 * ev + 14) (((gN ev) : Nat) : Int)) i)))), (aq, .inl (cJ, 16, .inr (.inl (fun i => jL ((va_up fq (8 * ev + gN ev) (zv zh * 4294967296 + (16 * (zv (gG ev) + 1) + zv (zc ((gT ev : Nat) : Int))))) i))))), (av, .inl (cJ, 16, .inr (.inl (fun i => jL ((va_up fv (8 * ev + gN ev) ((zv zj * 4294967296) + zv zz)) i))))), (au, .inl (cJ, 16, .inr (.inl (fun i => jL ((va_up fu (8 * ev + gN ev) (2 * zv zr)) i))))), (aw, .inl (cJ, 60, .inr (.inl (fun i => vL (fw2 i))))), (ay, .inl (cJ, 32, .inr (.inl (fun i => vL (fy2 i))))), (ag, .inl (cI, 2, .inl (fun i => jI ((fg i : Nat) : Int))))] : va_W)))
                refine lv_iload hx hb dL_isDone_687 (lv_at hl 0 rfl) ?_
                refine n_icmp_ne (tgt := 696) hx hb (by unfold r32; omega) (by unfold r32; omega) dL_isDone_689 (by decide) (fun h689 => False.elim (h689 rfl)) (fun h689 => ?_)
                refine n_iconst hx hb dL_isDone_692 ?_
                refine lv_goto (tgt := 697) hx hb dL_isDone_693 (by decide) ?_
                refine W.widen (k := 228) (n := 867) (Nat.le_of_ble_eq_true rfl) (Nat.le_of_ble_eq_true rfl) ?_
                exact y_zret (b := true) ((ms, es, gE, gM, gB, gT, gG, va_up (va_up gN ev (gN ev + 1)) ev (gN ev), (told6 gK (6 * (30 * ev + gN ev)) (zc ((gT ev : Nat) : Int)) zh zj zz zr (gG ev)), gD), κ2, va_up (va_up fe (15 * ev + 14) (((gN ev + 1) : Nat) : Int)) (15 * ev + 14) (((gN ev) : Nat) : Int), va_up fq (8 * ev + gN ev) (zv zh * 4294967296 + (16 * (zv (gG ev) + 1) + zv (zc ((gT ev : Nat) : Int)))), va_up fv (8 * ev + gN ev) ((zv zj * 4294967296) + zv zz), va_up fu (8 * ev + gN ev) (2 * zv zr), fw2, fy2) hx hb hr hlocks dL_isDone_697 hP hD hS rfl ⟨rfl, hI2, (hL.notold hev (by omega)).up⟩
              · have hr9 : r = jI 1 := hr9
                subst hr9
                refine lv_istore (lv' := [(21, .int (jI 1)), (22, .int (jI (((8 * ev + gN ev) : Nat) : Int))), (20, .int (jI 1)), (19, .int (vI zr)), (18, .int (vI zz)), (17, .int (vI zj)), (16, .int (vI zh)), (15, .int (vI (zc ((gT ev : Nat) : Int)))), (14, .int (jI 0)), (13, .int (jI (((15 * ev) : Nat) : Int))), (12, .int (jI 1)), (11, .int (jI ((ev : Nat) : Int))), (0, .ref x0), (1, .ref ae), (2, .ref aq), (3, .ref av), (4, .ref au), (5, .ref aw), (6, .ref ay), (7, .ref ag), (8, .int (jI 2)), (9, .int (jI ((one : Nat) : Int))), (10, .int (jI ((two : Nat) : Int)))]) hx hb dL_isDone_587 hl (by decide) rfl (fun ls hl => ?_)
                refine lv_aload_n hx hb dL_isDone_589 rfl (lv_at hl 13 rfl) ?_
                refine lv_iload hx hb dL_isDone_590 (lv_at hl 9 rfl) ?_
                refine n_bipush hx hb dL_isDone_592 (by decide) ?_
                refine n_iadd hx hb dL_isDone_594 ?_
                refine lv_dup2_11 hx hb dL_isDone_595 rfl rfl ?_
                refine n_ialdv (i := ((15 * ev) + 14)) (v := (((gN ev + 1) : Nat) : Int)) hx hb hK hP 0 0 rfl htI (by omega) (by omega) (Nat.le_of_ble_eq_true rfl) (up_s _ _ _) dL_isDone_596 ?_
                refine lv_iload hx hb dL_isDone_597 (lv_at hl 0 rfl) ?_
                refine n_if_eq (tgt := 606) hx hb (by unfold r32; decide) dL_isDone_599 (by decide) (fun h599 => False.elim (by revert h599; decide)) (fun h599 => ?_)
                refine n_iconst hx hb dL_isDone_602 ?_
                refine lv_goto (tgt := 607) hx hb dL_isDone_603 (by decide) ?_
                refine n_isub hx hb dL_isDone_607 ?_
                refine W.eq (g2 := F0 m 608 ls (.int (jI (((gN ev + 1) : Nat) : Int)) :: [.int (jI ((((15 * ev) : Nat) : Int) + 14)), .ref ae])) (congrArg (fun z : Int => F0 m 608 ls (.int (jI z) :: [.int (jI ((((15 * ev) : Nat) : Int) + 14)), .ref ae])) (by omega)) ?_
                refine n_iast (i := (15 * ev + 14)) hx hb hK hP hD hS 0 0 rfl htI (by omega) (by omega) (Nat.le_of_ble_eq_true rfl) dL_isDone_608 (fun H locs hP hD hS => ?_)
                have hP : va_P D vwCl ((ae, .inl (cI, 45, .inl (fun i => jI ((va_up (va_up fe (15 * ev + 14) (((gN ev + 1) : Nat) : Int)) (15 * ev + 14) (((gN ev + 1) : Nat) : Int)) i)))) :: (aq, .inl (cJ, 16, .inr (.inl (fun i => jL ((va_up fq (8 * ev + gN ev) (zv zh * 4294967296 + (16 * (zv (gG ev) + 1) + zv (zc ((gT ev : Nat) : Int))))) i))))) :: (av, .inl (cJ, 16, .inr (.inl (fun i => jL ((va_up fv (8 * ev + gN ev) ((zv zj * 4294967296) + zv zz)) i))))) :: (au, .inl (cJ, 16, .inr (.inl (fun i => jL ((va_up fu (8 * ev + gN ev) (2 * zv zr)) i))))) :: (aw, .inl (cJ, 60, .inr (.inl (fun i => vL (fw2 i))))) :: (ay, .inl (cJ, 32, .inr (.inl (fun i => vL (fy2 i))))) :: (ag, .inl (cI, 2, .inl (fun i => jI ((fg i : Nat) : Int)))) :: (CW cI cE cG cM cS x0 q0 q1 qr (ms, es, gE, gM, gB, gT, gG, gN, gK, gD) κ)) H := hP
                have hD : va_D A ((ae, .inl (cI, 45, .inl (fun i => jI ((va_up (va_up fe (15 * ev + 14) (((gN ev + 1) : Nat) : Int)) (15 * ev + 14) (((gN ev + 1) : Nat) : Int)) i)))) :: (aq, .inl (cJ, 16, .inr (.inl (fun i => jL ((va_up fq (8 * ev + gN ev) (zv zh * 4294967296 + (16 * (zv (gG ev) + 1) + zv (zc ((gT ev : Nat) : Int))))) i))))) :: (av, .inl (cJ, 16, .inr (.inl (fun i => jL ((va_up fv (8 * ev + gN ev) ((zv zj * 4294967296) + zv zz)) i))))) :: (au, .inl (cJ, 16, .inr (.inl (fun i => jL ((va_up fu (8 * ev + gN ev) (2 * zv zr)) i))))) :: (aw, .inl (cJ, 60, .inr (.inl (fun i => vL (fw2 i))))) :: (ay, .inl (cJ, 32, .inr (.inl (fun i => vL (fy2 i))))) :: (ag, .inl (cI, 2, .inl (fun i => jI ((fg i : Nat) : Int)))) :: (CW cI cE cG cM cS x0 q0 q1 qr (ms, es, gE, gM, gB, gT, gG, gN, gK, gD) κ)) := hD
                refine lv_iload hx hb dL_isDone_609 (lv_at hl 10 rfl) ?_
                refine n_if_ne (tgt := 619) hx hb (by unfold r32; decide) dL_isDone_611 (by decide) (fun h611 => ?_) (fun h611 => False.elim (by revert h611; decide))
                refine lv_iload hx hb dL_isDone_619 (lv_at hl 2 rfl) ?_
                refine n_if_ne (tgt := 629) hx hb (by unfold r32; decide) dL_isDone_621 (by decide) (fun h621 => ?_) (fun h621 => False.elim (by revert h621; decide))
                refine lv_iload hx hb dL_isDone_629 (lv_at hl 0 rfl) ?_
                refine n_if_eq (tgt := 642) hx hb (by unfold r32; decide) dL_isDone_631 (by decide) (fun h631 => False.elim (by revert h631; decide)) (fun h631 => ?_)
                refine lv_iload hx hb dL_isDone_634 (lv_at hl 1 rfl) ?_
                refine n_bipush hx hb dL_isDone_636 (by decide) ?_
                refine n_iremv (v := (((gN ev) : Nat) : Int)) hx hb dL_isDone_638 (by omega) (by omega) (by omega) (by omega) (by omega) ?_
                refine lv_goto (tgt := 643) hx hb dL_isDone_639 (by decide) ?_
                refine lv_istore (lv' := [(23, .int (jI (((gN ev) : Nat) : Int))), (21, .int (jI 1)), (22, .int (jI (((8 * ev + gN ev) : Nat) : Int))), (20, .int (jI 1)), (19, .int (vI zr)), (18, .int (vI zz)), (17, .int (vI zj)), (16, .int (vI zh)), (15, .int (vI (zc ((gT ev : Nat) : Int)))), (14, .int (jI 0)), (13, .int (jI (((15 * ev) : Nat) : Int))), (12, .int (jI 1)), (11, .int (jI ((ev : Nat) : Int))), (0, .ref x0), (1, .ref ae), (2, .ref aq), (3, .ref av), (4, .ref au), (5, .ref aw), (6, .ref ay), (7, .ref ag), (8, .int (jI 2)), (9, .int (jI ((one : Nat) : Int))), (10, .int (jI ((two : Nat) : Int)))]) hx hb dL_isDone_643 hl (by decide) rfl (fun ls hl => ?_)
                refine lv_iload hx hb dL_isDone_645 (lv_at hl 9 rfl) ?_
                refine n_if_eq (tgt := 671) hx hb (by unfold r32; decide) dL_isDone_647 (by decide) (fun h647 => ?_) (fun h647 => False.elim (by revert h647; decide))
                refine lv_aload_n hx hb dL_isDone_671 rfl (lv_at hl 13 rfl) ?_
                refine n_iconst hx hb dL_isDone_672 ?_
                refine lv_iload hx hb dL_isDone_673 (lv_at hl 12 rfl) ?_
                refine lv_iload hx hb dL_isDone_675 (lv_at hl 7 rfl) ?_
                refine lv_iload hx hb dL_isDone_677 (lv_at hl 6 rfl) ?_
                refine lv_iload hx hb dL_isDone_679 (lv_at hl 5 rfl) ?_
                refine lv_iload hx hb dL_isDone_681 (lv_at hl 4 rfl) ?_
                refine n_iconst hx hb dL_isDone_683 ?_
                have hb9 : beh (fun i => gM (7 * ev + i)) (s5at gB ev) (fun k c => (told6 gK (6 * (30 * ev + gN ev)) (zc ((gT ev : Nat) : Int)) zh zj zz zr (gG ev)) (6 * (30 * ev + k) + c)) (fun k => gD (30 * ev + k)) ((va_up gN ev (gN ev + 1)) ev) (gT ev) = some (s5 fw2) := by rw [up_s]; exact hbs
                have hC := d_measure0 l hl9 D tys htI htE htM htS htG x0 q0 q1 qr ms es gE gM gB gT gG gN gK gD κ hI ev hev zh zj zz zr (s5 fw2) (by omega) hb9
                have hW := w_does_measure l D tys x0 q0 q1 qr ms es gE gM gB gT gG gN gK gD κ (jI ((ev : Nat) : Int)) (vI zh) (vI zj) (vI zz) (vI zr) (jI 0) (ms, es, gE, gM, gB, gT, gG, va_up (va_up gN ev (gN ev + 1)) ev (gN ev + 1), (told6 gK (6 * (30 * ev + gN ev)) (zc ((gT ev : Nat) : Int)) zh zj zz zr (gG ev)), gD) 0 _ hC
                have hP : va_P D vwCl ((CW cI cE cG cM cS x0 q0 q1 qr (ms, es, gE, gM, gB, gT, gG, gN, gK, gD) κ) ++ [(ae, .inl (cI, 45, .inl (fun i => jI ((va_up (va_up fe (15 * ev + 14) (((gN ev + 1) : Nat) : Int)) (15 * ev + 14) (((gN ev + 1) : Nat) : Int)) i)))), (aq, .inl (cJ, 16, .inr (.inl (fun i => jL ((va_up fq (8 * ev + gN ev) (zv zh * 4294967296 + (16 * (zv (gG ev) + 1) + zv (zc ((gT ev : Nat) : Int))))) i))))), (av, .inl (cJ, 16, .inr (.inl (fun i => jL ((va_up fv (8 * ev + gN ev) ((zv zj * 4294967296) + zv zz)) i))))), (au, .inl (cJ, 16, .inr (.inl (fun i => jL ((va_up fu (8 * ev + gN ev) (2 * zv zr)) i))))), (aw, .inl (cJ, 60, .inr (.inl (fun i => vL (fw2 i))))), (ay, .inl (cJ, 32, .inr (.inl (fun i => vL (fy2 i))))), (ag, .inl (cI, 2, .inl (fun i => jI ((fg i : Nat) : Int))))]) H := hP.perm (List.perm_append_comm (l₁ := ([(ae, .inl (cI, 45, .inl (fun i => jI ((va_up (va_up fe (15 * ev + 14) (((gN ev + 1) : Nat) : Int)) (15 * ev + 14) (((gN ev + 1) : Nat) : Int)) i)))), (aq, .inl (cJ, 16, .inr (.inl (fun i => jL ((va_up fq (8 * ev + gN ev) (zv zh * 4294967296 + (16 * (zv (gG ev) + 1) + zv (zc ((gT ev : Nat) : Int))))) i))))), (av, .inl (cJ, 16, .inr (.inl (fun i => jL ((va_up fv (8 * ev + gN ev) ((zv zj * 4294967296) + zv zz)) i))))), (au, .inl (cJ, 16, .inr (.inl (fun i => jL ((va_up fu (8 * ev + gN ev) (2 * zv zr)) i))))), (aw, .inl (cJ, 60, .inr (.inl (fun i => vL (fw2 i))))), (ay, .inl (cJ, 32, .inr (.inl (fun i => vL (fy2 i))))), (ag, .inl (cI, 2, .inl (fun i => jI ((fg i : Nat) : Int))))] : va_W)) (l₂ := (CW cI cE cG cM cS x0 q0 q1 qr (ms, es, gE, gM, gB, gT, gG, gN, gK, gD) κ)))
                have hD : va_D A ((CW cI cE cG cM cS x0 q0 q1 qr (ms, es, gE, gM, gB, gT, gG, gN, gK, gD) κ) ++ [(ae, .inl (cI, 45, .inl (fun i => jI ((va_up (va_up fe (15 * ev + 14) (((gN ev + 1) : Nat) : Int)) (15 * ev + 14) (((gN ev + 1) : Nat) : Int)) i)))), (aq, .inl (cJ, 16, .inr (.inl (fun i => jL ((va_up fq (8 * ev + gN ev) (zv zh * 4294967296 + (16 * (zv (gG ev) + 1) + zv (zc ((gT ev : Nat) : Int))))) i))))), (av, .inl (cJ, 16, .inr (.inl (fun i => jL ((va_up fv (8 * ev + gN ev) ((zv zj * 4294967296) + zv zz)) i))))), (au, .inl (cJ, 16, .inr (.inl (fun i => jL ((va_up fu (8 * ev + gN ev) (2 * zv zr)) i))))), (aw, .inl (cJ, 60, .inr (.inl (fun i => vL (fw2 i))))), (ay, .inl (cJ, 32, .inr (.inl (fun i => vL (fy2 i))))), (ag, .inl (cI, 2, .inl (fun i => jI ((fg i : Nat) : Int))))]) := hD.perm (List.perm_append_comm (l₁ := ([(ae, .inl (cI, 45, .inl (fun i => jI ((va_up (va_up fe (15 * ev + 14) (((gN ev + 1) : Nat) : Int)) (15 * ev + 14) (((gN ev + 1) : Nat) : Int)) i)))), (aq, .inl (cJ, 16, .inr (.inl (fun i => jL ((va_up fq (8 * ev + gN ev) (zv zh * 4294967296 + (16 * (zv (gG ev) + 1) + zv (zc ((gT ev : Nat) : Int))))) i))))), (av, .inl (cJ, 16, .inr (.inl (fun i => jL ((va_up fv (8 * ev + gN ev) ((zv zj * 4294967296) + zv zz)) i))))), (au, .inl (cJ, 16, .inr (.inl (fun i => jL ((va_up fu (8 * ev + gN ev) (2 * zv zr)) i))))), (aw, .inl (cJ, 60, .inr (.inl (fun i => vL (fw2 i))))), (ay, .inl (cJ, 32, .inr (.inl (fun i => vL (fy2 i))))), (ag, .inl (cI, 2, .inl (fun i => jI ((fg i : Nat) : Int))))] : va_W)) (l₂ := (CW cI cE cG cM cS x0 q0 q1 qr (ms, es, gE, gM, gB, gT, gG, gN, gK, gD) κ)))
                refine a_goNI (vx_runSW (As := [.ref x0, .int (jI 5), .int (jI ((ev : Nat) : Int)), .int (vI zh), .int (vI zj), .int (vI zz), .int (vI zr), .int (jI 0)]) (rest := []) ⟨hx, hb, hml, hown, hts⟩ (hW _) (vx_cwSW 8 hts gL_isDone_L_does rfl rfl rfl (by decide +kernel) ⟨(Nat.le_of_ble_eq_true rfl), (Nat.le_of_ble_eq_true rfl)⟩) (c_pre hK hXK hZ hN hP hD hS hA) rfl rfl hl.1 rfl (lv_room (Nat.le_of_ble_eq_true rfl)) dL_isDone_684 ⟨(Nat.le_of_ble_eq_true rfl), (Nat.le_of_ble_eq_true rfl)⟩) hP hD hS hA (fun r κ2 H locs hpost hP hD hS => ?_)
                obtain ⟨hr9, hI2⟩ := hpost
                have hr9 : r = jI ((gN ev : Nat) : Int) := hr9
                subst hr9
                have hP : va_P D vwCl ((CW cI cE cG cM cS x0 q0 q1 qr (ms, es, gE, gM, gB, gT, gG, va_up (va_up gN ev (gN ev + 1)) ev (gN ev + 1), (told6 gK (6 * (30 * ev + gN ev)) (zc ((gT ev : Nat) : Int)) zh zj zz zr (gG ev)), gD) κ2) ++ [(ae, .inl (cI, 45, .inl (fun i => jI ((va_up (va_up fe (15 * ev + 14) (((gN ev + 1) : Nat) : Int)) (15 * ev + 14) (((gN ev + 1) : Nat) : Int)) i)))), (aq, .inl (cJ, 16, .inr (.inl (fun i => jL ((va_up fq (8 * ev + gN ev) (zv zh * 4294967296 + (16 * (zv (gG ev) + 1) + zv (zc ((gT ev : Nat) : Int))))) i))))), (av, .inl (cJ, 16, .inr (.inl (fun i => jL ((va_up fv (8 * ev + gN ev) ((zv zj * 4294967296) + zv zz)) i))))), (au, .inl (cJ, 16, .inr (.inl (fun i => jL ((va_up fu (8 * ev + gN ev) (2 * zv zr)) i))))), (aw, .inl (cJ, 60, .inr (.inl (fun i => vL (fw2 i))))), (ay, .inl (cJ, 32, .inr (.inl (fun i => vL (fy2 i))))), (ag, .inl (cI, 2, .inl (fun i => jI ((fg i : Nat) : Int))))]) H := hP
                have hD : va_D A ((CW cI cE cG cM cS x0 q0 q1 qr (ms, es, gE, gM, gB, gT, gG, va_up (va_up gN ev (gN ev + 1)) ev (gN ev + 1), (told6 gK (6 * (30 * ev + gN ev)) (zc ((gT ev : Nat) : Int)) zh zj zz zr (gG ev)), gD) κ2) ++ [(ae, .inl (cI, 45, .inl (fun i => jI ((va_up (va_up fe (15 * ev + 14) (((gN ev + 1) : Nat) : Int)) (15 * ev + 14) (((gN ev + 1) : Nat) : Int)) i)))), (aq, .inl (cJ, 16, .inr (.inl (fun i => jL ((va_up fq (8 * ev + gN ev) (zv zh * 4294967296 + (16 * (zv (gG ev) + 1) + zv (zc ((gT ev : Nat) : Int))))) i))))), (av, .inl (cJ, 16, .inr (.inl (fun i => jL ((va_up fv (8 * ev + gN ev) ((zv zj * 4294967296) + zv zz)) i))))), (au, .inl (cJ, 16, .inr (.inl (fun i => jL ((va_up fu (8 * ev + gN ev) (2 * zv zr)) i))))), (aw, .inl (cJ, 60, .inr (.inl (fun i => vL (fw2 i))))), (ay, .inl (cJ, 32, .inr (.inl (fun i => vL (fy2 i))))), (ag, .inl (cI, 2, .inl (fun i => jI ((fg i : Nat) : Int))))]) := hD
                have hP : va_P D vwCl ((ae, .inl (cI, 45, .inl (fun i => jI ((va_up (va_up fe (15 * ev + 14) (((gN ev + 1) : Nat) : Int)) (15 * ev + 14) (((gN ev + 1) : Nat) : Int)) i)))) :: (aq, .inl (cJ, 16, .inr (.inl (fun i => jL ((va_up fq (8 * ev + gN ev) (zv zh * 4294967296 + (16 * (zv (gG ev) + 1) + zv (zc ((gT ev : Nat) : Int))))) i))))) :: (av, .inl (cJ, 16, .inr (.inl (fun i => jL ((va_up fv (8 * ev + gN ev) ((zv zj * 4294967296) + zv zz)) i))))) :: (au, .inl (cJ, 16, .inr (.inl (fun i => jL ((va_up fu (8 * ev + gN ev) (2 * zv zr)) i))))) :: (aw, .inl (cJ, 60, .inr (.inl (fun i => vL (fw2 i))))) :: (ay, .inl (cJ, 32, .inr (.inl (fun i => vL (fy2 i))))) :: (ag, .inl (cI, 2, .inl (fun i => jI ((fg i : Nat) : Int)))) :: (CW cI cE cG cM cS x0 q0 q1 qr (ms, es, gE, gM, gB, gT, gG, va_up (va_up gN ev (gN ev + 1)) ev (gN ev + 1), (told6 gK (6 * (30 * ev + gN ev)) (zc ((gT ev : Nat) : Int)) zh zj zz zr (gG ev)), gD) κ2)) H := hP.perm (List.perm_append_comm (l₁ := (CW cI cE cG cM cS x0 q0 q1 qr (ms, es, gE, gM, gB, gT, gG, va_up (va_up gN ev (gN ev + 1)) ev (gN ev + 1), (told6 gK (6 * (30 * ev + gN ev)) (zc ((gT ev : Nat) : Int)) zh zj zz zr (gG ev)), gD) κ2)) (l₂ := ([(ae, .inl (cI, 45, .inl (fun i => jI ((va_up (va_up fe (15 * ev + 14) (((gN ev + 1) : Nat) : Int)) (15 * ev + 14) (((gN ev + 1) : Nat) : Int)) i)))), (aq, .inl (cJ, 16, .inr (.inl (fun i => jL ((va_up fq (8 * ev + gN ev) (zv zh * 4294967296 + (16 * (zv (gG ev) + 1) + zv (zc ((gT ev : Nat) : Int))))) i))))), (av, .inl (cJ, 16, .inr (.inl (fun i => jL ((va_up fv (8 * ev + gN ev) ((zv zj * 4294967296) + zv zz)) i))))), (au, .inl (cJ, 16, .inr (.inl (fun i => jL ((va_up fu (8 * ev + gN ev) (2 * zv zr)) i))))), (aw, .inl (cJ, 60, .inr (.inl (fun i => vL (fw2 i))))), (ay, .inl (cJ, 32, .inr (.inl (fun i => vL (fy2 i))))), (ag, .inl (cI, 2, .inl (fun i => jI ((fg i : Nat) : Int))))] : va_W)))
                have hD : va_D A ((ae, .inl (cI, 45, .inl (fun i => jI ((va_up (va_up fe (15 * ev + 14) (((gN ev + 1) : Nat) : Int)) (15 * ev + 14) (((gN ev + 1) : Nat) : Int)) i)))) :: (aq, .inl (cJ, 16, .inr (.inl (fun i => jL ((va_up fq (8 * ev + gN ev) (zv zh * 4294967296 + (16 * (zv (gG ev) + 1) + zv (zc ((gT ev : Nat) : Int))))) i))))) :: (av, .inl (cJ, 16, .inr (.inl (fun i => jL ((va_up fv (8 * ev + gN ev) ((zv zj * 4294967296) + zv zz)) i))))) :: (au, .inl (cJ, 16, .inr (.inl (fun i => jL ((va_up fu (8 * ev + gN ev) (2 * zv zr)) i))))) :: (aw, .inl (cJ, 60, .inr (.inl (fun i => vL (fw2 i))))) :: (ay, .inl (cJ, 32, .inr (.inl (fun i => vL (fy2 i))))) :: (ag, .inl (cI, 2, .inl (fun i => jI ((fg i : Nat) : Int)))) :: (CW cI cE cG cM cS x0 q0 q1 qr (ms, es, gE, gM, gB, gT, gG, va_up (va_up gN ev (gN ev + 1)) ev (gN ev + 1), (told6 gK (6 * (30 * ev + gN ev)) (zc ((gT ev : Nat) : Int)) zh zj zz zr (gG ev)), gD) κ2)) := hD.perm (List.perm_append_comm (l₁ := (CW cI cE cG cM cS x0 q0 q1 qr (ms, es, gE, gM, gB, gT, gG, va_up (va_up gN ev (gN ev + 1)) ev (gN ev + 1), (told6 gK (6 * (30 * ev + gN ev)) (zc ((gT ev : Nat) : Int)) zh zj zz zr (gG ev)), gD) κ2)) (l₂ := ([(ae, .inl (cI, 45, .inl (fun i => jI ((va_up (va_up fe (15 * ev + 14) (((gN ev + 1) : Nat) : Int)) (15 * ev + 14) (((gN ev + 1) : Nat) : Int)) i)))), (aq, .inl (cJ, 16, .inr (.inl (fun i => jL ((va_up fq (8 * ev + gN ev) (zv zh * 4294967296 + (16 * (zv (gG ev) + 1) + zv (zc ((gT ev : Nat) : Int))))) i))))), (av, .inl (cJ, 16, .inr (.inl (fun i => jL ((va_up fv (8 * ev + gN ev) ((zv zj * 4294967296) + zv zz)) i))))), (au, .inl (cJ, 16, .inr (.inl (fun i => jL ((va_up fu (8 * ev + gN ev) (2 * zv zr)) i))))), (aw, .inl (cJ, 60, .inr (.inl (fun i => vL (fw2 i))))), (ay, .inl (cJ, 32, .inr (.inl (fun i => vL (fy2 i))))), (ag, .inl (cI, 2, .inl (fun i => jI ((fg i : Nat) : Int))))] : va_W)))
                refine lv_iload hx hb dL_isDone_687 (lv_at hl 0 rfl) ?_
                refine n_icmp_ne (tgt := 696) hx hb (by unfold r32; omega) (by unfold r32; omega) dL_isDone_689 (by decide) (fun h689 => False.elim (h689 rfl)) (fun h689 => ?_)
                refine n_iconst hx hb dL_isDone_692 ?_
                refine lv_goto (tgt := 697) hx hb dL_isDone_693 (by decide) ?_
                refine W.widen (k := 228) (n := 867) (Nat.le_of_ble_eq_true rfl) (Nat.le_of_ble_eq_true rfl) ?_
                exact y_zret (b := true) ((ms, es, gE, gM, gB, gT, gG, va_up (va_up gN ev (gN ev + 1)) ev (gN ev + 1), (told6 gK (6 * (30 * ev + gN ev)) (zc ((gT ev : Nat) : Int)) zh zj zz zr (gG ev)), gD), κ2, va_up (va_up fe (15 * ev + 14) (((gN ev + 1) : Nat) : Int)) (15 * ev + 14) (((gN ev + 1) : Nat) : Int), va_up fq (8 * ev + gN ev) (zv zh * 4294967296 + (16 * (zv (gG ev) + 1) + zv (zc ((gT ev : Nat) : Int)))), va_up fv (8 * ev + gN ev) ((zv zj * 4294967296) + zv zz), va_up fu (8 * ev + gN ev) (2 * zv zr), fw2, fy2) hx hb hr hlocks dL_isDone_697 hP hD hS rfl ⟨rfl, hI2, (hL.told hev (by omega) (hZ8 (gN ev) (Nat.le_refl _) (by omega))).up⟩
            by_cases h0 : two / 10 % 9 = 0
            · refine n_if_ne (tgt := 432) hx hb (by unfold r32; omega) dL_isDone_425 (by decide) (fun h425 => False.elim (by omega)) (fun h425 => ?_)
              refine n_iconst hx hb dL_isDone_428 ?_
              refine lv_goto (tgt := 441) hx hb dL_isDone_429 (by decide) ?_
              refine W.eq (g2 := F0 m 441 ls (.int (vI zr) :: [])) (congrArg (fun z : Int => F0 m 441 ls (.int (jI z) :: [])) (by rw [ezr, if_pos h0]; rfl)) ?_
              exact hk
            · refine n_if_ne (tgt := 432) hx hb (by unfold r32; omega) dL_isDone_425 (by decide) (fun h425 => ?_) (fun h425 => False.elim (by omega))
              refine lv_iload hx hb dL_isDone_432 (lv_at hl 18 rfl) ?_
              refine n_bipush hx hb dL_isDone_434 (by decide) ?_
              refine n_idivv (v := (((two / 10) : Nat) : Int)) hx hb dL_isDone_436 (by omega) (by omega) (by omega) (by omega) (by omega) ?_
              refine n_sipush hx hb dL_isDone_437 (by decide) ?_
              refine n_iremv (v := (zv zr)) hx hb dL_isDone_440 (by omega) (by omega) (by omega) (by omega) (by rw [ezr, if_neg h0]; omega) ?_
              exact hk

set_option maxHeartbeats 16000000 in
set_option maxRecDepth 100000 in
theorem c_L_isDone3 (l : Launch) (hl9 : l.stackTraces = false) (D : va_G) (tys : List (ClassId × FieldType)) {cI cE cG cM cS : ClassId} (htI : tys[0]? = some (cI, .int)) (htE : tys[3]? = some (cE, .object RX1)) (htM : tys[4]? = some (cM, .object RX2)) (htS : tys[5]? = some (cS, .object RX4)) (htG : tys[6]? = some (cG, .array .int)) (x0 q0 q1 : Nat) (qr : Nat → Nat) (ms es : Nat) (gE gM gB : Nat → Zp) (gT : Nat → Nat) (gG : Nat → Zp) (gN : Nat → Nat) (gK : Nat → Zp) (gD : Nat → Bool) (κ : Nat → EG) (hI : INV (ms, es, gE, gM, gB, gT, gG, gN, gK, gD) κ) {cJ : ClassId} (htJ : tys[1]? = some (cJ, .long)) (ae aq av au aw ay ag : Nat) (fm fe fq fv fu : Nat → Int) (fw fy : Nat → Zp) (fg : Nat → Nat) (c : Nat) (hL : LI (ms, es, gE, gM, gB, gT, gG, gN, gK, gD) fm fe fq fv fu fg c) (hc : c ≤ 60) (one two : Nat) (s1 : one < 60000) (s2 : two < 60000) : CtW (S := SG × (Nat → EG) × (Nat → Int) × (Nat → Int) × (Nat → Int) × (Nat → Int) × (Nat → Zp) × (Nat → Zp)) l D tys yL_isDone wsL_isDone 12 268 228 867 [.ref x0, .ref ae, .ref aq, .ref av, .ref au, .ref aw, .ref ay, .ref ag, .int (jI 3), .int (jI ((one : Nat) : Int)), .int (jI ((two : Nat) : Int))] (fun (r : Int32) (u : SG × (Nat → EG) × (Nat → Int) × (Nat → Int) × (Nat → Int) × (Nat → Int) × (Nat → Zp) × (Nat → Zp)) => r = jI (iB true) ∧ INV u.1 u.2.1 ∧ LI u.1 fm u.2.2.1 u.2.2.2.1 u.2.2.2.2.1 u.2.2.2.2.2.1 fg (c + 1)) ((ae, .inl (cI, 45, .inl (fun i => jI (fe i)))) :: (aq, .inl (cJ, 16, .inr (.inl (fun i => jL (fq i))))) :: (av, .inl (cJ, 16, .inr (.inl (fun i => jL (fv i))))) :: (au, .inl (cJ, 16, .inr (.inl (fun i => jL (fu i))))) :: (aw, .inl (cJ, 60, .inr (.inl (fun i => vL (fw i))))) :: (ay, .inl (cJ, 32, .inr (.inl (fun i => vL (fy i))))) :: (ag, .inl (cI, 2, .inl (fun i => jI ((fg i : Nat) : Int)))) :: (CW cI cE cG cM cS x0 q0 q1 qr (ms, es, gE, gM, gB, gT, gG, gN, gK, gD) κ)) (fun (u : SG × (Nat → EG) × (Nat → Int) × (Nat → Int) × (Nat → Int) × (Nat → Int) × (Nat → Zp) × (Nat → Zp)) => ((ae, .inl (cI, 45, .inl (fun i => jI (u.2.2.1 i)))) :: (aq, .inl (cJ, 16, .inr (.inl (fun i => jL (u.2.2.2.1 i))))) :: (av, .inl (cJ, 16, .inr (.inl (fun i => jL (u.2.2.2.2.1 i))))) :: (au, .inl (cJ, 16, .inr (.inl (fun i => jL (u.2.2.2.2.2.1 i))))) :: (aw, .inl (cJ, 60, .inr (.inl (fun i => vL (u.2.2.2.2.2.2.1 i))))) :: (ay, .inl (cJ, 32, .inr (.inl (fun i => vL (u.2.2.2.2.2.2.2 i))))) :: (ag, .inl (cI, 2, .inl (fun i => jI ((fg i : Nat) : Int)))) :: (CW cI cE cG cM cS x0 q0 q1 qr u.1 u.2.1))) := by
  refine CtW.ofP (cc := cL_isDone) (maxL := 24) (by decide +kernel) rfl (Nat.le_of_ble_eq_true rfl) ?_
  intro p e s m below meth c9 A ls hcx hK hXK hZ hN hP hD hA hl
  obtain ⟨hx, hb, hr, hml, hown, hts, hlocks⟩ := hcx
  have hS : va_S A s.heap s.heap [] := va_S.rf
  have hown : s.vm.findClass RL = some m.cls := hown
  have hl : lv_has ls 24 [(0, .ref x0), (1, .ref ae), (2, .ref aq), (3, .ref av), (4, .ref au), (5, .ref aw), (6, .ref ay), (7, .ref ag), (8, .int (jI 3)), (9, .int (jI ((one : Nat) : Int))), (10, .int (jI ((two : Nat) : Int)))] := hl
  obtain ⟨b3, b2, hg0, hg1, hm, hLe, c0, c1⟩ := id hL
  have k86 : (Cond.constantLong RL 86 (jL (2))).before _ s = true := hts (.constantLong RL 86 (2)) (by decide +kernel)
  refine lv_iload hx hb dL_isDone_0 (lv_at hl 9 rfl) ?_
  refine n_bipush hx hb dL_isDone_2 (by decide) ?_
  refine n_iremv (v := (((one % 7) : Nat) : Int)) hx hb dL_isDone_4 (by omega) (by omega) (by omega) (by omega) (by omega) ?_
  refine n_bipush hx hb dL_isDone_5 (by decide) ?_
  have hF : ∀ nn : Nat, es ≤ nn → nn ≤ 2 → ∀ (ls : Array Slot), lv_has ls 24 [(0, .ref x0), (1, .ref ae), (2, .ref aq), (3, .ref av), (4, .ref au), (5, .ref aw), (6, .ref ay), (7, .ref ag), (8, .int (jI 3)), (9, .int (jI ((one : Nat) : Int))), (10, .int (jI ((two : Nat) : Int)))] → W p l e { frames := 12, cells := 228, slots := 867, locals := 268 } s m ([Value.ref x0, .ref ae, .ref aq, .ref av, .ref au, .ref aw, .ref ay, .ref ag, .int (jI 3), .int (jI ((one : Nat) : Int)), .int (jI ((two : Nat) : Int))] : List Value).toArray below meth c9 s.heap [] 0 0 (MQ below (ENI D A (fun (r : Int32) (u : SG × (Nat → EG) × (Nat → Int) × (Nat → Int) × (Nat → Int) × (Nat → Int) × (Nat → Zp) × (Nat → Zp)) => r = jI (iB true) ∧ INV u.1 u.2.1 ∧ LI u.1 fm u.2.2.1 u.2.2.2.1 u.2.2.2.2.1 u.2.2.2.2.2.1 fg (c + 1)) (fun (u : SG × (Nat → EG) × (Nat → Int) × (Nat → Int) × (Nat → Int) × (Nat → Int) × (Nat → Zp) × (Nat → Zp)) => ((ae, .inl (cI, 45, .inl (fun i => jI (u.2.2.1 i)))) :: (aq, .inl (cJ, 16, .inr (.inl (fun i => jL (u.2.2.2.1 i))))) :: (av, .inl (cJ, 16, .inr (.inl (fun i => jL (u.2.2.2.2.1 i))))) :: (au, .inl (cJ, 16, .inr (.inl (fun i => jL (u.2.2.2.2.2.1 i))))) :: (aw, .inl (cJ, 60, .inr (.inl (fun i => vL (u.2.2.2.2.2.2.1 i))))) :: (ay, .inl (cJ, 32, .inr (.inl (fun i => vL (u.2.2.2.2.2.2.2 i))))) :: (ag, .inl (cI, 2, .inl (fun i => jI ((fg i : Nat) : Int)))) :: (CW cI cE cG cM cS x0 q0 q1 qr u.1 u.2.1))) (fun _ => [])) ([Value.ref x0, .ref ae, .ref aq, .ref av, .ref au, .ref aw, .ref ay, .ref ag, .int (jI 3), .int (jI ((one : Nat) : Int)), .int (jI ((two : Nat) : Int))] : List Value).toArray s 228 867 A) (F0 m 35 ls [.int (jI ((nn : Nat) : Int))]) := by
    intro nn hnn hn2 ls hl
    refine lv_istore (lv' := [(11, .int (jI ((nn : Nat) : Int))), (0, .ref x0), (1, .ref ae), (2, .ref aq), (3, .ref av), (4, .ref au), (5, .ref aw), (6, .ref ay), (7, .ref ag), (8, .int (jI 3)), (9, .int (jI ((one : Nat) : Int))), (10, .int (jI ((two : Nat) : Int)))]) hx hb dL_isDone_35 hl (by decide) rfl (fun ls hl => ?_)
    refine lv_iload hx hb dL_isDone_37 (lv_at hl 0 rfl) ?_
    refine lv_aload hx hb dL_isDone_39 (lv_at hl 8 rfl) ?_
    refine n_iconst hx hb dL_isDone_41 ?_
    refine n_nalv (i := 1) (v := ((es : Nat) : Int)) hx hb hK hP 6 0 rfl htI rfl (Nat.le_of_ble_eq_true rfl) (Nat.le_of_ble_eq_true rfl) (congrArg (fun z : Nat => (z : Int)) hg1) dL_isDone_42 ?_
    refine n_icmp_ge (tgt := 50) hx hb (by unfold r32; omega) (by unfold r32; omega) dL_isDone_43 (by decide) (fun h43 => ?_) (fun h43 => False.elim (by omega))
    refine n_iconst hx hb dL_isDone_50 ?_
    refine lv_istore (lv' := [(12, .int (jI 0)), (11, .int (jI ((nn : Nat) : Int))), (0, .ref x0), (1, .ref ae), (2, .ref aq), (3, .ref av), (4, .ref au), (5, .ref aw), (6, .ref ay), (7, .ref ag), (8, .int (jI 3)), (9, .int (jI ((one : Nat) : Int))), (10, .int (jI ((two : Nat) : Int)))]) hx hb dL_isDone_51 hl (by decide) rfl (fun ls hl => ?_)
    refine lv_iload hx hb dL_isDone_53 (lv_at hl 0 rfl) ?_
    refine n_if_eq (tgt := 66) hx hb (by unfold r32; decide) dL_isDone_55 (by decide) (fun h55 => ?_) (fun h55 => False.elim (by revert h55; decide))
    refine n_bipush hx hb dL_isDone_66 (by decide) ?_
    refine lv_istore (lv' := [(13, .int (jI 30)), (12, .int (jI 0)), (11, .int (jI ((nn : Nat) : Int))), (0, .ref x0), (1, .ref ae), (2, .ref aq), (3, .ref av), (4, .ref au), (5, .ref aw), (6, .ref ay), (7, .ref ag), (8, .int (jI 3)), (9, .int (jI ((one : Nat) : Int))), (10, .int (jI ((two : Nat) : Int)))]) hx hb dL_isDone_68 hl (by decide) rfl (fun ls hl => ?_)
    refine lv_iload hx hb dL_isDone_70 (lv_at hl 11 rfl) ?_
    refine n_if_ne (tgt := 202) hx hb (by unfold r32; decide) dL_isDone_72 (by decide) (fun h72 => ?_) (fun h72 => False.elim (by revert h72; decide))
    refine lv_iload hx hb dL_isDone_202 (lv_at hl 11 rfl) ?_
    refine n_iconst hx hb dL_isDone_204 ?_
    refine n_icmp_ne (tgt := 276) hx hb (by unfold r32; decide) (by unfold r32; decide) dL_isDone_205 (by decide) (fun h205 => ?_) (fun h205 => False.elim (by revert h205; decide))
    refine lv_iload hx hb dL_isDone_276 (lv_at hl 11 rfl) ?_
    refine n_iconst hx hb dL_isDone_278 ?_
    refine n_icmp_ne (tgt := 698) hx hb (by unfold r32; decide) (by unfold r32; decide) dL_isDone_279 (by decide) (fun h279 => ?_) (fun h279 => False.elim (by revert h279; decide))
    refine lv_iload hx hb dL_isDone_698 (lv_at hl 1 rfl) ?_
    refine n_if_eq (tgt := 718) hx hb (by unfold r32; decide) dL_isDone_700 (by decide) (fun h700 => ?_) (fun h700 => False.elim (by revert h700; decide))
    refine n_iconst hx hb dL_isDone_718 ?_
    refine lv_istore (lv' := [(14, .int (jI 0)), (13, .int (jI 30)), (12, .int (jI 0)), (11, .int (jI ((nn : Nat) : Int))), (0, .ref x0), (1, .ref ae), (2, .ref aq), (3, .ref av), (4, .ref au), (5, .ref aw), (6, .ref ay), (7, .ref ag), (8, .int (jI 3)), (9, .int (jI ((one : Nat) : Int))), (10, .int (jI ((two : Nat) : Int)))]) hx hb dL_isDone_719 hl (by decide) rfl (fun ls hl => ?_)
    refine lv_iload hx hb dL_isDone_721 (lv_at hl 2 rfl) ?_
    refine n_if_eq (tgt := 742) hx hb (by unfold r32; decide) dL_isDone_723 (by decide) (fun h723 => ?_) (fun h723 => False.elim (by revert h723; decide))
    refine n_iconst hx hb dL_isDone_742 ?_
    refine lv_istore (lv' := [(15, .int (jI 0)), (14, .int (jI 0)), (13, .int (jI 30)), (12, .int (jI 0)), (11, .int (jI ((nn : Nat) : Int))), (0, .ref x0), (1, .ref ae), (2, .ref aq), (3, .ref av), (4, .ref au), (5, .ref aw), (6, .ref ay), (7, .ref ag), (8, .int (jI 3)), (9, .int (jI ((one : Nat) : Int))), (10, .int (jI ((two : Nat) : Int)))]) hx hb dL_isDone_743 hl (by decide) rfl (fun ls hl => ?_)
    refine lv_iload hx hb dL_isDone_745 (lv_at hl 0 rfl) ?_
    refine n_if_eq (tgt := 774) hx hb (by unfold r32; decide) dL_isDone_747 (by decide) (fun h747 => ?_) (fun h747 => False.elim (by revert h747; decide))
    refine n_iconst hx hb dL_isDone_774 ?_
    refine lv_istore (lv' := [(16, .int (jI 0)), (15, .int (jI 0)), (14, .int (jI 0)), (13, .int (jI 30)), (12, .int (jI 0)), (11, .int (jI ((nn : Nat) : Int))), (0, .ref x0), (1, .ref ae), (2, .ref aq), (3, .ref av), (4, .ref au), (5, .ref aw), (6, .ref ay), (7, .ref ag), (8, .int (jI 3)), (9, .int (jI ((one : Nat) : Int))), (10, .int (jI ((two : Nat) : Int)))]) hx hb dL_isDone_775 hl (by decide) rfl (fun ls hl => ?_)
    refine lv_iload hx hb dL_isDone_777 (lv_at hl 0 rfl) ?_
    refine n_if_eq (tgt := 837) hx hb (by unfold r32; decide) dL_isDone_779 (by decide) (fun h779 => ?_) (fun h779 => False.elim (by revert h779; decide))
    refine lv_aload_n hx hb dL_isDone_837 rfl (lv_at hl 6 rfl) ?_
    refine n_bipush hx hb dL_isDone_838 (by decide) ?_
    refine lv_iload hx hb dL_isDone_840 (lv_at hl 5 rfl) ?_
    refine lv_iload hx hb dL_isDone_842 (lv_at hl 2 rfl) ?_
    refine n_iconst hx hb dL_isDone_844 ?_
    refine n_iconst hx hb dL_isDone_845 ?_
    refine n_iconst hx hb dL_isDone_846 ?_
    refine n_iconst hx hb dL_isDone_847 ?_
    have hC := d_drop1 l hl9 D tys htI htE htM htS htG x0 q0 q1 qr ms es gE gM gB gT gG gN gK gD κ hI ((nn : Nat) : Int) 0 (by unfold r32; omega) (by unfold r32; omega) (inB_f (by omega))
    have hW := w_does_drop l D tys x0 q0 q1 qr ms es gE gM gB gT gG gN gK gD κ (jI ((nn : Nat) : Int)) (jI 0) (jI 0) (jI 0) (jI 0) (jI 0) (ms, es, gE, gM, gB, gT, gG, gN, gK, gD) 1 hC
    have hP : va_P D vwCl ((CW cI cE cG cM cS x0 q0 q1 qr (ms, es, gE, gM, gB, gT, gG, gN, gK, gD) κ) ++ [(ae, .inl (cI, 45, .inl (fun i => jI (fe i)))), (aq, .inl (cJ, 16, .inr (.inl (fun i => jL (fq i))))), (av, .inl (cJ, 16, .inr (.inl (fun i => jL (fv i))))), (au, .inl (cJ, 16, .inr (.inl (fun i => jL (fu i))))), (aw, .inl (cJ, 60, .inr (.inl (fun i => vL (fw i))))), (ay, .inl (cJ, 32, .inr (.inl (fun i => vL (fy i))))), (ag, .inl (cI, 2, .inl (fun i => jI ((fg i : Nat) : Int))))]) s.heap := hP.perm (List.perm_append_comm (l₁ := ([(ae, .inl (cI, 45, .inl (fun i => jI (fe i)))), (aq, .inl (cJ, 16, .inr (.inl (fun i => jL (fq i))))), (av, .inl (cJ, 16, .inr (.inl (fun i => jL (fv i))))), (au, .inl (cJ, 16, .inr (.inl (fun i => jL (fu i))))), (aw, .inl (cJ, 60, .inr (.inl (fun i => vL (fw i))))), (ay, .inl (cJ, 32, .inr (.inl (fun i => vL (fy i))))), (ag, .inl (cI, 2, .inl (fun i => jI ((fg i : Nat) : Int))))] : va_W)) (l₂ := (CW cI cE cG cM cS x0 q0 q1 qr (ms, es, gE, gM, gB, gT, gG, gN, gK, gD) κ)))
    have hD : va_D A ((CW cI cE cG cM cS x0 q0 q1 qr (ms, es, gE, gM, gB, gT, gG, gN, gK, gD) κ) ++ [(ae, .inl (cI, 45, .inl (fun i => jI (fe i)))), (aq, .inl (cJ, 16, .inr (.inl (fun i => jL (fq i))))), (av, .inl (cJ, 16, .inr (.inl (fun i => jL (fv i))))), (au, .inl (cJ, 16, .inr (.inl (fun i => jL (fu i))))), (aw, .inl (cJ, 60, .inr (.inl (fun i => vL (fw i))))), (ay, .inl (cJ, 32, .inr (.inl (fun i => vL (fy i))))), (ag, .inl (cI, 2, .inl (fun i => jI ((fg i : Nat) : Int))))]) := hD.perm (List.perm_append_comm (l₁ := ([(ae, .inl (cI, 45, .inl (fun i => jI (fe i)))), (aq, .inl (cJ, 16, .inr (.inl (fun i => jL (fq i))))), (av, .inl (cJ, 16, .inr (.inl (fun i => jL (fv i))))), (au, .inl (cJ, 16, .inr (.inl (fun i => jL (fu i))))), (aw, .inl (cJ, 60, .inr (.inl (fun i => vL (fw i))))), (ay, .inl (cJ, 32, .inr (.inl (fun i => vL (fy i))))), (ag, .inl (cI, 2, .inl (fun i => jI ((fg i : Nat) : Int))))] : va_W)) (l₂ := (CW cI cE cG cM cS x0 q0 q1 qr (ms, es, gE, gM, gB, gT, gG, gN, gK, gD) κ)))
    refine a_goNI (vx_runSW (As := [.ref x0, .int (jI 7), .int (jI ((nn : Nat) : Int)), .int (jI 0), .int (jI 0), .int (jI 0), .int (jI 0), .int (jI 0)]) (rest := []) ⟨hx, hb, hml, hown, hts⟩ (hW _) (vx_cwSW 8 hts gL_isDone_L_does rfl rfl rfl (by decide +kernel) ⟨(Nat.le_of_ble_eq_true rfl), (Nat.le_of_ble_eq_true rfl)⟩) (c_pre hK hXK hZ hN hP hD hS hA) rfl rfl hl.1 rfl (lv_room (Nat.le_of_ble_eq_true rfl)) dL_isDone_848 ⟨(Nat.le_of_ble_eq_true rfl), (Nat.le_of_ble_eq_true rfl)⟩) hP hD hS hA (fun r κ2 H locs hpost hP hD hS => ?_)
    obtain ⟨hr9, hI2⟩ := hpost
    have hr9 : r = jI (-3) := hr9
    subst hr9
    have hP : va_P D vwCl ((CW cI cE cG cM cS x0 q0 q1 qr (ms, es, gE, gM, gB, gT, gG, gN, gK, gD) κ2) ++ [(ae, .inl (cI, 45, .inl (fun i => jI (fe i)))), (aq, .inl (cJ, 16, .inr (.inl (fun i => jL (fq i))))), (av, .inl (cJ, 16, .inr (.inl (fun i => jL (fv i))))), (au, .inl (cJ, 16, .inr (.inl (fun i => jL (fu i))))), (aw, .inl (cJ, 60, .inr (.inl (fun i => vL (fw i))))), (ay, .inl (cJ, 32, .inr (.inl (fun i => vL (fy i))))), (ag, .inl (cI, 2, .inl (fun i => jI ((fg i : Nat) : Int))))]) H := hP
    have hD : va_D A ((CW cI cE cG cM cS x0 q0 q1 qr (ms, es, gE, gM, gB, gT, gG, gN, gK, gD) κ2) ++ [(ae, .inl (cI, 45, .inl (fun i => jI (fe i)))), (aq, .inl (cJ, 16, .inr (.inl (fun i => jL (fq i))))), (av, .inl (cJ, 16, .inr (.inl (fun i => jL (fv i))))), (au, .inl (cJ, 16, .inr (.inl (fun i => jL (fu i))))), (aw, .inl (cJ, 60, .inr (.inl (fun i => vL (fw i))))), (ay, .inl (cJ, 32, .inr (.inl (fun i => vL (fy i))))), (ag, .inl (cI, 2, .inl (fun i => jI ((fg i : Nat) : Int))))]) := hD
    have hP : va_P D vwCl ((ae, .inl (cI, 45, .inl (fun i => jI (fe i)))) :: (aq, .inl (cJ, 16, .inr (.inl (fun i => jL (fq i))))) :: (av, .inl (cJ, 16, .inr (.inl (fun i => jL (fv i))))) :: (au, .inl (cJ, 16, .inr (.inl (fun i => jL (fu i))))) :: (aw, .inl (cJ, 60, .inr (.inl (fun i => vL (fw i))))) :: (ay, .inl (cJ, 32, .inr (.inl (fun i => vL (fy i))))) :: (ag, .inl (cI, 2, .inl (fun i => jI ((fg i : Nat) : Int)))) :: (CW cI cE cG cM cS x0 q0 q1 qr (ms, es, gE, gM, gB, gT, gG, gN, gK, gD) κ2)) H := hP.perm (List.perm_append_comm (l₁ := (CW cI cE cG cM cS x0 q0 q1 qr (ms, es, gE, gM, gB, gT, gG, gN, gK, gD) κ2)) (l₂ := ([(ae, .inl (cI, 45, .inl (fun i => jI (fe i)))), (aq, .inl (cJ, 16, .inr (.inl (fun i => jL (fq i))))), (av, .inl (cJ, 16, .inr (.inl (fun i => jL (fv i))))), (au, .inl (cJ, 16, .inr (.inl (fun i => jL (fu i))))), (aw, .inl (cJ, 60, .inr (.inl (fun i => vL (fw i))))), (ay, .inl (cJ, 32, .inr (.inl (fun i => vL (fy i))))), (ag, .inl (cI, 2, .inl (fun i => jI ((fg i : Nat) : Int))))] : va_W)))
    have hD : va_D A ((ae, .inl (cI, 45, .inl (fun i => jI (fe i)))) :: (aq, .inl (cJ, 16, .inr (.inl (fun i => jL (fq i))))) :: (av, .inl (cJ, 16, .inr (.inl (fun i => jL (fv i))))) :: (au, .inl (cJ, 16, .inr (.inl (fun i => jL (fu i))))) :: (aw, .inl (cJ, 60, .inr (.inl (fun i => vL (fw i))))) :: (ay, .inl (cJ, 32, .inr (.inl (fun i => vL (fy i))))) :: (ag, .inl (cI, 2, .inl (fun i => jI ((fg i : Nat) : Int)))) :: (CW cI cE cG cM cS x0 q0 q1 qr (ms, es, gE, gM, gB, gT, gG, gN, gK, gD) κ2)) := hD.perm (List.perm_append_comm (l₁ := (CW cI cE cG cM cS x0 q0 q1 qr (ms, es, gE, gM, gB, gT, gG, gN, gK, gD) κ2)) (l₂ := ([(ae, .inl (cI, 45, .inl (fun i => jI (fe i)))), (aq, .inl (cJ, 16, .inr (.inl (fun i => jL (fq i))))), (av, .inl (cJ, 16, .inr (.inl (fun i => jL (fv i))))), (au, .inl (cJ, 16, .inr (.inl (fun i => jL (fu i))))), (aw, .inl (cJ, 60, .inr (.inl (fun i => vL (fw i))))), (ay, .inl (cJ, 32, .inr (.inl (fun i => vL (fy i))))), (ag, .inl (cI, 2, .inl (fun i => jI ((fg i : Nat) : Int))))] : va_W)))
    refine lv_iload hx hb dL_isDone_851 (lv_at hl 1 rfl) ?_
    refine n_if_ne (tgt := 861) hx hb (by unfold r32; decide) dL_isDone_853 (by decide) (fun h853 => False.elim (by revert h853; decide)) (fun h853 => ?_)
    refine n_bipush hx hb dL_isDone_856 (by decide) ?_
    refine lv_goto (tgt := 871) hx hb dL_isDone_858 (by decide) ?_
    refine n_icmp_ne (tgt := 878) hx hb (by unfold r32; omega) (by unfold r32; omega) dL_isDone_871 (by decide) (fun h871 => False.elim (h871 rfl)) (fun h871 => ?_)
    refine n_iconst hx hb dL_isDone_874 ?_
    refine lv_goto (tgt := 879) hx hb dL_isDone_875 (by decide) ?_
    refine W.widen (k := 228) (n := 867) (Nat.le_of_ble_eq_true rfl) (Nat.le_of_ble_eq_true rfl) ?_
    exact y_zret (b := true) ((ms, es, gE, gM, gB, gT, gG, gN, gK, gD), κ2, fe, fq, fv, fu, fw, fy) hx hb hr hlocks dL_isDone_879 hP hD hS rfl ⟨rfl, hI2, hL.up⟩
  by_cases h6 : one % 7 = 6
  · refine n_icmp_ne (tgt := 17) hx hb (by unfold r32; omega) (by unfold r32; omega) dL_isDone_7 (by decide) (fun h7 => False.elim (by omega)) (fun h7 => ?_)
    refine lv_aload hx hb dL_isDone_10 (lv_at hl 7 rfl) ?_
    refine n_iconst hx hb dL_isDone_12 ?_
    refine n_nalv (i := 1) (v := ((es : Nat) : Int)) hx hb hK hP 6 0 rfl htI rfl (Nat.le_of_ble_eq_true rfl) (Nat.le_of_ble_eq_true rfl) (congrArg (fun z : Nat => (z : Int)) hg1) dL_isDone_13 ?_
    refine lv_goto (tgt := 35) hx hb dL_isDone_14 (by decide) ?_
    exact hF es (by omega) (by omega) ls hl
  · refine n_icmp_ne (tgt := 17) hx hb (by unfold r32; omega) (by unfold r32; omega) dL_isDone_7 (by decide) (fun h7 => ?_) (fun h7 => False.elim (by omega))
    refine lv_aload hx hb dL_isDone_17 (lv_at hl 7 rfl) ?_
    refine n_iconst hx hb dL_isDone_19 ?_
    refine n_nalv (i := 1) (v := ((es : Nat) : Int)) hx hb hK hP 6 0 rfl htI rfl (Nat.le_of_ble_eq_true rfl) (Nat.le_of_ble_eq_true rfl) (congrArg (fun z : Nat => (z : Int)) hg1) dL_isDone_20 ?_
    by_cases he0 : es = 0
    · refine n_if_ne (tgt := 28) hx hb (by unfold r32; omega) dL_isDone_21 (by decide) (fun h21 => False.elim (by omega)) (fun h21 => ?_)
      refine n_iconst hx hb dL_isDone_24 ?_
      refine lv_goto (tgt := 35) hx hb dL_isDone_25 (by decide) ?_
      exact hF 0 (by omega) (by omega) ls hl
    · refine n_if_ne (tgt := 28) hx hb (by unfold r32; omega) dL_isDone_21 (by decide) (fun h21 => ?_) (fun h21 => False.elim (by omega))
      obtain ⟨ev, eev, lev⟩ := rem_ex ((one : Nat) : Int) ((es : Nat) : Int) (by omega)
      have hev : ev < es := by omega
      obtain ⟨h12, h14, hT6, hN8, hZ8, hEs⟩ := hLe ev (by omega)
      obtain ⟨hEW, h13, hMW⟩ := hEs hev
      have bG := zv_le (gG ev)
      have aG := zv_0 (gG ev)
      have hat : (15 * ((ev : Nat) : Int)) = (((15 * ev) : Nat) : Int) := by omega
      refine lv_iload hx hb dL_isDone_28 (lv_at hl 9 rfl) ?_
      refine lv_aload hx hb dL_isDone_30 (lv_at hl 7 rfl) ?_
      refine n_iconst hx hb dL_isDone_32 ?_
      refine n_nalv (i := 1) (v := ((es : Nat) : Int)) hx hb hK hP 6 0 rfl htI rfl (Nat.le_of_ble_eq_true rfl) (Nat.le_of_ble_eq_true rfl) (congrArg (fun z : Nat => (z : Int)) hg1) dL_isDone_33 ?_
      refine n_iremv (v := ((ev : Nat) : Int)) hx hb dL_isDone_34 (by omega) (by omega) (by omega) (by omega) eev ?_
      refine lv_istore (lv' := [(11, .int (jI ((ev : Nat) : Int))), (0, .ref x0), (1, .ref ae), (2, .ref aq), (3, .ref av), (4, .ref au), (5, .ref aw), (6, .ref ay), (7, .ref ag), (8, .int (jI 3)), (9, .int (jI ((one : Nat) : Int))), (10, .int (jI ((two : Nat) : Int)))]) hx hb dL_isDone_35 hl (by decide) rfl (fun ls hl => ?_)
      refine lv_iload hx hb dL_isDone_37 (lv_at hl 0 rfl) ?_
      refine lv_aload hx hb dL_isDone_39 (lv_at hl 8 rfl) ?_
      refine n_iconst hx hb dL_isDone_41 ?_
      refine n_nalv (i := 1) (v := ((es : Nat) : Int)) hx hb hK hP 6 0 rfl htI rfl (Nat.le_of_ble_eq_true rfl) (Nat.le_of_ble_eq_true rfl) (congrArg (fun z : Nat => (z : Int)) hg1) dL_isDone_42 ?_
      refine n_icmp_ge (tgt := 50) hx hb (by unfold r32; omega) (by unfold r32; omega) dL_isDone_43 (by decide) (fun h43 => False.elim (by omega)) (fun h43 => ?_)
      refine n_iconst hx hb dL_isDone_46 ?_
      refine lv_goto (tgt := 51) hx hb dL_isDone_47 (by decide) ?_
      refine lv_istore (lv' := [(12, .int (jI 1)), (11, .int (jI ((ev : Nat) : Int))), (0, .ref x0), (1, .ref ae), (2, .ref aq), (3, .ref av), (4, .ref au), (5, .ref aw), (6, .ref ay), (7, .ref ag), (8, .int (jI 3)), (9, .int (jI ((one : Nat) : Int))), (10, .int (jI ((two : Nat) : Int)))]) hx hb dL_isDone_51 hl (by decide) rfl (fun ls hl => ?_)
      refine lv_iload hx hb dL_isDone_53 (lv_at hl 0 rfl) ?_
      refine n_if_eq (tgt := 66) hx hb (by unfold r32; decide) dL_isDone_55 (by decide) (fun h55 => False.elim (by revert h55; decide)) (fun h55 => ?_)
      refine n_bipush hx hb dL_isDone_58 (by decide) ?_
      refine lv_iload hx hb dL_isDone_60 (lv_at hl 1 rfl) ?_
      refine n_imul hx hb dL_isDone_62 ?_
      rw [hat]
      refine lv_goto (tgt := 68) hx hb dL_isDone_63 (by decide) ?_
      refine lv_istore (lv' := [(13, .int (jI (((15 * ev) : Nat) : Int))), (12, .int (jI 1)), (11, .int (jI ((ev : Nat) : Int))), (0, .ref x0), (1, .ref ae), (2, .ref aq), (3, .ref av), (4, .ref au), (5, .ref aw), (6, .ref ay), (7, .ref ag), (8, .int (jI 3)), (9, .int (jI ((one : Nat) : Int))), (10, .int (jI ((two : Nat) : Int)))]) hx hb dL_isDone_68 hl (by decide) rfl (fun ls hl => ?_)
      refine lv_iload hx hb dL_isDone_70 (lv_at hl 11 rfl) ?_
      refine n_if_ne (tgt := 202) hx hb (by unfold r32; decide) dL_isDone_72 (by decide) (fun h72 => ?_) (fun h72 => False.elim (by revert h72; decide))
      refine lv_iload hx hb dL_isDone_202 (lv_at hl 11 rfl) ?_
      refine n_iconst hx hb dL_isDone_204 ?_
      refine n_icmp_ne (tgt := 276) hx hb (by unfold r32; decide) (by unfold r32; decide) dL_isDone_205 (by decide) (fun h205 => ?_) (fun h205 => False.elim (by revert h205; decide))
      refine lv_iload hx hb dL_isDone_276 (lv_at hl 11 rfl) ?_
      refine n_iconst hx hb dL_isDone_278 ?_
      refine n_icmp_ne (tgt := 698) hx hb (by unfold r32; decide) (by unfold r32; decide) dL_isDone_279 (by decide) (fun h279 => ?_) (fun h279 => False.elim (by revert h279; decide))
      refine lv_iload hx hb dL_isDone_698 (lv_at hl 1 rfl) ?_
      refine n_if_eq (tgt := 718) hx hb (by unfold r32; decide) dL_isDone_700 (by decide) (fun h700 => False.elim (by revert h700; decide)) (fun h700 => ?_)
      refine lv_iload hx hb dL_isDone_703 (lv_at hl 13 rfl) ?_
      refine lv_aload_n hx hb dL_isDone_705 rfl (lv_at hl 4 rfl) ?_
      refine lv_iload hx hb dL_isDone_706 (lv_at hl 0 rfl) ?_
      refine n_bipush hx hb dL_isDone_708 (by decide) ?_
      refine n_iadd hx hb dL_isDone_710 ?_
      refine n_ialdv (i := ((15 * ev) + 14)) (v := (((gN ev) : Nat) : Int)) hx hb hK hP 0 0 rfl htI (by omega) (by omega) (Nat.le_of_ble_eq_true rfl) h14 dL_isDone_711 ?_
      refine n_iconst hx hb dL_isDone_712 ?_
      refine n_iadd hx hb dL_isDone_713 ?_
      obtain ⟨kv, ekv, lkv⟩ := rem_ex ((two : Nat) : Int) (((gN ev : Nat) : Int) + 1) (by omega)
      refine n_iremv (v := ((kv : Nat) : Int)) hx hb dL_isDone_714 (by omega) (by omega) (by omega) (by omega) ekv ?_
      refine lv_goto (tgt := 719) hx hb dL_isDone_715 (by decide) ?_
      refine lv_istore (lv' := [(14, .int (jI ((kv : Nat) : Int))), (13, .int (jI (((15 * ev) : Nat) : Int))), (12, .int (jI 1)), (11, .int (jI ((ev : Nat) : Int))), (0, .ref x0), (1, .ref ae), (2, .ref aq), (3, .ref av), (4, .ref au), (5, .ref aw), (6, .ref ay), (7, .ref ag), (8, .int (jI 3)), (9, .int (jI ((one : Nat) : Int))), (10, .int (jI ((two : Nat) : Int)))]) hx hb dL_isDone_719 hl (by decide) rfl (fun ls hl => ?_)
      refine lv_iload hx hb dL_isDone_721 (lv_at hl 2 rfl) ?_
      refine n_if_eq (tgt := 742) hx hb (by unfold r32; decide) dL_isDone_723 (by decide) (fun h723 => False.elim (by revert h723; decide)) (fun h723 => ?_)
      refine lv_iload hx hb dL_isDone_726 (lv_at hl 0 rfl) ?_
      refine lv_aload_n hx hb dL_isDone_728 rfl (lv_at hl 5 rfl) ?_
      refine lv_iload hx hb dL_isDone_729 (lv_at hl 1 rfl) ?_
      refine n_bipush hx hb dL_isDone_731 (by decide) ?_
      refine n_iadd hx hb dL_isDone_733 ?_
      refine n_ialdv (i := ((15 * ev) + 14)) (v := (((gN ev) : Nat) : Int)) hx hb hK hP 0 0 rfl htI (by omega) (by omega) (Nat.le_of_ble_eq_true rfl) h14 dL_isDone_734 ?_
      by_cases hkn : kv = gN ev
      · refine n_icmp_ge (tgt := 742) hx hb (by unfold r32; omega) (by unfold r32; omega) dL_isDone_735 (by decide) (fun h735 => ?_) (fun h735 => False.elim (by omega))
        refine n_iconst hx hb dL_isDone_742 ?_
        refine lv_istore (lv' := [(15, .int (jI 0)), (14, .int (jI ((kv : Nat) : Int))), (13, .int (jI (((15 * ev) : Nat) : Int))), (12, .int (jI 1)), (11, .int (jI ((ev : Nat) : Int))), (0, .ref x0), (1, .ref ae), (2, .ref aq), (3, .ref av), (4, .ref au), (5, .ref aw), (6, .ref ay), (7, .ref ag), (8, .int (jI 3)), (9, .int (jI ((one : Nat) : Int))), (10, .int (jI ((two : Nat) : Int)))]) hx hb dL_isDone_743 hl (by decide) rfl (fun ls hl => ?_)
        refine lv_iload hx hb dL_isDone_745 (lv_at hl 0 rfl) ?_
        refine n_if_eq (tgt := 774) hx hb (by unfold r32; decide) dL_isDone_747 (by decide) (fun h747 => ?_) (fun h747 => False.elim (by revert h747; decide))
        refine n_iconst hx hb dL_isDone_774 ?_
        refine lv_istore (lv' := [(16, .int (jI 0)), (15, .int (jI 0)), (14, .int (jI ((kv : Nat) : Int))), (13, .int (jI (((15 * ev) : Nat) : Int))), (12, .int (jI 1)), (11, .int (jI ((ev : Nat) : Int))), (0, .ref x0), (1, .ref ae), (2, .ref aq), (3, .ref av), (4, .ref au), (5, .ref aw), (6, .ref ay), (7, .ref ag), (8, .int (jI 3)), (9, .int (jI ((one : Nat) : Int))), (10, .int (jI ((two : Nat) : Int)))]) hx hb dL_isDone_775 hl (by decide) rfl (fun ls hl => ?_)
        refine lv_iload hx hb dL_isDone_777 (lv_at hl 0 rfl) ?_
        refine n_if_eq (tgt := 837) hx hb (by unfold r32; decide) dL_isDone_779 (by decide) (fun h779 => ?_) (fun h779 => False.elim (by revert h779; decide))
        refine lv_aload_n hx hb dL_isDone_837 rfl (lv_at hl 6 rfl) ?_
        refine n_bipush hx hb dL_isDone_838 (by decide) ?_
        refine lv_iload hx hb dL_isDone_840 (lv_at hl 5 rfl) ?_
        refine lv_iload hx hb dL_isDone_842 (lv_at hl 2 rfl) ?_
        refine n_iconst hx hb dL_isDone_844 ?_
        refine n_iconst hx hb dL_isDone_845 ?_
        refine n_iconst hx hb dL_isDone_846 ?_
        refine n_iconst hx hb dL_isDone_847 ?_
        have hC := d_drop2 l hl9 D tys htI htE htM htS htG x0 q0 q1 qr ms es gE gM gB gT gG gN gK gD κ hI ev hev ((kv : Nat) : Int) (by unfold r32; omega) (inB_f (by omega))
        have hW := w_does_drop l D tys x0 q0 q1 qr ms es gE gM gB gT gG gN gK gD κ (jI ((ev : Nat) : Int)) (jI ((kv : Nat) : Int)) (jI 0) (jI 0) (jI 0) (jI 0) (ms, es, gE, gM, gB, gT, gG, gN, gK, gD) 1 hC
        have hP : va_P D vwCl ((CW cI cE cG cM cS x0 q0 q1 qr (ms, es, gE, gM, gB, gT, gG, gN, gK, gD) κ) ++ [(ae, .inl (cI, 45, .inl (fun i => jI (fe i)))), (aq, .inl (cJ, 16, .inr (.inl (fun i => jL (fq i))))), (av, .inl (cJ, 16, .inr (.inl (fun i => jL (fv i))))), (au, .inl (cJ, 16, .inr (.inl (fun i => jL (fu i))))), (aw, .inl (cJ, 60, .inr (.inl (fun i => vL (fw i))))), (ay, .inl (cJ, 32, .inr (.inl (fun i => vL (fy i))))), (ag, .inl (cI, 2, .inl (fun i => jI ((fg i : Nat) : Int))))]) s.heap := hP.perm (List.perm_append_comm (l₁ := ([(ae, .inl (cI, 45, .inl (fun i => jI (fe i)))), (aq, .inl (cJ, 16, .inr (.inl (fun i => jL (fq i))))), (av, .inl (cJ, 16, .inr (.inl (fun i => jL (fv i))))), (au, .inl (cJ, 16, .inr (.inl (fun i => jL (fu i))))), (aw, .inl (cJ, 60, .inr (.inl (fun i => vL (fw i))))), (ay, .inl (cJ, 32, .inr (.inl (fun i => vL (fy i))))), (ag, .inl (cI, 2, .inl (fun i => jI ((fg i : Nat) : Int))))] : va_W)) (l₂ := (CW cI cE cG cM cS x0 q0 q1 qr (ms, es, gE, gM, gB, gT, gG, gN, gK, gD) κ)))
        have hD : va_D A ((CW cI cE cG cM cS x0 q0 q1 qr (ms, es, gE, gM, gB, gT, gG, gN, gK, gD) κ) ++ [(ae, .inl (cI, 45, .inl (fun i => jI (fe i)))), (aq, .inl (cJ, 16, .inr (.inl (fun i => jL (fq i))))), (av, .inl (cJ, 16, .inr (.inl (fun i => jL (fv i))))), (au, .inl (cJ, 16, .inr (.inl (fun i => jL (fu i))))), (aw, .inl (cJ, 60, .inr (.inl (fun i => vL (fw i))))), (ay, .inl (cJ, 32, .inr (.inl (fun i => vL (fy i))))), (ag, .inl (cI, 2, .inl (fun i => jI ((fg i : Nat) : Int))))]) := hD.perm (List.perm_append_comm (l₁ := ([(ae, .inl (cI, 45, .inl (fun i => jI (fe i)))), (aq, .inl (cJ, 16, .inr (.inl (fun i => jL (fq i))))), (av, .inl (cJ, 16, .inr (.inl (fun i => jL (fv i))))), (au, .inl (cJ, 16, .inr (.inl (fun i => jL (fu i))))), (aw, .inl (cJ, 60, .inr (.inl (fun i => vL (fw i))))), (ay, .inl (cJ, 32, .inr (.inl (fun i => vL (fy i))))), (ag, .inl (cI, 2, .inl (fun i => jI ((fg i : Nat) : Int))))] : va_W)) (l₂ := (CW cI cE cG cM cS x0 q0 q1 qr (ms, es, gE, gM, gB, gT, gG, gN, gK, gD) κ)))
        refine a_goNI (vx_runSW (As := [.ref x0, .int (jI 7), .int (jI ((ev : Nat) : Int)), .int (jI ((kv : Nat) : Int)), .int (jI 0), .int (jI 0), .int (jI 0), .int (jI 0)]) (rest := []) ⟨hx, hb, hml, hown, hts⟩ (hW _) (vx_cwSW 8 hts gL_isDone_L_does rfl rfl rfl (by decide +kernel) ⟨(Nat.le_of_ble_eq_true rfl), (Nat.le_of_ble_eq_true rfl)⟩) (c_pre hK hXK hZ hN hP hD hS hA) rfl rfl hl.1 rfl (lv_room (Nat.le_of_ble_eq_true rfl)) dL_isDone_848 ⟨(Nat.le_of_ble_eq_true rfl), (Nat.le_of_ble_eq_true rfl)⟩) hP hD hS hA (fun r κ2 H locs hpost hP hD hS => ?_)
        obtain ⟨hr9, hI2⟩ := hpost
        have hr9 : r = jI (-3) := hr9
        subst hr9
        have hP : va_P D vwCl ((CW cI cE cG cM cS x0 q0 q1 qr (ms, es, gE, gM, gB, gT, gG, gN, gK, gD) κ2) ++ [(ae, .inl (cI, 45, .inl (fun i => jI (fe i)))), (aq, .inl (cJ, 16, .inr (.inl (fun i => jL (fq i))))), (av, .inl (cJ, 16, .inr (.inl (fun i => jL (fv i))))), (au, .inl (cJ, 16, .inr (.inl (fun i => jL (fu i))))), (aw, .inl (cJ, 60, .inr (.inl (fun i => vL (fw i))))), (ay, .inl (cJ, 32, .inr (.inl (fun i => vL (fy i))))), (ag, .inl (cI, 2, .inl (fun i => jI ((fg i : Nat) : Int))))]) H := hP
        have hD : va_D A ((CW cI cE cG cM cS x0 q0 q1 qr (ms, es, gE, gM, gB, gT, gG, gN, gK, gD) κ2) ++ [(ae, .inl (cI, 45, .inl (fun i => jI (fe i)))), (aq, .inl (cJ, 16, .inr (.inl (fun i => jL (fq i))))), (av, .inl (cJ, 16, .inr (.inl (fun i => jL (fv i))))), (au, .inl (cJ, 16, .inr (.inl (fun i => jL (fu i))))), (aw, .inl (cJ, 60, .inr (.inl (fun i => vL (fw i))))), (ay, .inl (cJ, 32, .inr (.inl (fun i => vL (fy i))))), (ag, .inl (cI, 2, .inl (fun i => jI ((fg i : Nat) : Int))))]) := hD
        have hP : va_P D vwCl ((ae, .inl (cI, 45, .inl (fun i => jI (fe i)))) :: (aq, .inl (cJ, 16, .inr (.inl (fun i => jL (fq i))))) :: (av, .inl (cJ, 16, .inr (.inl (fun i => jL (fv i))))) :: (au, .inl (cJ, 16, .inr (.inl (fun i => jL (fu i))))) :: (aw, .inl (cJ, 60, .inr (.inl (fun i => vL (fw i))))) :: (ay, .inl (cJ, 32, .inr (.inl (fun i => vL (fy i))))) :: (ag, .inl (cI, 2, .inl (fun i => jI ((fg i : Nat) : Int)))) :: (CW cI cE cG cM cS x0 q0 q1 qr (ms, es, gE, gM, gB, gT, gG, gN, gK, gD) κ2)) H := hP.perm (List.perm_append_comm (l₁ := (CW cI cE cG cM cS x0 q0 q1 qr (ms, es, gE, gM, gB, gT, gG, gN, gK, gD) κ2)) (l₂ := ([(ae, .inl (cI, 45, .inl (fun i => jI (fe i)))), (aq, .inl (cJ, 16, .inr (.inl (fun i => jL (fq i))))), (av, .inl (cJ, 16, .inr (.inl (fun i => jL (fv i))))), (au, .inl (cJ, 16, .inr (.inl (fun i => jL (fu i))))), (aw, .inl (cJ, 60, .inr (.inl (fun i => vL (fw i))))), (ay, .inl (cJ, 32, .inr (.inl (fun i => vL (fy i))))), (ag, .inl (cI, 2, .inl (fun i => jI ((fg i : Nat) : Int))))] : va_W)))
        have hD : va_D A ((ae, .inl (cI, 45, .inl (fun i => jI (fe i)))) :: (aq, .inl (cJ, 16, .inr (.inl (fun i => jL (fq i))))) :: (av, .inl (cJ, 16, .inr (.inl (fun i => jL (fv i))))) :: (au, .inl (cJ, 16, .inr (.inl (fun i => jL (fu i))))) :: (aw, .inl (cJ, 60, .inr (.inl (fun i => vL (fw i))))) :: (ay, .inl (cJ, 32, .inr (.inl (fun i => vL (fy i))))) :: (ag, .inl (cI, 2, .inl (fun i => jI ((fg i : Nat) : Int)))) :: (CW cI cE cG cM cS x0 q0 q1 qr (ms, es, gE, gM, gB, gT, gG, gN, gK, gD) κ2)) := hD.perm (List.perm_append_comm (l₁ := (CW cI cE cG cM cS x0 q0 q1 qr (ms, es, gE, gM, gB, gT, gG, gN, gK, gD) κ2)) (l₂ := ([(ae, .inl (cI, 45, .inl (fun i => jI (fe i)))), (aq, .inl (cJ, 16, .inr (.inl (fun i => jL (fq i))))), (av, .inl (cJ, 16, .inr (.inl (fun i => jL (fv i))))), (au, .inl (cJ, 16, .inr (.inl (fun i => jL (fu i))))), (aw, .inl (cJ, 60, .inr (.inl (fun i => vL (fw i))))), (ay, .inl (cJ, 32, .inr (.inl (fun i => vL (fy i))))), (ag, .inl (cI, 2, .inl (fun i => jI ((fg i : Nat) : Int))))] : va_W)))
        refine lv_iload hx hb dL_isDone_851 (lv_at hl 1 rfl) ?_
        refine n_if_ne (tgt := 861) hx hb (by unfold r32; decide) dL_isDone_853 (by decide) (fun h853 => False.elim (by revert h853; decide)) (fun h853 => ?_)
        refine n_bipush hx hb dL_isDone_856 (by decide) ?_
        refine lv_goto (tgt := 871) hx hb dL_isDone_858 (by decide) ?_
        refine n_icmp_ne (tgt := 878) hx hb (by unfold r32; omega) (by unfold r32; omega) dL_isDone_871 (by decide) (fun h871 => False.elim (h871 rfl)) (fun h871 => ?_)
        refine n_iconst hx hb dL_isDone_874 ?_
        refine lv_goto (tgt := 879) hx hb dL_isDone_875 (by decide) ?_
        refine W.widen (k := 228) (n := 867) (Nat.le_of_ble_eq_true rfl) (Nat.le_of_ble_eq_true rfl) ?_
        exact y_zret (b := true) ((ms, es, gE, gM, gB, gT, gG, gN, gK, gD), κ2, fe, fq, fv, fu, fw, fy) hx hb hr hlocks dL_isDone_879 hP hD hS rfl ⟨rfl, hI2, hL.up⟩
      · have hk9 : kv < gN ev := by omega
        obtain ⟨hq8, hv8, hu8⟩ := hMW kv hk9
        have hu8 : fu (8 * ev + kv) = 2 * zv (gK (6 * (30 * ev + kv) + 4)) + iB (gD (30 * ev + kv)) := hu8
        have y0 := zv_0 (gK (6 * (30 * ev + kv) + 4))
        have y1 := zv_le (gK (6 * (30 * ev + kv) + 4))
        have y2 := (r01_B (gD (30 * ev + kv))).1
        have y3 := (r01_B (gD (30 * ev + kv))).2
        refine n_icmp_ge (tgt := 742) hx hb (by unfold r32; omega) (by unfold r32; omega) dL_isDone_735 (by decide) (fun h735 => False.elim (by omega)) (fun h735 => ?_)
        refine n_iconst hx hb dL_isDone_738 ?_
        refine lv_goto (tgt := 743) hx hb dL_isDone_739 (by decide) ?_
        refine lv_istore (lv' := [(15, .int (jI 1)), (14, .int (jI ((kv : Nat) : Int))), (13, .int (jI (((15 * ev) : Nat) : Int))), (12, .int (jI 1)), (11, .int (jI ((ev : Nat) : Int))), (0, .ref x0), (1, .ref ae), (2, .ref aq), (3, .ref av), (4, .ref au), (5, .ref aw), (6, .ref ay), (7, .ref ag), (8, .int (jI 3)), (9, .int (jI ((one : Nat) : Int))), (10, .int (jI ((two : Nat) : Int)))]) hx hb dL_isDone_743 hl (by decide) rfl (fun ls hl => ?_)
        refine lv_iload hx hb dL_isDone_745 (lv_at hl 0 rfl) ?_
        refine n_if_eq (tgt := 774) hx hb (by unfold r32; decide) dL_isDone_747 (by decide) (fun h747 => False.elim (by revert h747; decide)) (fun h747 => ?_)
        refine lv_aload hx hb dL_isDone_750 (lv_at hl 9 rfl) ?_
        refine n_bipush hx hb dL_isDone_752 (by decide) ?_
        refine lv_iload hx hb dL_isDone_754 (lv_at hl 4 rfl) ?_
        refine n_imul hx hb dL_isDone_756 ?_
        refine lv_iload hx hb dL_isDone_757 (lv_at hl 1 rfl) ?_
        refine n_iadd hx hb dL_isDone_759 ?_
        refine n_lald (i := (8 * ev + kv)) hx hb hK hP 3 1 rfl htJ (by omega) (by omega) (Nat.le_of_ble_eq_true rfl) dL_isDone_760 ?_
        refine lv_ldc2 (v := jL (2)) hx hb hown k86 dL_isDone_761 ?_
        refine n_lremv (v := (iB (gD (30 * ev + kv)))) hx hb dL_isDone_764 (by omega) (by omega) (by omega) (by omega) (by omega) ?_
        refine lv_lconst (v := jL 0) hx hb dL_isDone_765 rfl ?_
        refine W.lcmp hx hb dL_isDone_766 ?_
        by_cases hd : gD (30 * ev + kv) = true
        · refine n_lif_ne (tgt := 774) hx hb (by unfold r64; omega) (by unfold r64; omega) dL_isDone_767 (by decide) (fun h767 => ?_) (fun h767 => False.elim (by rw [hd] at h767; exact absurd h767 (by decide)))
          refine n_iconst hx hb dL_isDone_774 ?_
          refine lv_istore (lv' := [(16, .int (jI 0)), (15, .int (jI 1)), (14, .int (jI ((kv : Nat) : Int))), (13, .int (jI (((15 * ev) : Nat) : Int))), (12, .int (jI 1)), (11, .int (jI ((ev : Nat) : Int))), (0, .ref x0), (1, .ref ae), (2, .ref aq), (3, .ref av), (4, .ref au), (5, .ref aw), (6, .ref ay), (7, .ref ag), (8, .int (jI 3)), (9, .int (jI ((one : Nat) : Int))), (10, .int (jI ((two : Nat) : Int)))]) hx hb dL_isDone_775 hl (by decide) rfl (fun ls hl => ?_)
          refine lv_iload hx hb dL_isDone_777 (lv_at hl 0 rfl) ?_
          refine n_if_eq (tgt := 837) hx hb (by unfold r32; decide) dL_isDone_779 (by decide) (fun h779 => ?_) (fun h779 => False.elim (by revert h779; decide))
          refine lv_aload_n hx hb dL_isDone_837 rfl (lv_at hl 6 rfl) ?_
          refine n_bipush hx hb dL_isDone_838 (by decide) ?_
          refine lv_iload hx hb dL_isDone_840 (lv_at hl 5 rfl) ?_
          refine lv_iload hx hb dL_isDone_842 (lv_at hl 2 rfl) ?_
          refine n_iconst hx hb dL_isDone_844 ?_
          refine n_iconst hx hb dL_isDone_845 ?_
          refine n_iconst hx hb dL_isDone_846 ?_
          refine n_iconst hx hb dL_isDone_847 ?_
          have hC := d_drop3 l hl9 D tys htI htE htM htS htG x0 q0 q1 qr ms es gE gM gB gT gG gN gK gD κ hI ev hev kv hk9 hd
          have hW := w_does_drop l D tys x0 q0 q1 qr ms es gE gM gB gT gG gN gK gD κ (jI ((ev : Nat) : Int)) (jI ((kv : Nat) : Int)) (jI 0) (jI 0) (jI 0) (jI 0) (ms, es, gE, gM, gB, gT, gG, gN, gK, gD) 2 hC
          have hP : va_P D vwCl ((CW cI cE cG cM cS x0 q0 q1 qr (ms, es, gE, gM, gB, gT, gG, gN, gK, gD) κ) ++ [(ae, .inl (cI, 45, .inl (fun i => jI (fe i)))), (aq, .inl (cJ, 16, .inr (.inl (fun i => jL (fq i))))), (av, .inl (cJ, 16, .inr (.inl (fun i => jL (fv i))))), (au, .inl (cJ, 16, .inr (.inl (fun i => jL (fu i))))), (aw, .inl (cJ, 60, .inr (.inl (fun i => vL (fw i))))), (ay, .inl (cJ, 32, .inr (.inl (fun i => vL (fy i))))), (ag, .inl (cI, 2, .inl (fun i => jI ((fg i : Nat) : Int))))]) s.heap := hP.perm (List.perm_append_comm (l₁ := ([(ae, .inl (cI, 45, .inl (fun i => jI (fe i)))), (aq, .inl (cJ, 16, .inr (.inl (fun i => jL (fq i))))), (av, .inl (cJ, 16, .inr (.inl (fun i => jL (fv i))))), (au, .inl (cJ, 16, .inr (.inl (fun i => jL (fu i))))), (aw, .inl (cJ, 60, .inr (.inl (fun i => vL (fw i))))), (ay, .inl (cJ, 32, .inr (.inl (fun i => vL (fy i))))), (ag, .inl (cI, 2, .inl (fun i => jI ((fg i : Nat) : Int))))] : va_W)) (l₂ := (CW cI cE cG cM cS x0 q0 q1 qr (ms, es, gE, gM, gB, gT, gG, gN, gK, gD) κ)))
          have hD : va_D A ((CW cI cE cG cM cS x0 q0 q1 qr (ms, es, gE, gM, gB, gT, gG, gN, gK, gD) κ) ++ [(ae, .inl (cI, 45, .inl (fun i => jI (fe i)))), (aq, .inl (cJ, 16, .inr (.inl (fun i => jL (fq i))))), (av, .inl (cJ, 16, .inr (.inl (fun i => jL (fv i))))), (au, .inl (cJ, 16, .inr (.inl (fun i => jL (fu i))))), (aw, .inl (cJ, 60, .inr (.inl (fun i => vL (fw i))))), (ay, .inl (cJ, 32, .inr (.inl (fun i => vL (fy i))))), (ag, .inl (cI, 2, .inl (fun i => jI ((fg i : Nat) : Int))))]) := hD.perm (List.perm_append_comm (l₁ := ([(ae, .inl (cI, 45, .inl (fun i => jI (fe i)))), (aq, .inl (cJ, 16, .inr (.inl (fun i => jL (fq i))))), (av, .inl (cJ, 16, .inr (.inl (fun i => jL (fv i))))), (au, .inl (cJ, 16, .inr (.inl (fun i => jL (fu i))))), (aw, .inl (cJ, 60, .inr (.inl (fun i => vL (fw i))))), (ay, .inl (cJ, 32, .inr (.inl (fun i => vL (fy i))))), (ag, .inl (cI, 2, .inl (fun i => jI ((fg i : Nat) : Int))))] : va_W)) (l₂ := (CW cI cE cG cM cS x0 q0 q1 qr (ms, es, gE, gM, gB, gT, gG, gN, gK, gD) κ)))
          refine a_goNI (vx_runSW (As := [.ref x0, .int (jI 7), .int (jI ((ev : Nat) : Int)), .int (jI ((kv : Nat) : Int)), .int (jI 0), .int (jI 0), .int (jI 0), .int (jI 0)]) (rest := []) ⟨hx, hb, hml, hown, hts⟩ (hW _) (vx_cwSW 8 hts gL_isDone_L_does rfl rfl rfl (by decide +kernel) ⟨(Nat.le_of_ble_eq_true rfl), (Nat.le_of_ble_eq_true rfl)⟩) (c_pre hK hXK hZ hN hP hD hS hA) rfl rfl hl.1 rfl (lv_room (Nat.le_of_ble_eq_true rfl)) dL_isDone_848 ⟨(Nat.le_of_ble_eq_true rfl), (Nat.le_of_ble_eq_true rfl)⟩) hP hD hS hA (fun r κ2 H locs hpost hP hD hS => ?_)
          obtain ⟨hr9, hI2⟩ := hpost
          have hr9 : r = jI (-1) := hr9
          subst hr9
          have hP : va_P D vwCl ((CW cI cE cG cM cS x0 q0 q1 qr (ms, es, gE, gM, gB, gT, gG, gN, gK, gD) κ2) ++ [(ae, .inl (cI, 45, .inl (fun i => jI (fe i)))), (aq, .inl (cJ, 16, .inr (.inl (fun i => jL (fq i))))), (av, .inl (cJ, 16, .inr (.inl (fun i => jL (fv i))))), (au, .inl (cJ, 16, .inr (.inl (fun i => jL (fu i))))), (aw, .inl (cJ, 60, .inr (.inl (fun i => vL (fw i))))), (ay, .inl (cJ, 32, .inr (.inl (fun i => vL (fy i))))), (ag, .inl (cI, 2, .inl (fun i => jI ((fg i : Nat) : Int))))]) H := hP
          have hD : va_D A ((CW cI cE cG cM cS x0 q0 q1 qr (ms, es, gE, gM, gB, gT, gG, gN, gK, gD) κ2) ++ [(ae, .inl (cI, 45, .inl (fun i => jI (fe i)))), (aq, .inl (cJ, 16, .inr (.inl (fun i => jL (fq i))))), (av, .inl (cJ, 16, .inr (.inl (fun i => jL (fv i))))), (au, .inl (cJ, 16, .inr (.inl (fun i => jL (fu i))))), (aw, .inl (cJ, 60, .inr (.inl (fun i => vL (fw i))))), (ay, .inl (cJ, 32, .inr (.inl (fun i => vL (fy i))))), (ag, .inl (cI, 2, .inl (fun i => jI ((fg i : Nat) : Int))))]) := hD
          have hP : va_P D vwCl ((ae, .inl (cI, 45, .inl (fun i => jI (fe i)))) :: (aq, .inl (cJ, 16, .inr (.inl (fun i => jL (fq i))))) :: (av, .inl (cJ, 16, .inr (.inl (fun i => jL (fv i))))) :: (au, .inl (cJ, 16, .inr (.inl (fun i => jL (fu i))))) :: (aw, .inl (cJ, 60, .inr (.inl (fun i => vL (fw i))))) :: (ay, .inl (cJ, 32, .inr (.inl (fun i => vL (fy i))))) :: (ag, .inl (cI, 2, .inl (fun i => jI ((fg i : Nat) : Int)))) :: (CW cI cE cG cM cS x0 q0 q1 qr (ms, es, gE, gM, gB, gT, gG, gN, gK, gD) κ2)) H := hP.perm (List.perm_append_comm (l₁ := (CW cI cE cG cM cS x0 q0 q1 qr (ms, es, gE, gM, gB, gT, gG, gN, gK, gD) κ2)) (l₂ := ([(ae, .inl (cI, 45, .inl (fun i => jI (fe i)))), (aq, .inl (cJ, 16, .inr (.inl (fun i => jL (fq i))))), (av, .inl (cJ, 16, .inr (.inl (fun i => jL (fv i))))), (au, .inl (cJ, 16, .inr (.inl (fun i => jL (fu i))))), (aw, .inl (cJ, 60, .inr (.inl (fun i => vL (fw i))))), (ay, .inl (cJ, 32, .inr (.inl (fun i => vL (fy i))))), (ag, .inl (cI, 2, .inl (fun i => jI ((fg i : Nat) : Int))))] : va_W)))
          have hD : va_D A ((ae, .inl (cI, 45, .inl (fun i => jI (fe i)))) :: (aq, .inl (cJ, 16, .inr (.inl (fun i => jL (fq i))))) :: (av, .inl (cJ, 16, .inr (.inl (fun i => jL (fv i))))) :: (au, .inl (cJ, 16, .inr (.inl (fun i => jL (fu i))))) :: (aw, .inl (cJ, 60, .inr (.inl (fun i => vL (fw i))))) :: (ay, .inl (cJ, 32, .inr (.inl (fun i => vL (fy i))))) :: (ag, .inl (cI, 2, .inl (fun i => jI ((fg i : Nat) : Int)))) :: (CW cI cE cG cM cS x0 q0 q1 qr (ms, es, gE, gM, gB, gT, gG, gN, gK, gD) κ2)) := hD.perm (List.perm_append_comm (l₁ := (CW cI cE cG cM cS x0 q0 q1 qr (ms, es, gE, gM, gB, gT, gG, gN, gK, gD) κ2)) (l₂ := ([(ae, .inl (cI, 45, .inl (fun i => jI (fe i)))), (aq, .inl (cJ, 16, .inr (.inl (fun i => jL (fq i))))), (av, .inl (cJ, 16, .inr (.inl (fun i => jL (fv i))))), (au, .inl (cJ, 16, .inr (.inl (fun i => jL (fu i))))), (aw, .inl (cJ, 60, .inr (.inl (fun i => vL (fw i))))), (ay, .inl (cJ, 32, .inr (.inl (fun i => vL (fy i))))), (ag, .inl (cI, 2, .inl (fun i => jI ((fg i : Nat) : Int))))] : va_W)))
          refine lv_iload hx hb dL_isDone_851 (lv_at hl 1 rfl) ?_
          refine n_if_ne (tgt := 861) hx hb (by unfold r32; decide) dL_isDone_853 (by decide) (fun h853 => ?_) (fun h853 => False.elim (by revert h853; decide))
          refine lv_iload hx hb dL_isDone_861 (lv_at hl 0 rfl) ?_
          refine n_if_eq (tgt := 870) hx hb (by unfold r32; decide) dL_isDone_863 (by decide) (fun h863 => ?_) (fun h863 => False.elim (by revert h863; decide))
          refine n_iconst hx hb dL_isDone_870 ?_
          refine n_icmp_ne (tgt := 878) hx hb (by unfold r32; omega) (by unfold r32; omega) dL_isDone_871 (by decide) (fun h871 => False.elim (h871 rfl)) (fun h871 => ?_)
          refine n_iconst hx hb dL_isDone_874 ?_
          refine lv_goto (tgt := 879) hx hb dL_isDone_875 (by decide) ?_
          refine W.widen (k := 228) (n := 867) (Nat.le_of_ble_eq_true rfl) (Nat.le_of_ble_eq_true rfl) ?_
          exact y_zret (b := true) ((ms, es, gE, gM, gB, gT, gG, gN, gK, gD), κ2, fe, fq, fv, fu, fw, fy) hx hb hr hlocks dL_isDone_879 hP hD hS rfl ⟨rfl, hI2, hL.up⟩
        · rw [Bool.not_eq_true] at hd
          refine n_lif_ne (tgt := 774) hx hb (by unfold r64; omega) (by unfold r64; omega) dL_isDone_767 (by decide) (fun h767 => False.elim (h767 (by rw [hd]; rfl))) (fun h767 => ?_)
          refine n_iconst hx hb dL_isDone_770 ?_
          refine lv_goto (tgt := 775) hx hb dL_isDone_771 (by decide) ?_
          refine lv_istore (lv' := [(16, .int (jI 1)), (15, .int (jI 1)), (14, .int (jI ((kv : Nat) : Int))), (13, .int (jI (((15 * ev) : Nat) : Int))), (12, .int (jI 1)), (11, .int (jI ((ev : Nat) : Int))), (0, .ref x0), (1, .ref ae), (2, .ref aq), (3, .ref av), (4, .ref au), (5, .ref aw), (6, .ref ay), (7, .ref ag), (8, .int (jI 3)), (9, .int (jI ((one : Nat) : Int))), (10, .int (jI ((two : Nat) : Int)))]) hx hb dL_isDone_775 hl (by decide) rfl (fun ls hl => ?_)
          refine lv_iload hx hb dL_isDone_777 (lv_at hl 0 rfl) ?_
          refine n_if_eq (tgt := 837) hx hb (by unfold r32; decide) dL_isDone_779 (by decide) (fun h779 => False.elim (by revert h779; decide)) (fun h779 => ?_)
          refine lv_aload hx hb dL_isDone_782 (lv_at hl 10 rfl) ?_
          refine n_bipush hx hb dL_isDone_784 (by decide) ?_
          refine lv_iload hx hb dL_isDone_786 (lv_at hl 5 rfl) ?_
          refine n_imul hx hb dL_isDone_788 ?_
          refine lv_iload hx hb dL_isDone_789 (lv_at hl 2 rfl) ?_
          refine n_iadd hx hb dL_isDone_791 ?_
          refine lv_dup2_11 hx hb dL_isDone_792 rfl rfl ?_
          refine n_lald (i := (8 * ev + kv)) hx hb hK hP 3 1 rfl htJ (by omega) (by omega) (Nat.le_of_ble_eq_true rfl) dL_isDone_793 ?_
          refine lv_lconst (v := jL 1) hx hb dL_isDone_794 rfl ?_
          refine n_ladd hx hb dL_isDone_795 ?_
          refine n_last (i := (8 * ev + kv)) hx hb hK hP hD hS 3 1 rfl htJ (by omega) (by omega) (Nat.le_of_ble_eq_true rfl) dL_isDone_796 (fun H locs hP hD hS => ?_)
          have hP : va_P D vwCl ((ae, .inl (cI, 45, .inl (fun i => jI (fe i)))) :: (aq, .inl (cJ, 16, .inr (.inl (fun i => jL (fq i))))) :: (av, .inl (cJ, 16, .inr (.inl (fun i => jL (fv i))))) :: (au, .inl (cJ, 16, .inr (.inl (fun i => jL ((va_up fu (8 * ev + kv) ((fu (8 * ev + kv)) + 1)) i))))) :: (aw, .inl (cJ, 60, .inr (.inl (fun i => vL (fw i))))) :: (ay, .inl (cJ, 32, .inr (.inl (fun i => vL (fy i))))) :: (ag, .inl (cI, 2, .inl (fun i => jI ((fg i : Nat) : Int)))) :: (CW cI cE cG cM cS x0 q0 q1 qr (ms, es, gE, gM, gB, gT, gG, gN, gK, gD) κ)) H := hP
          have hD : va_D A ((ae, .inl (cI, 45, .inl (fun i => jI (fe i)))) :: (aq, .inl (cJ, 16, .inr (.inl (fun i => jL (fq i))))) :: (av, .inl (cJ, 16, .inr (.inl (fun i => jL (fv i))))) :: (au, .inl (cJ, 16, .inr (.inl (fun i => jL ((va_up fu (8 * ev + kv) ((fu (8 * ev + kv)) + 1)) i))))) :: (aw, .inl (cJ, 60, .inr (.inl (fun i => vL (fw i))))) :: (ay, .inl (cJ, 32, .inr (.inl (fun i => vL (fy i))))) :: (ag, .inl (cI, 2, .inl (fun i => jI ((fg i : Nat) : Int)))) :: (CW cI cE cG cM cS x0 q0 q1 qr (ms, es, gE, gM, gB, gT, gG, gN, gK, gD) κ)) := hD
          refine lv_aload_n hx hb dL_isDone_797 rfl (lv_at hl 7 rfl) ?_
          refine lv_aload_n hx hb dL_isDone_798 rfl (lv_at hl 8 rfl) ?_
          refine lv_aload_n hx hb dL_isDone_799 rfl (lv_at hl 9 rfl) ?_
          refine lv_aload hx hb dL_isDone_800 (lv_at hl 10 rfl) ?_
          refine lv_aload hx hb dL_isDone_802 (lv_at hl 11 rfl) ?_
          refine lv_aload hx hb dL_isDone_804 (lv_at hl 12 rfl) ?_
          refine lv_iload hx hb dL_isDone_806 (lv_at hl 5 rfl) ?_
          have hMg := hMW.dropped hd hk9
          have ctg := c_L_goes l D tys htI htJ ae aq av au aw ay ev fe fq fv (va_up fu (8 * ev + kv) ((fu (8 * ev + kv)) + 1)) fw fy (fun i => gM (7 * ev + i)) (s5at gB ev) (fun k c => gK (6 * (30 * ev + k) + c)) (fun k => (va_up gD (30 * ev + kv) true) (30 * ev + k)) (gT ev) (gN ev) (by omega) (by omega) (by omega) hEW hMg (hI.2.2.1 ev hev).2.2.2.2
          refine k_goE (va_runS (As := [.ref ae, .ref aq, .ref av, .ref au, .ref aw, .ref ay, .int (jI ((ev : Nat) : Int))]) (rest := []) ⟨hx, hb, hml, hown, hts⟩ (ctg.2 _) (va_cwS 7 hts gL_isDone_L_goes rfl rfl rfl (by decide +kernel) ⟨(Nat.le_of_ble_eq_true rfl), (Nat.le_of_ble_eq_true rfl)⟩) (k_pre hK hP hD (is := [0, 1, 2, 3, 4, 5]) rfl rfl) rfl rfl hl.1 rfl (lv_room (Nat.le_of_ble_eq_true rfl)) dL_isDone_808 ⟨(Nat.le_of_ble_eq_true rfl), (Nat.le_of_ble_eq_true rfl)⟩) ctg.1 hP hD hS hA [0, 1, 2, 3, 4, 5] rfl rfl (fun r u H locs hgo hP hD hS => ?_)
          obtain ⟨fw2, fy2⟩ := u
          have hP : va_P D vwCl ((ae, .inl (cI, 45, .inl (fun i => jI (fe i)))) :: (aq, .inl (cJ, 16, .inr (.inl (fun i => jL (fq i))))) :: (av, .inl (cJ, 16, .inr (.inl (fun i => jL (fv i))))) :: (au, .inl (cJ, 16, .inr (.inl (fun i => jL ((va_up fu (8 * ev + kv) ((fu (8 * ev + kv)) + 1)) i))))) :: (aw, .inl (cJ, 60, .inr (.inl (fun i => vL (fw2 i))))) :: (ay, .inl (cJ, 32, .inr (.inl (fun i => vL (fy2 i))))) :: (ag, .inl (cI, 2, .inl (fun i => jI ((fg i : Nat) : Int)))) :: (CW cI cE cG cM cS x0 q0 q1 qr (ms, es, gE, gM, gB, gT, gG, gN, gK, gD) κ)) H := hP
          have hD : va_D A ((ae, .inl (cI, 45, .inl (fun i => jI (fe i)))) :: (aq, .inl (cJ, 16, .inr (.inl (fun i => jL (fq i))))) :: (av, .inl (cJ, 16, .inr (.inl (fun i => jL (fv i))))) :: (au, .inl (cJ, 16, .inr (.inl (fun i => jL ((va_up fu (8 * ev + kv) ((fu (8 * ev + kv)) + 1)) i))))) :: (aw, .inl (cJ, 60, .inr (.inl (fun i => vL (fw2 i))))) :: (ay, .inl (cJ, 32, .inr (.inl (fun i => vL (fy2 i))))) :: (ag, .inl (cI, 2, .inl (fun i => jI ((fg i : Nat) : Int)))) :: (CW cI cE cG cM cS x0 q0 q1 qr (ms, es, gE, gM, gB, gT, gG, gN, gK, gD) κ)) := hD
          rcases hgo with ⟨hbn, hr9⟩ | ⟨hr9, hbs, -, -, -⟩
          · have hr9 : r = jI 0 := hr9
            subst hr9
            refine lv_istore (lv' := [(16, .int (jI 0)), (15, .int (jI 1)), (14, .int (jI ((kv : Nat) : Int))), (13, .int (jI (((15 * ev) : Nat) : Int))), (12, .int (jI 1)), (11, .int (jI ((ev : Nat) : Int))), (0, .ref x0), (1, .ref ae), (2, .ref aq), (3, .ref av), (4, .ref au), (5, .ref aw), (6, .ref ay), (7, .ref ag), (8, .int (jI 3)), (9, .int (jI ((one : Nat) : Int))), (10, .int (jI ((two : Nat) : Int)))]) hx hb dL_isDone_811 hl (by decide) rfl (fun ls hl => ?_)
            refine lv_aload hx hb dL_isDone_813 (lv_at hl 10 rfl) ?_
            refine n_bipush hx hb dL_isDone_815 (by decide) ?_
            refine lv_iload hx hb dL_isDone_817 (lv_at hl 5 rfl) ?_
            refine n_imul hx hb dL_isDone_819 ?_
            refine lv_iload hx hb dL_isDone_820 (lv_at hl 2 rfl) ?_
            refine n_iadd hx hb dL_isDone_822 ?_
            refine lv_dup2_11 hx hb dL_isDone_823 rfl rfl ?_
            refine n_laldv (i := (8 * ev + kv)) (v := ((fu (8 * ev + kv)) + 1)) hx hb hK hP 3 1 rfl htJ (by omega) (by omega) (Nat.le_of_ble_eq_true rfl) (up_s _ _ _) dL_isDone_824 ?_
            refine lv_iload hx hb dL_isDone_825 (lv_at hl 0 rfl) ?_
            refine n_if_eq (tgt := 834) hx hb (by unfold r32; decide) dL_isDone_827 (by decide) (fun h827 => ?_) (fun h827 => False.elim (by revert h827; decide))
            refine lv_lconst (v := jL 1) hx hb dL_isDone_834 rfl ?_
            refine n_lsub hx hb dL_isDone_835 ?_
            refine W.eq (g2 := F0 m 836 ls (.long (jL (fu (8 * ev + kv))) :: [.int (jI ((8 * ((ev : Nat) : Int)) + ((kv : Nat) : Int))), .ref au])) (congrArg (fun z : Int => F0 m 836 ls (.long (jL z) :: [.int (jI ((8 * ((ev : Nat) : Int)) + ((kv : Nat) : Int))), .ref au])) (by omega)) ?_
            refine n_last (i := (8 * ev + kv)) hx hb hK hP hD hS 3 1 rfl htJ (by omega) (by omega) (Nat.le_of_ble_eq_true rfl) dL_isDone_836 (fun H locs hP hD hS => ?_)
            have hP : va_P D vwCl ((ae, .inl (cI, 45, .inl (fun i => jI (fe i)))) :: (aq, .inl (cJ, 16, .inr (.inl (fun i => jL (fq i))))) :: (av, .inl (cJ, 16, .inr (.inl (fun i => jL (fv i))))) :: (au, .inl (cJ, 16, .inr (.inl (fun i => jL ((va_up (va_up fu (8 * ev + kv) ((fu (8 * ev + kv)) + 1)) (8 * ev + kv) (fu (8 * ev + kv))) i))))) :: (aw, .inl (cJ, 60, .inr (.inl (fun i => vL (fw2 i))))) :: (ay, .inl (cJ, 32, .inr (.inl (fun i => vL (fy2 i))))) :: (ag, .inl (cI, 2, .inl (fun i => jI ((fg i : Nat) : Int)))) :: (CW cI cE cG cM cS x0 q0 q1 qr (ms, es, gE, gM, gB, gT, gG, gN, gK, gD) κ)) H := hP
            have hD : va_D A ((ae, .inl (cI, 45, .inl (fun i => jI (fe i)))) :: (aq, .inl (cJ, 16, .inr (.inl (fun i => jL (fq i))))) :: (av, .inl (cJ, 16, .inr (.inl (fun i => jL (fv i))))) :: (au, .inl (cJ, 16, .inr (.inl (fun i => jL ((va_up (va_up fu (8 * ev + kv) ((fu (8 * ev + kv)) + 1)) (8 * ev + kv) (fu (8 * ev + kv))) i))))) :: (aw, .inl (cJ, 60, .inr (.inl (fun i => vL (fw2 i))))) :: (ay, .inl (cJ, 32, .inr (.inl (fun i => vL (fy2 i))))) :: (ag, .inl (cI, 2, .inl (fun i => jI ((fg i : Nat) : Int)))) :: (CW cI cE cG cM cS x0 q0 q1 qr (ms, es, gE, gM, gB, gT, gG, gN, gK, gD) κ)) := hD
            refine lv_aload_n hx hb dL_isDone_837 rfl (lv_at hl 6 rfl) ?_
            refine n_bipush hx hb dL_isDone_838 (by decide) ?_
            refine lv_iload hx hb dL_isDone_840 (lv_at hl 5 rfl) ?_
            refine lv_iload hx hb dL_isDone_842 (lv_at hl 2 rfl) ?_
            refine n_iconst hx hb dL_isDone_844 ?_
            refine n_iconst hx hb dL_isDone_845 ?_
            refine n_iconst hx hb dL_isDone_846 ?_
            refine n_iconst hx hb dL_isDone_847 ?_
            have hC := d_drop4 l hl9 D tys htI htE htM htS htG x0 q0 q1 qr ms es gE gM gB gT gG gN gK gD κ hI ev hev kv hk9 hd hbn
            have hW := w_does_drop l D tys x0 q0 q1 qr ms es gE gM gB gT gG gN gK gD κ (jI ((ev : Nat) : Int)) (jI ((kv : Nat) : Int)) (jI 0) (jI 0) (jI 0) (jI 0) (ms, es, gE, gM, gB, gT, gG, gN, gK, va_up (va_up gD (30 * ev + kv) true) (30 * ev + kv) false) 2 hC
            have hP : va_P D vwCl ((CW cI cE cG cM cS x0 q0 q1 qr (ms, es, gE, gM, gB, gT, gG, gN, gK, gD) κ) ++ [(ae, .inl (cI, 45, .inl (fun i => jI (fe i)))), (aq, .inl (cJ, 16, .inr (.inl (fun i => jL (fq i))))), (av, .inl (cJ, 16, .inr (.inl (fun i => jL (fv i))))), (au, .inl (cJ, 16, .inr (.inl (fun i => jL ((va_up (va_up fu (8 * ev + kv) ((fu (8 * ev + kv)) + 1)) (8 * ev + kv) (fu (8 * ev + kv))) i))))), (aw, .inl (cJ, 60, .inr (.inl (fun i => vL (fw2 i))))), (ay, .inl (cJ, 32, .inr (.inl (fun i => vL (fy2 i))))), (ag, .inl (cI, 2, .inl (fun i => jI ((fg i : Nat) : Int))))]) H := hP.perm (List.perm_append_comm (l₁ := ([(ae, .inl (cI, 45, .inl (fun i => jI (fe i)))), (aq, .inl (cJ, 16, .inr (.inl (fun i => jL (fq i))))), (av, .inl (cJ, 16, .inr (.inl (fun i => jL (fv i))))), (au, .inl (cJ, 16, .inr (.inl (fun i => jL ((va_up (va_up fu (8 * ev + kv) ((fu (8 * ev + kv)) + 1)) (8 * ev + kv) (fu (8 * ev + kv))) i))))), (aw, .inl (cJ, 60, .inr (.inl (fun i => vL (fw2 i))))), (ay, .inl (cJ, 32, .inr (.inl (fun i => vL (fy2 i))))), (ag, .inl (cI, 2, .inl (fun i => jI ((fg i : Nat) : Int))))] : va_W)) (l₂ := (CW cI cE cG cM cS x0 q0 q1 qr (ms, es, gE, gM, gB, gT, gG, gN, gK, gD) κ)))
            have hD : va_D A ((CW cI cE cG cM cS x0 q0 q1 qr (ms, es, gE, gM, gB, gT, gG, gN, gK, gD) κ) ++ [(ae, .inl (cI, 45, .inl (fun i => jI (fe i)))), (aq, .inl (cJ, 16, .inr (.inl (fun i => jL (fq i))))), (av, .inl (cJ, 16, .inr (.inl (fun i => jL (fv i))))), (au, .inl (cJ, 16, .inr (.inl (fun i => jL ((va_up (va_up fu (8 * ev + kv) ((fu (8 * ev + kv)) + 1)) (8 * ev + kv) (fu (8 * ev + kv))) i))))), (aw, .inl (cJ, 60, .inr (.inl (fun i => vL (fw2 i))))), (ay, .inl (cJ, 32, .inr (.inl (fun i => vL (fy2 i))))), (ag, .inl (cI, 2, .inl (fun i => jI ((fg i : Nat) : Int))))]) := hD.perm (List.perm_append_comm (l₁ := ([(ae, .inl (cI, 45, .inl (fun i => jI (fe i)))), (aq, .inl (cJ, 16, .inr (.inl (fun i => jL (fq i))))), (av, .inl (cJ, 16, .inr (.inl (fun i => jL (fv i))))), (au, .inl (cJ, 16, .inr (.inl (fun i => jL ((va_up (va_up fu (8 * ev + kv) ((fu (8 * ev + kv)) + 1)) (8 * ev + kv) (fu (8 * ev + kv))) i))))), (aw, .inl (cJ, 60, .inr (.inl (fun i => vL (fw2 i))))), (ay, .inl (cJ, 32, .inr (.inl (fun i => vL (fy2 i))))), (ag, .inl (cI, 2, .inl (fun i => jI ((fg i : Nat) : Int))))] : va_W)) (l₂ := (CW cI cE cG cM cS x0 q0 q1 qr (ms, es, gE, gM, gB, gT, gG, gN, gK, gD) κ)))
            refine a_goNI (vx_runSW (As := [.ref x0, .int (jI 7), .int (jI ((ev : Nat) : Int)), .int (jI ((kv : Nat) : Int)), .int (jI 0), .int (jI 0), .int (jI 0), .int (jI 0)]) (rest := []) ⟨hx, hb, hml, hown, hts⟩ (hW _) (vx_cwSW 8 hts gL_isDone_L_does rfl rfl rfl (by decide +kernel) ⟨(Nat.le_of_ble_eq_true rfl), (Nat.le_of_ble_eq_true rfl)⟩) (c_pre hK hXK hZ hN hP hD hS hA) rfl rfl hl.1 rfl (lv_room (Nat.le_of_ble_eq_true rfl)) dL_isDone_848 ⟨(Nat.le_of_ble_eq_true rfl), (Nat.le_of_ble_eq_true rfl)⟩) hP hD hS hA (fun r κ2 H locs hpost hP hD hS => ?_)
            obtain ⟨hr9, hI2⟩ := hpost
            have hr9 : r = jI (-1) := hr9
            subst hr9
            have hP : va_P D vwCl ((CW cI cE cG cM cS x0 q0 q1 qr (ms, es, gE, gM, gB, gT, gG, gN, gK, va_up (va_up gD (30 * ev + kv) true) (30 * ev + kv) false) κ2) ++ [(ae, .inl (cI, 45, .inl (fun i => jI (fe i)))), (aq, .inl (cJ, 16, .inr (.inl (fun i => jL (fq i))))), (av, .inl (cJ, 16, .inr (.inl (fun i => jL (fv i))))), (au, .inl (cJ, 16, .inr (.inl (fun i => jL ((va_up (va_up fu (8 * ev + kv) ((fu (8 * ev + kv)) + 1)) (8 * ev + kv) (fu (8 * ev + kv))) i))))), (aw, .inl (cJ, 60, .inr (.inl (fun i => vL (fw2 i))))), (ay, .inl (cJ, 32, .inr (.inl (fun i => vL (fy2 i))))), (ag, .inl (cI, 2, .inl (fun i => jI ((fg i : Nat) : Int))))]) H := hP
            have hD : va_D A ((CW cI cE cG cM cS x0 q0 q1 qr (ms, es, gE, gM, gB, gT, gG, gN, gK, va_up (va_up gD (30 * ev + kv) true) (30 * ev + kv) false) κ2) ++ [(ae, .inl (cI, 45, .inl (fun i => jI (fe i)))), (aq, .inl (cJ, 16, .inr (.inl (fun i => jL (fq i))))), (av, .inl (cJ, 16, .inr (.inl (fun i => jL (fv i))))), (au, .inl (cJ, 16, .inr (.inl (fun i => jL ((va_up (va_up fu (8 * ev + kv) ((fu (8 * ev + kv)) + 1)) (8 * ev + kv) (fu (8 * ev + kv))) i))))), (aw, .inl (cJ, 60, .inr (.inl (fun i => vL (fw2 i))))), (ay, .inl (cJ, 32, .inr (.inl (fun i => vL (fy2 i))))), (ag, .inl (cI, 2, .inl (fun i => jI ((fg i : Nat) : Int))))]) := hD
            have hP : va_P D vwCl ((ae, .inl (cI, 45, .inl (fun i => jI (fe i)))) :: (aq, .inl (cJ, 16, .inr (.inl (fun i => jL (fq i))))) :: (av, .inl (cJ, 16, .inr (.inl (fun i => jL (fv i))))) :: (au, .inl (cJ, 16, .inr (.inl (fun i => jL ((va_up (va_up fu (8 * ev + kv) ((fu (8 * ev + kv)) + 1)) (8 * ev + kv) (fu (8 * ev + kv))) i))))) :: (aw, .inl (cJ, 60, .inr (.inl (fun i => vL (fw2 i))))) :: (ay, .inl (cJ, 32, .inr (.inl (fun i => vL (fy2 i))))) :: (ag, .inl (cI, 2, .inl (fun i => jI ((fg i : Nat) : Int)))) :: (CW cI cE cG cM cS x0 q0 q1 qr (ms, es, gE, gM, gB, gT, gG, gN, gK, va_up (va_up gD (30 * ev + kv) true) (30 * ev + kv) false) κ2)) H := hP.perm (List.perm_append_comm (l₁ := (CW cI cE cG cM cS x0 q0 q1 qr (ms, es, gE, gM, gB, gT, gG, gN, gK, va_up (va_up gD (30 * ev + kv) true) (30 * ev + kv) false) κ2)) (l₂ := ([(ae, .inl (cI, 45, .inl (fun i => jI (fe i)))), (aq, .inl (cJ, 16, .inr (.inl (fun i => jL (fq i))))), (av, .inl (cJ, 16, .inr (.inl (fun i => jL (fv i))))), (au, .inl (cJ, 16, .inr (.inl (fun i => jL ((va_up (va_up fu (8 * ev + kv) ((fu (8 * ev + kv)) + 1)) (8 * ev + kv) (fu (8 * ev + kv))) i))))), (aw, .inl (cJ, 60, .inr (.inl (fun i => vL (fw2 i))))), (ay, .inl (cJ, 32, .inr (.inl (fun i => vL (fy2 i))))), (ag, .inl (cI, 2, .inl (fun i => jI ((fg i : Nat) : Int))))] : va_W)))
            have hD : va_D A ((ae, .inl (cI, 45, .inl (fun i => jI (fe i)))) :: (aq, .inl (cJ, 16, .inr (.inl (fun i => jL (fq i))))) :: (av, .inl (cJ, 16, .inr (.inl (fun i => jL (fv i))))) :: (au, .inl (cJ, 16, .inr (.inl (fun i => jL ((va_up (va_up fu (8 * ev + kv) ((fu (8 * ev + kv)) + 1)) (8 * ev + kv) (fu (8 * ev + kv))) i))))) :: (aw, .inl (cJ, 60, .inr (.inl (fun i => vL (fw2 i))))) :: (ay, .inl (cJ, 32, .inr (.inl (fun i => vL (fy2 i))))) :: (ag, .inl (cI, 2, .inl (fun i => jI ((fg i : Nat) : Int)))) :: (CW cI cE cG cM cS x0 q0 q1 qr (ms, es, gE, gM, gB, gT, gG, gN, gK, va_up (va_up gD (30 * ev + kv) true) (30 * ev + kv) false) κ2)) := hD.perm (List.perm_append_comm (l₁ := (CW cI cE cG cM cS x0 q0 q1 qr (ms, es, gE, gM, gB, gT, gG, gN, gK, va_up (va_up gD (30 * ev + kv) true) (30 * ev + kv) false) κ2)) (l₂ := ([(ae, .inl (cI, 45, .inl (fun i => jI (fe i)))), (aq, .inl (cJ, 16, .inr (.inl (fun i => jL (fq i))))), (av, .inl (cJ, 16, .inr (.inl (fun i => jL (fv i))))), (au, .inl (cJ, 16, .inr (.inl (fun i => jL ((va_up (va_up fu (8 * ev + kv) ((fu (8 * ev + kv)) + 1)) (8 * ev + kv) (fu (8 * ev + kv))) i))))), (aw, .inl (cJ, 60, .inr (.inl (fun i => vL (fw2 i))))), (ay, .inl (cJ, 32, .inr (.inl (fun i => vL (fy2 i))))), (ag, .inl (cI, 2, .inl (fun i => jI ((fg i : Nat) : Int))))] : va_W)))
            refine lv_iload hx hb dL_isDone_851 (lv_at hl 1 rfl) ?_
            refine n_if_ne (tgt := 861) hx hb (by unfold r32; decide) dL_isDone_853 (by decide) (fun h853 => ?_) (fun h853 => False.elim (by revert h853; decide))
            refine lv_iload hx hb dL_isDone_861 (lv_at hl 0 rfl) ?_
            refine n_if_eq (tgt := 870) hx hb (by unfold r32; decide) dL_isDone_863 (by decide) (fun h863 => ?_) (fun h863 => False.elim (by revert h863; decide))
            refine n_iconst hx hb dL_isDone_870 ?_
            refine n_icmp_ne (tgt := 878) hx hb (by unfold r32; omega) (by unfold r32; omega) dL_isDone_871 (by decide) (fun h871 => False.elim (h871 rfl)) (fun h871 => ?_)
            refine n_iconst hx hb dL_isDone_874 ?_
            refine lv_goto (tgt := 879) hx hb dL_isDone_875 (by decide) ?_
            refine W.widen (k := 228) (n := 867) (Nat.le_of_ble_eq_true rfl) (Nat.le_of_ble_eq_true rfl) ?_
            exact y_zret (b := true) ((ms, es, gE, gM, gB, gT, gG, gN, gK, va_up (va_up gD (30 * ev + kv) true) (30 * ev + kv) false), κ2, fe, fq, fv, va_up (va_up fu (8 * ev + kv) ((fu (8 * ev + kv)) + 1)) (8 * ev + kv) (fu (8 * ev + kv)), fw2, fy2) hx hb hr hlocks dL_isDone_879 hP hD hS rfl ⟨rfl, hI2, (hL.undropped hev hk9 hd).up⟩
          · have hr9 : r = jI 1 := hr9
            subst hr9
            refine lv_istore (lv' := [(16, .int (jI 1)), (15, .int (jI 1)), (14, .int (jI ((kv : Nat) : Int))), (13, .int (jI (((15 * ev) : Nat) : Int))), (12, .int (jI 1)), (11, .int (jI ((ev : Nat) : Int))), (0, .ref x0), (1, .ref ae), (2, .ref aq), (3, .ref av), (4, .ref au), (5, .ref aw), (6, .ref ay), (7, .ref ag), (8, .int (jI 3)), (9, .int (jI ((one : Nat) : Int))), (10, .int (jI ((two : Nat) : Int)))]) hx hb dL_isDone_811 hl (by decide) rfl (fun ls hl => ?_)
            refine lv_aload hx hb dL_isDone_813 (lv_at hl 10 rfl) ?_
            refine n_bipush hx hb dL_isDone_815 (by decide) ?_
            refine lv_iload hx hb dL_isDone_817 (lv_at hl 5 rfl) ?_
            refine n_imul hx hb dL_isDone_819 ?_
            refine lv_iload hx hb dL_isDone_820 (lv_at hl 2 rfl) ?_
            refine n_iadd hx hb dL_isDone_822 ?_
            refine lv_dup2_11 hx hb dL_isDone_823 rfl rfl ?_
            refine n_laldv (i := (8 * ev + kv)) (v := ((fu (8 * ev + kv)) + 1)) hx hb hK hP 3 1 rfl htJ (by omega) (by omega) (Nat.le_of_ble_eq_true rfl) (up_s _ _ _) dL_isDone_824 ?_
            refine lv_iload hx hb dL_isDone_825 (lv_at hl 0 rfl) ?_
            refine n_if_eq (tgt := 834) hx hb (by unfold r32; decide) dL_isDone_827 (by decide) (fun h827 => False.elim (by revert h827; decide)) (fun h827 => ?_)
            refine lv_lconst (v := jL 0) hx hb dL_isDone_830 rfl ?_
            refine lv_goto (tgt := 835) hx hb dL_isDone_831 (by decide) ?_
            refine n_lsub hx hb dL_isDone_835 ?_
            refine W.eq (g2 := F0 m 836 ls (.long (jL (fu (8 * ev + kv) + 1)) :: [.int (jI ((8 * ((ev : Nat) : Int)) + ((kv : Nat) : Int))), .ref au])) (congrArg (fun z : Int => F0 m 836 ls (.long (jL z) :: [.int (jI ((8 * ((ev : Nat) : Int)) + ((kv : Nat) : Int))), .ref au])) (by omega)) ?_
            refine n_last (i := (8 * ev + kv)) hx hb hK hP hD hS 3 1 rfl htJ (by omega) (by omega) (Nat.le_of_ble_eq_true rfl) dL_isDone_836 (fun H locs hP hD hS => ?_)
            have hP : va_P D vwCl ((ae, .inl (cI, 45, .inl (fun i => jI (fe i)))) :: (aq, .inl (cJ, 16, .inr (.inl (fun i => jL (fq i))))) :: (av, .inl (cJ, 16, .inr (.inl (fun i => jL (fv i))))) :: (au, .inl (cJ, 16, .inr (.inl (fun i => jL ((va_up (va_up fu (8 * ev + kv) ((fu (8 * ev + kv)) + 1)) (8 * ev + kv) (fu (8 * ev + kv) + 1)) i))))) :: (aw, .inl (cJ, 60, .inr (.inl (fun i => vL (fw2 i))))) :: (ay, .inl (cJ, 32, .inr (.inl (fun i => vL (fy2 i))))) :: (ag, .inl (cI, 2, .inl (fun i => jI ((fg i : Nat) : Int)))) :: (CW cI cE cG cM cS x0 q0 q1 qr (ms, es, gE, gM, gB, gT, gG, gN, gK, gD) κ)) H := hP
            have hD : va_D A ((ae, .inl (cI, 45, .inl (fun i => jI (fe i)))) :: (aq, .inl (cJ, 16, .inr (.inl (fun i => jL (fq i))))) :: (av, .inl (cJ, 16, .inr (.inl (fun i => jL (fv i))))) :: (au, .inl (cJ, 16, .inr (.inl (fun i => jL ((va_up (va_up fu (8 * ev + kv) ((fu (8 * ev + kv)) + 1)) (8 * ev + kv) (fu (8 * ev + kv) + 1)) i))))) :: (aw, .inl (cJ, 60, .inr (.inl (fun i => vL (fw2 i))))) :: (ay, .inl (cJ, 32, .inr (.inl (fun i => vL (fy2 i))))) :: (ag, .inl (cI, 2, .inl (fun i => jI ((fg i : Nat) : Int)))) :: (CW cI cE cG cM cS x0 q0 q1 qr (ms, es, gE, gM, gB, gT, gG, gN, gK, gD) κ)) := hD
            refine lv_aload_n hx hb dL_isDone_837 rfl (lv_at hl 6 rfl) ?_
            refine n_bipush hx hb dL_isDone_838 (by decide) ?_
            refine lv_iload hx hb dL_isDone_840 (lv_at hl 5 rfl) ?_
            refine lv_iload hx hb dL_isDone_842 (lv_at hl 2 rfl) ?_
            refine n_iconst hx hb dL_isDone_844 ?_
            refine n_iconst hx hb dL_isDone_845 ?_
            refine n_iconst hx hb dL_isDone_846 ?_
            refine n_iconst hx hb dL_isDone_847 ?_
            have hC := d_drop0 l hl9 D tys htI htE htM htS htG x0 q0 q1 qr ms es gE gM gB gT gG gN gK gD κ hI ev hev kv (s5 fw2) hk9 hd hbs
            have hW := w_does_drop l D tys x0 q0 q1 qr ms es gE gM gB gT gG gN gK gD κ (jI ((ev : Nat) : Int)) (jI ((kv : Nat) : Int)) (jI 0) (jI 0) (jI 0) (jI 0) (ms, es, gE, gM, gB, gT, gG, gN, gK, va_up (va_up gD (30 * ev + kv) true) (30 * ev + kv) true) 0 hC
            have hP : va_P D vwCl ((CW cI cE cG cM cS x0 q0 q1 qr (ms, es, gE, gM, gB, gT, gG, gN, gK, gD) κ) ++ [(ae, .inl (cI, 45, .inl (fun i => jI (fe i)))), (aq, .inl (cJ, 16, .inr (.inl (fun i => jL (fq i))))), (av, .inl (cJ, 16, .inr (.inl (fun i => jL (fv i))))), (au, .inl (cJ, 16, .inr (.inl (fun i => jL ((va_up (va_up fu (8 * ev + kv) ((fu (8 * ev + kv)) + 1)) (8 * ev + kv) (fu (8 * ev + kv) + 1)) i))))), (aw, .inl (cJ, 60, .inr (.inl (fun i => vL (fw2 i))))), (ay, .inl (cJ, 32, .inr (.inl (fun i => vL (fy2 i))))), (ag, .inl (cI, 2, .inl (fun i => jI ((fg i : Nat) : Int))))]) H := hP.perm (List.perm_append_comm (l₁ := ([(ae, .inl (cI, 45, .inl (fun i => jI (fe i)))), (aq, .inl (cJ, 16, .inr (.inl (fun i => jL (fq i))))), (av, .inl (cJ, 16, .inr (.inl (fun i => jL (fv i))))), (au, .inl (cJ, 16, .inr (.inl (fun i => jL ((va_up (va_up fu (8 * ev + kv) ((fu (8 * ev + kv)) + 1)) (8 * ev + kv) (fu (8 * ev + kv) + 1)) i))))), (aw, .inl (cJ, 60, .inr (.inl (fun i => vL (fw2 i))))), (ay, .inl (cJ, 32, .inr (.inl (fun i => vL (fy2 i))))), (ag, .inl (cI, 2, .inl (fun i => jI ((fg i : Nat) : Int))))] : va_W)) (l₂ := (CW cI cE cG cM cS x0 q0 q1 qr (ms, es, gE, gM, gB, gT, gG, gN, gK, gD) κ)))
            have hD : va_D A ((CW cI cE cG cM cS x0 q0 q1 qr (ms, es, gE, gM, gB, gT, gG, gN, gK, gD) κ) ++ [(ae, .inl (cI, 45, .inl (fun i => jI (fe i)))), (aq, .inl (cJ, 16, .inr (.inl (fun i => jL (fq i))))), (av, .inl (cJ, 16, .inr (.inl (fun i => jL (fv i))))), (au, .inl (cJ, 16, .inr (.inl (fun i => jL ((va_up (va_up fu (8 * ev + kv) ((fu (8 * ev + kv)) + 1)) (8 * ev + kv) (fu (8 * ev + kv) + 1)) i))))), (aw, .inl (cJ, 60, .inr (.inl (fun i => vL (fw2 i))))), (ay, .inl (cJ, 32, .inr (.inl (fun i => vL (fy2 i))))), (ag, .inl (cI, 2, .inl (fun i => jI ((fg i : Nat) : Int))))]) := hD.perm (List.perm_append_comm (l₁ := ([(ae, .inl (cI, 45, .inl (fun i => jI (fe i)))), (aq, .inl (cJ, 16, .inr (.inl (fun i => jL (fq i))))), (av, .inl (cJ, 16, .inr (.inl (fun i => jL (fv i))))), (au, .inl (cJ, 16, .inr (.inl (fun i => jL ((va_up (va_up fu (8 * ev + kv) ((fu (8 * ev + kv)) + 1)) (8 * ev + kv) (fu (8 * ev + kv) + 1)) i))))), (aw, .inl (cJ, 60, .inr (.inl (fun i => vL (fw2 i))))), (ay, .inl (cJ, 32, .inr (.inl (fun i => vL (fy2 i))))), (ag, .inl (cI, 2, .inl (fun i => jI ((fg i : Nat) : Int))))] : va_W)) (l₂ := (CW cI cE cG cM cS x0 q0 q1 qr (ms, es, gE, gM, gB, gT, gG, gN, gK, gD) κ)))
            refine a_goNI (vx_runSW (As := [.ref x0, .int (jI 7), .int (jI ((ev : Nat) : Int)), .int (jI ((kv : Nat) : Int)), .int (jI 0), .int (jI 0), .int (jI 0), .int (jI 0)]) (rest := []) ⟨hx, hb, hml, hown, hts⟩ (hW _) (vx_cwSW 8 hts gL_isDone_L_does rfl rfl rfl (by decide +kernel) ⟨(Nat.le_of_ble_eq_true rfl), (Nat.le_of_ble_eq_true rfl)⟩) (c_pre hK hXK hZ hN hP hD hS hA) rfl rfl hl.1 rfl (lv_room (Nat.le_of_ble_eq_true rfl)) dL_isDone_848 ⟨(Nat.le_of_ble_eq_true rfl), (Nat.le_of_ble_eq_true rfl)⟩) hP hD hS hA (fun r κ2 H locs hpost hP hD hS => ?_)
            obtain ⟨hr9, hI2⟩ := hpost
            have hr9 : r = jI 0 := hr9
            subst hr9
            have hP : va_P D vwCl ((CW cI cE cG cM cS x0 q0 q1 qr (ms, es, gE, gM, gB, gT, gG, gN, gK, va_up (va_up gD (30 * ev + kv) true) (30 * ev + kv) true) κ2) ++ [(ae, .inl (cI, 45, .inl (fun i => jI (fe i)))), (aq, .inl (cJ, 16, .inr (.inl (fun i => jL (fq i))))), (av, .inl (cJ, 16, .inr (.inl (fun i => jL (fv i))))), (au, .inl (cJ, 16, .inr (.inl (fun i => jL ((va_up (va_up fu (8 * ev + kv) ((fu (8 * ev + kv)) + 1)) (8 * ev + kv) (fu (8 * ev + kv) + 1)) i))))), (aw, .inl (cJ, 60, .inr (.inl (fun i => vL (fw2 i))))), (ay, .inl (cJ, 32, .inr (.inl (fun i => vL (fy2 i))))), (ag, .inl (cI, 2, .inl (fun i => jI ((fg i : Nat) : Int))))]) H := hP
            have hD : va_D A ((CW cI cE cG cM cS x0 q0 q1 qr (ms, es, gE, gM, gB, gT, gG, gN, gK, va_up (va_up gD (30 * ev + kv) true) (30 * ev + kv) true) κ2) ++ [(ae, .inl (cI, 45, .inl (fun i => jI (fe i)))), (aq, .inl (cJ, 16, .inr (.inl (fun i => jL (fq i))))), (av, .inl (cJ, 16, .inr (.inl (fun i => jL (fv i))))), (au, .inl (cJ, 16, .inr (.inl (fun i => jL ((va_up (va_up fu (8 * ev + kv) ((fu (8 * ev + kv)) + 1)) (8 * ev + kv) (fu (8 * ev + kv) + 1)) i))))), (aw, .inl (cJ, 60, .inr (.inl (fun i => vL (fw2 i))))), (ay, .inl (cJ, 32, .inr (.inl (fun i => vL (fy2 i))))), (ag, .inl (cI, 2, .inl (fun i => jI ((fg i : Nat) : Int))))]) := hD
            have hP : va_P D vwCl ((ae, .inl (cI, 45, .inl (fun i => jI (fe i)))) :: (aq, .inl (cJ, 16, .inr (.inl (fun i => jL (fq i))))) :: (av, .inl (cJ, 16, .inr (.inl (fun i => jL (fv i))))) :: (au, .inl (cJ, 16, .inr (.inl (fun i => jL ((va_up (va_up fu (8 * ev + kv) ((fu (8 * ev + kv)) + 1)) (8 * ev + kv) (fu (8 * ev + kv) + 1)) i))))) :: (aw, .inl (cJ, 60, .inr (.inl (fun i => vL (fw2 i))))) :: (ay, .inl (cJ, 32, .inr (.inl (fun i => vL (fy2 i))))) :: (ag, .inl (cI, 2, .inl (fun i => jI ((fg i : Nat) : Int)))) :: (CW cI cE cG cM cS x0 q0 q1 qr (ms, es, gE, gM, gB, gT, gG, gN, gK, va_up (va_up gD (30 * ev + kv) true) (30 * ev + kv) true) κ2)) H := hP.perm (List.perm_append_comm (l₁ := (CW cI cE cG cM cS x0 q0 q1 qr (ms, es, gE, gM, gB, gT, gG, gN, gK, va_up (va_up gD (30 * ev + kv) true) (30 * ev + kv) true) κ2)) (l₂ := ([(ae, .inl (cI, 45, .inl (fun i => jI (fe i)))), (aq, .inl (cJ, 16, .inr (.inl (fun i => jL (fq i))))), (av, .inl (cJ, 16, .inr (.inl (fun i => jL (fv i))))), (au, .inl (cJ, 16, .inr (.inl (fun i => jL ((va_up (va_up fu (8 * ev + kv) ((fu (8 * ev + kv)) + 1)) (8 * ev + kv) (fu (8 * ev + kv) + 1)) i))))), (aw, .inl (cJ, 60, .inr (.inl (fun i => vL (fw2 i))))), (ay, .inl (cJ, 32, .inr (.inl (fun i => vL (fy2 i))))), (ag, .inl (cI, 2, .inl (fun i => jI ((fg i : Nat) : Int))))] : va_W)))
            have hD : va_D A ((ae, .inl (cI, 45, .inl (fun i => jI (fe i)))) :: (aq, .inl (cJ, 16, .inr (.inl (fun i => jL (fq i))))) :: (av, .inl (cJ, 16, .inr (.inl (fun i => jL (fv i))))) :: (au, .inl (cJ, 16, .inr (.inl (fun i => jL ((va_up (va_up fu (8 * ev + kv) ((fu (8 * ev + kv)) + 1)) (8 * ev + kv) (fu (8 * ev + kv) + 1)) i))))) :: (aw, .inl (cJ, 60, .inr (.inl (fun i => vL (fw2 i))))) :: (ay, .inl (cJ, 32, .inr (.inl (fun i => vL (fy2 i))))) :: (ag, .inl (cI, 2, .inl (fun i => jI ((fg i : Nat) : Int)))) :: (CW cI cE cG cM cS x0 q0 q1 qr (ms, es, gE, gM, gB, gT, gG, gN, gK, va_up (va_up gD (30 * ev + kv) true) (30 * ev + kv) true) κ2)) := hD.perm (List.perm_append_comm (l₁ := (CW cI cE cG cM cS x0 q0 q1 qr (ms, es, gE, gM, gB, gT, gG, gN, gK, va_up (va_up gD (30 * ev + kv) true) (30 * ev + kv) true) κ2)) (l₂ := ([(ae, .inl (cI, 45, .inl (fun i => jI (fe i)))), (aq, .inl (cJ, 16, .inr (.inl (fun i => jL (fq i))))), (av, .inl (cJ, 16, .inr (.inl (fun i => jL (fv i))))), (au, .inl (cJ, 16, .inr (.inl (fun i => jL ((va_up (va_up fu (8 * ev + kv) ((fu (8 * ev + kv)) + 1)) (8 * ev + kv) (fu (8 * ev + kv) + 1)) i))))), (aw, .inl (cJ, 60, .inr (.inl (fun i => vL (fw2 i))))), (ay, .inl (cJ, 32, .inr (.inl (fun i => vL (fy2 i))))), (ag, .inl (cI, 2, .inl (fun i => jI ((fg i : Nat) : Int))))] : va_W)))
            refine lv_iload hx hb dL_isDone_851 (lv_at hl 1 rfl) ?_
            refine n_if_ne (tgt := 861) hx hb (by unfold r32; decide) dL_isDone_853 (by decide) (fun h853 => ?_) (fun h853 => False.elim (by revert h853; decide))
            refine lv_iload hx hb dL_isDone_861 (lv_at hl 0 rfl) ?_
            refine n_if_eq (tgt := 870) hx hb (by unfold r32; decide) dL_isDone_863 (by decide) (fun h863 => False.elim (by revert h863; decide)) (fun h863 => ?_)
            refine n_iconst hx hb dL_isDone_866 ?_
            refine lv_goto (tgt := 871) hx hb dL_isDone_867 (by decide) ?_
            refine n_icmp_ne (tgt := 878) hx hb (by unfold r32; omega) (by unfold r32; omega) dL_isDone_871 (by decide) (fun h871 => False.elim (h871 rfl)) (fun h871 => ?_)
            refine n_iconst hx hb dL_isDone_874 ?_
            refine lv_goto (tgt := 879) hx hb dL_isDone_875 (by decide) ?_
            refine W.widen (k := 228) (n := 867) (Nat.le_of_ble_eq_true rfl) (Nat.le_of_ble_eq_true rfl) ?_
            exact y_zret (b := true) ((ms, es, gE, gM, gB, gT, gG, gN, gK, va_up (va_up gD (30 * ev + kv) true) (30 * ev + kv) true), κ2, fe, fq, fv, va_up (va_up fu (8 * ev + kv) ((fu (8 * ev + kv)) + 1)) (8 * ev + kv) (fu (8 * ev + kv) + 1), fw2, fy2) hx hb hr hlocks dL_isDone_879 hP hD hS rfl ⟨rfl, hI2, (hL.dropped hev hk9 hd).up⟩
