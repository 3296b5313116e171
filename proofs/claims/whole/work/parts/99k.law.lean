/-! the law: a case of its switch -/
def LX (p : Program) (s : State) (m : MethodId) (c : Code) (b L : Nat) (xs : Nat → Int32) : Prop := p.tables.exec = Jvm.exec ∧ c.code = cL_law ∧ c.maxLocals = 7 ∧ s.vm.findClass RL = some m.cls ∧ (∀ w ∈ wsL_law, w.before #[Value.ref b] s = true) ∧ va_X b L xs s s.heap ∧ b < s.heap.size ∧ L ≤ 3584
section LR
variable {p : Program} {l : Launch} {e : Env} {R : Room} {s : State} {m : MethodId} {args : Array Value} {below : List Frame} {meth : Method} {c : Code} {H : Heap} {locs : List Loc} {cells slots : Nat} {Q : State → Prop}
variable {cc : ByteArray} {pc : Nat} {ls : Array Slot} {rest st0 : List Value} {D : va_G} {A : Nat → Prop} {tys : List (ClassId × FieldType)} {H0 : Heap}
theorem s_ld (hexec : p.tables.exec = Jvm.exec) (hb : c.code = cc) {b L : Nat} {xs : Nat → Int32} (hX : va_X b L xs s H0) (hbl : b < H0.size) (hbA : ¬ A b) (hS : va_S A H0 H locs) {z y : Int} {i : Nat} (hz : z = ((i : Nat) : Int)) (hi : i < L) (hL : L ≤ 3584) (he : xs i = jI y) (hdg : decode cc pc = .ok (.iaload, 1))
    (kk : W p l e R s m args below meth c H locs cells slots Q (F0 m (pc + 1) ls (.int (jI y) :: rest))) : W p l e R s m args below meth c H locs cells slots Q (F0 m pc ls (.int (jI z) :: .ref b :: rest)) := by
  subst hz
  refine va_sld hexec hb hX hbl hbA hS (jI_in hi (by omega)) hdg ?_
  rw [jI_cl (by omega), he]
  exact kk
end LR

set_option maxHeartbeats 16000000 in
set_option maxRecDepth 100000 in
/--  -/
theorem ls_model {p : Program} {e : Env} {s : State} {m : MethodId} {below : List Frame} {meth : Method} {c : Code} (l : Launch) (hl9 : l.stackTraces = false) (D : va_G) (tys : List (ClassId × FieldType)) {cI cJ cZ cE cG cM cS : ClassId} (htI : tys[0]? = some (cI, .int)) (htJ : tys[1]? = some (cJ, .long)) (htZ : tys[2]? = some (cZ, .boolean)) (htE : tys[3]? = some (cE, .object RX1)) (htM : tys[4]? = some (cM, .object RX2)) (htS : tys[5]? = some (cS, .object RX4)) (htG : tys[6]? = some (cG, .array .int)) {b L : Nat} {xs : Nat → Int32} (C0 : LX p s m c b L xs) (hK : KK D tys s) (hXK : XK s) (hZ : XZ (fun q : Nat => s.heap.size ≤ q) s s.heap) (hN : XN s) (m0 : Nat) (a : Nat → Nat) (x0 q0 q1 : Nat) (qr : Nat → Nat) (o0 : Nat) (ms es : Nat) (gE gM gB : Nat → Zp) (gT : Nat → Nat) (gG : Nat → Zp) (gN : Nat → Nat) (gK : Nat → Zp) (gD : Nat → Bool) (κ : Nat → EG) (hI : INV (ms, es, gE, gM, gB, gT, gG, gN, gK, gD) κ) (th : Int32) (c9 : KR) (q : Nat → Int) {H : Heap} {locs : List Loc} {cells slots : Nat} {Q : State → Prop} {ls : Array Slot} {i : Nat} (hi : 7 * i + 7 ≤ L) (hP : va_P D vwCl ((xOut cJ o0 q :: (CW cI cE cG cM cS x0 q0 q1 qr (ms, es, gE, gM, gB, gT, gG, gN, gK, gD) κ)) ++ (RS cI cJ cZ m0 a th (ms, es, gE, gM, gB, gT, gG, gN, gK, gD) c9)) H) (hD : va_D (fun q : Nat => s.heap.size ≤ q) ((xOut cJ o0 q :: (CW cI cE cG cM cS x0 q0 q1 qr (ms, es, gE, gM, gB, gT, gG, gN, gK, gD) κ)) ++ (RS cI cJ cZ m0 a th (ms, es, gE, gM, gB, gT, gG, gN, gK, gD) c9))) (hS : va_S (fun q : Nat => s.heap.size ≤ q) s.heap H locs) (hl : lv_has ls 7 [(4, .int (jI ((7 * i : Nat) : Int))), (0, .ref b), (1, .ref x0), (2, .ref m0), (3, .ref o0)]) (hc : cells + 228 ≤ 601024) (hs : slots + 867 ≤ 7293034)
    (kk : ∀ (g2 : SG) (κ2 : Nat → EG) (th2 : Int32) (c2 : KR) (q2 : Nat → Int) (H1 : Heap) (locs1 : List Loc) (ls1 : Array Slot), INV g2 κ2 → va_P D vwCl ((xOut cJ o0 q2 :: (CW cI cE cG cM cS x0 q0 q1 qr g2 κ2)) ++ (RS cI cJ cZ m0 a th2 g2 c2)) H1 → va_D (fun q : Nat => s.heap.size ≤ q) ((xOut cJ o0 q2 :: (CW cI cE cG cM cS x0 q0 q1 qr g2 κ2)) ++ (RS cI cJ cZ m0 a th2 g2 c2)) → va_S (fun q : Nat => s.heap.size ≤ q) s.heap H1 locs1 → lv_has ls1 7 [(4, .int (jI ((7 * i : Nat) : Int))), (0, .ref b), (1, .ref x0), (2, .ref m0), (3, .ref o0)] → W p l e room_1 s m #[Value.ref b] below meth c H1 locs1 (cells + 228) (slots + 867) Q (F0 m 1384 ls1 [])) : W p l e room_1 s m #[Value.ref b] below meth c H locs cells slots Q (F0 m 120 ls []) := by
  obtain ⟨hx, hb, hml, hown, hts, hX, hbl, hL⟩ := C0
  have hA : ∀ q : Nat, s.heap.size ≤ q → (fun q : Nat => s.heap.size ≤ q) q := fun _ h => h
  have hbA : ¬ (fun q : Nat => s.heap.size ≤ q) b := Nat.not_le.mpr hbl
  obtain ⟨gH, gU, gF, gX, gW, gI, gP, gA, gR⟩ := c9
  obtain ⟨k, v, ⟨ms2, es2, gE2, gM2, gB2, gT2, gG2, gN2, gK2, gD2⟩, ⟨hk4, hR⟩, hC⟩ := st_model l hl9 D tys htI htJ htZ htE htM htS htG m0 a x0 q0 q1 qr ms es gE gM gB gT gG gN gK gD κ hI  
  have hW := w_model l D tys htJ x0 q0 q1 qr ms es gE gM gB gT gG gN gK gD κ  (ms2, es2, gE2, gM2, gB2, gT2, gG2, gN2, gK2, gD2) k v hC o0 q
  refine lv_aload_n hx hb dL_law_120 rfl (lv_at hl 2 rfl) ?_
  refine lv_aload_n hx hb dL_law_121 rfl (lv_at hl 4 rfl) ?_
  refine a_goNI (vx_runSW (As := [.ref x0, .ref o0]) (rest := []) ⟨hx, hb, hml, hown, hts⟩ (hW _) (vx_cwSW 2 hts gL_law_L_model rfl rfl rfl (by decide +kernel) ⟨(Nat.le_of_ble_eq_true rfl), (Nat.le_of_ble_eq_true rfl)⟩) (c_pre hK hXK hZ hN hP hD hS hA) rfl rfl hl.1 rfl (lv_room (Nat.le_of_ble_eq_true rfl)) dL_law_122 ⟨hc, hs⟩) hP hD hS hA (fun r u H locs hpost hP hD hS => ?_)
  obtain ⟨κ2, q2⟩ := u
  obtain ⟨hr9, hI2, hv⟩ := hpost
  subst hr9
  have hP : va_P D vwCl ((xOut cJ o0 q2 :: (CW cI cE cG cM cS x0 q0 q1 qr (ms2, es2, gE2, gM2, gB2, gT2, gG2, gN2, gK2, gD2) κ2)) ++ (RS cI cJ cZ m0 a th (ms, es, gE, gM, gB, gT, gG, gN, gK, gD) (gH, gU, gF, gX, gW, gI, gP, gA, gR))) H := hP
  have hD : va_D (fun q : Nat => s.heap.size ≤ q) ((xOut cJ o0 q2 :: (CW cI cE cG cM cS x0 q0 q1 qr (ms2, es2, gE2, gM2, gB2, gT2, gG2, gN2, gK2, gD2) κ2)) ++ (RS cI cJ cZ m0 a th (ms, es, gE, gM, gB, gT, gG, gN, gK, gD) (gH, gU, gF, gX, gW, gI, gP, gA, gR))) := hD
  refine lv_istore (lv' := [(5, .int (jI ((k : Nat) : Int))), (4, .int (jI ((7 * i : Nat) : Int))), (0, .ref b), (1, .ref x0), (2, .ref m0), (3, .ref o0)]) hx hb dL_law_125 hl (by decide) rfl (fun ls hl => ?_)
  refine lv_aload_n hx hb dL_law_127 rfl (lv_at hl 4 rfl) ?_
  have hP : va_P D vwCl ((RS cI cJ cZ m0 a th (ms, es, gE, gM, gB, gT, gG, gN, gK, gD) (gH, gU, gF, gX, gW, gI, gP, gA, gR)) ++ (xOut cJ o0 q2 :: (CW cI cE cG cM cS x0 q0 q1 qr (ms2, es2, gE2, gM2, gB2, gT2, gG2, gN2, gK2, gD2) κ2))) H := hP.perm (List.perm_append_comm (l₁ := (xOut cJ o0 q2 :: (CW cI cE cG cM cS x0 q0 q1 qr (ms2, es2, gE2, gM2, gB2, gT2, gG2, gN2, gK2, gD2) κ2))) (l₂ := (RS cI cJ cZ m0 a th (ms, es, gE, gM, gB, gT, gG, gN, gK, gD) (gH, gU, gF, gX, gW, gI, gP, gA, gR))))
  have hD : va_D (fun q : Nat => s.heap.size ≤ q) ((RS cI cJ cZ m0 a th (ms, es, gE, gM, gB, gT, gG, gN, gK, gD) (gH, gU, gF, gX, gW, gI, gP, gA, gR)) ++ (xOut cJ o0 q2 :: (CW cI cE cG cM cS x0 q0 q1 qr (ms2, es2, gE2, gM2, gB2, gT2, gG2, gN2, gK2, gD2) κ2))) := hD.perm (List.perm_append_comm (l₁ := (xOut cJ o0 q2 :: (CW cI cE cG cM cS x0 q0 q1 qr (ms2, es2, gE2, gM2, gB2, gT2, gG2, gN2, gK2, gD2) κ2))) (l₂ := (RS cI cJ cZ m0 a th (ms, es, gE, gM, gB, gT, gG, gN, gK, gD) (gH, gU, gF, gX, gW, gI, gP, gA, gR))))
  have ct := hR th (gH, gU, gF, gX, gW, gI, gP, gA, gR)
  refine a_goE (va_runV (As := []) (rest := []) ⟨hx, hb, hml, hown, hts⟩ (ct.2 _) (cwV 0 hts gL_law_X7_model rfl rfl rfl (by decide +kernel) ⟨(Nat.le_of_ble_eq_true rfl), (Nat.le_of_ble_eq_true rfl)⟩) ⟨(a_pre hK hP hD).1, va_recv hK.1 hP (ci := 7) (q0 := 0) rfl rfl, (a_pre hK hP hD).2⟩ rfl rfl hl.1 rfl (lv_room (Nat.le_of_ble_eq_true rfl)) dL_law_128 ⟨by show cells + 228 + 0 ≤ 601024; omega, by show slots + 867 + 0 ≤ 7293034; omega⟩) ct.1 hP hD hS hA (fun r c2 H locs hrv hP hD hS => ?_)
  obtain ⟨gH2, gU2, gF2, gX2, gW2, gI2, gP2, gA2, gR2⟩ := c2
  have hP : va_P D vwCl ((RS cI cJ cZ m0 a (jI ((k : Nat) : Int)) (ms2, es2, gE2, gM2, gB2, gT2, gG2, gN2, gK2, gD2) (gH2, gU2, gF2, gX2, gW2, gI2, gP2, gA2, gR2)) ++ (xOut cJ o0 q2 :: (CW cI cE cG cM cS x0 q0 q1 qr (ms2, es2, gE2, gM2, gB2, gT2, gG2, gN2, gK2, gD2) κ2))) H := hP
  have hD : va_D (fun q : Nat => s.heap.size ≤ q) ((RS cI cJ cZ m0 a (jI ((k : Nat) : Int)) (ms2, es2, gE2, gM2, gB2, gT2, gG2, gN2, gK2, gD2) (gH2, gU2, gF2, gX2, gW2, gI2, gP2, gA2, gR2)) ++ (xOut cJ o0 q2 :: (CW cI cE cG cM cS x0 q0 q1 qr (ms2, es2, gE2, gM2, gB2, gT2, gG2, gN2, gK2, gD2) κ2))) := hD
  subst hrv
  refine lv_istore (lv' := [(6, .int r), (5, .int (jI ((k : Nat) : Int))), (4, .int (jI ((7 * i : Nat) : Int))), (0, .ref b), (1, .ref x0), (2, .ref m0), (3, .ref o0)]) hx hb dL_law_131 hl (by decide) rfl (fun ls hl => ?_)
  refine lv_aload_n hx hb dL_law_133 rfl (lv_at hl 5 rfl) ?_
  have cq := c_X7_thrown l D tys m0 a ms2 es2 (jI ((k : Nat) : Int))
  refine k_goI (va_runV (As := []) (rest := []) ⟨hx, hb, hml, hown, hts⟩ (cq.2 _) (cwV 0 hts gL_law_X7_thrown rfl rfl rfl (by decide +kernel) ⟨(Nat.le_of_ble_eq_true rfl), (Nat.le_of_ble_eq_true rfl)⟩) ⟨(k_pre hK hP hD (is := [0]) rfl rfl).1, va_recv hK.1 hP (ci := 7) (q0 := 0) rfl rfl, (k_pre hK hP hD (is := [0]) rfl rfl).2⟩ rfl rfl hl.1 rfl (lv_room (Nat.le_of_ble_eq_true rfl)) dL_law_134 ⟨by show cells + 228 + 0 ≤ 601024; omega, by show slots + 867 + 0 ≤ 7293034; omega⟩) cq.1 hP hD hS hA [0] rfl rfl (fun H locs hP hD hS => ?_)
  have hP : va_P D vwCl ((RS cI cJ cZ m0 a (jI ((k : Nat) : Int)) (ms2, es2, gE2, gM2, gB2, gT2, gG2, gN2, gK2, gD2) (gH2, gU2, gF2, gX2, gW2, gI2, gP2, gA2, gR2)) ++ (xOut cJ o0 q2 :: (CW cI cE cG cM cS x0 q0 q1 qr (ms2, es2, gE2, gM2, gB2, gT2, gG2, gN2, gK2, gD2) κ2))) H := hP
  have hD : va_D (fun q : Nat => s.heap.size ≤ q) ((RS cI cJ cZ m0 a (jI ((k : Nat) : Int)) (ms2, es2, gE2, gM2, gB2, gT2, gG2, gN2, gK2, gD2) (gH2, gU2, gF2, gX2, gW2, gI2, gP2, gA2, gR2)) ++ (xOut cJ o0 q2 :: (CW cI cE cG cM cS x0 q0 q1 qr (ms2, es2, gE2, gM2, gB2, gT2, gG2, gN2, gK2, gD2) κ2))) := hD
  have hP : va_P D vwCl ((xOut cJ o0 q2 :: (CW cI cE cG cM cS x0 q0 q1 qr (ms2, es2, gE2, gM2, gB2, gT2, gG2, gN2, gK2, gD2) κ2)) ++ (RS cI cJ cZ m0 a (jI ((k : Nat) : Int)) (ms2, es2, gE2, gM2, gB2, gT2, gG2, gN2, gK2, gD2) (gH2, gU2, gF2, gX2, gW2, gI2, gP2, gA2, gR2))) H := hP.perm (List.perm_append_comm (l₁ := (RS cI cJ cZ m0 a (jI ((k : Nat) : Int)) (ms2, es2, gE2, gM2, gB2, gT2, gG2, gN2, gK2, gD2) (gH2, gU2, gF2, gX2, gW2, gI2, gP2, gA2, gR2))) (l₂ := (xOut cJ o0 q2 :: (CW cI cE cG cM cS x0 q0 q1 qr (ms2, es2, gE2, gM2, gB2, gT2, gG2, gN2, gK2, gD2) κ2))))
  have hD : va_D (fun q : Nat => s.heap.size ≤ q) ((xOut cJ o0 q2 :: (CW cI cE cG cM cS x0 q0 q1 qr (ms2, es2, gE2, gM2, gB2, gT2, gG2, gN2, gK2, gD2) κ2)) ++ (RS cI cJ cZ m0 a (jI ((k : Nat) : Int)) (ms2, es2, gE2, gM2, gB2, gT2, gG2, gN2, gK2, gD2) (gH2, gU2, gF2, gX2, gW2, gI2, gP2, gA2, gR2))) := hD.perm (List.perm_append_comm (l₁ := (RS cI cJ cZ m0 a (jI ((k : Nat) : Int)) (ms2, es2, gE2, gM2, gB2, gT2, gG2, gN2, gK2, gD2) (gH2, gU2, gF2, gX2, gW2, gI2, gP2, gA2, gR2))) (l₂ := (xOut cJ o0 q2 :: (CW cI cE cG cM cS x0 q0 q1 qr (ms2, es2, gE2, gM2, gB2, gT2, gG2, gN2, gK2, gD2) κ2))))
  refine lv_iload hx hb dL_law_137 (lv_at hl 1 rfl) ?_
  refine lv_icmp_eq (tgt := 144) hx hb dL_law_139 (by decide) (fun _ => ?_) (fun h9 => absurd rfl h9)
  refine lv_iload hx hb dL_law_144 (lv_at hl 1 rfl) ?_
  refine n_if_ne (tgt := 161) hx hb (by unfold r32; omega) dL_law_146 (by decide) (fun h0 => ?_) (fun h0 => ?_)
  · refine lv_goto (tgt := 1384) hx hb dL_law_161 (by decide) ?_
    exact kk (ms2, es2, gE2, gM2, gB2, gT2, gG2, gN2, gK2, gD2) κ2 (jI ((k : Nat) : Int)) (gH2, gU2, gF2, gX2, gW2, gI2, gP2, gA2, gR2) q2 H locs ls hI2 hP hD hS (lv_sub hl [2, 3, 4, 5, 6] rfl)
  · obtain ⟨hv1, hv2⟩ := hv (by omega)
    have hv1 : jI (q2 0) = r := hv1
    have hv2 : r32 (q2 0) := hv2
    subst hv1
    refine lv_aload_n hx hb dL_law_149 rfl (lv_at hl 6 rfl) ?_
    refine n_iconst hx hb dL_law_150 ?_
    refine n_lald (i := 0) hx hb hK hP 0 1 rfl htJ rfl (Nat.le_of_ble_eq_true rfl) (Nat.le_of_ble_eq_true rfl) dL_law_151 ?_
    refine lv_iload hx hb dL_law_152 (lv_at hl 0 rfl) ?_
    refine n_i2l hx hb dL_law_154 hv2.1 hv2.2 ?_
    refine W.lcmp hx hb dL_law_155 ?_
    refine n_lif_eq (tgt := 161) hx hb (by have := hv2.1; have := hv2.2; unfold r64; omega) (by have := hv2.1; have := hv2.2; unfold r64; omega) dL_law_156 (by decide) (fun _ => ?_) (fun h9 => absurd rfl h9)
    refine lv_goto (tgt := 1384) hx hb dL_law_161 (by decide) ?_
    exact kk (ms2, es2, gE2, gM2, gB2, gT2, gG2, gN2, gK2, gD2) κ2 (jI ((k : Nat) : Int)) (gH2, gU2, gF2, gX2, gW2, gI2, gP2, gA2, gR2) q2 H locs ls hI2 hP hD hS (lv_sub hl [2, 3, 4, 5, 6] rfl)

set_option maxHeartbeats 16000000 in
set_option maxRecDepth 100000 in
/--  -/
theorem ls_entry {p : Program} {e : Env} {s : State} {m : MethodId} {below : List Frame} {meth : Method} {c : Code} (l : Launch) (hl9 : l.stackTraces = false) (D : va_G) (tys : List (ClassId × FieldType)) {cI cJ cZ cE cG cM cS : ClassId} (htI : tys[0]? = some (cI, .int)) (htJ : tys[1]? = some (cJ, .long)) (htZ : tys[2]? = some (cZ, .boolean)) (htE : tys[3]? = some (cE, .object RX1)) (htM : tys[4]? = some (cM, .object RX2)) (htS : tys[5]? = some (cS, .object RX4)) (htG : tys[6]? = some (cG, .array .int)) {b L : Nat} {xs : Nat → Int32} (C0 : LX p s m c b L xs) (hK : KK D tys s) (hXK : XK s) (hZ : XZ (fun q : Nat => s.heap.size ≤ q) s s.heap) (hN : XN s) (m0 : Nat) (a : Nat → Nat) (x0 q0 q1 : Nat) (qr : Nat → Nat) (o0 : Nat) (ms es : Nat) (gE gM gB : Nat → Zp) (gT : Nat → Nat) (gG : Nat → Zp) (gN : Nat → Nat) (gK : Nat → Zp) (gD : Nat → Bool) (κ : Nat → EG) (hI : INV (ms, es, gE, gM, gB, gT, gG, gN, gK, gD) κ) (th : Int32) (c9 : KR) (q : Nat → Int) {H : Heap} {locs : List Loc} {cells slots : Nat} {Q : State → Prop} {ls : Array Slot} {i : Nat} (hi : 7 * i + 7 ≤ L) (hP : va_P D vwCl ((xOut cJ o0 q :: (CW cI cE cG cM cS x0 q0 q1 qr (ms, es, gE, gM, gB, gT, gG, gN, gK, gD) κ)) ++ (RS cI cJ cZ m0 a th (ms, es, gE, gM, gB, gT, gG, gN, gK, gD) c9)) H) (hD : va_D (fun q : Nat => s.heap.size ≤ q) ((xOut cJ o0 q :: (CW cI cE cG cM cS x0 q0 q1 qr (ms, es, gE, gM, gB, gT, gG, gN, gK, gD) κ)) ++ (RS cI cJ cZ m0 a th (ms, es, gE, gM, gB, gT, gG, gN, gK, gD) c9))) (hS : va_S (fun q : Nat => s.heap.size ≤ q) s.heap H locs) (hl : lv_has ls 7 [(4, .int (jI ((7 * i : Nat) : Int))), (0, .ref b), (1, .ref x0), (2, .ref m0), (3, .ref o0)]) (hc : cells + 228 ≤ 601024) (hs : slots + 867 ≤ 7293034)
    (kk : ∀ (g2 : SG) (κ2 : Nat → EG) (th2 : Int32) (c2 : KR) (q2 : Nat → Int) (H1 : Heap) (locs1 : List Loc) (ls1 : Array Slot), INV g2 κ2 → va_P D vwCl ((xOut cJ o0 q2 :: (CW cI cE cG cM cS x0 q0 q1 qr g2 κ2)) ++ (RS cI cJ cZ m0 a th2 g2 c2)) H1 → va_D (fun q : Nat => s.heap.size ≤ q) ((xOut cJ o0 q2 :: (CW cI cE cG cM cS x0 q0 q1 qr g2 κ2)) ++ (RS cI cJ cZ m0 a th2 g2 c2)) → va_S (fun q : Nat => s.heap.size ≤ q) s.heap H1 locs1 → lv_has ls1 7 [(4, .int (jI ((7 * i : Nat) : Int))), (0, .ref b), (1, .ref x0), (2, .ref m0), (3, .ref o0)] → W p l e room_1 s m #[Value.ref b] below meth c H1 locs1 (cells + 228) (slots + 867) Q (F0 m 1384 ls1 [])) : W p l e room_1 s m #[Value.ref b] below meth c H locs cells slots Q (F0 m 164 ls []) := by
  obtain ⟨hx, hb, hml, hown, hts, hX, hbl, hL⟩ := C0
  have hA : ∀ q : Nat, s.heap.size ≤ q → (fun q : Nat => s.heap.size ≤ q) q := fun _ h => h
  have hbA : ¬ (fun q : Nat => s.heap.size ≤ q) b := Nat.not_le.mpr hbl
  obtain ⟨z1, ez1, r1⟩ := i32_j (xs (7 * i + 1))
  obtain ⟨z2, ez2, r2⟩ := i32_j (xs (7 * i + 2))
  obtain ⟨z3, ez3, r3⟩ := i32_j (xs (7 * i + 3))
  obtain ⟨gH, gU, gF, gX, gW, gI, gP, gA, gR⟩ := c9
  obtain ⟨k, v, ⟨ms2, es2, gE2, gM2, gB2, gT2, gG2, gN2, gK2, gD2⟩, ⟨hk4, hR⟩, hC⟩ := st_entry l hl9 D tys htI htJ htZ htE htM htS htG m0 a x0 q0 q1 qr ms es gE gM gB gT gG gN gK gD κ hI z1 z2 z3 r1 r2 r3
  have hW := w_entry l D tys htJ x0 q0 q1 qr ms es gE gM gB gT gG gN gK gD κ (jI z1) (jI z2) (jI z3) (ms2, es2, gE2, gM2, gB2, gT2, gG2, gN2, gK2, gD2) k v hC o0 q
  refine lv_aload_n hx hb dL_law_164 rfl (lv_at hl 2 rfl) ?_
  refine lv_aload_n hx hb dL_law_165 rfl (lv_at hl 1 rfl) ?_
  refine lv_iload hx hb dL_law_166 (lv_at hl 0 rfl) ?_
  refine n_iconst hx hb dL_law_168 ?_
  refine n_iadd hx hb dL_law_169 ?_
  refine s_ld (i := 7 * i + 1) hx hb hX hbl hbA hS (by omega) (by omega) hL ez1 dL_law_170 ?_
  refine lv_aload_n hx hb dL_law_171 rfl (lv_at hl 1 rfl) ?_
  refine lv_iload hx hb dL_law_172 (lv_at hl 0 rfl) ?_
  refine n_iconst hx hb dL_law_174 ?_
  refine n_iadd hx hb dL_law_175 ?_
  refine s_ld (i := 7 * i + 2) hx hb hX hbl hbA hS (by omega) (by omega) hL ez2 dL_law_176 ?_
  refine lv_aload_n hx hb dL_law_177 rfl (lv_at hl 1 rfl) ?_
  refine lv_iload hx hb dL_law_178 (lv_at hl 0 rfl) ?_
  refine n_iconst hx hb dL_law_180 ?_
  refine n_iadd hx hb dL_law_181 ?_
  refine s_ld (i := 7 * i + 3) hx hb hX hbl hbA hS (by omega) (by omega) hL ez3 dL_law_182 ?_
  refine lv_aload_n hx hb dL_law_183 rfl (lv_at hl 4 rfl) ?_
  refine a_goNI (vx_runSW (As := [.ref x0, .int (jI z1), .int (jI z2), .int (jI z3), .ref o0]) (rest := []) ⟨hx, hb, hml, hown, hts⟩ (hW _) (vx_cwSW 5 hts gL_law_L_entry rfl rfl rfl (by decide +kernel) ⟨(Nat.le_of_ble_eq_true rfl), (Nat.le_of_ble_eq_true rfl)⟩) (c_pre hK hXK hZ hN hP hD hS hA) rfl rfl hl.1 rfl (lv_room (Nat.le_of_ble_eq_true rfl)) dL_law_184 ⟨hc, hs⟩) hP hD hS hA (fun r u H locs hpost hP hD hS => ?_)
  obtain ⟨κ2, q2⟩ := u
  obtain ⟨hr9, hI2, hv⟩ := hpost
  subst hr9
  have hP : va_P D vwCl ((xOut cJ o0 q2 :: (CW cI cE cG cM cS x0 q0 q1 qr (ms2, es2, gE2, gM2, gB2, gT2, gG2, gN2, gK2, gD2) κ2)) ++ (RS cI cJ cZ m0 a th (ms, es, gE, gM, gB, gT, gG, gN, gK, gD) (gH, gU, gF, gX, gW, gI, gP, gA, gR))) H := hP
  have hD : va_D (fun q : Nat => s.heap.size ≤ q) ((xOut cJ o0 q2 :: (CW cI cE cG cM cS x0 q0 q1 qr (ms2, es2, gE2, gM2, gB2, gT2, gG2, gN2, gK2, gD2) κ2)) ++ (RS cI cJ cZ m0 a th (ms, es, gE, gM, gB, gT, gG, gN, gK, gD) (gH, gU, gF, gX, gW, gI, gP, gA, gR))) := hD
  refine lv_istore (lv' := [(5, .int (jI ((k : Nat) : Int))), (4, .int (jI ((7 * i : Nat) : Int))), (0, .ref b), (1, .ref x0), (2, .ref m0), (3, .ref o0)]) hx hb dL_law_187 hl (by decide) rfl (fun ls hl => ?_)
  refine lv_aload_n hx hb dL_law_189 rfl (lv_at hl 4 rfl) ?_
  refine lv_aload_n hx hb dL_law_190 rfl (lv_at hl 2 rfl) ?_
  refine lv_iload hx hb dL_law_191 (lv_at hl 1 rfl) ?_
  refine n_iconst hx hb dL_law_193 ?_
  refine n_iadd hx hb dL_law_194 ?_
  refine s_ld (i := 7 * i + 1) hx hb hX hbl hbA hS (by omega) (by omega) hL ez1 dL_law_195 ?_
  refine lv_aload_n hx hb dL_law_196 rfl (lv_at hl 2 rfl) ?_
  refine lv_iload hx hb dL_law_197 (lv_at hl 1 rfl) ?_
  refine n_iconst hx hb dL_law_199 ?_
  refine n_iadd hx hb dL_law_200 ?_
  refine s_ld (i := 7 * i + 2) hx hb hX hbl hbA hS (by omega) (by omega) hL ez2 dL_law_201 ?_
  refine lv_aload_n hx hb dL_law_202 rfl (lv_at hl 2 rfl) ?_
  refine lv_iload hx hb dL_law_203 (lv_at hl 1 rfl) ?_
  refine n_iconst hx hb dL_law_205 ?_
  refine n_iadd hx hb dL_law_206 ?_
  refine s_ld (i := 7 * i + 3) hx hb hX hbl hbA hS (by omega) (by omega) hL ez3 dL_law_207 ?_
  have hP : va_P D vwCl ((RS cI cJ cZ m0 a th (ms, es, gE, gM, gB, gT, gG, gN, gK, gD) (gH, gU, gF, gX, gW, gI, gP, gA, gR)) ++ (xOut cJ o0 q2 :: (CW cI cE cG cM cS x0 q0 q1 qr (ms2, es2, gE2, gM2, gB2, gT2, gG2, gN2, gK2, gD2) κ2))) H := hP.perm (List.perm_append_comm (l₁ := (xOut cJ o0 q2 :: (CW cI cE cG cM cS x0 q0 q1 qr (ms2, es2, gE2, gM2, gB2, gT2, gG2, gN2, gK2, gD2) κ2))) (l₂ := (RS cI cJ cZ m0 a th (ms, es, gE, gM, gB, gT, gG, gN, gK, gD) (gH, gU, gF, gX, gW, gI, gP, gA, gR))))
  have hD : va_D (fun q : Nat => s.heap.size ≤ q) ((RS cI cJ cZ m0 a th (ms, es, gE, gM, gB, gT, gG, gN, gK, gD) (gH, gU, gF, gX, gW, gI, gP, gA, gR)) ++ (xOut cJ o0 q2 :: (CW cI cE cG cM cS x0 q0 q1 qr (ms2, es2, gE2, gM2, gB2, gT2, gG2, gN2, gK2, gD2) κ2))) := hD.perm (List.perm_append_comm (l₁ := (xOut cJ o0 q2 :: (CW cI cE cG cM cS x0 q0 q1 qr (ms2, es2, gE2, gM2, gB2, gT2, gG2, gN2, gK2, gD2) κ2))) (l₂ := (RS cI cJ cZ m0 a th (ms, es, gE, gM, gB, gT, gG, gN, gK, gD) (gH, gU, gF, gX, gW, gI, gP, gA, gR))))
  have ct := hR th (gH, gU, gF, gX, gW, gI, gP, gA, gR)
  refine a_goE (va_runV (As := [.int (jI z1), .int (jI z2), .int (jI z3)]) (rest := []) ⟨hx, hb, hml, hown, hts⟩ (ct.2 _) (cwV 3 hts gL_law_X7_entry rfl rfl rfl (by decide +kernel) ⟨(Nat.le_of_ble_eq_true rfl), (Nat.le_of_ble_eq_true rfl)⟩) ⟨(a_pre hK hP hD).1, va_recv hK.1 hP (ci := 7) (q0 := 0) rfl rfl, (a_pre hK hP hD).2⟩ rfl rfl hl.1 rfl (lv_room (Nat.le_of_ble_eq_true rfl)) dL_law_208 ⟨by show cells + 228 + 0 ≤ 601024; omega, by show slots + 867 + 0 ≤ 7293034; omega⟩) ct.1 hP hD hS hA (fun r c2 H locs hrv hP hD hS => ?_)
  obtain ⟨gH2, gU2, gF2, gX2, gW2, gI2, gP2, gA2, gR2⟩ := c2
  have hP : va_P D vwCl ((RS cI cJ cZ m0 a (jI ((k : Nat) : Int)) (ms2, es2, gE2, gM2, gB2, gT2, gG2, gN2, gK2, gD2) (gH2, gU2, gF2, gX2, gW2, gI2, gP2, gA2, gR2)) ++ (xOut cJ o0 q2 :: (CW cI cE cG cM cS x0 q0 q1 qr (ms2, es2, gE2, gM2, gB2, gT2, gG2, gN2, gK2, gD2) κ2))) H := hP
  have hD : va_D (fun q : Nat => s.heap.size ≤ q) ((RS cI cJ cZ m0 a (jI ((k : Nat) : Int)) (ms2, es2, gE2, gM2, gB2, gT2, gG2, gN2, gK2, gD2) (gH2, gU2, gF2, gX2, gW2, gI2, gP2, gA2, gR2)) ++ (xOut cJ o0 q2 :: (CW cI cE cG cM cS x0 q0 q1 qr (ms2, es2, gE2, gM2, gB2, gT2, gG2, gN2, gK2, gD2) κ2))) := hD
  subst hrv
  refine lv_istore (lv' := [(6, .int r), (5, .int (jI ((k : Nat) : Int))), (4, .int (jI ((7 * i : Nat) : Int))), (0, .ref b), (1, .ref x0), (2, .ref m0), (3, .ref o0)]) hx hb dL_law_211 hl (by decide) rfl (fun ls hl => ?_)
  refine lv_aload_n hx hb dL_law_213 rfl (lv_at hl 5 rfl) ?_
  have cq := c_X7_thrown l D tys m0 a ms2 es2 (jI ((k : Nat) : Int))
  refine k_goI (va_runV (As := []) (rest := []) ⟨hx, hb, hml, hown, hts⟩ (cq.2 _) (cwV 0 hts gL_law_X7_thrown rfl rfl rfl (by decide +kernel) ⟨(Nat.le_of_ble_eq_true rfl), (Nat.le_of_ble_eq_true rfl)⟩) ⟨(k_pre hK hP hD (is := [0]) rfl rfl).1, va_recv hK.1 hP (ci := 7) (q0 := 0) rfl rfl, (k_pre hK hP hD (is := [0]) rfl rfl).2⟩ rfl rfl hl.1 rfl (lv_room (Nat.le_of_ble_eq_true rfl)) dL_law_214 ⟨by show cells + 228 + 0 ≤ 601024; omega, by show slots + 867 + 0 ≤ 7293034; omega⟩) cq.1 hP hD hS hA [0] rfl rfl (fun H locs hP hD hS => ?_)
  have hP : va_P D vwCl ((RS cI cJ cZ m0 a (jI ((k : Nat) : Int)) (ms2, es2, gE2, gM2, gB2, gT2, gG2, gN2, gK2, gD2) (gH2, gU2, gF2, gX2, gW2, gI2, gP2, gA2, gR2)) ++ (xOut cJ o0 q2 :: (CW cI cE cG cM cS x0 q0 q1 qr (ms2, es2, gE2, gM2, gB2, gT2, gG2, gN2, gK2, gD2) κ2))) H := hP
  have hD : va_D (fun q : Nat => s.heap.size ≤ q) ((RS cI cJ cZ m0 a (jI ((k : Nat) : Int)) (ms2, es2, gE2, gM2, gB2, gT2, gG2, gN2, gK2, gD2) (gH2, gU2, gF2, gX2, gW2, gI2, gP2, gA2, gR2)) ++ (xOut cJ o0 q2 :: (CW cI cE cG cM cS x0 q0 q1 qr (ms2, es2, gE2, gM2, gB2, gT2, gG2, gN2, gK2, gD2) κ2))) := hD
  have hP : va_P D vwCl ((xOut cJ o0 q2 :: (CW cI cE cG cM cS x0 q0 q1 qr (ms2, es2, gE2, gM2, gB2, gT2, gG2, gN2, gK2, gD2) κ2)) ++ (RS cI cJ cZ m0 a (jI ((k : Nat) : Int)) (ms2, es2, gE2, gM2, gB2, gT2, gG2, gN2, gK2, gD2) (gH2, gU2, gF2, gX2, gW2, gI2, gP2, gA2, gR2))) H := hP.perm (List.perm_append_comm (l₁ := (RS cI cJ cZ m0 a (jI ((k : Nat) : Int)) (ms2, es2, gE2, gM2, gB2, gT2, gG2, gN2, gK2, gD2) (gH2, gU2, gF2, gX2, gW2, gI2, gP2, gA2, gR2))) (l₂ := (xOut cJ o0 q2 :: (CW cI cE cG cM cS x0 q0 q1 qr (ms2, es2, gE2, gM2, gB2, gT2, gG2, gN2, gK2, gD2) κ2))))
  have hD : va_D (fun q : Nat => s.heap.size ≤ q) ((xOut cJ o0 q2 :: (CW cI cE cG cM cS x0 q0 q1 qr (ms2, es2, gE2, gM2, gB2, gT2, gG2, gN2, gK2, gD2) κ2)) ++ (RS cI cJ cZ m0 a (jI ((k : Nat) : Int)) (ms2, es2, gE2, gM2, gB2, gT2, gG2, gN2, gK2, gD2) (gH2, gU2, gF2, gX2, gW2, gI2, gP2, gA2, gR2))) := hD.perm (List.perm_append_comm (l₁ := (RS cI cJ cZ m0 a (jI ((k : Nat) : Int)) (ms2, es2, gE2, gM2, gB2, gT2, gG2, gN2, gK2, gD2) (gH2, gU2, gF2, gX2, gW2, gI2, gP2, gA2, gR2))) (l₂ := (xOut cJ o0 q2 :: (CW cI cE cG cM cS x0 q0 q1 qr (ms2, es2, gE2, gM2, gB2, gT2, gG2, gN2, gK2, gD2) κ2))))
  refine lv_iload hx hb dL_law_217 (lv_at hl 1 rfl) ?_
  refine lv_icmp_eq (tgt := 224) hx hb dL_law_219 (by decide) (fun _ => ?_) (fun h9 => absurd rfl h9)
  refine lv_iload hx hb dL_law_224 (lv_at hl 1 rfl) ?_
  refine n_if_ne (tgt := 241) hx hb (by unfold r32; omega) dL_law_226 (by decide) (fun h0 => ?_) (fun h0 => ?_)
  · refine lv_goto (tgt := 1384) hx hb dL_law_241 (by decide) ?_
    exact kk (ms2, es2, gE2, gM2, gB2, gT2, gG2, gN2, gK2, gD2) κ2 (jI ((k : Nat) : Int)) (gH2, gU2, gF2, gX2, gW2, gI2, gP2, gA2, gR2) q2 H locs ls hI2 hP hD hS (lv_sub hl [2, 3, 4, 5, 6] rfl)
  · obtain ⟨hv1, hv2⟩ := hv (by omega)
    have hv1 : jI (q2 0) = r := hv1
    have hv2 : r32 (q2 0) := hv2
    subst hv1
    refine lv_aload_n hx hb dL_law_229 rfl (lv_at hl 6 rfl) ?_
    refine n_iconst hx hb dL_law_230 ?_
    refine n_lald (i := 0) hx hb hK hP 0 1 rfl htJ rfl (Nat.le_of_ble_eq_true rfl) (Nat.le_of_ble_eq_true rfl) dL_law_231 ?_
    refine lv_iload hx hb dL_law_232 (lv_at hl 0 rfl) ?_
    refine n_i2l hx hb dL_law_234 hv2.1 hv2.2 ?_
    refine W.lcmp hx hb dL_law_235 ?_
    refine n_lif_eq (tgt := 241) hx hb (by have := hv2.1; have := hv2.2; unfold r64; omega) (by have := hv2.1; have := hv2.2; unfold r64; omega) dL_law_236 (by decide) (fun _ => ?_) (fun h9 => absurd rfl h9)
    refine lv_goto (tgt := 1384) hx hb dL_law_241 (by decide) ?_
    exact kk (ms2, es2, gE2, gM2, gB2, gT2, gG2, gN2, gK2, gD2) κ2 (jI ((k : Nat) : Int)) (gH2, gU2, gF2, gX2, gW2, gI2, gP2, gA2, gR2) q2 H locs ls hI2 hP hD hS (lv_sub hl [2, 3, 4, 5, 6] rfl)

set_option maxHeartbeats 16000000 in
set_option maxRecDepth 100000 in
/--  -/
theorem ls_begin {p : Program} {e : Env} {s : State} {m : MethodId} {below : List Frame} {meth : Method} {c : Code} (l : Launch) (hl9 : l.stackTraces = false) (D : va_G) (tys : List (ClassId × FieldType)) {cI cJ cZ cE cG cM cS : ClassId} (htI : tys[0]? = some (cI, .int)) (htJ : tys[1]? = some (cJ, .long)) (htZ : tys[2]? = some (cZ, .boolean)) (htE : tys[3]? = some (cE, .object RX1)) (htM : tys[4]? = some (cM, .object RX2)) (htS : tys[5]? = some (cS, .object RX4)) (htG : tys[6]? = some (cG, .array .int)) {b L : Nat} {xs : Nat → Int32} (C0 : LX p s m c b L xs) (hK : KK D tys s) (hXK : XK s) (hZ : XZ (fun q : Nat => s.heap.size ≤ q) s s.heap) (hN : XN s) (m0 : Nat) (a : Nat → Nat) (x0 q0 q1 : Nat) (qr : Nat → Nat) (o0 : Nat) (ms es : Nat) (gE gM gB : Nat → Zp) (gT : Nat → Nat) (gG : Nat → Zp) (gN : Nat → Nat) (gK : Nat → Zp) (gD : Nat → Bool) (κ : Nat → EG) (hI : INV (ms, es, gE, gM, gB, gT, gG, gN, gK, gD) κ) (th : Int32) (c9 : KR) (q : Nat → Int) {H : Heap} {locs : List Loc} {cells slots : Nat} {Q : State → Prop} {ls : Array Slot} {i : Nat} (hi : 7 * i + 7 ≤ L) (hP : va_P D vwCl ((xOut cJ o0 q :: (CW cI cE cG cM cS x0 q0 q1 qr (ms, es, gE, gM, gB, gT, gG, gN, gK, gD) κ)) ++ (RS cI cJ cZ m0 a th (ms, es, gE, gM, gB, gT, gG, gN, gK, gD) c9)) H) (hD : va_D (fun q : Nat => s.heap.size ≤ q) ((xOut cJ o0 q :: (CW cI cE cG cM cS x0 q0 q1 qr (ms, es, gE, gM, gB, gT, gG, gN, gK, gD) κ)) ++ (RS cI cJ cZ m0 a th (ms, es, gE, gM, gB, gT, gG, gN, gK, gD) c9))) (hS : va_S (fun q : Nat => s.heap.size ≤ q) s.heap H locs) (hl : lv_has ls 7 [(4, .int (jI ((7 * i : Nat) : Int))), (0, .ref b), (1, .ref x0), (2, .ref m0), (3, .ref o0)]) (hc : cells + 228 ≤ 601024) (hs : slots + 867 ≤ 7293034)
    (kk : ∀ (g2 : SG) (κ2 : Nat → EG) (th2 : Int32) (c2 : KR) (q2 : Nat → Int) (H1 : Heap) (locs1 : List Loc) (ls1 : Array Slot), INV g2 κ2 → va_P D vwCl ((xOut cJ o0 q2 :: (CW cI cE cG cM cS x0 q0 q1 qr g2 κ2)) ++ (RS cI cJ cZ m0 a th2 g2 c2)) H1 → va_D (fun q : Nat => s.heap.size ≤ q) ((xOut cJ o0 q2 :: (CW cI cE cG cM cS x0 q0 q1 qr g2 κ2)) ++ (RS cI cJ cZ m0 a th2 g2 c2)) → va_S (fun q : Nat => s.heap.size ≤ q) s.heap H1 locs1 → lv_has ls1 7 [(4, .int (jI ((7 * i : Nat) : Int))), (0, .ref b), (1, .ref x0), (2, .ref m0), (3, .ref o0)] → W p l e room_1 s m #[Value.ref b] below meth c H1 locs1 (cells + 228) (slots + 867) Q (F0 m 1384 ls1 [])) : W p l e room_1 s m #[Value.ref b] below meth c H locs cells slots Q (F0 m 244 ls []) := by
  obtain ⟨hx, hb, hml, hown, hts, hX, hbl, hL⟩ := C0
  have hA : ∀ q : Nat, s.heap.size ≤ q → (fun q : Nat => s.heap.size ≤ q) q := fun _ h => h
  have hbA : ¬ (fun q : Nat => s.heap.size ≤ q) b := Nat.not_le.mpr hbl
  obtain ⟨z1, ez1, r1⟩ := i32_j (xs (7 * i + 1))
  obtain ⟨z2, ez2, r2⟩ := i32_j (xs (7 * i + 2))
  obtain ⟨z3, ez3, r3⟩ := i32_j (xs (7 * i + 3))
  obtain ⟨z4, ez4, r4⟩ := i32_j (xs (7 * i + 4))
  obtain ⟨z5, ez5, r5⟩ := i32_j (xs (7 * i + 5))
  obtain ⟨z6, ez6, r6⟩ := i32_j (xs (7 * i + 6))
  obtain ⟨gH, gU, gF, gX, gW, gI, gP, gA, gR⟩ := c9
  obtain ⟨k, v, ⟨ms2, es2, gE2, gM2, gB2, gT2, gG2, gN2, gK2, gD2⟩, ⟨hk4, hR⟩, hC⟩ := st_begin l hl9 D tys htI htJ htZ htE htM htS htG m0 a x0 q0 q1 qr ms es gE gM gB gT gG gN gK gD κ hI z1 z2 z3 z4 z5 z6 r1 r2 r3 r4 r5 r6
  have hW := w_begin l D tys htJ x0 q0 q1 qr ms es gE gM gB gT gG gN gK gD κ (jI z1) (jI z2) (jI z3) (jI z4) (jI z5) (jI z6) (ms2, es2, gE2, gM2, gB2, gT2, gG2, gN2, gK2, gD2) k v hC o0 q
  refine lv_aload_n hx hb dL_law_244 rfl (lv_at hl 2 rfl) ?_
  refine lv_aload_n hx hb dL_law_245 rfl (lv_at hl 1 rfl) ?_
  refine lv_iload hx hb dL_law_246 (lv_at hl 0 rfl) ?_
  refine n_iconst hx hb dL_law_248 ?_
  refine n_iadd hx hb dL_law_249 ?_
  refine s_ld (i := 7 * i + 1) hx hb hX hbl hbA hS (by omega) (by omega) hL ez1 dL_law_250 ?_
  refine lv_aload_n hx hb dL_law_251 rfl (lv_at hl 1 rfl) ?_
  refine lv_iload hx hb dL_law_252 (lv_at hl 0 rfl) ?_
  refine n_iconst hx hb dL_law_254 ?_
  refine n_iadd hx hb dL_law_255 ?_
  refine s_ld (i := 7 * i + 2) hx hb hX hbl hbA hS (by omega) (by omega) hL ez2 dL_law_256 ?_
  refine lv_aload_n hx hb dL_law_257 rfl (lv_at hl 1 rfl) ?_
  refine lv_iload hx hb dL_law_258 (lv_at hl 0 rfl) ?_
  refine n_iconst hx hb dL_law_260 ?_
  refine n_iadd hx hb dL_law_261 ?_
  refine s_ld (i := 7 * i + 3) hx hb hX hbl hbA hS (by omega) (by omega) hL ez3 dL_law_262 ?_
  refine lv_aload_n hx hb dL_law_263 rfl (lv_at hl 1 rfl) ?_
  refine lv_iload hx hb dL_law_264 (lv_at hl 0 rfl) ?_
  refine n_iconst hx hb dL_law_266 ?_
  refine n_iadd hx hb dL_law_267 ?_
  refine s_ld (i := 7 * i + 4) hx hb hX hbl hbA hS (by omega) (by omega) hL ez4 dL_law_268 ?_
  refine lv_aload_n hx hb dL_law_269 rfl (lv_at hl 1 rfl) ?_
  refine lv_iload hx hb dL_law_270 (lv_at hl 0 rfl) ?_
  refine n_iconst hx hb dL_law_272 ?_
  refine n_iadd hx hb dL_law_273 ?_
  refine s_ld (i := 7 * i + 5) hx hb hX hbl hbA hS (by omega) (by omega) hL ez5 dL_law_274 ?_
  refine lv_aload_n hx hb dL_law_275 rfl (lv_at hl 1 rfl) ?_
  refine lv_iload hx hb dL_law_276 (lv_at hl 0 rfl) ?_
  refine n_bipush hx hb dL_law_278 (by decide) ?_
  refine n_iadd hx hb dL_law_280 ?_
  refine s_ld (i := 7 * i + 6) hx hb hX hbl hbA hS (by omega) (by omega) hL ez6 dL_law_281 ?_
  refine lv_aload_n hx hb dL_law_282 rfl (lv_at hl 4 rfl) ?_
  refine a_goNI (vx_runSW (As := [.ref x0, .int (jI z1), .int (jI z2), .int (jI z3), .int (jI z4), .int (jI z5), .int (jI z6), .ref o0]) (rest := []) ⟨hx, hb, hml, hown, hts⟩ (hW _) (vx_cwSW 8 hts gL_law_L_begin rfl rfl rfl (by decide +kernel) ⟨(Nat.le_of_ble_eq_true rfl), (Nat.le_of_ble_eq_true rfl)⟩) (c_pre hK hXK hZ hN hP hD hS hA) rfl rfl hl.1 rfl (lv_room (Nat.le_of_ble_eq_true rfl)) dL_law_283 ⟨hc, hs⟩) hP hD hS hA (fun r u H locs hpost hP hD hS => ?_)
  obtain ⟨κ2, q2⟩ := u
  obtain ⟨hr9, hI2, hv⟩ := hpost
  subst hr9
  have hP : va_P D vwCl ((xOut cJ o0 q2 :: (CW cI cE cG cM cS x0 q0 q1 qr (ms2, es2, gE2, gM2, gB2, gT2, gG2, gN2, gK2, gD2) κ2)) ++ (RS cI cJ cZ m0 a th (ms, es, gE, gM, gB, gT, gG, gN, gK, gD) (gH, gU, gF, gX, gW, gI, gP, gA, gR))) H := hP
  have hD : va_D (fun q : Nat => s.heap.size ≤ q) ((xOut cJ o0 q2 :: (CW cI cE cG cM cS x0 q0 q1 qr (ms2, es2, gE2, gM2, gB2, gT2, gG2, gN2, gK2, gD2) κ2)) ++ (RS cI cJ cZ m0 a th (ms, es, gE, gM, gB, gT, gG, gN, gK, gD) (gH, gU, gF, gX, gW, gI, gP, gA, gR))) := hD
  refine lv_istore (lv' := [(5, .int (jI ((k : Nat) : Int))), (4, .int (jI ((7 * i : Nat) : Int))), (0, .ref b), (1, .ref x0), (2, .ref m0), (3, .ref o0)]) hx hb dL_law_286 hl (by decide) rfl (fun ls hl => ?_)
  refine lv_aload_n hx hb dL_law_288 rfl (lv_at hl 4 rfl) ?_
  refine lv_aload_n hx hb dL_law_289 rfl (lv_at hl 2 rfl) ?_
  refine lv_iload hx hb dL_law_290 (lv_at hl 1 rfl) ?_
  refine n_iconst hx hb dL_law_292 ?_
  refine n_iadd hx hb dL_law_293 ?_
  refine s_ld (i := 7 * i + 1) hx hb hX hbl hbA hS (by omega) (by omega) hL ez1 dL_law_294 ?_
  refine lv_aload_n hx hb dL_law_295 rfl (lv_at hl 2 rfl) ?_
  refine lv_iload hx hb dL_law_296 (lv_at hl 1 rfl) ?_
  refine n_iconst hx hb dL_law_298 ?_
  refine n_iadd hx hb dL_law_299 ?_
  refine s_ld (i := 7 * i + 2) hx hb hX hbl hbA hS (by omega) (by omega) hL ez2 dL_law_300 ?_
  refine lv_aload_n hx hb dL_law_301 rfl (lv_at hl 2 rfl) ?_
  refine lv_iload hx hb dL_law_302 (lv_at hl 1 rfl) ?_
  refine n_iconst hx hb dL_law_304 ?_
  refine n_iadd hx hb dL_law_305 ?_
  refine s_ld (i := 7 * i + 3) hx hb hX hbl hbA hS (by omega) (by omega) hL ez3 dL_law_306 ?_
  refine lv_aload_n hx hb dL_law_307 rfl (lv_at hl 2 rfl) ?_
  refine lv_iload hx hb dL_law_308 (lv_at hl 1 rfl) ?_
  refine n_iconst hx hb dL_law_310 ?_
  refine n_iadd hx hb dL_law_311 ?_
  refine s_ld (i := 7 * i + 4) hx hb hX hbl hbA hS (by omega) (by omega) hL ez4 dL_law_312 ?_
  refine lv_aload_n hx hb dL_law_313 rfl (lv_at hl 2 rfl) ?_
  refine lv_iload hx hb dL_law_314 (lv_at hl 1 rfl) ?_
  refine n_iconst hx hb dL_law_316 ?_
  refine n_iadd hx hb dL_law_317 ?_
  refine s_ld (i := 7 * i + 5) hx hb hX hbl hbA hS (by omega) (by omega) hL ez5 dL_law_318 ?_
  refine lv_aload_n hx hb dL_law_319 rfl (lv_at hl 2 rfl) ?_
  refine lv_iload hx hb dL_law_320 (lv_at hl 1 rfl) ?_
  refine n_bipush hx hb dL_law_322 (by decide) ?_
  refine n_iadd hx hb dL_law_324 ?_
  refine s_ld (i := 7 * i + 6) hx hb hX hbl hbA hS (by omega) (by omega) hL ez6 dL_law_325 ?_
  have hP : va_P D vwCl ((RS cI cJ cZ m0 a th (ms, es, gE, gM, gB, gT, gG, gN, gK, gD) (gH, gU, gF, gX, gW, gI, gP, gA, gR)) ++ (xOut cJ o0 q2 :: (CW cI cE cG cM cS x0 q0 q1 qr (ms2, es2, gE2, gM2, gB2, gT2, gG2, gN2, gK2, gD2) κ2))) H := hP.perm (List.perm_append_comm (l₁ := (xOut cJ o0 q2 :: (CW cI cE cG cM cS x0 q0 q1 qr (ms2, es2, gE2, gM2, gB2, gT2, gG2, gN2, gK2, gD2) κ2))) (l₂ := (RS cI cJ cZ m0 a th (ms, es, gE, gM, gB, gT, gG, gN, gK, gD) (gH, gU, gF, gX, gW, gI, gP, gA, gR))))
  have hD : va_D (fun q : Nat => s.heap.size ≤ q) ((RS cI cJ cZ m0 a th (ms, es, gE, gM, gB, gT, gG, gN, gK, gD) (gH, gU, gF, gX, gW, gI, gP, gA, gR)) ++ (xOut cJ o0 q2 :: (CW cI cE cG cM cS x0 q0 q1 qr (ms2, es2, gE2, gM2, gB2, gT2, gG2, gN2, gK2, gD2) κ2))) := hD.perm (List.perm_append_comm (l₁ := (xOut cJ o0 q2 :: (CW cI cE cG cM cS x0 q0 q1 qr (ms2, es2, gE2, gM2, gB2, gT2, gG2, gN2, gK2, gD2) κ2))) (l₂ := (RS cI cJ cZ m0 a th (ms, es, gE, gM, gB, gT, gG, gN, gK, gD) (gH, gU, gF, gX, gW, gI, gP, gA, gR))))
  have ct := hR th (gH, gU, gF, gX, gW, gI, gP, gA, gR)
  refine a_goE (va_runV (As := [.int (jI z1), .int (jI z2), .int (jI z3), .int (jI z4), .int (jI z5), .int (jI z6)]) (rest := []) ⟨hx, hb, hml, hown, hts⟩ (ct.2 _) (cwV 6 hts gL_law_X7_begin rfl rfl rfl (by decide +kernel) ⟨(Nat.le_of_ble_eq_true rfl), (Nat.le_of_ble_eq_true rfl)⟩) ⟨(a_pre hK hP hD).1, va_recv hK.1 hP (ci := 7) (q0 := 0) rfl rfl, (a_pre hK hP hD).2⟩ rfl rfl hl.1 rfl (lv_room (Nat.le_of_ble_eq_true rfl)) dL_law_326 ⟨by show cells + 228 + 0 ≤ 601024; omega, by show slots + 867 + 0 ≤ 7293034; omega⟩) ct.1 hP hD hS hA (fun r c2 H locs hrv hP hD hS => ?_)
  obtain ⟨gH2, gU2, gF2, gX2, gW2, gI2, gP2, gA2, gR2⟩ := c2
  have hP : va_P D vwCl ((RS cI cJ cZ m0 a (jI ((k : Nat) : Int)) (ms2, es2, gE2, gM2, gB2, gT2, gG2, gN2, gK2, gD2) (gH2, gU2, gF2, gX2, gW2, gI2, gP2, gA2, gR2)) ++ (xOut cJ o0 q2 :: (CW cI cE cG cM cS x0 q0 q1 qr (ms2, es2, gE2, gM2, gB2, gT2, gG2, gN2, gK2, gD2) κ2))) H := hP
  have hD : va_D (fun q : Nat => s.heap.size ≤ q) ((RS cI cJ cZ m0 a (jI ((k : Nat) : Int)) (ms2, es2, gE2, gM2, gB2, gT2, gG2, gN2, gK2, gD2) (gH2, gU2, gF2, gX2, gW2, gI2, gP2, gA2, gR2)) ++ (xOut cJ o0 q2 :: (CW cI cE cG cM cS x0 q0 q1 qr (ms2, es2, gE2, gM2, gB2, gT2, gG2, gN2, gK2, gD2) κ2))) := hD
  subst hrv
  refine lv_istore (lv' := [(6, .int r), (5, .int (jI ((k : Nat) : Int))), (4, .int (jI ((7 * i : Nat) : Int))), (0, .ref b), (1, .ref x0), (2, .ref m0), (3, .ref o0)]) hx hb dL_law_329 hl (by decide) rfl (fun ls hl => ?_)
  refine lv_aload_n hx hb dL_law_331 rfl (lv_at hl 5 rfl) ?_
  have cq := c_X7_thrown l D tys m0 a ms2 es2 (jI ((k : Nat) : Int))
  refine k_goI (va_runV (As := []) (rest := []) ⟨hx, hb, hml, hown, hts⟩ (cq.2 _) (cwV 0 hts gL_law_X7_thrown rfl rfl rfl (by decide +kernel) ⟨(Nat.le_of_ble_eq_true rfl), (Nat.le_of_ble_eq_true rfl)⟩) ⟨(k_pre hK hP hD (is := [0]) rfl rfl).1, va_recv hK.1 hP (ci := 7) (q0 := 0) rfl rfl, (k_pre hK hP hD (is := [0]) rfl rfl).2⟩ rfl rfl hl.1 rfl (lv_room (Nat.le_of_ble_eq_true rfl)) dL_law_332 ⟨by show cells + 228 + 0 ≤ 601024; omega, by show slots + 867 + 0 ≤ 7293034; omega⟩) cq.1 hP hD hS hA [0] rfl rfl (fun H locs hP hD hS => ?_)
  have hP : va_P D vwCl ((RS cI cJ cZ m0 a (jI ((k : Nat) : Int)) (ms2, es2, gE2, gM2, gB2, gT2, gG2, gN2, gK2, gD2) (gH2, gU2, gF2, gX2, gW2, gI2, gP2, gA2, gR2)) ++ (xOut cJ o0 q2 :: (CW cI cE cG cM cS x0 q0 q1 qr (ms2, es2, gE2, gM2, gB2, gT2, gG2, gN2, gK2, gD2) κ2))) H := hP
  have hD : va_D (fun q : Nat => s.heap.size ≤ q) ((RS cI cJ cZ m0 a (jI ((k : Nat) : Int)) (ms2, es2, gE2, gM2, gB2, gT2, gG2, gN2, gK2, gD2) (gH2, gU2, gF2, gX2, gW2, gI2, gP2, gA2, gR2)) ++ (xOut cJ o0 q2 :: (CW cI cE cG cM cS x0 q0 q1 qr (ms2, es2, gE2, gM2, gB2, gT2, gG2, gN2, gK2, gD2) κ2))) := hD
  have hP : va_P D vwCl ((xOut cJ o0 q2 :: (CW cI cE cG cM cS x0 q0 q1 qr (ms2, es2, gE2, gM2, gB2, gT2, gG2, gN2, gK2, gD2) κ2)) ++ (RS cI cJ cZ m0 a (jI ((k : Nat) : Int)) (ms2, es2, gE2, gM2, gB2, gT2, gG2, gN2, gK2, gD2) (gH2, gU2, gF2, gX2, gW2, gI2, gP2, gA2, gR2))) H := hP.perm (List.perm_append_comm (l₁ := (RS cI cJ cZ m0 a (jI ((k : Nat) : Int)) (ms2, es2, gE2, gM2, gB2, gT2, gG2, gN2, gK2, gD2) (gH2, gU2, gF2, gX2, gW2, gI2, gP2, gA2, gR2))) (l₂ := (xOut cJ o0 q2 :: (CW cI cE cG cM cS x0 q0 q1 qr (ms2, es2, gE2, gM2, gB2, gT2, gG2, gN2, gK2, gD2) κ2))))
  have hD : va_D (fun q : Nat => s.heap.size ≤ q) ((xOut cJ o0 q2 :: (CW cI cE cG cM cS x0 q0 q1 qr (ms2, es2, gE2, gM2, gB2, gT2, gG2, gN2, gK2, gD2) κ2)) ++ (RS cI cJ cZ m0 a (jI ((k : Nat) : Int)) (ms2, es2, gE2, gM2, gB2, gT2, gG2, gN2, gK2, gD2) (gH2, gU2, gF2, gX2, gW2, gI2, gP2, gA2, gR2))) := hD.perm (List.perm_append_comm (l₁ := (RS cI cJ cZ m0 a (jI ((k : Nat) : Int)) (ms2, es2, gE2, gM2, gB2, gT2, gG2, gN2, gK2, gD2) (gH2, gU2, gF2, gX2, gW2, gI2, gP2, gA2, gR2))) (l₂ := (xOut cJ o0 q2 :: (CW cI cE cG cM cS x0 q0 q1 qr (ms2, es2, gE2, gM2, gB2, gT2, gG2, gN2, gK2, gD2) κ2))))
  refine lv_iload hx hb dL_law_335 (lv_at hl 1 rfl) ?_
  refine lv_icmp_eq (tgt := 342) hx hb dL_law_337 (by decide) (fun _ => ?_) (fun h9 => absurd rfl h9)
  refine lv_iload hx hb dL_law_342 (lv_at hl 1 rfl) ?_
  refine n_if_ne (tgt := 359) hx hb (by unfold r32; omega) dL_law_344 (by decide) (fun h0 => ?_) (fun h0 => ?_)
  · refine lv_goto (tgt := 1384) hx hb dL_law_359 (by decide) ?_
    exact kk (ms2, es2, gE2, gM2, gB2, gT2, gG2, gN2, gK2, gD2) κ2 (jI ((k : Nat) : Int)) (gH2, gU2, gF2, gX2, gW2, gI2, gP2, gA2, gR2) q2 H locs ls hI2 hP hD hS (lv_sub hl [2, 3, 4, 5, 6] rfl)
  · obtain ⟨hv1, hv2⟩ := hv (by omega)
    have hv1 : jI (q2 0) = r := hv1
    have hv2 : r32 (q2 0) := hv2
    subst hv1
    refine lv_aload_n hx hb dL_law_347 rfl (lv_at hl 6 rfl) ?_
    refine n_iconst hx hb dL_law_348 ?_
    refine n_lald (i := 0) hx hb hK hP 0 1 rfl htJ rfl (Nat.le_of_ble_eq_true rfl) (Nat.le_of_ble_eq_true rfl) dL_law_349 ?_
    refine lv_iload hx hb dL_law_350 (lv_at hl 0 rfl) ?_
    refine n_i2l hx hb dL_law_352 hv2.1 hv2.2 ?_
    refine W.lcmp hx hb dL_law_353 ?_
    refine n_lif_eq (tgt := 359) hx hb (by have := hv2.1; have := hv2.2; unfold r64; omega) (by have := hv2.1; have := hv2.2; unfold r64; omega) dL_law_354 (by decide) (fun _ => ?_) (fun h9 => absurd rfl h9)
    refine lv_goto (tgt := 1384) hx hb dL_law_359 (by decide) ?_
    exact kk (ms2, es2, gE2, gM2, gB2, gT2, gG2, gN2, gK2, gD2) κ2 (jI ((k : Nat) : Int)) (gH2, gU2, gF2, gX2, gW2, gI2, gP2, gA2, gR2) q2 H locs ls hI2 hP hD hS (lv_sub hl [2, 3, 4, 5, 6] rfl)

set_option maxHeartbeats 16000000 in
set_option maxRecDepth 100000 in
/--  -/
theorem ls_gate {p : Program} {e : Env} {s : State} {m : MethodId} {below : List Frame} {meth : Method} {c : Code} (l : Launch) (hl9 : l.stackTraces = false) (D : va_G) (tys : List (ClassId × FieldType)) {cI cJ cZ cE cG cM cS : ClassId} (htI : tys[0]? = some (cI, .int)) (htJ : tys[1]? = some (cJ, .long)) (htZ : tys[2]? = some (cZ, .boolean)) (htE : tys[3]? = some (cE, .object RX1)) (htM : tys[4]? = some (cM, .object RX2)) (htS : tys[5]? = some (cS, .object RX4)) (htG : tys[6]? = some (cG, .array .int)) {b L : Nat} {xs : Nat → Int32} (C0 : LX p s m c b L xs) (hK : KK D tys s) (hXK : XK s) (hZ : XZ (fun q : Nat => s.heap.size ≤ q) s s.heap) (hN : XN s) (m0 : Nat) (a : Nat → Nat) (x0 q0 q1 : Nat) (qr : Nat → Nat) (o0 : Nat) (ms es : Nat) (gE gM gB : Nat → Zp) (gT : Nat → Nat) (gG : Nat → Zp) (gN : Nat → Nat) (gK : Nat → Zp) (gD : Nat → Bool) (κ : Nat → EG) (hI : INV (ms, es, gE, gM, gB, gT, gG, gN, gK, gD) κ) (th : Int32) (c9 : KR) (q : Nat → Int) {H : Heap} {locs : List Loc} {cells slots : Nat} {Q : State → Prop} {ls : Array Slot} {i : Nat} (hi : 7 * i + 7 ≤ L) (hP : va_P D vwCl ((xOut cJ o0 q :: (CW cI cE cG cM cS x0 q0 q1 qr (ms, es, gE, gM, gB, gT, gG, gN, gK, gD) κ)) ++ (RS cI cJ cZ m0 a th (ms, es, gE, gM, gB, gT, gG, gN, gK, gD) c9)) H) (hD : va_D (fun q : Nat => s.heap.size ≤ q) ((xOut cJ o0 q :: (CW cI cE cG cM cS x0 q0 q1 qr (ms, es, gE, gM, gB, gT, gG, gN, gK, gD) κ)) ++ (RS cI cJ cZ m0 a th (ms, es, gE, gM, gB, gT, gG, gN, gK, gD) c9))) (hS : va_S (fun q : Nat => s.heap.size ≤ q) s.heap H locs) (hl : lv_has ls 7 [(4, .int (jI ((7 * i : Nat) : Int))), (0, .ref b), (1, .ref x0), (2, .ref m0), (3, .ref o0)]) (hc : cells + 228 ≤ 601024) (hs : slots + 867 ≤ 7293034)
    (kk : ∀ (g2 : SG) (κ2 : Nat → EG) (th2 : Int32) (c2 : KR) (q2 : Nat → Int) (H1 : Heap) (locs1 : List Loc) (ls1 : Array Slot), INV g2 κ2 → va_P D vwCl ((xOut cJ o0 q2 :: (CW cI cE cG cM cS x0 q0 q1 qr g2 κ2)) ++ (RS cI cJ cZ m0 a th2 g2 c2)) H1 → va_D (fun q : Nat => s.heap.size ≤ q) ((xOut cJ o0 q2 :: (CW cI cE cG cM cS x0 q0 q1 qr g2 κ2)) ++ (RS cI cJ cZ m0 a th2 g2 c2)) → va_S (fun q : Nat => s.heap.size ≤ q) s.heap H1 locs1 → lv_has ls1 7 [(4, .int (jI ((7 * i : Nat) : Int))), (0, .ref b), (1, .ref x0), (2, .ref m0), (3, .ref o0)] → W p l e room_1 s m #[Value.ref b] below meth c H1 locs1 (cells + 228) (slots + 867) Q (F0 m 1384 ls1 [])) : W p l e room_1 s m #[Value.ref b] below meth c H locs cells slots Q (F0 m 362 ls []) := by
  obtain ⟨hx, hb, hml, hown, hts, hX, hbl, hL⟩ := C0
  have hA : ∀ q : Nat, s.heap.size ≤ q → (fun q : Nat => s.heap.size ≤ q) q := fun _ h => h
  have hbA : ¬ (fun q : Nat => s.heap.size ≤ q) b := Nat.not_le.mpr hbl
  obtain ⟨z1, ez1, r1⟩ := i32_j (xs (7 * i + 1))
  obtain ⟨z2, ez2, r2⟩ := i32_j (xs (7 * i + 2))
  obtain ⟨gH, gU, gF, gX, gW, gI, gP, gA, gR⟩ := c9
  obtain ⟨k, v, ⟨ms2, es2, gE2, gM2, gB2, gT2, gG2, gN2, gK2, gD2⟩, ⟨hk4, hR⟩, hC⟩ := st_gate l hl9 D tys htI htJ htZ htE htM htS htG m0 a x0 q0 q1 qr ms es gE gM gB gT gG gN gK gD κ hI z1 z2 r1 r2
  have hW := w_gate l D tys htJ x0 q0 q1 qr ms es gE gM gB gT gG gN gK gD κ (jI z1) (jI z2) (ms2, es2, gE2, gM2, gB2, gT2, gG2, gN2, gK2, gD2) k v hC o0 q
  refine lv_aload_n hx hb dL_law_362 rfl (lv_at hl 2 rfl) ?_
  refine lv_aload_n hx hb dL_law_363 rfl (lv_at hl 1 rfl) ?_
  refine lv_iload hx hb dL_law_364 (lv_at hl 0 rfl) ?_
  refine n_iconst hx hb dL_law_366 ?_
  refine n_iadd hx hb dL_law_367 ?_
  refine s_ld (i := 7 * i + 1) hx hb hX hbl hbA hS (by omega) (by omega) hL ez1 dL_law_368 ?_
  refine lv_aload_n hx hb dL_law_369 rfl (lv_at hl 1 rfl) ?_
  refine lv_iload hx hb dL_law_370 (lv_at hl 0 rfl) ?_
  refine n_iconst hx hb dL_law_372 ?_
  refine n_iadd hx hb dL_law_373 ?_
  refine s_ld (i := 7 * i + 2) hx hb hX hbl hbA hS (by omega) (by omega) hL ez2 dL_law_374 ?_
  refine lv_aload_n hx hb dL_law_375 rfl (lv_at hl 4 rfl) ?_
  refine a_goNI (vx_runSW (As := [.ref x0, .int (jI z1), .int (jI z2), .ref o0]) (rest := []) ⟨hx, hb, hml, hown, hts⟩ (hW _) (vx_cwSW 4 hts gL_law_L_gate rfl rfl rfl (by decide +kernel) ⟨(Nat.le_of_ble_eq_true rfl), (Nat.le_of_ble_eq_true rfl)⟩) (c_pre hK hXK hZ hN hP hD hS hA) rfl rfl hl.1 rfl (lv_room (Nat.le_of_ble_eq_true rfl)) dL_law_376 ⟨hc, hs⟩) hP hD hS hA (fun r u H locs hpost hP hD hS => ?_)
  obtain ⟨κ2, q2⟩ := u
  obtain ⟨hr9, hI2, hv⟩ := hpost
  subst hr9
  have hP : va_P D vwCl ((xOut cJ o0 q2 :: (CW cI cE cG cM cS x0 q0 q1 qr (ms2, es2, gE2, gM2, gB2, gT2, gG2, gN2, gK2, gD2) κ2)) ++ (RS cI cJ cZ m0 a th (ms, es, gE, gM, gB, gT, gG, gN, gK, gD) (gH, gU, gF, gX, gW, gI, gP, gA, gR))) H := hP
  have hD : va_D (fun q : Nat => s.heap.size ≤ q) ((xOut cJ o0 q2 :: (CW cI cE cG cM cS x0 q0 q1 qr (ms2, es2, gE2, gM2, gB2, gT2, gG2, gN2, gK2, gD2) κ2)) ++ (RS cI cJ cZ m0 a th (ms, es, gE, gM, gB, gT, gG, gN, gK, gD) (gH, gU, gF, gX, gW, gI, gP, gA, gR))) := hD
  refine lv_istore (lv' := [(5, .int (jI ((k : Nat) : Int))), (4, .int (jI ((7 * i : Nat) : Int))), (0, .ref b), (1, .ref x0), (2, .ref m0), (3, .ref o0)]) hx hb dL_law_379 hl (by decide) rfl (fun ls hl => ?_)
  refine lv_aload_n hx hb dL_law_381 rfl (lv_at hl 4 rfl) ?_
  refine lv_aload_n hx hb dL_law_382 rfl (lv_at hl 2 rfl) ?_
  refine lv_iload hx hb dL_law_383 (lv_at hl 1 rfl) ?_
  refine n_iconst hx hb dL_law_385 ?_
  refine n_iadd hx hb dL_law_386 ?_
  refine s_ld (i := 7 * i + 1) hx hb hX hbl hbA hS (by omega) (by omega) hL ez1 dL_law_387 ?_
  refine lv_aload_n hx hb dL_law_388 rfl (lv_at hl 2 rfl) ?_
  refine lv_iload hx hb dL_law_389 (lv_at hl 1 rfl) ?_
  refine n_iconst hx hb dL_law_391 ?_
  refine n_iadd hx hb dL_law_392 ?_
  refine s_ld (i := 7 * i + 2) hx hb hX hbl hbA hS (by omega) (by omega) hL ez2 dL_law_393 ?_
  have hP : va_P D vwCl ((RS cI cJ cZ m0 a th (ms, es, gE, gM, gB, gT, gG, gN, gK, gD) (gH, gU, gF, gX, gW, gI, gP, gA, gR)) ++ (xOut cJ o0 q2 :: (CW cI cE cG cM cS x0 q0 q1 qr (ms2, es2, gE2, gM2, gB2, gT2, gG2, gN2, gK2, gD2) κ2))) H := hP.perm (List.perm_append_comm (l₁ := (xOut cJ o0 q2 :: (CW cI cE cG cM cS x0 q0 q1 qr (ms2, es2, gE2, gM2, gB2, gT2, gG2, gN2, gK2, gD2) κ2))) (l₂ := (RS cI cJ cZ m0 a th (ms, es, gE, gM, gB, gT, gG, gN, gK, gD) (gH, gU, gF, gX, gW, gI, gP, gA, gR))))
  have hD : va_D (fun q : Nat => s.heap.size ≤ q) ((RS cI cJ cZ m0 a th (ms, es, gE, gM, gB, gT, gG, gN, gK, gD) (gH, gU, gF, gX, gW, gI, gP, gA, gR)) ++ (xOut cJ o0 q2 :: (CW cI cE cG cM cS x0 q0 q1 qr (ms2, es2, gE2, gM2, gB2, gT2, gG2, gN2, gK2, gD2) κ2))) := hD.perm (List.perm_append_comm (l₁ := (xOut cJ o0 q2 :: (CW cI cE cG cM cS x0 q0 q1 qr (ms2, es2, gE2, gM2, gB2, gT2, gG2, gN2, gK2, gD2) κ2))) (l₂ := (RS cI cJ cZ m0 a th (ms, es, gE, gM, gB, gT, gG, gN, gK, gD) (gH, gU, gF, gX, gW, gI, gP, gA, gR))))
  have ct := hR th (gH, gU, gF, gX, gW, gI, gP, gA, gR)
  refine a_goE (va_runV (As := [.int (jI z1), .int (jI z2)]) (rest := []) ⟨hx, hb, hml, hown, hts⟩ (ct.2 _) (cwV 2 hts gL_law_X7_gate rfl rfl rfl (by decide +kernel) ⟨(Nat.le_of_ble_eq_true rfl), (Nat.le_of_ble_eq_true rfl)⟩) ⟨(a_pre hK hP hD).1, va_recv hK.1 hP (ci := 7) (q0 := 0) rfl rfl, (a_pre hK hP hD).2⟩ rfl rfl hl.1 rfl (lv_room (Nat.le_of_ble_eq_true rfl)) dL_law_394 ⟨by show cells + 228 + 0 ≤ 601024; omega, by show slots + 867 + 0 ≤ 7293034; omega⟩) ct.1 hP hD hS hA (fun r c2 H locs hrv hP hD hS => ?_)
  obtain ⟨gH2, gU2, gF2, gX2, gW2, gI2, gP2, gA2, gR2⟩ := c2
  have hP : va_P D vwCl ((RS cI cJ cZ m0 a (jI ((k : Nat) : Int)) (ms2, es2, gE2, gM2, gB2, gT2, gG2, gN2, gK2, gD2) (gH2, gU2, gF2, gX2, gW2, gI2, gP2, gA2, gR2)) ++ (xOut cJ o0 q2 :: (CW cI cE cG cM cS x0 q0 q1 qr (ms2, es2, gE2, gM2, gB2, gT2, gG2, gN2, gK2, gD2) κ2))) H := hP
  have hD : va_D (fun q : Nat => s.heap.size ≤ q) ((RS cI cJ cZ m0 a (jI ((k : Nat) : Int)) (ms2, es2, gE2, gM2, gB2, gT2, gG2, gN2, gK2, gD2) (gH2, gU2, gF2, gX2, gW2, gI2, gP2, gA2, gR2)) ++ (xOut cJ o0 q2 :: (CW cI cE cG cM cS x0 q0 q1 qr (ms2, es2, gE2, gM2, gB2, gT2, gG2, gN2, gK2, gD2) κ2))) := hD
  subst hrv
  refine lv_istore (lv' := [(6, .int r), (5, .int (jI ((k : Nat) : Int))), (4, .int (jI ((7 * i : Nat) : Int))), (0, .ref b), (1, .ref x0), (2, .ref m0), (3, .ref o0)]) hx hb dL_law_397 hl (by decide) rfl (fun ls hl => ?_)
  refine lv_aload_n hx hb dL_law_399 rfl (lv_at hl 5 rfl) ?_
  have cq := c_X7_thrown l D tys m0 a ms2 es2 (jI ((k : Nat) : Int))
  refine k_goI (va_runV (As := []) (rest := []) ⟨hx, hb, hml, hown, hts⟩ (cq.2 _) (cwV 0 hts gL_law_X7_thrown rfl rfl rfl (by decide +kernel) ⟨(Nat.le_of_ble_eq_true rfl), (Nat.le_of_ble_eq_true rfl)⟩) ⟨(k_pre hK hP hD (is := [0]) rfl rfl).1, va_recv hK.1 hP (ci := 7) (q0 := 0) rfl rfl, (k_pre hK hP hD (is := [0]) rfl rfl).2⟩ rfl rfl hl.1 rfl (lv_room (Nat.le_of_ble_eq_true rfl)) dL_law_400 ⟨by show cells + 228 + 0 ≤ 601024; omega, by show slots + 867 + 0 ≤ 7293034; omega⟩) cq.1 hP hD hS hA [0] rfl rfl (fun H locs hP hD hS => ?_)
  have hP : va_P D vwCl ((RS cI cJ cZ m0 a (jI ((k : Nat) : Int)) (ms2, es2, gE2, gM2, gB2, gT2, gG2, gN2, gK2, gD2) (gH2, gU2, gF2, gX2, gW2, gI2, gP2, gA2, gR2)) ++ (xOut cJ o0 q2 :: (CW cI cE cG cM cS x0 q0 q1 qr (ms2, es2, gE2, gM2, gB2, gT2, gG2, gN2, gK2, gD2) κ2))) H := hP
  have hD : va_D (fun q : Nat => s.heap.size ≤ q) ((RS cI cJ cZ m0 a (jI ((k : Nat) : Int)) (ms2, es2, gE2, gM2, gB2, gT2, gG2, gN2, gK2, gD2) (gH2, gU2, gF2, gX2, gW2, gI2, gP2, gA2, gR2)) ++ (xOut cJ o0 q2 :: (CW cI cE cG cM cS x0 q0 q1 qr (ms2, es2, gE2, gM2, gB2, gT2, gG2, gN2, gK2, gD2) κ2))) := hD
  have hP : va_P D vwCl ((xOut cJ o0 q2 :: (CW cI cE cG cM cS x0 q0 q1 qr (ms2, es2, gE2, gM2, gB2, gT2, gG2, gN2, gK2, gD2) κ2)) ++ (RS cI cJ cZ m0 a (jI ((k : Nat) : Int)) (ms2, es2, gE2, gM2, gB2, gT2, gG2, gN2, gK2, gD2) (gH2, gU2, gF2, gX2, gW2, gI2, gP2, gA2, gR2))) H := hP.perm (List.perm_append_comm (l₁ := (RS cI cJ cZ m0 a (jI ((k : Nat) : Int)) (ms2, es2, gE2, gM2, gB2, gT2, gG2, gN2, gK2, gD2) (gH2, gU2, gF2, gX2, gW2, gI2, gP2, gA2, gR2))) (l₂ := (xOut cJ o0 q2 :: (CW cI cE cG cM cS x0 q0 q1 qr (ms2, es2, gE2, gM2, gB2, gT2, gG2, gN2, gK2, gD2) κ2))))
  have hD : va_D (fun q : Nat => s.heap.size ≤ q) ((xOut cJ o0 q2 :: (CW cI cE cG cM cS x0 q0 q1 qr (ms2, es2, gE2, gM2, gB2, gT2, gG2, gN2, gK2, gD2) κ2)) ++ (RS cI cJ cZ m0 a (jI ((k : Nat) : Int)) (ms2, es2, gE2, gM2, gB2, gT2, gG2, gN2, gK2, gD2) (gH2, gU2, gF2, gX2, gW2, gI2, gP2, gA2, gR2))) := hD.perm (List.perm_append_comm (l₁ := (RS cI cJ cZ m0 a (jI ((k : Nat) : Int)) (ms2, es2, gE2, gM2, gB2, gT2, gG2, gN2, gK2, gD2) (gH2, gU2, gF2, gX2, gW2, gI2, gP2, gA2, gR2))) (l₂ := (xOut cJ o0 q2 :: (CW cI cE cG cM cS x0 q0 q1 qr (ms2, es2, gE2, gM2, gB2, gT2, gG2, gN2, gK2, gD2) κ2))))
  refine lv_iload hx hb dL_law_403 (lv_at hl 1 rfl) ?_
  refine lv_icmp_eq (tgt := 410) hx hb dL_law_405 (by decide) (fun _ => ?_) (fun h9 => absurd rfl h9)
  refine lv_iload hx hb dL_law_410 (lv_at hl 1 rfl) ?_
  refine n_if_ne (tgt := 427) hx hb (by unfold r32; omega) dL_law_412 (by decide) (fun h0 => ?_) (fun h0 => ?_)
  · refine lv_goto (tgt := 1384) hx hb dL_law_427 (by decide) ?_
    exact kk (ms2, es2, gE2, gM2, gB2, gT2, gG2, gN2, gK2, gD2) κ2 (jI ((k : Nat) : Int)) (gH2, gU2, gF2, gX2, gW2, gI2, gP2, gA2, gR2) q2 H locs ls hI2 hP hD hS (lv_sub hl [2, 3, 4, 5, 6] rfl)
  · obtain ⟨hv1, hv2⟩ := hv (by omega)
    have hv1 : jI (q2 0) = r := hv1
    have hv2 : r32 (q2 0) := hv2
    subst hv1
    refine lv_aload_n hx hb dL_law_415 rfl (lv_at hl 6 rfl) ?_
    refine n_iconst hx hb dL_law_416 ?_
    refine n_lald (i := 0) hx hb hK hP 0 1 rfl htJ rfl (Nat.le_of_ble_eq_true rfl) (Nat.le_of_ble_eq_true rfl) dL_law_417 ?_
    refine lv_iload hx hb dL_law_418 (lv_at hl 0 rfl) ?_
    refine n_i2l hx hb dL_law_420 hv2.1 hv2.2 ?_
    refine W.lcmp hx hb dL_law_421 ?_
    refine n_lif_eq (tgt := 427) hx hb (by have := hv2.1; have := hv2.2; unfold r64; omega) (by have := hv2.1; have := hv2.2; unfold r64; omega) dL_law_422 (by decide) (fun _ => ?_) (fun h9 => absurd rfl h9)
    refine lv_goto (tgt := 1384) hx hb dL_law_427 (by decide) ?_
    exact kk (ms2, es2, gE2, gM2, gB2, gT2, gG2, gN2, gK2, gD2) κ2 (jI ((k : Nat) : Int)) (gH2, gU2, gF2, gX2, gW2, gI2, gP2, gA2, gR2) q2 H locs ls hI2 hP hD hS (lv_sub hl [2, 3, 4, 5, 6] rfl)

set_option maxHeartbeats 16000000 in
set_option maxRecDepth 100000 in
/--  -/
theorem ls_predict {p : Program} {e : Env} {s : State} {m : MethodId} {below : List Frame} {meth : Method} {c : Code} (l : Launch) (hl9 : l.stackTraces = false) (D : va_G) (tys : List (ClassId × FieldType)) {cI cJ cZ cE cG cM cS : ClassId} (htI : tys[0]? = some (cI, .int)) (htJ : tys[1]? = some (cJ, .long)) (htZ : tys[2]? = some (cZ, .boolean)) (htE : tys[3]? = some (cE, .object RX1)) (htM : tys[4]? = some (cM, .object RX2)) (htS : tys[5]? = some (cS, .object RX4)) (htG : tys[6]? = some (cG, .array .int)) {b L : Nat} {xs : Nat → Int32} (C0 : LX p s m c b L xs) (hK : KK D tys s) (hXK : XK s) (hZ : XZ (fun q : Nat => s.heap.size ≤ q) s s.heap) (hN : XN s) (m0 : Nat) (a : Nat → Nat) (x0 q0 q1 : Nat) (qr : Nat → Nat) (o0 : Nat) (ms es : Nat) (gE gM gB : Nat → Zp) (gT : Nat → Nat) (gG : Nat → Zp) (gN : Nat → Nat) (gK : Nat → Zp) (gD : Nat → Bool) (κ : Nat → EG) (hI : INV (ms, es, gE, gM, gB, gT, gG, gN, gK, gD) κ) (th : Int32) (c9 : KR) (q : Nat → Int) {H : Heap} {locs : List Loc} {cells slots : Nat} {Q : State → Prop} {ls : Array Slot} {i : Nat} (hi : 7 * i + 7 ≤ L) (hP : va_P D vwCl ((xOut cJ o0 q :: (CW cI cE cG cM cS x0 q0 q1 qr (ms, es, gE, gM, gB, gT, gG, gN, gK, gD) κ)) ++ (RS cI cJ cZ m0 a th (ms, es, gE, gM, gB, gT, gG, gN, gK, gD) c9)) H) (hD : va_D (fun q : Nat => s.heap.size ≤ q) ((xOut cJ o0 q :: (CW cI cE cG cM cS x0 q0 q1 qr (ms, es, gE, gM, gB, gT, gG, gN, gK, gD) κ)) ++ (RS cI cJ cZ m0 a th (ms, es, gE, gM, gB, gT, gG, gN, gK, gD) c9))) (hS : va_S (fun q : Nat => s.heap.size ≤ q) s.heap H locs) (hl : lv_has ls 7 [(4, .int (jI ((7 * i : Nat) : Int))), (0, .ref b), (1, .ref x0), (2, .ref m0), (3, .ref o0)]) (hc : cells + 228 ≤ 601024) (hs : slots + 867 ≤ 7293034)
    (kk : ∀ (g2 : SG) (κ2 : Nat → EG) (th2 : Int32) (c2 : KR) (q2 : Nat → Int) (H1 : Heap) (locs1 : List Loc) (ls1 : Array Slot), INV g2 κ2 → va_P D vwCl ((xOut cJ o0 q2 :: (CW cI cE cG cM cS x0 q0 q1 qr g2 κ2)) ++ (RS cI cJ cZ m0 a th2 g2 c2)) H1 → va_D (fun q : Nat => s.heap.size ≤ q) ((xOut cJ o0 q2 :: (CW cI cE cG cM cS x0 q0 q1 qr g2 κ2)) ++ (RS cI cJ cZ m0 a th2 g2 c2)) → va_S (fun q : Nat => s.heap.size ≤ q) s.heap H1 locs1 → lv_has ls1 7 [(4, .int (jI ((7 * i : Nat) : Int))), (0, .ref b), (1, .ref x0), (2, .ref m0), (3, .ref o0)] → W p l e room_1 s m #[Value.ref b] below meth c H1 locs1 (cells + 228) (slots + 867) Q (F0 m 1384 ls1 [])) : W p l e room_1 s m #[Value.ref b] below meth c H locs cells slots Q (F0 m 430 ls []) := by
  obtain ⟨hx, hb, hml, hown, hts, hX, hbl, hL⟩ := C0
  have hA : ∀ q : Nat, s.heap.size ≤ q → (fun q : Nat => s.heap.size ≤ q) q := fun _ h => h
  have hbA : ¬ (fun q : Nat => s.heap.size ≤ q) b := Nat.not_le.mpr hbl
  obtain ⟨z1, ez1, r1⟩ := i32_j (xs (7 * i + 1))
  obtain ⟨gH, gU, gF, gX, gW, gI, gP, gA, gR⟩ := c9
  obtain ⟨k, v, ⟨ms2, es2, gE2, gM2, gB2, gT2, gG2, gN2, gK2, gD2⟩, ⟨hk4, hR⟩, hC⟩ := st_predict l hl9 D tys htI htJ htZ htE htM htS htG m0 a x0 q0 q1 qr ms es gE gM gB gT gG gN gK gD κ hI z1 r1
  have hW := w_predict l D tys htJ x0 q0 q1 qr ms es gE gM gB gT gG gN gK gD κ (jI z1) (ms2, es2, gE2, gM2, gB2, gT2, gG2, gN2, gK2, gD2) k v hC o0 q
  refine lv_aload_n hx hb dL_law_430 rfl (lv_at hl 2 rfl) ?_
  refine lv_aload_n hx hb dL_law_431 rfl (lv_at hl 1 rfl) ?_
  refine lv_iload hx hb dL_law_432 (lv_at hl 0 rfl) ?_
  refine n_iconst hx hb dL_law_434 ?_
  refine n_iadd hx hb dL_law_435 ?_
  refine s_ld (i := 7 * i + 1) hx hb hX hbl hbA hS (by omega) (by omega) hL ez1 dL_law_436 ?_
  refine lv_aload_n hx hb dL_law_437 rfl (lv_at hl 4 rfl) ?_
  refine a_goNI (vx_runSW (As := [.ref x0, .int (jI z1), .ref o0]) (rest := []) ⟨hx, hb, hml, hown, hts⟩ (hW _) (vx_cwSW 3 hts gL_law_L_predict rfl rfl rfl (by decide +kernel) ⟨(Nat.le_of_ble_eq_true rfl), (Nat.le_of_ble_eq_true rfl)⟩) (c_pre hK hXK hZ hN hP hD hS hA) rfl rfl hl.1 rfl (lv_room (Nat.le_of_ble_eq_true rfl)) dL_law_438 ⟨hc, hs⟩) hP hD hS hA (fun r u H locs hpost hP hD hS => ?_)
  obtain ⟨κ2, q2⟩ := u
  obtain ⟨hr9, hI2, hv⟩ := hpost
  subst hr9
  have hP : va_P D vwCl ((xOut cJ o0 q2 :: (CW cI cE cG cM cS x0 q0 q1 qr (ms2, es2, gE2, gM2, gB2, gT2, gG2, gN2, gK2, gD2) κ2)) ++ (RS cI cJ cZ m0 a th (ms, es, gE, gM, gB, gT, gG, gN, gK, gD) (gH, gU, gF, gX, gW, gI, gP, gA, gR))) H := hP
  have hD : va_D (fun q : Nat => s.heap.size ≤ q) ((xOut cJ o0 q2 :: (CW cI cE cG cM cS x0 q0 q1 qr (ms2, es2, gE2, gM2, gB2, gT2, gG2, gN2, gK2, gD2) κ2)) ++ (RS cI cJ cZ m0 a th (ms, es, gE, gM, gB, gT, gG, gN, gK, gD) (gH, gU, gF, gX, gW, gI, gP, gA, gR))) := hD
  refine lv_istore (lv' := [(5, .int (jI ((k : Nat) : Int))), (4, .int (jI ((7 * i : Nat) : Int))), (0, .ref b), (1, .ref x0), (2, .ref m0), (3, .ref o0)]) hx hb dL_law_441 hl (by decide) rfl (fun ls hl => ?_)
  refine lv_aload_n hx hb dL_law_443 rfl (lv_at hl 4 rfl) ?_
  refine lv_aload_n hx hb dL_law_444 rfl (lv_at hl 2 rfl) ?_
  refine lv_iload hx hb dL_law_445 (lv_at hl 1 rfl) ?_
  refine n_iconst hx hb dL_law_447 ?_
  refine n_iadd hx hb dL_law_448 ?_
  refine s_ld (i := 7 * i + 1) hx hb hX hbl hbA hS (by omega) (by omega) hL ez1 dL_law_449 ?_
  have hP : va_P D vwCl ((RS cI cJ cZ m0 a th (ms, es, gE, gM, gB, gT, gG, gN, gK, gD) (gH, gU, gF, gX, gW, gI, gP, gA, gR)) ++ (xOut cJ o0 q2 :: (CW cI cE cG cM cS x0 q0 q1 qr (ms2, es2, gE2, gM2, gB2, gT2, gG2, gN2, gK2, gD2) κ2))) H := hP.perm (List.perm_append_comm (l₁ := (xOut cJ o0 q2 :: (CW cI cE cG cM cS x0 q0 q1 qr (ms2, es2, gE2, gM2, gB2, gT2, gG2, gN2, gK2, gD2) κ2))) (l₂ := (RS cI cJ cZ m0 a th (ms, es, gE, gM, gB, gT, gG, gN, gK, gD) (gH, gU, gF, gX, gW, gI, gP, gA, gR))))
  have hD : va_D (fun q : Nat => s.heap.size ≤ q) ((RS cI cJ cZ m0 a th (ms, es, gE, gM, gB, gT, gG, gN, gK, gD) (gH, gU, gF, gX, gW, gI, gP, gA, gR)) ++ (xOut cJ o0 q2 :: (CW cI cE cG cM cS x0 q0 q1 qr (ms2, es2, gE2, gM2, gB2, gT2, gG2, gN2, gK2, gD2) κ2))) := hD.perm (List.perm_append_comm (l₁ := (xOut cJ o0 q2 :: (CW cI cE cG cM cS x0 q0 q1 qr (ms2, es2, gE2, gM2, gB2, gT2, gG2, gN2, gK2, gD2) κ2))) (l₂ := (RS cI cJ cZ m0 a th (ms, es, gE, gM, gB, gT, gG, gN, gK, gD) (gH, gU, gF, gX, gW, gI, gP, gA, gR))))
  have ct := hR th (gH, gU, gF, gX, gW, gI, gP, gA, gR)
  refine a_goE (va_runV (As := [.int (jI z1)]) (rest := []) ⟨hx, hb, hml, hown, hts⟩ (ct.2 _) (cwV 1 hts gL_law_X7_predict rfl rfl rfl (by decide +kernel) ⟨(Nat.le_of_ble_eq_true rfl), (Nat.le_of_ble_eq_true rfl)⟩) ⟨(a_pre hK hP hD).1, va_recv hK.1 hP (ci := 7) (q0 := 0) rfl rfl, (a_pre hK hP hD).2⟩ rfl rfl hl.1 rfl (lv_room (Nat.le_of_ble_eq_true rfl)) dL_law_450 ⟨by show cells + 228 + 0 ≤ 601024; omega, by show slots + 867 + 0 ≤ 7293034; omega⟩) ct.1 hP hD hS hA (fun r c2 H locs hrv hP hD hS => ?_)
  obtain ⟨gH2, gU2, gF2, gX2, gW2, gI2, gP2, gA2, gR2⟩ := c2
  have hP : va_P D vwCl ((RS cI cJ cZ m0 a (jI ((k : Nat) : Int)) (ms2, es2, gE2, gM2, gB2, gT2, gG2, gN2, gK2, gD2) (gH2, gU2, gF2, gX2, gW2, gI2, gP2, gA2, gR2)) ++ (xOut cJ o0 q2 :: (CW cI cE cG cM cS x0 q0 q1 qr (ms2, es2, gE2, gM2, gB2, gT2, gG2, gN2, gK2, gD2) κ2))) H := hP
  have hD : va_D (fun q : Nat => s.heap.size ≤ q) ((RS cI cJ cZ m0 a (jI ((k : Nat) : Int)) (ms2, es2, gE2, gM2, gB2, gT2, gG2, gN2, gK2, gD2) (gH2, gU2, gF2, gX2, gW2, gI2, gP2, gA2, gR2)) ++ (xOut cJ o0 q2 :: (CW cI cE cG cM cS x0 q0 q1 qr (ms2, es2, gE2, gM2, gB2, gT2, gG2, gN2, gK2, gD2) κ2))) := hD
  subst hrv
  refine lv_istore (lv' := [(6, .int r), (5, .int (jI ((k : Nat) : Int))), (4, .int (jI ((7 * i : Nat) : Int))), (0, .ref b), (1, .ref x0), (2, .ref m0), (3, .ref o0)]) hx hb dL_law_453 hl (by decide) rfl (fun ls hl => ?_)
  refine lv_aload_n hx hb dL_law_455 rfl (lv_at hl 5 rfl) ?_
  have cq := c_X7_thrown l D tys m0 a ms2 es2 (jI ((k : Nat) : Int))
  refine k_goI (va_runV (As := []) (rest := []) ⟨hx, hb, hml, hown, hts⟩ (cq.2 _) (cwV 0 hts gL_law_X7_thrown rfl rfl rfl (by decide +kernel) ⟨(Nat.le_of_ble_eq_true rfl), (Nat.le_of_ble_eq_true rfl)⟩) ⟨(k_pre hK hP hD (is := [0]) rfl rfl).1, va_recv hK.1 hP (ci := 7) (q0 := 0) rfl rfl, (k_pre hK hP hD (is := [0]) rfl rfl).2⟩ rfl rfl hl.1 rfl (lv_room (Nat.le_of_ble_eq_true rfl)) dL_law_456 ⟨by show cells + 228 + 0 ≤ 601024; omega, by show slots + 867 + 0 ≤ 7293034; omega⟩) cq.1 hP hD hS hA [0] rfl rfl (fun H locs hP hD hS => ?_)
  have hP : va_P D vwCl ((RS cI cJ cZ m0 a (jI ((k : Nat) : Int)) (ms2, es2, gE2, gM2, gB2, gT2, gG2, gN2, gK2, gD2) (gH2, gU2, gF2, gX2, gW2, gI2, gP2, gA2, gR2)) ++ (xOut cJ o0 q2 :: (CW cI cE cG cM cS x0 q0 q1 qr (ms2, es2, gE2, gM2, gB2, gT2, gG2, gN2, gK2, gD2) κ2))) H := hP
  have hD : va_D (fun q : Nat => s.heap.size ≤ q) ((RS cI cJ cZ m0 a (jI ((k : Nat) : Int)) (ms2, es2, gE2, gM2, gB2, gT2, gG2, gN2, gK2, gD2) (gH2, gU2, gF2, gX2, gW2, gI2, gP2, gA2, gR2)) ++ (xOut cJ o0 q2 :: (CW cI cE cG cM cS x0 q0 q1 qr (ms2, es2, gE2, gM2, gB2, gT2, gG2, gN2, gK2, gD2) κ2))) := hD
  have hP : va_P D vwCl ((xOut cJ o0 q2 :: (CW cI cE cG cM cS x0 q0 q1 qr (ms2, es2, gE2, gM2, gB2, gT2, gG2, gN2, gK2, gD2) κ2)) ++ (RS cI cJ cZ m0 a (jI ((k : Nat) : Int)) (ms2, es2, gE2, gM2, gB2, gT2, gG2, gN2, gK2, gD2) (gH2, gU2, gF2, gX2, gW2, gI2, gP2, gA2, gR2))) H := hP.perm (List.perm_append_comm (l₁ := (RS cI cJ cZ m0 a (jI ((k : Nat) : Int)) (ms2, es2, gE2, gM2, gB2, gT2, gG2, gN2, gK2, gD2) (gH2, gU2, gF2, gX2, gW2, gI2, gP2, gA2, gR2))) (l₂ := (xOut cJ o0 q2 :: (CW cI cE cG cM cS x0 q0 q1 qr (ms2, es2, gE2, gM2, gB2, gT2, gG2, gN2, gK2, gD2) κ2))))
  have hD : va_D (fun q : Nat => s.heap.size ≤ q) ((xOut cJ o0 q2 :: (CW cI cE cG cM cS x0 q0 q1 qr (ms2, es2, gE2, gM2, gB2, gT2, gG2, gN2, gK2, gD2) κ2)) ++ (RS cI cJ cZ m0 a (jI ((k : Nat) : Int)) (ms2, es2, gE2, gM2, gB2, gT2, gG2, gN2, gK2, gD2) (gH2, gU2, gF2, gX2, gW2, gI2, gP2, gA2, gR2))) := hD.perm (List.perm_append_comm (l₁ := (RS cI cJ cZ m0 a (jI ((k : Nat) : Int)) (ms2, es2, gE2, gM2, gB2, gT2, gG2, gN2, gK2, gD2) (gH2, gU2, gF2, gX2, gW2, gI2, gP2, gA2, gR2))) (l₂ := (xOut cJ o0 q2 :: (CW cI cE cG cM cS x0 q0 q1 qr (ms2, es2, gE2, gM2, gB2, gT2, gG2, gN2, gK2, gD2) κ2))))
  refine lv_iload hx hb dL_law_459 (lv_at hl 1 rfl) ?_
  refine lv_icmp_eq (tgt := 466) hx hb dL_law_461 (by decide) (fun _ => ?_) (fun h9 => absurd rfl h9)
  refine lv_iload hx hb dL_law_466 (lv_at hl 1 rfl) ?_
  refine n_if_ne (tgt := 483) hx hb (by unfold r32; omega) dL_law_468 (by decide) (fun h0 => ?_) (fun h0 => ?_)
  · refine lv_goto (tgt := 1384) hx hb dL_law_483 (by decide) ?_
    exact kk (ms2, es2, gE2, gM2, gB2, gT2, gG2, gN2, gK2, gD2) κ2 (jI ((k : Nat) : Int)) (gH2, gU2, gF2, gX2, gW2, gI2, gP2, gA2, gR2) q2 H locs ls hI2 hP hD hS (lv_sub hl [2, 3, 4, 5, 6] rfl)
  · obtain ⟨hv1, hv2⟩ := hv (by omega)
    have hv1 : jI (q2 0) = r := hv1
    have hv2 : r32 (q2 0) := hv2
    subst hv1
    refine lv_aload_n hx hb dL_law_471 rfl (lv_at hl 6 rfl) ?_
    refine n_iconst hx hb dL_law_472 ?_
    refine n_lald (i := 0) hx hb hK hP 0 1 rfl htJ rfl (Nat.le_of_ble_eq_true rfl) (Nat.le_of_ble_eq_true rfl) dL_law_473 ?_
    refine lv_iload hx hb dL_law_474 (lv_at hl 0 rfl) ?_
    refine n_i2l hx hb dL_law_476 hv2.1 hv2.2 ?_
    refine W.lcmp hx hb dL_law_477 ?_
    refine n_lif_eq (tgt := 483) hx hb (by have := hv2.1; have := hv2.2; unfold r64; omega) (by have := hv2.1; have := hv2.2; unfold r64; omega) dL_law_478 (by decide) (fun _ => ?_) (fun h9 => absurd rfl h9)
    refine lv_goto (tgt := 1384) hx hb dL_law_483 (by decide) ?_
    exact kk (ms2, es2, gE2, gM2, gB2, gT2, gG2, gN2, gK2, gD2) κ2 (jI ((k : Nat) : Int)) (gH2, gU2, gF2, gX2, gW2, gI2, gP2, gA2, gR2) q2 H locs ls hI2 hP hD hS (lv_sub hl [2, 3, 4, 5, 6] rfl)

set_option maxHeartbeats 16000000 in
set_option maxRecDepth 100000 in
/--  -/
theorem ls_measure {p : Program} {e : Env} {s : State} {m : MethodId} {below : List Frame} {meth : Method} {c : Code} (l : Launch) (hl9 : l.stackTraces = false) (D : va_G) (tys : List (ClassId × FieldType)) {cI cJ cZ cE cG cM cS : ClassId} (htI : tys[0]? = some (cI, .int)) (htJ : tys[1]? = some (cJ, .long)) (htZ : tys[2]? = some (cZ, .boolean)) (htE : tys[3]? = some (cE, .object RX1)) (htM : tys[4]? = some (cM, .object RX2)) (htS : tys[5]? = some (cS, .object RX4)) (htG : tys[6]? = some (cG, .array .int)) {b L : Nat} {xs : Nat → Int32} (C0 : LX p s m c b L xs) (hK : KK D tys s) (hXK : XK s) (hZ : XZ (fun q : Nat => s.heap.size ≤ q) s s.heap) (hN : XN s) (m0 : Nat) (a : Nat → Nat) (x0 q0 q1 : Nat) (qr : Nat → Nat) (o0 : Nat) (ms es : Nat) (gE gM gB : Nat → Zp) (gT : Nat → Nat) (gG : Nat → Zp) (gN : Nat → Nat) (gK : Nat → Zp) (gD : Nat → Bool) (κ : Nat → EG) (hI : INV (ms, es, gE, gM, gB, gT, gG, gN, gK, gD) κ) (th : Int32) (c9 : KR) (q : Nat → Int) {H : Heap} {locs : List Loc} {cells slots : Nat} {Q : State → Prop} {ls : Array Slot} {i : Nat} (hi : 7 * i + 7 ≤ L) (hP : va_P D vwCl ((xOut cJ o0 q :: (CW cI cE cG cM cS x0 q0 q1 qr (ms, es, gE, gM, gB, gT, gG, gN, gK, gD) κ)) ++ (RS cI cJ cZ m0 a th (ms, es, gE, gM, gB, gT, gG, gN, gK, gD) c9)) H) (hD : va_D (fun q : Nat => s.heap.size ≤ q) ((xOut cJ o0 q :: (CW cI cE cG cM cS x0 q0 q1 qr (ms, es, gE, gM, gB, gT, gG, gN, gK, gD) κ)) ++ (RS cI cJ cZ m0 a th (ms, es, gE, gM, gB, gT, gG, gN, gK, gD) c9))) (hS : va_S (fun q : Nat => s.heap.size ≤ q) s.heap H locs) (hl : lv_has ls 7 [(4, .int (jI ((7 * i : Nat) : Int))), (0, .ref b), (1, .ref x0), (2, .ref m0), (3, .ref o0)]) (hc : cells + 228 ≤ 601024) (hs : slots + 867 ≤ 7293034)
    (kk : ∀ (g2 : SG) (κ2 : Nat → EG) (th2 : Int32) (c2 : KR) (q2 : Nat → Int) (H1 : Heap) (locs1 : List Loc) (ls1 : Array Slot), INV g2 κ2 → va_P D vwCl ((xOut cJ o0 q2 :: (CW cI cE cG cM cS x0 q0 q1 qr g2 κ2)) ++ (RS cI cJ cZ m0 a th2 g2 c2)) H1 → va_D (fun q : Nat => s.heap.size ≤ q) ((xOut cJ o0 q2 :: (CW cI cE cG cM cS x0 q0 q1 qr g2 κ2)) ++ (RS cI cJ cZ m0 a th2 g2 c2)) → va_S (fun q : Nat => s.heap.size ≤ q) s.heap H1 locs1 → lv_has ls1 7 [(4, .int (jI ((7 * i : Nat) : Int))), (0, .ref b), (1, .ref x0), (2, .ref m0), (3, .ref o0)] → W p l e room_1 s m #[Value.ref b] below meth c H1 locs1 (cells + 228) (slots + 867) Q (F0 m 1384 ls1 [])) : W p l e room_1 s m #[Value.ref b] below meth c H locs cells slots Q (F0 m 486 ls []) := by
  obtain ⟨hx, hb, hml, hown, hts, hX, hbl, hL⟩ := C0
  have hA : ∀ q : Nat, s.heap.size ≤ q → (fun q : Nat => s.heap.size ≤ q) q := fun _ h => h
  have hbA : ¬ (fun q : Nat => s.heap.size ≤ q) b := Nat.not_le.mpr hbl
  obtain ⟨z1, ez1, r1⟩ := i32_j (xs (7 * i + 1))
  obtain ⟨z2, ez2, r2⟩ := i32_j (xs (7 * i + 2))
  obtain ⟨z3, ez3, r3⟩ := i32_j (xs (7 * i + 3))
  obtain ⟨z4, ez4, r4⟩ := i32_j (xs (7 * i + 4))
  obtain ⟨z5, ez5, r5⟩ := i32_j (xs (7 * i + 5))
  obtain ⟨gH, gU, gF, gX, gW, gI, gP, gA, gR⟩ := c9
  obtain ⟨k, v, ⟨ms2, es2, gE2, gM2, gB2, gT2, gG2, gN2, gK2, gD2⟩, ⟨hk4, hR⟩, hC⟩ := st_measure l hl9 D tys htI htJ htZ htE htM htS htG m0 a x0 q0 q1 qr ms es gE gM gB gT gG gN gK gD κ hI z1 z2 z3 z4 z5 r1 r2 r3 r4 r5
  have hW := w_measure l D tys htJ x0 q0 q1 qr ms es gE gM gB gT gG gN gK gD κ (jI z1) (jI z2) (jI z3) (jI z4) (jI z5) (ms2, es2, gE2, gM2, gB2, gT2, gG2, gN2, gK2, gD2) k v hC o0 q
  refine lv_aload_n hx hb dL_law_486 rfl (lv_at hl 2 rfl) ?_
  refine lv_aload_n hx hb dL_law_487 rfl (lv_at hl 1 rfl) ?_
  refine lv_iload hx hb dL_law_488 (lv_at hl 0 rfl) ?_
  refine n_iconst hx hb dL_law_490 ?_
  refine n_iadd hx hb dL_law_491 ?_
  refine s_ld (i := 7 * i + 1) hx hb hX hbl hbA hS (by omega) (by omega) hL ez1 dL_law_492 ?_
  refine lv_aload_n hx hb dL_law_493 rfl (lv_at hl 1 rfl) ?_
  refine lv_iload hx hb dL_law_494 (lv_at hl 0 rfl) ?_
  refine n_iconst hx hb dL_law_496 ?_
  refine n_iadd hx hb dL_law_497 ?_
  refine s_ld (i := 7 * i + 2) hx hb hX hbl hbA hS (by omega) (by omega) hL ez2 dL_law_498 ?_
  refine lv_aload_n hx hb dL_law_499 rfl (lv_at hl 1 rfl) ?_
  refine lv_iload hx hb dL_law_500 (lv_at hl 0 rfl) ?_
  refine n_iconst hx hb dL_law_502 ?_
  refine n_iadd hx hb dL_law_503 ?_
  refine s_ld (i := 7 * i + 3) hx hb hX hbl hbA hS (by omega) (by omega) hL ez3 dL_law_504 ?_
  refine lv_aload_n hx hb dL_law_505 rfl (lv_at hl 1 rfl) ?_
  refine lv_iload hx hb dL_law_506 (lv_at hl 0 rfl) ?_
  refine n_iconst hx hb dL_law_508 ?_
  refine n_iadd hx hb dL_law_509 ?_
  refine s_ld (i := 7 * i + 4) hx hb hX hbl hbA hS (by omega) (by omega) hL ez4 dL_law_510 ?_
  refine lv_aload_n hx hb dL_law_511 rfl (lv_at hl 1 rfl) ?_
  refine lv_iload hx hb dL_law_512 (lv_at hl 0 rfl) ?_
  refine n_iconst hx hb dL_law_514 ?_
  refine n_iadd hx hb dL_law_515 ?_
  refine s_ld (i := 7 * i + 5) hx hb hX hbl hbA hS (by omega) (by omega) hL ez5 dL_law_516 ?_
  refine lv_aload_n hx hb dL_law_517 rfl (lv_at hl 4 rfl) ?_
  refine a_goNI (vx_runSW (As := [.ref x0, .int (jI z1), .int (jI z2), .int (jI z3), .int (jI z4), .int (jI z5), .ref o0]) (rest := []) ⟨hx, hb, hml, hown, hts⟩ (hW _) (vx_cwSW 7 hts gL_law_L_measure rfl rfl rfl (by decide +kernel) ⟨(Nat.le_of_ble_eq_true rfl), (Nat.le_of_ble_eq_true rfl)⟩) (c_pre hK hXK hZ hN hP hD hS hA) rfl rfl hl.1 rfl (lv_room (Nat.le_of_ble_eq_true rfl)) dL_law_518 ⟨hc, hs⟩) hP hD hS hA (fun r u H locs hpost hP hD hS => ?_)
  obtain ⟨κ2, q2⟩ := u
  obtain ⟨hr9, hI2, hv⟩ := hpost
  subst hr9
  have hP : va_P D vwCl ((xOut cJ o0 q2 :: (CW cI cE cG cM cS x0 q0 q1 qr (ms2, es2, gE2, gM2, gB2, gT2, gG2, gN2, gK2, gD2) κ2)) ++ (RS cI cJ cZ m0 a th (ms, es, gE, gM, gB, gT, gG, gN, gK, gD) (gH, gU, gF, gX, gW, gI, gP, gA, gR))) H := hP
  have hD : va_D (fun q : Nat => s.heap.size ≤ q) ((xOut cJ o0 q2 :: (CW cI cE cG cM cS x0 q0 q1 qr (ms2, es2, gE2, gM2, gB2, gT2, gG2, gN2, gK2, gD2) κ2)) ++ (RS cI cJ cZ m0 a th (ms, es, gE, gM, gB, gT, gG, gN, gK, gD) (gH, gU, gF, gX, gW, gI, gP, gA, gR))) := hD
  refine lv_istore (lv' := [(5, .int (jI ((k : Nat) : Int))), (4, .int (jI ((7 * i : Nat) : Int))), (0, .ref b), (1, .ref x0), (2, .ref m0), (3, .ref o0)]) hx hb dL_law_521 hl (by decide) rfl (fun ls hl => ?_)
  refine lv_aload_n hx hb dL_law_523 rfl (lv_at hl 4 rfl) ?_
  refine lv_aload_n hx hb dL_law_524 rfl (lv_at hl 2 rfl) ?_
  refine lv_iload hx hb dL_law_525 (lv_at hl 1 rfl) ?_
  refine n_iconst hx hb dL_law_527 ?_
  refine n_iadd hx hb dL_law_528 ?_
  refine s_ld (i := 7 * i + 1) hx hb hX hbl hbA hS (by omega) (by omega) hL ez1 dL_law_529 ?_
  refine lv_aload_n hx hb dL_law_530 rfl (lv_at hl 2 rfl) ?_
  refine lv_iload hx hb dL_law_531 (lv_at hl 1 rfl) ?_
  refine n_iconst hx hb dL_law_533 ?_
  refine n_iadd hx hb dL_law_534 ?_
  refine s_ld (i := 7 * i + 2) hx hb hX hbl hbA hS (by omega) (by omega) hL ez2 dL_law_535 ?_
  refine lv_aload_n hx hb dL_law_536 rfl (lv_at hl 2 rfl) ?_
  refine lv_iload hx hb dL_law_537 (lv_at hl 1 rfl) ?_
  refine n_iconst hx hb dL_law_539 ?_
  refine n_iadd hx hb dL_law_540 ?_
  refine s_ld (i := 7 * i + 3) hx hb hX hbl hbA hS (by omega) (by omega) hL ez3 dL_law_541 ?_
  refine lv_aload_n hx hb dL_law_542 rfl (lv_at hl 2 rfl) ?_
  refine lv_iload hx hb dL_law_543 (lv_at hl 1 rfl) ?_
  refine n_iconst hx hb dL_law_545 ?_
  refine n_iadd hx hb dL_law_546 ?_
  refine s_ld (i := 7 * i + 4) hx hb hX hbl hbA hS (by omega) (by omega) hL ez4 dL_law_547 ?_
  refine lv_aload_n hx hb dL_law_548 rfl (lv_at hl 2 rfl) ?_
  refine lv_iload hx hb dL_law_549 (lv_at hl 1 rfl) ?_
  refine n_iconst hx hb dL_law_551 ?_
  refine n_iadd hx hb dL_law_552 ?_
  refine s_ld (i := 7 * i + 5) hx hb hX hbl hbA hS (by omega) (by omega) hL ez5 dL_law_553 ?_
  have hP : va_P D vwCl ((RS cI cJ cZ m0 a th (ms, es, gE, gM, gB, gT, gG, gN, gK, gD) (gH, gU, gF, gX, gW, gI, gP, gA, gR)) ++ (xOut cJ o0 q2 :: (CW cI cE cG cM cS x0 q0 q1 qr (ms2, es2, gE2, gM2, gB2, gT2, gG2, gN2, gK2, gD2) κ2))) H := hP.perm (List.perm_append_comm (l₁ := (xOut cJ o0 q2 :: (CW cI cE cG cM cS x0 q0 q1 qr (ms2, es2, gE2, gM2, gB2, gT2, gG2, gN2, gK2, gD2) κ2))) (l₂ := (RS cI cJ cZ m0 a th (ms, es, gE, gM, gB, gT, gG, gN, gK, gD) (gH, gU, gF, gX, gW, gI, gP, gA, gR))))
  have hD : va_D (fun q : Nat => s.heap.size ≤ q) ((RS cI cJ cZ m0 a th (ms, es, gE, gM, gB, gT, gG, gN, gK, gD) (gH, gU, gF, gX, gW, gI, gP, gA, gR)) ++ (xOut cJ o0 q2 :: (CW cI cE cG cM cS x0 q0 q1 qr (ms2, es2, gE2, gM2, gB2, gT2, gG2, gN2, gK2, gD2) κ2))) := hD.perm (List.perm_append_comm (l₁ := (xOut cJ o0 q2 :: (CW cI cE cG cM cS x0 q0 q1 qr (ms2, es2, gE2, gM2, gB2, gT2, gG2, gN2, gK2, gD2) κ2))) (l₂ := (RS cI cJ cZ m0 a th (ms, es, gE, gM, gB, gT, gG, gN, gK, gD) (gH, gU, gF, gX, gW, gI, gP, gA, gR))))
  have ct := hR th (gH, gU, gF, gX, gW, gI, gP, gA, gR)
  refine a_goE (va_runV (As := [.int (jI z1), .int (jI z2), .int (jI z3), .int (jI z4), .int (jI z5)]) (rest := []) ⟨hx, hb, hml, hown, hts⟩ (ct.2 _) (cwV 5 hts gL_law_X7_measure rfl rfl rfl (by decide +kernel) ⟨(Nat.le_of_ble_eq_true rfl), (Nat.le_of_ble_eq_true rfl)⟩) ⟨(a_pre hK hP hD).1, va_recv hK.1 hP (ci := 7) (q0 := 0) rfl rfl, (a_pre hK hP hD).2⟩ rfl rfl hl.1 rfl (lv_room (Nat.le_of_ble_eq_true rfl)) dL_law_554 ⟨by show cells + 228 + 0 ≤ 601024; omega, by show slots + 867 + 0 ≤ 7293034; omega⟩) ct.1 hP hD hS hA (fun r c2 H locs hrv hP hD hS => ?_)
  obtain ⟨gH2, gU2, gF2, gX2, gW2, gI2, gP2, gA2, gR2⟩ := c2
  have hP : va_P D vwCl ((RS cI cJ cZ m0 a (jI ((k : Nat) : Int)) (ms2, es2, gE2, gM2, gB2, gT2, gG2, gN2, gK2, gD2) (gH2, gU2, gF2, gX2, gW2, gI2, gP2, gA2, gR2)) ++ (xOut cJ o0 q2 :: (CW cI cE cG cM cS x0 q0 q1 qr (ms2, es2, gE2, gM2, gB2, gT2, gG2, gN2, gK2, gD2) κ2))) H := hP
  have hD : va_D (fun q : Nat => s.heap.size ≤ q) ((RS cI cJ cZ m0 a (jI ((k : Nat) : Int)) (ms2, es2, gE2, gM2, gB2, gT2, gG2, gN2, gK2, gD2) (gH2, gU2, gF2, gX2, gW2, gI2, gP2, gA2, gR2)) ++ (xOut cJ o0 q2 :: (CW cI cE cG cM cS x0 q0 q1 qr (ms2, es2, gE2, gM2, gB2, gT2, gG2, gN2, gK2, gD2) κ2))) := hD
  subst hrv
  refine lv_istore (lv' := [(6, .int r), (5, .int (jI ((k : Nat) : Int))), (4, .int (jI ((7 * i : Nat) : Int))), (0, .ref b), (1, .ref x0), (2, .ref m0), (3, .ref o0)]) hx hb dL_law_557 hl (by decide) rfl (fun ls hl => ?_)
  refine lv_aload_n hx hb dL_law_559 rfl (lv_at hl 5 rfl) ?_
  have cq := c_X7_thrown l D tys m0 a ms2 es2 (jI ((k : Nat) : Int))
  refine k_goI (va_runV (As := []) (rest := []) ⟨hx, hb, hml, hown, hts⟩ (cq.2 _) (cwV 0 hts gL_law_X7_thrown rfl rfl rfl (by decide +kernel) ⟨(Nat.le_of_ble_eq_true rfl), (Nat.le_of_ble_eq_true rfl)⟩) ⟨(k_pre hK hP hD (is := [0]) rfl rfl).1, va_recv hK.1 hP (ci := 7) (q0 := 0) rfl rfl, (k_pre hK hP hD (is := [0]) rfl rfl).2⟩ rfl rfl hl.1 rfl (lv_room (Nat.le_of_ble_eq_true rfl)) dL_law_560 ⟨by show cells + 228 + 0 ≤ 601024; omega, by show slots + 867 + 0 ≤ 7293034; omega⟩) cq.1 hP hD hS hA [0] rfl rfl (fun H locs hP hD hS => ?_)
  have hP : va_P D vwCl ((RS cI cJ cZ m0 a (jI ((k : Nat) : Int)) (ms2, es2, gE2, gM2, gB2, gT2, gG2, gN2, gK2, gD2) (gH2, gU2, gF2, gX2, gW2, gI2, gP2, gA2, gR2)) ++ (xOut cJ o0 q2 :: (CW cI cE cG cM cS x0 q0 q1 qr (ms2, es2, gE2, gM2, gB2, gT2, gG2, gN2, gK2, gD2) κ2))) H := hP
  have hD : va_D (fun q : Nat => s.heap.size ≤ q) ((RS cI cJ cZ m0 a (jI ((k : Nat) : Int)) (ms2, es2, gE2, gM2, gB2, gT2, gG2, gN2, gK2, gD2) (gH2, gU2, gF2, gX2, gW2, gI2, gP2, gA2, gR2)) ++ (xOut cJ o0 q2 :: (CW cI cE cG cM cS x0 q0 q1 qr (ms2, es2, gE2, gM2, gB2, gT2, gG2, gN2, gK2, gD2) κ2))) := hD
  have hP : va_P D vwCl ((xOut cJ o0 q2 :: (CW cI cE cG cM cS x0 q0 q1 qr (ms2, es2, gE2, gM2, gB2, gT2, gG2, gN2, gK2, gD2) κ2)) ++ (RS cI cJ cZ m0 a (jI ((k : Nat) : Int)) (ms2, es2, gE2, gM2, gB2, gT2, gG2, gN2, gK2, gD2) (gH2, gU2, gF2, gX2, gW2, gI2, gP2, gA2, gR2))) H := hP.perm (List.perm_append_comm (l₁ := (RS cI cJ cZ m0 a (jI ((k : Nat) : Int)) (ms2, es2, gE2, gM2, gB2, gT2, gG2, gN2, gK2, gD2) (gH2, gU2, gF2, gX2, gW2, gI2, gP2, gA2, gR2))) (l₂ := (xOut cJ o0 q2 :: (CW cI cE cG cM cS x0 q0 q1 qr (ms2, es2, gE2, gM2, gB2, gT2, gG2, gN2, gK2, gD2) κ2))))
  have hD : va_D (fun q : Nat => s.heap.size ≤ q) ((xOut cJ o0 q2 :: (CW cI cE cG cM cS x0 q0 q1 qr (ms2, es2, gE2, gM2, gB2, gT2, gG2, gN2, gK2, gD2) κ2)) ++ (RS cI cJ cZ m0 a (jI ((k : Nat) : Int)) (ms2, es2, gE2, gM2, gB2, gT2, gG2, gN2, gK2, gD2) (gH2, gU2, gF2, gX2, gW2, gI2, gP2, gA2, gR2))) := hD.perm (List.perm_append_comm (l₁ := (RS cI cJ cZ m0 a (jI ((k : Nat) : Int)) (ms2, es2, gE2, gM2, gB2, gT2, gG2, gN2, gK2, gD2) (gH2, gU2, gF2, gX2, gW2, gI2, gP2, gA2, gR2))) (l₂ := (xOut cJ o0 q2 :: (CW cI cE cG cM cS x0 q0 q1 qr (ms2, es2, gE2, gM2, gB2, gT2, gG2, gN2, gK2, gD2) κ2))))
  refine lv_iload hx hb dL_law_563 (lv_at hl 1 rfl) ?_
  refine lv_icmp_eq (tgt := 570) hx hb dL_law_565 (by decide) (fun _ => ?_) (fun h9 => absurd rfl h9)
  refine lv_iload hx hb dL_law_570 (lv_at hl 1 rfl) ?_
  refine n_if_ne (tgt := 587) hx hb (by unfold r32; omega) dL_law_572 (by decide) (fun h0 => ?_) (fun h0 => ?_)
  · refine lv_goto (tgt := 1384) hx hb dL_law_587 (by decide) ?_
    exact kk (ms2, es2, gE2, gM2, gB2, gT2, gG2, gN2, gK2, gD2) κ2 (jI ((k : Nat) : Int)) (gH2, gU2, gF2, gX2, gW2, gI2, gP2, gA2, gR2) q2 H locs ls hI2 hP hD hS (lv_sub hl [2, 3, 4, 5, 6] rfl)
  · obtain ⟨hv1, hv2⟩ := hv (by omega)
    have hv1 : jI (q2 0) = r := hv1
    have hv2 : r32 (q2 0) := hv2
    subst hv1
    refine lv_aload_n hx hb dL_law_575 rfl (lv_at hl 6 rfl) ?_
    refine n_iconst hx hb dL_law_576 ?_
    refine n_lald (i := 0) hx hb hK hP 0 1 rfl htJ rfl (Nat.le_of_ble_eq_true rfl) (Nat.le_of_ble_eq_true rfl) dL_law_577 ?_
    refine lv_iload hx hb dL_law_578 (lv_at hl 0 rfl) ?_
    refine n_i2l hx hb dL_law_580 hv2.1 hv2.2 ?_
    refine W.lcmp hx hb dL_law_581 ?_
    refine n_lif_eq (tgt := 587) hx hb (by have := hv2.1; have := hv2.2; unfold r64; omega) (by have := hv2.1; have := hv2.2; unfold r64; omega) dL_law_582 (by decide) (fun _ => ?_) (fun h9 => absurd rfl h9)
    refine lv_goto (tgt := 1384) hx hb dL_law_587 (by decide) ?_
    exact kk (ms2, es2, gE2, gM2, gB2, gT2, gG2, gN2, gK2, gD2) κ2 (jI ((k : Nat) : Int)) (gH2, gU2, gF2, gX2, gW2, gI2, gP2, gA2, gR2) q2 H locs ls hI2 hP hD hS (lv_sub hl [2, 3, 4, 5, 6] rfl)

set_option maxHeartbeats 16000000 in
set_option maxRecDepth 100000 in
/--  -/
theorem ls_late {p : Program} {e : Env} {s : State} {m : MethodId} {below : List Frame} {meth : Method} {c : Code} (l : Launch) (hl9 : l.stackTraces = false) (D : va_G) (tys : List (ClassId × FieldType)) {cI cJ cZ cE cG cM cS : ClassId} (htI : tys[0]? = some (cI, .int)) (htJ : tys[1]? = some (cJ, .long)) (htZ : tys[2]? = some (cZ, .boolean)) (htE : tys[3]? = some (cE, .object RX1)) (htM : tys[4]? = some (cM, .object RX2)) (htS : tys[5]? = some (cS, .object RX4)) (htG : tys[6]? = some (cG, .array .int)) {b L : Nat} {xs : Nat → Int32} (C0 : LX p s m c b L xs) (hK : KK D tys s) (hXK : XK s) (hZ : XZ (fun q : Nat => s.heap.size ≤ q) s s.heap) (hN : XN s) (m0 : Nat) (a : Nat → Nat) (x0 q0 q1 : Nat) (qr : Nat → Nat) (o0 : Nat) (ms es : Nat) (gE gM gB : Nat → Zp) (gT : Nat → Nat) (gG : Nat → Zp) (gN : Nat → Nat) (gK : Nat → Zp) (gD : Nat → Bool) (κ : Nat → EG) (hI : INV (ms, es, gE, gM, gB, gT, gG, gN, gK, gD) κ) (th : Int32) (c9 : KR) (q : Nat → Int) {H : Heap} {locs : List Loc} {cells slots : Nat} {Q : State → Prop} {ls : Array Slot} {i : Nat} (hi : 7 * i + 7 ≤ L) (hP : va_P D vwCl ((xOut cJ o0 q :: (CW cI cE cG cM cS x0 q0 q1 qr (ms, es, gE, gM, gB, gT, gG, gN, gK, gD) κ)) ++ (RS cI cJ cZ m0 a th (ms, es, gE, gM, gB, gT, gG, gN, gK, gD) c9)) H) (hD : va_D (fun q : Nat => s.heap.size ≤ q) ((xOut cJ o0 q :: (CW cI cE cG cM cS x0 q0 q1 qr (ms, es, gE, gM, gB, gT, gG, gN, gK, gD) κ)) ++ (RS cI cJ cZ m0 a th (ms, es, gE, gM, gB, gT, gG, gN, gK, gD) c9))) (hS : va_S (fun q : Nat => s.heap.size ≤ q) s.heap H locs) (hl : lv_has ls 7 [(4, .int (jI ((7 * i : Nat) : Int))), (0, .ref b), (1, .ref x0), (2, .ref m0), (3, .ref o0)]) (hc : cells + 228 ≤ 601024) (hs : slots + 867 ≤ 7293034)
    (kk : ∀ (g2 : SG) (κ2 : Nat → EG) (th2 : Int32) (c2 : KR) (q2 : Nat → Int) (H1 : Heap) (locs1 : List Loc) (ls1 : Array Slot), INV g2 κ2 → va_P D vwCl ((xOut cJ o0 q2 :: (CW cI cE cG cM cS x0 q0 q1 qr g2 κ2)) ++ (RS cI cJ cZ m0 a th2 g2 c2)) H1 → va_D (fun q : Nat => s.heap.size ≤ q) ((xOut cJ o0 q2 :: (CW cI cE cG cM cS x0 q0 q1 qr g2 κ2)) ++ (RS cI cJ cZ m0 a th2 g2 c2)) → va_S (fun q : Nat => s.heap.size ≤ q) s.heap H1 locs1 → lv_has ls1 7 [(4, .int (jI ((7 * i : Nat) : Int))), (0, .ref b), (1, .ref x0), (2, .ref m0), (3, .ref o0)] → W p l e room_1 s m #[Value.ref b] below meth c H1 locs1 (cells + 228) (slots + 867) Q (F0 m 1384 ls1 [])) : W p l e room_1 s m #[Value.ref b] below meth c H locs cells slots Q (F0 m 590 ls []) := by
  obtain ⟨hx, hb, hml, hown, hts, hX, hbl, hL⟩ := C0
  have hA : ∀ q : Nat, s.heap.size ≤ q → (fun q : Nat => s.heap.size ≤ q) q := fun _ h => h
  have hbA : ¬ (fun q : Nat => s.heap.size ≤ q) b := Nat.not_le.mpr hbl
  obtain ⟨z1, ez1, r1⟩ := i32_j (xs (7 * i + 1))
  obtain ⟨z2, ez2, r2⟩ := i32_j (xs (7 * i + 2))
  obtain ⟨z3, ez3, r3⟩ := i32_j (xs (7 * i + 3))
  obtain ⟨z4, ez4, r4⟩ := i32_j (xs (7 * i + 4))
  obtain ⟨z5, ez5, r5⟩ := i32_j (xs (7 * i + 5))
  obtain ⟨z6, ez6, r6⟩ := i32_j (xs (7 * i + 6))
  obtain ⟨gH, gU, gF, gX, gW, gI, gP, gA, gR⟩ := c9
  obtain ⟨k, v, ⟨ms2, es2, gE2, gM2, gB2, gT2, gG2, gN2, gK2, gD2⟩, ⟨hk4, hR⟩, hC⟩ := st_late l hl9 D tys htI htJ htZ htE htM htS htG m0 a x0 q0 q1 qr ms es gE gM gB gT gG gN gK gD κ hI z1 z2 z3 z4 z5 z6 r1 r2 r3 r4 r5 r6
  have hW := w_late l D tys htJ x0 q0 q1 qr ms es gE gM gB gT gG gN gK gD κ (jI z1) (jI z2) (jI z3) (jI z4) (jI z5) (jI z6) (ms2, es2, gE2, gM2, gB2, gT2, gG2, gN2, gK2, gD2) k v hC o0 q
  refine lv_aload_n hx hb dL_law_590 rfl (lv_at hl 2 rfl) ?_
  refine lv_aload_n hx hb dL_law_591 rfl (lv_at hl 1 rfl) ?_
  refine lv_iload hx hb dL_law_592 (lv_at hl 0 rfl) ?_
  refine n_iconst hx hb dL_law_594 ?_
  refine n_iadd hx hb dL_law_595 ?_
  refine s_ld (i := 7 * i + 1) hx hb hX hbl hbA hS (by omega) (by omega) hL ez1 dL_law_596 ?_
  refine lv_aload_n hx hb dL_law_597 rfl (lv_at hl 1 rfl) ?_
  refine lv_iload hx hb dL_law_598 (lv_at hl 0 rfl) ?_
  refine n_iconst hx hb dL_law_600 ?_
  refine n_iadd hx hb dL_law_601 ?_
  refine s_ld (i := 7 * i + 2) hx hb hX hbl hbA hS (by omega) (by omega) hL ez2 dL_law_602 ?_
  refine lv_aload_n hx hb dL_law_603 rfl (lv_at hl 1 rfl) ?_
  refine lv_iload hx hb dL_law_604 (lv_at hl 0 rfl) ?_
  refine n_iconst hx hb dL_law_606 ?_
  refine n_iadd hx hb dL_law_607 ?_
  refine s_ld (i := 7 * i + 3) hx hb hX hbl hbA hS (by omega) (by omega) hL ez3 dL_law_608 ?_
  refine lv_aload_n hx hb dL_law_609 rfl (lv_at hl 1 rfl) ?_
  refine lv_iload hx hb dL_law_610 (lv_at hl 0 rfl) ?_
  refine n_iconst hx hb dL_law_612 ?_
  refine n_iadd hx hb dL_law_613 ?_
  refine s_ld (i := 7 * i + 4) hx hb hX hbl hbA hS (by omega) (by omega) hL ez4 dL_law_614 ?_
  refine lv_aload_n hx hb dL_law_615 rfl (lv_at hl 1 rfl) ?_
  refine lv_iload hx hb dL_law_616 (lv_at hl 0 rfl) ?_
  refine n_iconst hx hb dL_law_618 ?_
  refine n_iadd hx hb dL_law_619 ?_
  refine s_ld (i := 7 * i + 5) hx hb hX hbl hbA hS (by omega) (by omega) hL ez5 dL_law_620 ?_
  refine lv_aload_n hx hb dL_law_621 rfl (lv_at hl 1 rfl) ?_
  refine lv_iload hx hb dL_law_622 (lv_at hl 0 rfl) ?_
  refine n_bipush hx hb dL_law_624 (by decide) ?_
  refine n_iadd hx hb dL_law_626 ?_
  refine s_ld (i := 7 * i + 6) hx hb hX hbl hbA hS (by omega) (by omega) hL ez6 dL_law_627 ?_
  refine lv_aload_n hx hb dL_law_628 rfl (lv_at hl 4 rfl) ?_
  refine a_goNI (vx_runSW (As := [.ref x0, .int (jI z1), .int (jI z2), .int (jI z3), .int (jI z4), .int (jI z5), .int (jI z6), .ref o0]) (rest := []) ⟨hx, hb, hml, hown, hts⟩ (hW _) (vx_cwSW 8 hts gL_law_L_late rfl rfl rfl (by decide +kernel) ⟨(Nat.le_of_ble_eq_true rfl), (Nat.le_of_ble_eq_true rfl)⟩) (c_pre hK hXK hZ hN hP hD hS hA) rfl rfl hl.1 rfl (lv_room (Nat.le_of_ble_eq_true rfl)) dL_law_629 ⟨hc, hs⟩) hP hD hS hA (fun r u H locs hpost hP hD hS => ?_)
  obtain ⟨κ2, q2⟩ := u
  obtain ⟨hr9, hI2, hv⟩ := hpost
  subst hr9
  have hP : va_P D vwCl ((xOut cJ o0 q2 :: (CW cI cE cG cM cS x0 q0 q1 qr (ms2, es2, gE2, gM2, gB2, gT2, gG2, gN2, gK2, gD2) κ2)) ++ (RS cI cJ cZ m0 a th (ms, es, gE, gM, gB, gT, gG, gN, gK, gD) (gH, gU, gF, gX, gW, gI, gP, gA, gR))) H := hP
  have hD : va_D (fun q : Nat => s.heap.size ≤ q) ((xOut cJ o0 q2 :: (CW cI cE cG cM cS x0 q0 q1 qr (ms2, es2, gE2, gM2, gB2, gT2, gG2, gN2, gK2, gD2) κ2)) ++ (RS cI cJ cZ m0 a th (ms, es, gE, gM, gB, gT, gG, gN, gK, gD) (gH, gU, gF, gX, gW, gI, gP, gA, gR))) := hD
  refine lv_istore (lv' := [(5, .int (jI ((k : Nat) : Int))), (4, .int (jI ((7 * i : Nat) : Int))), (0, .ref b), (1, .ref x0), (2, .ref m0), (3, .ref o0)]) hx hb dL_law_632 hl (by decide) rfl (fun ls hl => ?_)
  refine lv_aload_n hx hb dL_law_634 rfl (lv_at hl 4 rfl) ?_
  refine lv_aload_n hx hb dL_law_635 rfl (lv_at hl 2 rfl) ?_
  refine lv_iload hx hb dL_law_636 (lv_at hl 1 rfl) ?_
  refine n_iconst hx hb dL_law_638 ?_
  refine n_iadd hx hb dL_law_639 ?_
  refine s_ld (i := 7 * i + 1) hx hb hX hbl hbA hS (by omega) (by omega) hL ez1 dL_law_640 ?_
  refine lv_aload_n hx hb dL_law_641 rfl (lv_at hl 2 rfl) ?_
  refine lv_iload hx hb dL_law_642 (lv_at hl 1 rfl) ?_
  refine n_iconst hx hb dL_law_644 ?_
  refine n_iadd hx hb dL_law_645 ?_
  refine s_ld (i := 7 * i + 2) hx hb hX hbl hbA hS (by omega) (by omega) hL ez2 dL_law_646 ?_
  refine lv_aload_n hx hb dL_law_647 rfl (lv_at hl 2 rfl) ?_
  refine lv_iload hx hb dL_law_648 (lv_at hl 1 rfl) ?_
  refine n_iconst hx hb dL_law_650 ?_
  refine n_iadd hx hb dL_law_651 ?_
  refine s_ld (i := 7 * i + 3) hx hb hX hbl hbA hS (by omega) (by omega) hL ez3 dL_law_652 ?_
  refine lv_aload_n hx hb dL_law_653 rfl (lv_at hl 2 rfl) ?_
  refine lv_iload hx hb dL_law_654 (lv_at hl 1 rfl) ?_
  refine n_iconst hx hb dL_law_656 ?_
  refine n_iadd hx hb dL_law_657 ?_
  refine s_ld (i := 7 * i + 4) hx hb hX hbl hbA hS (by omega) (by omega) hL ez4 dL_law_658 ?_
  refine lv_aload_n hx hb dL_law_659 rfl (lv_at hl 2 rfl) ?_
  refine lv_iload hx hb dL_law_660 (lv_at hl 1 rfl) ?_
  refine n_iconst hx hb dL_law_662 ?_
  refine n_iadd hx hb dL_law_663 ?_
  refine s_ld (i := 7 * i + 5) hx hb hX hbl hbA hS (by omega) (by omega) hL ez5 dL_law_664 ?_
  refine lv_aload_n hx hb dL_law_665 rfl (lv_at hl 2 rfl) ?_
  refine lv_iload hx hb dL_law_666 (lv_at hl 1 rfl) ?_
  refine n_bipush hx hb dL_law_668 (by decide) ?_
  refine n_iadd hx hb dL_law_670 ?_
  refine s_ld (i := 7 * i + 6) hx hb hX hbl hbA hS (by omega) (by omega) hL ez6 dL_law_671 ?_
  have hP : va_P D vwCl ((RS cI cJ cZ m0 a th (ms, es, gE, gM, gB, gT, gG, gN, gK, gD) (gH, gU, gF, gX, gW, gI, gP, gA, gR)) ++ (xOut cJ o0 q2 :: (CW cI cE cG cM cS x0 q0 q1 qr (ms2, es2, gE2, gM2, gB2, gT2, gG2, gN2, gK2, gD2) κ2))) H := hP.perm (List.perm_append_comm (l₁ := (xOut cJ o0 q2 :: (CW cI cE cG cM cS x0 q0 q1 qr (ms2, es2, gE2, gM2, gB2, gT2, gG2, gN2, gK2, gD2) κ2))) (l₂ := (RS cI cJ cZ m0 a th (ms, es, gE, gM, gB, gT, gG, gN, gK, gD) (gH, gU, gF, gX, gW, gI, gP, gA, gR))))
  have hD : va_D (fun q : Nat => s.heap.size ≤ q) ((RS cI cJ cZ m0 a th (ms, es, gE, gM, gB, gT, gG, gN, gK, gD) (gH, gU, gF, gX, gW, gI, gP, gA, gR)) ++ (xOut cJ o0 q2 :: (CW cI cE cG cM cS x0 q0 q1 qr (ms2, es2, gE2, gM2, gB2, gT2, gG2, gN2, gK2, gD2) κ2))) := hD.perm (List.perm_append_comm (l₁ := (xOut cJ o0 q2 :: (CW cI cE cG cM cS x0 q0 q1 qr (ms2, es2, gE2, gM2, gB2, gT2, gG2, gN2, gK2, gD2) κ2))) (l₂ := (RS cI cJ cZ m0 a th (ms, es, gE, gM, gB, gT, gG, gN, gK, gD) (gH, gU, gF, gX, gW, gI, gP, gA, gR))))
  have ct := hR th (gH, gU, gF, gX, gW, gI, gP, gA, gR)
  refine a_goE (va_runV (As := [.int (jI z1), .int (jI z2), .int (jI z3), .int (jI z4), .int (jI z5), .int (jI z6)]) (rest := []) ⟨hx, hb, hml, hown, hts⟩ (ct.2 _) (cwV 6 hts gL_law_X7_late rfl rfl rfl (by decide +kernel) ⟨(Nat.le_of_ble_eq_true rfl), (Nat.le_of_ble_eq_true rfl)⟩) ⟨(a_pre hK hP hD).1, va_recv hK.1 hP (ci := 7) (q0 := 0) rfl rfl, (a_pre hK hP hD).2⟩ rfl rfl hl.1 rfl (lv_room (Nat.le_of_ble_eq_true rfl)) dL_law_672 ⟨by show cells + 228 + 0 ≤ 601024; omega, by show slots + 867 + 0 ≤ 7293034; omega⟩) ct.1 hP hD hS hA (fun r c2 H locs hrv hP hD hS => ?_)
  obtain ⟨gH2, gU2, gF2, gX2, gW2, gI2, gP2, gA2, gR2⟩ := c2
  have hP : va_P D vwCl ((RS cI cJ cZ m0 a (jI ((k : Nat) : Int)) (ms2, es2, gE2, gM2, gB2, gT2, gG2, gN2, gK2, gD2) (gH2, gU2, gF2, gX2, gW2, gI2, gP2, gA2, gR2)) ++ (xOut cJ o0 q2 :: (CW cI cE cG cM cS x0 q0 q1 qr (ms2, es2, gE2, gM2, gB2, gT2, gG2, gN2, gK2, gD2) κ2))) H := hP
  have hD : va_D (fun q : Nat => s.heap.size ≤ q) ((RS cI cJ cZ m0 a (jI ((k : Nat) : Int)) (ms2, es2, gE2, gM2, gB2, gT2, gG2, gN2, gK2, gD2) (gH2, gU2, gF2, gX2, gW2, gI2, gP2, gA2, gR2)) ++ (xOut cJ o0 q2 :: (CW cI cE cG cM cS x0 q0 q1 qr (ms2, es2, gE2, gM2, gB2, gT2, gG2, gN2, gK2, gD2) κ2))) := hD
  subst hrv
  refine lv_istore (lv' := [(6, .int r), (5, .int (jI ((k : Nat) : Int))), (4, .int (jI ((7 * i : Nat) : Int))), (0, .ref b), (1, .ref x0), (2, .ref m0), (3, .ref o0)]) hx hb dL_law_675 hl (by decide) rfl (fun ls hl => ?_)
  refine lv_aload_n hx hb dL_law_677 rfl (lv_at hl 5 rfl) ?_
  have cq := c_X7_thrown l D tys m0 a ms2 es2 (jI ((k : Nat) : Int))
  refine k_goI (va_runV (As := []) (rest := []) ⟨hx, hb, hml, hown, hts⟩ (cq.2 _) (cwV 0 hts gL_law_X7_thrown rfl rfl rfl (by decide +kernel) ⟨(Nat.le_of_ble_eq_true rfl), (Nat.le_of_ble_eq_true rfl)⟩) ⟨(k_pre hK hP hD (is := [0]) rfl rfl).1, va_recv hK.1 hP (ci := 7) (q0 := 0) rfl rfl, (k_pre hK hP hD (is := [0]) rfl rfl).2⟩ rfl rfl hl.1 rfl (lv_room (Nat.le_of_ble_eq_true rfl)) dL_law_678 ⟨by show cells + 228 + 0 ≤ 601024; omega, by show slots + 867 + 0 ≤ 7293034; omega⟩) cq.1 hP hD hS hA [0] rfl rfl (fun H locs hP hD hS => ?_)
  have hP : va_P D vwCl ((RS cI cJ cZ m0 a (jI ((k : Nat) : Int)) (ms2, es2, gE2, gM2, gB2, gT2, gG2, gN2, gK2, gD2) (gH2, gU2, gF2, gX2, gW2, gI2, gP2, gA2, gR2)) ++ (xOut cJ o0 q2 :: (CW cI cE cG cM cS x0 q0 q1 qr (ms2, es2, gE2, gM2, gB2, gT2, gG2, gN2, gK2, gD2) κ2))) H := hP
  have hD : va_D (fun q : Nat => s.heap.size ≤ q) ((RS cI cJ cZ m0 a (jI ((k : Nat) : Int)) (ms2, es2, gE2, gM2, gB2, gT2, gG2, gN2, gK2, gD2) (gH2, gU2, gF2, gX2, gW2, gI2, gP2, gA2, gR2)) ++ (xOut cJ o0 q2 :: (CW cI cE cG cM cS x0 q0 q1 qr (ms2, es2, gE2, gM2, gB2, gT2, gG2, gN2, gK2, gD2) κ2))) := hD
  have hP : va_P D vwCl ((xOut cJ o0 q2 :: (CW cI cE cG cM cS x0 q0 q1 qr (ms2, es2, gE2, gM2, gB2, gT2, gG2, gN2, gK2, gD2) κ2)) ++ (RS cI cJ cZ m0 a (jI ((k : Nat) : Int)) (ms2, es2, gE2, gM2, gB2, gT2, gG2, gN2, gK2, gD2) (gH2, gU2, gF2, gX2, gW2, gI2, gP2, gA2, gR2))) H := hP.perm (List.perm_append_comm (l₁ := (RS cI cJ cZ m0 a (jI ((k : Nat) : Int)) (ms2, es2, gE2, gM2, gB2, gT2, gG2, gN2, gK2, gD2) (gH2, gU2, gF2, gX2, gW2, gI2, gP2, gA2, gR2))) (l₂ := (xOut cJ o0 q2 :: (CW cI cE cG cM cS x0 q0 q1 qr (ms2, es2, gE2, gM2, gB2, gT2, gG2, gN2, gK2, gD2) κ2))))
  have hD : va_D (fun q : Nat => s.heap.size ≤ q) ((xOut cJ o0 q2 :: (CW cI cE cG cM cS x0 q0 q1 qr (ms2, es2, gE2, gM2, gB2, gT2, gG2, gN2, gK2, gD2) κ2)) ++ (RS cI cJ cZ m0 a (jI ((k : Nat) : Int)) (ms2, es2, gE2, gM2, gB2, gT2, gG2, gN2, gK2, gD2) (gH2, gU2, gF2, gX2, gW2, gI2, gP2, gA2, gR2))) := hD.perm (List.perm_append_comm (l₁ := (RS cI cJ cZ m0 a (jI ((k : Nat) : Int)) (ms2, es2, gE2, gM2, gB2, gT2, gG2, gN2, gK2, gD2) (gH2, gU2, gF2, gX2, gW2, gI2, gP2, gA2, gR2))) (l₂ := (xOut cJ o0 q2 :: (CW cI cE cG cM cS x0 q0 q1 qr (ms2, es2, gE2, gM2, gB2, gT2, gG2, gN2, gK2, gD2) κ2))))
  refine lv_iload hx hb dL_law_681 (lv_at hl 1 rfl) ?_
  refine lv_icmp_eq (tgt := 688) hx hb dL_law_683 (by decide) (fun _ => ?_) (fun h9 => absurd rfl h9)
  refine lv_iload hx hb dL_law_688 (lv_at hl 1 rfl) ?_
  refine n_if_ne (tgt := 705) hx hb (by unfold r32; omega) dL_law_690 (by decide) (fun h0 => ?_) (fun h0 => ?_)
  · refine lv_goto (tgt := 1384) hx hb dL_law_705 (by decide) ?_
    exact kk (ms2, es2, gE2, gM2, gB2, gT2, gG2, gN2, gK2, gD2) κ2 (jI ((k : Nat) : Int)) (gH2, gU2, gF2, gX2, gW2, gI2, gP2, gA2, gR2) q2 H locs ls hI2 hP hD hS (lv_sub hl [2, 3, 4, 5, 6] rfl)
  · obtain ⟨hv1, hv2⟩ := hv (by omega)
    have hv1 : jI (q2 0) = r := hv1
    have hv2 : r32 (q2 0) := hv2
    subst hv1
    refine lv_aload_n hx hb dL_law_693 rfl (lv_at hl 6 rfl) ?_
    refine n_iconst hx hb dL_law_694 ?_
    refine n_lald (i := 0) hx hb hK hP 0 1 rfl htJ rfl (Nat.le_of_ble_eq_true rfl) (Nat.le_of_ble_eq_true rfl) dL_law_695 ?_
    refine lv_iload hx hb dL_law_696 (lv_at hl 0 rfl) ?_
    refine n_i2l hx hb dL_law_698 hv2.1 hv2.2 ?_
    refine W.lcmp hx hb dL_law_699 ?_
    refine n_lif_eq (tgt := 705) hx hb (by have := hv2.1; have := hv2.2; unfold r64; omega) (by have := hv2.1; have := hv2.2; unfold r64; omega) dL_law_700 (by decide) (fun _ => ?_) (fun h9 => absurd rfl h9)
    refine lv_goto (tgt := 1384) hx hb dL_law_705 (by decide) ?_
    exact kk (ms2, es2, gE2, gM2, gB2, gT2, gG2, gN2, gK2, gD2) κ2 (jI ((k : Nat) : Int)) (gH2, gU2, gF2, gX2, gW2, gI2, gP2, gA2, gR2) q2 H locs ls hI2 hP hD hS (lv_sub hl [2, 3, 4, 5, 6] rfl)

set_option maxHeartbeats 16000000 in
set_option maxRecDepth 100000 in
/--  -/
theorem ls_drop {p : Program} {e : Env} {s : State} {m : MethodId} {below : List Frame} {meth : Method} {c : Code} (l : Launch) (hl9 : l.stackTraces = false) (D : va_G) (tys : List (ClassId × FieldType)) {cI cJ cZ cE cG cM cS : ClassId} (htI : tys[0]? = some (cI, .int)) (htJ : tys[1]? = some (cJ, .long)) (htZ : tys[2]? = some (cZ, .boolean)) (htE : tys[3]? = some (cE, .object RX1)) (htM : tys[4]? = some (cM, .object RX2)) (htS : tys[5]? = some (cS, .object RX4)) (htG : tys[6]? = some (cG, .array .int)) {b L : Nat} {xs : Nat → Int32} (C0 : LX p s m c b L xs) (hK : KK D tys s) (hXK : XK s) (hZ : XZ (fun q : Nat => s.heap.size ≤ q) s s.heap) (hN : XN s) (m0 : Nat) (a : Nat → Nat) (x0 q0 q1 : Nat) (qr : Nat → Nat) (o0 : Nat) (ms es : Nat) (gE gM gB : Nat → Zp) (gT : Nat → Nat) (gG : Nat → Zp) (gN : Nat → Nat) (gK : Nat → Zp) (gD : Nat → Bool) (κ : Nat → EG) (hI : INV (ms, es, gE, gM, gB, gT, gG, gN, gK, gD) κ) (th : Int32) (c9 : KR) (q : Nat → Int) {H : Heap} {locs : List Loc} {cells slots : Nat} {Q : State → Prop} {ls : Array Slot} {i : Nat} (hi : 7 * i + 7 ≤ L) (hP : va_P D vwCl ((xOut cJ o0 q :: (CW cI cE cG cM cS x0 q0 q1 qr (ms, es, gE, gM, gB, gT, gG, gN, gK, gD) κ)) ++ (RS cI cJ cZ m0 a th (ms, es, gE, gM, gB, gT, gG, gN, gK, gD) c9)) H) (hD : va_D (fun q : Nat => s.heap.size ≤ q) ((xOut cJ o0 q :: (CW cI cE cG cM cS x0 q0 q1 qr (ms, es, gE, gM, gB, gT, gG, gN, gK, gD) κ)) ++ (RS cI cJ cZ m0 a th (ms, es, gE, gM, gB, gT, gG, gN, gK, gD) c9))) (hS : va_S (fun q : Nat => s.heap.size ≤ q) s.heap H locs) (hl : lv_has ls 7 [(4, .int (jI ((7 * i : Nat) : Int))), (0, .ref b), (1, .ref x0), (2, .ref m0), (3, .ref o0)]) (hc : cells + 228 ≤ 601024) (hs : slots + 867 ≤ 7293034)
    (kk : ∀ (g2 : SG) (κ2 : Nat → EG) (th2 : Int32) (c2 : KR) (q2 : Nat → Int) (H1 : Heap) (locs1 : List Loc) (ls1 : Array Slot), INV g2 κ2 → va_P D vwCl ((xOut cJ o0 q2 :: (CW cI cE cG cM cS x0 q0 q1 qr g2 κ2)) ++ (RS cI cJ cZ m0 a th2 g2 c2)) H1 → va_D (fun q : Nat => s.heap.size ≤ q) ((xOut cJ o0 q2 :: (CW cI cE cG cM cS x0 q0 q1 qr g2 κ2)) ++ (RS cI cJ cZ m0 a th2 g2 c2)) → va_S (fun q : Nat => s.heap.size ≤ q) s.heap H1 locs1 → lv_has ls1 7 [(4, .int (jI ((7 * i : Nat) : Int))), (0, .ref b), (1, .ref x0), (2, .ref m0), (3, .ref o0)] → W p l e room_1 s m #[Value.ref b] below meth c H1 locs1 (cells + 228) (slots + 867) Q (F0 m 1384 ls1 [])) : W p l e room_1 s m #[Value.ref b] below meth c H locs cells slots Q (F0 m 708 ls []) := by
  obtain ⟨hx, hb, hml, hown, hts, hX, hbl, hL⟩ := C0
  have hA : ∀ q : Nat, s.heap.size ≤ q → (fun q : Nat => s.heap.size ≤ q) q := fun _ h => h
  have hbA : ¬ (fun q : Nat => s.heap.size ≤ q) b := Nat.not_le.mpr hbl
  obtain ⟨z1, ez1, r1⟩ := i32_j (xs (7 * i + 1))
  obtain ⟨z2, ez2, r2⟩ := i32_j (xs (7 * i + 2))
  obtain ⟨gH, gU, gF, gX, gW, gI, gP, gA, gR⟩ := c9
  obtain ⟨k, ⟨ms2, es2, gE2, gM2, gB2, gT2, gG2, gN2, gK2, gD2⟩, ⟨hk4, hR⟩, hC⟩ := st_drop l hl9 D tys htI htJ htZ htE htM htS htG m0 a x0 q0 q1 qr ms es gE gM gB gT gG gN gK gD κ hI z1 z2 r1 r2
  have hW := w_drop l D tys htJ x0 q0 q1 qr ms es gE gM gB gT gG gN gK gD κ (jI z1) (jI z2) (ms2, es2, gE2, gM2, gB2, gT2, gG2, gN2, gK2, gD2) k hC
  refine lv_aload_n hx hb dL_law_708 rfl (lv_at hl 2 rfl) ?_
  refine lv_aload_n hx hb dL_law_709 rfl (lv_at hl 1 rfl) ?_
  refine lv_iload hx hb dL_law_710 (lv_at hl 0 rfl) ?_
  refine n_iconst hx hb dL_law_712 ?_
  refine n_iadd hx hb dL_law_713 ?_
  refine s_ld (i := 7 * i + 1) hx hb hX hbl hbA hS (by omega) (by omega) hL ez1 dL_law_714 ?_
  refine lv_aload_n hx hb dL_law_715 rfl (lv_at hl 1 rfl) ?_
  refine lv_iload hx hb dL_law_716 (lv_at hl 0 rfl) ?_
  refine n_iconst hx hb dL_law_718 ?_
  refine n_iadd hx hb dL_law_719 ?_
  refine s_ld (i := 7 * i + 2) hx hb hX hbl hbA hS (by omega) (by omega) hL ez2 dL_law_720 ?_
  have hP : va_P D vwCl ((CW cI cE cG cM cS x0 q0 q1 qr (ms, es, gE, gM, gB, gT, gG, gN, gK, gD) κ) ++ (xOut cJ o0 q :: (RS cI cJ cZ m0 a th (ms, es, gE, gM, gB, gT, gG, gN, gK, gD) (gH, gU, gF, gX, gW, gI, gP, gA, gR)))) H := hP.perm (List.perm_middle (l₁ := (CW cI cE cG cM cS x0 q0 q1 qr (ms, es, gE, gM, gB, gT, gG, gN, gK, gD) κ))).symm
  have hD : va_D (fun q : Nat => s.heap.size ≤ q) ((CW cI cE cG cM cS x0 q0 q1 qr (ms, es, gE, gM, gB, gT, gG, gN, gK, gD) κ) ++ (xOut cJ o0 q :: (RS cI cJ cZ m0 a th (ms, es, gE, gM, gB, gT, gG, gN, gK, gD) (gH, gU, gF, gX, gW, gI, gP, gA, gR)))) := hD.perm (List.perm_middle (l₁ := (CW cI cE cG cM cS x0 q0 q1 qr (ms, es, gE, gM, gB, gT, gG, gN, gK, gD) κ))).symm
  refine a_goNI (vx_runSW (As := [.ref x0, .int (jI z1), .int (jI z2)]) (rest := []) ⟨hx, hb, hml, hown, hts⟩ (hW _) (vx_cwSW 3 hts gL_law_L_drop rfl rfl rfl (by decide +kernel) ⟨(Nat.le_of_ble_eq_true rfl), (Nat.le_of_ble_eq_true rfl)⟩) (c_pre hK hXK hZ hN hP hD hS hA) rfl rfl hl.1 rfl (lv_room (Nat.le_of_ble_eq_true rfl)) dL_law_721 ⟨hc, hs⟩) hP hD hS hA (fun r u H locs hpost hP hD hS => ?_)
  obtain ⟨hr9, hI2⟩ := hpost
  obtain ⟨κ2, eκ⟩ : ∃ z, z = u := ⟨_, rfl⟩
  subst eκ
  subst hr9
  have hP : va_P D vwCl ((CW cI cE cG cM cS x0 q0 q1 qr (ms2, es2, gE2, gM2, gB2, gT2, gG2, gN2, gK2, gD2) κ2) ++ (xOut cJ o0 q :: (RS cI cJ cZ m0 a th (ms, es, gE, gM, gB, gT, gG, gN, gK, gD) (gH, gU, gF, gX, gW, gI, gP, gA, gR)))) H := hP
  have hD : va_D (fun q : Nat => s.heap.size ≤ q) ((CW cI cE cG cM cS x0 q0 q1 qr (ms2, es2, gE2, gM2, gB2, gT2, gG2, gN2, gK2, gD2) κ2) ++ (xOut cJ o0 q :: (RS cI cJ cZ m0 a th (ms, es, gE, gM, gB, gT, gG, gN, gK, gD) (gH, gU, gF, gX, gW, gI, gP, gA, gR)))) := hD
  have hP : va_P D vwCl ((xOut cJ o0 q :: (CW cI cE cG cM cS x0 q0 q1 qr (ms2, es2, gE2, gM2, gB2, gT2, gG2, gN2, gK2, gD2) κ2)) ++ (RS cI cJ cZ m0 a th (ms, es, gE, gM, gB, gT, gG, gN, gK, gD) (gH, gU, gF, gX, gW, gI, gP, gA, gR))) H := hP.perm (List.perm_middle (l₁ := (CW cI cE cG cM cS x0 q0 q1 qr (ms2, es2, gE2, gM2, gB2, gT2, gG2, gN2, gK2, gD2) κ2)))
  have hD : va_D (fun q : Nat => s.heap.size ≤ q) ((xOut cJ o0 q :: (CW cI cE cG cM cS x0 q0 q1 qr (ms2, es2, gE2, gM2, gB2, gT2, gG2, gN2, gK2, gD2) κ2)) ++ (RS cI cJ cZ m0 a th (ms, es, gE, gM, gB, gT, gG, gN, gK, gD) (gH, gU, gF, gX, gW, gI, gP, gA, gR))) := hD.perm (List.perm_middle (l₁ := (CW cI cE cG cM cS x0 q0 q1 qr (ms2, es2, gE2, gM2, gB2, gT2, gG2, gN2, gK2, gD2) κ2)))
  refine lv_istore (lv' := [(5, .int (jI ((k : Nat) : Int))), (4, .int (jI ((7 * i : Nat) : Int))), (0, .ref b), (1, .ref x0), (2, .ref m0), (3, .ref o0)]) hx hb dL_law_724 hl (by decide) rfl (fun ls hl => ?_)
  refine lv_aload_n hx hb dL_law_726 rfl (lv_at hl 4 rfl) ?_
  refine lv_aload_n hx hb dL_law_727 rfl (lv_at hl 2 rfl) ?_
  refine lv_iload hx hb dL_law_728 (lv_at hl 1 rfl) ?_
  refine n_iconst hx hb dL_law_730 ?_
  refine n_iadd hx hb dL_law_731 ?_
  refine s_ld (i := 7 * i + 1) hx hb hX hbl hbA hS (by omega) (by omega) hL ez1 dL_law_732 ?_
  refine lv_aload_n hx hb dL_law_733 rfl (lv_at hl 2 rfl) ?_
  refine lv_iload hx hb dL_law_734 (lv_at hl 1 rfl) ?_
  refine n_iconst hx hb dL_law_736 ?_
  refine n_iadd hx hb dL_law_737 ?_
  refine s_ld (i := 7 * i + 2) hx hb hX hbl hbA hS (by omega) (by omega) hL ez2 dL_law_738 ?_
  have hP : va_P D vwCl ((RS cI cJ cZ m0 a th (ms, es, gE, gM, gB, gT, gG, gN, gK, gD) (gH, gU, gF, gX, gW, gI, gP, gA, gR)) ++ (xOut cJ o0 q :: (CW cI cE cG cM cS x0 q0 q1 qr (ms2, es2, gE2, gM2, gB2, gT2, gG2, gN2, gK2, gD2) κ2))) H := hP.perm (List.perm_append_comm (l₁ := (xOut cJ o0 q :: (CW cI cE cG cM cS x0 q0 q1 qr (ms2, es2, gE2, gM2, gB2, gT2, gG2, gN2, gK2, gD2) κ2))) (l₂ := (RS cI cJ cZ m0 a th (ms, es, gE, gM, gB, gT, gG, gN, gK, gD) (gH, gU, gF, gX, gW, gI, gP, gA, gR))))
  have hD : va_D (fun q : Nat => s.heap.size ≤ q) ((RS cI cJ cZ m0 a th (ms, es, gE, gM, gB, gT, gG, gN, gK, gD) (gH, gU, gF, gX, gW, gI, gP, gA, gR)) ++ (xOut cJ o0 q :: (CW cI cE cG cM cS x0 q0 q1 qr (ms2, es2, gE2, gM2, gB2, gT2, gG2, gN2, gK2, gD2) κ2))) := hD.perm (List.perm_append_comm (l₁ := (xOut cJ o0 q :: (CW cI cE cG cM cS x0 q0 q1 qr (ms2, es2, gE2, gM2, gB2, gT2, gG2, gN2, gK2, gD2) κ2))) (l₂ := (RS cI cJ cZ m0 a th (ms, es, gE, gM, gB, gT, gG, gN, gK, gD) (gH, gU, gF, gX, gW, gI, gP, gA, gR))))
  have ct := hR th (gH, gU, gF, gX, gW, gI, gP, gA, gR)
  refine a_goF (va_runV (As := [.int (jI z1), .int (jI z2)]) (rest := []) ⟨hx, hb, hml, hown, hts⟩ (ct.2 _) (cwV 2 hts gL_law_X7_drop rfl rfl rfl (by decide +kernel) ⟨(Nat.le_of_ble_eq_true rfl), (Nat.le_of_ble_eq_true rfl)⟩) ⟨(a_pre hK hP hD).1, va_recv hK.1 hP (ci := 7) (q0 := 0) rfl rfl, (a_pre hK hP hD).2⟩ rfl rfl hl.1 rfl (lv_room (Nat.le_of_ble_eq_true rfl)) dL_law_739 ⟨by show cells + 228 + 0 ≤ 601024; omega, by show slots + 867 + 0 ≤ 7293034; omega⟩) ct.1 hP hD hS hA (fun c2 H locs hrv hP hD hS => ?_)
  obtain ⟨gH2, gU2, gF2, gX2, gW2, gI2, gP2, gA2, gR2⟩ := c2
  have hP : va_P D vwCl ((RS cI cJ cZ m0 a (jI ((k : Nat) : Int)) (ms2, es2, gE2, gM2, gB2, gT2, gG2, gN2, gK2, gD2) (gH2, gU2, gF2, gX2, gW2, gI2, gP2, gA2, gR2)) ++ (xOut cJ o0 q :: (CW cI cE cG cM cS x0 q0 q1 qr (ms2, es2, gE2, gM2, gB2, gT2, gG2, gN2, gK2, gD2) κ2))) H := hP
  have hD : va_D (fun q : Nat => s.heap.size ≤ q) ((RS cI cJ cZ m0 a (jI ((k : Nat) : Int)) (ms2, es2, gE2, gM2, gB2, gT2, gG2, gN2, gK2, gD2) (gH2, gU2, gF2, gX2, gW2, gI2, gP2, gA2, gR2)) ++ (xOut cJ o0 q :: (CW cI cE cG cM cS x0 q0 q1 qr (ms2, es2, gE2, gM2, gB2, gT2, gG2, gN2, gK2, gD2) κ2))) := hD
  refine lv_aload_n hx hb dL_law_742 rfl (lv_at hl 4 rfl) ?_
  have cq := c_X7_thrown l D tys m0 a ms2 es2 (jI ((k : Nat) : Int))
  refine k_goI (va_runV (As := []) (rest := []) ⟨hx, hb, hml, hown, hts⟩ (cq.2 _) (cwV 0 hts gL_law_X7_thrown rfl rfl rfl (by decide +kernel) ⟨(Nat.le_of_ble_eq_true rfl), (Nat.le_of_ble_eq_true rfl)⟩) ⟨(k_pre hK hP hD (is := [0]) rfl rfl).1, va_recv hK.1 hP (ci := 7) (q0 := 0) rfl rfl, (k_pre hK hP hD (is := [0]) rfl rfl).2⟩ rfl rfl hl.1 rfl (lv_room (Nat.le_of_ble_eq_true rfl)) dL_law_743 ⟨by show cells + 228 + 0 ≤ 601024; omega, by show slots + 867 + 0 ≤ 7293034; omega⟩) cq.1 hP hD hS hA [0] rfl rfl (fun H locs hP hD hS => ?_)
  have hP : va_P D vwCl ((RS cI cJ cZ m0 a (jI ((k : Nat) : Int)) (ms2, es2, gE2, gM2, gB2, gT2, gG2, gN2, gK2, gD2) (gH2, gU2, gF2, gX2, gW2, gI2, gP2, gA2, gR2)) ++ (xOut cJ o0 q :: (CW cI cE cG cM cS x0 q0 q1 qr (ms2, es2, gE2, gM2, gB2, gT2, gG2, gN2, gK2, gD2) κ2))) H := hP
  have hD : va_D (fun q : Nat => s.heap.size ≤ q) ((RS cI cJ cZ m0 a (jI ((k : Nat) : Int)) (ms2, es2, gE2, gM2, gB2, gT2, gG2, gN2, gK2, gD2) (gH2, gU2, gF2, gX2, gW2, gI2, gP2, gA2, gR2)) ++ (xOut cJ o0 q :: (CW cI cE cG cM cS x0 q0 q1 qr (ms2, es2, gE2, gM2, gB2, gT2, gG2, gN2, gK2, gD2) κ2))) := hD
  have hP : va_P D vwCl ((xOut cJ o0 q :: (CW cI cE cG cM cS x0 q0 q1 qr (ms2, es2, gE2, gM2, gB2, gT2, gG2, gN2, gK2, gD2) κ2)) ++ (RS cI cJ cZ m0 a (jI ((k : Nat) : Int)) (ms2, es2, gE2, gM2, gB2, gT2, gG2, gN2, gK2, gD2) (gH2, gU2, gF2, gX2, gW2, gI2, gP2, gA2, gR2))) H := hP.perm (List.perm_append_comm (l₁ := (RS cI cJ cZ m0 a (jI ((k : Nat) : Int)) (ms2, es2, gE2, gM2, gB2, gT2, gG2, gN2, gK2, gD2) (gH2, gU2, gF2, gX2, gW2, gI2, gP2, gA2, gR2))) (l₂ := (xOut cJ o0 q :: (CW cI cE cG cM cS x0 q0 q1 qr (ms2, es2, gE2, gM2, gB2, gT2, gG2, gN2, gK2, gD2) κ2))))
  have hD : va_D (fun q : Nat => s.heap.size ≤ q) ((xOut cJ o0 q :: (CW cI cE cG cM cS x0 q0 q1 qr (ms2, es2, gE2, gM2, gB2, gT2, gG2, gN2, gK2, gD2) κ2)) ++ (RS cI cJ cZ m0 a (jI ((k : Nat) : Int)) (ms2, es2, gE2, gM2, gB2, gT2, gG2, gN2, gK2, gD2) (gH2, gU2, gF2, gX2, gW2, gI2, gP2, gA2, gR2))) := hD.perm (List.perm_append_comm (l₁ := (RS cI cJ cZ m0 a (jI ((k : Nat) : Int)) (ms2, es2, gE2, gM2, gB2, gT2, gG2, gN2, gK2, gD2) (gH2, gU2, gF2, gX2, gW2, gI2, gP2, gA2, gR2))) (l₂ := (xOut cJ o0 q :: (CW cI cE cG cM cS x0 q0 q1 qr (ms2, es2, gE2, gM2, gB2, gT2, gG2, gN2, gK2, gD2) κ2))))
  refine lv_iload hx hb dL_law_746 (lv_at hl 0 rfl) ?_
  refine lv_icmp_eq (tgt := 753) hx hb dL_law_748 (by decide) (fun _ => ?_) (fun h9 => absurd rfl h9)
  refine lv_goto (tgt := 1384) hx hb dL_law_753 (by decide) ?_
  exact kk (ms2, es2, gE2, gM2, gB2, gT2, gG2, gN2, gK2, gD2) κ2 (jI ((k : Nat) : Int)) (gH2, gU2, gF2, gX2, gW2, gI2, gP2, gA2, gR2) q H locs ls hI2 hP hD hS (lv_sub hl [1, 2, 3, 4, 5] rfl)

set_option maxHeartbeats 16000000 in
set_option maxRecDepth 100000 in
/--  -/
theorem ls_of {p : Program} {e : Env} {s : State} {m : MethodId} {below : List Frame} {meth : Method} {c : Code} (l : Launch) (hl9 : l.stackTraces = false) (D : va_G) (tys : List (ClassId × FieldType)) {cI cJ cZ cE cG cM cS : ClassId} (htI : tys[0]? = some (cI, .int)) (htJ : tys[1]? = some (cJ, .long)) (htZ : tys[2]? = some (cZ, .boolean)) (htE : tys[3]? = some (cE, .object RX1)) (htM : tys[4]? = some (cM, .object RX2)) (htS : tys[5]? = some (cS, .object RX4)) (htG : tys[6]? = some (cG, .array .int)) {b L : Nat} {xs : Nat → Int32} (C0 : LX p s m c b L xs) (hK : KK D tys s) (hXK : XK s) (hZ : XZ (fun q : Nat => s.heap.size ≤ q) s s.heap) (hN : XN s) (m0 : Nat) (a : Nat → Nat) (x0 q0 q1 : Nat) (qr : Nat → Nat) (o0 : Nat) (ms es : Nat) (gE gM gB : Nat → Zp) (gT : Nat → Nat) (gG : Nat → Zp) (gN : Nat → Nat) (gK : Nat → Zp) (gD : Nat → Bool) (κ : Nat → EG) (hI : INV (ms, es, gE, gM, gB, gT, gG, gN, gK, gD) κ) (th : Int32) (c9 : KR) (q : Nat → Int) {H : Heap} {locs : List Loc} {cells slots : Nat} {Q : State → Prop} {ls : Array Slot} {i : Nat} (hi : 7 * i + 7 ≤ L) (hP : va_P D vwCl ((xOut cJ o0 q :: (CW cI cE cG cM cS x0 q0 q1 qr (ms, es, gE, gM, gB, gT, gG, gN, gK, gD) κ)) ++ (RS cI cJ cZ m0 a th (ms, es, gE, gM, gB, gT, gG, gN, gK, gD) c9)) H) (hD : va_D (fun q : Nat => s.heap.size ≤ q) ((xOut cJ o0 q :: (CW cI cE cG cM cS x0 q0 q1 qr (ms, es, gE, gM, gB, gT, gG, gN, gK, gD) κ)) ++ (RS cI cJ cZ m0 a th (ms, es, gE, gM, gB, gT, gG, gN, gK, gD) c9))) (hS : va_S (fun q : Nat => s.heap.size ≤ q) s.heap H locs) (hl : lv_has ls 7 [(4, .int (jI ((7 * i : Nat) : Int))), (0, .ref b), (1, .ref x0), (2, .ref m0), (3, .ref o0)]) (hc : cells + 228 ≤ 601024) (hs : slots + 867 ≤ 7293034)
    (kk : ∀ (g2 : SG) (κ2 : Nat → EG) (th2 : Int32) (c2 : KR) (q2 : Nat → Int) (H1 : Heap) (locs1 : List Loc) (ls1 : Array Slot), INV g2 κ2 → va_P D vwCl ((xOut cJ o0 q2 :: (CW cI cE cG cM cS x0 q0 q1 qr g2 κ2)) ++ (RS cI cJ cZ m0 a th2 g2 c2)) H1 → va_D (fun q : Nat => s.heap.size ≤ q) ((xOut cJ o0 q2 :: (CW cI cE cG cM cS x0 q0 q1 qr g2 κ2)) ++ (RS cI cJ cZ m0 a th2 g2 c2)) → va_S (fun q : Nat => s.heap.size ≤ q) s.heap H1 locs1 → lv_has ls1 7 [(4, .int (jI ((7 * i : Nat) : Int))), (0, .ref b), (1, .ref x0), (2, .ref m0), (3, .ref o0)] → W p l e room_1 s m #[Value.ref b] below meth c H1 locs1 (cells + 228) (slots + 867) Q (F0 m 1384 ls1 [])) : W p l e room_1 s m #[Value.ref b] below meth c H locs cells slots Q (F0 m 756 ls []) := by
  obtain ⟨hx, hb, hml, hown, hts, hX, hbl, hL⟩ := C0
  have hA : ∀ q : Nat, s.heap.size ≤ q → (fun q : Nat => s.heap.size ≤ q) q := fun _ h => h
  have hbA : ¬ (fun q : Nat => s.heap.size ≤ q) b := Nat.not_le.mpr hbl
  obtain ⟨z1, ez1, r1⟩ := i32_j (xs (7 * i + 1))
  obtain ⟨z2, ez2, r2⟩ := i32_j (xs (7 * i + 2))
  obtain ⟨gH, gU, gF, gX, gW, gI, gP, gA, gR⟩ := c9
  obtain ⟨k, v, ⟨ms2, es2, gE2, gM2, gB2, gT2, gG2, gN2, gK2, gD2⟩, ⟨hk4, hR⟩, hC⟩ := st_of l hl9 D tys htI htJ htZ htE htM htS htG m0 a x0 q0 q1 qr ms es gE gM gB gT gG gN gK gD κ hI z1 z2 r1 r2
  have hW := w_of l D tys htJ x0 q0 q1 qr ms es gE gM gB gT gG gN gK gD κ (jI z1) (jI z2) (ms2, es2, gE2, gM2, gB2, gT2, gG2, gN2, gK2, gD2) k v hC o0 q
  refine lv_aload_n hx hb dL_law_756 rfl (lv_at hl 2 rfl) ?_
  refine lv_aload_n hx hb dL_law_757 rfl (lv_at hl 1 rfl) ?_
  refine lv_iload hx hb dL_law_758 (lv_at hl 0 rfl) ?_
  refine n_iconst hx hb dL_law_760 ?_
  refine n_iadd hx hb dL_law_761 ?_
  refine s_ld (i := 7 * i + 1) hx hb hX hbl hbA hS (by omega) (by omega) hL ez1 dL_law_762 ?_
  refine lv_aload_n hx hb dL_law_763 rfl (lv_at hl 1 rfl) ?_
  refine lv_iload hx hb dL_law_764 (lv_at hl 0 rfl) ?_
  refine n_iconst hx hb dL_law_766 ?_
  refine n_iadd hx hb dL_law_767 ?_
  refine s_ld (i := 7 * i + 2) hx hb hX hbl hbA hS (by omega) (by omega) hL ez2 dL_law_768 ?_
  refine lv_aload_n hx hb dL_law_769 rfl (lv_at hl 4 rfl) ?_
  refine a_goNI (vx_runSW (As := [.ref x0, .int (jI z1), .int (jI z2), .ref o0]) (rest := []) ⟨hx, hb, hml, hown, hts⟩ (hW _) (vx_cwSW 4 hts gL_law_L_of rfl rfl rfl (by decide +kernel) ⟨(Nat.le_of_ble_eq_true rfl), (Nat.le_of_ble_eq_true rfl)⟩) (c_pre hK hXK hZ hN hP hD hS hA) rfl rfl hl.1 rfl (lv_room (Nat.le_of_ble_eq_true rfl)) dL_law_770 ⟨hc, hs⟩) hP hD hS hA (fun r u H locs hpost hP hD hS => ?_)
  obtain ⟨κ2, q2⟩ := u
  obtain ⟨hr9, hI2, hv⟩ := hpost
  subst hr9
  have hP : va_P D vwCl ((xOut cJ o0 q2 :: (CW cI cE cG cM cS x0 q0 q1 qr (ms2, es2, gE2, gM2, gB2, gT2, gG2, gN2, gK2, gD2) κ2)) ++ (RS cI cJ cZ m0 a th (ms, es, gE, gM, gB, gT, gG, gN, gK, gD) (gH, gU, gF, gX, gW, gI, gP, gA, gR))) H := hP
  have hD : va_D (fun q : Nat => s.heap.size ≤ q) ((xOut cJ o0 q2 :: (CW cI cE cG cM cS x0 q0 q1 qr (ms2, es2, gE2, gM2, gB2, gT2, gG2, gN2, gK2, gD2) κ2)) ++ (RS cI cJ cZ m0 a th (ms, es, gE, gM, gB, gT, gG, gN, gK, gD) (gH, gU, gF, gX, gW, gI, gP, gA, gR))) := hD
  refine lv_istore (lv' := [(5, .int (jI ((k : Nat) : Int))), (4, .int (jI ((7 * i : Nat) : Int))), (0, .ref b), (1, .ref x0), (2, .ref m0), (3, .ref o0)]) hx hb dL_law_773 hl (by decide) rfl (fun ls hl => ?_)
  refine lv_aload_n hx hb dL_law_775 rfl (lv_at hl 4 rfl) ?_
  refine lv_aload_n hx hb dL_law_776 rfl (lv_at hl 2 rfl) ?_
  refine lv_iload hx hb dL_law_777 (lv_at hl 1 rfl) ?_
  refine n_iconst hx hb dL_law_779 ?_
  refine n_iadd hx hb dL_law_780 ?_
  refine s_ld (i := 7 * i + 1) hx hb hX hbl hbA hS (by omega) (by omega) hL ez1 dL_law_781 ?_
  refine lv_aload_n hx hb dL_law_782 rfl (lv_at hl 2 rfl) ?_
  refine lv_iload hx hb dL_law_783 (lv_at hl 1 rfl) ?_
  refine n_iconst hx hb dL_law_785 ?_
  refine n_iadd hx hb dL_law_786 ?_
  refine s_ld (i := 7 * i + 2) hx hb hX hbl hbA hS (by omega) (by omega) hL ez2 dL_law_787 ?_
  have hP : va_P D vwCl ((RS cI cJ cZ m0 a th (ms, es, gE, gM, gB, gT, gG, gN, gK, gD) (gH, gU, gF, gX, gW, gI, gP, gA, gR)) ++ (xOut cJ o0 q2 :: (CW cI cE cG cM cS x0 q0 q1 qr (ms2, es2, gE2, gM2, gB2, gT2, gG2, gN2, gK2, gD2) κ2))) H := hP.perm (List.perm_append_comm (l₁ := (xOut cJ o0 q2 :: (CW cI cE cG cM cS x0 q0 q1 qr (ms2, es2, gE2, gM2, gB2, gT2, gG2, gN2, gK2, gD2) κ2))) (l₂ := (RS cI cJ cZ m0 a th (ms, es, gE, gM, gB, gT, gG, gN, gK, gD) (gH, gU, gF, gX, gW, gI, gP, gA, gR))))
  have hD : va_D (fun q : Nat => s.heap.size ≤ q) ((RS cI cJ cZ m0 a th (ms, es, gE, gM, gB, gT, gG, gN, gK, gD) (gH, gU, gF, gX, gW, gI, gP, gA, gR)) ++ (xOut cJ o0 q2 :: (CW cI cE cG cM cS x0 q0 q1 qr (ms2, es2, gE2, gM2, gB2, gT2, gG2, gN2, gK2, gD2) κ2))) := hD.perm (List.perm_append_comm (l₁ := (xOut cJ o0 q2 :: (CW cI cE cG cM cS x0 q0 q1 qr (ms2, es2, gE2, gM2, gB2, gT2, gG2, gN2, gK2, gD2) κ2))) (l₂ := (RS cI cJ cZ m0 a th (ms, es, gE, gM, gB, gT, gG, gN, gK, gD) (gH, gU, gF, gX, gW, gI, gP, gA, gR))))
  have ct := hR th (gH, gU, gF, gX, gW, gI, gP, gA, gR)
  refine a_goE (va_runV (As := [.int (jI z1), .int (jI z2)]) (rest := []) ⟨hx, hb, hml, hown, hts⟩ (ct.2 _) (cwV 2 hts gL_law_X7_of rfl rfl rfl (by decide +kernel) ⟨(Nat.le_of_ble_eq_true rfl), (Nat.le_of_ble_eq_true rfl)⟩) ⟨(a_pre hK hP hD).1, va_recv hK.1 hP (ci := 7) (q0 := 0) rfl rfl, (a_pre hK hP hD).2⟩ rfl rfl hl.1 rfl (lv_room (Nat.le_of_ble_eq_true rfl)) dL_law_788 ⟨by show cells + 228 + 0 ≤ 601024; omega, by show slots + 867 + 0 ≤ 7293034; omega⟩) ct.1 hP hD hS hA (fun r c2 H locs hrv hP hD hS => ?_)
  obtain ⟨gH2, gU2, gF2, gX2, gW2, gI2, gP2, gA2, gR2⟩ := c2
  have hP : va_P D vwCl ((RS cI cJ cZ m0 a (jI ((k : Nat) : Int)) (ms2, es2, gE2, gM2, gB2, gT2, gG2, gN2, gK2, gD2) (gH2, gU2, gF2, gX2, gW2, gI2, gP2, gA2, gR2)) ++ (xOut cJ o0 q2 :: (CW cI cE cG cM cS x0 q0 q1 qr (ms2, es2, gE2, gM2, gB2, gT2, gG2, gN2, gK2, gD2) κ2))) H := hP
  have hD : va_D (fun q : Nat => s.heap.size ≤ q) ((RS cI cJ cZ m0 a (jI ((k : Nat) : Int)) (ms2, es2, gE2, gM2, gB2, gT2, gG2, gN2, gK2, gD2) (gH2, gU2, gF2, gX2, gW2, gI2, gP2, gA2, gR2)) ++ (xOut cJ o0 q2 :: (CW cI cE cG cM cS x0 q0 q1 qr (ms2, es2, gE2, gM2, gB2, gT2, gG2, gN2, gK2, gD2) κ2))) := hD
  subst hrv
  refine lv_istore (lv' := [(6, .int r), (5, .int (jI ((k : Nat) : Int))), (4, .int (jI ((7 * i : Nat) : Int))), (0, .ref b), (1, .ref x0), (2, .ref m0), (3, .ref o0)]) hx hb dL_law_791 hl (by decide) rfl (fun ls hl => ?_)
  refine lv_aload_n hx hb dL_law_793 rfl (lv_at hl 5 rfl) ?_
  have cq := c_X7_thrown l D tys m0 a ms2 es2 (jI ((k : Nat) : Int))
  refine k_goI (va_runV (As := []) (rest := []) ⟨hx, hb, hml, hown, hts⟩ (cq.2 _) (cwV 0 hts gL_law_X7_thrown rfl rfl rfl (by decide +kernel) ⟨(Nat.le_of_ble_eq_true rfl), (Nat.le_of_ble_eq_true rfl)⟩) ⟨(k_pre hK hP hD (is := [0]) rfl rfl).1, va_recv hK.1 hP (ci := 7) (q0 := 0) rfl rfl, (k_pre hK hP hD (is := [0]) rfl rfl).2⟩ rfl rfl hl.1 rfl (lv_room (Nat.le_of_ble_eq_true rfl)) dL_law_794 ⟨by show cells + 228 + 0 ≤ 601024; omega, by show slots + 867 + 0 ≤ 7293034; omega⟩) cq.1 hP hD hS hA [0] rfl rfl (fun H locs hP hD hS => ?_)
  have hP : va_P D vwCl ((RS cI cJ cZ m0 a (jI ((k : Nat) : Int)) (ms2, es2, gE2, gM2, gB2, gT2, gG2, gN2, gK2, gD2) (gH2, gU2, gF2, gX2, gW2, gI2, gP2, gA2, gR2)) ++ (xOut cJ o0 q2 :: (CW cI cE cG cM cS x0 q0 q1 qr (ms2, es2, gE2, gM2, gB2, gT2, gG2, gN2, gK2, gD2) κ2))) H := hP
  have hD : va_D (fun q : Nat => s.heap.size ≤ q) ((RS cI cJ cZ m0 a (jI ((k : Nat) : Int)) (ms2, es2, gE2, gM2, gB2, gT2, gG2, gN2, gK2, gD2) (gH2, gU2, gF2, gX2, gW2, gI2, gP2, gA2, gR2)) ++ (xOut cJ o0 q2 :: (CW cI cE cG cM cS x0 q0 q1 qr (ms2, es2, gE2, gM2, gB2, gT2, gG2, gN2, gK2, gD2) κ2))) := hD
  have hP : va_P D vwCl ((xOut cJ o0 q2 :: (CW cI cE cG cM cS x0 q0 q1 qr (ms2, es2, gE2, gM2, gB2, gT2, gG2, gN2, gK2, gD2) κ2)) ++ (RS cI cJ cZ m0 a (jI ((k : Nat) : Int)) (ms2, es2, gE2, gM2, gB2, gT2, gG2, gN2, gK2, gD2) (gH2, gU2, gF2, gX2, gW2, gI2, gP2, gA2, gR2))) H := hP.perm (List.perm_append_comm (l₁ := (RS cI cJ cZ m0 a (jI ((k : Nat) : Int)) (ms2, es2, gE2, gM2, gB2, gT2, gG2, gN2, gK2, gD2) (gH2, gU2, gF2, gX2, gW2, gI2, gP2, gA2, gR2))) (l₂ := (xOut cJ o0 q2 :: (CW cI cE cG cM cS x0 q0 q1 qr (ms2, es2, gE2, gM2, gB2, gT2, gG2, gN2, gK2, gD2) κ2))))
  have hD : va_D (fun q : Nat => s.heap.size ≤ q) ((xOut cJ o0 q2 :: (CW cI cE cG cM cS x0 q0 q1 qr (ms2, es2, gE2, gM2, gB2, gT2, gG2, gN2, gK2, gD2) κ2)) ++ (RS cI cJ cZ m0 a (jI ((k : Nat) : Int)) (ms2, es2, gE2, gM2, gB2, gT2, gG2, gN2, gK2, gD2) (gH2, gU2, gF2, gX2, gW2, gI2, gP2, gA2, gR2))) := hD.perm (List.perm_append_comm (l₁ := (RS cI cJ cZ m0 a (jI ((k : Nat) : Int)) (ms2, es2, gE2, gM2, gB2, gT2, gG2, gN2, gK2, gD2) (gH2, gU2, gF2, gX2, gW2, gI2, gP2, gA2, gR2))) (l₂ := (xOut cJ o0 q2 :: (CW cI cE cG cM cS x0 q0 q1 qr (ms2, es2, gE2, gM2, gB2, gT2, gG2, gN2, gK2, gD2) κ2))))
  refine lv_iload hx hb dL_law_797 (lv_at hl 1 rfl) ?_
  refine lv_icmp_eq (tgt := 804) hx hb dL_law_799 (by decide) (fun _ => ?_) (fun h9 => absurd rfl h9)
  refine lv_iload hx hb dL_law_804 (lv_at hl 1 rfl) ?_
  refine n_if_ne (tgt := 821) hx hb (by unfold r32; omega) dL_law_806 (by decide) (fun h0 => ?_) (fun h0 => ?_)
  · refine lv_goto (tgt := 1384) hx hb dL_law_821 (by decide) ?_
    exact kk (ms2, es2, gE2, gM2, gB2, gT2, gG2, gN2, gK2, gD2) κ2 (jI ((k : Nat) : Int)) (gH2, gU2, gF2, gX2, gW2, gI2, gP2, gA2, gR2) q2 H locs ls hI2 hP hD hS (lv_sub hl [2, 3, 4, 5, 6] rfl)
  · obtain ⟨hv1, hv2⟩ := hv (by omega)
    have hv1 : jI (q2 0) = r := hv1
    have hv2 : r32 (q2 0) := hv2
    subst hv1
    refine lv_aload_n hx hb dL_law_809 rfl (lv_at hl 6 rfl) ?_
    refine n_iconst hx hb dL_law_810 ?_
    refine n_lald (i := 0) hx hb hK hP 0 1 rfl htJ rfl (Nat.le_of_ble_eq_true rfl) (Nat.le_of_ble_eq_true rfl) dL_law_811 ?_
    refine lv_iload hx hb dL_law_812 (lv_at hl 0 rfl) ?_
    refine n_i2l hx hb dL_law_814 hv2.1 hv2.2 ?_
    refine W.lcmp hx hb dL_law_815 ?_
    refine n_lif_eq (tgt := 821) hx hb (by have := hv2.1; have := hv2.2; unfold r64; omega) (by have := hv2.1; have := hv2.2; unfold r64; omega) dL_law_816 (by decide) (fun _ => ?_) (fun h9 => absurd rfl h9)
    refine lv_goto (tgt := 1384) hx hb dL_law_821 (by decide) ?_
    exact kk (ms2, es2, gE2, gM2, gB2, gT2, gG2, gN2, gK2, gD2) κ2 (jI ((k : Nat) : Int)) (gH2, gU2, gF2, gX2, gW2, gI2, gP2, gA2, gR2) q2 H locs ls hI2 hP hD hS (lv_sub hl [2, 3, 4, 5, 6] rfl)

set_option maxHeartbeats 16000000 in
set_option maxRecDepth 100000 in
/--  -/
theorem ls_ofMeasurement {p : Program} {e : Env} {s : State} {m : MethodId} {below : List Frame} {meth : Method} {c : Code} (l : Launch) (hl9 : l.stackTraces = false) (D : va_G) (tys : List (ClassId × FieldType)) {cI cJ cZ cE cG cM cS : ClassId} (htI : tys[0]? = some (cI, .int)) (htJ : tys[1]? = some (cJ, .long)) (htZ : tys[2]? = some (cZ, .boolean)) (htE : tys[3]? = some (cE, .object RX1)) (htM : tys[4]? = some (cM, .object RX2)) (htS : tys[5]? = some (cS, .object RX4)) (htG : tys[6]? = some (cG, .array .int)) {b L : Nat} {xs : Nat → Int32} (C0 : LX p s m c b L xs) (hK : KK D tys s) (hXK : XK s) (hZ : XZ (fun q : Nat => s.heap.size ≤ q) s s.heap) (hN : XN s) (m0 : Nat) (a : Nat → Nat) (x0 q0 q1 : Nat) (qr : Nat → Nat) (o0 : Nat) (ms es : Nat) (gE gM gB : Nat → Zp) (gT : Nat → Nat) (gG : Nat → Zp) (gN : Nat → Nat) (gK : Nat → Zp) (gD : Nat → Bool) (κ : Nat → EG) (hI : INV (ms, es, gE, gM, gB, gT, gG, gN, gK, gD) κ) (th : Int32) (c9 : KR) (q : Nat → Int) {H : Heap} {locs : List Loc} {cells slots : Nat} {Q : State → Prop} {ls : Array Slot} {i : Nat} (hi : 7 * i + 7 ≤ L) (hP : va_P D vwCl ((xOut cJ o0 q :: (CW cI cE cG cM cS x0 q0 q1 qr (ms, es, gE, gM, gB, gT, gG, gN, gK, gD) κ)) ++ (RS cI cJ cZ m0 a th (ms, es, gE, gM, gB, gT, gG, gN, gK, gD) c9)) H) (hD : va_D (fun q : Nat => s.heap.size ≤ q) ((xOut cJ o0 q :: (CW cI cE cG cM cS x0 q0 q1 qr (ms, es, gE, gM, gB, gT, gG, gN, gK, gD) κ)) ++ (RS cI cJ cZ m0 a th (ms, es, gE, gM, gB, gT, gG, gN, gK, gD) c9))) (hS : va_S (fun q : Nat => s.heap.size ≤ q) s.heap H locs) (hl : lv_has ls 7 [(4, .int (jI ((7 * i : Nat) : Int))), (0, .ref b), (1, .ref x0), (2, .ref m0), (3, .ref o0)]) (hc : cells + 228 ≤ 601024) (hs : slots + 867 ≤ 7293034)
    (kk : ∀ (g2 : SG) (κ2 : Nat → EG) (th2 : Int32) (c2 : KR) (q2 : Nat → Int) (H1 : Heap) (locs1 : List Loc) (ls1 : Array Slot), INV g2 κ2 → va_P D vwCl ((xOut cJ o0 q2 :: (CW cI cE cG cM cS x0 q0 q1 qr g2 κ2)) ++ (RS cI cJ cZ m0 a th2 g2 c2)) H1 → va_D (fun q : Nat => s.heap.size ≤ q) ((xOut cJ o0 q2 :: (CW cI cE cG cM cS x0 q0 q1 qr g2 κ2)) ++ (RS cI cJ cZ m0 a th2 g2 c2)) → va_S (fun q : Nat => s.heap.size ≤ q) s.heap H1 locs1 → lv_has ls1 7 [(4, .int (jI ((7 * i : Nat) : Int))), (0, .ref b), (1, .ref x0), (2, .ref m0), (3, .ref o0)] → W p l e room_1 s m #[Value.ref b] below meth c H1 locs1 (cells + 228) (slots + 867) Q (F0 m 1384 ls1 [])) : W p l e room_1 s m #[Value.ref b] below meth c H locs cells slots Q (F0 m 824 ls []) := by
  obtain ⟨hx, hb, hml, hown, hts, hX, hbl, hL⟩ := C0
  have hA : ∀ q : Nat, s.heap.size ≤ q → (fun q : Nat => s.heap.size ≤ q) q := fun _ h => h
  have hbA : ¬ (fun q : Nat => s.heap.size ≤ q) b := Nat.not_le.mpr hbl
  obtain ⟨z1, ez1, r1⟩ := i32_j (xs (7 * i + 1))
  obtain ⟨z2, ez2, r2⟩ := i32_j (xs (7 * i + 2))
  obtain ⟨z3, ez3, r3⟩ := i32_j (xs (7 * i + 3))
  obtain ⟨gH, gU, gF, gX, gW, gI, gP, gA, gR⟩ := c9
  obtain ⟨k, v, ⟨ms2, es2, gE2, gM2, gB2, gT2, gG2, gN2, gK2, gD2⟩, ⟨hk4, hR⟩, hC⟩ := st_ofMeasurement l hl9 D tys htI htJ htZ htE htM htS htG m0 a x0 q0 q1 qr ms es gE gM gB gT gG gN gK gD κ hI z1 z2 z3 r1 r2 r3
  have hW := w_ofMeasurement l D tys htJ x0 q0 q1 qr ms es gE gM gB gT gG gN gK gD κ (jI z1) (jI z2) (jI z3) (ms2, es2, gE2, gM2, gB2, gT2, gG2, gN2, gK2, gD2) k v hC o0 q
  refine lv_aload_n hx hb dL_law_824 rfl (lv_at hl 2 rfl) ?_
  refine lv_aload_n hx hb dL_law_825 rfl (lv_at hl 1 rfl) ?_
  refine lv_iload hx hb dL_law_826 (lv_at hl 0 rfl) ?_
  refine n_iconst hx hb dL_law_828 ?_
  refine n_iadd hx hb dL_law_829 ?_
  refine s_ld (i := 7 * i + 1) hx hb hX hbl hbA hS (by omega) (by omega) hL ez1 dL_law_830 ?_
  refine lv_aload_n hx hb dL_law_831 rfl (lv_at hl 1 rfl) ?_
  refine lv_iload hx hb dL_law_832 (lv_at hl 0 rfl) ?_
  refine n_iconst hx hb dL_law_834 ?_
  refine n_iadd hx hb dL_law_835 ?_
  refine s_ld (i := 7 * i + 2) hx hb hX hbl hbA hS (by omega) (by omega) hL ez2 dL_law_836 ?_
  refine lv_aload_n hx hb dL_law_837 rfl (lv_at hl 1 rfl) ?_
  refine lv_iload hx hb dL_law_838 (lv_at hl 0 rfl) ?_
  refine n_iconst hx hb dL_law_840 ?_
  refine n_iadd hx hb dL_law_841 ?_
  refine s_ld (i := 7 * i + 3) hx hb hX hbl hbA hS (by omega) (by omega) hL ez3 dL_law_842 ?_
  refine lv_aload_n hx hb dL_law_843 rfl (lv_at hl 4 rfl) ?_
  refine a_goNI (vx_runSW (As := [.ref x0, .int (jI z1), .int (jI z2), .int (jI z3), .ref o0]) (rest := []) ⟨hx, hb, hml, hown, hts⟩ (hW _) (vx_cwSW 5 hts gL_law_L_ofMeasurement rfl rfl rfl (by decide +kernel) ⟨(Nat.le_of_ble_eq_true rfl), (Nat.le_of_ble_eq_true rfl)⟩) (c_pre hK hXK hZ hN hP hD hS hA) rfl rfl hl.1 rfl (lv_room (Nat.le_of_ble_eq_true rfl)) dL_law_844 ⟨hc, hs⟩) hP hD hS hA (fun r u H locs hpost hP hD hS => ?_)
  obtain ⟨κ2, q2⟩ := u
  obtain ⟨hr9, hI2, hv⟩ := hpost
  subst hr9
  have hP : va_P D vwCl ((xOut cJ o0 q2 :: (CW cI cE cG cM cS x0 q0 q1 qr (ms2, es2, gE2, gM2, gB2, gT2, gG2, gN2, gK2, gD2) κ2)) ++ (RS cI cJ cZ m0 a th (ms, es, gE, gM, gB, gT, gG, gN, gK, gD) (gH, gU, gF, gX, gW, gI, gP, gA, gR))) H := hP
  have hD : va_D (fun q : Nat => s.heap.size ≤ q) ((xOut cJ o0 q2 :: (CW cI cE cG cM cS x0 q0 q1 qr (ms2, es2, gE2, gM2, gB2, gT2, gG2, gN2, gK2, gD2) κ2)) ++ (RS cI cJ cZ m0 a th (ms, es, gE, gM, gB, gT, gG, gN, gK, gD) (gH, gU, gF, gX, gW, gI, gP, gA, gR))) := hD
  refine lv_istore (lv' := [(5, .int (jI ((k : Nat) : Int))), (4, .int (jI ((7 * i : Nat) : Int))), (0, .ref b), (1, .ref x0), (2, .ref m0), (3, .ref o0)]) hx hb dL_law_847 hl (by decide) rfl (fun ls hl => ?_)
  refine lv_aload_n hx hb dL_law_849 rfl (lv_at hl 4 rfl) ?_
  refine lv_aload_n hx hb dL_law_850 rfl (lv_at hl 2 rfl) ?_
  refine lv_iload hx hb dL_law_851 (lv_at hl 1 rfl) ?_
  refine n_iconst hx hb dL_law_853 ?_
  refine n_iadd hx hb dL_law_854 ?_
  refine s_ld (i := 7 * i + 1) hx hb hX hbl hbA hS (by omega) (by omega) hL ez1 dL_law_855 ?_
  refine lv_aload_n hx hb dL_law_856 rfl (lv_at hl 2 rfl) ?_
  refine lv_iload hx hb dL_law_857 (lv_at hl 1 rfl) ?_
  refine n_iconst hx hb dL_law_859 ?_
  refine n_iadd hx hb dL_law_860 ?_
  refine s_ld (i := 7 * i + 2) hx hb hX hbl hbA hS (by omega) (by omega) hL ez2 dL_law_861 ?_
  refine lv_aload_n hx hb dL_law_862 rfl (lv_at hl 2 rfl) ?_
  refine lv_iload hx hb dL_law_863 (lv_at hl 1 rfl) ?_
  refine n_iconst hx hb dL_law_865 ?_
  refine n_iadd hx hb dL_law_866 ?_
  refine s_ld (i := 7 * i + 3) hx hb hX hbl hbA hS (by omega) (by omega) hL ez3 dL_law_867 ?_
  have hP : va_P D vwCl ((RS cI cJ cZ m0 a th (ms, es, gE, gM, gB, gT, gG, gN, gK, gD) (gH, gU, gF, gX, gW, gI, gP, gA, gR)) ++ (xOut cJ o0 q2 :: (CW cI cE cG cM cS x0 q0 q1 qr (ms2, es2, gE2, gM2, gB2, gT2, gG2, gN2, gK2, gD2) κ2))) H := hP.perm (List.perm_append_comm (l₁ := (xOut cJ o0 q2 :: (CW cI cE cG cM cS x0 q0 q1 qr (ms2, es2, gE2, gM2, gB2, gT2, gG2, gN2, gK2, gD2) κ2))) (l₂ := (RS cI cJ cZ m0 a th (ms, es, gE, gM, gB, gT, gG, gN, gK, gD) (gH, gU, gF, gX, gW, gI, gP, gA, gR))))
  have hD : va_D (fun q : Nat => s.heap.size ≤ q) ((RS cI cJ cZ m0 a th (ms, es, gE, gM, gB, gT, gG, gN, gK, gD) (gH, gU, gF, gX, gW, gI, gP, gA, gR)) ++ (xOut cJ o0 q2 :: (CW cI cE cG cM cS x0 q0 q1 qr (ms2, es2, gE2, gM2, gB2, gT2, gG2, gN2, gK2, gD2) κ2))) := hD.perm (List.perm_append_comm (l₁ := (xOut cJ o0 q2 :: (CW cI cE cG cM cS x0 q0 q1 qr (ms2, es2, gE2, gM2, gB2, gT2, gG2, gN2, gK2, gD2) κ2))) (l₂ := (RS cI cJ cZ m0 a th (ms, es, gE, gM, gB, gT, gG, gN, gK, gD) (gH, gU, gF, gX, gW, gI, gP, gA, gR))))
  have ct := hR th (gH, gU, gF, gX, gW, gI, gP, gA, gR)
  refine a_goE (va_runV (As := [.int (jI z1), .int (jI z2), .int (jI z3)]) (rest := []) ⟨hx, hb, hml, hown, hts⟩ (ct.2 _) (cwV 3 hts gL_law_X7_ofMeasurement rfl rfl rfl (by decide +kernel) ⟨(Nat.le_of_ble_eq_true rfl), (Nat.le_of_ble_eq_true rfl)⟩) ⟨(a_pre hK hP hD).1, va_recv hK.1 hP (ci := 7) (q0 := 0) rfl rfl, (a_pre hK hP hD).2⟩ rfl rfl hl.1 rfl (lv_room (Nat.le_of_ble_eq_true rfl)) dL_law_868 ⟨by show cells + 228 + 0 ≤ 601024; omega, by show slots + 867 + 0 ≤ 7293034; omega⟩) ct.1 hP hD hS hA (fun r c2 H locs hrv hP hD hS => ?_)
  obtain ⟨gH2, gU2, gF2, gX2, gW2, gI2, gP2, gA2, gR2⟩ := c2
  have hP : va_P D vwCl ((RS cI cJ cZ m0 a (jI ((k : Nat) : Int)) (ms2, es2, gE2, gM2, gB2, gT2, gG2, gN2, gK2, gD2) (gH2, gU2, gF2, gX2, gW2, gI2, gP2, gA2, gR2)) ++ (xOut cJ o0 q2 :: (CW cI cE cG cM cS x0 q0 q1 qr (ms2, es2, gE2, gM2, gB2, gT2, gG2, gN2, gK2, gD2) κ2))) H := hP
  have hD : va_D (fun q : Nat => s.heap.size ≤ q) ((RS cI cJ cZ m0 a (jI ((k : Nat) : Int)) (ms2, es2, gE2, gM2, gB2, gT2, gG2, gN2, gK2, gD2) (gH2, gU2, gF2, gX2, gW2, gI2, gP2, gA2, gR2)) ++ (xOut cJ o0 q2 :: (CW cI cE cG cM cS x0 q0 q1 qr (ms2, es2, gE2, gM2, gB2, gT2, gG2, gN2, gK2, gD2) κ2))) := hD
  subst hrv
  refine lv_istore (lv' := [(6, .int r), (5, .int (jI ((k : Nat) : Int))), (4, .int (jI ((7 * i : Nat) : Int))), (0, .ref b), (1, .ref x0), (2, .ref m0), (3, .ref o0)]) hx hb dL_law_871 hl (by decide) rfl (fun ls hl => ?_)
  refine lv_aload_n hx hb dL_law_873 rfl (lv_at hl 5 rfl) ?_
  have cq := c_X7_thrown l D tys m0 a ms2 es2 (jI ((k : Nat) : Int))
  refine k_goI (va_runV (As := []) (rest := []) ⟨hx, hb, hml, hown, hts⟩ (cq.2 _) (cwV 0 hts gL_law_X7_thrown rfl rfl rfl (by decide +kernel) ⟨(Nat.le_of_ble_eq_true rfl), (Nat.le_of_ble_eq_true rfl)⟩) ⟨(k_pre hK hP hD (is := [0]) rfl rfl).1, va_recv hK.1 hP (ci := 7) (q0 := 0) rfl rfl, (k_pre hK hP hD (is := [0]) rfl rfl).2⟩ rfl rfl hl.1 rfl (lv_room (Nat.le_of_ble_eq_true rfl)) dL_law_874 ⟨by show cells + 228 + 0 ≤ 601024; omega, by show slots + 867 + 0 ≤ 7293034; omega⟩) cq.1 hP hD hS hA [0] rfl rfl (fun H locs hP hD hS => ?_)
  have hP : va_P D vwCl ((RS cI cJ cZ m0 a (jI ((k : Nat) : Int)) (ms2, es2, gE2, gM2, gB2, gT2, gG2, gN2, gK2, gD2) (gH2, gU2, gF2, gX2, gW2, gI2, gP2, gA2, gR2)) ++ (xOut cJ o0 q2 :: (CW cI cE cG cM cS x0 q0 q1 qr (ms2, es2, gE2, gM2, gB2, gT2, gG2, gN2, gK2, gD2) κ2))) H := hP
  have hD : va_D (fun q : Nat => s.heap.size ≤ q) ((RS cI cJ cZ m0 a (jI ((k : Nat) : Int)) (ms2, es2, gE2, gM2, gB2, gT2, gG2, gN2, gK2, gD2) (gH2, gU2, gF2, gX2, gW2, gI2, gP2, gA2, gR2)) ++ (xOut cJ o0 q2 :: (CW cI cE cG cM cS x0 q0 q1 qr (ms2, es2, gE2, gM2, gB2, gT2, gG2, gN2, gK2, gD2) κ2))) := hD
  have hP : va_P D vwCl ((xOut cJ o0 q2 :: (CW cI cE cG cM cS x0 q0 q1 qr (ms2, es2, gE2, gM2, gB2, gT2, gG2, gN2, gK2, gD2) κ2)) ++ (RS cI cJ cZ m0 a (jI ((k : Nat) : Int)) (ms2, es2, gE2, gM2, gB2, gT2, gG2, gN2, gK2, gD2) (gH2, gU2, gF2, gX2, gW2, gI2, gP2, gA2, gR2))) H := hP.perm (List.perm_append_comm (l₁ := (RS cI cJ cZ m0 a (jI ((k : Nat) : Int)) (ms2, es2, gE2, gM2, gB2, gT2, gG2, gN2, gK2, gD2) (gH2, gU2, gF2, gX2, gW2, gI2, gP2, gA2, gR2))) (l₂ := (xOut cJ o0 q2 :: (CW cI cE cG cM cS x0 q0 q1 qr (ms2, es2, gE2, gM2, gB2, gT2, gG2, gN2, gK2, gD2) κ2))))
  have hD : va_D (fun q : Nat => s.heap.size ≤ q) ((xOut cJ o0 q2 :: (CW cI cE cG cM cS x0 q0 q1 qr (ms2, es2, gE2, gM2, gB2, gT2, gG2, gN2, gK2, gD2) κ2)) ++ (RS cI cJ cZ m0 a (jI ((k : Nat) : Int)) (ms2, es2, gE2, gM2, gB2, gT2, gG2, gN2, gK2, gD2) (gH2, gU2, gF2, gX2, gW2, gI2, gP2, gA2, gR2))) := hD.perm (List.perm_append_comm (l₁ := (RS cI cJ cZ m0 a (jI ((k : Nat) : Int)) (ms2, es2, gE2, gM2, gB2, gT2, gG2, gN2, gK2, gD2) (gH2, gU2, gF2, gX2, gW2, gI2, gP2, gA2, gR2))) (l₂ := (xOut cJ o0 q2 :: (CW cI cE cG cM cS x0 q0 q1 qr (ms2, es2, gE2, gM2, gB2, gT2, gG2, gN2, gK2, gD2) κ2))))
  refine lv_iload hx hb dL_law_877 (lv_at hl 1 rfl) ?_
  refine lv_icmp_eq (tgt := 884) hx hb dL_law_879 (by decide) (fun _ => ?_) (fun h9 => absurd rfl h9)
  refine lv_iload hx hb dL_law_884 (lv_at hl 1 rfl) ?_
  refine n_if_ne (tgt := 901) hx hb (by unfold r32; omega) dL_law_886 (by decide) (fun h0 => ?_) (fun h0 => ?_)
  · refine lv_goto (tgt := 1384) hx hb dL_law_901 (by decide) ?_
    exact kk (ms2, es2, gE2, gM2, gB2, gT2, gG2, gN2, gK2, gD2) κ2 (jI ((k : Nat) : Int)) (gH2, gU2, gF2, gX2, gW2, gI2, gP2, gA2, gR2) q2 H locs ls hI2 hP hD hS (lv_sub hl [2, 3, 4, 5, 6] rfl)
  · obtain ⟨hv1, hv2⟩ := hv (by omega)
    have hv1 : jI (q2 0) = r := hv1
    have hv2 : r32 (q2 0) := hv2
    subst hv1
    refine lv_aload_n hx hb dL_law_889 rfl (lv_at hl 6 rfl) ?_
    refine n_iconst hx hb dL_law_890 ?_
    refine n_lald (i := 0) hx hb hK hP 0 1 rfl htJ rfl (Nat.le_of_ble_eq_true rfl) (Nat.le_of_ble_eq_true rfl) dL_law_891 ?_
    refine lv_iload hx hb dL_law_892 (lv_at hl 0 rfl) ?_
    refine n_i2l hx hb dL_law_894 hv2.1 hv2.2 ?_
    refine W.lcmp hx hb dL_law_895 ?_
    refine n_lif_eq (tgt := 901) hx hb (by have := hv2.1; have := hv2.2; unfold r64; omega) (by have := hv2.1; have := hv2.2; unfold r64; omega) dL_law_896 (by decide) (fun _ => ?_) (fun h9 => absurd rfl h9)
    refine lv_goto (tgt := 1384) hx hb dL_law_901 (by decide) ?_
    exact kk (ms2, es2, gE2, gM2, gB2, gT2, gG2, gN2, gK2, gD2) κ2 (jI ((k : Nat) : Int)) (gH2, gU2, gF2, gX2, gW2, gI2, gP2, gA2, gR2) q2 H locs ls hI2 hP hD hS (lv_sub hl [2, 3, 4, 5, 6] rfl)

set_option maxHeartbeats 16000000 in
set_option maxRecDepth 100000 in
/--  -/
theorem ls_gain {p : Program} {e : Env} {s : State} {m : MethodId} {below : List Frame} {meth : Method} {c : Code} (l : Launch) (hl9 : l.stackTraces = false) (D : va_G) (tys : List (ClassId × FieldType)) {cI cJ cZ cE cG cM cS : ClassId} (htI : tys[0]? = some (cI, .int)) (htJ : tys[1]? = some (cJ, .long)) (htZ : tys[2]? = some (cZ, .boolean)) (htE : tys[3]? = some (cE, .object RX1)) (htM : tys[4]? = some (cM, .object RX2)) (htS : tys[5]? = some (cS, .object RX4)) (htG : tys[6]? = some (cG, .array .int)) {b L : Nat} {xs : Nat → Int32} (C0 : LX p s m c b L xs) (hK : KK D tys s) (hXK : XK s) (hZ : XZ (fun q : Nat => s.heap.size ≤ q) s s.heap) (hN : XN s) (m0 : Nat) (a : Nat → Nat) (x0 q0 q1 : Nat) (qr : Nat → Nat) (o0 : Nat) (ms es : Nat) (gE gM gB : Nat → Zp) (gT : Nat → Nat) (gG : Nat → Zp) (gN : Nat → Nat) (gK : Nat → Zp) (gD : Nat → Bool) (κ : Nat → EG) (hI : INV (ms, es, gE, gM, gB, gT, gG, gN, gK, gD) κ) (th : Int32) (c9 : KR) (q : Nat → Int) {H : Heap} {locs : List Loc} {cells slots : Nat} {Q : State → Prop} {ls : Array Slot} {i : Nat} (hi : 7 * i + 7 ≤ L) (hP : va_P D vwCl ((xOut cJ o0 q :: (CW cI cE cG cM cS x0 q0 q1 qr (ms, es, gE, gM, gB, gT, gG, gN, gK, gD) κ)) ++ (RS cI cJ cZ m0 a th (ms, es, gE, gM, gB, gT, gG, gN, gK, gD) c9)) H) (hD : va_D (fun q : Nat => s.heap.size ≤ q) ((xOut cJ o0 q :: (CW cI cE cG cM cS x0 q0 q1 qr (ms, es, gE, gM, gB, gT, gG, gN, gK, gD) κ)) ++ (RS cI cJ cZ m0 a th (ms, es, gE, gM, gB, gT, gG, gN, gK, gD) c9))) (hS : va_S (fun q : Nat => s.heap.size ≤ q) s.heap H locs) (hl : lv_has ls 7 [(4, .int (jI ((7 * i : Nat) : Int))), (0, .ref b), (1, .ref x0), (2, .ref m0), (3, .ref o0)]) (hc : cells + 228 ≤ 601024) (hs : slots + 867 ≤ 7293034)
    (kk : ∀ (g2 : SG) (κ2 : Nat → EG) (th2 : Int32) (c2 : KR) (q2 : Nat → Int) (H1 : Heap) (locs1 : List Loc) (ls1 : Array Slot), INV g2 κ2 → va_P D vwCl ((xOut cJ o0 q2 :: (CW cI cE cG cM cS x0 q0 q1 qr g2 κ2)) ++ (RS cI cJ cZ m0 a th2 g2 c2)) H1 → va_D (fun q : Nat => s.heap.size ≤ q) ((xOut cJ o0 q2 :: (CW cI cE cG cM cS x0 q0 q1 qr g2 κ2)) ++ (RS cI cJ cZ m0 a th2 g2 c2)) → va_S (fun q : Nat => s.heap.size ≤ q) s.heap H1 locs1 → lv_has ls1 7 [(4, .int (jI ((7 * i : Nat) : Int))), (0, .ref b), (1, .ref x0), (2, .ref m0), (3, .ref o0)] → W p l e room_1 s m #[Value.ref b] below meth c H1 locs1 (cells + 228) (slots + 867) Q (F0 m 1384 ls1 [])) : W p l e room_1 s m #[Value.ref b] below meth c H locs cells slots Q (F0 m 904 ls []) := by
  obtain ⟨hx, hb, hml, hown, hts, hX, hbl, hL⟩ := C0
  have hA : ∀ q : Nat, s.heap.size ≤ q → (fun q : Nat => s.heap.size ≤ q) q := fun _ h => h
  have hbA : ¬ (fun q : Nat => s.heap.size ≤ q) b := Nat.not_le.mpr hbl
  obtain ⟨z1, ez1, r1⟩ := i32_j (xs (7 * i + 1))
  obtain ⟨z2, ez2, r2⟩ := i32_j (xs (7 * i + 2))
  obtain ⟨z3, ez3, r3⟩ := i32_j (xs (7 * i + 3))
  obtain ⟨z4, ez4, r4⟩ := i32_j (xs (7 * i + 4))
  obtain ⟨z5, ez5, r5⟩ := i32_j (xs (7 * i + 5))
  obtain ⟨gH, gU, gF, gX, gW, gI, gP, gA, gR⟩ := c9
  obtain ⟨k, v, ⟨ms2, es2, gE2, gM2, gB2, gT2, gG2, gN2, gK2, gD2⟩, ⟨hk4, hR⟩, hC⟩ := st_gain l hl9 D tys htI htJ htZ htE htM htS htG m0 a x0 q0 q1 qr ms es gE gM gB gT gG gN gK gD κ hI z1 z2 z3 z4 z5 r1 r2 r3 r4 r5
  have hW := w_gain l D tys htJ x0 q0 q1 qr ms es gE gM gB gT gG gN gK gD κ (jI z1) (jI z2) (jI z3) (jI z4) (jI z5) (ms2, es2, gE2, gM2, gB2, gT2, gG2, gN2, gK2, gD2) k v hC o0 q
  refine lv_aload_n hx hb dL_law_904 rfl (lv_at hl 2 rfl) ?_
  refine lv_aload_n hx hb dL_law_905 rfl (lv_at hl 1 rfl) ?_
  refine lv_iload hx hb dL_law_906 (lv_at hl 0 rfl) ?_
  refine n_iconst hx hb dL_law_908 ?_
  refine n_iadd hx hb dL_law_909 ?_
  refine s_ld (i := 7 * i + 1) hx hb hX hbl hbA hS (by omega) (by omega) hL ez1 dL_law_910 ?_
  refine lv_aload_n hx hb dL_law_911 rfl (lv_at hl 1 rfl) ?_
  refine lv_iload hx hb dL_law_912 (lv_at hl 0 rfl) ?_
  refine n_iconst hx hb dL_law_914 ?_
  refine n_iadd hx hb dL_law_915 ?_
  refine s_ld (i := 7 * i + 2) hx hb hX hbl hbA hS (by omega) (by omega) hL ez2 dL_law_916 ?_
  refine lv_aload_n hx hb dL_law_917 rfl (lv_at hl 1 rfl) ?_
  refine lv_iload hx hb dL_law_918 (lv_at hl 0 rfl) ?_
  refine n_iconst hx hb dL_law_920 ?_
  refine n_iadd hx hb dL_law_921 ?_
  refine s_ld (i := 7 * i + 3) hx hb hX hbl hbA hS (by omega) (by omega) hL ez3 dL_law_922 ?_
  refine lv_aload_n hx hb dL_law_923 rfl (lv_at hl 1 rfl) ?_
  refine lv_iload hx hb dL_law_924 (lv_at hl 0 rfl) ?_
  refine n_iconst hx hb dL_law_926 ?_
  refine n_iadd hx hb dL_law_927 ?_
  refine s_ld (i := 7 * i + 4) hx hb hX hbl hbA hS (by omega) (by omega) hL ez4 dL_law_928 ?_
  refine lv_aload_n hx hb dL_law_929 rfl (lv_at hl 1 rfl) ?_
  refine lv_iload hx hb dL_law_930 (lv_at hl 0 rfl) ?_
  refine n_iconst hx hb dL_law_932 ?_
  refine n_iadd hx hb dL_law_933 ?_
  refine s_ld (i := 7 * i + 5) hx hb hX hbl hbA hS (by omega) (by omega) hL ez5 dL_law_934 ?_
  refine lv_aload_n hx hb dL_law_935 rfl (lv_at hl 4 rfl) ?_
  refine a_goNI (vx_runSW (As := [.ref x0, .int (jI z1), .int (jI z2), .int (jI z3), .int (jI z4), .int (jI z5), .ref o0]) (rest := []) ⟨hx, hb, hml, hown, hts⟩ (hW _) (vx_cwSW 7 hts gL_law_L_gain rfl rfl rfl (by decide +kernel) ⟨(Nat.le_of_ble_eq_true rfl), (Nat.le_of_ble_eq_true rfl)⟩) (c_pre hK hXK hZ hN hP hD hS hA) rfl rfl hl.1 rfl (lv_room (Nat.le_of_ble_eq_true rfl)) dL_law_936 ⟨hc, hs⟩) hP hD hS hA (fun r u H locs hpost hP hD hS => ?_)
  obtain ⟨κ2, q2⟩ := u
  obtain ⟨hr9, hI2, hv⟩ := hpost
  subst hr9
  have hP : va_P D vwCl ((xOut cJ o0 q2 :: (CW cI cE cG cM cS x0 q0 q1 qr (ms2, es2, gE2, gM2, gB2, gT2, gG2, gN2, gK2, gD2) κ2)) ++ (RS cI cJ cZ m0 a th (ms, es, gE, gM, gB, gT, gG, gN, gK, gD) (gH, gU, gF, gX, gW, gI, gP, gA, gR))) H := hP
  have hD : va_D (fun q : Nat => s.heap.size ≤ q) ((xOut cJ o0 q2 :: (CW cI cE cG cM cS x0 q0 q1 qr (ms2, es2, gE2, gM2, gB2, gT2, gG2, gN2, gK2, gD2) κ2)) ++ (RS cI cJ cZ m0 a th (ms, es, gE, gM, gB, gT, gG, gN, gK, gD) (gH, gU, gF, gX, gW, gI, gP, gA, gR))) := hD
  refine lv_istore (lv' := [(5, .int (jI ((k : Nat) : Int))), (4, .int (jI ((7 * i : Nat) : Int))), (0, .ref b), (1, .ref x0), (2, .ref m0), (3, .ref o0)]) hx hb dL_law_939 hl (by decide) rfl (fun ls hl => ?_)
  refine lv_aload_n hx hb dL_law_941 rfl (lv_at hl 4 rfl) ?_
  refine lv_aload_n hx hb dL_law_942 rfl (lv_at hl 2 rfl) ?_
  refine lv_iload hx hb dL_law_943 (lv_at hl 1 rfl) ?_
  refine n_iconst hx hb dL_law_945 ?_
  refine n_iadd hx hb dL_law_946 ?_
  refine s_ld (i := 7 * i + 1) hx hb hX hbl hbA hS (by omega) (by omega) hL ez1 dL_law_947 ?_
  refine lv_aload_n hx hb dL_law_948 rfl (lv_at hl 2 rfl) ?_
  refine lv_iload hx hb dL_law_949 (lv_at hl 1 rfl) ?_
  refine n_iconst hx hb dL_law_951 ?_
  refine n_iadd hx hb dL_law_952 ?_
  refine s_ld (i := 7 * i + 2) hx hb hX hbl hbA hS (by omega) (by omega) hL ez2 dL_law_953 ?_
  refine lv_aload_n hx hb dL_law_954 rfl (lv_at hl 2 rfl) ?_
  refine lv_iload hx hb dL_law_955 (lv_at hl 1 rfl) ?_
  refine n_iconst hx hb dL_law_957 ?_
  refine n_iadd hx hb dL_law_958 ?_
  refine s_ld (i := 7 * i + 3) hx hb hX hbl hbA hS (by omega) (by omega) hL ez3 dL_law_959 ?_
  refine lv_aload_n hx hb dL_law_960 rfl (lv_at hl 2 rfl) ?_
  refine lv_iload hx hb dL_law_961 (lv_at hl 1 rfl) ?_
  refine n_iconst hx hb dL_law_963 ?_
  refine n_iadd hx hb dL_law_964 ?_
  refine s_ld (i := 7 * i + 4) hx hb hX hbl hbA hS (by omega) (by omega) hL ez4 dL_law_965 ?_
  refine lv_aload_n hx hb dL_law_966 rfl (lv_at hl 2 rfl) ?_
  refine lv_iload hx hb dL_law_967 (lv_at hl 1 rfl) ?_
  refine n_iconst hx hb dL_law_969 ?_
  refine n_iadd hx hb dL_law_970 ?_
  refine s_ld (i := 7 * i + 5) hx hb hX hbl hbA hS (by omega) (by omega) hL ez5 dL_law_971 ?_
  have hP : va_P D vwCl ((RS cI cJ cZ m0 a th (ms, es, gE, gM, gB, gT, gG, gN, gK, gD) (gH, gU, gF, gX, gW, gI, gP, gA, gR)) ++ (xOut cJ o0 q2 :: (CW cI cE cG cM cS x0 q0 q1 qr (ms2, es2, gE2, gM2, gB2, gT2, gG2, gN2, gK2, gD2) κ2))) H := hP.perm (List.perm_append_comm (l₁ := (xOut cJ o0 q2 :: (CW cI cE cG cM cS x0 q0 q1 qr (ms2, es2, gE2, gM2, gB2, gT2, gG2, gN2, gK2, gD2) κ2))) (l₂ := (RS cI cJ cZ m0 a th (ms, es, gE, gM, gB, gT, gG, gN, gK, gD) (gH, gU, gF, gX, gW, gI, gP, gA, gR))))
  have hD : va_D (fun q : Nat => s.heap.size ≤ q) ((RS cI cJ cZ m0 a th (ms, es, gE, gM, gB, gT, gG, gN, gK, gD) (gH, gU, gF, gX, gW, gI, gP, gA, gR)) ++ (xOut cJ o0 q2 :: (CW cI cE cG cM cS x0 q0 q1 qr (ms2, es2, gE2, gM2, gB2, gT2, gG2, gN2, gK2, gD2) κ2))) := hD.perm (List.perm_append_comm (l₁ := (xOut cJ o0 q2 :: (CW cI cE cG cM cS x0 q0 q1 qr (ms2, es2, gE2, gM2, gB2, gT2, gG2, gN2, gK2, gD2) κ2))) (l₂ := (RS cI cJ cZ m0 a th (ms, es, gE, gM, gB, gT, gG, gN, gK, gD) (gH, gU, gF, gX, gW, gI, gP, gA, gR))))
  have ct := hR th (gH, gU, gF, gX, gW, gI, gP, gA, gR)
  refine a_goE (va_runV (As := [.int (jI z1), .int (jI z2), .int (jI z3), .int (jI z4), .int (jI z5)]) (rest := []) ⟨hx, hb, hml, hown, hts⟩ (ct.2 _) (cwV 5 hts gL_law_X7_gain rfl rfl rfl (by decide +kernel) ⟨(Nat.le_of_ble_eq_true rfl), (Nat.le_of_ble_eq_true rfl)⟩) ⟨(a_pre hK hP hD).1, va_recv hK.1 hP (ci := 7) (q0 := 0) rfl rfl, (a_pre hK hP hD).2⟩ rfl rfl hl.1 rfl (lv_room (Nat.le_of_ble_eq_true rfl)) dL_law_972 ⟨by show cells + 228 + 0 ≤ 601024; omega, by show slots + 867 + 0 ≤ 7293034; omega⟩) ct.1 hP hD hS hA (fun r c2 H locs hrv hP hD hS => ?_)
  obtain ⟨gH2, gU2, gF2, gX2, gW2, gI2, gP2, gA2, gR2⟩ := c2
  have hP : va_P D vwCl ((RS cI cJ cZ m0 a (jI ((k : Nat) : Int)) (ms2, es2, gE2, gM2, gB2, gT2, gG2, gN2, gK2, gD2) (gH2, gU2, gF2, gX2, gW2, gI2, gP2, gA2, gR2)) ++ (xOut cJ o0 q2 :: (CW cI cE cG cM cS x0 q0 q1 qr (ms2, es2, gE2, gM2, gB2, gT2, gG2, gN2, gK2, gD2) κ2))) H := hP
  have hD : va_D (fun q : Nat => s.heap.size ≤ q) ((RS cI cJ cZ m0 a (jI ((k : Nat) : Int)) (ms2, es2, gE2, gM2, gB2, gT2, gG2, gN2, gK2, gD2) (gH2, gU2, gF2, gX2, gW2, gI2, gP2, gA2, gR2)) ++ (xOut cJ o0 q2 :: (CW cI cE cG cM cS x0 q0 q1 qr (ms2, es2, gE2, gM2, gB2, gT2, gG2, gN2, gK2, gD2) κ2))) := hD
  subst hrv
  refine lv_istore (lv' := [(6, .int r), (5, .int (jI ((k : Nat) : Int))), (4, .int (jI ((7 * i : Nat) : Int))), (0, .ref b), (1, .ref x0), (2, .ref m0), (3, .ref o0)]) hx hb dL_law_975 hl (by decide) rfl (fun ls hl => ?_)
  refine lv_aload_n hx hb dL_law_977 rfl (lv_at hl 5 rfl) ?_
  have cq := c_X7_thrown l D tys m0 a ms2 es2 (jI ((k : Nat) : Int))
  refine k_goI (va_runV (As := []) (rest := []) ⟨hx, hb, hml, hown, hts⟩ (cq.2 _) (cwV 0 hts gL_law_X7_thrown rfl rfl rfl (by decide +kernel) ⟨(Nat.le_of_ble_eq_true rfl), (Nat.le_of_ble_eq_true rfl)⟩) ⟨(k_pre hK hP hD (is := [0]) rfl rfl).1, va_recv hK.1 hP (ci := 7) (q0 := 0) rfl rfl, (k_pre hK hP hD (is := [0]) rfl rfl).2⟩ rfl rfl hl.1 rfl (lv_room (Nat.le_of_ble_eq_true rfl)) dL_law_978 ⟨by show cells + 228 + 0 ≤ 601024; omega, by show slots + 867 + 0 ≤ 7293034; omega⟩) cq.1 hP hD hS hA [0] rfl rfl (fun H locs hP hD hS => ?_)
  have hP : va_P D vwCl ((RS cI cJ cZ m0 a (jI ((k : Nat) : Int)) (ms2, es2, gE2, gM2, gB2, gT2, gG2, gN2, gK2, gD2) (gH2, gU2, gF2, gX2, gW2, gI2, gP2, gA2, gR2)) ++ (xOut cJ o0 q2 :: (CW cI cE cG cM cS x0 q0 q1 qr (ms2, es2, gE2, gM2, gB2, gT2, gG2, gN2, gK2, gD2) κ2))) H := hP
  have hD : va_D (fun q : Nat => s.heap.size ≤ q) ((RS cI cJ cZ m0 a (jI ((k : Nat) : Int)) (ms2, es2, gE2, gM2, gB2, gT2, gG2, gN2, gK2, gD2) (gH2, gU2, gF2, gX2, gW2, gI2, gP2, gA2, gR2)) ++ (xOut cJ o0 q2 :: (CW cI cE cG cM cS x0 q0 q1 qr (ms2, es2, gE2, gM2, gB2, gT2, gG2, gN2, gK2, gD2) κ2))) := hD
  have hP : va_P D vwCl ((xOut cJ o0 q2 :: (CW cI cE cG cM cS x0 q0 q1 qr (ms2, es2, gE2, gM2, gB2, gT2, gG2, gN2, gK2, gD2) κ2)) ++ (RS cI cJ cZ m0 a (jI ((k : Nat) : Int)) (ms2, es2, gE2, gM2, gB2, gT2, gG2, gN2, gK2, gD2) (gH2, gU2, gF2, gX2, gW2, gI2, gP2, gA2, gR2))) H := hP.perm (List.perm_append_comm (l₁ := (RS cI cJ cZ m0 a (jI ((k : Nat) : Int)) (ms2, es2, gE2, gM2, gB2, gT2, gG2, gN2, gK2, gD2) (gH2, gU2, gF2, gX2, gW2, gI2, gP2, gA2, gR2))) (l₂ := (xOut cJ o0 q2 :: (CW cI cE cG cM cS x0 q0 q1 qr (ms2, es2, gE2, gM2, gB2, gT2, gG2, gN2, gK2, gD2) κ2))))
  have hD : va_D (fun q : Nat => s.heap.size ≤ q) ((xOut cJ o0 q2 :: (CW cI cE cG cM cS x0 q0 q1 qr (ms2, es2, gE2, gM2, gB2, gT2, gG2, gN2, gK2, gD2) κ2)) ++ (RS cI cJ cZ m0 a (jI ((k : Nat) : Int)) (ms2, es2, gE2, gM2, gB2, gT2, gG2, gN2, gK2, gD2) (gH2, gU2, gF2, gX2, gW2, gI2, gP2, gA2, gR2))) := hD.perm (List.perm_append_comm (l₁ := (RS cI cJ cZ m0 a (jI ((k : Nat) : Int)) (ms2, es2, gE2, gM2, gB2, gT2, gG2, gN2, gK2, gD2) (gH2, gU2, gF2, gX2, gW2, gI2, gP2, gA2, gR2))) (l₂ := (xOut cJ o0 q2 :: (CW cI cE cG cM cS x0 q0 q1 qr (ms2, es2, gE2, gM2, gB2, gT2, gG2, gN2, gK2, gD2) κ2))))
  refine lv_iload hx hb dL_law_981 (lv_at hl 1 rfl) ?_
  refine lv_icmp_eq (tgt := 988) hx hb dL_law_983 (by decide) (fun _ => ?_) (fun h9 => absurd rfl h9)
  refine lv_iload hx hb dL_law_988 (lv_at hl 1 rfl) ?_
  refine n_if_ne (tgt := 1005) hx hb (by unfold r32; omega) dL_law_990 (by decide) (fun h0 => ?_) (fun h0 => ?_)
  · refine lv_goto (tgt := 1384) hx hb dL_law_1005 (by decide) ?_
    exact kk (ms2, es2, gE2, gM2, gB2, gT2, gG2, gN2, gK2, gD2) κ2 (jI ((k : Nat) : Int)) (gH2, gU2, gF2, gX2, gW2, gI2, gP2, gA2, gR2) q2 H locs ls hI2 hP hD hS (lv_sub hl [2, 3, 4, 5, 6] rfl)
  · obtain ⟨hv1, hv2⟩ := hv (by omega)
    have hv1 : jI (q2 0) = r := hv1
    have hv2 : r32 (q2 0) := hv2
    subst hv1
    refine lv_aload_n hx hb dL_law_993 rfl (lv_at hl 6 rfl) ?_
    refine n_iconst hx hb dL_law_994 ?_
    refine n_lald (i := 0) hx hb hK hP 0 1 rfl htJ rfl (Nat.le_of_ble_eq_true rfl) (Nat.le_of_ble_eq_true rfl) dL_law_995 ?_
    refine lv_iload hx hb dL_law_996 (lv_at hl 0 rfl) ?_
    refine n_i2l hx hb dL_law_998 hv2.1 hv2.2 ?_
    refine W.lcmp hx hb dL_law_999 ?_
    refine n_lif_eq (tgt := 1005) hx hb (by have := hv2.1; have := hv2.2; unfold r64; omega) (by have := hv2.1; have := hv2.2; unfold r64; omega) dL_law_1000 (by decide) (fun _ => ?_) (fun h9 => absurd rfl h9)
    refine lv_goto (tgt := 1384) hx hb dL_law_1005 (by decide) ?_
    exact kk (ms2, es2, gE2, gM2, gB2, gT2, gG2, gN2, gK2, gD2) κ2 (jI ((k : Nat) : Int)) (gH2, gU2, gF2, gX2, gW2, gI2, gP2, gA2, gR2) q2 H locs ls hI2 hP hD hS (lv_sub hl [2, 3, 4, 5, 6] rfl)

set_option maxHeartbeats 16000000 in
set_option maxRecDepth 100000 in
/--  -/
theorem ls_information {p : Program} {e : Env} {s : State} {m : MethodId} {below : List Frame} {meth : Method} {c : Code} (l : Launch) (hl9 : l.stackTraces = false) (D : va_G) (tys : List (ClassId × FieldType)) {cI cJ cZ cE cG cM cS : ClassId} (htI : tys[0]? = some (cI, .int)) (htJ : tys[1]? = some (cJ, .long)) (htZ : tys[2]? = some (cZ, .boolean)) (htE : tys[3]? = some (cE, .object RX1)) (htM : tys[4]? = some (cM, .object RX2)) (htS : tys[5]? = some (cS, .object RX4)) (htG : tys[6]? = some (cG, .array .int)) {b L : Nat} {xs : Nat → Int32} (C0 : LX p s m c b L xs) (hK : KK D tys s) (hXK : XK s) (hZ : XZ (fun q : Nat => s.heap.size ≤ q) s s.heap) (hN : XN s) (m0 : Nat) (a : Nat → Nat) (x0 q0 q1 : Nat) (qr : Nat → Nat) (o0 : Nat) (ms es : Nat) (gE gM gB : Nat → Zp) (gT : Nat → Nat) (gG : Nat → Zp) (gN : Nat → Nat) (gK : Nat → Zp) (gD : Nat → Bool) (κ : Nat → EG) (hI : INV (ms, es, gE, gM, gB, gT, gG, gN, gK, gD) κ) (th : Int32) (c9 : KR) (q : Nat → Int) {H : Heap} {locs : List Loc} {cells slots : Nat} {Q : State → Prop} {ls : Array Slot} {i : Nat} (hi : 7 * i + 7 ≤ L) (hP : va_P D vwCl ((xOut cJ o0 q :: (CW cI cE cG cM cS x0 q0 q1 qr (ms, es, gE, gM, gB, gT, gG, gN, gK, gD) κ)) ++ (RS cI cJ cZ m0 a th (ms, es, gE, gM, gB, gT, gG, gN, gK, gD) c9)) H) (hD : va_D (fun q : Nat => s.heap.size ≤ q) ((xOut cJ o0 q :: (CW cI cE cG cM cS x0 q0 q1 qr (ms, es, gE, gM, gB, gT, gG, gN, gK, gD) κ)) ++ (RS cI cJ cZ m0 a th (ms, es, gE, gM, gB, gT, gG, gN, gK, gD) c9))) (hS : va_S (fun q : Nat => s.heap.size ≤ q) s.heap H locs) (hl : lv_has ls 7 [(4, .int (jI ((7 * i : Nat) : Int))), (0, .ref b), (1, .ref x0), (2, .ref m0), (3, .ref o0)]) (hc : cells + 228 ≤ 601024) (hs : slots + 867 ≤ 7293034)
    (kk : ∀ (g2 : SG) (κ2 : Nat → EG) (th2 : Int32) (c2 : KR) (q2 : Nat → Int) (H1 : Heap) (locs1 : List Loc) (ls1 : Array Slot), INV g2 κ2 → va_P D vwCl ((xOut cJ o0 q2 :: (CW cI cE cG cM cS x0 q0 q1 qr g2 κ2)) ++ (RS cI cJ cZ m0 a th2 g2 c2)) H1 → va_D (fun q : Nat => s.heap.size ≤ q) ((xOut cJ o0 q2 :: (CW cI cE cG cM cS x0 q0 q1 qr g2 κ2)) ++ (RS cI cJ cZ m0 a th2 g2 c2)) → va_S (fun q : Nat => s.heap.size ≤ q) s.heap H1 locs1 → lv_has ls1 7 [(4, .int (jI ((7 * i : Nat) : Int))), (0, .ref b), (1, .ref x0), (2, .ref m0), (3, .ref o0)] → W p l e room_1 s m #[Value.ref b] below meth c H1 locs1 (cells + 228) (slots + 867) Q (F0 m 1384 ls1 [])) : W p l e room_1 s m #[Value.ref b] below meth c H locs cells slots Q (F0 m 1008 ls []) := by
  obtain ⟨hx, hb, hml, hown, hts, hX, hbl, hL⟩ := C0
  have hA : ∀ q : Nat, s.heap.size ≤ q → (fun q : Nat => s.heap.size ≤ q) q := fun _ h => h
  have hbA : ¬ (fun q : Nat => s.heap.size ≤ q) b := Nat.not_le.mpr hbl
  obtain ⟨z1, ez1, r1⟩ := i32_j (xs (7 * i + 1))
  obtain ⟨z2, ez2, r2⟩ := i32_j (xs (7 * i + 2))
  obtain ⟨gH, gU, gF, gX, gW, gI, gP, gA, gR⟩ := c9
  obtain ⟨k, v, ⟨ms2, es2, gE2, gM2, gB2, gT2, gG2, gN2, gK2, gD2⟩, ⟨hk4, hR⟩, hC⟩ := st_information l hl9 D tys htI htJ htZ htE htM htS htG m0 a x0 q0 q1 qr ms es gE gM gB gT gG gN gK gD κ hI z1 z2 r1 r2
  have hW := w_information l D tys htJ x0 q0 q1 qr ms es gE gM gB gT gG gN gK gD κ (jI z1) (jI z2) (ms2, es2, gE2, gM2, gB2, gT2, gG2, gN2, gK2, gD2) k v hC o0 q
  refine lv_aload_n hx hb dL_law_1008 rfl (lv_at hl 2 rfl) ?_
  refine lv_aload_n hx hb dL_law_1009 rfl (lv_at hl 1 rfl) ?_
  refine lv_iload hx hb dL_law_1010 (lv_at hl 0 rfl) ?_
  refine n_iconst hx hb dL_law_1012 ?_
  refine n_iadd hx hb dL_law_1013 ?_
  refine s_ld (i := 7 * i + 1) hx hb hX hbl hbA hS (by omega) (by omega) hL ez1 dL_law_1014 ?_
  refine lv_aload_n hx hb dL_law_1015 rfl (lv_at hl 1 rfl) ?_
  refine lv_iload hx hb dL_law_1016 (lv_at hl 0 rfl) ?_
  refine n_iconst hx hb dL_law_1018 ?_
  refine n_iadd hx hb dL_law_1019 ?_
  refine s_ld (i := 7 * i + 2) hx hb hX hbl hbA hS (by omega) (by omega) hL ez2 dL_law_1020 ?_
  refine lv_aload_n hx hb dL_law_1021 rfl (lv_at hl 4 rfl) ?_
  refine a_goNI (vx_runSW (As := [.ref x0, .int (jI z1), .int (jI z2), .ref o0]) (rest := []) ⟨hx, hb, hml, hown, hts⟩ (hW _) (vx_cwSW 4 hts gL_law_L_information rfl rfl rfl (by decide +kernel) ⟨(Nat.le_of_ble_eq_true rfl), (Nat.le_of_ble_eq_true rfl)⟩) (c_pre hK hXK hZ hN hP hD hS hA) rfl rfl hl.1 rfl (lv_room (Nat.le_of_ble_eq_true rfl)) dL_law_1022 ⟨hc, hs⟩) hP hD hS hA (fun r u H locs hpost hP hD hS => ?_)
  obtain ⟨κ2, q2⟩ := u
  obtain ⟨hr9, hI2, hv⟩ := hpost
  subst hr9
  have hP : va_P D vwCl ((xOut cJ o0 q2 :: (CW cI cE cG cM cS x0 q0 q1 qr (ms2, es2, gE2, gM2, gB2, gT2, gG2, gN2, gK2, gD2) κ2)) ++ (RS cI cJ cZ m0 a th (ms, es, gE, gM, gB, gT, gG, gN, gK, gD) (gH, gU, gF, gX, gW, gI, gP, gA, gR))) H := hP
  have hD : va_D (fun q : Nat => s.heap.size ≤ q) ((xOut cJ o0 q2 :: (CW cI cE cG cM cS x0 q0 q1 qr (ms2, es2, gE2, gM2, gB2, gT2, gG2, gN2, gK2, gD2) κ2)) ++ (RS cI cJ cZ m0 a th (ms, es, gE, gM, gB, gT, gG, gN, gK, gD) (gH, gU, gF, gX, gW, gI, gP, gA, gR))) := hD
  refine lv_istore (lv' := [(5, .int (jI ((k : Nat) : Int))), (4, .int (jI ((7 * i : Nat) : Int))), (0, .ref b), (1, .ref x0), (2, .ref m0), (3, .ref o0)]) hx hb dL_law_1025 hl (by decide) rfl (fun ls hl => ?_)
  refine lv_aload_n hx hb dL_law_1027 rfl (lv_at hl 4 rfl) ?_
  refine lv_aload_n hx hb dL_law_1028 rfl (lv_at hl 2 rfl) ?_
  refine lv_iload hx hb dL_law_1029 (lv_at hl 1 rfl) ?_
  refine n_iconst hx hb dL_law_1031 ?_
  refine n_iadd hx hb dL_law_1032 ?_
  refine s_ld (i := 7 * i + 1) hx hb hX hbl hbA hS (by omega) (by omega) hL ez1 dL_law_1033 ?_
  refine lv_aload_n hx hb dL_law_1034 rfl (lv_at hl 2 rfl) ?_
  refine lv_iload hx hb dL_law_1035 (lv_at hl 1 rfl) ?_
  refine n_iconst hx hb dL_law_1037 ?_
  refine n_iadd hx hb dL_law_1038 ?_
  refine s_ld (i := 7 * i + 2) hx hb hX hbl hbA hS (by omega) (by omega) hL ez2 dL_law_1039 ?_
  have hP : va_P D vwCl ((RS cI cJ cZ m0 a th (ms, es, gE, gM, gB, gT, gG, gN, gK, gD) (gH, gU, gF, gX, gW, gI, gP, gA, gR)) ++ (xOut cJ o0 q2 :: (CW cI cE cG cM cS x0 q0 q1 qr (ms2, es2, gE2, gM2, gB2, gT2, gG2, gN2, gK2, gD2) κ2))) H := hP.perm (List.perm_append_comm (l₁ := (xOut cJ o0 q2 :: (CW cI cE cG cM cS x0 q0 q1 qr (ms2, es2, gE2, gM2, gB2, gT2, gG2, gN2, gK2, gD2) κ2))) (l₂ := (RS cI cJ cZ m0 a th (ms, es, gE, gM, gB, gT, gG, gN, gK, gD) (gH, gU, gF, gX, gW, gI, gP, gA, gR))))
  have hD : va_D (fun q : Nat => s.heap.size ≤ q) ((RS cI cJ cZ m0 a th (ms, es, gE, gM, gB, gT, gG, gN, gK, gD) (gH, gU, gF, gX, gW, gI, gP, gA, gR)) ++ (xOut cJ o0 q2 :: (CW cI cE cG cM cS x0 q0 q1 qr (ms2, es2, gE2, gM2, gB2, gT2, gG2, gN2, gK2, gD2) κ2))) := hD.perm (List.perm_append_comm (l₁ := (xOut cJ o0 q2 :: (CW cI cE cG cM cS x0 q0 q1 qr (ms2, es2, gE2, gM2, gB2, gT2, gG2, gN2, gK2, gD2) κ2))) (l₂ := (RS cI cJ cZ m0 a th (ms, es, gE, gM, gB, gT, gG, gN, gK, gD) (gH, gU, gF, gX, gW, gI, gP, gA, gR))))
  have ct := hR th (gH, gU, gF, gX, gW, gI, gP, gA, gR)
  refine a_goE (va_runV (As := [.int (jI z1), .int (jI z2)]) (rest := []) ⟨hx, hb, hml, hown, hts⟩ (ct.2 _) (cwV 2 hts gL_law_X7_information rfl rfl rfl (by decide +kernel) ⟨(Nat.le_of_ble_eq_true rfl), (Nat.le_of_ble_eq_true rfl)⟩) ⟨(a_pre hK hP hD).1, va_recv hK.1 hP (ci := 7) (q0 := 0) rfl rfl, (a_pre hK hP hD).2⟩ rfl rfl hl.1 rfl (lv_room (Nat.le_of_ble_eq_true rfl)) dL_law_1040 ⟨by show cells + 228 + 0 ≤ 601024; omega, by show slots + 867 + 0 ≤ 7293034; omega⟩) ct.1 hP hD hS hA (fun r c2 H locs hrv hP hD hS => ?_)
  obtain ⟨gH2, gU2, gF2, gX2, gW2, gI2, gP2, gA2, gR2⟩ := c2
  have hP : va_P D vwCl ((RS cI cJ cZ m0 a (jI ((k : Nat) : Int)) (ms2, es2, gE2, gM2, gB2, gT2, gG2, gN2, gK2, gD2) (gH2, gU2, gF2, gX2, gW2, gI2, gP2, gA2, gR2)) ++ (xOut cJ o0 q2 :: (CW cI cE cG cM cS x0 q0 q1 qr (ms2, es2, gE2, gM2, gB2, gT2, gG2, gN2, gK2, gD2) κ2))) H := hP
  have hD : va_D (fun q : Nat => s.heap.size ≤ q) ((RS cI cJ cZ m0 a (jI ((k : Nat) : Int)) (ms2, es2, gE2, gM2, gB2, gT2, gG2, gN2, gK2, gD2) (gH2, gU2, gF2, gX2, gW2, gI2, gP2, gA2, gR2)) ++ (xOut cJ o0 q2 :: (CW cI cE cG cM cS x0 q0 q1 qr (ms2, es2, gE2, gM2, gB2, gT2, gG2, gN2, gK2, gD2) κ2))) := hD
  subst hrv
  refine lv_istore (lv' := [(6, .int r), (5, .int (jI ((k : Nat) : Int))), (4, .int (jI ((7 * i : Nat) : Int))), (0, .ref b), (1, .ref x0), (2, .ref m0), (3, .ref o0)]) hx hb dL_law_1043 hl (by decide) rfl (fun ls hl => ?_)
  refine lv_aload_n hx hb dL_law_1045 rfl (lv_at hl 5 rfl) ?_
  have cq := c_X7_thrown l D tys m0 a ms2 es2 (jI ((k : Nat) : Int))
  refine k_goI (va_runV (As := []) (rest := []) ⟨hx, hb, hml, hown, hts⟩ (cq.2 _) (cwV 0 hts gL_law_X7_thrown rfl rfl rfl (by decide +kernel) ⟨(Nat.le_of_ble_eq_true rfl), (Nat.le_of_ble_eq_true rfl)⟩) ⟨(k_pre hK hP hD (is := [0]) rfl rfl).1, va_recv hK.1 hP (ci := 7) (q0 := 0) rfl rfl, (k_pre hK hP hD (is := [0]) rfl rfl).2⟩ rfl rfl hl.1 rfl (lv_room (Nat.le_of_ble_eq_true rfl)) dL_law_1046 ⟨by show cells + 228 + 0 ≤ 601024; omega, by show slots + 867 + 0 ≤ 7293034; omega⟩) cq.1 hP hD hS hA [0] rfl rfl (fun H locs hP hD hS => ?_)
  have hP : va_P D vwCl ((RS cI cJ cZ m0 a (jI ((k : Nat) : Int)) (ms2, es2, gE2, gM2, gB2, gT2, gG2, gN2, gK2, gD2) (gH2, gU2, gF2, gX2, gW2, gI2, gP2, gA2, gR2)) ++ (xOut cJ o0 q2 :: (CW cI cE cG cM cS x0 q0 q1 qr (ms2, es2, gE2, gM2, gB2, gT2, gG2, gN2, gK2, gD2) κ2))) H := hP
  have hD : va_D (fun q : Nat => s.heap.size ≤ q) ((RS cI cJ cZ m0 a (jI ((k : Nat) : Int)) (ms2, es2, gE2, gM2, gB2, gT2, gG2, gN2, gK2, gD2) (gH2, gU2, gF2, gX2, gW2, gI2, gP2, gA2, gR2)) ++ (xOut cJ o0 q2 :: (CW cI cE cG cM cS x0 q0 q1 qr (ms2, es2, gE2, gM2, gB2, gT2, gG2, gN2, gK2, gD2) κ2))) := hD
  have hP : va_P D vwCl ((xOut cJ o0 q2 :: (CW cI cE cG cM cS x0 q0 q1 qr (ms2, es2, gE2, gM2, gB2, gT2, gG2, gN2, gK2, gD2) κ2)) ++ (RS cI cJ cZ m0 a (jI ((k : Nat) : Int)) (ms2, es2, gE2, gM2, gB2, gT2, gG2, gN2, gK2, gD2) (gH2, gU2, gF2, gX2, gW2, gI2, gP2, gA2, gR2))) H := hP.perm (List.perm_append_comm (l₁ := (RS cI cJ cZ m0 a (jI ((k : Nat) : Int)) (ms2, es2, gE2, gM2, gB2, gT2, gG2, gN2, gK2, gD2) (gH2, gU2, gF2, gX2, gW2, gI2, gP2, gA2, gR2))) (l₂ := (xOut cJ o0 q2 :: (CW cI cE cG cM cS x0 q0 q1 qr (ms2, es2, gE2, gM2, gB2, gT2, gG2, gN2, gK2, gD2) κ2))))
  have hD : va_D (fun q : Nat => s.heap.size ≤ q) ((xOut cJ o0 q2 :: (CW cI cE cG cM cS x0 q0 q1 qr (ms2, es2, gE2, gM2, gB2, gT2, gG2, gN2, gK2, gD2) κ2)) ++ (RS cI cJ cZ m0 a (jI ((k : Nat) : Int)) (ms2, es2, gE2, gM2, gB2, gT2, gG2, gN2, gK2, gD2) (gH2, gU2, gF2, gX2, gW2, gI2, gP2, gA2, gR2))) := hD.perm (List.perm_append_comm (l₁ := (RS cI cJ cZ m0 a (jI ((k : Nat) : Int)) (ms2, es2, gE2, gM2, gB2, gT2, gG2, gN2, gK2, gD2) (gH2, gU2, gF2, gX2, gW2, gI2, gP2, gA2, gR2))) (l₂ := (xOut cJ o0 q2 :: (CW cI cE cG cM cS x0 q0 q1 qr (ms2, es2, gE2, gM2, gB2, gT2, gG2, gN2, gK2, gD2) κ2))))
  refine lv_iload hx hb dL_law_1049 (lv_at hl 1 rfl) ?_
  refine lv_icmp_eq (tgt := 1056) hx hb dL_law_1051 (by decide) (fun _ => ?_) (fun h9 => absurd rfl h9)
  refine lv_iload hx hb dL_law_1056 (lv_at hl 1 rfl) ?_
  refine n_if_ne (tgt := 1073) hx hb (by unfold r32; omega) dL_law_1058 (by decide) (fun h0 => ?_) (fun h0 => ?_)
  · refine lv_goto (tgt := 1384) hx hb dL_law_1073 (by decide) ?_
    exact kk (ms2, es2, gE2, gM2, gB2, gT2, gG2, gN2, gK2, gD2) κ2 (jI ((k : Nat) : Int)) (gH2, gU2, gF2, gX2, gW2, gI2, gP2, gA2, gR2) q2 H locs ls hI2 hP hD hS (lv_sub hl [2, 3, 4, 5, 6] rfl)
  · obtain ⟨hv1, hv2⟩ := hv (by omega)
    have hv1 : jI (q2 0) = r := hv1
    have hv2 : r32 (q2 0) := hv2
    subst hv1
    refine lv_aload_n hx hb dL_law_1061 rfl (lv_at hl 6 rfl) ?_
    refine n_iconst hx hb dL_law_1062 ?_
    refine n_lald (i := 0) hx hb hK hP 0 1 rfl htJ rfl (Nat.le_of_ble_eq_true rfl) (Nat.le_of_ble_eq_true rfl) dL_law_1063 ?_
    refine lv_iload hx hb dL_law_1064 (lv_at hl 0 rfl) ?_
    refine n_i2l hx hb dL_law_1066 hv2.1 hv2.2 ?_
    refine W.lcmp hx hb dL_law_1067 ?_
    refine n_lif_eq (tgt := 1073) hx hb (by have := hv2.1; have := hv2.2; unfold r64; omega) (by have := hv2.1; have := hv2.2; unfold r64; omega) dL_law_1068 (by decide) (fun _ => ?_) (fun h9 => absurd rfl h9)
    refine lv_goto (tgt := 1384) hx hb dL_law_1073 (by decide) ?_
    exact kk (ms2, es2, gE2, gM2, gB2, gT2, gG2, gN2, gK2, gD2) κ2 (jI ((k : Nat) : Int)) (gH2, gU2, gF2, gX2, gW2, gI2, gP2, gA2, gR2) q2 H locs ls hI2 hP hD hS (lv_sub hl [2, 3, 4, 5, 6] rfl)

set_option maxHeartbeats 16000000 in
set_option maxRecDepth 100000 in
/--  -/
theorem ls_anew {p : Program} {e : Env} {s : State} {m : MethodId} {below : List Frame} {meth : Method} {c : Code} (l : Launch) (hl9 : l.stackTraces = false) (D : va_G) (tys : List (ClassId × FieldType)) {cI cJ cZ cE cG cM cS : ClassId} (htI : tys[0]? = some (cI, .int)) (htJ : tys[1]? = some (cJ, .long)) (htZ : tys[2]? = some (cZ, .boolean)) (htE : tys[3]? = some (cE, .object RX1)) (htM : tys[4]? = some (cM, .object RX2)) (htS : tys[5]? = some (cS, .object RX4)) (htG : tys[6]? = some (cG, .array .int)) {b L : Nat} {xs : Nat → Int32} (C0 : LX p s m c b L xs) (hK : KK D tys s) (hXK : XK s) (hZ : XZ (fun q : Nat => s.heap.size ≤ q) s s.heap) (hN : XN s) (m0 : Nat) (a : Nat → Nat) (x0 q0 q1 : Nat) (qr : Nat → Nat) (o0 : Nat) (ms es : Nat) (gE gM gB : Nat → Zp) (gT : Nat → Nat) (gG : Nat → Zp) (gN : Nat → Nat) (gK : Nat → Zp) (gD : Nat → Bool) (κ : Nat → EG) (hI : INV (ms, es, gE, gM, gB, gT, gG, gN, gK, gD) κ) (th : Int32) (c9 : KR) (q : Nat → Int) {H : Heap} {locs : List Loc} {cells slots : Nat} {Q : State → Prop} {ls : Array Slot} {i : Nat} (hi : 7 * i + 7 ≤ L) (hP : va_P D vwCl ((xOut cJ o0 q :: (CW cI cE cG cM cS x0 q0 q1 qr (ms, es, gE, gM, gB, gT, gG, gN, gK, gD) κ)) ++ (RS cI cJ cZ m0 a th (ms, es, gE, gM, gB, gT, gG, gN, gK, gD) c9)) H) (hD : va_D (fun q : Nat => s.heap.size ≤ q) ((xOut cJ o0 q :: (CW cI cE cG cM cS x0 q0 q1 qr (ms, es, gE, gM, gB, gT, gG, gN, gK, gD) κ)) ++ (RS cI cJ cZ m0 a th (ms, es, gE, gM, gB, gT, gG, gN, gK, gD) c9))) (hS : va_S (fun q : Nat => s.heap.size ≤ q) s.heap H locs) (hl : lv_has ls 7 [(4, .int (jI ((7 * i : Nat) : Int))), (0, .ref b), (1, .ref x0), (2, .ref m0), (3, .ref o0)]) (hc : cells + 228 ≤ 601024) (hs : slots + 867 ≤ 7293034)
    (kk : ∀ (g2 : SG) (κ2 : Nat → EG) (th2 : Int32) (c2 : KR) (q2 : Nat → Int) (H1 : Heap) (locs1 : List Loc) (ls1 : Array Slot), INV g2 κ2 → va_P D vwCl ((xOut cJ o0 q2 :: (CW cI cE cG cM cS x0 q0 q1 qr g2 κ2)) ++ (RS cI cJ cZ m0 a th2 g2 c2)) H1 → va_D (fun q : Nat => s.heap.size ≤ q) ((xOut cJ o0 q2 :: (CW cI cE cG cM cS x0 q0 q1 qr g2 κ2)) ++ (RS cI cJ cZ m0 a th2 g2 c2)) → va_S (fun q : Nat => s.heap.size ≤ q) s.heap H1 locs1 → lv_has ls1 7 [(4, .int (jI ((7 * i : Nat) : Int))), (0, .ref b), (1, .ref x0), (2, .ref m0), (3, .ref o0)] → W p l e room_1 s m #[Value.ref b] below meth c H1 locs1 (cells + 228) (slots + 867) Q (F0 m 1384 ls1 [])) : W p l e room_1 s m #[Value.ref b] below meth c H locs cells slots Q (F0 m 1076 ls []) := by
  obtain ⟨hx, hb, hml, hown, hts, hX, hbl, hL⟩ := C0
  have hA : ∀ q : Nat, s.heap.size ≤ q → (fun q : Nat => s.heap.size ≤ q) q := fun _ h => h
  have hbA : ¬ (fun q : Nat => s.heap.size ≤ q) b := Nat.not_le.mpr hbl
  obtain ⟨z1, ez1, r1⟩ := i32_j (xs (7 * i + 1))
  obtain ⟨z2, ez2, r2⟩ := i32_j (xs (7 * i + 2))
  obtain ⟨gH, gU, gF, gX, gW, gI, gP, gA, gR⟩ := c9
  obtain ⟨k, v, ⟨ms2, es2, gE2, gM2, gB2, gT2, gG2, gN2, gK2, gD2⟩, ⟨hk4, hR⟩, hC⟩ := st_anew l hl9 D tys htI htJ htZ htE htM htS htG m0 a x0 q0 q1 qr ms es gE gM gB gT gG gN gK gD κ hI z1 z2 r1 r2
  have hW := w_anew l D tys htJ x0 q0 q1 qr ms es gE gM gB gT gG gN gK gD κ (jI z1) (jI z2) (ms2, es2, gE2, gM2, gB2, gT2, gG2, gN2, gK2, gD2) k v hC o0 q
  refine lv_aload_n hx hb dL_law_1076 rfl (lv_at hl 2 rfl) ?_
  refine lv_aload_n hx hb dL_law_1077 rfl (lv_at hl 1 rfl) ?_
  refine lv_iload hx hb dL_law_1078 (lv_at hl 0 rfl) ?_
  refine n_iconst hx hb dL_law_1080 ?_
  refine n_iadd hx hb dL_law_1081 ?_
  refine s_ld (i := 7 * i + 1) hx hb hX hbl hbA hS (by omega) (by omega) hL ez1 dL_law_1082 ?_
  refine lv_aload_n hx hb dL_law_1083 rfl (lv_at hl 1 rfl) ?_
  refine lv_iload hx hb dL_law_1084 (lv_at hl 0 rfl) ?_
  refine n_iconst hx hb dL_law_1086 ?_
  refine n_iadd hx hb dL_law_1087 ?_
  refine s_ld (i := 7 * i + 2) hx hb hX hbl hbA hS (by omega) (by omega) hL ez2 dL_law_1088 ?_
  refine lv_aload_n hx hb dL_law_1089 rfl (lv_at hl 4 rfl) ?_
  refine a_goNI (vx_runSW (As := [.ref x0, .int (jI z1), .int (jI z2), .ref o0]) (rest := []) ⟨hx, hb, hml, hown, hts⟩ (hW _) (vx_cwSW 4 hts gL_law_L_anew rfl rfl rfl (by decide +kernel) ⟨(Nat.le_of_ble_eq_true rfl), (Nat.le_of_ble_eq_true rfl)⟩) (c_pre hK hXK hZ hN hP hD hS hA) rfl rfl hl.1 rfl (lv_room (Nat.le_of_ble_eq_true rfl)) dL_law_1090 ⟨hc, hs⟩) hP hD hS hA (fun r u H locs hpost hP hD hS => ?_)
  obtain ⟨κ2, q2⟩ := u
  obtain ⟨hr9, hI2, hv⟩ := hpost
  subst hr9
  have hP : va_P D vwCl ((xOut cJ o0 q2 :: (CW cI cE cG cM cS x0 q0 q1 qr (ms2, es2, gE2, gM2, gB2, gT2, gG2, gN2, gK2, gD2) κ2)) ++ (RS cI cJ cZ m0 a th (ms, es, gE, gM, gB, gT, gG, gN, gK, gD) (gH, gU, gF, gX, gW, gI, gP, gA, gR))) H := hP
  have hD : va_D (fun q : Nat => s.heap.size ≤ q) ((xOut cJ o0 q2 :: (CW cI cE cG cM cS x0 q0 q1 qr (ms2, es2, gE2, gM2, gB2, gT2, gG2, gN2, gK2, gD2) κ2)) ++ (RS cI cJ cZ m0 a th (ms, es, gE, gM, gB, gT, gG, gN, gK, gD) (gH, gU, gF, gX, gW, gI, gP, gA, gR))) := hD
  refine lv_istore (lv' := [(5, .int (jI ((k : Nat) : Int))), (4, .int (jI ((7 * i : Nat) : Int))), (0, .ref b), (1, .ref x0), (2, .ref m0), (3, .ref o0)]) hx hb dL_law_1093 hl (by decide) rfl (fun ls hl => ?_)
  refine lv_aload_n hx hb dL_law_1095 rfl (lv_at hl 4 rfl) ?_
  refine lv_aload_n hx hb dL_law_1096 rfl (lv_at hl 2 rfl) ?_
  refine lv_iload hx hb dL_law_1097 (lv_at hl 1 rfl) ?_
  refine n_iconst hx hb dL_law_1099 ?_
  refine n_iadd hx hb dL_law_1100 ?_
  refine s_ld (i := 7 * i + 1) hx hb hX hbl hbA hS (by omega) (by omega) hL ez1 dL_law_1101 ?_
  refine lv_aload_n hx hb dL_law_1102 rfl (lv_at hl 2 rfl) ?_
  refine lv_iload hx hb dL_law_1103 (lv_at hl 1 rfl) ?_
  refine n_iconst hx hb dL_law_1105 ?_
  refine n_iadd hx hb dL_law_1106 ?_
  refine s_ld (i := 7 * i + 2) hx hb hX hbl hbA hS (by omega) (by omega) hL ez2 dL_law_1107 ?_
  have hP : va_P D vwCl ((RS cI cJ cZ m0 a th (ms, es, gE, gM, gB, gT, gG, gN, gK, gD) (gH, gU, gF, gX, gW, gI, gP, gA, gR)) ++ (xOut cJ o0 q2 :: (CW cI cE cG cM cS x0 q0 q1 qr (ms2, es2, gE2, gM2, gB2, gT2, gG2, gN2, gK2, gD2) κ2))) H := hP.perm (List.perm_append_comm (l₁ := (xOut cJ o0 q2 :: (CW cI cE cG cM cS x0 q0 q1 qr (ms2, es2, gE2, gM2, gB2, gT2, gG2, gN2, gK2, gD2) κ2))) (l₂ := (RS cI cJ cZ m0 a th (ms, es, gE, gM, gB, gT, gG, gN, gK, gD) (gH, gU, gF, gX, gW, gI, gP, gA, gR))))
  have hD : va_D (fun q : Nat => s.heap.size ≤ q) ((RS cI cJ cZ m0 a th (ms, es, gE, gM, gB, gT, gG, gN, gK, gD) (gH, gU, gF, gX, gW, gI, gP, gA, gR)) ++ (xOut cJ o0 q2 :: (CW cI cE cG cM cS x0 q0 q1 qr (ms2, es2, gE2, gM2, gB2, gT2, gG2, gN2, gK2, gD2) κ2))) := hD.perm (List.perm_append_comm (l₁ := (xOut cJ o0 q2 :: (CW cI cE cG cM cS x0 q0 q1 qr (ms2, es2, gE2, gM2, gB2, gT2, gG2, gN2, gK2, gD2) κ2))) (l₂ := (RS cI cJ cZ m0 a th (ms, es, gE, gM, gB, gT, gG, gN, gK, gD) (gH, gU, gF, gX, gW, gI, gP, gA, gR))))
  have ct := hR th (gH, gU, gF, gX, gW, gI, gP, gA, gR)
  refine a_goE (va_runV (As := [.int (jI z1), .int (jI z2)]) (rest := []) ⟨hx, hb, hml, hown, hts⟩ (ct.2 _) (cwV 2 hts gL_law_X7_anew rfl rfl rfl (by decide +kernel) ⟨(Nat.le_of_ble_eq_true rfl), (Nat.le_of_ble_eq_true rfl)⟩) ⟨(a_pre hK hP hD).1, va_recv hK.1 hP (ci := 7) (q0 := 0) rfl rfl, (a_pre hK hP hD).2⟩ rfl rfl hl.1 rfl (lv_room (Nat.le_of_ble_eq_true rfl)) dL_law_1108 ⟨by show cells + 228 + 0 ≤ 601024; omega, by show slots + 867 + 0 ≤ 7293034; omega⟩) ct.1 hP hD hS hA (fun r c2 H locs hrv hP hD hS => ?_)
  obtain ⟨gH2, gU2, gF2, gX2, gW2, gI2, gP2, gA2, gR2⟩ := c2
  have hP : va_P D vwCl ((RS cI cJ cZ m0 a (jI ((k : Nat) : Int)) (ms2, es2, gE2, gM2, gB2, gT2, gG2, gN2, gK2, gD2) (gH2, gU2, gF2, gX2, gW2, gI2, gP2, gA2, gR2)) ++ (xOut cJ o0 q2 :: (CW cI cE cG cM cS x0 q0 q1 qr (ms2, es2, gE2, gM2, gB2, gT2, gG2, gN2, gK2, gD2) κ2))) H := hP
  have hD : va_D (fun q : Nat => s.heap.size ≤ q) ((RS cI cJ cZ m0 a (jI ((k : Nat) : Int)) (ms2, es2, gE2, gM2, gB2, gT2, gG2, gN2, gK2, gD2) (gH2, gU2, gF2, gX2, gW2, gI2, gP2, gA2, gR2)) ++ (xOut cJ o0 q2 :: (CW cI cE cG cM cS x0 q0 q1 qr (ms2, es2, gE2, gM2, gB2, gT2, gG2, gN2, gK2, gD2) κ2))) := hD
  subst hrv
  refine lv_istore (lv' := [(6, .int r), (5, .int (jI ((k : Nat) : Int))), (4, .int (jI ((7 * i : Nat) : Int))), (0, .ref b), (1, .ref x0), (2, .ref m0), (3, .ref o0)]) hx hb dL_law_1111 hl (by decide) rfl (fun ls hl => ?_)
  refine lv_aload_n hx hb dL_law_1113 rfl (lv_at hl 5 rfl) ?_
  have cq := c_X7_thrown l D tys m0 a ms2 es2 (jI ((k : Nat) : Int))
  refine k_goI (va_runV (As := []) (rest := []) ⟨hx, hb, hml, hown, hts⟩ (cq.2 _) (cwV 0 hts gL_law_X7_thrown rfl rfl rfl (by decide +kernel) ⟨(Nat.le_of_ble_eq_true rfl), (Nat.le_of_ble_eq_true rfl)⟩) ⟨(k_pre hK hP hD (is := [0]) rfl rfl).1, va_recv hK.1 hP (ci := 7) (q0 := 0) rfl rfl, (k_pre hK hP hD (is := [0]) rfl rfl).2⟩ rfl rfl hl.1 rfl (lv_room (Nat.le_of_ble_eq_true rfl)) dL_law_1114 ⟨by show cells + 228 + 0 ≤ 601024; omega, by show slots + 867 + 0 ≤ 7293034; omega⟩) cq.1 hP hD hS hA [0] rfl rfl (fun H locs hP hD hS => ?_)
  have hP : va_P D vwCl ((RS cI cJ cZ m0 a (jI ((k : Nat) : Int)) (ms2, es2, gE2, gM2, gB2, gT2, gG2, gN2, gK2, gD2) (gH2, gU2, gF2, gX2, gW2, gI2, gP2, gA2, gR2)) ++ (xOut cJ o0 q2 :: (CW cI cE cG cM cS x0 q0 q1 qr (ms2, es2, gE2, gM2, gB2, gT2, gG2, gN2, gK2, gD2) κ2))) H := hP
  have hD : va_D (fun q : Nat => s.heap.size ≤ q) ((RS cI cJ cZ m0 a (jI ((k : Nat) : Int)) (ms2, es2, gE2, gM2, gB2, gT2, gG2, gN2, gK2, gD2) (gH2, gU2, gF2, gX2, gW2, gI2, gP2, gA2, gR2)) ++ (xOut cJ o0 q2 :: (CW cI cE cG cM cS x0 q0 q1 qr (ms2, es2, gE2, gM2, gB2, gT2, gG2, gN2, gK2, gD2) κ2))) := hD
  have hP : va_P D vwCl ((xOut cJ o0 q2 :: (CW cI cE cG cM cS x0 q0 q1 qr (ms2, es2, gE2, gM2, gB2, gT2, gG2, gN2, gK2, gD2) κ2)) ++ (RS cI cJ cZ m0 a (jI ((k : Nat) : Int)) (ms2, es2, gE2, gM2, gB2, gT2, gG2, gN2, gK2, gD2) (gH2, gU2, gF2, gX2, gW2, gI2, gP2, gA2, gR2))) H := hP.perm (List.perm_append_comm (l₁ := (RS cI cJ cZ m0 a (jI ((k : Nat) : Int)) (ms2, es2, gE2, gM2, gB2, gT2, gG2, gN2, gK2, gD2) (gH2, gU2, gF2, gX2, gW2, gI2, gP2, gA2, gR2))) (l₂ := (xOut cJ o0 q2 :: (CW cI cE cG cM cS x0 q0 q1 qr (ms2, es2, gE2, gM2, gB2, gT2, gG2, gN2, gK2, gD2) κ2))))
  have hD : va_D (fun q : Nat => s.heap.size ≤ q) ((xOut cJ o0 q2 :: (CW cI cE cG cM cS x0 q0 q1 qr (ms2, es2, gE2, gM2, gB2, gT2, gG2, gN2, gK2, gD2) κ2)) ++ (RS cI cJ cZ m0 a (jI ((k : Nat) : Int)) (ms2, es2, gE2, gM2, gB2, gT2, gG2, gN2, gK2, gD2) (gH2, gU2, gF2, gX2, gW2, gI2, gP2, gA2, gR2))) := hD.perm (List.perm_append_comm (l₁ := (RS cI cJ cZ m0 a (jI ((k : Nat) : Int)) (ms2, es2, gE2, gM2, gB2, gT2, gG2, gN2, gK2, gD2) (gH2, gU2, gF2, gX2, gW2, gI2, gP2, gA2, gR2))) (l₂ := (xOut cJ o0 q2 :: (CW cI cE cG cM cS x0 q0 q1 qr (ms2, es2, gE2, gM2, gB2, gT2, gG2, gN2, gK2, gD2) κ2))))
  refine lv_iload hx hb dL_law_1117 (lv_at hl 1 rfl) ?_
  refine lv_icmp_eq (tgt := 1124) hx hb dL_law_1119 (by decide) (fun _ => ?_) (fun h9 => absurd rfl h9)
  refine lv_iload hx hb dL_law_1124 (lv_at hl 1 rfl) ?_
  refine n_if_ne (tgt := 1141) hx hb (by unfold r32; omega) dL_law_1126 (by decide) (fun h0 => ?_) (fun h0 => ?_)
  · refine lv_goto (tgt := 1384) hx hb dL_law_1141 (by decide) ?_
    exact kk (ms2, es2, gE2, gM2, gB2, gT2, gG2, gN2, gK2, gD2) κ2 (jI ((k : Nat) : Int)) (gH2, gU2, gF2, gX2, gW2, gI2, gP2, gA2, gR2) q2 H locs ls hI2 hP hD hS (lv_sub hl [2, 3, 4, 5, 6] rfl)
  · obtain ⟨hv1, hv2⟩ := hv (by omega)
    have hv1 : jI (q2 0) = r := hv1
    have hv2 : r32 (q2 0) := hv2
    subst hv1
    refine lv_aload_n hx hb dL_law_1129 rfl (lv_at hl 6 rfl) ?_
    refine n_iconst hx hb dL_law_1130 ?_
    refine n_lald (i := 0) hx hb hK hP 0 1 rfl htJ rfl (Nat.le_of_ble_eq_true rfl) (Nat.le_of_ble_eq_true rfl) dL_law_1131 ?_
    refine lv_iload hx hb dL_law_1132 (lv_at hl 0 rfl) ?_
    refine n_i2l hx hb dL_law_1134 hv2.1 hv2.2 ?_
    refine W.lcmp hx hb dL_law_1135 ?_
    refine n_lif_eq (tgt := 1141) hx hb (by have := hv2.1; have := hv2.2; unfold r64; omega) (by have := hv2.1; have := hv2.2; unfold r64; omega) dL_law_1136 (by decide) (fun _ => ?_) (fun h9 => absurd rfl h9)
    refine lv_goto (tgt := 1384) hx hb dL_law_1141 (by decide) ?_
    exact kk (ms2, es2, gE2, gM2, gB2, gT2, gG2, gN2, gK2, gD2) κ2 (jI ((k : Nat) : Int)) (gH2, gU2, gF2, gX2, gW2, gI2, gP2, gA2, gR2) q2 H locs ls hI2 hP hD hS (lv_sub hl [2, 3, 4, 5, 6] rfl)

set_option maxHeartbeats 16000000 in
set_option maxRecDepth 100000 in
/--  -/
theorem ls_smoothed {p : Program} {e : Env} {s : State} {m : MethodId} {below : List Frame} {meth : Method} {c : Code} (l : Launch) (hl9 : l.stackTraces = false) (D : va_G) (tys : List (ClassId × FieldType)) {cI cJ cZ cE cG cM cS : ClassId} (htI : tys[0]? = some (cI, .int)) (htJ : tys[1]? = some (cJ, .long)) (htZ : tys[2]? = some (cZ, .boolean)) (htE : tys[3]? = some (cE, .object RX1)) (htM : tys[4]? = some (cM, .object RX2)) (htS : tys[5]? = some (cS, .object RX4)) (htG : tys[6]? = some (cG, .array .int)) {b L : Nat} {xs : Nat → Int32} (C0 : LX p s m c b L xs) (hK : KK D tys s) (hXK : XK s) (hZ : XZ (fun q : Nat => s.heap.size ≤ q) s s.heap) (hN : XN s) (m0 : Nat) (a : Nat → Nat) (x0 q0 q1 : Nat) (qr : Nat → Nat) (o0 : Nat) (ms es : Nat) (gE gM gB : Nat → Zp) (gT : Nat → Nat) (gG : Nat → Zp) (gN : Nat → Nat) (gK : Nat → Zp) (gD : Nat → Bool) (κ : Nat → EG) (hI : INV (ms, es, gE, gM, gB, gT, gG, gN, gK, gD) κ) (th : Int32) (c9 : KR) (q : Nat → Int) {H : Heap} {locs : List Loc} {cells slots : Nat} {Q : State → Prop} {ls : Array Slot} {i : Nat} (hi : 7 * i + 7 ≤ L) (hP : va_P D vwCl ((xOut cJ o0 q :: (CW cI cE cG cM cS x0 q0 q1 qr (ms, es, gE, gM, gB, gT, gG, gN, gK, gD) κ)) ++ (RS cI cJ cZ m0 a th (ms, es, gE, gM, gB, gT, gG, gN, gK, gD) c9)) H) (hD : va_D (fun q : Nat => s.heap.size ≤ q) ((xOut cJ o0 q :: (CW cI cE cG cM cS x0 q0 q1 qr (ms, es, gE, gM, gB, gT, gG, gN, gK, gD) κ)) ++ (RS cI cJ cZ m0 a th (ms, es, gE, gM, gB, gT, gG, gN, gK, gD) c9))) (hS : va_S (fun q : Nat => s.heap.size ≤ q) s.heap H locs) (hl : lv_has ls 7 [(4, .int (jI ((7 * i : Nat) : Int))), (0, .ref b), (1, .ref x0), (2, .ref m0), (3, .ref o0)]) (hc : cells + 228 ≤ 601024) (hs : slots + 867 ≤ 7293034)
    (kk : ∀ (g2 : SG) (κ2 : Nat → EG) (th2 : Int32) (c2 : KR) (q2 : Nat → Int) (H1 : Heap) (locs1 : List Loc) (ls1 : Array Slot), INV g2 κ2 → va_P D vwCl ((xOut cJ o0 q2 :: (CW cI cE cG cM cS x0 q0 q1 qr g2 κ2)) ++ (RS cI cJ cZ m0 a th2 g2 c2)) H1 → va_D (fun q : Nat => s.heap.size ≤ q) ((xOut cJ o0 q2 :: (CW cI cE cG cM cS x0 q0 q1 qr g2 κ2)) ++ (RS cI cJ cZ m0 a th2 g2 c2)) → va_S (fun q : Nat => s.heap.size ≤ q) s.heap H1 locs1 → lv_has ls1 7 [(4, .int (jI ((7 * i : Nat) : Int))), (0, .ref b), (1, .ref x0), (2, .ref m0), (3, .ref o0)] → W p l e room_1 s m #[Value.ref b] below meth c H1 locs1 (cells + 228) (slots + 867) Q (F0 m 1384 ls1 [])) : W p l e room_1 s m #[Value.ref b] below meth c H locs cells slots Q (F0 m 1144 ls []) := by
  obtain ⟨hx, hb, hml, hown, hts, hX, hbl, hL⟩ := C0
  have hA : ∀ q : Nat, s.heap.size ≤ q → (fun q : Nat => s.heap.size ≤ q) q := fun _ h => h
  have hbA : ¬ (fun q : Nat => s.heap.size ≤ q) b := Nat.not_le.mpr hbl
  obtain ⟨z1, ez1, r1⟩ := i32_j (xs (7 * i + 1))
  obtain ⟨z2, ez2, r2⟩ := i32_j (xs (7 * i + 2))
  obtain ⟨z3, ez3, r3⟩ := i32_j (xs (7 * i + 3))
  obtain ⟨gH, gU, gF, gX, gW, gI, gP, gA, gR⟩ := c9
  obtain ⟨k, v, ⟨ms2, es2, gE2, gM2, gB2, gT2, gG2, gN2, gK2, gD2⟩, ⟨hk4, hR⟩, hC⟩ := st_smoothed l hl9 D tys htI htJ htZ htE htM htS htG m0 a x0 q0 q1 qr ms es gE gM gB gT gG gN gK gD κ hI z1 z2 z3 r1 r2 r3
  have hW := w_smoothed l D tys htJ x0 q0 q1 qr ms es gE gM gB gT gG gN gK gD κ (jI z1) (jI z2) (jI z3) (ms2, es2, gE2, gM2, gB2, gT2, gG2, gN2, gK2, gD2) k v hC o0 q
  refine lv_aload_n hx hb dL_law_1144 rfl (lv_at hl 2 rfl) ?_
  refine lv_aload_n hx hb dL_law_1145 rfl (lv_at hl 1 rfl) ?_
  refine lv_iload hx hb dL_law_1146 (lv_at hl 0 rfl) ?_
  refine n_iconst hx hb dL_law_1148 ?_
  refine n_iadd hx hb dL_law_1149 ?_
  refine s_ld (i := 7 * i + 1) hx hb hX hbl hbA hS (by omega) (by omega) hL ez1 dL_law_1150 ?_
  refine lv_aload_n hx hb dL_law_1151 rfl (lv_at hl 1 rfl) ?_
  refine lv_iload hx hb dL_law_1152 (lv_at hl 0 rfl) ?_
  refine n_iconst hx hb dL_law_1154 ?_
  refine n_iadd hx hb dL_law_1155 ?_
  refine s_ld (i := 7 * i + 2) hx hb hX hbl hbA hS (by omega) (by omega) hL ez2 dL_law_1156 ?_
  refine lv_aload_n hx hb dL_law_1157 rfl (lv_at hl 1 rfl) ?_
  refine lv_iload hx hb dL_law_1158 (lv_at hl 0 rfl) ?_
  refine n_iconst hx hb dL_law_1160 ?_
  refine n_iadd hx hb dL_law_1161 ?_
  refine s_ld (i := 7 * i + 3) hx hb hX hbl hbA hS (by omega) (by omega) hL ez3 dL_law_1162 ?_
  refine lv_aload_n hx hb dL_law_1163 rfl (lv_at hl 4 rfl) ?_
  refine a_goNI (vx_runSW (As := [.ref x0, .int (jI z1), .int (jI z2), .int (jI z3), .ref o0]) (rest := []) ⟨hx, hb, hml, hown, hts⟩ (hW _) (vx_cwSW 5 hts gL_law_L_smoothed rfl rfl rfl (by decide +kernel) ⟨(Nat.le_of_ble_eq_true rfl), (Nat.le_of_ble_eq_true rfl)⟩) (c_pre hK hXK hZ hN hP hD hS hA) rfl rfl hl.1 rfl (lv_room (Nat.le_of_ble_eq_true rfl)) dL_law_1164 ⟨hc, hs⟩) hP hD hS hA (fun r u H locs hpost hP hD hS => ?_)
  obtain ⟨κ2, q2⟩ := u
  obtain ⟨hr9, hI2, hv⟩ := hpost
  subst hr9
  have hP : va_P D vwCl ((xOut cJ o0 q2 :: (CW cI cE cG cM cS x0 q0 q1 qr (ms2, es2, gE2, gM2, gB2, gT2, gG2, gN2, gK2, gD2) κ2)) ++ (RS cI cJ cZ m0 a th (ms, es, gE, gM, gB, gT, gG, gN, gK, gD) (gH, gU, gF, gX, gW, gI, gP, gA, gR))) H := hP
  have hD : va_D (fun q : Nat => s.heap.size ≤ q) ((xOut cJ o0 q2 :: (CW cI cE cG cM cS x0 q0 q1 qr (ms2, es2, gE2, gM2, gB2, gT2, gG2, gN2, gK2, gD2) κ2)) ++ (RS cI cJ cZ m0 a th (ms, es, gE, gM, gB, gT, gG, gN, gK, gD) (gH, gU, gF, gX, gW, gI, gP, gA, gR))) := hD
  refine lv_istore (lv' := [(5, .int (jI ((k : Nat) : Int))), (4, .int (jI ((7 * i : Nat) : Int))), (0, .ref b), (1, .ref x0), (2, .ref m0), (3, .ref o0)]) hx hb dL_law_1167 hl (by decide) rfl (fun ls hl => ?_)
  refine lv_aload_n hx hb dL_law_1169 rfl (lv_at hl 4 rfl) ?_
  refine lv_aload_n hx hb dL_law_1170 rfl (lv_at hl 2 rfl) ?_
  refine lv_iload hx hb dL_law_1171 (lv_at hl 1 rfl) ?_
  refine n_iconst hx hb dL_law_1173 ?_
  refine n_iadd hx hb dL_law_1174 ?_
  refine s_ld (i := 7 * i + 1) hx hb hX hbl hbA hS (by omega) (by omega) hL ez1 dL_law_1175 ?_
  refine lv_aload_n hx hb dL_law_1176 rfl (lv_at hl 2 rfl) ?_
  refine lv_iload hx hb dL_law_1177 (lv_at hl 1 rfl) ?_
  refine n_iconst hx hb dL_law_1179 ?_
  refine n_iadd hx hb dL_law_1180 ?_
  refine s_ld (i := 7 * i + 2) hx hb hX hbl hbA hS (by omega) (by omega) hL ez2 dL_law_1181 ?_
  refine lv_aload_n hx hb dL_law_1182 rfl (lv_at hl 2 rfl) ?_
  refine lv_iload hx hb dL_law_1183 (lv_at hl 1 rfl) ?_
  refine n_iconst hx hb dL_law_1185 ?_
  refine n_iadd hx hb dL_law_1186 ?_
  refine s_ld (i := 7 * i + 3) hx hb hX hbl hbA hS (by omega) (by omega) hL ez3 dL_law_1187 ?_
  have hP : va_P D vwCl ((RS cI cJ cZ m0 a th (ms, es, gE, gM, gB, gT, gG, gN, gK, gD) (gH, gU, gF, gX, gW, gI, gP, gA, gR)) ++ (xOut cJ o0 q2 :: (CW cI cE cG cM cS x0 q0 q1 qr (ms2, es2, gE2, gM2, gB2, gT2, gG2, gN2, gK2, gD2) κ2))) H := hP.perm (List.perm_append_comm (l₁ := (xOut cJ o0 q2 :: (CW cI cE cG cM cS x0 q0 q1 qr (ms2, es2, gE2, gM2, gB2, gT2, gG2, gN2, gK2, gD2) κ2))) (l₂ := (RS cI cJ cZ m0 a th (ms, es, gE, gM, gB, gT, gG, gN, gK, gD) (gH, gU, gF, gX, gW, gI, gP, gA, gR))))
  have hD : va_D (fun q : Nat => s.heap.size ≤ q) ((RS cI cJ cZ m0 a th (ms, es, gE, gM, gB, gT, gG, gN, gK, gD) (gH, gU, gF, gX, gW, gI, gP, gA, gR)) ++ (xOut cJ o0 q2 :: (CW cI cE cG cM cS x0 q0 q1 qr (ms2, es2, gE2, gM2, gB2, gT2, gG2, gN2, gK2, gD2) κ2))) := hD.perm (List.perm_append_comm (l₁ := (xOut cJ o0 q2 :: (CW cI cE cG cM cS x0 q0 q1 qr (ms2, es2, gE2, gM2, gB2, gT2, gG2, gN2, gK2, gD2) κ2))) (l₂ := (RS cI cJ cZ m0 a th (ms, es, gE, gM, gB, gT, gG, gN, gK, gD) (gH, gU, gF, gX, gW, gI, gP, gA, gR))))
  have ct := hR th (gH, gU, gF, gX, gW, gI, gP, gA, gR)
  refine a_goE (va_runV (As := [.int (jI z1), .int (jI z2), .int (jI z3)]) (rest := []) ⟨hx, hb, hml, hown, hts⟩ (ct.2 _) (cwV 3 hts gL_law_X7_smoothed rfl rfl rfl (by decide +kernel) ⟨(Nat.le_of_ble_eq_true rfl), (Nat.le_of_ble_eq_true rfl)⟩) ⟨(a_pre hK hP hD).1, va_recv hK.1 hP (ci := 7) (q0 := 0) rfl rfl, (a_pre hK hP hD).2⟩ rfl rfl hl.1 rfl (lv_room (Nat.le_of_ble_eq_true rfl)) dL_law_1188 ⟨by show cells + 228 + 0 ≤ 601024; omega, by show slots + 867 + 0 ≤ 7293034; omega⟩) ct.1 hP hD hS hA (fun r c2 H locs hrv hP hD hS => ?_)
  obtain ⟨gH2, gU2, gF2, gX2, gW2, gI2, gP2, gA2, gR2⟩ := c2
  have hP : va_P D vwCl ((RS cI cJ cZ m0 a (jI ((k : Nat) : Int)) (ms2, es2, gE2, gM2, gB2, gT2, gG2, gN2, gK2, gD2) (gH2, gU2, gF2, gX2, gW2, gI2, gP2, gA2, gR2)) ++ (xOut cJ o0 q2 :: (CW cI cE cG cM cS x0 q0 q1 qr (ms2, es2, gE2, gM2, gB2, gT2, gG2, gN2, gK2, gD2) κ2))) H := hP
  have hD : va_D (fun q : Nat => s.heap.size ≤ q) ((RS cI cJ cZ m0 a (jI ((k : Nat) : Int)) (ms2, es2, gE2, gM2, gB2, gT2, gG2, gN2, gK2, gD2) (gH2, gU2, gF2, gX2, gW2, gI2, gP2, gA2, gR2)) ++ (xOut cJ o0 q2 :: (CW cI cE cG cM cS x0 q0 q1 qr (ms2, es2, gE2, gM2, gB2, gT2, gG2, gN2, gK2, gD2) κ2))) := hD
  subst hrv
  refine lv_istore (lv' := [(6, .int r), (5, .int (jI ((k : Nat) : Int))), (4, .int (jI ((7 * i : Nat) : Int))), (0, .ref b), (1, .ref x0), (2, .ref m0), (3, .ref o0)]) hx hb dL_law_1191 hl (by decide) rfl (fun ls hl => ?_)
  refine lv_aload_n hx hb dL_law_1193 rfl (lv_at hl 5 rfl) ?_
  have cq := c_X7_thrown l D tys m0 a ms2 es2 (jI ((k : Nat) : Int))
  refine k_goI (va_runV (As := []) (rest := []) ⟨hx, hb, hml, hown, hts⟩ (cq.2 _) (cwV 0 hts gL_law_X7_thrown rfl rfl rfl (by decide +kernel) ⟨(Nat.le_of_ble_eq_true rfl), (Nat.le_of_ble_eq_true rfl)⟩) ⟨(k_pre hK hP hD (is := [0]) rfl rfl).1, va_recv hK.1 hP (ci := 7) (q0 := 0) rfl rfl, (k_pre hK hP hD (is := [0]) rfl rfl).2⟩ rfl rfl hl.1 rfl (lv_room (Nat.le_of_ble_eq_true rfl)) dL_law_1194 ⟨by show cells + 228 + 0 ≤ 601024; omega, by show slots + 867 + 0 ≤ 7293034; omega⟩) cq.1 hP hD hS hA [0] rfl rfl (fun H locs hP hD hS => ?_)
  have hP : va_P D vwCl ((RS cI cJ cZ m0 a (jI ((k : Nat) : Int)) (ms2, es2, gE2, gM2, gB2, gT2, gG2, gN2, gK2, gD2) (gH2, gU2, gF2, gX2, gW2, gI2, gP2, gA2, gR2)) ++ (xOut cJ o0 q2 :: (CW cI cE cG cM cS x0 q0 q1 qr (ms2, es2, gE2, gM2, gB2, gT2, gG2, gN2, gK2, gD2) κ2))) H := hP
  have hD : va_D (fun q : Nat => s.heap.size ≤ q) ((RS cI cJ cZ m0 a (jI ((k : Nat) : Int)) (ms2, es2, gE2, gM2, gB2, gT2, gG2, gN2, gK2, gD2) (gH2, gU2, gF2, gX2, gW2, gI2, gP2, gA2, gR2)) ++ (xOut cJ o0 q2 :: (CW cI cE cG cM cS x0 q0 q1 qr (ms2, es2, gE2, gM2, gB2, gT2, gG2, gN2, gK2, gD2) κ2))) := hD
  have hP : va_P D vwCl ((xOut cJ o0 q2 :: (CW cI cE cG cM cS x0 q0 q1 qr (ms2, es2, gE2, gM2, gB2, gT2, gG2, gN2, gK2, gD2) κ2)) ++ (RS cI cJ cZ m0 a (jI ((k : Nat) : Int)) (ms2, es2, gE2, gM2, gB2, gT2, gG2, gN2, gK2, gD2) (gH2, gU2, gF2, gX2, gW2, gI2, gP2, gA2, gR2))) H := hP.perm (List.perm_append_comm (l₁ := (RS cI cJ cZ m0 a (jI ((k : Nat) : Int)) (ms2, es2, gE2, gM2, gB2, gT2, gG2, gN2, gK2, gD2) (gH2, gU2, gF2, gX2, gW2, gI2, gP2, gA2, gR2))) (l₂ := (xOut cJ o0 q2 :: (CW cI cE cG cM cS x0 q0 q1 qr (ms2, es2, gE2, gM2, gB2, gT2, gG2, gN2, gK2, gD2) κ2))))
  have hD : va_D (fun q : Nat => s.heap.size ≤ q) ((xOut cJ o0 q2 :: (CW cI cE cG cM cS x0 q0 q1 qr (ms2, es2, gE2, gM2, gB2, gT2, gG2, gN2, gK2, gD2) κ2)) ++ (RS cI cJ cZ m0 a (jI ((k : Nat) : Int)) (ms2, es2, gE2, gM2, gB2, gT2, gG2, gN2, gK2, gD2) (gH2, gU2, gF2, gX2, gW2, gI2, gP2, gA2, gR2))) := hD.perm (List.perm_append_comm (l₁ := (RS cI cJ cZ m0 a (jI ((k : Nat) : Int)) (ms2, es2, gE2, gM2, gB2, gT2, gG2, gN2, gK2, gD2) (gH2, gU2, gF2, gX2, gW2, gI2, gP2, gA2, gR2))) (l₂ := (xOut cJ o0 q2 :: (CW cI cE cG cM cS x0 q0 q1 qr (ms2, es2, gE2, gM2, gB2, gT2, gG2, gN2, gK2, gD2) κ2))))
  refine lv_iload hx hb dL_law_1197 (lv_at hl 1 rfl) ?_
  refine lv_icmp_eq (tgt := 1204) hx hb dL_law_1199 (by decide) (fun _ => ?_) (fun h9 => absurd rfl h9)
  refine lv_iload hx hb dL_law_1204 (lv_at hl 1 rfl) ?_
  refine n_if_ne (tgt := 1221) hx hb (by unfold r32; omega) dL_law_1206 (by decide) (fun h0 => ?_) (fun h0 => ?_)
  · refine lv_goto (tgt := 1384) hx hb dL_law_1221 (by decide) ?_
    exact kk (ms2, es2, gE2, gM2, gB2, gT2, gG2, gN2, gK2, gD2) κ2 (jI ((k : Nat) : Int)) (gH2, gU2, gF2, gX2, gW2, gI2, gP2, gA2, gR2) q2 H locs ls hI2 hP hD hS (lv_sub hl [2, 3, 4, 5, 6] rfl)
  · obtain ⟨hv1, hv2⟩ := hv (by omega)
    have hv1 : jI (q2 0) = r := hv1
    have hv2 : r32 (q2 0) := hv2
    subst hv1
    refine lv_aload_n hx hb dL_law_1209 rfl (lv_at hl 6 rfl) ?_
    refine n_iconst hx hb dL_law_1210 ?_
    refine n_lald (i := 0) hx hb hK hP 0 1 rfl htJ rfl (Nat.le_of_ble_eq_true rfl) (Nat.le_of_ble_eq_true rfl) dL_law_1211 ?_
    refine lv_iload hx hb dL_law_1212 (lv_at hl 0 rfl) ?_
    refine n_i2l hx hb dL_law_1214 hv2.1 hv2.2 ?_
    refine W.lcmp hx hb dL_law_1215 ?_
    refine n_lif_eq (tgt := 1221) hx hb (by have := hv2.1; have := hv2.2; unfold r64; omega) (by have := hv2.1; have := hv2.2; unfold r64; omega) dL_law_1216 (by decide) (fun _ => ?_) (fun h9 => absurd rfl h9)
    refine lv_goto (tgt := 1384) hx hb dL_law_1221 (by decide) ?_
    exact kk (ms2, es2, gE2, gM2, gB2, gT2, gG2, gN2, gK2, gD2) κ2 (jI ((k : Nat) : Int)) (gH2, gU2, gF2, gX2, gW2, gI2, gP2, gA2, gR2) q2 H locs ls hI2 hP hD hS (lv_sub hl [2, 3, 4, 5, 6] rfl)

set_option maxHeartbeats 16000000 in
set_option maxRecDepth 100000 in
/--  -/
theorem ls_ahead {p : Program} {e : Env} {s : State} {m : MethodId} {below : List Frame} {meth : Method} {c : Code} (l : Launch) (hl9 : l.stackTraces = false) (D : va_G) (tys : List (ClassId × FieldType)) {cI cJ cZ cE cG cM cS : ClassId} (htI : tys[0]? = some (cI, .int)) (htJ : tys[1]? = some (cJ, .long)) (htZ : tys[2]? = some (cZ, .boolean)) (htE : tys[3]? = some (cE, .object RX1)) (htM : tys[4]? = some (cM, .object RX2)) (htS : tys[5]? = some (cS, .object RX4)) (htG : tys[6]? = some (cG, .array .int)) {b L : Nat} {xs : Nat → Int32} (C0 : LX p s m c b L xs) (hK : KK D tys s) (hXK : XK s) (hZ : XZ (fun q : Nat => s.heap.size ≤ q) s s.heap) (hN : XN s) (m0 : Nat) (a : Nat → Nat) (x0 q0 q1 : Nat) (qr : Nat → Nat) (o0 : Nat) (ms es : Nat) (gE gM gB : Nat → Zp) (gT : Nat → Nat) (gG : Nat → Zp) (gN : Nat → Nat) (gK : Nat → Zp) (gD : Nat → Bool) (κ : Nat → EG) (hI : INV (ms, es, gE, gM, gB, gT, gG, gN, gK, gD) κ) (th : Int32) (c9 : KR) (q : Nat → Int) {H : Heap} {locs : List Loc} {cells slots : Nat} {Q : State → Prop} {ls : Array Slot} {i : Nat} (hi : 7 * i + 7 ≤ L) (hP : va_P D vwCl ((xOut cJ o0 q :: (CW cI cE cG cM cS x0 q0 q1 qr (ms, es, gE, gM, gB, gT, gG, gN, gK, gD) κ)) ++ (RS cI cJ cZ m0 a th (ms, es, gE, gM, gB, gT, gG, gN, gK, gD) c9)) H) (hD : va_D (fun q : Nat => s.heap.size ≤ q) ((xOut cJ o0 q :: (CW cI cE cG cM cS x0 q0 q1 qr (ms, es, gE, gM, gB, gT, gG, gN, gK, gD) κ)) ++ (RS cI cJ cZ m0 a th (ms, es, gE, gM, gB, gT, gG, gN, gK, gD) c9))) (hS : va_S (fun q : Nat => s.heap.size ≤ q) s.heap H locs) (hl : lv_has ls 7 [(4, .int (jI ((7 * i : Nat) : Int))), (0, .ref b), (1, .ref x0), (2, .ref m0), (3, .ref o0)]) (hc : cells + 228 ≤ 601024) (hs : slots + 867 ≤ 7293034)
    (kk : ∀ (g2 : SG) (κ2 : Nat → EG) (th2 : Int32) (c2 : KR) (q2 : Nat → Int) (H1 : Heap) (locs1 : List Loc) (ls1 : Array Slot), INV g2 κ2 → va_P D vwCl ((xOut cJ o0 q2 :: (CW cI cE cG cM cS x0 q0 q1 qr g2 κ2)) ++ (RS cI cJ cZ m0 a th2 g2 c2)) H1 → va_D (fun q : Nat => s.heap.size ≤ q) ((xOut cJ o0 q2 :: (CW cI cE cG cM cS x0 q0 q1 qr g2 κ2)) ++ (RS cI cJ cZ m0 a th2 g2 c2)) → va_S (fun q : Nat => s.heap.size ≤ q) s.heap H1 locs1 → lv_has ls1 7 [(4, .int (jI ((7 * i : Nat) : Int))), (0, .ref b), (1, .ref x0), (2, .ref m0), (3, .ref o0)] → W p l e room_1 s m #[Value.ref b] below meth c H1 locs1 (cells + 228) (slots + 867) Q (F0 m 1384 ls1 [])) : W p l e room_1 s m #[Value.ref b] below meth c H locs cells slots Q (F0 m 1224 ls []) := by
  obtain ⟨hx, hb, hml, hown, hts, hX, hbl, hL⟩ := C0
  have hA : ∀ q : Nat, s.heap.size ≤ q → (fun q : Nat => s.heap.size ≤ q) q := fun _ h => h
  have hbA : ¬ (fun q : Nat => s.heap.size ≤ q) b := Nat.not_le.mpr hbl
  obtain ⟨z1, ez1, r1⟩ := i32_j (xs (7 * i + 1))
  obtain ⟨z2, ez2, r2⟩ := i32_j (xs (7 * i + 2))
  obtain ⟨z3, ez3, r3⟩ := i32_j (xs (7 * i + 3))
  obtain ⟨gH, gU, gF, gX, gW, gI, gP, gA, gR⟩ := c9
  obtain ⟨k, v, ⟨ms2, es2, gE2, gM2, gB2, gT2, gG2, gN2, gK2, gD2⟩, ⟨hk4, hR⟩, hC⟩ := st_ahead l hl9 D tys htI htJ htZ htE htM htS htG m0 a x0 q0 q1 qr ms es gE gM gB gT gG gN gK gD κ hI z1 z2 z3 r1 r2 r3
  have hW := w_ahead l D tys htJ x0 q0 q1 qr ms es gE gM gB gT gG gN gK gD κ (jI z1) (jI z2) (jI z3) (ms2, es2, gE2, gM2, gB2, gT2, gG2, gN2, gK2, gD2) k v hC o0 q
  refine lv_aload_n hx hb dL_law_1224 rfl (lv_at hl 2 rfl) ?_
  refine lv_aload_n hx hb dL_law_1225 rfl (lv_at hl 1 rfl) ?_
  refine lv_iload hx hb dL_law_1226 (lv_at hl 0 rfl) ?_
  refine n_iconst hx hb dL_law_1228 ?_
  refine n_iadd hx hb dL_law_1229 ?_
  refine s_ld (i := 7 * i + 1) hx hb hX hbl hbA hS (by omega) (by omega) hL ez1 dL_law_1230 ?_
  refine lv_aload_n hx hb dL_law_1231 rfl (lv_at hl 1 rfl) ?_
  refine lv_iload hx hb dL_law_1232 (lv_at hl 0 rfl) ?_
  refine n_iconst hx hb dL_law_1234 ?_
  refine n_iadd hx hb dL_law_1235 ?_
  refine s_ld (i := 7 * i + 2) hx hb hX hbl hbA hS (by omega) (by omega) hL ez2 dL_law_1236 ?_
  refine lv_aload_n hx hb dL_law_1237 rfl (lv_at hl 1 rfl) ?_
  refine lv_iload hx hb dL_law_1238 (lv_at hl 0 rfl) ?_
  refine n_iconst hx hb dL_law_1240 ?_
  refine n_iadd hx hb dL_law_1241 ?_
  refine s_ld (i := 7 * i + 3) hx hb hX hbl hbA hS (by omega) (by omega) hL ez3 dL_law_1242 ?_
  refine lv_aload_n hx hb dL_law_1243 rfl (lv_at hl 4 rfl) ?_
  refine a_goNI (vx_runSW (As := [.ref x0, .int (jI z1), .int (jI z2), .int (jI z3), .ref o0]) (rest := []) ⟨hx, hb, hml, hown, hts⟩ (hW _) (vx_cwSW 5 hts gL_law_L_ahead rfl rfl rfl (by decide +kernel) ⟨(Nat.le_of_ble_eq_true rfl), (Nat.le_of_ble_eq_true rfl)⟩) (c_pre hK hXK hZ hN hP hD hS hA) rfl rfl hl.1 rfl (lv_room (Nat.le_of_ble_eq_true rfl)) dL_law_1244 ⟨hc, hs⟩) hP hD hS hA (fun r u H locs hpost hP hD hS => ?_)
  obtain ⟨κ2, q2⟩ := u
  obtain ⟨hr9, hI2, hv⟩ := hpost
  subst hr9
  have hP : va_P D vwCl ((xOut cJ o0 q2 :: (CW cI cE cG cM cS x0 q0 q1 qr (ms2, es2, gE2, gM2, gB2, gT2, gG2, gN2, gK2, gD2) κ2)) ++ (RS cI cJ cZ m0 a th (ms, es, gE, gM, gB, gT, gG, gN, gK, gD) (gH, gU, gF, gX, gW, gI, gP, gA, gR))) H := hP
  have hD : va_D (fun q : Nat => s.heap.size ≤ q) ((xOut cJ o0 q2 :: (CW cI cE cG cM cS x0 q0 q1 qr (ms2, es2, gE2, gM2, gB2, gT2, gG2, gN2, gK2, gD2) κ2)) ++ (RS cI cJ cZ m0 a th (ms, es, gE, gM, gB, gT, gG, gN, gK, gD) (gH, gU, gF, gX, gW, gI, gP, gA, gR))) := hD
  refine lv_istore (lv' := [(5, .int (jI ((k : Nat) : Int))), (4, .int (jI ((7 * i : Nat) : Int))), (0, .ref b), (1, .ref x0), (2, .ref m0), (3, .ref o0)]) hx hb dL_law_1247 hl (by decide) rfl (fun ls hl => ?_)
  refine lv_aload_n hx hb dL_law_1249 rfl (lv_at hl 4 rfl) ?_
  refine lv_aload_n hx hb dL_law_1250 rfl (lv_at hl 2 rfl) ?_
  refine lv_iload hx hb dL_law_1251 (lv_at hl 1 rfl) ?_
  refine n_iconst hx hb dL_law_1253 ?_
  refine n_iadd hx hb dL_law_1254 ?_
  refine s_ld (i := 7 * i + 1) hx hb hX hbl hbA hS (by omega) (by omega) hL ez1 dL_law_1255 ?_
  refine lv_aload_n hx hb dL_law_1256 rfl (lv_at hl 2 rfl) ?_
  refine lv_iload hx hb dL_law_1257 (lv_at hl 1 rfl) ?_
  refine n_iconst hx hb dL_law_1259 ?_
  refine n_iadd hx hb dL_law_1260 ?_
  refine s_ld (i := 7 * i + 2) hx hb hX hbl hbA hS (by omega) (by omega) hL ez2 dL_law_1261 ?_
  refine lv_aload_n hx hb dL_law_1262 rfl (lv_at hl 2 rfl) ?_
  refine lv_iload hx hb dL_law_1263 (lv_at hl 1 rfl) ?_
  refine n_iconst hx hb dL_law_1265 ?_
  refine n_iadd hx hb dL_law_1266 ?_
  refine s_ld (i := 7 * i + 3) hx hb hX hbl hbA hS (by omega) (by omega) hL ez3 dL_law_1267 ?_
  have hP : va_P D vwCl ((RS cI cJ cZ m0 a th (ms, es, gE, gM, gB, gT, gG, gN, gK, gD) (gH, gU, gF, gX, gW, gI, gP, gA, gR)) ++ (xOut cJ o0 q2 :: (CW cI cE cG cM cS x0 q0 q1 qr (ms2, es2, gE2, gM2, gB2, gT2, gG2, gN2, gK2, gD2) κ2))) H := hP.perm (List.perm_append_comm (l₁ := (xOut cJ o0 q2 :: (CW cI cE cG cM cS x0 q0 q1 qr (ms2, es2, gE2, gM2, gB2, gT2, gG2, gN2, gK2, gD2) κ2))) (l₂ := (RS cI cJ cZ m0 a th (ms, es, gE, gM, gB, gT, gG, gN, gK, gD) (gH, gU, gF, gX, gW, gI, gP, gA, gR))))
  have hD : va_D (fun q : Nat => s.heap.size ≤ q) ((RS cI cJ cZ m0 a th (ms, es, gE, gM, gB, gT, gG, gN, gK, gD) (gH, gU, gF, gX, gW, gI, gP, gA, gR)) ++ (xOut cJ o0 q2 :: (CW cI cE cG cM cS x0 q0 q1 qr (ms2, es2, gE2, gM2, gB2, gT2, gG2, gN2, gK2, gD2) κ2))) := hD.perm (List.perm_append_comm (l₁ := (xOut cJ o0 q2 :: (CW cI cE cG cM cS x0 q0 q1 qr (ms2, es2, gE2, gM2, gB2, gT2, gG2, gN2, gK2, gD2) κ2))) (l₂ := (RS cI cJ cZ m0 a th (ms, es, gE, gM, gB, gT, gG, gN, gK, gD) (gH, gU, gF, gX, gW, gI, gP, gA, gR))))
  have ct := hR th (gH, gU, gF, gX, gW, gI, gP, gA, gR)
  refine a_goE (va_runV (As := [.int (jI z1), .int (jI z2), .int (jI z3)]) (rest := []) ⟨hx, hb, hml, hown, hts⟩ (ct.2 _) (cwV 3 hts gL_law_X7_ahead rfl rfl rfl (by decide +kernel) ⟨(Nat.le_of_ble_eq_true rfl), (Nat.le_of_ble_eq_true rfl)⟩) ⟨(a_pre hK hP hD).1, va_recv hK.1 hP (ci := 7) (q0 := 0) rfl rfl, (a_pre hK hP hD).2⟩ rfl rfl hl.1 rfl (lv_room (Nat.le_of_ble_eq_true rfl)) dL_law_1268 ⟨by show cells + 228 + 0 ≤ 601024; omega, by show slots + 867 + 0 ≤ 7293034; omega⟩) ct.1 hP hD hS hA (fun r c2 H locs hrv hP hD hS => ?_)
  obtain ⟨gH2, gU2, gF2, gX2, gW2, gI2, gP2, gA2, gR2⟩ := c2
  have hP : va_P D vwCl ((RS cI cJ cZ m0 a (jI ((k : Nat) : Int)) (ms2, es2, gE2, gM2, gB2, gT2, gG2, gN2, gK2, gD2) (gH2, gU2, gF2, gX2, gW2, gI2, gP2, gA2, gR2)) ++ (xOut cJ o0 q2 :: (CW cI cE cG cM cS x0 q0 q1 qr (ms2, es2, gE2, gM2, gB2, gT2, gG2, gN2, gK2, gD2) κ2))) H := hP
  have hD : va_D (fun q : Nat => s.heap.size ≤ q) ((RS cI cJ cZ m0 a (jI ((k : Nat) : Int)) (ms2, es2, gE2, gM2, gB2, gT2, gG2, gN2, gK2, gD2) (gH2, gU2, gF2, gX2, gW2, gI2, gP2, gA2, gR2)) ++ (xOut cJ o0 q2 :: (CW cI cE cG cM cS x0 q0 q1 qr (ms2, es2, gE2, gM2, gB2, gT2, gG2, gN2, gK2, gD2) κ2))) := hD
  subst hrv
  refine lv_istore (lv' := [(6, .int r), (5, .int (jI ((k : Nat) : Int))), (4, .int (jI ((7 * i : Nat) : Int))), (0, .ref b), (1, .ref x0), (2, .ref m0), (3, .ref o0)]) hx hb dL_law_1271 hl (by decide) rfl (fun ls hl => ?_)
  refine lv_aload_n hx hb dL_law_1273 rfl (lv_at hl 5 rfl) ?_
  have cq := c_X7_thrown l D tys m0 a ms2 es2 (jI ((k : Nat) : Int))
  refine k_goI (va_runV (As := []) (rest := []) ⟨hx, hb, hml, hown, hts⟩ (cq.2 _) (cwV 0 hts gL_law_X7_thrown rfl rfl rfl (by decide +kernel) ⟨(Nat.le_of_ble_eq_true rfl), (Nat.le_of_ble_eq_true rfl)⟩) ⟨(k_pre hK hP hD (is := [0]) rfl rfl).1, va_recv hK.1 hP (ci := 7) (q0 := 0) rfl rfl, (k_pre hK hP hD (is := [0]) rfl rfl).2⟩ rfl rfl hl.1 rfl (lv_room (Nat.le_of_ble_eq_true rfl)) dL_law_1274 ⟨by show cells + 228 + 0 ≤ 601024; omega, by show slots + 867 + 0 ≤ 7293034; omega⟩) cq.1 hP hD hS hA [0] rfl rfl (fun H locs hP hD hS => ?_)
  have hP : va_P D vwCl ((RS cI cJ cZ m0 a (jI ((k : Nat) : Int)) (ms2, es2, gE2, gM2, gB2, gT2, gG2, gN2, gK2, gD2) (gH2, gU2, gF2, gX2, gW2, gI2, gP2, gA2, gR2)) ++ (xOut cJ o0 q2 :: (CW cI cE cG cM cS x0 q0 q1 qr (ms2, es2, gE2, gM2, gB2, gT2, gG2, gN2, gK2, gD2) κ2))) H := hP
  have hD : va_D (fun q : Nat => s.heap.size ≤ q) ((RS cI cJ cZ m0 a (jI ((k : Nat) : Int)) (ms2, es2, gE2, gM2, gB2, gT2, gG2, gN2, gK2, gD2) (gH2, gU2, gF2, gX2, gW2, gI2, gP2, gA2, gR2)) ++ (xOut cJ o0 q2 :: (CW cI cE cG cM cS x0 q0 q1 qr (ms2, es2, gE2, gM2, gB2, gT2, gG2, gN2, gK2, gD2) κ2))) := hD
  have hP : va_P D vwCl ((xOut cJ o0 q2 :: (CW cI cE cG cM cS x0 q0 q1 qr (ms2, es2, gE2, gM2, gB2, gT2, gG2, gN2, gK2, gD2) κ2)) ++ (RS cI cJ cZ m0 a (jI ((k : Nat) : Int)) (ms2, es2, gE2, gM2, gB2, gT2, gG2, gN2, gK2, gD2) (gH2, gU2, gF2, gX2, gW2, gI2, gP2, gA2, gR2))) H := hP.perm (List.perm_append_comm (l₁ := (RS cI cJ cZ m0 a (jI ((k : Nat) : Int)) (ms2, es2, gE2, gM2, gB2, gT2, gG2, gN2, gK2, gD2) (gH2, gU2, gF2, gX2, gW2, gI2, gP2, gA2, gR2))) (l₂ := (xOut cJ o0 q2 :: (CW cI cE cG cM cS x0 q0 q1 qr (ms2, es2, gE2, gM2, gB2, gT2, gG2, gN2, gK2, gD2) κ2))))
  have hD : va_D (fun q : Nat => s.heap.size ≤ q) ((xOut cJ o0 q2 :: (CW cI cE cG cM cS x0 q0 q1 qr (ms2, es2, gE2, gM2, gB2, gT2, gG2, gN2, gK2, gD2) κ2)) ++ (RS cI cJ cZ m0 a (jI ((k : Nat) : Int)) (ms2, es2, gE2, gM2, gB2, gT2, gG2, gN2, gK2, gD2) (gH2, gU2, gF2, gX2, gW2, gI2, gP2, gA2, gR2))) := hD.perm (List.perm_append_comm (l₁ := (RS cI cJ cZ m0 a (jI ((k : Nat) : Int)) (ms2, es2, gE2, gM2, gB2, gT2, gG2, gN2, gK2, gD2) (gH2, gU2, gF2, gX2, gW2, gI2, gP2, gA2, gR2))) (l₂ := (xOut cJ o0 q2 :: (CW cI cE cG cM cS x0 q0 q1 qr (ms2, es2, gE2, gM2, gB2, gT2, gG2, gN2, gK2, gD2) κ2))))
  refine lv_iload hx hb dL_law_1277 (lv_at hl 1 rfl) ?_
  refine lv_icmp_eq (tgt := 1284) hx hb dL_law_1279 (by decide) (fun _ => ?_) (fun h9 => absurd rfl h9)
  refine lv_iload hx hb dL_law_1284 (lv_at hl 1 rfl) ?_
  refine n_if_ne (tgt := 1301) hx hb (by unfold r32; omega) dL_law_1286 (by decide) (fun h0 => ?_) (fun h0 => ?_)
  · refine lv_goto (tgt := 1384) hx hb dL_law_1301 (by decide) ?_
    exact kk (ms2, es2, gE2, gM2, gB2, gT2, gG2, gN2, gK2, gD2) κ2 (jI ((k : Nat) : Int)) (gH2, gU2, gF2, gX2, gW2, gI2, gP2, gA2, gR2) q2 H locs ls hI2 hP hD hS (lv_sub hl [2, 3, 4, 5, 6] rfl)
  · obtain ⟨hv1, hv2⟩ := hv (by omega)
    have hv1 : jI (q2 0) = r := hv1
    have hv2 : r32 (q2 0) := hv2
    subst hv1
    refine lv_aload_n hx hb dL_law_1289 rfl (lv_at hl 6 rfl) ?_
    refine n_iconst hx hb dL_law_1290 ?_
    refine n_lald (i := 0) hx hb hK hP 0 1 rfl htJ rfl (Nat.le_of_ble_eq_true rfl) (Nat.le_of_ble_eq_true rfl) dL_law_1291 ?_
    refine lv_iload hx hb dL_law_1292 (lv_at hl 0 rfl) ?_
    refine n_i2l hx hb dL_law_1294 hv2.1 hv2.2 ?_
    refine W.lcmp hx hb dL_law_1295 ?_
    refine n_lif_eq (tgt := 1301) hx hb (by have := hv2.1; have := hv2.2; unfold r64; omega) (by have := hv2.1; have := hv2.2; unfold r64; omega) dL_law_1296 (by decide) (fun _ => ?_) (fun h9 => absurd rfl h9)
    refine lv_goto (tgt := 1384) hx hb dL_law_1301 (by decide) ?_
    exact kk (ms2, es2, gE2, gM2, gB2, gT2, gG2, gN2, gK2, gD2) κ2 (jI ((k : Nat) : Int)) (gH2, gU2, gF2, gX2, gW2, gI2, gP2, gA2, gR2) q2 H locs ls hI2 hP hD hS (lv_sub hl [2, 3, 4, 5, 6] rfl)

set_option maxHeartbeats 16000000 in
set_option maxRecDepth 100000 in
/--  -/
theorem ls_aheadAnew {p : Program} {e : Env} {s : State} {m : MethodId} {below : List Frame} {meth : Method} {c : Code} (l : Launch) (hl9 : l.stackTraces = false) (D : va_G) (tys : List (ClassId × FieldType)) {cI cJ cZ cE cG cM cS : ClassId} (htI : tys[0]? = some (cI, .int)) (htJ : tys[1]? = some (cJ, .long)) (htZ : tys[2]? = some (cZ, .boolean)) (htE : tys[3]? = some (cE, .object RX1)) (htM : tys[4]? = some (cM, .object RX2)) (htS : tys[5]? = some (cS, .object RX4)) (htG : tys[6]? = some (cG, .array .int)) {b L : Nat} {xs : Nat → Int32} (C0 : LX p s m c b L xs) (hK : KK D tys s) (hXK : XK s) (hZ : XZ (fun q : Nat => s.heap.size ≤ q) s s.heap) (hN : XN s) (m0 : Nat) (a : Nat → Nat) (x0 q0 q1 : Nat) (qr : Nat → Nat) (o0 : Nat) (ms es : Nat) (gE gM gB : Nat → Zp) (gT : Nat → Nat) (gG : Nat → Zp) (gN : Nat → Nat) (gK : Nat → Zp) (gD : Nat → Bool) (κ : Nat → EG) (hI : INV (ms, es, gE, gM, gB, gT, gG, gN, gK, gD) κ) (th : Int32) (c9 : KR) (q : Nat → Int) {H : Heap} {locs : List Loc} {cells slots : Nat} {Q : State → Prop} {ls : Array Slot} {i : Nat} (hi : 7 * i + 7 ≤ L) (hP : va_P D vwCl ((xOut cJ o0 q :: (CW cI cE cG cM cS x0 q0 q1 qr (ms, es, gE, gM, gB, gT, gG, gN, gK, gD) κ)) ++ (RS cI cJ cZ m0 a th (ms, es, gE, gM, gB, gT, gG, gN, gK, gD) c9)) H) (hD : va_D (fun q : Nat => s.heap.size ≤ q) ((xOut cJ o0 q :: (CW cI cE cG cM cS x0 q0 q1 qr (ms, es, gE, gM, gB, gT, gG, gN, gK, gD) κ)) ++ (RS cI cJ cZ m0 a th (ms, es, gE, gM, gB, gT, gG, gN, gK, gD) c9))) (hS : va_S (fun q : Nat => s.heap.size ≤ q) s.heap H locs) (hl : lv_has ls 7 [(4, .int (jI ((7 * i : Nat) : Int))), (0, .ref b), (1, .ref x0), (2, .ref m0), (3, .ref o0)]) (hc : cells + 228 ≤ 601024) (hs : slots + 867 ≤ 7293034)
    (kk : ∀ (g2 : SG) (κ2 : Nat → EG) (th2 : Int32) (c2 : KR) (q2 : Nat → Int) (H1 : Heap) (locs1 : List Loc) (ls1 : Array Slot), INV g2 κ2 → va_P D vwCl ((xOut cJ o0 q2 :: (CW cI cE cG cM cS x0 q0 q1 qr g2 κ2)) ++ (RS cI cJ cZ m0 a th2 g2 c2)) H1 → va_D (fun q : Nat => s.heap.size ≤ q) ((xOut cJ o0 q2 :: (CW cI cE cG cM cS x0 q0 q1 qr g2 κ2)) ++ (RS cI cJ cZ m0 a th2 g2 c2)) → va_S (fun q : Nat => s.heap.size ≤ q) s.heap H1 locs1 → lv_has ls1 7 [(4, .int (jI ((7 * i : Nat) : Int))), (0, .ref b), (1, .ref x0), (2, .ref m0), (3, .ref o0)] → W p l e room_1 s m #[Value.ref b] below meth c H1 locs1 (cells + 228) (slots + 867) Q (F0 m 1384 ls1 [])) : W p l e room_1 s m #[Value.ref b] below meth c H locs cells slots Q (F0 m 1304 ls []) := by
  obtain ⟨hx, hb, hml, hown, hts, hX, hbl, hL⟩ := C0
  have hA : ∀ q : Nat, s.heap.size ≤ q → (fun q : Nat => s.heap.size ≤ q) q := fun _ h => h
  have hbA : ¬ (fun q : Nat => s.heap.size ≤ q) b := Nat.not_le.mpr hbl
  obtain ⟨z1, ez1, r1⟩ := i32_j (xs (7 * i + 1))
  obtain ⟨z2, ez2, r2⟩ := i32_j (xs (7 * i + 2))
  obtain ⟨z3, ez3, r3⟩ := i32_j (xs (7 * i + 3))
  obtain ⟨gH, gU, gF, gX, gW, gI, gP, gA, gR⟩ := c9
  obtain ⟨k, v, ⟨ms2, es2, gE2, gM2, gB2, gT2, gG2, gN2, gK2, gD2⟩, ⟨hk4, hR⟩, hC⟩ := st_aheadAnew l hl9 D tys htI htJ htZ htE htM htS htG m0 a x0 q0 q1 qr ms es gE gM gB gT gG gN gK gD κ hI z1 z2 z3 r1 r2 r3
  have hW := w_aheadAnew l D tys htJ x0 q0 q1 qr ms es gE gM gB gT gG gN gK gD κ (jI z1) (jI z2) (jI z3) (ms2, es2, gE2, gM2, gB2, gT2, gG2, gN2, gK2, gD2) k v hC o0 q
  refine lv_aload_n hx hb dL_law_1304 rfl (lv_at hl 2 rfl) ?_
  refine lv_aload_n hx hb dL_law_1305 rfl (lv_at hl 1 rfl) ?_
  refine lv_iload hx hb dL_law_1306 (lv_at hl 0 rfl) ?_
  refine n_iconst hx hb dL_law_1308 ?_
  refine n_iadd hx hb dL_law_1309 ?_
  refine s_ld (i := 7 * i + 1) hx hb hX hbl hbA hS (by omega) (by omega) hL ez1 dL_law_1310 ?_
  refine lv_aload_n hx hb dL_law_1311 rfl (lv_at hl 1 rfl) ?_
  refine lv_iload hx hb dL_law_1312 (lv_at hl 0 rfl) ?_
  refine n_iconst hx hb dL_law_1314 ?_
  refine n_iadd hx hb dL_law_1315 ?_
  refine s_ld (i := 7 * i + 2) hx hb hX hbl hbA hS (by omega) (by omega) hL ez2 dL_law_1316 ?_
  refine lv_aload_n hx hb dL_law_1317 rfl (lv_at hl 1 rfl) ?_
  refine lv_iload hx hb dL_law_1318 (lv_at hl 0 rfl) ?_
  refine n_iconst hx hb dL_law_1320 ?_
  refine n_iadd hx hb dL_law_1321 ?_
  refine s_ld (i := 7 * i + 3) hx hb hX hbl hbA hS (by omega) (by omega) hL ez3 dL_law_1322 ?_
  refine lv_aload_n hx hb dL_law_1323 rfl (lv_at hl 4 rfl) ?_
  refine a_goNI (vx_runSW (As := [.ref x0, .int (jI z1), .int (jI z2), .int (jI z3), .ref o0]) (rest := []) ⟨hx, hb, hml, hown, hts⟩ (hW _) (vx_cwSW 5 hts gL_law_L_aheadAnew rfl rfl rfl (by decide +kernel) ⟨(Nat.le_of_ble_eq_true rfl), (Nat.le_of_ble_eq_true rfl)⟩) (c_pre hK hXK hZ hN hP hD hS hA) rfl rfl hl.1 rfl (lv_room (Nat.le_of_ble_eq_true rfl)) dL_law_1324 ⟨hc, hs⟩) hP hD hS hA (fun r u H locs hpost hP hD hS => ?_)
  obtain ⟨κ2, q2⟩ := u
  obtain ⟨hr9, hI2, hv⟩ := hpost
  subst hr9
  have hP : va_P D vwCl ((xOut cJ o0 q2 :: (CW cI cE cG cM cS x0 q0 q1 qr (ms2, es2, gE2, gM2, gB2, gT2, gG2, gN2, gK2, gD2) κ2)) ++ (RS cI cJ cZ m0 a th (ms, es, gE, gM, gB, gT, gG, gN, gK, gD) (gH, gU, gF, gX, gW, gI, gP, gA, gR))) H := hP
  have hD : va_D (fun q : Nat => s.heap.size ≤ q) ((xOut cJ o0 q2 :: (CW cI cE cG cM cS x0 q0 q1 qr (ms2, es2, gE2, gM2, gB2, gT2, gG2, gN2, gK2, gD2) κ2)) ++ (RS cI cJ cZ m0 a th (ms, es, gE, gM, gB, gT, gG, gN, gK, gD) (gH, gU, gF, gX, gW, gI, gP, gA, gR))) := hD
  refine lv_istore (lv' := [(5, .int (jI ((k : Nat) : Int))), (4, .int (jI ((7 * i : Nat) : Int))), (0, .ref b), (1, .ref x0), (2, .ref m0), (3, .ref o0)]) hx hb dL_law_1327 hl (by decide) rfl (fun ls hl => ?_)
  refine lv_aload_n hx hb dL_law_1329 rfl (lv_at hl 4 rfl) ?_
  refine lv_aload_n hx hb dL_law_1330 rfl (lv_at hl 2 rfl) ?_
  refine lv_iload hx hb dL_law_1331 (lv_at hl 1 rfl) ?_
  refine n_iconst hx hb dL_law_1333 ?_
  refine n_iadd hx hb dL_law_1334 ?_
  refine s_ld (i := 7 * i + 1) hx hb hX hbl hbA hS (by omega) (by omega) hL ez1 dL_law_1335 ?_
  refine lv_aload_n hx hb dL_law_1336 rfl (lv_at hl 2 rfl) ?_
  refine lv_iload hx hb dL_law_1337 (lv_at hl 1 rfl) ?_
  refine n_iconst hx hb dL_law_1339 ?_
  refine n_iadd hx hb dL_law_1340 ?_
  refine s_ld (i := 7 * i + 2) hx hb hX hbl hbA hS (by omega) (by omega) hL ez2 dL_law_1341 ?_
  refine lv_aload_n hx hb dL_law_1342 rfl (lv_at hl 2 rfl) ?_
  refine lv_iload hx hb dL_law_1343 (lv_at hl 1 rfl) ?_
  refine n_iconst hx hb dL_law_1345 ?_
  refine n_iadd hx hb dL_law_1346 ?_
  refine s_ld (i := 7 * i + 3) hx hb hX hbl hbA hS (by omega) (by omega) hL ez3 dL_law_1347 ?_
  have hP : va_P D vwCl ((RS cI cJ cZ m0 a th (ms, es, gE, gM, gB, gT, gG, gN, gK, gD) (gH, gU, gF, gX, gW, gI, gP, gA, gR)) ++ (xOut cJ o0 q2 :: (CW cI cE cG cM cS x0 q0 q1 qr (ms2, es2, gE2, gM2, gB2, gT2, gG2, gN2, gK2, gD2) κ2))) H := hP.perm (List.perm_append_comm (l₁ := (xOut cJ o0 q2 :: (CW cI cE cG cM cS x0 q0 q1 qr (ms2, es2, gE2, gM2, gB2, gT2, gG2, gN2, gK2, gD2) κ2))) (l₂ := (RS cI cJ cZ m0 a th (ms, es, gE, gM, gB, gT, gG, gN, gK, gD) (gH, gU, gF, gX, gW, gI, gP, gA, gR))))
  have hD : va_D (fun q : Nat => s.heap.size ≤ q) ((RS cI cJ cZ m0 a th (ms, es, gE, gM, gB, gT, gG, gN, gK, gD) (gH, gU, gF, gX, gW, gI, gP, gA, gR)) ++ (xOut cJ o0 q2 :: (CW cI cE cG cM cS x0 q0 q1 qr (ms2, es2, gE2, gM2, gB2, gT2, gG2, gN2, gK2, gD2) κ2))) := hD.perm (List.perm_append_comm (l₁ := (xOut cJ o0 q2 :: (CW cI cE cG cM cS x0 q0 q1 qr (ms2, es2, gE2, gM2, gB2, gT2, gG2, gN2, gK2, gD2) κ2))) (l₂ := (RS cI cJ cZ m0 a th (ms, es, gE, gM, gB, gT, gG, gN, gK, gD) (gH, gU, gF, gX, gW, gI, gP, gA, gR))))
  have ct := hR th (gH, gU, gF, gX, gW, gI, gP, gA, gR)
  refine a_goE (va_runV (As := [.int (jI z1), .int (jI z2), .int (jI z3)]) (rest := []) ⟨hx, hb, hml, hown, hts⟩ (ct.2 _) (cwV 3 hts gL_law_X7_aheadAnew rfl rfl rfl (by decide +kernel) ⟨(Nat.le_of_ble_eq_true rfl), (Nat.le_of_ble_eq_true rfl)⟩) ⟨(a_pre hK hP hD).1, va_recv hK.1 hP (ci := 7) (q0 := 0) rfl rfl, (a_pre hK hP hD).2⟩ rfl rfl hl.1 rfl (lv_room (Nat.le_of_ble_eq_true rfl)) dL_law_1348 ⟨by show cells + 228 + 0 ≤ 601024; omega, by show slots + 867 + 0 ≤ 7293034; omega⟩) ct.1 hP hD hS hA (fun r c2 H locs hrv hP hD hS => ?_)
  obtain ⟨gH2, gU2, gF2, gX2, gW2, gI2, gP2, gA2, gR2⟩ := c2
  have hP : va_P D vwCl ((RS cI cJ cZ m0 a (jI ((k : Nat) : Int)) (ms2, es2, gE2, gM2, gB2, gT2, gG2, gN2, gK2, gD2) (gH2, gU2, gF2, gX2, gW2, gI2, gP2, gA2, gR2)) ++ (xOut cJ o0 q2 :: (CW cI cE cG cM cS x0 q0 q1 qr (ms2, es2, gE2, gM2, gB2, gT2, gG2, gN2, gK2, gD2) κ2))) H := hP
  have hD : va_D (fun q : Nat => s.heap.size ≤ q) ((RS cI cJ cZ m0 a (jI ((k : Nat) : Int)) (ms2, es2, gE2, gM2, gB2, gT2, gG2, gN2, gK2, gD2) (gH2, gU2, gF2, gX2, gW2, gI2, gP2, gA2, gR2)) ++ (xOut cJ o0 q2 :: (CW cI cE cG cM cS x0 q0 q1 qr (ms2, es2, gE2, gM2, gB2, gT2, gG2, gN2, gK2, gD2) κ2))) := hD
  subst hrv
  refine lv_istore (lv' := [(6, .int r), (5, .int (jI ((k : Nat) : Int))), (4, .int (jI ((7 * i : Nat) : Int))), (0, .ref b), (1, .ref x0), (2, .ref m0), (3, .ref o0)]) hx hb dL_law_1351 hl (by decide) rfl (fun ls hl => ?_)
  refine lv_aload_n hx hb dL_law_1353 rfl (lv_at hl 5 rfl) ?_
  have cq := c_X7_thrown l D tys m0 a ms2 es2 (jI ((k : Nat) : Int))
  refine k_goI (va_runV (As := []) (rest := []) ⟨hx, hb, hml, hown, hts⟩ (cq.2 _) (cwV 0 hts gL_law_X7_thrown rfl rfl rfl (by decide +kernel) ⟨(Nat.le_of_ble_eq_true rfl), (Nat.le_of_ble_eq_true rfl)⟩) ⟨(k_pre hK hP hD (is := [0]) rfl rfl).1, va_recv hK.1 hP (ci := 7) (q0 := 0) rfl rfl, (k_pre hK hP hD (is := [0]) rfl rfl).2⟩ rfl rfl hl.1 rfl (lv_room (Nat.le_of_ble_eq_true rfl)) dL_law_1354 ⟨by show cells + 228 + 0 ≤ 601024; omega, by show slots + 867 + 0 ≤ 7293034; omega⟩) cq.1 hP hD hS hA [0] rfl rfl (fun H locs hP hD hS => ?_)
  have hP : va_P D vwCl ((RS cI cJ cZ m0 a (jI ((k : Nat) : Int)) (ms2, es2, gE2, gM2, gB2, gT2, gG2, gN2, gK2, gD2) (gH2, gU2, gF2, gX2, gW2, gI2, gP2, gA2, gR2)) ++ (xOut cJ o0 q2 :: (CW cI cE cG cM cS x0 q0 q1 qr (ms2, es2, gE2, gM2, gB2, gT2, gG2, gN2, gK2, gD2) κ2))) H := hP
  have hD : va_D (fun q : Nat => s.heap.size ≤ q) ((RS cI cJ cZ m0 a (jI ((k : Nat) : Int)) (ms2, es2, gE2, gM2, gB2, gT2, gG2, gN2, gK2, gD2) (gH2, gU2, gF2, gX2, gW2, gI2, gP2, gA2, gR2)) ++ (xOut cJ o0 q2 :: (CW cI cE cG cM cS x0 q0 q1 qr (ms2, es2, gE2, gM2, gB2, gT2, gG2, gN2, gK2, gD2) κ2))) := hD
  have hP : va_P D vwCl ((xOut cJ o0 q2 :: (CW cI cE cG cM cS x0 q0 q1 qr (ms2, es2, gE2, gM2, gB2, gT2, gG2, gN2, gK2, gD2) κ2)) ++ (RS cI cJ cZ m0 a (jI ((k : Nat) : Int)) (ms2, es2, gE2, gM2, gB2, gT2, gG2, gN2, gK2, gD2) (gH2, gU2, gF2, gX2, gW2, gI2, gP2, gA2, gR2))) H := hP.perm (List.perm_append_comm (l₁ := (RS cI cJ cZ m0 a (jI ((k : Nat) : Int)) (ms2, es2, gE2, gM2, gB2, gT2, gG2, gN2, gK2, gD2) (gH2, gU2, gF2, gX2, gW2, gI2, gP2, gA2, gR2))) (l₂ := (xOut cJ o0 q2 :: (CW cI cE cG cM cS x0 q0 q1 qr (ms2, es2, gE2, gM2, gB2, gT2, gG2, gN2, gK2, gD2) κ2))))
  have hD : va_D (fun q : Nat => s.heap.size ≤ q) ((xOut cJ o0 q2 :: (CW cI cE cG cM cS x0 q0 q1 qr (ms2, es2, gE2, gM2, gB2, gT2, gG2, gN2, gK2, gD2) κ2)) ++ (RS cI cJ cZ m0 a (jI ((k : Nat) : Int)) (ms2, es2, gE2, gM2, gB2, gT2, gG2, gN2, gK2, gD2) (gH2, gU2, gF2, gX2, gW2, gI2, gP2, gA2, gR2))) := hD.perm (List.perm_append_comm (l₁ := (RS cI cJ cZ m0 a (jI ((k : Nat) : Int)) (ms2, es2, gE2, gM2, gB2, gT2, gG2, gN2, gK2, gD2) (gH2, gU2, gF2, gX2, gW2, gI2, gP2, gA2, gR2))) (l₂ := (xOut cJ o0 q2 :: (CW cI cE cG cM cS x0 q0 q1 qr (ms2, es2, gE2, gM2, gB2, gT2, gG2, gN2, gK2, gD2) κ2))))
  refine lv_iload hx hb dL_law_1357 (lv_at hl 1 rfl) ?_
  refine lv_icmp_eq (tgt := 1364) hx hb dL_law_1359 (by decide) (fun _ => ?_) (fun h9 => absurd rfl h9)
  refine lv_iload hx hb dL_law_1364 (lv_at hl 1 rfl) ?_
  refine n_if_ne (tgt := 1381) hx hb (by unfold r32; omega) dL_law_1366 (by decide) (fun h0 => ?_) (fun h0 => ?_)
  · refine lv_goto (tgt := 1384) hx hb dL_law_1381 (by decide) ?_
    exact kk (ms2, es2, gE2, gM2, gB2, gT2, gG2, gN2, gK2, gD2) κ2 (jI ((k : Nat) : Int)) (gH2, gU2, gF2, gX2, gW2, gI2, gP2, gA2, gR2) q2 H locs ls hI2 hP hD hS (lv_sub hl [2, 3, 4, 5, 6] rfl)
  · obtain ⟨hv1, hv2⟩ := hv (by omega)
    have hv1 : jI (q2 0) = r := hv1
    have hv2 : r32 (q2 0) := hv2
    subst hv1
    refine lv_aload_n hx hb dL_law_1369 rfl (lv_at hl 6 rfl) ?_
    refine n_iconst hx hb dL_law_1370 ?_
    refine n_lald (i := 0) hx hb hK hP 0 1 rfl htJ rfl (Nat.le_of_ble_eq_true rfl) (Nat.le_of_ble_eq_true rfl) dL_law_1371 ?_
    refine lv_iload hx hb dL_law_1372 (lv_at hl 0 rfl) ?_
    refine n_i2l hx hb dL_law_1374 hv2.1 hv2.2 ?_
    refine W.lcmp hx hb dL_law_1375 ?_
    refine n_lif_eq (tgt := 1381) hx hb (by have := hv2.1; have := hv2.2; unfold r64; omega) (by have := hv2.1; have := hv2.2; unfold r64; omega) dL_law_1376 (by decide) (fun _ => ?_) (fun h9 => absurd rfl h9)
    refine lv_goto (tgt := 1384) hx hb dL_law_1381 (by decide) ?_
    exact kk (ms2, es2, gE2, gM2, gB2, gT2, gG2, gN2, gK2, gD2) κ2 (jI ((k : Nat) : Int)) (gH2, gU2, gF2, gX2, gW2, gI2, gP2, gA2, gR2) q2 H locs ls hI2 hP hD hS (lv_sub hl [2, 3, 4, 5, 6] rfl)
