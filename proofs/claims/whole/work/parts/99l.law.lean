/-! the law's loop -/
theorem and15 (v : Int32) : ∃ k : Nat, k < 16 ∧ v &&& jI 15 = jI ((k : Nat) : Int) := by
  refine ⟨(v.toBitVec &&& 15#32).toNat, ?_, ?_⟩
  · rw [BitVec.toNat_and]
    exact Nat.lt_of_le_of_lt Nat.and_le_right (by decide)
  · apply Int32.toBitVec_inj.mp
    show v.toBitVec &&& 15#32 = BitVec.ofInt 32 (((v.toBitVec &&& 15#32).toNat : Nat) : Int)
    rw [BitVec.ofInt_natCast, BitVec.ofNat_toNat, BitVec.setWidth_eq]
set_option maxHeartbeats 16000000 in
set_option maxRecDepth 100000 in
theorem law_loop {p : Program} {e : Env} {s : State} {m : MethodId} {below : List Frame} {meth : Method} {c : Code} (l : Launch) (hl9 : l.stackTraces = false) (D : va_G) (tys : List (ClassId × FieldType)) {cI cJ cZ cE cG cM cS : ClassId} (htI : tys[0]? = some (cI, .int)) (htJ : tys[1]? = some (cJ, .long)) (htZ : tys[2]? = some (cZ, .boolean)) (htE : tys[3]? = some (cE, .object RX1)) (htM : tys[4]? = some (cM, .object RX2)) (htS : tys[5]? = some (cS, .object RX4)) (htG : tys[6]? = some (cG, .array .int)) {b L : Nat} {xs : Nat → Int32} (C1 : LX p s m c b L xs) (hr : meth.sig.returnType = ret) (hlocks : meth.locks = false) (hK : KK D tys s) (hXK : XK s) (hZ : XZ (fun q : Nat => s.heap.size ≤ q) s s.heap) (hN : XN s) (m0 : Nat) (a : Nat → Nat) (x0 q0 q1 : Nat) (qr : Nat → Nat) (o0 : Nat) :
    ∀ (f i : Nat) (g : SG) (κ : Nat → EG) (th : Int32) (c9 : KR) (q : Nat → Int) (H : Heap) (locs : List Loc) (ls : Array Slot), L < 7 * i + f → 7 * i ≤ L → INV g κ → va_P D vwCl ((xOut cJ o0 q :: (CW cI cE cG cM cS x0 q0 q1 qr g κ)) ++ (RS cI cJ cZ m0 a th g c9)) H → va_D (fun q : Nat => s.heap.size ≤ q) ((xOut cJ o0 q :: (CW cI cE cG cM cS x0 q0 q1 qr g κ)) ++ (RS cI cJ cZ m0 a th g c9)) → va_S (fun q : Nat => s.heap.size ≤ q) s.heap H locs → lv_has ls 7 [(4, .int (jI ((7 * i : Nat) : Int))), (0, .ref b), (1, .ref x0), (2, .ref m0), (3, .ref o0)] →
      W p l e room_1 s m #[Value.ref b] below meth c H locs (28 + 228 * i) (1859 + 867 * i) (lw_Z below #[Value.ref b] s) (F0 m 23 ls []) := by
  obtain ⟨hx, hb, hml, hown, hts, hX, hbl, hL⟩ := id C1
  have hA : ∀ q : Nat, s.heap.size ≤ q → (fun q : Nat => s.heap.size ≤ q) q := fun _ h => h
  have hbA : ¬ (fun q : Nat => s.heap.size ≤ q) b := Nat.not_le.mpr hbl
  intro f
  induction f with
  | zero =>
    intro i g κ th c9 q H locs ls h1 h2
    exact absurd h2 (by omega)
  | succ f ih =>
    intro i g κ th c9 q H locs ls hf hiL hI hP hD hS hl
    refine lv_iload hx hb dL_law_23 (lv_at hl 0 rfl) ?_
    refine lv_aload_n hx hb dL_law_25 rfl (lv_at hl 1 rfl) ?_
    refine va_slen hx hb hX hbl hbA hS dL_law_26 ?_
    have e9 : Int32.ofNat L = jI ((L : Nat) : Int) := (jI_nat L).symm
    rw [e9]
    refine n_bipush hx hb dL_law_27 (by decide) ?_
    refine n_isub hx hb dL_law_29 ?_
    refine n_icmp_gt (tgt := 1390) hx hb (by unfold r32; omega) (by unfold r32; omega) dL_law_30 (by decide) (fun h9 => ?_) (fun h9 => ?_)
    · refine n_iconst hx hb dL_law_1390 ?_
      rw [show jI 1 = (1 : Int32) by decide]
      refine va_forget (fun q hq => hS.2.2 q hq) ?_
      refine W.widen (k := 601024) (n := 7293034) (by omega) (by omega) ?_
      exact lw_ret hx hb hr hlocks dL_law_1391
    have hi : 7 * i + 7 ≤ L := by omega
    have next : ∀ (g2 : SG) (κ2 : Nat → EG) (th2 : Int32) (c2 : KR) (q2 : Nat → Int) (H1 : Heap) (locs1 : List Loc) (ls1 : Array Slot), INV g2 κ2 → va_P D vwCl ((xOut cJ o0 q2 :: (CW cI cE cG cM cS x0 q0 q1 qr g2 κ2)) ++ (RS cI cJ cZ m0 a th2 g2 c2)) H1 → va_D (fun q : Nat => s.heap.size ≤ q) ((xOut cJ o0 q2 :: (CW cI cE cG cM cS x0 q0 q1 qr g2 κ2)) ++ (RS cI cJ cZ m0 a th2 g2 c2)) → va_S (fun q : Nat => s.heap.size ≤ q) s.heap H1 locs1 → lv_has ls1 7 [(4, .int (jI ((7 * i : Nat) : Int))), (0, .ref b), (1, .ref x0), (2, .ref m0), (3, .ref o0)] → W p l e room_1 s m #[Value.ref b] below meth c H1 locs1 (28 + 228 * i + 228) (1859 + 867 * i + 867) (lw_Z below #[Value.ref b] s) (F0 m 1384 ls1 []) := by
      intro g2 κ2 th2 c2 q2 H1 locs1 ls1 hI2 hP2 hD2 hS2 hl2
      refine lv_iinc (v := jI (((7 * i : Nat) : Int) + 7)) (lv' := [(4, .int (jI (((7 * i : Nat) : Int) + 7))), (0, .ref b), (1, .ref x0), (2, .ref m0), (3, .ref o0)]) hx hb dL_law_1384 hl2 (k := 0) rfl (jI_add ((7 * i : Nat) : Int) 7) (by decide) rfl (fun ls hl => ?_)
      refine lv_goto (tgt := 23) hx hb dL_law_1387 (by decide) ?_
      have e7 : (((7 * i : Nat) : Int) + 7) = ((7 * (i + 1) : Nat) : Int) := by omega
      rw [e7] at hl
      refine W.widen (k := 28 + 228 * (i + 1)) (n := 1859 + 867 * (i + 1)) (by omega) (by omega) ?_
      exact ih (i + 1) g2 κ2 th2 c2 q2 H1 locs1 ls (by omega) (by omega) hI2 hP2 hD2 hS2 hl
    obtain ⟨z0, ez0, r0⟩ := i32_j (xs (7 * i))
    refine lv_aload_n hx hb dL_law_33 rfl (lv_at hl 1 rfl) ?_
    refine lv_iload hx hb dL_law_34 (lv_at hl 0 rfl) ?_
    refine s_ld (i := 7 * i) hx hb hX hbl hbA hS rfl (by omega) hL ez0 dL_law_36 ?_
    refine n_bipush hx hb dL_law_37 (by decide) ?_
    refine lv_iand hx hb dL_law_39 ?_
    obtain ⟨k, hk, ek⟩ := and15 (jI z0)
    rw [ek]
    obtain ⟨ms, es, gE, gM, gB, gT, gG, gN, gK, gD⟩ := g
    match k, hk with
    | 0, _ =>
      refine lv_tableIn (off := 80) (tgt := 120) hx hb dL_law_40 (by decide) (by decide) (by decide) (by decide) ?_
      exact ls_model l hl9 D tys htI htJ htZ htE htM htS htG C1 hK hXK hZ hN m0 a x0 q0 q1 qr o0 ms es gE gM gB gT gG gN gK gD κ hI th c9 q hi hP hD hS hl (by omega) (by omega) next
    | 1, _ =>
      refine lv_tableIn (off := 124) (tgt := 164) hx hb dL_law_40 (by decide) (by decide) (by decide) (by decide) ?_
      exact ls_entry l hl9 D tys htI htJ htZ htE htM htS htG C1 hK hXK hZ hN m0 a x0 q0 q1 qr o0 ms es gE gM gB gT gG gN gK gD κ hI th c9 q hi hP hD hS hl (by omega) (by omega) next
    | 2, _ =>
      refine lv_tableIn (off := 204) (tgt := 244) hx hb dL_law_40 (by decide) (by decide) (by decide) (by decide) ?_
      exact ls_begin l hl9 D tys htI htJ htZ htE htM htS htG C1 hK hXK hZ hN m0 a x0 q0 q1 qr o0 ms es gE gM gB gT gG gN gK gD κ hI th c9 q hi hP hD hS hl (by omega) (by omega) next
    | 3, _ =>
      refine lv_tableIn (off := 322) (tgt := 362) hx hb dL_law_40 (by decide) (by decide) (by decide) (by decide) ?_
      exact ls_gate l hl9 D tys htI htJ htZ htE htM htS htG C1 hK hXK hZ hN m0 a x0 q0 q1 qr o0 ms es gE gM gB gT gG gN gK gD κ hI th c9 q hi hP hD hS hl (by omega) (by omega) next
    | 4, _ =>
      refine lv_tableIn (off := 390) (tgt := 430) hx hb dL_law_40 (by decide) (by decide) (by decide) (by decide) ?_
      exact ls_predict l hl9 D tys htI htJ htZ htE htM htS htG C1 hK hXK hZ hN m0 a x0 q0 q1 qr o0 ms es gE gM gB gT gG gN gK gD κ hI th c9 q hi hP hD hS hl (by omega) (by omega) next
    | 5, _ =>
      refine lv_tableIn (off := 446) (tgt := 486) hx hb dL_law_40 (by decide) (by decide) (by decide) (by decide) ?_
      exact ls_measure l hl9 D tys htI htJ htZ htE htM htS htG C1 hK hXK hZ hN m0 a x0 q0 q1 qr o0 ms es gE gM gB gT gG gN gK gD κ hI th c9 q hi hP hD hS hl (by omega) (by omega) next
    | 6, _ =>
      refine lv_tableIn (off := 550) (tgt := 590) hx hb dL_law_40 (by decide) (by decide) (by decide) (by decide) ?_
      exact ls_late l hl9 D tys htI htJ htZ htE htM htS htG C1 hK hXK hZ hN m0 a x0 q0 q1 qr o0 ms es gE gM gB gT gG gN gK gD κ hI th c9 q hi hP hD hS hl (by omega) (by omega) next
    | 7, _ =>
      refine lv_tableIn (off := 668) (tgt := 708) hx hb dL_law_40 (by decide) (by decide) (by decide) (by decide) ?_
      exact ls_drop l hl9 D tys htI htJ htZ htE htM htS htG C1 hK hXK hZ hN m0 a x0 q0 q1 qr o0 ms es gE gM gB gT gG gN gK gD κ hI th c9 q hi hP hD hS hl (by omega) (by omega) next
    | 8, _ =>
      refine lv_tableIn (off := 716) (tgt := 756) hx hb dL_law_40 (by decide) (by decide) (by decide) (by decide) ?_
      exact ls_of l hl9 D tys htI htJ htZ htE htM htS htG C1 hK hXK hZ hN m0 a x0 q0 q1 qr o0 ms es gE gM gB gT gG gN gK gD κ hI th c9 q hi hP hD hS hl (by omega) (by omega) next
    | 9, _ =>
      refine lv_tableIn (off := 784) (tgt := 824) hx hb dL_law_40 (by decide) (by decide) (by decide) (by decide) ?_
      exact ls_ofMeasurement l hl9 D tys htI htJ htZ htE htM htS htG C1 hK hXK hZ hN m0 a x0 q0 q1 qr o0 ms es gE gM gB gT gG gN gK gD κ hI th c9 q hi hP hD hS hl (by omega) (by omega) next
    | 10, _ =>
      refine lv_tableIn (off := 864) (tgt := 904) hx hb dL_law_40 (by decide) (by decide) (by decide) (by decide) ?_
      exact ls_gain l hl9 D tys htI htJ htZ htE htM htS htG C1 hK hXK hZ hN m0 a x0 q0 q1 qr o0 ms es gE gM gB gT gG gN gK gD κ hI th c9 q hi hP hD hS hl (by omega) (by omega) next
    | 11, _ =>
      refine lv_tableIn (off := 968) (tgt := 1008) hx hb dL_law_40 (by decide) (by decide) (by decide) (by decide) ?_
      exact ls_information l hl9 D tys htI htJ htZ htE htM htS htG C1 hK hXK hZ hN m0 a x0 q0 q1 qr o0 ms es gE gM gB gT gG gN gK gD κ hI th c9 q hi hP hD hS hl (by omega) (by omega) next
    | 12, _ =>
      refine lv_tableIn (off := 1036) (tgt := 1076) hx hb dL_law_40 (by decide) (by decide) (by decide) (by decide) ?_
      exact ls_anew l hl9 D tys htI htJ htZ htE htM htS htG C1 hK hXK hZ hN m0 a x0 q0 q1 qr o0 ms es gE gM gB gT gG gN gK gD κ hI th c9 q hi hP hD hS hl (by omega) (by omega) next
    | 13, _ =>
      refine lv_tableIn (off := 1104) (tgt := 1144) hx hb dL_law_40 (by decide) (by decide) (by decide) (by decide) ?_
      exact ls_smoothed l hl9 D tys htI htJ htZ htE htM htS htG C1 hK hXK hZ hN m0 a x0 q0 q1 qr o0 ms es gE gM gB gT gG gN gK gD κ hI th c9 q hi hP hD hS hl (by omega) (by omega) next
    | 14, _ =>
      refine lv_tableIn (off := 1184) (tgt := 1224) hx hb dL_law_40 (by decide) (by decide) (by decide) (by decide) ?_
      exact ls_ahead l hl9 D tys htI htJ htZ htE htM htS htG C1 hK hXK hZ hN m0 a x0 q0 q1 qr o0 ms es gE gM gB gT gG gN gK gD κ hI th c9 q hi hP hD hS hl (by omega) (by omega) next
    | 15, _ =>
      refine lv_tableIn (off := 1264) (tgt := 1304) hx hb dL_law_40 (by decide) (by decide) (by decide) (by decide) ?_
      exact ls_aheadAnew l hl9 D tys htI htJ htZ htE htM htS htG C1 hK hXK hZ hN m0 a x0 q0 q1 qr o0 ms es gE gM gB gT gG gN gK gD κ hI th c9 q hi hP hD hS hl (by omega) (by omega) next
    | k + 16, hk => exact absurd hk (by omega)
