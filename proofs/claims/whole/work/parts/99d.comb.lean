/-! both sides, call by call: what changes an estimator -/
theorem in_zpT {n : Nat} {v : Int} (h : inB 0 ((n : Nat) : Int) v = true) (hn : n ≤ 20) : ∃ z : Zp, v = zv z ∧ zv z ≤ ((n : Nat) : Int) := by
  obtain ⟨h1, h2⟩ := inB_iff.mp h
  have e : zv (zc v) = v := by rw [zv_zc]; omega
  exact ⟨zc v, e.symm, by rw [e]; exact h2⟩
theorem drop_m2 {gD : Nat → Bool} {ev kv : Nat} {b b' : Bool} (k : Nat) : va_up (va_up gD (30 * ev + kv) b) (30 * ev + kv) b' (30 * ev + k) = va_up (fun k => gD (30 * ev + k)) kv b' k := by
  by_cases hk : k = kv
  · subst hk
    rw [up_s, up_s]
  · rw [up_o _ _ hk, up_o _ _ (by omega), up_o _ _ (by omega)]
theorem drop_m3 {gD : Nat → Bool} {ev kv : Nat} {b : Bool} (h : gD (30 * ev + kv) = false) (k : Nat) : va_up (va_up gD (30 * ev + kv) b) (30 * ev + kv) false (30 * ev + k) = gD (30 * ev + k) := by
  by_cases hk : k = kv
  · subst hk
    rw [up_s, h]
  · rw [up_o _ _ (by omega), up_o _ _ (by omega)]

set_option maxHeartbeats 8000000 in
set_option maxRecDepth 100000 in
/--  -/
theorem st_gate (l : Launch) (hl9 : l.stackTraces = false) (D : va_G) (tys : List (ClassId × FieldType)) {cI cJ cZ cE cG cM cS : ClassId} (htI : tys[0]? = some (cI, .int)) (htJ : tys[1]? = some (cJ, .long)) (htZ : tys[2]? = some (cZ, .boolean)) (htE : tys[3]? = some (cE, .object RX1)) (htM : tys[4]? = some (cM, .object RX2)) (htS : tys[5]? = some (cS, .object RX4)) (htG : tys[6]? = some (cG, .array .int)) (m0 : Nat) (a : Nat → Nat) (x0 q0 q1 : Nat) (qr : Nat → Nat) (ms es : Nat) (gE gM gB : Nat → Zp) (gT : Nat → Nat) (gG : Nat → Zp) (gN : Nat → Nat) (gK : Nat → Zp) (gD : Nat → Bool) (κ : Nat → EG) (hI : INV (ms, es, gE, gM, gB, gT, gG, gN, gK, gD) κ) (ev it : Int) (r1 : r32 ev) (r2 : r32 it) : ∃ (k : Nat) (v : Int32) (g' : SG), RDo l D tys cI cJ cZ m0 a yX7_gate wsX7_gate [.int (jI ev), .int (jI it)] (ms, es, gE, gM, gB, gT, gG, gN, gK, gD) g' k v ∧ CDo l D tys cI cE cG cM cS x0 q0 q1 qr xc2 yX6_gate wsX6_gate [.int (jI ev), .int (jI it)] (ms, es, gE, gM, gB, gT, gG, gN, gK, gD) κ g' k v := by
  obtain ⟨hms, hes, hIE, hIO⟩ := id hI
  by_cases h9 : inB 0 (((es : Nat) : Int) - 1) ev = true
  case neg =>
    rw [Bool.not_eq_true] at h9
    exact ⟨1, jI 0, (ms, es, gE, gM, gB, gT, gG, gN, gK, gD), ⟨by decide, fun th c => by
    obtain ⟨gH, gU, gF, gX, gW, gI, gP, gA, gR⟩ := c
    exact CtE.pl (c_X7_gate1 l D tys htI htJ htZ m0 a ms es th gG hms hes ev it r1 r2 h9).E (by decide) (by decide) [0, 5] [1, 2, 3, 4, 6, 7, 8, 9, 10, 11, 12, 13, 14, 15, 16, 17] rfl (show (List.range 18).Perm ([0, 5] ++ [1, 2, 3, 4, 6, 7, 8, 9, 10, 11, 12, 13, 14, 15, 16, 17]) by decide) (fun u => by obtain ⟨u1, u2, u3, u4, u5, u6, u7, u8, u9⟩ := u; rfl) (fun r u hq => ⟨(gH, gU, gF, gX, gW, gI, gP, gA, gR), hq, rfl, rfl⟩)⟩, (cd_ref (c_X6_gate1 l hl9 D tys htE x0 q0 q1 ms es (fE es κ) hes ev it r1 h9) (cw_x) rfl hI (by decide) (by decide) (by decide) (by decide))⟩
  obtain ⟨ev, rfl, hev⟩ := in_nat1 h9
  obtain ⟨hset, hB, hN, hT, htm⟩ := hIE ev hev
  have hset2 : SEtl (fun i => gM (7 * ev + i)) ((κ ev).2.2.2.1 0) (fun k c => gK (6 * (30 * ev + k) + c)) (fun k => gD (30 * ev + k)) (gN ev) (gT ev + 1) (κ ev).2.1 (κ ev).2.2.1 (κ ev).2.2.2.1 (κ ev).2.2.2.2 := by rw [hB]; exact hset
  have hbeh : beh (fun i => gM (7 * ev + i)) (s5at gB ev) (fun k c => gK (6 * (30 * ev + k) + c)) (fun k => gD (30 * ev + k)) (gN ev) (gT ev) = some ((κ ev).2.2.2.2 (gT ev)) := (hset.1 (gT ev) (by omega)).2
  by_cases h8 : (inB 0 10006 it) = true
  case neg =>
    rw [Bool.not_eq_true] at h8
    exact ⟨2, jI 0, (ms, es, gE, gM, gB, gT, gG, gN, gK, gD), ⟨by decide, fun th c => by
    obtain ⟨gH, gU, gF, gX, gW, gI, gP, gA, gR⟩ := c
    exact CtE.pl (c_X7_gate2 l D tys htI htJ htZ m0 a ms es th gG hms hes ev it r1 r2 h9 h8).E (by decide) (by decide) [0, 5] [1, 2, 3, 4, 6, 7, 8, 9, 10, 11, 12, 13, 14, 15, 16, 17] rfl (show (List.range 18).Perm ([0, 5] ++ [1, 2, 3, 4, 6, 7, 8, 9, 10, 11, 12, 13, 14, 15, 16, 17]) by decide) (fun u => by obtain ⟨u1, u2, u3, u4, u5, u6, u7, u8, u9⟩ := u; rfl) (fun r u hq => ⟨(gH, gU, gF, gX, gW, gI, gP, gA, gR), hq, rfl, rfl⟩)⟩, (cd_ref (c_X6_gate2 l hl9 D tys htE x0 q0 q1 ms es (fE es κ) hes ev hev ((κ ev).1 0) (if_pos hev) it r2 h8) (cw_x) rfl hI (by decide) (by decide) (by decide) (by decide))⟩
  obtain ⟨it, rfl⟩ := in_zp h8
  have he : sW cM cS gM (va_up gG ev it) gK gT gN gD (va_up κ ev (κ ev)) ev = estL cM cS (κ ev).1 (gN ev) (gT ev) it (fun i => gM (7 * ev + i)) (fun k c => gK (6 * (30 * ev + k) + c)) (κ ev).2.1 (fun k => gD (30 * ev + k)) (κ ev).2.2.1 (κ ev).2.2.2.1 (κ ev).2.2.2.2 := by
    unfold sW
    rw [up_s, up_s]
  have hs : ∀ e, e < es → e ≠ ev → sW cM cS gM (va_up gG ev it) gK gT gN gD (va_up κ ev (κ ev)) e = sW cM cS gM gG gK gT gN gD κ e := fun e _ hne => sW_c (up_o _ _ hne) rfl rfl (fun _ _ _ _ => rfl) (fun _ _ => rfl) (up_o _ _ hne)
  exact ⟨0, vI (gG ev), (ms, es, gE, gM, gB, gT, va_up gG ev it, gN, gK, gD), ⟨by decide, fun th c => by
    obtain ⟨gH, gU, gF, gX, gW, gI, gP, gA, gR⟩ := c
    exact CtE.pl (c_X7_gate0 l D tys htI htJ htZ m0 a ms es th gG hms hes ev it hev).E (by decide) (by decide) [0, 5] [1, 2, 3, 4, 6, 7, 8, 9, 10, 11, 12, 13, 14, 15, 16, 17] rfl (show (List.range 18).Perm ([0, 5] ++ [1, 2, 3, 4, 6, 7, 8, 9, 10, 11, 12, 13, 14, 15, 16, 17]) by decide) (fun u => by obtain ⟨u1, u2, u3, u4, u5, u6, u7, u8, u9⟩ := u; rfl) (fun r u hq => ⟨(gH, gU, gF, gX, gW, gI, gP, gA, gR), hq, rfl, rfl⟩)⟩, CtG.to ((c_X6_gate0 l hl9 D tys htE x0 q0 q1 ms es (fE es κ) hes htM htS ((κ ev).1) (gN ev) (gT ev) (gG ev) (fun i => gM (7 * ev + i)) (fun k c => gK (6 * (30 * ev + k) + c)) ((κ ev).2.1) (fun k => gD (30 * ev + k)) ((κ ev).2.2.1) ((κ ev).2.2.2.1) ((κ ev).2.2.2.2) hN hT ev hev (if_pos hev) it).wide (by decide) (by decide) (by decide) (by decide)) (cw_es hev) (fun r u hq => ⟨va_up κ ev (κ ev), ⟨rfl, hq, inv_put hev hI (fun _ _ => rfl) (fun _ _ => rfl) (fun _ _ _ _ _ _ => rfl) (fun _ _ _ _ => rfl) (hIE ev hev)⟩, cw_put2 (gB := gB) hev rfl he hs⟩) (fun _ _ z => z.elim)⟩

set_option maxHeartbeats 8000000 in
set_option maxRecDepth 100000 in
/--  -/
theorem st_predict (l : Launch) (hl9 : l.stackTraces = false) (D : va_G) (tys : List (ClassId × FieldType)) {cI cJ cZ cE cG cM cS : ClassId} (htI : tys[0]? = some (cI, .int)) (htJ : tys[1]? = some (cJ, .long)) (htZ : tys[2]? = some (cZ, .boolean)) (htE : tys[3]? = some (cE, .object RX1)) (htM : tys[4]? = some (cM, .object RX2)) (htS : tys[5]? = some (cS, .object RX4)) (htG : tys[6]? = some (cG, .array .int)) (m0 : Nat) (a : Nat → Nat) (x0 q0 q1 : Nat) (qr : Nat → Nat) (ms es : Nat) (gE gM gB : Nat → Zp) (gT : Nat → Nat) (gG : Nat → Zp) (gN : Nat → Nat) (gK : Nat → Zp) (gD : Nat → Bool) (κ : Nat → EG) (hI : INV (ms, es, gE, gM, gB, gT, gG, gN, gK, gD) κ) (ev : Int) (r1 : r32 ev) : ∃ (k : Nat) (v : Int32) (g' : SG), RDo l D tys cI cJ cZ m0 a yX7_predict wsX7_predict [.int (jI ev)] (ms, es, gE, gM, gB, gT, gG, gN, gK, gD) g' k v ∧ CDo l D tys cI cE cG cM cS x0 q0 q1 qr xcp yX6_predict wsX6_predict [.int (jI ev)] (ms, es, gE, gM, gB, gT, gG, gN, gK, gD) κ g' k v := by
  obtain ⟨hms, hes, hIE, hIO⟩ := id hI
  by_cases h9 : inB 0 (((es : Nat) : Int) - 1) ev = true
  case neg =>
    rw [Bool.not_eq_true] at h9
    exact ⟨1, jI 0, (ms, es, gE, gM, gB, gT, gG, gN, gK, gD), ⟨by decide, fun th c => by
    obtain ⟨gH, gU, gF, gX, gW, gI, gP, gA, gR⟩ := c
    exact CtE.pl (c_X7_predict1 l D tys htI htJ htZ m0 a ms es th gT hms hes ev r1 h9).E (by decide) (by decide) [0, 4] [1, 2, 3, 5, 6, 7, 8, 9, 10, 11, 12, 13, 14, 15, 16, 17] rfl (show (List.range 18).Perm ([0, 4] ++ [1, 2, 3, 5, 6, 7, 8, 9, 10, 11, 12, 13, 14, 15, 16, 17]) by decide) (fun u => by obtain ⟨u1, u2, u3, u4, u5, u6, u7, u8, u9⟩ := u; rfl) (fun r u hq => ⟨(gH, gU, gF, gX, gW, gI, gP, gA, gR), hq, rfl, rfl⟩)⟩, (cd_ref (c_X6_predict1 l hl9 D tys htE x0 q0 q1 ms es (fE es κ) hes ev r1 h9) (cw_x) rfl hI (by decide) (by decide) (by decide) (by decide))⟩
  obtain ⟨ev, rfl, hev⟩ := in_nat1 h9
  obtain ⟨hset, hB, hN, hT, htm⟩ := hIE ev hev
  have hset2 : SEtl (fun i => gM (7 * ev + i)) ((κ ev).2.2.2.1 0) (fun k c => gK (6 * (30 * ev + k) + c)) (fun k => gD (30 * ev + k)) (gN ev) (gT ev + 1) (κ ev).2.1 (κ ev).2.2.1 (κ ev).2.2.2.1 (κ ev).2.2.2.2 := by rw [hB]; exact hset
  have hbeh : beh (fun i => gM (7 * ev + i)) (s5at gB ev) (fun k c => gK (6 * (30 * ev + k) + c)) (fun k => gD (30 * ev + k)) (gN ev) (gT ev) = some ((κ ev).2.2.2.2 (gT ev)) := (hset.1 (gT ev) (by omega)).2
  by_cases h20 : gT ev = 20
  · exact ⟨2, jI 0, (ms, es, gE, gM, gB, gT, gG, gN, gK, gD), ⟨by decide, fun th c => by
    obtain ⟨gH, gU, gF, gX, gW, gI, gP, gA, gR⟩ := c
    exact CtE.pl (c_X7_predict2 l D tys htI htJ htZ m0 a ms es th gT hms hes ev hev h20).E (by decide) (by decide) [0, 4] [1, 2, 3, 5, 6, 7, 8, 9, 10, 11, 12, 13, 14, 15, 16, 17] rfl (show (List.range 18).Perm ([0, 4] ++ [1, 2, 3, 5, 6, 7, 8, 9, 10, 11, 12, 13, 14, 15, 16, 17]) by decide) (fun u => by obtain ⟨u1, u2, u3, u4, u5, u6, u7, u8, u9⟩ := u; rfl) (fun r u hq => ⟨(gH, gU, gF, gX, gW, gI, gP, gA, gR), hq, rfl, rfl⟩)⟩, (cd_ref (c_X6_predict2 l hl9 D tys htE x0 q0 q1 ms es (fE es κ) hes htM htS ((κ ev).1) (gN ev) (gT ev) (gG ev) (fun i => gM (7 * ev + i)) (fun k c => gK (6 * (30 * ev + k) + c)) ((κ ev).2.1) (fun k => gD (30 * ev + k)) ((κ ev).2.2.1) ((κ ev).2.2.2.1) ((κ ev).2.2.2.2) hN hT ev hev (if_pos hev) h20) (cw_es hev) rfl hI (by decide) (by decide) (by decide) (by decide))⟩
  have he : ∀ u : (Nat → Nat → Zp) × (Nat → Bool) × (Nat → S5) × (Nat → S5), sW cM cS gM gG gK (va_up gT ev (gT ev + 1)) gN gD (va_up κ ev ((κ ev).1, u)) ev = estL cM cS (κ ev).1 (gN ev) (gT ev + 1) (gG ev) (fun i => gM (7 * ev + i)) (fun k c => gK (6 * (30 * ev + k) + c)) u.1 (fun k => gD (30 * ev + k)) u.2.1 u.2.2.1 u.2.2.2 := fun u => by
    unfold sW
    rw [up_s, up_s]
  have hs : ∀ (u : EG), ∀ e, e < es → e ≠ ev → sW cM cS gM gG gK (va_up gT ev (gT ev + 1)) gN gD (va_up κ ev u) e = sW cM cS gM gG gK gT gN gD κ e := fun u e _ hne => sW_c rfl (up_o _ _ hne) rfl (fun _ _ _ _ => rfl) (fun _ _ => rfl) (up_o _ _ hne)
  exact ⟨0, jI ((gT ev + 1 : Nat) : Int), (ms, es, gE, gM, gB, (va_up gT ev (gT ev + 1)), gG, gN, gK, gD), ⟨by decide, fun th c => by
    obtain ⟨gH, gU, gF, gX, gW, gI, gP, gA, gR⟩ := c
    exact CtE.pl (c_X7_predict0 l D tys htI htJ htZ m0 a ms es th gT hms hes ev hev (by omega)).E (by decide) (by decide) [0, 4] [1, 2, 3, 5, 6, 7, 8, 9, 10, 11, 12, 13, 14, 15, 16, 17] rfl (show (List.range 18).Perm ([0, 4] ++ [1, 2, 3, 5, 6, 7, 8, 9, 10, 11, 12, 13, 14, 15, 16, 17]) by decide) (fun u => by obtain ⟨u1, u2, u3, u4, u5, u6, u7, u8, u9⟩ := u; rfl) (fun r u hq => ⟨(gH, gU, gF, gX, gW, gI, gP, gA, gR), hq, rfl, rfl⟩)⟩, CtG.to ((c_X6_predict0 l hl9 D tys htE x0 q0 q1 ms es (fE es κ) hes htM htS ((κ ev).1) (gN ev) (gT ev) (gG ev) (fun i => gM (7 * ev + i)) (fun k c => gK (6 * (30 * ev + k) + c)) ((κ ev).2.1) (fun k => gD (30 * ev + k)) ((κ ev).2.2.1) ((κ ev).2.2.2.1) ((κ ev).2.2.2.2) hN hT ev hev (if_pos hev) hset2 htm (by omega)).wide (by decide) (by decide) (by decide) (by decide)) (cw_es hev) (fun r u hq => ⟨va_up κ ev ((κ ev).1, u), ⟨rfl, hq.1, inv_put hev hI (fun e he => up_o _ _ he) (fun _ _ => rfl) (fun _ _ _ _ _ _ => rfl) (fun _ _ _ _ => rfl) ⟨by rw [up_s, ← hB]; exact hq.2.2, hq.2.1.trans hB, hN, by rw [up_s]; omega, fun k hk => by rw [up_s]; exact Nat.le_succ_of_le (htm k hk)⟩⟩, cw_put2 (gB := gB) hev rfl (he u) (hs _)⟩) (fun _ _ z => z.elim)⟩

set_option maxHeartbeats 8000000 in
set_option maxRecDepth 100000 in
/--  -/
theorem st_measure (l : Launch) (hl9 : l.stackTraces = false) (D : va_G) (tys : List (ClassId × FieldType)) {cI cJ cZ cE cG cM cS : ClassId} (htI : tys[0]? = some (cI, .int)) (htJ : tys[1]? = some (cJ, .long)) (htZ : tys[2]? = some (cZ, .boolean)) (htE : tys[3]? = some (cE, .object RX1)) (htM : tys[4]? = some (cM, .object RX2)) (htS : tys[5]? = some (cS, .object RX4)) (htG : tys[6]? = some (cG, .array .int)) (m0 : Nat) (a : Nat → Nat) (x0 q0 q1 : Nat) (qr : Nat → Nat) (ms es : Nat) (gE gM gB : Nat → Zp) (gT : Nat → Nat) (gG : Nat → Zp) (gN : Nat → Nat) (gK : Nat → Zp) (gD : Nat → Bool) (κ : Nat → EG) (hI : INV (ms, es, gE, gM, gB, gT, gG, gN, gK, gD) κ) (ev h0 h1 zz rr : Int) (r1 : r32 ev) (r3 : r32 h0) (r4 : r32 h1) (r5 : r32 zz) (r6 : r32 rr) : ∃ (k : Nat) (v : Int32) (g' : SG), RDo l D tys cI cJ cZ m0 a yX7_measure wsX7_measure [.int (jI ev), .int (jI h0), .int (jI h1), .int (jI zz), .int (jI rr)] (ms, es, gE, gM, gB, gT, gG, gN, gK, gD) g' k v ∧ CDo l D tys cI cE cG cM cS x0 q0 q1 qr xc3 yX6_measure wsX6_measure [.int (jI ev), .int (jI h0), .int (jI h1), .int (jI zz), .int (jI rr)] (ms, es, gE, gM, gB, gT, gG, gN, gK, gD) κ g' k v := by
  obtain ⟨hms, hes, hIE, hIO⟩ := id hI
  by_cases h9 : inB 0 (((es : Nat) : Int) - 1) ev = true
  case neg =>
    rw [Bool.not_eq_true] at h9
    exact ⟨1, jI 0, (ms, es, gE, gM, gB, gT, gG, gN, gK, gD), ⟨by decide, fun th c => by
    obtain ⟨gH, gU, gF, gX, gW, gI, gP, gA, gR⟩ := c
    exact CtE.pl (c_X7_measure1 l D tys htI htJ htZ m0 a ms es th gM gB gT gG gN gK gD gH gU gF gX gW hms hes ev h0 h1 zz rr r1 r3 r4 r5 r6 h9).E (by decide) (by decide) [0, 2, 3, 4, 5, 6, 7, 8, 9, 10, 11, 12, 13] [1, 14, 15, 16, 17] rfl (show (List.range 18).Perm ([0, 2, 3, 4, 5, 6, 7, 8, 9, 10, 11, 12, 13] ++ [1, 14, 15, 16, 17]) by decide) (fun u => by obtain ⟨u1, u2, u3, u4, u5, u6, u7, u8, u9⟩ := u; rfl) (fun r u hq => ⟨(gH, gU, gF, gX, gW, gI, gP, gA, gR), hq, rfl, rfl⟩)⟩, (cd_ref (c_X6_measure1 l hl9 D tys htE x0 q0 q1 ms es (fE es κ) hes ev h0 h1 zz rr r1 h9) (cw_x) rfl hI (by decide) (by decide) (by decide) (by decide))⟩
  obtain ⟨ev, rfl, hev⟩ := in_nat1 h9
  obtain ⟨hset, hB, hN, hT, htm⟩ := hIE ev hev
  have hset2 : SEtl (fun i => gM (7 * ev + i)) ((κ ev).2.2.2.1 0) (fun k c => gK (6 * (30 * ev + k) + c)) (fun k => gD (30 * ev + k)) (gN ev) (gT ev + 1) (κ ev).2.1 (κ ev).2.2.1 (κ ev).2.2.2.1 (κ ev).2.2.2.2 := by rw [hB]; exact hset
  have hbeh : beh (fun i => gM (7 * ev + i)) (s5at gB ev) (fun k c => gK (6 * (30 * ev + k) + c)) (fun k => gD (30 * ev + k)) (gN ev) (gT ev) = some ((κ ev).2.2.2.2 (gT ev)) := (hset.1 (gT ev) (by omega)).2
  by_cases h8 : ((inB 0 10006 h0) && ((inB 0 10006 h1) && ((inB 0 10006 zz) && (inB 0 10006 rr)))) = true
  case neg =>
    rw [Bool.not_eq_true] at h8
    exact ⟨2, jI 0, (ms, es, gE, gM, gB, gT, gG, gN, gK, gD), ⟨by decide, fun th c => by
    obtain ⟨gH, gU, gF, gX, gW, gI, gP, gA, gR⟩ := c
    exact CtE.pl (c_X7_measure2 l D tys htI htJ htZ m0 a ms es th gM gB gT gG gN gK gD gH gU gF gX gW hms hes ev h0 h1 zz rr hev r3 r4 r5 r6 hT h8).E (by decide) (by decide) [0, 2, 3, 4, 5, 6, 7, 8, 9, 10, 11, 12, 13] [1, 14, 15, 16, 17] rfl (show (List.range 18).Perm ([0, 2, 3, 4, 5, 6, 7, 8, 9, 10, 11, 12, 13] ++ [1, 14, 15, 16, 17]) by decide) (fun u => by obtain ⟨u1, u2, u3, u4, u5, u6, u7, u8, u9⟩ := u; rfl) (fun r u hq => ⟨(gH, gU, gF, gX, gW, gI, gP, gA, gR), hq, rfl, rfl⟩)⟩, (cd_ref (c_X6_measure2 l hl9 D tys htE x0 q0 q1 ms es (fE es κ) hes ((κ ev).1 0) ((κ ev).1 1) ((κ ev).1 3) ((κ ev).1 4) ((κ ev).1 5) (gN ev) (gT ev) (gG ev) ev hev (if_pos hev) hT h0 h1 zz rr r3 r4 r5 r6 h8) (cw_eo hev) rfl hI (by decide) (by decide) (by decide) (by decide))⟩
  rw [Bool.and_eq_true] at h8
  obtain ⟨u1, h80⟩ := h8
  rw [Bool.and_eq_true] at h80
  obtain ⟨u2, h81⟩ := h80
  rw [Bool.and_eq_true] at h81
  obtain ⟨u3, u4⟩ := h81
  obtain ⟨h0, rfl⟩ := in_zp u1
  obtain ⟨h1, rfl⟩ := in_zp u2
  obtain ⟨zz, rfl⟩ := in_zp u3
  obtain ⟨rr, rfl⟩ := in_zp u4
  by_cases h30 : gN ev = 30
  · exact ⟨3, jI 0, (ms, es, gE, gM, gB, gT, gG, gN, gK, gD), ⟨by decide, fun th c => by
    obtain ⟨gH, gU, gF, gX, gW, gI, gP, gA, gR⟩ := c
    exact CtE.pl (c_X7_measure3 l D tys htI htJ htZ m0 a ms es th gM gB gT gG gN gK gD gH gU gF gX gW hms hes ev h0 h1 zz rr hev hT hN h30).E (by decide) (by decide) [0, 2, 3, 4, 5, 6, 7, 8, 9, 10, 11, 12, 13] [1, 14, 15, 16, 17] rfl (show (List.range 18).Perm ([0, 2, 3, 4, 5, 6, 7, 8, 9, 10, 11, 12, 13] ++ [1, 14, 15, 16, 17]) by decide) (fun u => by obtain ⟨u1, u2, u3, u4, u5, u6, u7, u8, u9⟩ := u; rfl) (fun r u hq => ⟨(gH, gU, gF, gX, gW, gI, gP, gA, gR), hq, rfl, rfl⟩)⟩, (cd_ref (c_X6_measure3 l hl9 D tys htE x0 q0 q1 ms es (fE es κ) hes ((κ ev).1 0) ((κ ev).1 1) ((κ ev).1 3) ((κ ev).1 4) ((κ ev).1 5) (gN ev) (gT ev) (gG ev) ev hev (if_pos hev) hT h0 h1 zz rr h30) (cw_eo hev) rfl hI (by decide) (by decide) (by decide) (by decide))⟩
  have h30 : gN ev < 30 := by omega
  have httm : (zc ((gT ev : Nat) : Int)).val ≤ gT ev := by
    have e : zv (zc ((gT ev : Nat) : Int)) = ((gT ev : Nat) : Int) := by rw [zv_zc]; omega
    unfold zv at e; omega
  have hbe : beh (fun i => gM (7 * ev + i)) ((κ ev).2.2.2.1 0) (mUp (fun k c => gK (6 * (30 * ev + k) + c)) (gN ev) (m6 (zc ((gT ev : Nat) : Int)) h0 h1 zz rr (gG ev))) (fun k => gD (30 * ev + k)) (gN ev + 1) (gT ev) = beh (fun i => gM (7 * ev + i)) (s5at gB ev) (fun k c => (told6 gK (6 * (30 * ev + gN ev)) (zc ((gT ev : Nat) : Int)) h0 h1 zz rr (gG ev)) (6 * (30 * ev + k) + c)) (fun k => gD (30 * ev + k)) ((va_up gN ev (gN ev + 1)) ev) (gT ev) := by
    rw [hB, up_s]
    exact beh_c (fun _ _ => rfl) (fun j _ i hi => told_m j hi) (fun _ _ => rfl) _
  cases hb : beh (fun i => gM (7 * ev + i)) (s5at gB ev) (fun k c => (told6 gK (6 * (30 * ev + gN ev)) (zc ((gT ev : Nat) : Int)) h0 h1 zz rr (gG ev)) (6 * (30 * ev + k) + c)) (fun k => gD (30 * ev + k)) ((va_up gN ev (gN ev + 1)) ev) (gT ev) with
  | none =>
    have he : ∀ u : (Nat → Nat → Zp) × (Nat → Bool) × (Nat → S5) × (Nat → S5), sW cM cS gM gG (told6 gK (6 * (30 * ev + gN ev)) (zc ((gT ev : Nat) : Int)) h0 h1 zz rr (gG ev)) gT (va_up (va_up gN ev (gN ev + 1)) ev (gN ev)) gD (va_up κ ev ((κ ev).1, u)) ev = estL cM cS (κ ev).1 (gN ev) (gT ev) (gG ev) (fun i => gM (7 * ev + i)) (mUp (fun k c => gK (6 * (30 * ev + k) + c)) (gN ev) (m6 (zc ((gT ev : Nat) : Int)) h0 h1 zz rr (gG ev))) u.1 (fun k => gD (30 * ev + k)) u.2.1 u.2.2.1 u.2.2.2 := fun u => by
      unfold sW
      rw [up_s, up_s]
      exact (estL_c (fun _ _ => rfl) (fun j _ i hi => told_m j hi) (fun _ _ => rfl)).symm
    have hs : ∀ (u : EG), ∀ e, e < es → e ≠ ev → sW cM cS gM gG (told6 gK (6 * (30 * ev + gN ev)) (zc ((gT ev : Nat) : Int)) h0 h1 zz rr (gG ev)) gT (va_up (va_up gN ev (gN ev + 1)) ev (gN ev)) gD (va_up κ ev u) e = sW cM cS gM gG gK gT gN gD κ e := fun u e _ hne => sW_c rfl rfl (by rw [up_o _ _ hne, up_o _ _ hne]) (fun k hk i hi => told_o (by omega)) (fun _ _ => rfl) (up_o _ _ hne)
    exact ⟨3, jI 0, (ms, es, gE, gM, gB, gT, gG, (va_up (va_up gN ev (gN ev + 1)) ev (gN ev)), (told6 gK (6 * (30 * ev + gN ev)) (zc ((gT ev : Nat) : Int)) h0 h1 zz rr (gG ev)), gD), ⟨by decide, fun th c => by
    obtain ⟨gH, gU, gF, gX, gW, gI, gP, gA, gR⟩ := c
    exact CtE.pl (c_X7_measure4 l D tys htI htJ htZ m0 a ms es th gM gB gT gG gN gK gD gH gU gF gX gW hms hes ev h0 h1 zz rr hev hT hN h30 hb) (by decide) (by decide) [0, 2, 3, 4, 5, 6, 7, 8, 9, 10, 11, 12, 13] [1, 14, 15, 16, 17] rfl (show (List.range 18).Perm ([0, 2, 3, 4, 5, 6, 7, 8, 9, 10, 11, 12, 13] ++ [1, 14, 15, 16, 17]) by decide) (fun u => by obtain ⟨u1, u2, u3, u4, u5, u6, u7, u8, u9⟩ := u; rfl) (fun r u hq => ⟨(u.1, u.2.1, u.2.2.1, u.2.2.2.1, u.2.2.2.2, gI, gP, gA, gR), hq, rfl, rfl⟩)⟩, CtG.to ((c_X6_measure0 l hl9 D tys htE x0 q0 q1 ms es (fE es κ) hes htM htS ((κ ev).1) (gN ev) (gT ev) (gG ev) (fun i => gM (7 * ev + i)) (fun k c => gK (6 * (30 * ev + k) + c)) ((κ ev).2.1) (fun k => gD (30 * ev + k)) ((κ ev).2.2.1) ((κ ev).2.2.2.1) ((κ ev).2.2.2.2) hN hT ev hev (if_pos hev) hset2 h0 h1 zz rr h30).wide (by decide) (by decide) (by decide) (by decide)) (cw_es hev) (fun r u hq => by
      have hx := (hq.2.2.1 (gT ev) (Nat.lt_succ_self _)).2
      rw [hbe, hb] at hx
      cases hx) (fun E u hq => ⟨va_up κ ev ((κ ev).1, u), ⟨by rw [hq.1]; rfl, inv_put hev hI (fun _ _ => rfl) (fun e he => by rw [up_o _ _ he, up_o _ _ he]) (fun e he k hk i hi => told_o (by omega)) (fun _ _ _ _ => rfl) ⟨by rw [up_s, ← hB]; exact hq.2.2.2.cg (fun _ _ => rfl) (fun j _ i hi => told_m j hi) (fun _ _ => rfl), hq.2.2.1.trans hB, by rw [up_s]; omega, hT, fun k hk => by rw [up_s] at hk; rw [told_o (by omega)]; exact htm k hk⟩⟩, cw_put2 (gB := gB) hev rfl (he u) (hs _)⟩)⟩
  | some st =>
    have he : ∀ u : (Nat → Nat → Zp) × (Nat → Bool) × (Nat → S5) × (Nat → S5), sW cM cS gM gG (told6 gK (6 * (30 * ev + gN ev)) (zc ((gT ev : Nat) : Int)) h0 h1 zz rr (gG ev)) gT (va_up (va_up gN ev (gN ev + 1)) ev (gN ev + 1)) gD (va_up κ ev ((κ ev).1, u)) ev = estL cM cS (κ ev).1 (gN ev + 1) (gT ev) (gG ev) (fun i => gM (7 * ev + i)) (mUp (fun k c => gK (6 * (30 * ev + k) + c)) (gN ev) (m6 (zc ((gT ev : Nat) : Int)) h0 h1 zz rr (gG ev))) u.1 (fun k => gD (30 * ev + k)) u.2.1 u.2.2.1 u.2.2.2 := fun u => by
      unfold sW
      rw [up_s, up_s]
      exact (estL_c (fun _ _ => rfl) (fun j _ i hi => told_m j hi) (fun _ _ => rfl)).symm
    have hs : ∀ (u : EG), ∀ e, e < es → e ≠ ev → sW cM cS gM gG (told6 gK (6 * (30 * ev + gN ev)) (zc ((gT ev : Nat) : Int)) h0 h1 zz rr (gG ev)) gT (va_up (va_up gN ev (gN ev + 1)) ev (gN ev + 1)) gD (va_up κ ev u) e = sW cM cS gM gG gK gT gN gD κ e := fun u e _ hne => sW_c rfl rfl (by rw [up_o _ _ hne, up_o _ _ hne]) (fun k hk i hi => told_o (by omega)) (fun _ _ => rfl) (up_o _ _ hne)
    exact ⟨0, jI ((gN ev : Nat) : Int), (ms, es, gE, gM, gB, gT, gG, (va_up (va_up gN ev (gN ev + 1)) ev (gN ev + 1)), (told6 gK (6 * (30 * ev + gN ev)) (zc ((gT ev : Nat) : Int)) h0 h1 zz rr (gG ev)), gD), ⟨by decide, fun th c => by
    obtain ⟨gH, gU, gF, gX, gW, gI, gP, gA, gR⟩ := c
    exact CtE.pl (c_X7_measure0 l D tys htI htJ htZ m0 a ms es th gM gB gT gG gN gK gD gH gU gF gX gW hms hes ev h0 h1 zz rr hev hT hN h30 st hb) (by decide) (by decide) [0, 2, 3, 4, 5, 6, 7, 8, 9, 10, 11, 12, 13] [1, 14, 15, 16, 17] rfl (show (List.range 18).Perm ([0, 2, 3, 4, 5, 6, 7, 8, 9, 10, 11, 12, 13] ++ [1, 14, 15, 16, 17]) by decide) (fun u => by obtain ⟨u1, u2, u3, u4, u5, u6, u7, u8, u9⟩ := u; rfl) (fun r u hq => ⟨(u.1, u.2.1, u.2.2.1, u.2.2.2.1, u.2.2.2.2, gI, gP, gA, gR), hq.1, rfl, rfl⟩)⟩, CtG.to ((c_X6_measure0 l hl9 D tys htE x0 q0 q1 ms es (fE es κ) hes htM htS ((κ ev).1) (gN ev) (gT ev) (gG ev) (fun i => gM (7 * ev + i)) (fun k c => gK (6 * (30 * ev + k) + c)) ((κ ev).2.1) (fun k => gD (30 * ev + k)) ((κ ev).2.2.1) ((κ ev).2.2.2.1) ((κ ev).2.2.2.2) hN hT ev hev (if_pos hev) hset2 h0 h1 zz rr h30).wide (by decide) (by decide) (by decide) (by decide)) (cw_es hev) (fun r u hq => ⟨va_up κ ev ((κ ev).1, u), ⟨rfl, hq.1, inv_put hev hI (fun _ _ => rfl) (fun e he => by rw [up_o _ _ he, up_o _ _ he]) (fun e he k hk i hi => told_o (by omega)) (fun _ _ _ _ => rfl) ⟨by rw [up_s, ← hB]; exact hq.2.2.cg (fun _ _ => rfl) (fun j _ i hi => told_m j hi) (fun _ _ => rfl), hq.2.1.trans hB, by rw [up_s]; omega, hT, fun k hk => by
      rw [up_s] at hk
      by_cases hkn : k = gN ev
      · rw [hkn, told_n (by omega)]; exact httm
      · rw [told_o (by omega)]; exact htm k (by omega)⟩⟩, cw_put2 (gB := gB) hev rfl (he u) (hs _)⟩) (fun E u hq => by
      have hx := hq.2.1
      rw [hbe, hb] at hx
      cases hx)⟩

set_option maxHeartbeats 8000000 in
set_option maxRecDepth 100000 in
/--  -/
theorem st_late (l : Launch) (hl9 : l.stackTraces = false) (D : va_G) (tys : List (ClassId × FieldType)) {cI cJ cZ cE cG cM cS : ClassId} (htI : tys[0]? = some (cI, .int)) (htJ : tys[1]? = some (cJ, .long)) (htZ : tys[2]? = some (cZ, .boolean)) (htE : tys[3]? = some (cE, .object RX1)) (htM : tys[4]? = some (cM, .object RX2)) (htS : tys[5]? = some (cS, .object RX4)) (htG : tys[6]? = some (cG, .array .int)) (m0 : Nat) (a : Nat → Nat) (x0 q0 q1 : Nat) (qr : Nat → Nat) (ms es : Nat) (gE gM gB : Nat → Zp) (gT : Nat → Nat) (gG : Nat → Zp) (gN : Nat → Nat) (gK : Nat → Zp) (gD : Nat → Bool) (κ : Nat → EG) (hI : INV (ms, es, gE, gM, gB, gT, gG, gN, gK, gD) κ) (ev tt h0 h1 zz rr : Int) (r1 : r32 ev) (r2 : r32 tt) (r3 : r32 h0) (r4 : r32 h1) (r5 : r32 zz) (r6 : r32 rr) : ∃ (k : Nat) (v : Int32) (g' : SG), RDo l D tys cI cJ cZ m0 a yX7_late wsX7_late [.int (jI ev), .int (jI tt), .int (jI h0), .int (jI h1), .int (jI zz), .int (jI rr)] (ms, es, gE, gM, gB, gT, gG, gN, gK, gD) g' k v ∧ CDo l D tys cI cE cG cM cS x0 q0 q1 qr xc3 yX6_late wsX6_late [.int (jI ev), .int (jI tt), .int (jI h0), .int (jI h1), .int (jI zz), .int (jI rr)] (ms, es, gE, gM, gB, gT, gG, gN, gK, gD) κ g' k v := by
  obtain ⟨hms, hes, hIE, hIO⟩ := id hI
  by_cases h9 : inB 0 (((es : Nat) : Int) - 1) ev = true
  case neg =>
    rw [Bool.not_eq_true] at h9
    exact ⟨1, jI 0, (ms, es, gE, gM, gB, gT, gG, gN, gK, gD), ⟨by decide, fun th c => by
    obtain ⟨gH, gU, gF, gX, gW, gI, gP, gA, gR⟩ := c
    exact CtE.pl (c_X7_late1 l D tys htI htJ htZ m0 a ms es th gM gB gT gG gN gK gD gH gU gF gX gW hms hes ev tt h0 h1 zz rr r1 h9).E (by decide) (by decide) [0, 2, 3, 4, 5, 6, 7, 8, 9, 10, 11, 12, 13] [1, 14, 15, 16, 17] rfl (show (List.range 18).Perm ([0, 2, 3, 4, 5, 6, 7, 8, 9, 10, 11, 12, 13] ++ [1, 14, 15, 16, 17]) by decide) (fun u => by obtain ⟨u1, u2, u3, u4, u5, u6, u7, u8, u9⟩ := u; rfl) (fun r u hq => ⟨(gH, gU, gF, gX, gW, gI, gP, gA, gR), hq, rfl, rfl⟩)⟩, (cd_ref (c_X6_late1 l hl9 D tys htE x0 q0 q1 ms es (fE es κ) hes ev tt h0 h1 zz rr r1 h9) (cw_x) rfl hI (by decide) (by decide) (by decide) (by decide))⟩
  obtain ⟨ev, rfl, hev⟩ := in_nat1 h9
  obtain ⟨hset, hB, hN, hT, htm⟩ := hIE ev hev
  have hset2 : SEtl (fun i => gM (7 * ev + i)) ((κ ev).2.2.2.1 0) (fun k c => gK (6 * (30 * ev + k) + c)) (fun k => gD (30 * ev + k)) (gN ev) (gT ev + 1) (κ ev).2.1 (κ ev).2.2.1 (κ ev).2.2.2.1 (κ ev).2.2.2.2 := by rw [hB]; exact hset
  have hbeh : beh (fun i => gM (7 * ev + i)) (s5at gB ev) (fun k c => gK (6 * (30 * ev + k) + c)) (fun k => gD (30 * ev + k)) (gN ev) (gT ev) = some ((κ ev).2.2.2.2 (gT ev)) := (hset.1 (gT ev) (by omega)).2
  by_cases h8 : ((inB 0 ((gT ev : Nat) : Int) tt) && ((inB 0 10006 h0) && ((inB 0 10006 h1) && ((inB 0 10006 zz) && (inB 0 10006 rr))))) = true
  case neg =>
    rw [Bool.not_eq_true] at h8
    exact ⟨2, jI 0, (ms, es, gE, gM, gB, gT, gG, gN, gK, gD), ⟨by decide, fun th c => by
    obtain ⟨gH, gU, gF, gX, gW, gI, gP, gA, gR⟩ := c
    exact CtE.pl (c_X7_late2 l D tys htI htJ htZ m0 a ms es th gM gB gT gG gN gK gD gH gU gF gX gW hms hes ev tt h0 h1 zz rr hev r2 r3 r4 r5 r6 hT h8).E (by decide) (by decide) [0, 2, 3, 4, 5, 6, 7, 8, 9, 10, 11, 12, 13] [1, 14, 15, 16, 17] rfl (show (List.range 18).Perm ([0, 2, 3, 4, 5, 6, 7, 8, 9, 10, 11, 12, 13] ++ [1, 14, 15, 16, 17]) by decide) (fun u => by obtain ⟨u1, u2, u3, u4, u5, u6, u7, u8, u9⟩ := u; rfl) (fun r u hq => ⟨(gH, gU, gF, gX, gW, gI, gP, gA, gR), hq, rfl, rfl⟩)⟩, (cd_ref (c_X6_late2 l hl9 D tys htE x0 q0 q1 ms es (fE es κ) hes ((κ ev).1 0) ((κ ev).1 1) ((κ ev).1 3) ((κ ev).1 4) ((κ ev).1 5) (gN ev) (gT ev) (gG ev) ev hev (if_pos hev) hT tt h0 h1 zz rr r2 r3 r4 r5 r6 h8) (cw_eo hev) rfl hI (by decide) (by decide) (by decide) (by decide))⟩
  rw [Bool.and_eq_true] at h8
  obtain ⟨u0, h80⟩ := h8
  rw [Bool.and_eq_true] at h80
  obtain ⟨u1, h81⟩ := h80
  rw [Bool.and_eq_true] at h81
  obtain ⟨u2, h82⟩ := h81
  rw [Bool.and_eq_true] at h82
  obtain ⟨u3, u4⟩ := h82
  obtain ⟨tt, rfl, htt⟩ := in_zpT u0 hT
  obtain ⟨h0, rfl⟩ := in_zp u1
  obtain ⟨h1, rfl⟩ := in_zp u2
  obtain ⟨zz, rfl⟩ := in_zp u3
  obtain ⟨rr, rfl⟩ := in_zp u4
  by_cases h30 : gN ev = 30
  · exact ⟨3, jI 0, (ms, es, gE, gM, gB, gT, gG, gN, gK, gD), ⟨by decide, fun th c => by
    obtain ⟨gH, gU, gF, gX, gW, gI, gP, gA, gR⟩ := c
    exact CtE.pl (c_X7_late3 l D tys htI htJ htZ m0 a ms es th gM gB gT gG gN gK gD gH gU gF gX gW hms hes ev tt h0 h1 zz rr hev htt hT hN h30).E (by decide) (by decide) [0, 2, 3, 4, 5, 6, 7, 8, 9, 10, 11, 12, 13] [1, 14, 15, 16, 17] rfl (show (List.range 18).Perm ([0, 2, 3, 4, 5, 6, 7, 8, 9, 10, 11, 12, 13] ++ [1, 14, 15, 16, 17]) by decide) (fun u => by obtain ⟨u1, u2, u3, u4, u5, u6, u7, u8, u9⟩ := u; rfl) (fun r u hq => ⟨(gH, gU, gF, gX, gW, gI, gP, gA, gR), hq, rfl, rfl⟩)⟩, (cd_ref (c_X6_late3 l hl9 D tys htE x0 q0 q1 ms es (fE es κ) hes ((κ ev).1 0) ((κ ev).1 1) ((κ ev).1 3) ((κ ev).1 4) ((κ ev).1 5) (gN ev) (gT ev) (gG ev) ev hev (if_pos hev) hT tt h0 h1 zz rr htt h30) (cw_eo hev) rfl hI (by decide) (by decide) (by decide) (by decide))⟩
  have h30 : gN ev < 30 := by omega
  have httm : tt.val ≤ gT ev := by
    unfold zv at htt; omega
  have hbe : beh (fun i => gM (7 * ev + i)) ((κ ev).2.2.2.1 0) (mUp (fun k c => gK (6 * (30 * ev + k) + c)) (gN ev) (m6 tt h0 h1 zz rr (gG ev))) (fun k => gD (30 * ev + k)) (gN ev + 1) (gT ev) = beh (fun i => gM (7 * ev + i)) (s5at gB ev) (fun k c => (told6 gK (6 * (30 * ev + gN ev)) tt h0 h1 zz rr (gG ev)) (6 * (30 * ev + k) + c)) (fun k => gD (30 * ev + k)) ((va_up gN ev (gN ev + 1)) ev) (gT ev) := by
    rw [hB, up_s]
    exact beh_c (fun _ _ => rfl) (fun j _ i hi => told_m j hi) (fun _ _ => rfl) _
  cases hb : beh (fun i => gM (7 * ev + i)) (s5at gB ev) (fun k c => (told6 gK (6 * (30 * ev + gN ev)) tt h0 h1 zz rr (gG ev)) (6 * (30 * ev + k) + c)) (fun k => gD (30 * ev + k)) ((va_up gN ev (gN ev + 1)) ev) (gT ev) with
  | none =>
    have he : ∀ u : (Nat → Nat → Zp) × (Nat → Bool) × (Nat → S5) × (Nat → S5), sW cM cS gM gG (told6 gK (6 * (30 * ev + gN ev)) tt h0 h1 zz rr (gG ev)) gT (va_up (va_up gN ev (gN ev + 1)) ev (gN ev)) gD (va_up κ ev ((κ ev).1, u)) ev = estL cM cS (κ ev).1 (gN ev) (gT ev) (gG ev) (fun i => gM (7 * ev + i)) (mUp (fun k c => gK (6 * (30 * ev + k) + c)) (gN ev) (m6 tt h0 h1 zz rr (gG ev))) u.1 (fun k => gD (30 * ev + k)) u.2.1 u.2.2.1 u.2.2.2 := fun u => by
      unfold sW
      rw [up_s, up_s]
      exact (estL_c (fun _ _ => rfl) (fun j _ i hi => told_m j hi) (fun _ _ => rfl)).symm
    have hs : ∀ (u : EG), ∀ e, e < es → e ≠ ev → sW cM cS gM gG (told6 gK (6 * (30 * ev + gN ev)) tt h0 h1 zz rr (gG ev)) gT (va_up (va_up gN ev (gN ev + 1)) ev (gN ev)) gD (va_up κ ev u) e = sW cM cS gM gG gK gT gN gD κ e := fun u e _ hne => sW_c rfl rfl (by rw [up_o _ _ hne, up_o _ _ hne]) (fun k hk i hi => told_o (by omega)) (fun _ _ => rfl) (up_o _ _ hne)
    exact ⟨3, jI 0, (ms, es, gE, gM, gB, gT, gG, (va_up (va_up gN ev (gN ev + 1)) ev (gN ev)), (told6 gK (6 * (30 * ev + gN ev)) tt h0 h1 zz rr (gG ev)), gD), ⟨by decide, fun th c => by
    obtain ⟨gH, gU, gF, gX, gW, gI, gP, gA, gR⟩ := c
    exact CtE.pl (c_X7_late4 l D tys htI htJ htZ m0 a ms es th gM gB gT gG gN gK gD gH gU gF gX gW hms hes ev tt h0 h1 zz rr hev htt hT hN h30 hb) (by decide) (by decide) [0, 2, 3, 4, 5, 6, 7, 8, 9, 10, 11, 12, 13] [1, 14, 15, 16, 17] rfl (show (List.range 18).Perm ([0, 2, 3, 4, 5, 6, 7, 8, 9, 10, 11, 12, 13] ++ [1, 14, 15, 16, 17]) by decide) (fun u => by obtain ⟨u1, u2, u3, u4, u5, u6, u7, u8, u9⟩ := u; rfl) (fun r u hq => ⟨(u.1, u.2.1, u.2.2.1, u.2.2.2.1, u.2.2.2.2, gI, gP, gA, gR), hq, rfl, rfl⟩)⟩, CtG.to ((c_X6_late0 l hl9 D tys htE x0 q0 q1 ms es (fE es κ) hes htM htS ((κ ev).1) (gN ev) (gT ev) (gG ev) (fun i => gM (7 * ev + i)) (fun k c => gK (6 * (30 * ev + k) + c)) ((κ ev).2.1) (fun k => gD (30 * ev + k)) ((κ ev).2.2.1) ((κ ev).2.2.2.1) ((κ ev).2.2.2.2) hN hT ev hev (if_pos hev) hset2 tt h0 h1 zz rr htt h30).wide (by decide) (by decide) (by decide) (by decide)) (cw_es hev) (fun r u hq => by
      have hx := (hq.2.2.1 (gT ev) (Nat.lt_succ_self _)).2
      rw [hbe, hb] at hx
      cases hx) (fun E u hq => ⟨va_up κ ev ((κ ev).1, u), ⟨by rw [hq.1]; rfl, inv_put hev hI (fun _ _ => rfl) (fun e he => by rw [up_o _ _ he, up_o _ _ he]) (fun e he k hk i hi => told_o (by omega)) (fun _ _ _ _ => rfl) ⟨by rw [up_s, ← hB]; exact hq.2.2.2.cg (fun _ _ => rfl) (fun j _ i hi => told_m j hi) (fun _ _ => rfl), hq.2.2.1.trans hB, by rw [up_s]; omega, hT, fun k hk => by rw [up_s] at hk; rw [told_o (by omega)]; exact htm k hk⟩⟩, cw_put2 (gB := gB) hev rfl (he u) (hs _)⟩)⟩
  | some st =>
    have he : ∀ u : (Nat → Nat → Zp) × (Nat → Bool) × (Nat → S5) × (Nat → S5), sW cM cS gM gG (told6 gK (6 * (30 * ev + gN ev)) tt h0 h1 zz rr (gG ev)) gT (va_up (va_up gN ev (gN ev + 1)) ev (gN ev + 1)) gD (va_up κ ev ((κ ev).1, u)) ev = estL cM cS (κ ev).1 (gN ev + 1) (gT ev) (gG ev) (fun i => gM (7 * ev + i)) (mUp (fun k c => gK (6 * (30 * ev + k) + c)) (gN ev) (m6 tt h0 h1 zz rr (gG ev))) u.1 (fun k => gD (30 * ev + k)) u.2.1 u.2.2.1 u.2.2.2 := fun u => by
      unfold sW
      rw [up_s, up_s]
      exact (estL_c (fun _ _ => rfl) (fun j _ i hi => told_m j hi) (fun _ _ => rfl)).symm
    have hs : ∀ (u : EG), ∀ e, e < es → e ≠ ev → sW cM cS gM gG (told6 gK (6 * (30 * ev + gN ev)) tt h0 h1 zz rr (gG ev)) gT (va_up (va_up gN ev (gN ev + 1)) ev (gN ev + 1)) gD (va_up κ ev u) e = sW cM cS gM gG gK gT gN gD κ e := fun u e _ hne => sW_c rfl rfl (by rw [up_o _ _ hne, up_o _ _ hne]) (fun k hk i hi => told_o (by omega)) (fun _ _ => rfl) (up_o _ _ hne)
    exact ⟨0, jI ((gN ev : Nat) : Int), (ms, es, gE, gM, gB, gT, gG, (va_up (va_up gN ev (gN ev + 1)) ev (gN ev + 1)), (told6 gK (6 * (30 * ev + gN ev)) tt h0 h1 zz rr (gG ev)), gD), ⟨by decide, fun th c => by
    obtain ⟨gH, gU, gF, gX, gW, gI, gP, gA, gR⟩ := c
    exact CtE.pl (c_X7_late0 l D tys htI htJ htZ m0 a ms es th gM gB gT gG gN gK gD gH gU gF gX gW hms hes ev tt h0 h1 zz rr hev htt hT hN h30 st hb) (by decide) (by decide) [0, 2, 3, 4, 5, 6, 7, 8, 9, 10, 11, 12, 13] [1, 14, 15, 16, 17] rfl (show (List.range 18).Perm ([0, 2, 3, 4, 5, 6, 7, 8, 9, 10, 11, 12, 13] ++ [1, 14, 15, 16, 17]) by decide) (fun u => by obtain ⟨u1, u2, u3, u4, u5, u6, u7, u8, u9⟩ := u; rfl) (fun r u hq => ⟨(u.1, u.2.1, u.2.2.1, u.2.2.2.1, u.2.2.2.2, gI, gP, gA, gR), hq.1, rfl, rfl⟩)⟩, CtG.to ((c_X6_late0 l hl9 D tys htE x0 q0 q1 ms es (fE es κ) hes htM htS ((κ ev).1) (gN ev) (gT ev) (gG ev) (fun i => gM (7 * ev + i)) (fun k c => gK (6 * (30 * ev + k) + c)) ((κ ev).2.1) (fun k => gD (30 * ev + k)) ((κ ev).2.2.1) ((κ ev).2.2.2.1) ((κ ev).2.2.2.2) hN hT ev hev (if_pos hev) hset2 tt h0 h1 zz rr htt h30).wide (by decide) (by decide) (by decide) (by decide)) (cw_es hev) (fun r u hq => ⟨va_up κ ev ((κ ev).1, u), ⟨rfl, hq.1, inv_put hev hI (fun _ _ => rfl) (fun e he => by rw [up_o _ _ he, up_o _ _ he]) (fun e he k hk i hi => told_o (by omega)) (fun _ _ _ _ => rfl) ⟨by rw [up_s, ← hB]; exact hq.2.2.cg (fun _ _ => rfl) (fun j _ i hi => told_m j hi) (fun _ _ => rfl), hq.2.1.trans hB, by rw [up_s]; omega, hT, fun k hk => by
      rw [up_s] at hk
      by_cases hkn : k = gN ev
      · rw [hkn, told_n (by omega)]; exact httm
      · rw [told_o (by omega)]; exact htm k (by omega)⟩⟩, cw_put2 (gB := gB) hev rfl (he u) (hs _)⟩) (fun E u hq => by
      have hx := hq.2.1
      rw [hbe, hb] at hx
      cases hx)⟩

set_option maxHeartbeats 8000000 in
set_option maxRecDepth 100000 in
/--  -/
theorem st_drop (l : Launch) (hl9 : l.stackTraces = false) (D : va_G) (tys : List (ClassId × FieldType)) {cI cJ cZ cE cG cM cS : ClassId} (htI : tys[0]? = some (cI, .int)) (htJ : tys[1]? = some (cJ, .long)) (htZ : tys[2]? = some (cZ, .boolean)) (htE : tys[3]? = some (cE, .object RX1)) (htM : tys[4]? = some (cM, .object RX2)) (htS : tys[5]? = some (cS, .object RX4)) (htG : tys[6]? = some (cG, .array .int)) (m0 : Nat) (a : Nat → Nat) (x0 q0 q1 : Nat) (qr : Nat → Nat) (ms es : Nat) (gE gM gB : Nat → Zp) (gT : Nat → Nat) (gG : Nat → Zp) (gN : Nat → Nat) (gK : Nat → Zp) (gD : Nat → Bool) (κ : Nat → EG) (hI : INV (ms, es, gE, gM, gB, gT, gG, gN, gK, gD) κ) (ev kv : Int) (r1 : r32 ev) (r2 : r32 kv) : ∃ (k : Nat) (g' : SG), RDv l D tys cI cJ cZ m0 a yX7_drop wsX7_drop [.int (jI ev), .int (jI kv)] (ms, es, gE, gM, gB, gT, gG, gN, gK, gD) g' k ∧ CDv l D tys cI cE cG cM cS x0 q0 q1 qr xcp yX6_drop wsX6_drop [.int (jI ev), .int (jI kv)] (ms, es, gE, gM, gB, gT, gG, gN, gK, gD) κ g' k := by
  obtain ⟨hms, hes, hIE, hIO⟩ := id hI
  by_cases h9 : inB 0 (((es : Nat) : Int) - 1) ev = true
  case neg =>
    rw [Bool.not_eq_true] at h9
    exact ⟨1, (ms, es, gE, gM, gB, gT, gG, gN, gK, gD), ⟨by decide, fun th c => by
    obtain ⟨gH, gU, gF, gX, gW, gI, gP, gA, gR⟩ := c
    exact CtF.pl (c_X7_drop1 l D tys htI htJ htZ m0 a ms es th gN gD hms hes ev kv r1 r2 h9).F (by decide) (by decide) [0, 6, 8] [1, 2, 3, 4, 5, 7, 9, 10, 11, 12, 13, 14, 15, 16, 17] rfl (show (List.range 18).Perm ([0, 6, 8] ++ [1, 2, 3, 4, 5, 7, 9, 10, 11, 12, 13, 14, 15, 16, 17]) by decide) (fun u => by obtain ⟨u1, u2, u3, u4, u5, u6, u7, u8, u9⟩ := u; rfl) (fun u hq => ⟨(gH, gU, gF, gX, gW, gI, gP, gA, gR), trivial, rfl, rfl⟩)⟩, (cd_refv (c_X6_drop1 l hl9 D tys htE x0 q0 q1 ms es (fE es κ) hes ev kv r1 h9) (cw_x) rfl hI (by decide) (by decide) (by decide) (by decide))⟩
  obtain ⟨ev, rfl, hev⟩ := in_nat1 h9
  obtain ⟨hset, hB, hN, hT, htm⟩ := hIE ev hev
  have hset2 : SEtl (fun i => gM (7 * ev + i)) ((κ ev).2.2.2.1 0) (fun k c => gK (6 * (30 * ev + k) + c)) (fun k => gD (30 * ev + k)) (gN ev) (gT ev + 1) (κ ev).2.1 (κ ev).2.2.1 (κ ev).2.2.2.1 (κ ev).2.2.2.2 := by rw [hB]; exact hset
  have hbeh : beh (fun i => gM (7 * ev + i)) (s5at gB ev) (fun k c => gK (6 * (30 * ev + k) + c)) (fun k => gD (30 * ev + k)) (gN ev) (gT ev) = some ((κ ev).2.2.2.2 (gT ev)) := (hset.1 (gT ev) (by omega)).2
  by_cases h7 : inB 0 (((gN ev : Nat) : Int) - 1) kv = true
  case neg =>
    rw [Bool.not_eq_true] at h7
    exact ⟨1, (ms, es, gE, gM, gB, gT, gG, gN, gK, gD), ⟨by decide, fun th c => by
    obtain ⟨gH, gU, gF, gX, gW, gI, gP, gA, gR⟩ := c
    exact CtF.pl (c_X7_drop2 l D tys htI htJ htZ m0 a ms es th gN gD hms hes ev kv hev r2 hN h7).F (by decide) (by decide) [0, 6, 8] [1, 2, 3, 4, 5, 7, 9, 10, 11, 12, 13, 14, 15, 16, 17] rfl (show (List.range 18).Perm ([0, 6, 8] ++ [1, 2, 3, 4, 5, 7, 9, 10, 11, 12, 13, 14, 15, 16, 17]) by decide) (fun u => by obtain ⟨u1, u2, u3, u4, u5, u6, u7, u8, u9⟩ := u; rfl) (fun u hq => ⟨(gH, gU, gF, gX, gW, gI, gP, gA, gR), trivial, rfl, rfl⟩)⟩, (cd_refv (c_X6_drop2 l hl9 D tys htE x0 q0 q1 ms es (fE es κ) hes htM htS ((κ ev).1) (gN ev) (gT ev) (gG ev) (fun i => gM (7 * ev + i)) (fun k c => gK (6 * (30 * ev + k) + c)) ((κ ev).2.1) (fun k => gD (30 * ev + k)) ((κ ev).2.2.1) ((κ ev).2.2.2.1) ((κ ev).2.2.2.2) hN hT ev hev (if_pos hev) kv r2 h7) (cw_es hev) rfl hI (by decide) (by decide) (by decide) (by decide))⟩
  obtain ⟨kv, rfl, h7b⟩ := in_nat1 h7
  by_cases hdr : gD (30 * ev + kv) = true
  · exact ⟨2, (ms, es, gE, gM, gB, gT, gG, gN, gK, gD), ⟨by decide, fun th c => by
    obtain ⟨gH, gU, gF, gX, gW, gI, gP, gA, gR⟩ := c
    exact CtF.pl (c_X7_drop3 l D tys htI htJ htZ m0 a ms es th gN gD hms hes ev kv hev hN h7b hdr).F (by decide) (by decide) [0, 6, 8] [1, 2, 3, 4, 5, 7, 9, 10, 11, 12, 13, 14, 15, 16, 17] rfl (show (List.range 18).Perm ([0, 6, 8] ++ [1, 2, 3, 4, 5, 7, 9, 10, 11, 12, 13, 14, 15, 16, 17]) by decide) (fun u => by obtain ⟨u1, u2, u3, u4, u5, u6, u7, u8, u9⟩ := u; rfl) (fun u hq => ⟨(gH, gU, gF, gX, gW, gI, gP, gA, gR), trivial, rfl, rfl⟩)⟩, (cd_refv (c_X6_drop3 l hl9 D tys htE x0 q0 q1 ms es (fE es κ) hes htM htS ((κ ev).1) (gN ev) (gT ev) (gG ev) (fun i => gM (7 * ev + i)) (fun k c => gK (6 * (30 * ev + k) + c)) ((κ ev).2.1) (fun k => gD (30 * ev + k)) ((κ ev).2.2.1) ((κ ev).2.2.2.1) ((κ ev).2.2.2.2) hN hT ev hev (if_pos hev) kv h7b hdr) (cw_es hev) rfl hI (by decide) (by decide) (by decide) (by decide))⟩
  rw [Bool.not_eq_true] at hdr
  have hbe : beh (fun i => gM (7 * ev + i)) ((κ ev).2.2.2.1 0) (fun k c => gK (6 * (30 * ev + k) + c)) (va_up (fun k => gD (30 * ev + k)) kv true) (gN ev) (gT ev) = beh (fun i => gM (7 * ev + i)) (s5at gB ev) (fun k c => gK (6 * (30 * ev + k) + c)) (fun k => (va_up gD (30 * ev + kv) true) (30 * ev + k)) (gN ev) (gT ev) := by
    rw [hB]
    exact beh_c (fun _ _ => rfl) (fun _ _ _ _ => rfl) (fun j _ => (drop_m j).symm) _
  cases hb : beh (fun i => gM (7 * ev + i)) (s5at gB ev) (fun k c => gK (6 * (30 * ev + k) + c)) (fun k => (va_up gD (30 * ev + kv) true) (30 * ev + k)) (gN ev) (gT ev) with
  | none =>
    have he : ∀ u : (Nat → Nat → Zp) × (Nat → Bool) × (Nat → S5) × (Nat → S5), sW cM cS gM gG gK gT gN (va_up (va_up gD (30 * ev + kv) true) (30 * ev + kv) false) (va_up κ ev ((κ ev).1, u)) ev = estL cM cS (κ ev).1 (gN ev) (gT ev) (gG ev) (fun i => gM (7 * ev + i)) (fun k c => gK (6 * (30 * ev + k) + c)) u.1 (fun k => gD (30 * ev + k)) u.2.1 u.2.2.1 u.2.2.2 := fun u => by
      unfold sW
      rw [up_s]
      exact estL_c (fun _ _ => rfl) (fun _ _ _ _ => rfl) (fun j _ => drop_m3 hdr j)
    have hs : ∀ (u : EG), ∀ e, e < es → e ≠ ev → sW cM cS gM gG gK gT gN (va_up (va_up gD (30 * ev + kv) true) (30 * ev + kv) false) (va_up κ ev u) e = sW cM cS gM gG gK gT gN gD κ e := fun u e _ hne => sW_c rfl rfl rfl (fun _ _ _ _ => rfl) (fun k hk => by rw [up_o _ _ (by omega), up_o _ _ (by omega)]) (up_o _ _ hne)
    exact ⟨2, (ms, es, gE, gM, gB, gT, gG, gN, gK, (va_up (va_up gD (30 * ev + kv) true) (30 * ev + kv) false)), ⟨by decide, fun th c => by
    obtain ⟨gH, gU, gF, gX, gW, gI, gP, gA, gR⟩ := c
    exact CtF.pl (c_X7_drop4 l D tys htI htJ htZ m0 a ms es th gM gB gT gN gK gD gH gU gF gX gW hms hes ev kv hev hN h7b hT hdr hb) (by decide) (by decide) [0, 2, 3, 4, 6, 7, 8, 9, 10, 11, 12, 13] [1, 5, 14, 15, 16, 17] rfl (show (List.range 18).Perm ([0, 2, 3, 4, 6, 7, 8, 9, 10, 11, 12, 13] ++ [1, 5, 14, 15, 16, 17]) by decide) (fun u => by obtain ⟨u1, u2, u3, u4, u5, u6, u7, u8, u9⟩ := u; rfl) (fun u hq => ⟨(u.1, u.2.1, u.2.2.1, u.2.2.2.1, u.2.2.2.2, gI, gP, gA, gR), trivial, rfl, rfl⟩)⟩, CtG.toV ((c_X6_drop0 l hl9 D tys htE x0 q0 q1 ms es (fE es κ) hes htM htS ((κ ev).1) (gN ev) (gT ev) (gG ev) (fun i => gM (7 * ev + i)) (fun k c => gK (6 * (30 * ev + k) + c)) ((κ ev).2.1) (fun k => gD (30 * ev + k)) ((κ ev).2.2.1) ((κ ev).2.2.2.1) ((κ ev).2.2.2.2) hN hT ev hev (if_pos hev) hset2 kv h7b hdr).wide (by decide) (by decide) (by decide) (by decide)) (cw_es hev) (fun u hq => by
      have hx := (hq.2.1 (gT ev) (Nat.lt_succ_self _)).2
      rw [hbe, hb] at hx
      cases hx) (fun E u hq => ⟨va_up κ ev ((κ ev).1, u), ⟨by rw [hq.1]; rfl, inv_put hev hI (fun _ _ => rfl) (fun _ _ => rfl) (fun _ _ _ _ _ _ => rfl) (fun e he k hk => by rw [up_o _ _ (by omega), up_o _ _ (by omega)]) ⟨by rw [← hB]; exact hq.2.2.2.cg (fun _ _ => rfl) (fun _ _ _ _ => rfl) (fun j _ => (drop_m3 hdr j).symm), hq.2.2.1.trans hB, hN, hT, htm⟩⟩, cw_put2 (gB := gB) hev rfl (he u) (hs _)⟩)⟩
  | some st =>
    have he : ∀ u : (Nat → Nat → Zp) × (Nat → Bool) × (Nat → S5) × (Nat → S5), sW cM cS gM gG gK gT gN (va_up (va_up gD (30 * ev + kv) true) (30 * ev + kv) true) (va_up κ ev ((κ ev).1, u)) ev = estL cM cS (κ ev).1 (gN ev) (gT ev) (gG ev) (fun i => gM (7 * ev + i)) (fun k c => gK (6 * (30 * ev + k) + c)) u.1 (va_up (fun k => gD (30 * ev + k)) kv true) u.2.1 u.2.2.1 u.2.2.2 := fun u => by
      unfold sW
      rw [up_s]
      exact estL_c (fun _ _ => rfl) (fun _ _ _ _ => rfl) (fun j _ => drop_m2 j)
    have hs : ∀ (u : EG), ∀ e, e < es → e ≠ ev → sW cM cS gM gG gK gT gN (va_up (va_up gD (30 * ev + kv) true) (30 * ev + kv) true) (va_up κ ev u) e = sW cM cS gM gG gK gT gN gD κ e := fun u e _ hne => sW_c rfl rfl rfl (fun _ _ _ _ => rfl) (fun k hk => by rw [up_o _ _ (by omega), up_o _ _ (by omega)]) (up_o _ _ hne)
    exact ⟨0, (ms, es, gE, gM, gB, gT, gG, gN, gK, (va_up (va_up gD (30 * ev + kv) true) (30 * ev + kv) true)), ⟨by decide, fun th c => by
    obtain ⟨gH, gU, gF, gX, gW, gI, gP, gA, gR⟩ := c
    exact CtF.pl (c_X7_drop0 l D tys htI htJ htZ m0 a ms es th gM gB gT gN gK gD gH gU gF gX gW hms hes ev kv hev hN h7b hT hdr st hb) (by decide) (by decide) [0, 2, 3, 4, 6, 7, 8, 9, 10, 11, 12, 13] [1, 5, 14, 15, 16, 17] rfl (show (List.range 18).Perm ([0, 2, 3, 4, 6, 7, 8, 9, 10, 11, 12, 13] ++ [1, 5, 14, 15, 16, 17]) by decide) (fun u => by obtain ⟨u1, u2, u3, u4, u5, u6, u7, u8, u9⟩ := u; rfl) (fun u hq => ⟨(u.1, u.2.1, u.2.2.1, u.2.2.2.1, u.2.2.2.2, gI, gP, gA, gR), trivial, rfl, rfl⟩)⟩, CtG.toV ((c_X6_drop0 l hl9 D tys htE x0 q0 q1 ms es (fE es κ) hes htM htS ((κ ev).1) (gN ev) (gT ev) (gG ev) (fun i => gM (7 * ev + i)) (fun k c => gK (6 * (30 * ev + k) + c)) ((κ ev).2.1) (fun k => gD (30 * ev + k)) ((κ ev).2.2.1) ((κ ev).2.2.2.1) ((κ ev).2.2.2.2) hN hT ev hev (if_pos hev) hset2 kv h7b hdr).wide (by decide) (by decide) (by decide) (by decide)) (cw_es hev) (fun u hq => ⟨va_up κ ev ((κ ev).1, u), ⟨rfl, inv_put hev hI (fun _ _ => rfl) (fun _ _ => rfl) (fun _ _ _ _ _ _ => rfl) (fun e he k hk => by rw [up_o _ _ (by omega), up_o _ _ (by omega)]) ⟨by rw [← hB]; exact hq.2.cg (fun _ _ => rfl) (fun _ _ _ _ => rfl) (fun j _ => (drop_m2 j).symm), hq.1.trans hB, hN, hT, htm⟩⟩, cw_put2 (gB := gB) hev rfl (he u) (hs _)⟩) (fun E u hq => by
      have hx := hq.2.1
      rw [hbe, hb] at hx
      cases hx)⟩
