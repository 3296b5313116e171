/-! the class, call by call, over the whole of it -/
set_option maxHeartbeats 8000000 in
set_option maxRecDepth 100000 in
theorem d_of1 (l : Launch) (hl9 : l.stackTraces = false) (D : va_G) (tys : List (ClassId × FieldType)) {cI cE cG cM cS : ClassId} (htI : tys[0]? = some (cI, .int)) (htE : tys[3]? = some (cE, .object RX1)) (htM : tys[4]? = some (cM, .object RX2)) (htS : tys[5]? = some (cS, .object RX4)) (htG : tys[6]? = some (cG, .array .int)) (x0 q0 q1 : Nat) (qr : Nat → Nat) (ms es : Nat) (gE gM gB : Nat → Zp) (gT : Nat → Nat) (gG : Nat → Zp) (gN : Nat → Nat) (gK : Nat → Zp) (gD : Nat → Bool) (κ : Nat → EG) (hI : INV (ms, es, gE, gM, gB, gT, gG, gN, gK, gD) κ) (ev wh : Int) (r1 : r32 ev) (h9 : inB 0 (((es : Nat) : Int) - 1) ev = false) : CDo l D tys cI cE cG cM cS x0 q0 q1 qr xc2 yX6_of wsX6_of [.int (jI ev), .int (jI wh)] (ms, es, gE, gM, gB, gT, gG, gN, gK, gD) κ (ms, es, gE, gM, gB, gT, gG, gN, gK, gD) 1 (jI 0) 2 12 := by
  obtain ⟨hms, hes, hIE, hIO⟩ := id hI
  exact (cd_ref (c_X6_of1 l hl9 D tys htE x0 q0 q1 ms es (fE es κ) hes ev wh r1 h9) (cw_x) rfl hI (by decide) (by decide) (by decide) (by decide))
set_option maxHeartbeats 8000000 in
set_option maxRecDepth 100000 in
theorem d_of0 (l : Launch) (hl9 : l.stackTraces = false) (D : va_G) (tys : List (ClassId × FieldType)) {cI cE cG cM cS : ClassId} (htI : tys[0]? = some (cI, .int)) (htE : tys[3]? = some (cE, .object RX1)) (htM : tys[4]? = some (cM, .object RX2)) (htS : tys[5]? = some (cS, .object RX4)) (htG : tys[6]? = some (cG, .array .int)) (x0 q0 q1 : Nat) (qr : Nat → Nat) (ms es : Nat) (gE gM gB : Nat → Zp) (gT : Nat → Nat) (gG : Nat → Zp) (gN : Nat → Nat) (gK : Nat → Zp) (gD : Nat → Bool) (κ : Nat → EG) (hI : INV (ms, es, gE, gM, gB, gT, gG, gN, gK, gD) κ) (ev : Nat) (hev : ev < es) (wh : Nat) (h8b : wh ≤ 8) : CDo l D tys cI cE cG cM cS x0 q0 q1 qr xc2 yX6_of wsX6_of [.int (jI ((ev : Nat) : Int)), .int (jI ((wh : Nat) : Int))] (ms, es, gE, gM, gB, gT, gG, gN, gK, gD) κ (ms, es, gE, gM, gB, gT, gG, gN, gK, gD) 0 (ofR ((κ ev).2.2.2.2 (gT ev)) (gT ev) (gN ev) (cntG (fun k => gD (30 * ev + k)) (gtM (fun i => gM (7 * ev + i)) (s5at gB ev) (fun k c => gK (6 * (30 * ev + k) + c)) (fun k => gD (30 * ev + k)) (gN ev)) (gN ev)) wh) 2 12 := by
  obtain ⟨hms, hes, hIE, hIO⟩ := id hI
  obtain ⟨hset, hB, hN, hT, htm⟩ := hIE ev hev
  have hset2 : SEtl (fun i => gM (7 * ev + i)) ((κ ev).2.2.2.1 0) (fun k c => gK (6 * (30 * ev + k) + c)) (fun k => gD (30 * ev + k)) (gN ev) (gT ev + 1) (κ ev).2.1 (κ ev).2.2.1 (κ ev).2.2.2.1 (κ ev).2.2.2.2 := by rw [hB]; exact hset
  by_cases w5 : wh < 5
  · exact (cd_ask (c_X6_of0_a l hl9 D tys htE x0 q0 q1 ms es (fE es κ) hes htM htS ((κ ev).1) (gN ev) (gT ev) (gG ev) (fun i => gM (7 * ev + i)) (fun k c => gK (6 * (30 * ev + k) + c)) ((κ ev).2.1) (fun k => gD (30 * ev + k)) ((κ ev).2.2.1) ((κ ev).2.2.2.1) ((κ ev).2.2.2.2) hN hT ev hev (if_pos hev) wh w5) (cw_es hev) (by unfold ofR; rw [if_pos w5]) hI (by decide) (by decide) (by decide) (by decide))
  by_cases w : wh = 5
  · subst w
    exact (cd_ask (c_X6_of0_5 l hl9 D tys htE x0 q0 q1 ms es (fE es κ) hes htM htS ((κ ev).1) (gN ev) (gT ev) (gG ev) (fun i => gM (7 * ev + i)) (fun k c => gK (6 * (30 * ev + k) + c)) ((κ ev).2.1) (fun k => gD (30 * ev + k)) ((κ ev).2.2.1) ((κ ev).2.2.2.1) ((κ ev).2.2.2.2) hN hT ev hev (if_pos hev)) (cw_es hev) rfl hI (by decide) (by decide) (by decide) (by decide))
  by_cases w : wh = 6
  · subst w
    exact (cd_ask (c_X6_of0_6 l hl9 D tys htE x0 q0 q1 ms es (fE es κ) hes htM htS ((κ ev).1) (gN ev) (gT ev) (gG ev) (fun i => gM (7 * ev + i)) (fun k c => gK (6 * (30 * ev + k) + c)) ((κ ev).2.1) (fun k => gD (30 * ev + k)) ((κ ev).2.2.1) ((κ ev).2.2.2.1) ((κ ev).2.2.2.2) hN hT ev hev (if_pos hev)) (cw_es hev) rfl hI (by decide) (by decide) (by decide) (by decide))
  by_cases w : wh = 7
  · subst w
    exact (cd_ask (c_X6_of0_7 l hl9 D tys htE x0 q0 q1 ms es (fE es κ) hes htM htS ((κ ev).1) (gN ev) (gT ev) (gG ev) (fun i => gM (7 * ev + i)) (fun k c => gK (6 * (30 * ev + k) + c)) ((κ ev).2.1) (fun k => gD (30 * ev + k)) ((κ ev).2.2.1) ((κ ev).2.2.2.1) ((κ ev).2.2.2.2) hN hT ev hev (if_pos hev)) (cw_es hev) (by rw [cntG_congr (ca_gt hset htm)]; rfl) hI (by decide) (by decide) (by decide) (by decide))
  have w : wh = 8 := by omega
  subst w
  exact (cd_ask (c_X6_of0_8 l hl9 D tys htE x0 q0 q1 ms es (fE es κ) hes htM htS ((κ ev).1) (gN ev) (gT ev) (gG ev) (fun i => gM (7 * ev + i)) (fun k c => gK (6 * (30 * ev + k) + c)) ((κ ev).2.1) (fun k => gD (30 * ev + k)) ((κ ev).2.2.1) ((κ ev).2.2.2.1) ((κ ev).2.2.2.2) hN hT ev hev (if_pos hev)) (cw_es hev) rfl hI (by decide) (by decide) (by decide) (by decide))

set_option maxHeartbeats 8000000 in
set_option maxRecDepth 100000 in
theorem d_information3 (l : Launch) (hl9 : l.stackTraces = false) (D : va_G) (tys : List (ClassId × FieldType)) {cI cE cG cM cS : ClassId} (htI : tys[0]? = some (cI, .int)) (htE : tys[3]? = some (cE, .object RX1)) (htM : tys[4]? = some (cM, .object RX2)) (htS : tys[5]? = some (cS, .object RX4)) (htG : tys[6]? = some (cG, .array .int)) (x0 q0 q1 : Nat) (qr : Nat → Nat) (ms es : Nat) (gE gM gB : Nat → Zp) (gT : Nat → Nat) (gG : Nat → Zp) (gN : Nat → Nat) (gK : Nat → Zp) (gD : Nat → Bool) (κ : Nat → EG) (hI : INV (ms, es, gE, gM, gB, gT, gG, gN, gK, gD) κ) (ev : Nat) (hev : ev < es) (wh : Nat) (h8b : wh ≤ 4) (hdt : det5 ((κ ev).2.2.2.2 (gT ev)) = 0) : CDo l D tys cI cE cG cM cS x0 q0 q1 qr xc3 yX6_information wsX6_information [.int (jI ((ev : Nat) : Int)), .int (jI ((wh : Nat) : Int))] (ms, es, gE, gM, gB, gT, gG, gN, gK, gD) κ (ms, es, gE, gM, gB, gT, gG, gN, gK, gD) 3 (jI 0) 6 25 := by
  obtain ⟨hms, hes, hIE, hIO⟩ := id hI
  obtain ⟨hset, hB, hN, hT, htm⟩ := hIE ev hev
  have hset2 : SEtl (fun i => gM (7 * ev + i)) ((κ ev).2.2.2.1 0) (fun k c => gK (6 * (30 * ev + k) + c)) (fun k => gD (30 * ev + k)) (gN ev) (gT ev + 1) (κ ev).2.1 (κ ev).2.2.1 (κ ev).2.2.2.1 (κ ev).2.2.2.2 := by rw [hB]; exact hset
  exact (cd_ref (c_X6_information3 l hl9 D tys htE x0 q0 q1 ms es (fE es κ) hes htM htS ((κ ev).1) (gN ev) (gT ev) (gG ev) (fun i => gM (7 * ev + i)) (fun k c => gK (6 * (30 * ev + k) + c)) ((κ ev).2.1) (fun k => gD (30 * ev + k)) ((κ ev).2.2.1) ((κ ev).2.2.2.1) ((κ ev).2.2.2.2) hN hT ev hev (if_pos hev) wh h8b hdt) (cw_es hev) rfl hI (by decide) (by decide) (by decide) (by decide))

set_option maxHeartbeats 8000000 in
set_option maxRecDepth 100000 in
theorem d_information0 (l : Launch) (hl9 : l.stackTraces = false) (D : va_G) (tys : List (ClassId × FieldType)) {cI cE cG cM cS : ClassId} (htI : tys[0]? = some (cI, .int)) (htE : tys[3]? = some (cE, .object RX1)) (htM : tys[4]? = some (cM, .object RX2)) (htS : tys[5]? = some (cS, .object RX4)) (htG : tys[6]? = some (cG, .array .int)) (x0 q0 q1 : Nat) (qr : Nat → Nat) (ms es : Nat) (gE gM gB : Nat → Zp) (gT : Nat → Nat) (gG : Nat → Zp) (gN : Nat → Nat) (gK : Nat → Zp) (gD : Nat → Bool) (κ : Nat → EG) (hI : INV (ms, es, gE, gM, gB, gT, gG, gN, gK, gD) κ) (ev : Nat) (hev : ev < es) (wh : Nat) (h8b : wh ≤ 4) (hdt : ¬ det5 ((κ ev).2.2.2.2 (gT ev)) = 0) : CDo l D tys cI cE cG cM cS x0 q0 q1 qr xc3 yX6_information wsX6_information [.int (jI ((ev : Nat) : Int)), .int (jI ((wh : Nat) : Int))] (ms, es, gE, gM, gB, gT, gG, gN, gK, gD) κ (ms, es, gE, gM, gB, gT, gG, gN, gK, gD) 0 (vI (comp5 (tim5 (inv5 ((κ ev).2.2.2.2 (gT ev)))) wh)) 6 25 := by
  obtain ⟨hms, hes, hIE, hIO⟩ := id hI
  obtain ⟨hset, hB, hN, hT, htm⟩ := hIE ev hev
  have hset2 : SEtl (fun i => gM (7 * ev + i)) ((κ ev).2.2.2.1 0) (fun k c => gK (6 * (30 * ev + k) + c)) (fun k => gD (30 * ev + k)) (gN ev) (gT ev + 1) (κ ev).2.1 (κ ev).2.2.1 (κ ev).2.2.2.1 (κ ev).2.2.2.2 := by rw [hB]; exact hset
  exact (cd_ask (c_X6_information0 l hl9 D tys htE x0 q0 q1 ms es (fE es κ) hes htM htS ((κ ev).1) (gN ev) (gT ev) (gG ev) (fun i => gM (7 * ev + i)) (fun k c => gK (6 * (30 * ev + k) + c)) ((κ ev).2.1) (fun k => gD (30 * ev + k)) ((κ ev).2.2.1) ((κ ev).2.2.2.1) ((κ ev).2.2.2.2) hN hT ev hev (if_pos hev) wh h8b hdt) (cw_es hev) rfl hI (by decide) (by decide) (by decide) (by decide))

set_option maxHeartbeats 8000000 in
set_option maxRecDepth 100000 in
theorem d_anew3 (l : Launch) (hl9 : l.stackTraces = false) (D : va_G) (tys : List (ClassId × FieldType)) {cI cE cG cM cS : ClassId} (htI : tys[0]? = some (cI, .int)) (htE : tys[3]? = some (cE, .object RX1)) (htM : tys[4]? = some (cM, .object RX2)) (htS : tys[5]? = some (cS, .object RX4)) (htG : tys[6]? = some (cG, .array .int)) (x0 q0 q1 : Nat) (qr : Nat → Nat) (ms es : Nat) (gE gM gB : Nat → Zp) (gT : Nat → Nat) (gG : Nat → Zp) (gN : Nat → Nat) (gK : Nat → Zp) (gD : Nat → Bool) (κ : Nat → EG) (hI : INV (ms, es, gE, gM, gB, gT, gG, gN, gK, gD) κ) (ev : Nat) (hev : ev < es) (wh : Nat) (h8b : wh ≤ 4) (hsd : secd (fun i => gM (7 * ev + i)) (s5at gB ev) (fun k c => gK (6 * (30 * ev + k) + c)) (fun k => gD (30 * ev + k)) (gtM (fun i => gM (7 * ev + i)) (s5at gB ev) (fun k c => gK (6 * (30 * ev + k) + c)) (fun k => gD (30 * ev + k)) (gN ev)) (gN ev) (gT ev) = none) : CDo l D tys cI cE cG cM cS x0 q0 q1 qr xc3 yX6_anew wsX6_anew [.int (jI ((ev : Nat) : Int)), .int (jI ((wh : Nat) : Int))] (ms, es, gE, gM, gB, gT, gG, gN, gK, gD) κ (ms, es, gE, gM, gB, gT, gG, gN, gK, gD) 3 (jI 0) 9 32 := by
  obtain ⟨hms, hes, hIE, hIO⟩ := id hI
  obtain ⟨hset, hB, hN, hT, htm⟩ := hIE ev hev
  have hset2 : SEtl (fun i => gM (7 * ev + i)) ((κ ev).2.2.2.1 0) (fun k c => gK (6 * (30 * ev + k) + c)) (fun k => gD (30 * ev + k)) (gN ev) (gT ev + 1) (κ ev).2.1 (κ ev).2.2.1 (κ ev).2.2.2.1 (κ ev).2.2.2.2 := by rw [hB]; exact hset
  have es0 : secd (fun i => gM (7 * ev + i)) ((κ ev).2.2.2.1 0) (fun k c => gK (6 * (30 * ev + k) + c)) (fun k => gD (30 * ev + k)) (κ ev).2.2.1 (gN ev) (gT ev) = secd (fun i => gM (7 * ev + i)) (s5at gB ev) (fun k c => gK (6 * (30 * ev + k) + c)) (fun k => gD (30 * ev + k)) (gtM (fun i => gM (7 * ev + i)) (s5at gB ev) (fun k c => gK (6 * (30 * ev + k) + c)) (fun k => gD (30 * ev + k)) (gN ev)) (gN ev) (gT ev) := by
    rw [hB]
    exact secd_congr (ca_gt hset htm) _
  exact (cd_ref (c_X6_anew3 l hl9 D tys htE x0 q0 q1 ms es (fE es κ) hes htM htS ((κ ev).1) (gN ev) (gT ev) (gG ev) (fun i => gM (7 * ev + i)) (fun k c => gK (6 * (30 * ev + k) + c)) ((κ ev).2.1) (fun k => gD (30 * ev + k)) ((κ ev).2.2.1) ((κ ev).2.2.2.1) ((κ ev).2.2.2.2) hN hT ev hev (if_pos hev) wh h8b (es0.trans hsd)) (cw_es hev) rfl hI (by decide) (by decide) (by decide) (by decide))

set_option maxHeartbeats 8000000 in
set_option maxRecDepth 100000 in
theorem d_anew0 (l : Launch) (hl9 : l.stackTraces = false) (D : va_G) (tys : List (ClassId × FieldType)) {cI cE cG cM cS : ClassId} (htI : tys[0]? = some (cI, .int)) (htE : tys[3]? = some (cE, .object RX1)) (htM : tys[4]? = some (cM, .object RX2)) (htS : tys[5]? = some (cS, .object RX4)) (htG : tys[6]? = some (cG, .array .int)) (x0 q0 q1 : Nat) (qr : Nat → Nat) (ms es : Nat) (gE gM gB : Nat → Zp) (gT : Nat → Nat) (gG : Nat → Zp) (gN : Nat → Nat) (gK : Nat → Zp) (gD : Nat → Bool) (κ : Nat → EG) (hI : INV (ms, es, gE, gM, gB, gT, gG, gN, gK, gD) κ) (ev : Nat) (hev : ev < es) (wh : Nat) (sq : S5) (h8b : wh ≤ 4) (hsd : secd (fun i => gM (7 * ev + i)) (s5at gB ev) (fun k c => gK (6 * (30 * ev + k) + c)) (fun k => gD (30 * ev + k)) (gtM (fun i => gM (7 * ev + i)) (s5at gB ev) (fun k c => gK (6 * (30 * ev + k) + c)) (fun k => gD (30 * ev + k)) (gN ev)) (gN ev) (gT ev) = some sq) : CDo l D tys cI cE cG cM cS x0 q0 q1 qr xc3 yX6_anew wsX6_anew [.int (jI ((ev : Nat) : Int)), .int (jI ((wh : Nat) : Int))] (ms, es, gE, gM, gB, gT, gG, gN, gK, gD) κ (ms, es, gE, gM, gB, gT, gG, gN, gK, gD) 0 (vI (comp5 sq wh)) 9 32 := by
  obtain ⟨hms, hes, hIE, hIO⟩ := id hI
  obtain ⟨hset, hB, hN, hT, htm⟩ := hIE ev hev
  have hset2 : SEtl (fun i => gM (7 * ev + i)) ((κ ev).2.2.2.1 0) (fun k c => gK (6 * (30 * ev + k) + c)) (fun k => gD (30 * ev + k)) (gN ev) (gT ev + 1) (κ ev).2.1 (κ ev).2.2.1 (κ ev).2.2.2.1 (κ ev).2.2.2.2 := by rw [hB]; exact hset
  have es0 : secd (fun i => gM (7 * ev + i)) ((κ ev).2.2.2.1 0) (fun k c => gK (6 * (30 * ev + k) + c)) (fun k => gD (30 * ev + k)) (κ ev).2.2.1 (gN ev) (gT ev) = secd (fun i => gM (7 * ev + i)) (s5at gB ev) (fun k c => gK (6 * (30 * ev + k) + c)) (fun k => gD (30 * ev + k)) (gtM (fun i => gM (7 * ev + i)) (s5at gB ev) (fun k c => gK (6 * (30 * ev + k) + c)) (fun k => gD (30 * ev + k)) (gN ev)) (gN ev) (gT ev) := by
    rw [hB]
    exact secd_congr (ca_gt hset htm) _
  exact (cd_ask (c_X6_anew0 l hl9 D tys htE x0 q0 q1 ms es (fE es κ) hes htM htS ((κ ev).1) (gN ev) (gT ev) (gG ev) (fun i => gM (7 * ev + i)) (fun k c => gK (6 * (30 * ev + k) + c)) ((κ ev).2.1) (fun k => gD (30 * ev + k)) ((κ ev).2.2.1) ((κ ev).2.2.2.1) ((κ ev).2.2.2.2) hN hT ev hev (if_pos hev) wh h8b sq (es0.trans hsd)) (cw_es hev) rfl hI (by decide) (by decide) (by decide) (by decide))

set_option maxHeartbeats 8000000 in
set_option maxRecDepth 100000 in
theorem d_gain3 (l : Launch) (hl9 : l.stackTraces = false) (D : va_G) (tys : List (ClassId × FieldType)) {cI cE cG cM cS : ClassId} (htI : tys[0]? = some (cI, .int)) (htE : tys[3]? = some (cE, .object RX1)) (htM : tys[4]? = some (cM, .object RX2)) (htS : tys[5]? = some (cS, .object RX4)) (htG : tys[6]? = some (cG, .array .int)) (x0 q0 q1 : Nat) (qr : Nat → Nat) (ms es : Nat) (gE gM gB : Nat → Zp) (gT : Nat → Nat) (gG : Nat → Zp) (gN : Nat → Nat) (gK : Nat → Zp) (gD : Nat → Bool) (κ : Nat → EG) (hI : INV (ms, es, gE, gM, gB, gT, gG, gN, gK, gD) κ) (ev : Nat) (hev : ev < es) (h0 h1 rr : Zp) (wh : Nat) (u3b : wh ≤ 1) (hs : mS (mrow h0 h1 rr) ((κ ev).2.2.2.2 (gT ev)) = 0) : CDo l D tys cI cE cG cM cS x0 q0 q1 qr xc3 yX6_gain wsX6_gain [.int (jI ((ev : Nat) : Int)), .int (vI h0), .int (vI h1), .int (vI rr), .int (jI ((wh : Nat) : Int))] (ms, es, gE, gM, gB, gT, gG, gN, gK, gD) κ (ms, es, gE, gM, gB, gT, gG, gN, gK, gD) 3 (jI 0) 9 51 := by
  obtain ⟨hms, hes, hIE, hIO⟩ := id hI
  obtain ⟨hset, hB, hN, hT, htm⟩ := hIE ev hev
  have hset2 : SEtl (fun i => gM (7 * ev + i)) ((κ ev).2.2.2.1 0) (fun k c => gK (6 * (30 * ev + k) + c)) (fun k => gD (30 * ev + k)) (gN ev) (gT ev + 1) (κ ev).2.1 (κ ev).2.2.1 (κ ev).2.2.2.1 (κ ev).2.2.2.2 := by rw [hB]; exact hset
  exact (cd_ref (c_X6_gain3 l hl9 D tys htE x0 q0 q1 ms es (fE es κ) hes htM htS ((κ ev).1) (gN ev) (gT ev) (gG ev) (fun i => gM (7 * ev + i)) (fun k c => gK (6 * (30 * ev + k) + c)) ((κ ev).2.1) (fun k => gD (30 * ev + k)) ((κ ev).2.2.1) ((κ ev).2.2.2.1) ((κ ev).2.2.2.2) hN hT ev hev (if_pos hev) h0 h1 rr wh u3b hs) (cw_es hev) rfl hI (by decide) (by decide) (by decide) (by decide))

set_option maxHeartbeats 8000000 in
set_option maxRecDepth 100000 in
theorem d_gain0 (l : Launch) (hl9 : l.stackTraces = false) (D : va_G) (tys : List (ClassId × FieldType)) {cI cE cG cM cS : ClassId} (htI : tys[0]? = some (cI, .int)) (htE : tys[3]? = some (cE, .object RX1)) (htM : tys[4]? = some (cM, .object RX2)) (htS : tys[5]? = some (cS, .object RX4)) (htG : tys[6]? = some (cG, .array .int)) (x0 q0 q1 : Nat) (qr : Nat → Nat) (ms es : Nat) (gE gM gB : Nat → Zp) (gT : Nat → Nat) (gG : Nat → Zp) (gN : Nat → Nat) (gK : Nat → Zp) (gD : Nat → Bool) (κ : Nat → EG) (hI : INV (ms, es, gE, gM, gB, gT, gG, gN, gK, gD) κ) (ev : Nat) (hev : ev < es) (h0 h1 rr : Zp) (wh : Nat) (u3b : wh ≤ 1) (hs : ¬ mS (mrow h0 h1 rr) ((κ ev).2.2.2.2 (gT ev)) = 0) : CDo l D tys cI cE cG cM cS x0 q0 q1 qr xc3 yX6_gain wsX6_gain [.int (jI ((ev : Nat) : Int)), .int (vI h0), .int (vI h1), .int (vI rr), .int (jI ((wh : Nat) : Int))] (ms, es, gE, gM, gB, gT, gG, gN, gK, gD) κ (ms, es, gE, gM, gB, gT, gG, gN, gK, gD) 0 (gnR h0 h1 rr ((κ ev).2.2.2.2 (gT ev)) wh) 9 51 := by
  obtain ⟨hms, hes, hIE, hIO⟩ := id hI
  obtain ⟨hset, hB, hN, hT, htm⟩ := hIE ev hev
  have hset2 : SEtl (fun i => gM (7 * ev + i)) ((κ ev).2.2.2.1 0) (fun k c => gK (6 * (30 * ev + k) + c)) (fun k => gD (30 * ev + k)) (gN ev) (gT ev + 1) (κ ev).2.1 (κ ev).2.2.1 (κ ev).2.2.2.1 (κ ev).2.2.2.2 := by rw [hB]; exact hset
  exact (cd_ask (c_X6_gain0 l hl9 D tys htE x0 q0 q1 ms es (fE es κ) hes htM htS ((κ ev).1) (gN ev) (gT ev) (gG ev) (fun i => gM (7 * ev + i)) (fun k c => gK (6 * (30 * ev + k) + c)) ((κ ev).2.1) (fun k => gD (30 * ev + k)) ((κ ev).2.2.1) ((κ ev).2.2.2.1) ((κ ev).2.2.2.2) hN hT ev hev (if_pos hev) h0 h1 rr wh u3b hs) (cw_es hev) rfl hI (by decide) (by decide) (by decide) (by decide))

set_option maxHeartbeats 8000000 in
set_option maxRecDepth 100000 in
theorem d_ofMeasurement2 (l : Launch) (hl9 : l.stackTraces = false) (D : va_G) (tys : List (ClassId × FieldType)) {cI cE cG cM cS : ClassId} (htI : tys[0]? = some (cI, .int)) (htE : tys[3]? = some (cE, .object RX1)) (htM : tys[4]? = some (cM, .object RX2)) (htS : tys[5]? = some (cS, .object RX4)) (htG : tys[6]? = some (cG, .array .int)) (x0 q0 q1 : Nat) (qr : Nat → Nat) (ms es : Nat) (gE gM gB : Nat → Zp) (gT : Nat → Nat) (gG : Nat → Zp) (gN : Nat → Nat) (gK : Nat → Zp) (gD : Nat → Bool) (κ : Nat → EG) (hI : INV (ms, es, gE, gM, gB, gT, gG, gN, gK, gD) κ) (ev : Nat) (hev : ev < es) (kv wh : Int) (r2 : r32 kv) (r3 : r32 wh) (h7 : inB 0 (((gN ev : Nat) : Int) - 1) kv = false) : CDo l D tys cI cE cG cM cS x0 q0 q1 qr xc2 yX6_ofMeasurement wsX6_ofMeasurement [.int (jI ((ev : Nat) : Int)), .int (jI kv), .int (jI wh)] (ms, es, gE, gM, gB, gT, gG, gN, gK, gD) κ (ms, es, gE, gM, gB, gT, gG, gN, gK, gD) 1 (jI 0) 3 18 := by
  obtain ⟨hms, hes, hIE, hIO⟩ := id hI
  obtain ⟨hset, hB, hN, hT, htm⟩ := hIE ev hev
  have hset2 : SEtl (fun i => gM (7 * ev + i)) ((κ ev).2.2.2.1 0) (fun k c => gK (6 * (30 * ev + k) + c)) (fun k => gD (30 * ev + k)) (gN ev) (gT ev + 1) (κ ev).2.1 (κ ev).2.2.1 (κ ev).2.2.2.1 (κ ev).2.2.2.2 := by rw [hB]; exact hset
  exact (cd_ref (c_X6_ofMeasurement2 l hl9 D tys htE x0 q0 q1 ms es (fE es κ) hes htM htS ((κ ev).1) (gN ev) (gT ev) (gG ev) (fun i => gM (7 * ev + i)) (fun k c => gK (6 * (30 * ev + k) + c)) ((κ ev).2.1) (fun k => gD (30 * ev + k)) ((κ ev).2.2.1) ((κ ev).2.2.2.1) ((κ ev).2.2.2.2) hN hT ev hev (if_pos hev) kv wh r2 r3 h7) (cw_es hev) rfl hI (by decide) (by decide) (by decide) (by decide))

set_option maxHeartbeats 8000000 in
set_option maxRecDepth 100000 in
theorem d_ofMeasurement0 (l : Launch) (hl9 : l.stackTraces = false) (D : va_G) (tys : List (ClassId × FieldType)) {cI cE cG cM cS : ClassId} (htI : tys[0]? = some (cI, .int)) (htE : tys[3]? = some (cE, .object RX1)) (htM : tys[4]? = some (cM, .object RX2)) (htS : tys[5]? = some (cS, .object RX4)) (htG : tys[6]? = some (cG, .array .int)) (x0 q0 q1 : Nat) (qr : Nat → Nat) (ms es : Nat) (gE gM gB : Nat → Zp) (gT : Nat → Nat) (gG : Nat → Zp) (gN : Nat → Nat) (gK : Nat → Zp) (gD : Nat → Bool) (κ : Nat → EG) (hI : INV (ms, es, gE, gM, gB, gT, gG, gN, gK, gD) κ) (ev : Nat) (hev : ev < es) (kv wh : Nat) (h7b : kv < gN ev) (h8b : wh ≤ 4) : CDo l D tys cI cE cG cM cS x0 q0 q1 qr xc2 yX6_ofMeasurement wsX6_ofMeasurement [.int (jI ((ev : Nat) : Int)), .int (jI ((kv : Nat) : Int)), .int (jI ((wh : Nat) : Int))] (ms, es, gE, gM, gB, gT, gG, gN, gK, gD) κ (ms, es, gE, gM, gB, gT, gG, gN, gK, gD) 0 (omA (gK (6 * (30 * ev + kv))) (gD (30 * ev + kv)) (fun c => gK (6 * (30 * ev + kv) + c)) (bef (fun i => gM (7 * ev + i)) (s5at gB ev) (fun k c => gK (6 * (30 * ev + k) + c)) (fun k => gD (30 * ev + k)) (gN ev) kv) wh) 3 18 := by
  obtain ⟨hms, hes, hIE, hIO⟩ := id hI
  obtain ⟨hset, hB, hN, hT, htm⟩ := hIE ev hev
  have hset2 : SEtl (fun i => gM (7 * ev + i)) ((κ ev).2.2.2.1 0) (fun k c => gK (6 * (30 * ev + k) + c)) (fun k => gD (30 * ev + k)) (gN ev) (gT ev + 1) (κ ev).2.1 (κ ev).2.2.1 (κ ev).2.2.2.1 (κ ev).2.2.2.2 := by rw [hB]; exact hset
  by_cases w0 : wh = 0
  · subst w0
    exact (cd_ask (c_X6_ofMeasurement0_0 l hl9 D tys htE x0 q0 q1 ms es (fE es κ) hes htM htS ((κ ev).1) (gN ev) (gT ev) (gG ev) (fun i => gM (7 * ev + i)) (fun k c => gK (6 * (30 * ev + k) + c)) ((κ ev).2.1) (fun k => gD (30 * ev + k)) ((κ ev).2.2.1) ((κ ev).2.2.2.1) ((κ ev).2.2.2.2) hN hT ev hev (if_pos hev) kv h7b) (cw_es hev) rfl hI (by decide) (by decide) (by decide) (by decide))
  by_cases hdr : gD (30 * ev + kv) = true
  · exact (cd_ask (c_X6_ofMeasurement0_d l hl9 D tys htE x0 q0 q1 ms es (fE es κ) hes htM htS ((κ ev).1) (gN ev) (gT ev) (gG ev) (fun i => gM (7 * ev + i)) (fun k c => gK (6 * (30 * ev + k) + c)) ((κ ev).2.1) (fun k => gD (30 * ev + k)) ((κ ev).2.2.1) ((κ ev).2.2.2.1) ((κ ev).2.2.2.2) hN hT ev hev (if_pos hev) kv h7b wh (by omega) h8b hdr) (cw_es hev) (by unfold omA; rw [if_neg w0, if_pos hdr]) hI (by decide) (by decide) (by decide) (by decide))
  rw [Bool.not_eq_true] at hdr
  obtain ⟨q, hb, y2, y3, y4, yg⟩ := hset.2 kv h7b hdr (Nat.lt_succ_of_le (htm kv h7b))
  have eo : omA (gK (6 * (30 * ev + kv))) (gD (30 * ev + kv)) (fun c => gK (6 * (30 * ev + kv) + c)) (bef (fun i => gM (7 * ev + i)) (s5at gB ev) (fun k c => gK (6 * (30 * ev + k) + c)) (fun k => gD (30 * ev + k)) (gN ev) kv) wh = omR (fun c => gK (6 * (30 * ev + kv) + c)) q wh := by
    unfold omA
    rw [if_neg w0, if_neg (by rw [hdr]; decide), hb]
  rw [eo]
  by_cases w : wh = 1
  · subst w
    exact (cd_ask (c_X6_ofMeasurement0_1 l hl9 D tys htE x0 q0 q1 ms es (fE es κ) hes htM htS ((κ ev).1) (gN ev) (gT ev) (gG ev) (fun i => gM (7 * ev + i)) (fun k c => gK (6 * (30 * ev + k) + c)) ((κ ev).2.1) (fun k => gD (30 * ev + k)) ((κ ev).2.2.1) ((κ ev).2.2.2.1) ((κ ev).2.2.2.2) hN hT ev hev (if_pos hev) kv h7b hdr) (cw_es hev) (by rw [y2]; rfl) hI (by decide) (by decide) (by decide) (by decide))
  by_cases w : wh = 2
  · subst w
    exact (cd_ask (c_X6_ofMeasurement0_2 l hl9 D tys htE x0 q0 q1 ms es (fE es κ) hes htM htS ((κ ev).1) (gN ev) (gT ev) (gG ev) (fun i => gM (7 * ev + i)) (fun k c => gK (6 * (30 * ev + k) + c)) ((κ ev).2.1) (fun k => gD (30 * ev + k)) ((κ ev).2.2.1) ((κ ev).2.2.2.1) ((κ ev).2.2.2.2) hN hT ev hev (if_pos hev) kv h7b hdr) (cw_es hev) (by rw [y3]; rfl) hI (by decide) (by decide) (by decide) (by decide))
  by_cases w : wh = 3
  · subst w
    exact (cd_ask (c_X6_ofMeasurement0_3 l hl9 D tys htE x0 q0 q1 ms es (fE es κ) hes htM htS ((κ ev).1) (gN ev) (gT ev) (gG ev) (fun i => gM (7 * ev + i)) (fun k c => gK (6 * (30 * ev + k) + c)) ((κ ev).2.1) (fun k => gD (30 * ev + k)) ((κ ev).2.2.1) ((κ ev).2.2.2.1) ((κ ev).2.2.2.2) hN hT ev hev (if_pos hev) kv h7b hdr) (cw_es hev) (by rw [y4]; rfl) hI (by decide) (by decide) (by decide) (by decide))
  have w : wh = 4 := by omega
  subst w
  by_cases hgt : (κ ev).2.2.1 kv = true
  · exact (cd_ask (c_X6_ofMeasurement0_4t l hl9 D tys htE x0 q0 q1 ms es (fE es κ) hes htM htS ((κ ev).1) (gN ev) (gT ev) (gG ev) (fun i => gM (7 * ev + i)) (fun k c => gK (6 * (30 * ev + k) + c)) ((κ ev).2.1) (fun k => gD (30 * ev + k)) ((κ ev).2.2.1) ((κ ev).2.2.2.1) ((κ ev).2.2.2.2) hN hT ev hev (if_pos hev) kv h7b hdr hgt) (cw_es hev) (by rw [yg]; rfl) hI (by decide) (by decide) (by decide) (by decide))
  · rw [Bool.not_eq_true] at hgt
    exact (cd_ask (c_X6_ofMeasurement0_4f l hl9 D tys htE x0 q0 q1 ms es (fE es κ) hes htM htS ((κ ev).1) (gN ev) (gT ev) (gG ev) (fun i => gM (7 * ev + i)) (fun k c => gK (6 * (30 * ev + k) + c)) ((κ ev).2.1) (fun k => gD (30 * ev + k)) ((κ ev).2.2.1) ((κ ev).2.2.2.1) ((κ ev).2.2.2.2) hN hT ev hev (if_pos hev) kv h7b hdr hgt) (cw_es hev) (by rw [yg]; rfl) hI (by decide) (by decide) (by decide) (by decide))

set_option maxHeartbeats 8000000 in
set_option maxRecDepth 100000 in
theorem d_smoothed3 (l : Launch) (hl9 : l.stackTraces = false) (D : va_G) (tys : List (ClassId × FieldType)) {cI cE cG cM cS : ClassId} (htI : tys[0]? = some (cI, .int)) (htE : tys[3]? = some (cE, .object RX1)) (htM : tys[4]? = some (cM, .object RX2)) (htS : tys[5]? = some (cS, .object RX4)) (htG : tys[6]? = some (cG, .array .int)) (x0 q0 q1 : Nat) (qr : Nat → Nat) (ms es : Nat) (gE gM gB : Nat → Zp) (gT : Nat → Nat) (gG : Nat → Zp) (gN : Nat → Nat) (gK : Nat → Zp) (gD : Nat → Bool) (κ : Nat → EG) (hI : INV (ms, es, gE, gM, gB, gT, gG, gN, gK, gD) κ) (ev : Nat) (hev : ev < es) (at_ wh : Nat) (u0b : at_ ≤ gT ev) (u1b : wh ≤ 1) (hso : smo (fun i => gM (7 * ev + i)) (s5at gB ev) (fun k c => gK (6 * (30 * ev + k) + c)) (fun k => gD (30 * ev + k)) (gN ev) (gT ev) (gT ev - at_) = none) : CDo l D tys cI cE cG cM cS x0 q0 q1 qr xc3 yX6_smoothed wsX6_smoothed [.int (jI ((ev : Nat) : Int)), .int (jI ((at_ : Nat) : Int)), .int (jI ((wh : Nat) : Int))] (ms, es, gE, gM, gB, gT, gG, gN, gK, gD) κ (ms, es, gE, gM, gB, gT, gG, gN, gK, gD) 3 (jI 0) 6 29 := by
  obtain ⟨hms, hes, hIE, hIO⟩ := id hI
  obtain ⟨hset, hB, hN, hT, htm⟩ := hIE ev hev
  have hset2 : SEtl (fun i => gM (7 * ev + i)) ((κ ev).2.2.2.1 0) (fun k c => gK (6 * (30 * ev + k) + c)) (fun k => gD (30 * ev + k)) (gN ev) (gT ev + 1) (κ ev).2.1 (κ ev).2.2.1 (κ ev).2.2.2.1 (κ ev).2.2.2.2 := by rw [hB]; exact hset
  have es0 : smo (fun i => gM (7 * ev + i)) ((κ ev).2.2.2.1 0) (fun k c => gK (6 * (30 * ev + k) + c)) (fun k => gD (30 * ev + k)) (gN ev) (gT ev) (gT ev - at_) = smo (fun i => gM (7 * ev + i)) (s5at gB ev) (fun k c => gK (6 * (30 * ev + k) + c)) (fun k => gD (30 * ev + k)) (gN ev) (gT ev) (gT ev - at_) := by rw [hB]
  exact (cd_ref (c_X6_smoothed3 l hl9 D tys htE x0 q0 q1 ms es (fE es κ) hes htM htS ((κ ev).1) (gN ev) (gT ev) (gG ev) (fun i => gM (7 * ev + i)) (fun k c => gK (6 * (30 * ev + k) + c)) ((κ ev).2.1) (fun k => gD (30 * ev + k)) ((κ ev).2.2.1) ((κ ev).2.2.2.1) ((κ ev).2.2.2.2) hN hT ev hev (if_pos hev) hset2 at_ wh u0b u1b (es0.trans hso)) (cw_es hev) rfl hI (by decide) (by decide) (by decide) (by decide))

set_option maxHeartbeats 8000000 in
set_option maxRecDepth 100000 in
theorem d_smoothed0 (l : Launch) (hl9 : l.stackTraces = false) (D : va_G) (tys : List (ClassId × FieldType)) {cI cE cG cM cS : ClassId} (htI : tys[0]? = some (cI, .int)) (htE : tys[3]? = some (cE, .object RX1)) (htM : tys[4]? = some (cM, .object RX2)) (htS : tys[5]? = some (cS, .object RX4)) (htG : tys[6]? = some (cG, .array .int)) (x0 q0 q1 : Nat) (qr : Nat → Nat) (ms es : Nat) (gE gM gB : Nat → Zp) (gT : Nat → Nat) (gG : Nat → Zp) (gN : Nat → Nat) (gK : Nat → Zp) (gD : Nat → Bool) (κ : Nat → EG) (hI : INV (ms, es, gE, gM, gB, gT, gG, gN, gK, gD) κ) (ev : Nat) (hev : ev < es) (at_ wh : Nat) (xs : Zp × Zp) (u0b : at_ ≤ gT ev) (u1b : wh ≤ 1) (hso : smo (fun i => gM (7 * ev + i)) (s5at gB ev) (fun k c => gK (6 * (30 * ev + k) + c)) (fun k => gD (30 * ev + k)) (gN ev) (gT ev) (gT ev - at_) = some xs) : CDo l D tys cI cE cG cM cS x0 q0 q1 qr xc3 yX6_smoothed wsX6_smoothed [.int (jI ((ev : Nat) : Int)), .int (jI ((at_ : Nat) : Int)), .int (jI ((wh : Nat) : Int))] (ms, es, gE, gM, gB, gT, gG, gN, gK, gD) κ (ms, es, gE, gM, gB, gT, gG, gN, gK, gD) 0 ((if wh = 0 then vI xs.1 else vI xs.2)) 6 29 := by
  obtain ⟨hms, hes, hIE, hIO⟩ := id hI
  obtain ⟨hset, hB, hN, hT, htm⟩ := hIE ev hev
  have hset2 : SEtl (fun i => gM (7 * ev + i)) ((κ ev).2.2.2.1 0) (fun k c => gK (6 * (30 * ev + k) + c)) (fun k => gD (30 * ev + k)) (gN ev) (gT ev + 1) (κ ev).2.1 (κ ev).2.2.1 (κ ev).2.2.2.1 (κ ev).2.2.2.2 := by rw [hB]; exact hset
  have es0 : smo (fun i => gM (7 * ev + i)) ((κ ev).2.2.2.1 0) (fun k c => gK (6 * (30 * ev + k) + c)) (fun k => gD (30 * ev + k)) (gN ev) (gT ev) (gT ev - at_) = smo (fun i => gM (7 * ev + i)) (s5at gB ev) (fun k c => gK (6 * (30 * ev + k) + c)) (fun k => gD (30 * ev + k)) (gN ev) (gT ev) (gT ev - at_) := by rw [hB]
  exact (cd_ask (c_X6_smoothed0 l hl9 D tys htE x0 q0 q1 ms es (fE es κ) hes htM htS ((κ ev).1) (gN ev) (gT ev) (gG ev) (fun i => gM (7 * ev + i)) (fun k c => gK (6 * (30 * ev + k) + c)) ((κ ev).2.1) (fun k => gD (30 * ev + k)) ((κ ev).2.2.1) ((κ ev).2.2.2.1) ((κ ev).2.2.2.2) hN hT ev hev (if_pos hev) hset2 at_ wh u0b u1b xs (es0.trans hso)) (cw_es hev) (by by_cases w : wh = 0 <;> simp [w]) hI (by decide) (by decide) (by decide) (by decide))

set_option maxHeartbeats 8000000 in
set_option maxRecDepth 100000 in
theorem d_ahead1 (l : Launch) (hl9 : l.stackTraces = false) (D : va_G) (tys : List (ClassId × FieldType)) {cI cE cG cM cS : ClassId} (htI : tys[0]? = some (cI, .int)) (htE : tys[3]? = some (cE, .object RX1)) (htM : tys[4]? = some (cM, .object RX2)) (htS : tys[5]? = some (cS, .object RX4)) (htG : tys[6]? = some (cG, .array .int)) (x0 q0 q1 : Nat) (qr : Nat → Nat) (ms es : Nat) (gE gM gB : Nat → Zp) (gT : Nat → Nat) (gG : Nat → Zp) (gN : Nat → Nat) (gK : Nat → Zp) (gD : Nat → Bool) (κ : Nat → EG) (hI : INV (ms, es, gE, gM, gB, gT, gG, gN, gK, gD) κ) (ev tt wh : Int) (r1 : r32 ev) (r2 : r32 tt) (r3 : r32 wh) (h9 : inB 0 (((es : Nat) : Int) - 1) ev = false) : CDo l D tys cI cE cG cM cS x0 q0 q1 qr xc2 yX6_ahead wsX6_ahead [.int (jI ev), .int (jI tt), .int (jI wh)] (ms, es, gE, gM, gB, gT, gG, gN, gK, gD) κ (ms, es, gE, gM, gB, gT, gG, gN, gK, gD) 1 (jI 0) 8 33 := by
  obtain ⟨hms, hes, hIE, hIO⟩ := id hI
  exact (cd_ref (c_X6_ahead1 l hl9 D tys htE x0 q0 q1 ms es (fE es κ) hes ev tt wh r1 h9) (cw_x) rfl hI (by decide) (by decide) (by decide) (by decide))
set_option maxHeartbeats 8000000 in
set_option maxRecDepth 100000 in
theorem d_ahead0 (l : Launch) (hl9 : l.stackTraces = false) (D : va_G) (tys : List (ClassId × FieldType)) {cI cE cG cM cS : ClassId} (htI : tys[0]? = some (cI, .int)) (htE : tys[3]? = some (cE, .object RX1)) (htM : tys[4]? = some (cM, .object RX2)) (htS : tys[5]? = some (cS, .object RX4)) (htG : tys[6]? = some (cG, .array .int)) (x0 q0 q1 : Nat) (qr : Nat → Nat) (ms es : Nat) (gE gM gB : Nat → Zp) (gT : Nat → Nat) (gG : Nat → Zp) (gN : Nat → Nat) (gK : Nat → Zp) (gD : Nat → Bool) (κ : Nat → EG) (hI : INV (ms, es, gE, gM, gB, gT, gG, gN, gK, gD) κ) (ev : Nat) (hev : ev < es) (times wh : Nat) (u0b : times ≤ 1000000000) (u1b : wh ≤ 4) : CDo l D tys cI cE cG cM cS x0 q0 q1 qr xc2 yX6_ahead wsX6_ahead [.int (jI ((ev : Nat) : Int)), .int (jI ((times : Nat) : Int)), .int (jI ((wh : Nat) : Int))] (ms, es, gE, gM, gB, gT, gG, gN, gK, gD) κ (ms, es, gE, gM, gB, gT, gG, gN, gK, gD) 0 (vI (comp5 (itN (prd (fun i => gM (7 * ev + i))) times ((κ ev).2.2.2.2 (gT ev))) wh)) 8 33 := by
  obtain ⟨hms, hes, hIE, hIO⟩ := id hI
  obtain ⟨hset, hB, hN, hT, htm⟩ := hIE ev hev
  have hset2 : SEtl (fun i => gM (7 * ev + i)) ((κ ev).2.2.2.1 0) (fun k c => gK (6 * (30 * ev + k) + c)) (fun k => gD (30 * ev + k)) (gN ev) (gT ev + 1) (κ ev).2.1 (κ ev).2.2.1 (κ ev).2.2.2.1 (κ ev).2.2.2.2 := by rw [hB]; exact hset
  exact (cd_ask (c_X6_ahead0 l hl9 D tys htE x0 q0 q1 ms es (fE es κ) hes htM htS ((κ ev).1) (gN ev) (gT ev) (gG ev) (fun i => gM (7 * ev + i)) (fun k c => gK (6 * (30 * ev + k) + c)) ((κ ev).2.1) (fun k => gD (30 * ev + k)) ((κ ev).2.2.1) ((κ ev).2.2.2.1) ((κ ev).2.2.2.2) hN hT ev hev (if_pos hev) times wh u0b u1b) (cw_es hev) rfl hI (by decide) (by decide) (by decide) (by decide))

set_option maxHeartbeats 8000000 in
set_option maxRecDepth 100000 in
theorem d_aheadAnew0 (l : Launch) (hl9 : l.stackTraces = false) (D : va_G) (tys : List (ClassId × FieldType)) {cI cE cG cM cS : ClassId} (htI : tys[0]? = some (cI, .int)) (htE : tys[3]? = some (cE, .object RX1)) (htM : tys[4]? = some (cM, .object RX2)) (htS : tys[5]? = some (cS, .object RX4)) (htG : tys[6]? = some (cG, .array .int)) (x0 q0 q1 : Nat) (qr : Nat → Nat) (ms es : Nat) (gE gM gB : Nat → Zp) (gT : Nat → Nat) (gG : Nat → Zp) (gN : Nat → Nat) (gK : Nat → Zp) (gD : Nat → Bool) (κ : Nat → EG) (hI : INV (ms, es, gE, gM, gB, gT, gG, gN, gK, gD) κ) (ev : Nat) (hev : ev < es) (times wh : Nat) (u0b : times ≤ 200) (u1b : wh ≤ 4) : CDo l D tys cI cE cG cM cS x0 q0 q1 qr xc2 yX6_aheadAnew wsX6_aheadAnew [.int (jI ((ev : Nat) : Int)), .int (jI ((times : Nat) : Int)), .int (jI ((wh : Nat) : Int))] (ms, es, gE, gM, gB, gT, gG, gN, gK, gD) κ (ms, es, gE, gM, gB, gT, gG, gN, gK, gD) 0 (vI (comp5 (itN (prd (fun i => gM (7 * ev + i))) times ((κ ev).2.2.2.2 (gT ev))) wh)) 6 25 := by
  obtain ⟨hms, hes, hIE, hIO⟩ := id hI
  obtain ⟨hset, hB, hN, hT, htm⟩ := hIE ev hev
  have hset2 : SEtl (fun i => gM (7 * ev + i)) ((κ ev).2.2.2.1 0) (fun k c => gK (6 * (30 * ev + k) + c)) (fun k => gD (30 * ev + k)) (gN ev) (gT ev + 1) (κ ev).2.1 (κ ev).2.2.1 (κ ev).2.2.2.1 (κ ev).2.2.2.2 := by rw [hB]; exact hset
  exact (cd_ask (c_X6_aheadAnew0 l hl9 D tys htE x0 q0 q1 ms es (fE es κ) hes htM htS ((κ ev).1) (gN ev) (gT ev) (gG ev) (fun i => gM (7 * ev + i)) (fun k c => gK (6 * (30 * ev + k) + c)) ((κ ev).2.1) (fun k => gD (30 * ev + k)) ((κ ev).2.2.1) ((κ ev).2.2.2.1) ((κ ev).2.2.2.2) hN hT ev hev (if_pos hev) times wh u0b u1b) (cw_es hev) rfl hI (by decide) (by decide) (by decide) (by decide))

set_option maxHeartbeats 8000000 in
set_option maxRecDepth 100000 in
theorem d_gate1 (l : Launch) (hl9 : l.stackTraces = false) (D : va_G) (tys : List (ClassId × FieldType)) {cI cE cG cM cS : ClassId} (htI : tys[0]? = some (cI, .int)) (htE : tys[3]? = some (cE, .object RX1)) (htM : tys[4]? = some (cM, .object RX2)) (htS : tys[5]? = some (cS, .object RX4)) (htG : tys[6]? = some (cG, .array .int)) (x0 q0 q1 : Nat) (qr : Nat → Nat) (ms es : Nat) (gE gM gB : Nat → Zp) (gT : Nat → Nat) (gG : Nat → Zp) (gN : Nat → Nat) (gK : Nat → Zp) (gD : Nat → Bool) (κ : Nat → EG) (hI : INV (ms, es, gE, gM, gB, gT, gG, gN, gK, gD) κ) (ev it : Int) (r1 : r32 ev) (r2 : r32 it) (h9 : inB 0 (((es : Nat) : Int) - 1) ev = false) : CDo l D tys cI cE cG cM cS x0 q0 q1 qr xc2 yX6_gate wsX6_gate [.int (jI ev), .int (jI it)] (ms, es, gE, gM, gB, gT, gG, gN, gK, gD) κ (ms, es, gE, gM, gB, gT, gG, gN, gK, gD) 1 (jI 0) 2 12 := by
  obtain ⟨hms, hes, hIE, hIO⟩ := id hI
  exact (cd_ref (c_X6_gate1 l hl9 D tys htE x0 q0 q1 ms es (fE es κ) hes ev it r1 h9) (cw_x) rfl hI (by decide) (by decide) (by decide) (by decide))
set_option maxHeartbeats 8000000 in
set_option maxRecDepth 100000 in
theorem d_gate2 (l : Launch) (hl9 : l.stackTraces = false) (D : va_G) (tys : List (ClassId × FieldType)) {cI cE cG cM cS : ClassId} (htI : tys[0]? = some (cI, .int)) (htE : tys[3]? = some (cE, .object RX1)) (htM : tys[4]? = some (cM, .object RX2)) (htS : tys[5]? = some (cS, .object RX4)) (htG : tys[6]? = some (cG, .array .int)) (x0 q0 q1 : Nat) (qr : Nat → Nat) (ms es : Nat) (gE gM gB : Nat → Zp) (gT : Nat → Nat) (gG : Nat → Zp) (gN : Nat → Nat) (gK : Nat → Zp) (gD : Nat → Bool) (κ : Nat → EG) (hI : INV (ms, es, gE, gM, gB, gT, gG, gN, gK, gD) κ) (ev : Nat) (hev : ev < es) (it : Int) (r2 : r32 it) (h8 : inB 0 10006 it = false) : CDo l D tys cI cE cG cM cS x0 q0 q1 qr xc2 yX6_gate wsX6_gate [.int (jI ((ev : Nat) : Int)), .int (jI it)] (ms, es, gE, gM, gB, gT, gG, gN, gK, gD) κ (ms, es, gE, gM, gB, gT, gG, gN, gK, gD) 2 (jI 0) 2 12 := by
  obtain ⟨hms, hes, hIE, hIO⟩ := id hI
  obtain ⟨hset, hB, hN, hT, htm⟩ := hIE ev hev
  have hset2 : SEtl (fun i => gM (7 * ev + i)) ((κ ev).2.2.2.1 0) (fun k c => gK (6 * (30 * ev + k) + c)) (fun k => gD (30 * ev + k)) (gN ev) (gT ev + 1) (κ ev).2.1 (κ ev).2.2.1 (κ ev).2.2.2.1 (κ ev).2.2.2.2 := by rw [hB]; exact hset
  exact (cd_ref (c_X6_gate2 l hl9 D tys htE x0 q0 q1 ms es (fE es κ) hes ev hev ((κ ev).1 0) (if_pos hev) it r2 h8) (cw_x) rfl hI (by decide) (by decide) (by decide) (by decide))
set_option maxHeartbeats 8000000 in
set_option maxRecDepth 100000 in
theorem d_gate0 (l : Launch) (hl9 : l.stackTraces = false) (D : va_G) (tys : List (ClassId × FieldType)) {cI cE cG cM cS : ClassId} (htI : tys[0]? = some (cI, .int)) (htE : tys[3]? = some (cE, .object RX1)) (htM : tys[4]? = some (cM, .object RX2)) (htS : tys[5]? = some (cS, .object RX4)) (htG : tys[6]? = some (cG, .array .int)) (x0 q0 q1 : Nat) (qr : Nat → Nat) (ms es : Nat) (gE gM gB : Nat → Zp) (gT : Nat → Nat) (gG : Nat → Zp) (gN : Nat → Nat) (gK : Nat → Zp) (gD : Nat → Bool) (κ : Nat → EG) (hI : INV (ms, es, gE, gM, gB, gT, gG, gN, gK, gD) κ) (ev : Nat) (hev : ev < es) (it : Zp)  : CDo l D tys cI cE cG cM cS x0 q0 q1 qr xc2 yX6_gate wsX6_gate [.int (jI ((ev : Nat) : Int)), .int (vI it)] (ms, es, gE, gM, gB, gT, gG, gN, gK, gD) κ (ms, es, gE, gM, gB, gT, va_up gG ev it, gN, gK, gD) 0 (vI (gG ev)) 2 12 := by
  obtain ⟨hms, hes, hIE, hIO⟩ := id hI
  obtain ⟨hset, hB, hN, hT, htm⟩ := hIE ev hev
  have hset2 : SEtl (fun i => gM (7 * ev + i)) ((κ ev).2.2.2.1 0) (fun k c => gK (6 * (30 * ev + k) + c)) (fun k => gD (30 * ev + k)) (gN ev) (gT ev + 1) (κ ev).2.1 (κ ev).2.2.1 (κ ev).2.2.2.1 (κ ev).2.2.2.2 := by rw [hB]; exact hset
  have he : sW cM cS gM (va_up gG ev it) gK gT gN gD (va_up κ ev (κ ev)) ev = estL cM cS (κ ev).1 (gN ev) (gT ev) it (fun i => gM (7 * ev + i)) (fun k c => gK (6 * (30 * ev + k) + c)) (κ ev).2.1 (fun k => gD (30 * ev + k)) (κ ev).2.2.1 (κ ev).2.2.2.1 (κ ev).2.2.2.2 := by
    unfold sW
    rw [up_s, up_s]
  have hs : ∀ e, e < es → e ≠ ev → sW cM cS gM (va_up gG ev it) gK gT gN gD (va_up κ ev (κ ev)) e = sW cM cS gM gG gK gT gN gD κ e := fun e _ hne => sW_c (up_o _ _ hne) rfl rfl (fun _ _ _ _ => rfl) (fun _ _ => rfl) (up_o _ _ hne)
  exact CtG.to ((c_X6_gate0 l hl9 D tys htE x0 q0 q1 ms es (fE es κ) hes htM htS ((κ ev).1) (gN ev) (gT ev) (gG ev) (fun i => gM (7 * ev + i)) (fun k c => gK (6 * (30 * ev + k) + c)) ((κ ev).2.1) (fun k => gD (30 * ev + k)) ((κ ev).2.2.1) ((κ ev).2.2.2.1) ((κ ev).2.2.2.2) hN hT ev hev (if_pos hev) it).wide (by decide) (by decide) (by decide) (by decide)) (cw_es hev) (fun r u hq => ⟨va_up κ ev (κ ev), ⟨rfl, hq, inv_put hev hI (fun _ _ => rfl) (fun _ _ => rfl) (fun _ _ _ _ _ _ => rfl) (fun _ _ _ _ => rfl) (hIE ev hev)⟩, cw_put2 (gB := gB) hev rfl he hs⟩) (fun _ _ z => z.elim)

set_option maxHeartbeats 8000000 in
set_option maxRecDepth 100000 in
theorem d_predict1 (l : Launch) (hl9 : l.stackTraces = false) (D : va_G) (tys : List (ClassId × FieldType)) {cI cE cG cM cS : ClassId} (htI : tys[0]? = some (cI, .int)) (htE : tys[3]? = some (cE, .object RX1)) (htM : tys[4]? = some (cM, .object RX2)) (htS : tys[5]? = some (cS, .object RX4)) (htG : tys[6]? = some (cG, .array .int)) (x0 q0 q1 : Nat) (qr : Nat → Nat) (ms es : Nat) (gE gM gB : Nat → Zp) (gT : Nat → Nat) (gG : Nat → Zp) (gN : Nat → Nat) (gK : Nat → Zp) (gD : Nat → Bool) (κ : Nat → EG) (hI : INV (ms, es, gE, gM, gB, gT, gG, gN, gK, gD) κ) (ev : Int) (r1 : r32 ev) (h9 : inB 0 (((es : Nat) : Int) - 1) ev = false) : CDo l D tys cI cE cG cM cS x0 q0 q1 qr xcp yX6_predict wsX6_predict [.int (jI ev)] (ms, es, gE, gM, gB, gT, gG, gN, gK, gD) κ (ms, es, gE, gM, gB, gT, gG, gN, gK, gD) 1 (jI 0) 2 12 := by
  obtain ⟨hms, hes, hIE, hIO⟩ := id hI
  exact (cd_ref (c_X6_predict1 l hl9 D tys htE x0 q0 q1 ms es (fE es κ) hes ev r1 h9) (cw_x) rfl hI (by decide) (by decide) (by decide) (by decide))
set_option maxHeartbeats 8000000 in
set_option maxRecDepth 100000 in
theorem d_predict0 (l : Launch) (hl9 : l.stackTraces = false) (D : va_G) (tys : List (ClassId × FieldType)) {cI cE cG cM cS : ClassId} (htI : tys[0]? = some (cI, .int)) (htE : tys[3]? = some (cE, .object RX1)) (htM : tys[4]? = some (cM, .object RX2)) (htS : tys[5]? = some (cS, .object RX4)) (htG : tys[6]? = some (cG, .array .int)) (x0 q0 q1 : Nat) (qr : Nat → Nat) (ms es : Nat) (gE gM gB : Nat → Zp) (gT : Nat → Nat) (gG : Nat → Zp) (gN : Nat → Nat) (gK : Nat → Zp) (gD : Nat → Bool) (κ : Nat → EG) (hI : INV (ms, es, gE, gM, gB, gT, gG, gN, gK, gD) κ) (ev : Nat) (hev : ev < es) (h20 : gT ev < 20) : CDo l D tys cI cE cG cM cS x0 q0 q1 qr xcp yX6_predict wsX6_predict [.int (jI ((ev : Nat) : Int))] (ms, es, gE, gM, gB, gT, gG, gN, gK, gD) κ (ms, es, gE, gM, gB, (va_up gT ev (gT ev + 1)), gG, gN, gK, gD) 0 (jI ((gT ev + 1 : Nat) : Int)) 2 12 := by
  obtain ⟨hms, hes, hIE, hIO⟩ := id hI
  obtain ⟨hset, hB, hN, hT, htm⟩ := hIE ev hev
  have hset2 : SEtl (fun i => gM (7 * ev + i)) ((κ ev).2.2.2.1 0) (fun k c => gK (6 * (30 * ev + k) + c)) (fun k => gD (30 * ev + k)) (gN ev) (gT ev + 1) (κ ev).2.1 (κ ev).2.2.1 (κ ev).2.2.2.1 (κ ev).2.2.2.2 := by rw [hB]; exact hset
  have he : ∀ u : (Nat → Nat → Zp) × (Nat → Bool) × (Nat → S5) × (Nat → S5), sW cM cS gM gG gK (va_up gT ev (gT ev + 1)) gN gD (va_up κ ev ((κ ev).1, u)) ev = estL cM cS (κ ev).1 (gN ev) (gT ev + 1) (gG ev) (fun i => gM (7 * ev + i)) (fun k c => gK (6 * (30 * ev + k) + c)) u.1 (fun k => gD (30 * ev + k)) u.2.1 u.2.2.1 u.2.2.2 := fun u => by
    unfold sW
    rw [up_s, up_s]
  have hs : ∀ (u : EG), ∀ e, e < es → e ≠ ev → sW cM cS gM gG gK (va_up gT ev (gT ev + 1)) gN gD (va_up κ ev u) e = sW cM cS gM gG gK gT gN gD κ e := fun u e _ hne => sW_c rfl (up_o _ _ hne) rfl (fun _ _ _ _ => rfl) (fun _ _ => rfl) (up_o _ _ hne)
  exact CtG.to ((c_X6_predict0 l hl9 D tys htE x0 q0 q1 ms es (fE es κ) hes htM htS ((κ ev).1) (gN ev) (gT ev) (gG ev) (fun i => gM (7 * ev + i)) (fun k c => gK (6 * (30 * ev + k) + c)) ((κ ev).2.1) (fun k => gD (30 * ev + k)) ((κ ev).2.2.1) ((κ ev).2.2.2.1) ((κ ev).2.2.2.2) hN hT ev hev (if_pos hev) hset2 htm h20).wide (by decide) (by decide) (by decide) (by decide)) (cw_es hev) (fun r u hq => ⟨va_up κ ev ((κ ev).1, u), ⟨rfl, hq.1, inv_put hev hI (fun e he => up_o _ _ he) (fun _ _ => rfl) (fun _ _ _ _ _ _ => rfl) (fun _ _ _ _ => rfl) ⟨by rw [up_s, ← hB]; exact hq.2.2, hq.2.1.trans hB, hN, by rw [up_s]; omega, fun k hk => by rw [up_s]; exact Nat.le_succ_of_le (htm k hk)⟩⟩, cw_put2 (gB := gB) hev rfl (he u) (hs _)⟩) (fun _ _ z => z.elim)

set_option maxHeartbeats 8000000 in
set_option maxRecDepth 100000 in
theorem d_measure1 (l : Launch) (hl9 : l.stackTraces = false) (D : va_G) (tys : List (ClassId × FieldType)) {cI cE cG cM cS : ClassId} (htI : tys[0]? = some (cI, .int)) (htE : tys[3]? = some (cE, .object RX1)) (htM : tys[4]? = some (cM, .object RX2)) (htS : tys[5]? = some (cS, .object RX4)) (htG : tys[6]? = some (cG, .array .int)) (x0 q0 q1 : Nat) (qr : Nat → Nat) (ms es : Nat) (gE gM gB : Nat → Zp) (gT : Nat → Nat) (gG : Nat → Zp) (gN : Nat → Nat) (gK : Nat → Zp) (gD : Nat → Bool) (κ : Nat → EG) (hI : INV (ms, es, gE, gM, gB, gT, gG, gN, gK, gD) κ) (ev h0 h1 zz rr : Int) (r1 : r32 ev) (r3 : r32 h0) (r4 : r32 h1) (r5 : r32 zz) (r6 : r32 rr) (h9 : inB 0 (((es : Nat) : Int) - 1) ev = false) : CDo l D tys cI cE cG cM cS x0 q0 q1 qr xc3 yX6_measure wsX6_measure [.int (jI ev), .int (jI h0), .int (jI h1), .int (jI zz), .int (jI rr)] (ms, es, gE, gM, gB, gT, gG, gN, gK, gD) κ (ms, es, gE, gM, gB, gT, gG, gN, gK, gD) 1 (jI 0) 7 42 := by
  obtain ⟨hms, hes, hIE, hIO⟩ := id hI
  exact (cd_ref (c_X6_measure1 l hl9 D tys htE x0 q0 q1 ms es (fE es κ) hes ev h0 h1 zz rr r1 h9) (cw_x) rfl hI (by decide) (by decide) (by decide) (by decide))
set_option maxHeartbeats 8000000 in
set_option maxRecDepth 100000 in
theorem d_measure2 (l : Launch) (hl9 : l.stackTraces = false) (D : va_G) (tys : List (ClassId × FieldType)) {cI cE cG cM cS : ClassId} (htI : tys[0]? = some (cI, .int)) (htE : tys[3]? = some (cE, .object RX1)) (htM : tys[4]? = some (cM, .object RX2)) (htS : tys[5]? = some (cS, .object RX4)) (htG : tys[6]? = some (cG, .array .int)) (x0 q0 q1 : Nat) (qr : Nat → Nat) (ms es : Nat) (gE gM gB : Nat → Zp) (gT : Nat → Nat) (gG : Nat → Zp) (gN : Nat → Nat) (gK : Nat → Zp) (gD : Nat → Bool) (κ : Nat → EG) (hI : INV (ms, es, gE, gM, gB, gT, gG, gN, gK, gD) κ) (ev : Nat) (hev : ev < es) (h0 h1 zz rr : Int) (r3 : r32 h0) (r4 : r32 h1) (r5 : r32 zz) (r6 : r32 rr) (h8 : ((inB 0 10006 h0) && ((inB 0 10006 h1) && ((inB 0 10006 zz) && (inB 0 10006 rr)))) = false) : CDo l D tys cI cE cG cM cS x0 q0 q1 qr xc3 yX6_measure wsX6_measure [.int (jI ((ev : Nat) : Int)), .int (jI h0), .int (jI h1), .int (jI zz), .int (jI rr)] (ms, es, gE, gM, gB, gT, gG, gN, gK, gD) κ (ms, es, gE, gM, gB, gT, gG, gN, gK, gD) 2 (jI 0) 7 42 := by
  obtain ⟨hms, hes, hIE, hIO⟩ := id hI
  obtain ⟨hset, hB, hN, hT, htm⟩ := hIE ev hev
  have hset2 : SEtl (fun i => gM (7 * ev + i)) ((κ ev).2.2.2.1 0) (fun k c => gK (6 * (30 * ev + k) + c)) (fun k => gD (30 * ev + k)) (gN ev) (gT ev + 1) (κ ev).2.1 (κ ev).2.2.1 (κ ev).2.2.2.1 (κ ev).2.2.2.2 := by rw [hB]; exact hset
  exact (cd_ref (c_X6_measure2 l hl9 D tys htE x0 q0 q1 ms es (fE es κ) hes ((κ ev).1 0) ((κ ev).1 1) ((κ ev).1 3) ((κ ev).1 4) ((κ ev).1 5) (gN ev) (gT ev) (gG ev) ev hev (if_pos hev) hT h0 h1 zz rr r3 r4 r5 r6 h8) (cw_eo hev) rfl hI (by decide) (by decide) (by decide) (by decide))
set_option maxHeartbeats 8000000 in
set_option maxRecDepth 100000 in
theorem d_measure4 (l : Launch) (hl9 : l.stackTraces = false) (D : va_G) (tys : List (ClassId × FieldType)) {cI cE cG cM cS : ClassId} (htI : tys[0]? = some (cI, .int)) (htE : tys[3]? = some (cE, .object RX1)) (htM : tys[4]? = some (cM, .object RX2)) (htS : tys[5]? = some (cS, .object RX4)) (htG : tys[6]? = some (cG, .array .int)) (x0 q0 q1 : Nat) (qr : Nat → Nat) (ms es : Nat) (gE gM gB : Nat → Zp) (gT : Nat → Nat) (gG : Nat → Zp) (gN : Nat → Nat) (gK : Nat → Zp) (gD : Nat → Bool) (κ : Nat → EG) (hI : INV (ms, es, gE, gM, gB, gT, gG, gN, gK, gD) κ) (ev : Nat) (hev : ev < es) (h0 h1 zz rr : Zp) (h30 : gN ev < 30) (hb : beh (fun i => gM (7 * ev + i)) (s5at gB ev) (fun k c => (told6 gK (6 * (30 * ev + gN ev)) (zc ((gT ev : Nat) : Int)) h0 h1 zz rr (gG ev)) (6 * (30 * ev + k) + c)) (fun k => gD (30 * ev + k)) ((va_up gN ev (gN ev + 1)) ev) (gT ev) = none) : CDo l D tys cI cE cG cM cS x0 q0 q1 qr xc3 yX6_measure wsX6_measure [.int (jI ((ev : Nat) : Int)), .int (vI h0), .int (vI h1), .int (vI zz), .int (vI rr)] (ms, es, gE, gM, gB, gT, gG, gN, gK, gD) κ (ms, es, gE, gM, gB, gT, gG, (va_up (va_up gN ev (gN ev + 1)) ev (gN ev)), (told6 gK (6 * (30 * ev + gN ev)) (zc ((gT ev : Nat) : Int)) h0 h1 zz rr (gG ev)), gD) 3 (jI 0) 7 42 := by
  obtain ⟨hms, hes, hIE, hIO⟩ := id hI
  obtain ⟨hset, hB, hN, hT, htm⟩ := hIE ev hev
  have hset2 : SEtl (fun i => gM (7 * ev + i)) ((κ ev).2.2.2.1 0) (fun k c => gK (6 * (30 * ev + k) + c)) (fun k => gD (30 * ev + k)) (gN ev) (gT ev + 1) (κ ev).2.1 (κ ev).2.2.1 (κ ev).2.2.2.1 (κ ev).2.2.2.2 := by rw [hB]; exact hset
  have httm : (zc ((gT ev : Nat) : Int)).val ≤ gT ev := by
    have e : zv (zc ((gT ev : Nat) : Int)) = ((gT ev : Nat) : Int) := by rw [zv_zc]; omega
    unfold zv at e; omega
  have hbe : beh (fun i => gM (7 * ev + i)) ((κ ev).2.2.2.1 0) (mUp (fun k c => gK (6 * (30 * ev + k) + c)) (gN ev) (m6 (zc ((gT ev : Nat) : Int)) h0 h1 zz rr (gG ev))) (fun k => gD (30 * ev + k)) (gN ev + 1) (gT ev) = beh (fun i => gM (7 * ev + i)) (s5at gB ev) (fun k c => (told6 gK (6 * (30 * ev + gN ev)) (zc ((gT ev : Nat) : Int)) h0 h1 zz rr (gG ev)) (6 * (30 * ev + k) + c)) (fun k => gD (30 * ev + k)) ((va_up gN ev (gN ev + 1)) ev) (gT ev) := by
    rw [hB, up_s]
    exact beh_c (fun _ _ => rfl) (fun j _ i hi => told_m j hi) (fun _ _ => rfl) _
  have he : ∀ u : (Nat → Nat → Zp) × (Nat → Bool) × (Nat → S5) × (Nat → S5), sW cM cS gM gG (told6 gK (6 * (30 * ev + gN ev)) (zc ((gT ev : Nat) : Int)) h0 h1 zz rr (gG ev)) gT (va_up (va_up gN ev (gN ev + 1)) ev (gN ev)) gD (va_up κ ev ((κ ev).1, u)) ev = estL cM cS (κ ev).1 (gN ev) (gT ev) (gG ev) (fun i => gM (7 * ev + i)) (mUp (fun k c => gK (6 * (30 * ev + k) + c)) (gN ev) (m6 (zc ((gT ev : Nat) : Int)) h0 h1 zz rr (gG ev))) u.1 (fun k => gD (30 * ev + k)) u.2.1 u.2.2.1 u.2.2.2 := fun u => by
      unfold sW
      rw [up_s, up_s]
      exact (estL_c (fun _ _ => rfl) (fun j _ i hi => told_m j hi) (fun _ _ => rfl)).symm
  have hs : ∀ (u : EG), ∀ e, e < es → e ≠ ev → sW cM cS gM gG (told6 gK (6 * (30 * ev + gN ev)) (zc ((gT ev : Nat) : Int)) h0 h1 zz rr (gG ev)) gT (va_up (va_up gN ev (gN ev + 1)) ev (gN ev)) gD (va_up κ ev u) e = sW cM cS gM gG gK gT gN gD κ e := fun u e _ hne => sW_c rfl rfl (by rw [up_o _ _ hne, up_o _ _ hne]) (fun k hk i hi => told_o (by omega)) (fun _ _ => rfl) (up_o _ _ hne)
  exact CtG.to ((c_X6_measure0 l hl9 D tys htE x0 q0 q1 ms es (fE es κ) hes htM htS ((κ ev).1) (gN ev) (gT ev) (gG ev) (fun i => gM (7 * ev + i)) (fun k c => gK (6 * (30 * ev + k) + c)) ((κ ev).2.1) (fun k => gD (30 * ev + k)) ((κ ev).2.2.1) ((κ ev).2.2.2.1) ((κ ev).2.2.2.2) hN hT ev hev (if_pos hev) hset2 h0 h1 zz rr h30).wide (by decide) (by decide) (by decide) (by decide)) (cw_es hev) (fun r u hq => by
      have hx := (hq.2.2.1 (gT ev) (Nat.lt_succ_self _)).2
      rw [hbe, hb] at hx
      cases hx) (fun E u hq => ⟨va_up κ ev ((κ ev).1, u), ⟨by rw [hq.1]; rfl, inv_put hev hI (fun _ _ => rfl) (fun e he => by rw [up_o _ _ he, up_o _ _ he]) (fun e he k hk i hi => told_o (by omega)) (fun _ _ _ _ => rfl) ⟨by rw [up_s, ← hB]; exact hq.2.2.2.cg (fun _ _ => rfl) (fun j _ i hi => told_m j hi) (fun _ _ => rfl), hq.2.2.1.trans hB, by rw [up_s]; omega, hT, fun k hk => by rw [up_s] at hk; rw [told_o (by omega)]; exact htm k hk⟩⟩, cw_put2 (gB := gB) hev rfl (he u) (hs _)⟩)

set_option maxHeartbeats 8000000 in
set_option maxRecDepth 100000 in
theorem d_measure0 (l : Launch) (hl9 : l.stackTraces = false) (D : va_G) (tys : List (ClassId × FieldType)) {cI cE cG cM cS : ClassId} (htI : tys[0]? = some (cI, .int)) (htE : tys[3]? = some (cE, .object RX1)) (htM : tys[4]? = some (cM, .object RX2)) (htS : tys[5]? = some (cS, .object RX4)) (htG : tys[6]? = some (cG, .array .int)) (x0 q0 q1 : Nat) (qr : Nat → Nat) (ms es : Nat) (gE gM gB : Nat → Zp) (gT : Nat → Nat) (gG : Nat → Zp) (gN : Nat → Nat) (gK : Nat → Zp) (gD : Nat → Bool) (κ : Nat → EG) (hI : INV (ms, es, gE, gM, gB, gT, gG, gN, gK, gD) κ) (ev : Nat) (hev : ev < es) (h0 h1 zz rr : Zp) (st : S5) (h30 : gN ev < 30) (hb : beh (fun i => gM (7 * ev + i)) (s5at gB ev) (fun k c => (told6 gK (6 * (30 * ev + gN ev)) (zc ((gT ev : Nat) : Int)) h0 h1 zz rr (gG ev)) (6 * (30 * ev + k) + c)) (fun k => gD (30 * ev + k)) ((va_up gN ev (gN ev + 1)) ev) (gT ev) = some st) : CDo l D tys cI cE cG cM cS x0 q0 q1 qr xc3 yX6_measure wsX6_measure [.int (jI ((ev : Nat) : Int)), .int (vI h0), .int (vI h1), .int (vI zz), .int (vI rr)] (ms, es, gE, gM, gB, gT, gG, gN, gK, gD) κ (ms, es, gE, gM, gB, gT, gG, (va_up (va_up gN ev (gN ev + 1)) ev (gN ev + 1)), (told6 gK (6 * (30 * ev + gN ev)) (zc ((gT ev : Nat) : Int)) h0 h1 zz rr (gG ev)), gD) 0 (jI ((gN ev : Nat) : Int)) 7 42 := by
  obtain ⟨hms, hes, hIE, hIO⟩ := id hI
  obtain ⟨hset, hB, hN, hT, htm⟩ := hIE ev hev
  have hset2 : SEtl (fun i => gM (7 * ev + i)) ((κ ev).2.2.2.1 0) (fun k c => gK (6 * (30 * ev + k) + c)) (fun k => gD (30 * ev + k)) (gN ev) (gT ev + 1) (κ ev).2.1 (κ ev).2.2.1 (κ ev).2.2.2.1 (κ ev).2.2.2.2 := by rw [hB]; exact hset
  have httm : (zc ((gT ev : Nat) : Int)).val ≤ gT ev := by
    have e : zv (zc ((gT ev : Nat) : Int)) = ((gT ev : Nat) : Int) := by rw [zv_zc]; omega
    unfold zv at e; omega
  have hbe : beh (fun i => gM (7 * ev + i)) ((κ ev).2.2.2.1 0) (mUp (fun k c => gK (6 * (30 * ev + k) + c)) (gN ev) (m6 (zc ((gT ev : Nat) : Int)) h0 h1 zz rr (gG ev))) (fun k => gD (30 * ev + k)) (gN ev + 1) (gT ev) = beh (fun i => gM (7 * ev + i)) (s5at gB ev) (fun k c => (told6 gK (6 * (30 * ev + gN ev)) (zc ((gT ev : Nat) : Int)) h0 h1 zz rr (gG ev)) (6 * (30 * ev + k) + c)) (fun k => gD (30 * ev + k)) ((va_up gN ev (gN ev + 1)) ev) (gT ev) := by
    rw [hB, up_s]
    exact beh_c (fun _ _ => rfl) (fun j _ i hi => told_m j hi) (fun _ _ => rfl) _
  have he : ∀ u : (Nat → Nat → Zp) × (Nat → Bool) × (Nat → S5) × (Nat → S5), sW cM cS gM gG (told6 gK (6 * (30 * ev + gN ev)) (zc ((gT ev : Nat) : Int)) h0 h1 zz rr (gG ev)) gT (va_up (va_up gN ev (gN ev + 1)) ev (gN ev + 1)) gD (va_up κ ev ((κ ev).1, u)) ev = estL cM cS (κ ev).1 (gN ev + 1) (gT ev) (gG ev) (fun i => gM (7 * ev + i)) (mUp (fun k c => gK (6 * (30 * ev + k) + c)) (gN ev) (m6 (zc ((gT ev : Nat) : Int)) h0 h1 zz rr (gG ev))) u.1 (fun k => gD (30 * ev + k)) u.2.1 u.2.2.1 u.2.2.2 := fun u => by
      unfold sW
      rw [up_s, up_s]
      exact (estL_c (fun _ _ => rfl) (fun j _ i hi => told_m j hi) (fun _ _ => rfl)).symm
  have hs : ∀ (u : EG), ∀ e, e < es → e ≠ ev → sW cM cS gM gG (told6 gK (6 * (30 * ev + gN ev)) (zc ((gT ev : Nat) : Int)) h0 h1 zz rr (gG ev)) gT (va_up (va_up gN ev (gN ev + 1)) ev (gN ev + 1)) gD (va_up κ ev u) e = sW cM cS gM gG gK gT gN gD κ e := fun u e _ hne => sW_c rfl rfl (by rw [up_o _ _ hne, up_o _ _ hne]) (fun k hk i hi => told_o (by omega)) (fun _ _ => rfl) (up_o _ _ hne)
  exact CtG.to ((c_X6_measure0 l hl9 D tys htE x0 q0 q1 ms es (fE es κ) hes htM htS ((κ ev).1) (gN ev) (gT ev) (gG ev) (fun i => gM (7 * ev + i)) (fun k c => gK (6 * (30 * ev + k) + c)) ((κ ev).2.1) (fun k => gD (30 * ev + k)) ((κ ev).2.2.1) ((κ ev).2.2.2.1) ((κ ev).2.2.2.2) hN hT ev hev (if_pos hev) hset2 h0 h1 zz rr h30).wide (by decide) (by decide) (by decide) (by decide)) (cw_es hev) (fun r u hq => ⟨va_up κ ev ((κ ev).1, u), ⟨rfl, hq.1, inv_put hev hI (fun _ _ => rfl) (fun e he => by rw [up_o _ _ he, up_o _ _ he]) (fun e he k hk i hi => told_o (by omega)) (fun _ _ _ _ => rfl) ⟨by rw [up_s, ← hB]; exact hq.2.2.cg (fun _ _ => rfl) (fun j _ i hi => told_m j hi) (fun _ _ => rfl), hq.2.1.trans hB, by rw [up_s]; omega, hT, fun k hk => by
      rw [up_s] at hk
      by_cases hkn : k = gN ev
      · rw [hkn, told_n (by omega)]; exact httm
      · rw [told_o (by omega)]; exact htm k (by omega)⟩⟩, cw_put2 (gB := gB) hev rfl (he u) (hs _)⟩) (fun E u hq => by
      have hx := hq.2.1
      rw [hbe, hb] at hx
      cases hx)

set_option maxHeartbeats 8000000 in
set_option maxRecDepth 100000 in
theorem d_late1 (l : Launch) (hl9 : l.stackTraces = false) (D : va_G) (tys : List (ClassId × FieldType)) {cI cE cG cM cS : ClassId} (htI : tys[0]? = some (cI, .int)) (htE : tys[3]? = some (cE, .object RX1)) (htM : tys[4]? = some (cM, .object RX2)) (htS : tys[5]? = some (cS, .object RX4)) (htG : tys[6]? = some (cG, .array .int)) (x0 q0 q1 : Nat) (qr : Nat → Nat) (ms es : Nat) (gE gM gB : Nat → Zp) (gT : Nat → Nat) (gG : Nat → Zp) (gN : Nat → Nat) (gK : Nat → Zp) (gD : Nat → Bool) (κ : Nat → EG) (hI : INV (ms, es, gE, gM, gB, gT, gG, gN, gK, gD) κ) (ev tt h0 h1 zz rr : Int) (r1 : r32 ev) (r2 : r32 tt) (r3 : r32 h0) (r4 : r32 h1) (r5 : r32 zz) (r6 : r32 rr) (h9 : inB 0 (((es : Nat) : Int) - 1) ev = false) : CDo l D tys cI cE cG cM cS x0 q0 q1 qr xc3 yX6_late wsX6_late [.int (jI ev), .int (jI tt), .int (jI h0), .int (jI h1), .int (jI zz), .int (jI rr)] (ms, es, gE, gM, gB, gT, gG, gN, gK, gD) κ (ms, es, gE, gM, gB, gT, gG, gN, gK, gD) 1 (jI 0) 7 42 := by
  obtain ⟨hms, hes, hIE, hIO⟩ := id hI
  exact (cd_ref (c_X6_late1 l hl9 D tys htE x0 q0 q1 ms es (fE es κ) hes ev tt h0 h1 zz rr r1 h9) (cw_x) rfl hI (by decide) (by decide) (by decide) (by decide))
set_option maxHeartbeats 8000000 in
set_option maxRecDepth 100000 in
theorem d_late2 (l : Launch) (hl9 : l.stackTraces = false) (D : va_G) (tys : List (ClassId × FieldType)) {cI cE cG cM cS : ClassId} (htI : tys[0]? = some (cI, .int)) (htE : tys[3]? = some (cE, .object RX1)) (htM : tys[4]? = some (cM, .object RX2)) (htS : tys[5]? = some (cS, .object RX4)) (htG : tys[6]? = some (cG, .array .int)) (x0 q0 q1 : Nat) (qr : Nat → Nat) (ms es : Nat) (gE gM gB : Nat → Zp) (gT : Nat → Nat) (gG : Nat → Zp) (gN : Nat → Nat) (gK : Nat → Zp) (gD : Nat → Bool) (κ : Nat → EG) (hI : INV (ms, es, gE, gM, gB, gT, gG, gN, gK, gD) κ) (ev : Nat) (hev : ev < es) (tt h0 h1 zz rr : Int) (r2 : r32 tt) (r3 : r32 h0) (r4 : r32 h1) (r5 : r32 zz) (r6 : r32 rr) (h8 : ((inB 0 ((gT ev : Nat) : Int) tt) && ((inB 0 10006 h0) && ((inB 0 10006 h1) && ((inB 0 10006 zz) && (inB 0 10006 rr))))) = false) : CDo l D tys cI cE cG cM cS x0 q0 q1 qr xc3 yX6_late wsX6_late [.int (jI ((ev : Nat) : Int)), .int (jI tt), .int (jI h0), .int (jI h1), .int (jI zz), .int (jI rr)] (ms, es, gE, gM, gB, gT, gG, gN, gK, gD) κ (ms, es, gE, gM, gB, gT, gG, gN, gK, gD) 2 (jI 0) 7 42 := by
  obtain ⟨hms, hes, hIE, hIO⟩ := id hI
  obtain ⟨hset, hB, hN, hT, htm⟩ := hIE ev hev
  have hset2 : SEtl (fun i => gM (7 * ev + i)) ((κ ev).2.2.2.1 0) (fun k c => gK (6 * (30 * ev + k) + c)) (fun k => gD (30 * ev + k)) (gN ev) (gT ev + 1) (κ ev).2.1 (κ ev).2.2.1 (κ ev).2.2.2.1 (κ ev).2.2.2.2 := by rw [hB]; exact hset
  exact (cd_ref (c_X6_late2 l hl9 D tys htE x0 q0 q1 ms es (fE es κ) hes ((κ ev).1 0) ((κ ev).1 1) ((κ ev).1 3) ((κ ev).1 4) ((κ ev).1 5) (gN ev) (gT ev) (gG ev) ev hev (if_pos hev) hT tt h0 h1 zz rr r2 r3 r4 r5 r6 h8) (cw_eo hev) rfl hI (by decide) (by decide) (by decide) (by decide))
set_option maxHeartbeats 8000000 in
set_option maxRecDepth 100000 in
theorem d_late4 (l : Launch) (hl9 : l.stackTraces = false) (D : va_G) (tys : List (ClassId × FieldType)) {cI cE cG cM cS : ClassId} (htI : tys[0]? = some (cI, .int)) (htE : tys[3]? = some (cE, .object RX1)) (htM : tys[4]? = some (cM, .object RX2)) (htS : tys[5]? = some (cS, .object RX4)) (htG : tys[6]? = some (cG, .array .int)) (x0 q0 q1 : Nat) (qr : Nat → Nat) (ms es : Nat) (gE gM gB : Nat → Zp) (gT : Nat → Nat) (gG : Nat → Zp) (gN : Nat → Nat) (gK : Nat → Zp) (gD : Nat → Bool) (κ : Nat → EG) (hI : INV (ms, es, gE, gM, gB, gT, gG, gN, gK, gD) κ) (ev : Nat) (hev : ev < es) (tt h0 h1 zz rr : Zp) (htt : zv tt ≤ ((gT ev : Nat) : Int)) (h30 : gN ev < 30) (hb : beh (fun i => gM (7 * ev + i)) (s5at gB ev) (fun k c => (told6 gK (6 * (30 * ev + gN ev)) tt h0 h1 zz rr (gG ev)) (6 * (30 * ev + k) + c)) (fun k => gD (30 * ev + k)) ((va_up gN ev (gN ev + 1)) ev) (gT ev) = none) : CDo l D tys cI cE cG cM cS x0 q0 q1 qr xc3 yX6_late wsX6_late [.int (jI ((ev : Nat) : Int)), .int (vI tt), .int (vI h0), .int (vI h1), .int (vI zz), .int (vI rr)] (ms, es, gE, gM, gB, gT, gG, gN, gK, gD) κ (ms, es, gE, gM, gB, gT, gG, (va_up (va_up gN ev (gN ev + 1)) ev (gN ev)), (told6 gK (6 * (30 * ev + gN ev)) tt h0 h1 zz rr (gG ev)), gD) 3 (jI 0) 7 42 := by
  obtain ⟨hms, hes, hIE, hIO⟩ := id hI
  obtain ⟨hset, hB, hN, hT, htm⟩ := hIE ev hev
  have hset2 : SEtl (fun i => gM (7 * ev + i)) ((κ ev).2.2.2.1 0) (fun k c => gK (6 * (30 * ev + k) + c)) (fun k => gD (30 * ev + k)) (gN ev) (gT ev + 1) (κ ev).2.1 (κ ev).2.2.1 (κ ev).2.2.2.1 (κ ev).2.2.2.2 := by rw [hB]; exact hset
  have httm : tt.val ≤ gT ev := by
    unfold zv at htt; omega
  have hbe : beh (fun i => gM (7 * ev + i)) ((κ ev).2.2.2.1 0) (mUp (fun k c => gK (6 * (30 * ev + k) + c)) (gN ev) (m6 tt h0 h1 zz rr (gG ev))) (fun k => gD (30 * ev + k)) (gN ev + 1) (gT ev) = beh (fun i => gM (7 * ev + i)) (s5at gB ev) (fun k c => (told6 gK (6 * (30 * ev + gN ev)) tt h0 h1 zz rr (gG ev)) (6 * (30 * ev + k) + c)) (fun k => gD (30 * ev + k)) ((va_up gN ev (gN ev + 1)) ev) (gT ev) := by
    rw [hB, up_s]
    exact beh_c (fun _ _ => rfl) (fun j _ i hi => told_m j hi) (fun _ _ => rfl) _
  have he : ∀ u : (Nat → Nat → Zp) × (Nat → Bool) × (Nat → S5) × (Nat → S5), sW cM cS gM gG (told6 gK (6 * (30 * ev + gN ev)) tt h0 h1 zz rr (gG ev)) gT (va_up (va_up gN ev (gN ev + 1)) ev (gN ev)) gD (va_up κ ev ((κ ev).1, u)) ev = estL cM cS (κ ev).1 (gN ev) (gT ev) (gG ev) (fun i => gM (7 * ev + i)) (mUp (fun k c => gK (6 * (30 * ev + k) + c)) (gN ev) (m6 tt h0 h1 zz rr (gG ev))) u.1 (fun k => gD (30 * ev + k)) u.2.1 u.2.2.1 u.2.2.2 := fun u => by
      unfold sW
      rw [up_s, up_s]
      exact (estL_c (fun _ _ => rfl) (fun j _ i hi => told_m j hi) (fun _ _ => rfl)).symm
  have hs : ∀ (u : EG), ∀ e, e < es → e ≠ ev → sW cM cS gM gG (told6 gK (6 * (30 * ev + gN ev)) tt h0 h1 zz rr (gG ev)) gT (va_up (va_up gN ev (gN ev + 1)) ev (gN ev)) gD (va_up κ ev u) e = sW cM cS gM gG gK gT gN gD κ e := fun u e _ hne => sW_c rfl rfl (by rw [up_o _ _ hne, up_o _ _ hne]) (fun k hk i hi => told_o (by omega)) (fun _ _ => rfl) (up_o _ _ hne)
  exact CtG.to ((c_X6_late0 l hl9 D tys htE x0 q0 q1 ms es (fE es κ) hes htM htS ((κ ev).1) (gN ev) (gT ev) (gG ev) (fun i => gM (7 * ev + i)) (fun k c => gK (6 * (30 * ev + k) + c)) ((κ ev).2.1) (fun k => gD (30 * ev + k)) ((κ ev).2.2.1) ((κ ev).2.2.2.1) ((κ ev).2.2.2.2) hN hT ev hev (if_pos hev) hset2 tt h0 h1 zz rr htt h30).wide (by decide) (by decide) (by decide) (by decide)) (cw_es hev) (fun r u hq => by
      have hx := (hq.2.2.1 (gT ev) (Nat.lt_succ_self _)).2
      rw [hbe, hb] at hx
      cases hx) (fun E u hq => ⟨va_up κ ev ((κ ev).1, u), ⟨by rw [hq.1]; rfl, inv_put hev hI (fun _ _ => rfl) (fun e he => by rw [up_o _ _ he, up_o _ _ he]) (fun e he k hk i hi => told_o (by omega)) (fun _ _ _ _ => rfl) ⟨by rw [up_s, ← hB]; exact hq.2.2.2.cg (fun _ _ => rfl) (fun j _ i hi => told_m j hi) (fun _ _ => rfl), hq.2.2.1.trans hB, by rw [up_s]; omega, hT, fun k hk => by rw [up_s] at hk; rw [told_o (by omega)]; exact htm k hk⟩⟩, cw_put2 (gB := gB) hev rfl (he u) (hs _)⟩)

set_option maxHeartbeats 8000000 in
set_option maxRecDepth 100000 in
theorem d_late0 (l : Launch) (hl9 : l.stackTraces = false) (D : va_G) (tys : List (ClassId × FieldType)) {cI cE cG cM cS : ClassId} (htI : tys[0]? = some (cI, .int)) (htE : tys[3]? = some (cE, .object RX1)) (htM : tys[4]? = some (cM, .object RX2)) (htS : tys[5]? = some (cS, .object RX4)) (htG : tys[6]? = some (cG, .array .int)) (x0 q0 q1 : Nat) (qr : Nat → Nat) (ms es : Nat) (gE gM gB : Nat → Zp) (gT : Nat → Nat) (gG : Nat → Zp) (gN : Nat → Nat) (gK : Nat → Zp) (gD : Nat → Bool) (κ : Nat → EG) (hI : INV (ms, es, gE, gM, gB, gT, gG, gN, gK, gD) κ) (ev : Nat) (hev : ev < es) (tt h0 h1 zz rr : Zp) (st : S5) (htt : zv tt ≤ ((gT ev : Nat) : Int)) (h30 : gN ev < 30) (hb : beh (fun i => gM (7 * ev + i)) (s5at gB ev) (fun k c => (told6 gK (6 * (30 * ev + gN ev)) tt h0 h1 zz rr (gG ev)) (6 * (30 * ev + k) + c)) (fun k => gD (30 * ev + k)) ((va_up gN ev (gN ev + 1)) ev) (gT ev) = some st) : CDo l D tys cI cE cG cM cS x0 q0 q1 qr xc3 yX6_late wsX6_late [.int (jI ((ev : Nat) : Int)), .int (vI tt), .int (vI h0), .int (vI h1), .int (vI zz), .int (vI rr)] (ms, es, gE, gM, gB, gT, gG, gN, gK, gD) κ (ms, es, gE, gM, gB, gT, gG, (va_up (va_up gN ev (gN ev + 1)) ev (gN ev + 1)), (told6 gK (6 * (30 * ev + gN ev)) tt h0 h1 zz rr (gG ev)), gD) 0 (jI ((gN ev : Nat) : Int)) 7 42 := by
  obtain ⟨hms, hes, hIE, hIO⟩ := id hI
  obtain ⟨hset, hB, hN, hT, htm⟩ := hIE ev hev
  have hset2 : SEtl (fun i => gM (7 * ev + i)) ((κ ev).2.2.2.1 0) (fun k c => gK (6 * (30 * ev + k) + c)) (fun k => gD (30 * ev + k)) (gN ev) (gT ev + 1) (κ ev).2.1 (κ ev).2.2.1 (κ ev).2.2.2.1 (κ ev).2.2.2.2 := by rw [hB]; exact hset
  have httm : tt.val ≤ gT ev := by
    unfold zv at htt; omega
  have hbe : beh (fun i => gM (7 * ev + i)) ((κ ev).2.2.2.1 0) (mUp (fun k c => gK (6 * (30 * ev + k) + c)) (gN ev) (m6 tt h0 h1 zz rr (gG ev))) (fun k => gD (30 * ev + k)) (gN ev + 1) (gT ev) = beh (fun i => gM (7 * ev + i)) (s5at gB ev) (fun k c => (told6 gK (6 * (30 * ev + gN ev)) tt h0 h1 zz rr (gG ev)) (6 * (30 * ev + k) + c)) (fun k => gD (30 * ev + k)) ((va_up gN ev (gN ev + 1)) ev) (gT ev) := by
    rw [hB, up_s]
    exact beh_c (fun _ _ => rfl) (fun j _ i hi => told_m j hi) (fun _ _ => rfl) _
  have he : ∀ u : (Nat → Nat → Zp) × (Nat → Bool) × (Nat → S5) × (Nat → S5), sW cM cS gM gG (told6 gK (6 * (30 * ev + gN ev)) tt h0 h1 zz rr (gG ev)) gT (va_up (va_up gN ev (gN ev + 1)) ev (gN ev + 1)) gD (va_up κ ev ((κ ev).1, u)) ev = estL cM cS (κ ev).1 (gN ev + 1) (gT ev) (gG ev) (fun i => gM (7 * ev + i)) (mUp (fun k c => gK (6 * (30 * ev + k) + c)) (gN ev) (m6 tt h0 h1 zz rr (gG ev))) u.1 (fun k => gD (30 * ev + k)) u.2.1 u.2.2.1 u.2.2.2 := fun u => by
      unfold sW
      rw [up_s, up_s]
      exact (estL_c (fun _ _ => rfl) (fun j _ i hi => told_m j hi) (fun _ _ => rfl)).symm
  have hs : ∀ (u : EG), ∀ e, e < es → e ≠ ev → sW cM cS gM gG (told6 gK (6 * (30 * ev + gN ev)) tt h0 h1 zz rr (gG ev)) gT (va_up (va_up gN ev (gN ev + 1)) ev (gN ev + 1)) gD (va_up κ ev u) e = sW cM cS gM gG gK gT gN gD κ e := fun u e _ hne => sW_c rfl rfl (by rw [up_o _ _ hne, up_o _ _ hne]) (fun k hk i hi => told_o (by omega)) (fun _ _ => rfl) (up_o _ _ hne)
  exact CtG.to ((c_X6_late0 l hl9 D tys htE x0 q0 q1 ms es (fE es κ) hes htM htS ((κ ev).1) (gN ev) (gT ev) (gG ev) (fun i => gM (7 * ev + i)) (fun k c => gK (6 * (30 * ev + k) + c)) ((κ ev).2.1) (fun k => gD (30 * ev + k)) ((κ ev).2.2.1) ((κ ev).2.2.2.1) ((κ ev).2.2.2.2) hN hT ev hev (if_pos hev) hset2 tt h0 h1 zz rr htt h30).wide (by decide) (by decide) (by decide) (by decide)) (cw_es hev) (fun r u hq => ⟨va_up κ ev ((κ ev).1, u), ⟨rfl, hq.1, inv_put hev hI (fun _ _ => rfl) (fun e he => by rw [up_o _ _ he, up_o _ _ he]) (fun e he k hk i hi => told_o (by omega)) (fun _ _ _ _ => rfl) ⟨by rw [up_s, ← hB]; exact hq.2.2.cg (fun _ _ => rfl) (fun j _ i hi => told_m j hi) (fun _ _ => rfl), hq.2.1.trans hB, by rw [up_s]; omega, hT, fun k hk => by
      rw [up_s] at hk
      by_cases hkn : k = gN ev
      · rw [hkn, told_n (by omega)]; exact httm
      · rw [told_o (by omega)]; exact htm k (by omega)⟩⟩, cw_put2 (gB := gB) hev rfl (he u) (hs _)⟩) (fun E u hq => by
      have hx := hq.2.1
      rw [hbe, hb] at hx
      cases hx)

set_option maxHeartbeats 8000000 in
set_option maxRecDepth 100000 in
theorem d_drop1 (l : Launch) (hl9 : l.stackTraces = false) (D : va_G) (tys : List (ClassId × FieldType)) {cI cE cG cM cS : ClassId} (htI : tys[0]? = some (cI, .int)) (htE : tys[3]? = some (cE, .object RX1)) (htM : tys[4]? = some (cM, .object RX2)) (htS : tys[5]? = some (cS, .object RX4)) (htG : tys[6]? = some (cG, .array .int)) (x0 q0 q1 : Nat) (qr : Nat → Nat) (ms es : Nat) (gE gM gB : Nat → Zp) (gT : Nat → Nat) (gG : Nat → Zp) (gN : Nat → Nat) (gK : Nat → Zp) (gD : Nat → Bool) (κ : Nat → EG) (hI : INV (ms, es, gE, gM, gB, gT, gG, gN, gK, gD) κ) (ev kv : Int) (r1 : r32 ev) (r2 : r32 kv) (h9 : inB 0 (((es : Nat) : Int) - 1) ev = false) : CDv l D tys cI cE cG cM cS x0 q0 q1 qr xcp yX6_drop wsX6_drop [.int (jI ev), .int (jI kv)] (ms, es, gE, gM, gB, gT, gG, gN, gK, gD) κ (ms, es, gE, gM, gB, gT, gG, gN, gK, gD) 1 3 18 := by
  obtain ⟨hms, hes, hIE, hIO⟩ := id hI
  exact (cd_refv (c_X6_drop1 l hl9 D tys htE x0 q0 q1 ms es (fE es κ) hes ev kv r1 h9) (cw_x) rfl hI (by decide) (by decide) (by decide) (by decide))
set_option maxHeartbeats 8000000 in
set_option maxRecDepth 100000 in
theorem d_drop2 (l : Launch) (hl9 : l.stackTraces = false) (D : va_G) (tys : List (ClassId × FieldType)) {cI cE cG cM cS : ClassId} (htI : tys[0]? = some (cI, .int)) (htE : tys[3]? = some (cE, .object RX1)) (htM : tys[4]? = some (cM, .object RX2)) (htS : tys[5]? = some (cS, .object RX4)) (htG : tys[6]? = some (cG, .array .int)) (x0 q0 q1 : Nat) (qr : Nat → Nat) (ms es : Nat) (gE gM gB : Nat → Zp) (gT : Nat → Nat) (gG : Nat → Zp) (gN : Nat → Nat) (gK : Nat → Zp) (gD : Nat → Bool) (κ : Nat → EG) (hI : INV (ms, es, gE, gM, gB, gT, gG, gN, gK, gD) κ) (ev : Nat) (hev : ev < es) (kv : Int) (r2 : r32 kv) (h7 : inB 0 (((gN ev : Nat) : Int) - 1) kv = false) : CDv l D tys cI cE cG cM cS x0 q0 q1 qr xcp yX6_drop wsX6_drop [.int (jI ((ev : Nat) : Int)), .int (jI kv)] (ms, es, gE, gM, gB, gT, gG, gN, gK, gD) κ (ms, es, gE, gM, gB, gT, gG, gN, gK, gD) 1 3 18 := by
  obtain ⟨hms, hes, hIE, hIO⟩ := id hI
  obtain ⟨hset, hB, hN, hT, htm⟩ := hIE ev hev
  have hset2 : SEtl (fun i => gM (7 * ev + i)) ((κ ev).2.2.2.1 0) (fun k c => gK (6 * (30 * ev + k) + c)) (fun k => gD (30 * ev + k)) (gN ev) (gT ev + 1) (κ ev).2.1 (κ ev).2.2.1 (κ ev).2.2.2.1 (κ ev).2.2.2.2 := by rw [hB]; exact hset
  exact (cd_refv (c_X6_drop2 l hl9 D tys htE x0 q0 q1 ms es (fE es κ) hes htM htS ((κ ev).1) (gN ev) (gT ev) (gG ev) (fun i => gM (7 * ev + i)) (fun k c => gK (6 * (30 * ev + k) + c)) ((κ ev).2.1) (fun k => gD (30 * ev + k)) ((κ ev).2.2.1) ((κ ev).2.2.2.1) ((κ ev).2.2.2.2) hN hT ev hev (if_pos hev) kv r2 h7) (cw_es hev) rfl hI (by decide) (by decide) (by decide) (by decide))
set_option maxHeartbeats 8000000 in
set_option maxRecDepth 100000 in
theorem d_drop3 (l : Launch) (hl9 : l.stackTraces = false) (D : va_G) (tys : List (ClassId × FieldType)) {cI cE cG cM cS : ClassId} (htI : tys[0]? = some (cI, .int)) (htE : tys[3]? = some (cE, .object RX1)) (htM : tys[4]? = some (cM, .object RX2)) (htS : tys[5]? = some (cS, .object RX4)) (htG : tys[6]? = some (cG, .array .int)) (x0 q0 q1 : Nat) (qr : Nat → Nat) (ms es : Nat) (gE gM gB : Nat → Zp) (gT : Nat → Nat) (gG : Nat → Zp) (gN : Nat → Nat) (gK : Nat → Zp) (gD : Nat → Bool) (κ : Nat → EG) (hI : INV (ms, es, gE, gM, gB, gT, gG, gN, gK, gD) κ) (ev : Nat) (hev : ev < es) (kv : Nat) (h7b : kv < gN ev) (hdr : gD (30 * ev + kv) = true) : CDv l D tys cI cE cG cM cS x0 q0 q1 qr xcp yX6_drop wsX6_drop [.int (jI ((ev : Nat) : Int)), .int (jI ((kv : Nat) : Int))] (ms, es, gE, gM, gB, gT, gG, gN, gK, gD) κ (ms, es, gE, gM, gB, gT, gG, gN, gK, gD) 2 3 18 := by
  obtain ⟨hms, hes, hIE, hIO⟩ := id hI
  obtain ⟨hset, hB, hN, hT, htm⟩ := hIE ev hev
  have hset2 : SEtl (fun i => gM (7 * ev + i)) ((κ ev).2.2.2.1 0) (fun k c => gK (6 * (30 * ev + k) + c)) (fun k => gD (30 * ev + k)) (gN ev) (gT ev + 1) (κ ev).2.1 (κ ev).2.2.1 (κ ev).2.2.2.1 (κ ev).2.2.2.2 := by rw [hB]; exact hset
  exact (cd_refv (c_X6_drop3 l hl9 D tys htE x0 q0 q1 ms es (fE es κ) hes htM htS ((κ ev).1) (gN ev) (gT ev) (gG ev) (fun i => gM (7 * ev + i)) (fun k c => gK (6 * (30 * ev + k) + c)) ((κ ev).2.1) (fun k => gD (30 * ev + k)) ((κ ev).2.2.1) ((κ ev).2.2.2.1) ((κ ev).2.2.2.2) hN hT ev hev (if_pos hev) kv h7b hdr) (cw_es hev) rfl hI (by decide) (by decide) (by decide) (by decide))
set_option maxHeartbeats 8000000 in
set_option maxRecDepth 100000 in
theorem d_drop4 (l : Launch) (hl9 : l.stackTraces = false) (D : va_G) (tys : List (ClassId × FieldType)) {cI cE cG cM cS : ClassId} (htI : tys[0]? = some (cI, .int)) (htE : tys[3]? = some (cE, .object RX1)) (htM : tys[4]? = some (cM, .object RX2)) (htS : tys[5]? = some (cS, .object RX4)) (htG : tys[6]? = some (cG, .array .int)) (x0 q0 q1 : Nat) (qr : Nat → Nat) (ms es : Nat) (gE gM gB : Nat → Zp) (gT : Nat → Nat) (gG : Nat → Zp) (gN : Nat → Nat) (gK : Nat → Zp) (gD : Nat → Bool) (κ : Nat → EG) (hI : INV (ms, es, gE, gM, gB, gT, gG, gN, gK, gD) κ) (ev : Nat) (hev : ev < es) (kv : Nat) (h7b : kv < gN ev) (hdr : gD (30 * ev + kv) = false) (hb : beh (fun i => gM (7 * ev + i)) (s5at gB ev) (fun k c => gK (6 * (30 * ev + k) + c)) (fun k => (va_up gD (30 * ev + kv) true) (30 * ev + k)) (gN ev) (gT ev) = none) : CDv l D tys cI cE cG cM cS x0 q0 q1 qr xcp yX6_drop wsX6_drop [.int (jI ((ev : Nat) : Int)), .int (jI ((kv : Nat) : Int))] (ms, es, gE, gM, gB, gT, gG, gN, gK, gD) κ (ms, es, gE, gM, gB, gT, gG, gN, gK, (va_up (va_up gD (30 * ev + kv) true) (30 * ev + kv) false)) 2 3 18 := by
  obtain ⟨hms, hes, hIE, hIO⟩ := id hI
  obtain ⟨hset, hB, hN, hT, htm⟩ := hIE ev hev
  have hset2 : SEtl (fun i => gM (7 * ev + i)) ((κ ev).2.2.2.1 0) (fun k c => gK (6 * (30 * ev + k) + c)) (fun k => gD (30 * ev + k)) (gN ev) (gT ev + 1) (κ ev).2.1 (κ ev).2.2.1 (κ ev).2.2.2.1 (κ ev).2.2.2.2 := by rw [hB]; exact hset
  have hbe : beh (fun i => gM (7 * ev + i)) ((κ ev).2.2.2.1 0) (fun k c => gK (6 * (30 * ev + k) + c)) (va_up (fun k => gD (30 * ev + k)) kv true) (gN ev) (gT ev) = beh (fun i => gM (7 * ev + i)) (s5at gB ev) (fun k c => gK (6 * (30 * ev + k) + c)) (fun k => (va_up gD (30 * ev + kv) true) (30 * ev + k)) (gN ev) (gT ev) := by
    rw [hB]
    exact beh_c (fun _ _ => rfl) (fun _ _ _ _ => rfl) (fun j _ => (drop_m j).symm) _
  have he : ∀ u : (Nat → Nat → Zp) × (Nat → Bool) × (Nat → S5) × (Nat → S5), sW cM cS gM gG gK gT gN (va_up (va_up gD (30 * ev + kv) true) (30 * ev + kv) false) (va_up κ ev ((κ ev).1, u)) ev = estL cM cS (κ ev).1 (gN ev) (gT ev) (gG ev) (fun i => gM (7 * ev + i)) (fun k c => gK (6 * (30 * ev + k) + c)) u.1 (fun k => gD (30 * ev + k)) u.2.1 u.2.2.1 u.2.2.2 := fun u => by
      unfold sW
      rw [up_s]
      exact estL_c (fun _ _ => rfl) (fun _ _ _ _ => rfl) (fun j _ => drop_m3 hdr j)
  have hs : ∀ (u : EG), ∀ e, e < es → e ≠ ev → sW cM cS gM gG gK gT gN (va_up (va_up gD (30 * ev + kv) true) (30 * ev + kv) false) (va_up κ ev u) e = sW cM cS gM gG gK gT gN gD κ e := fun u e _ hne => sW_c rfl rfl rfl (fun _ _ _ _ => rfl) (fun k hk => by rw [up_o _ _ (by omega), up_o _ _ (by omega)]) (up_o _ _ hne)
  exact CtG.toV ((c_X6_drop0 l hl9 D tys htE x0 q0 q1 ms es (fE es κ) hes htM htS ((κ ev).1) (gN ev) (gT ev) (gG ev) (fun i => gM (7 * ev + i)) (fun k c => gK (6 * (30 * ev + k) + c)) ((κ ev).2.1) (fun k => gD (30 * ev + k)) ((κ ev).2.2.1) ((κ ev).2.2.2.1) ((κ ev).2.2.2.2) hN hT ev hev (if_pos hev) hset2 kv h7b hdr).wide (by decide) (by decide) (by decide) (by decide)) (cw_es hev) (fun u hq => by
      have hx := (hq.2.1 (gT ev) (Nat.lt_succ_self _)).2
      rw [hbe, hb] at hx
      cases hx) (fun E u hq => ⟨va_up κ ev ((κ ev).1, u), ⟨by rw [hq.1]; rfl, inv_put hev hI (fun _ _ => rfl) (fun _ _ => rfl) (fun _ _ _ _ _ _ => rfl) (fun e he k hk => by rw [up_o _ _ (by omega), up_o _ _ (by omega)]) ⟨by rw [← hB]; exact hq.2.2.2.cg (fun _ _ => rfl) (fun _ _ _ _ => rfl) (fun j _ => (drop_m3 hdr j).symm), hq.2.2.1.trans hB, hN, hT, htm⟩⟩, cw_put2 (gB := gB) hev rfl (he u) (hs _)⟩)

set_option maxHeartbeats 8000000 in
set_option maxRecDepth 100000 in
theorem d_drop0 (l : Launch) (hl9 : l.stackTraces = false) (D : va_G) (tys : List (ClassId × FieldType)) {cI cE cG cM cS : ClassId} (htI : tys[0]? = some (cI, .int)) (htE : tys[3]? = some (cE, .object RX1)) (htM : tys[4]? = some (cM, .object RX2)) (htS : tys[5]? = some (cS, .object RX4)) (htG : tys[6]? = some (cG, .array .int)) (x0 q0 q1 : Nat) (qr : Nat → Nat) (ms es : Nat) (gE gM gB : Nat → Zp) (gT : Nat → Nat) (gG : Nat → Zp) (gN : Nat → Nat) (gK : Nat → Zp) (gD : Nat → Bool) (κ : Nat → EG) (hI : INV (ms, es, gE, gM, gB, gT, gG, gN, gK, gD) κ) (ev : Nat) (hev : ev < es) (kv : Nat) (st : S5) (h7b : kv < gN ev) (hdr : gD (30 * ev + kv) = false) (hb : beh (fun i => gM (7 * ev + i)) (s5at gB ev) (fun k c => gK (6 * (30 * ev + k) + c)) (fun k => (va_up gD (30 * ev + kv) true) (30 * ev + k)) (gN ev) (gT ev) = some st) : CDv l D tys cI cE cG cM cS x0 q0 q1 qr xcp yX6_drop wsX6_drop [.int (jI ((ev : Nat) : Int)), .int (jI ((kv : Nat) : Int))] (ms, es, gE, gM, gB, gT, gG, gN, gK, gD) κ (ms, es, gE, gM, gB, gT, gG, gN, gK, (va_up (va_up gD (30 * ev + kv) true) (30 * ev + kv) true)) 0 3 18 := by
  obtain ⟨hms, hes, hIE, hIO⟩ := id hI
  obtain ⟨hset, hB, hN, hT, htm⟩ := hIE ev hev
  have hset2 : SEtl (fun i => gM (7 * ev + i)) ((κ ev).2.2.2.1 0) (fun k c => gK (6 * (30 * ev + k) + c)) (fun k => gD (30 * ev + k)) (gN ev) (gT ev + 1) (κ ev).2.1 (κ ev).2.2.1 (κ ev).2.2.2.1 (κ ev).2.2.2.2 := by rw [hB]; exact hset
  have hbe : beh (fun i => gM (7 * ev + i)) ((κ ev).2.2.2.1 0) (fun k c => gK (6 * (30 * ev + k) + c)) (va_up (fun k => gD (30 * ev + k)) kv true) (gN ev) (gT ev) = beh (fun i => gM (7 * ev + i)) (s5at gB ev) (fun k c => gK (6 * (30 * ev + k) + c)) (fun k => (va_up gD (30 * ev + kv) true) (30 * ev + k)) (gN ev) (gT ev) := by
    rw [hB]
    exact beh_c (fun _ _ => rfl) (fun _ _ _ _ => rfl) (fun j _ => (drop_m j).symm) _
  have he : ∀ u : (Nat → Nat → Zp) × (Nat → Bool) × (Nat → S5) × (Nat → S5), sW cM cS gM gG gK gT gN (va_up (va_up gD (30 * ev + kv) true) (30 * ev + kv) true) (va_up κ ev ((κ ev).1, u)) ev = estL cM cS (κ ev).1 (gN ev) (gT ev) (gG ev) (fun i => gM (7 * ev + i)) (fun k c => gK (6 * (30 * ev + k) + c)) u.1 (va_up (fun k => gD (30 * ev + k)) kv true) u.2.1 u.2.2.1 u.2.2.2 := fun u => by
      unfold sW
      rw [up_s]
      exact estL_c (fun _ _ => rfl) (fun _ _ _ _ => rfl) (fun j _ => drop_m2 j)
  have hs : ∀ (u : EG), ∀ e, e < es → e ≠ ev → sW cM cS gM gG gK gT gN (va_up (va_up gD (30 * ev + kv) true) (30 * ev + kv) true) (va_up κ ev u) e = sW cM cS gM gG gK gT gN gD κ e := fun u e _ hne => sW_c rfl rfl rfl (fun _ _ _ _ => rfl) (fun k hk => by rw [up_o _ _ (by omega), up_o _ _ (by omega)]) (up_o _ _ hne)
  exact CtG.toV ((c_X6_drop0 l hl9 D tys htE x0 q0 q1 ms es (fE es κ) hes htM htS ((κ ev).1) (gN ev) (gT ev) (gG ev) (fun i => gM (7 * ev + i)) (fun k c => gK (6 * (30 * ev + k) + c)) ((κ ev).2.1) (fun k => gD (30 * ev + k)) ((κ ev).2.2.1) ((κ ev).2.2.2.1) ((κ ev).2.2.2.2) hN hT ev hev (if_pos hev) hset2 kv h7b hdr).wide (by decide) (by decide) (by decide) (by decide)) (cw_es hev) (fun u hq => ⟨va_up κ ev ((κ ev).1, u), ⟨rfl, inv_put hev hI (fun _ _ => rfl) (fun _ _ => rfl) (fun _ _ _ _ _ _ => rfl) (fun e he k hk => by rw [up_o _ _ (by omega), up_o _ _ (by omega)]) ⟨by rw [← hB]; exact hq.2.cg (fun _ _ => rfl) (fun _ _ _ _ => rfl) (fun j _ => (drop_m2 j).symm), hq.1.trans hB, hN, hT, htm⟩⟩, cw_put2 (gB := gB) hev rfl (he u) (hs _)⟩) (fun E u hq => by
      have hx := hq.2.1
      rw [hbe, hb] at hx
      cases hx)

set_option maxHeartbeats 8000000 in
set_option maxRecDepth 100000 in
theorem d_model0 (l : Launch) (hl9 : l.stackTraces = false) (D : va_G) (tys : List (ClassId × FieldType)) {cI cE cG cM cS : ClassId} (htI : tys[0]? = some (cI, .int)) (htE : tys[3]? = some (cE, .object RX1)) (htM : tys[4]? = some (cM, .object RX2)) (htS : tys[5]? = some (cS, .object RX4)) (htG : tys[6]? = some (cG, .array .int)) (x0 q0 q1 : Nat) (qr : Nat → Nat) (ms es : Nat) (gE gM gB : Nat → Zp) (gT : Nat → Nat) (gG : Nat → Zp) (gN : Nat → Nat) (gK : Nat → Zp) (gD : Nat → Bool) (κ : Nat → EG) (hI : INV (ms, es, gE, gM, gB, gT, gG, gN, gK, gD) κ)  (hm : ms < 6) : CDo l D tys cI cE cG cM cS x0 q0 q1 qr xcm yX6_model wsX6_model [] (ms, es, gE, gM, gB, gT, gG, gN, gK, gD) κ (ms + 1, es, (va_up (va_up gE (7 * ms + 0) 1) (7 * ms + 3) 1), gM, gB, gT, gG, gN, gK, gD) 0 (jI ((ms : Nat) : Int)) 1 6 := by
  obtain ⟨hms, hes, hIE, hIO⟩ := id hI
  exact CtG.to ((c_X6_modelK l hl9 D tys htI htG x0 q0 q1 ms es (fG qr) hms hes hm (qr ms) rfl (rowF gE ms)).wide (by decide) (by decide) (by decide) (by decide)) (cw_row hm) (fun r u hq => ⟨κ, ⟨rfl, hq, ⟨by omega, hes, hIE, hIO⟩⟩, cw_rput (gB := gB) hm (by rw [row_up (by omega), row_up (by omega)]) (fun i _ hi => by rw [row_o (by omega) hi, row_o (by omega) hi])⟩) (fun _ _ z => z.elim)

set_option maxHeartbeats 8000000 in
set_option maxRecDepth 100000 in
theorem d_entry1 (l : Launch) (hl9 : l.stackTraces = false) (D : va_G) (tys : List (ClassId × FieldType)) {cI cE cG cM cS : ClassId} (htI : tys[0]? = some (cI, .int)) (htE : tys[3]? = some (cE, .object RX1)) (htM : tys[4]? = some (cM, .object RX2)) (htS : tys[5]? = some (cS, .object RX4)) (htG : tys[6]? = some (cG, .array .int)) (x0 q0 q1 : Nat) (qr : Nat → Nat) (ms es : Nat) (gE gM gB : Nat → Zp) (gT : Nat → Nat) (gG : Nat → Zp) (gN : Nat → Nat) (gK : Nat → Zp) (gD : Nat → Bool) (κ : Nat → EG) (hI : INV (ms, es, gE, gM, gB, gT, gG, gN, gK, gD) κ) (mo wh it : Int) (r1 : r32 mo) (r2 : r32 wh) (r3 : r32 it) (h9 : inB 0 (((ms : Nat) : Int) - 1) mo = false) : CDo l D tys cI cE cG cM cS x0 q0 q1 qr xc2 yX6_entry wsX6_entry [.int (jI mo), .int (jI wh), .int (jI it)] (ms, es, gE, gM, gB, gT, gG, gN, gK, gD) κ (ms, es, gE, gM, gB, gT, gG, gN, gK, gD) 1 (jI 0) 3 18 := by
  obtain ⟨hms, hes, hIE, hIO⟩ := id hI
  exact (cd_ref (c_X6_entry1 l hl9 D tys htI htG x0 q0 q1 ms es (fG qr) hms hes mo wh it r1 h9) (cw_g) rfl hI (by decide) (by decide) (by decide) (by decide))
set_option maxHeartbeats 8000000 in
set_option maxRecDepth 100000 in
theorem d_entry2 (l : Launch) (hl9 : l.stackTraces = false) (D : va_G) (tys : List (ClassId × FieldType)) {cI cE cG cM cS : ClassId} (htI : tys[0]? = some (cI, .int)) (htE : tys[3]? = some (cE, .object RX1)) (htM : tys[4]? = some (cM, .object RX2)) (htS : tys[5]? = some (cS, .object RX4)) (htG : tys[6]? = some (cG, .array .int)) (x0 q0 q1 : Nat) (qr : Nat → Nat) (ms es : Nat) (gE gM gB : Nat → Zp) (gT : Nat → Nat) (gG : Nat → Zp) (gN : Nat → Nat) (gK : Nat → Zp) (gD : Nat → Bool) (κ : Nat → EG) (hI : INV (ms, es, gE, gM, gB, gT, gG, gN, gK, gD) κ) (mo : Nat) (wh it : Int) (hmo : mo < ms) (r2 : r32 wh) (r3 : r32 it) (h8 : ((inB 0 6 wh) && (inB 0 10006 it)) = false) : CDo l D tys cI cE cG cM cS x0 q0 q1 qr xc2 yX6_entry wsX6_entry [.int (jI ((mo : Nat) : Int)), .int (jI wh), .int (jI it)] (ms, es, gE, gM, gB, gT, gG, gN, gK, gD) κ (ms, es, gE, gM, gB, gT, gG, gN, gK, gD) 2 (jI 0) 3 18 := by
  obtain ⟨hms, hes, hIE, hIO⟩ := id hI
  exact (cd_ref (c_X6_entry2 l hl9 D tys htI htG x0 q0 q1 ms es (fG qr) hms hes mo hmo (qr mo) rfl wh it r2 r3 h8) (cw_g) rfl hI (by decide) (by decide) (by decide) (by decide))
set_option maxHeartbeats 8000000 in
set_option maxRecDepth 100000 in
theorem d_entry0 (l : Launch) (hl9 : l.stackTraces = false) (D : va_G) (tys : List (ClassId × FieldType)) {cI cE cG cM cS : ClassId} (htI : tys[0]? = some (cI, .int)) (htE : tys[3]? = some (cE, .object RX1)) (htM : tys[4]? = some (cM, .object RX2)) (htS : tys[5]? = some (cS, .object RX4)) (htG : tys[6]? = some (cG, .array .int)) (x0 q0 q1 : Nat) (qr : Nat → Nat) (ms es : Nat) (gE gM gB : Nat → Zp) (gT : Nat → Nat) (gG : Nat → Zp) (gN : Nat → Nat) (gK : Nat → Zp) (gD : Nat → Bool) (κ : Nat → EG) (hI : INV (ms, es, gE, gM, gB, gT, gG, gN, gK, gD) κ) (mo wh : Nat) (it : Zp) (hmo : mo < ms) (u0b : wh ≤ 6) : CDo l D tys cI cE cG cM cS x0 q0 q1 qr xc2 yX6_entry wsX6_entry [.int (jI ((mo : Nat) : Int)), .int (jI ((wh : Nat) : Int)), .int (vI it)] (ms, es, gE, gM, gB, gT, gG, gN, gK, gD) κ (ms, es, (va_up gE (7 * mo + wh) it), gM, gB, gT, gG, gN, gK, gD) 0 (vI (gE (7 * mo + wh))) 3 18 := by
  obtain ⟨hms, hes, hIE, hIO⟩ := id hI
  exact CtG.to ((c_X6_entry0 l hl9 D tys htI htG x0 q0 q1 ms es (fG qr) hms hes mo hmo (qr mo) rfl (rowF gE mo) wh it u0b).wide (by decide) (by decide) (by decide) (by decide)) (cw_row (by omega)) (fun r u hq => ⟨κ, ⟨rfl, by rw [hq]; unfold rowF; rw [if_pos (by omega)], ⟨hms, hes, hIE, hIO⟩⟩, cw_rput (gB := gB) (by omega) (row_up (by omega)) (fun i _ hi => row_o (by omega) hi)⟩) (fun _ _ z => z.elim)

set_option maxHeartbeats 8000000 in
set_option maxRecDepth 100000 in
theorem d_begin1 (l : Launch) (hl9 : l.stackTraces = false) (D : va_G) (tys : List (ClassId × FieldType)) {cI cE cG cM cS : ClassId} (htI : tys[0]? = some (cI, .int)) (htE : tys[3]? = some (cE, .object RX1)) (htM : tys[4]? = some (cM, .object RX2)) (htS : tys[5]? = some (cS, .object RX4)) (htG : tys[6]? = some (cG, .array .int)) (x0 q0 q1 : Nat) (qr : Nat → Nat) (ms es : Nat) (gE gM gB : Nat → Zp) (gT : Nat → Nat) (gG : Nat → Zp) (gN : Nat → Nat) (gK : Nat → Zp) (gD : Nat → Bool) (κ : Nat → EG) (hI : INV (ms, es, gE, gM, gB, gT, gG, gN, gK, gD) κ) (mo b1 b2 b3 b4 b5 : Int) (r1 : r32 mo) (r2 : r32 b1) (r3 : r32 b2) (r4 : r32 b3) (r5 : r32 b4) (r6 : r32 b5) (h9 : inB 0 (((ms : Nat) : Int) - 1) mo = false) : CDo l D tys cI cE cG cM cS x0 q0 q1 qr xc3 yX6_begin wsX6_begin [.int (jI mo), .int (jI b1), .int (jI b2), .int (jI b3), .int (jI b4), .int (jI b5)] (ms, es, gE, gM, gB, gT, gG, gN, gK, gD) κ (ms, es, gE, gM, gB, gT, gG, gN, gK, gD) 1 (jI 0) 228 867 := by
  obtain ⟨hms, hes, hIE, hIO⟩ := id hI
  exact (cd_ref (c_X6_begin1 l hl9 D tys htI htG x0 q0 q1 ms es (fG qr) hms hes mo b1 b2 b3 b4 b5 r1 h9) (cw_g) rfl hI (by decide) (by decide) (by decide) (by decide))
set_option maxHeartbeats 8000000 in
set_option maxRecDepth 100000 in
theorem d_begin2 (l : Launch) (hl9 : l.stackTraces = false) (D : va_G) (tys : List (ClassId × FieldType)) {cI cE cG cM cS : ClassId} (htI : tys[0]? = some (cI, .int)) (htE : tys[3]? = some (cE, .object RX1)) (htM : tys[4]? = some (cM, .object RX2)) (htS : tys[5]? = some (cS, .object RX4)) (htG : tys[6]? = some (cG, .array .int)) (x0 q0 q1 : Nat) (qr : Nat → Nat) (ms es : Nat) (gE gM gB : Nat → Zp) (gT : Nat → Nat) (gG : Nat → Zp) (gN : Nat → Nat) (gK : Nat → Zp) (gD : Nat → Bool) (κ : Nat → EG) (hI : INV (ms, es, gE, gM, gB, gT, gG, gN, gK, gD) κ) (mo : Nat) (b1 b2 b3 b4 b5 : Int) (hmo : mo < ms) (r2 : r32 b1) (r3 : r32 b2) (r4 : r32 b3) (r5 : r32 b4) (r6 : r32 b5) (h8 : ((inB 0 10006 b1) && ((inB 0 10006 b2) && ((inB 0 10006 b3) && ((inB 0 10006 b4) && (inB 0 10006 b5))))) = false) : CDo l D tys cI cE cG cM cS x0 q0 q1 qr xc3 yX6_begin wsX6_begin [.int (jI ((mo : Nat) : Int)), .int (jI b1), .int (jI b2), .int (jI b3), .int (jI b4), .int (jI b5)] (ms, es, gE, gM, gB, gT, gG, gN, gK, gD) κ (ms, es, gE, gM, gB, gT, gG, gN, gK, gD) 2 (jI 0) 228 867 := by
  obtain ⟨hms, hes, hIE, hIO⟩ := id hI
  exact (cd_ref (c_X6_begin2 l hl9 D tys htI htG x0 q0 q1 ms es (fG qr) hms hes mo hmo (qr mo) rfl b1 b2 b3 b4 b5 r2 r3 r4 r5 r6 h8) (cw_g) rfl hI (by decide) (by decide) (by decide) (by decide))
set_option maxHeartbeats 8000000 in
set_option maxRecDepth 100000 in
theorem d_begin0 (l : Launch) (hl9 : l.stackTraces = false) (D : va_G) (tys : List (ClassId × FieldType)) {cI cE cG cM cS : ClassId} (htI : tys[0]? = some (cI, .int)) (htE : tys[3]? = some (cE, .object RX1)) (htM : tys[4]? = some (cM, .object RX2)) (htS : tys[5]? = some (cS, .object RX4)) (htG : tys[6]? = some (cG, .array .int)) (x0 q0 q1 : Nat) (qr : Nat → Nat) (ms es : Nat) (gE gM gB : Nat → Zp) (gT : Nat → Nat) (gG : Nat → Zp) (gN : Nat → Nat) (gK : Nat → Zp) (gD : Nat → Bool) (κ : Nat → EG) (hI : INV (ms, es, gE, gM, gB, gT, gG, gN, gK, gD) κ) (mo : Nat) (b1 b2 b3 b4 b5 : Zp) (hmo : mo < ms) (hm : es < 6) : CDo l D tys cI cE cG cM cS x0 q0 q1 qr xc3 yX6_begin wsX6_begin [.int (jI ((mo : Nat) : Int)), .int (vI b1), .int (vI b2), .int (vI b3), .int (vI b4), .int (vI b5)] (ms, es, gE, gM, gB, gT, gG, gN, gK, gD) κ (ms, es + 1, gE, (put7 gM (7 * es) (fun i => gE (7 * mo + i))), (putB gB (5 * es) b1 b2 b3 b4 b5), gT, (va_up gG es 10006), gN, gK, gD) 0 (jI ((es : Nat) : Int)) 228 867 := by
  obtain ⟨hms, hes, hIE, hIO⟩ := id hI
  have hmo6 : mo < 6 := by omega
  obtain ⟨z1, z2, z3, z4⟩ := hIO es (Nat.le_refl _) hm
  have eM : ∀ i, i < 7 → rowF gE mo i = (put7 gM (7 * es) (fun i => gE (7 * mo + i))) (7 * es + i) := fun i hi => by
    rw [put7_n hi]
    unfold rowF
    rw [if_pos hi]
  have he : ∀ u : EG, estL cM cS u.1 0 0 10006 (rowF gE mo) zM u.2.1 zB u.2.2.1 u.2.2.2.1 u.2.2.2.2 = sW cM cS (put7 gM (7 * es) (fun i => gE (7 * mo + i))) (va_up gG es 10006) gK gT gN gD (va_up κ es u) es := fun u => by
    unfold sW
    rw [up_s, up_s, z1, z2]
    exact estL_c eM (fun k hk i hi => (z3 k hk i hi).symm) (fun k hk => (z4 k hk).symm)
  have hs : ∀ (u : EG) (k : Nat), k < es → sW cM cS (put7 gM (7 * es) (fun i => gE (7 * mo + i))) (va_up gG es 10006) gK gT gN gD (va_up κ es u) k = sW cM cS gM gG gK gT gN gD κ k := fun u k hk => sW_m (fun i hi => put7_o (by omega)) (up_o _ _ (by omega)) (up_o _ _ (by omega))
  have e6 : ((List.range 6).flatMap (xR cI qr gE)).Perm (((qr mo), .inl (cI, 7, .inl (fun i => vI (rowF gE mo i)))) :: (restI 6 [mo]).flatMap (xR cI qr gE)) := by
    have e := flat_pick (n := 6) (ks := [mo]) (xR cI qr gE) (by simp) (fun k h => by simp at h; omega)
    rw [List.flatMap_cons, List.flatMap_nil, List.append_nil] at e
    exact e
  have hp : ∀ u : EG, ((estL cM cS u.1 0 0 10006 (rowF gE mo) zM u.2.1 zB u.2.2.1 u.2.2.2.1 u.2.2.2.2 ++ [xO x0 q0 q1 ms (es + 1), xE cG q0 (fG qr), ((qr mo), .inl (cI, 7, .inl (fun i => vI (rowF gE mo i)))), xE cE q1 (va_up (fE es κ) es (some (u.1 0)))]) ++ ((restI 6 [mo]).flatMap (xR cI qr gE) ++ (List.range es).flatMap (sW cM cS gM gG gK gT gN gD κ))).Perm (CW cI cE cG cM cS x0 q0 q1 qr (ms, es + 1, gE, (put7 gM (7 * es) (fun i => gE (7 * mo + i))), (putB gB (5 * es) b1 b2 b3 b4 b5), gT, (va_up gG es 10006), gN, gK, gD) (va_up κ es u)) := fun u => by
    refine (perm_new e6).trans ?_
    have e7 : (List.range (es + 1)).flatMap (sW cM cS (put7 gM (7 * es) (fun i => gE (7 * mo + i))) (va_up gG es 10006) gK gT gN gD (va_up κ es u)) = (List.range es).flatMap (sW cM cS gM gG gK gT gN gD κ) ++ estL cM cS u.1 0 0 10006 (rowF gE mo) zM u.2.1 zB u.2.2.1 u.2.2.2.1 u.2.2.2.2 := by
      rw [he u]
      exact flat_grow (hs u)
    show List.Perm _ (xO x0 q0 q1 ms (es + 1) :: xE cG q0 (fG qr) :: xE cE q1 (fE (es + 1) (va_up κ es u)) :: ((List.range 6).flatMap (xR cI qr gE) ++ (List.range (es + 1)).flatMap (sW cM cS (put7 gM (7 * es) (fun i => gE (7 * mo + i))) (va_up gG es 10006) gK gT gN gD (va_up κ es u))))
    rw [e7, fE_new]
  have hi : ∀ u : EG, u.2.2.2.1 0 = ((b1, b2, b3, b4, b5) : S5) → SEtl (rowF gE mo) ((b1, b2, b3, b4, b5) : S5) zM zB 0 1 u.2.1 u.2.2.1 u.2.2.2.1 u.2.2.2.2 → INV (ms, es + 1, gE, (put7 gM (7 * es) (fun i => gE (7 * mo + i))), (putB gB (5 * es) b1 b2 b3 b4 b5), gT, (va_up gG es 10006), gN, gK, gD) (va_up κ es u) := fun u h1 h2 => by
    refine ⟨hms, hm, fun e he => ?_, fun e he he6 => hIO e (by omega) he6⟩
    by_cases hc : e = es
    · subst hc
      rw [up_s]
      refine ⟨?_, by rw [putB_n]; exact h1, by omega, by omega, fun k hk => by omega⟩
      rw [putB_n, z1, z2]
      exact h2.cg eM (fun j hj => absurd hj (Nat.not_lt_zero j)) (fun j hj => absurd hj (Nat.not_lt_zero j))
    · rw [up_o _ _ hc]
      exact IE_c (fun i hi => put7_o (by omega)) (putB_o hc) rfl rfl (fun _ _ _ _ => rfl) (fun _ _ => rfl) (hIE e (by omega))
  exact CtG.to ((c_X6_begin0 l hl9 D tys htI htG x0 q0 q1 ms es (fG qr) hms hes mo hmo (qr mo) rfl htE htM htS (fE es κ) (rowF gE mo) ((b1, b2, b3, b4, b5) : S5) hm).wide (by decide) (by decide) (by decide) (by decide)) (cw_row hmo6) (fun r u hq => ⟨va_up κ es u, ⟨rfl, hq.1, hi u hq.2.1 hq.2.2⟩, hp u⟩) (fun _ _ z => z.elim)
