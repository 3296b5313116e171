/-! both sides, call by call: what is asked, the rest -/
set_option maxHeartbeats 8000000 in
set_option maxRecDepth 100000 in
/--  -/
theorem st_gain (l : Launch) (hl9 : l.stackTraces = false) (D : va_G) (tys : List (ClassId × FieldType)) {cI cJ cZ cE cG cM cS : ClassId} (htI : tys[0]? = some (cI, .int)) (htJ : tys[1]? = some (cJ, .long)) (htZ : tys[2]? = some (cZ, .boolean)) (htE : tys[3]? = some (cE, .object RX1)) (htM : tys[4]? = some (cM, .object RX2)) (htS : tys[5]? = some (cS, .object RX4)) (htG : tys[6]? = some (cG, .array .int)) (m0 : Nat) (a : Nat → Nat) (x0 q0 q1 : Nat) (qr : Nat → Nat) (ms es : Nat) (gE gM gB : Nat → Zp) (gT : Nat → Nat) (gG : Nat → Zp) (gN : Nat → Nat) (gK : Nat → Zp) (gD : Nat → Bool) (κ : Nat → EG) (hI : INV (ms, es, gE, gM, gB, gT, gG, gN, gK, gD) κ) (ev h0 h1 rr wh : Int) (r1 : r32 ev) (r2 : r32 h0) (r3 : r32 h1) (r4 : r32 rr) (r5 : r32 wh) : ∃ (k : Nat) (v : Int32) (g' : SG), RDo l D tys cI cJ cZ m0 a yX7_gain wsX7_gain [.int (jI ev), .int (jI h0), .int (jI h1), .int (jI rr), .int (jI wh)] (ms, es, gE, gM, gB, gT, gG, gN, gK, gD) g' k v ∧ CDo l D tys cI cE cG cM cS x0 q0 q1 qr xc3 yX6_gain wsX6_gain [.int (jI ev), .int (jI h0), .int (jI h1), .int (jI rr), .int (jI wh)] (ms, es, gE, gM, gB, gT, gG, gN, gK, gD) κ g' k v := by
  obtain ⟨hms, hes, hIE, hIO⟩ := id hI
  by_cases h9 : inB 0 (((es : Nat) : Int) - 1) ev = true
  case neg =>
    rw [Bool.not_eq_true] at h9
    exact ⟨1, jI 0, (ms, es, gE, gM, gB, gT, gG, gN, gK, gD), ⟨by decide, fun th c => by
    obtain ⟨gH, gU, gF, gX, gW, gI, gP, gA, gR⟩ := c
    exact CtE.pl (c_X7_gain1 l D tys htI htJ htZ m0 a ms es th hms hes ev h0 h1 rr wh r1 r2 r3 r4 r5 h9).E (by decide) (by decide) [0] [1, 2, 3, 4, 5, 6, 7, 8, 9, 10, 11, 12, 13, 14, 15, 16, 17] rfl (show (List.range 18).Perm ([0] ++ [1, 2, 3, 4, 5, 6, 7, 8, 9, 10, 11, 12, 13, 14, 15, 16, 17]) by decide) (fun u => by obtain ⟨u1, u2, u3, u4, u5, u6, u7, u8, u9⟩ := u; rfl) (fun r u hq => ⟨(gH, gU, gF, gX, gW, gI, gP, gA, gR), hq, rfl, rfl⟩)⟩, (cd_ref (c_X6_gain1 l hl9 D tys htE x0 q0 q1 ms es (fE es κ) hes ev h0 h1 rr wh r1 h9) (cw_x) rfl hI (by decide) (by decide) (by decide) (by decide))⟩
  obtain ⟨ev, rfl, hev⟩ := in_nat1 h9
  obtain ⟨hset, hB, hN, hT, htm⟩ := hIE ev hev
  have hset2 : SEtl (fun i => gM (7 * ev + i)) ((κ ev).2.2.2.1 0) (fun k c => gK (6 * (30 * ev + k) + c)) (fun k => gD (30 * ev + k)) (gN ev) (gT ev + 1) (κ ev).2.1 (κ ev).2.2.1 (κ ev).2.2.2.1 (κ ev).2.2.2.2 := by rw [hB]; exact hset
  have hbeh : beh (fun i => gM (7 * ev + i)) (s5at gB ev) (fun k c => gK (6 * (30 * ev + k) + c)) (fun k => gD (30 * ev + k)) (gN ev) (gT ev) = some ((κ ev).2.2.2.2 (gT ev)) := (hset.1 (gT ev) (by omega)).2
  by_cases h8 : ((inB 0 10006 h0) && ((inB 0 10006 h1) && ((inB 0 10006 rr) && (inB 0 1 wh)))) = true
  case neg =>
    rw [Bool.not_eq_true] at h8
    exact ⟨2, jI 0, (ms, es, gE, gM, gB, gT, gG, gN, gK, gD), ⟨by decide, fun th c => by
    obtain ⟨gH, gU, gF, gX, gW, gI, gP, gA, gR⟩ := c
    exact CtE.pl (c_X7_gain2 l D tys htI htJ htZ m0 a ms es th hms hes ev h0 h1 rr wh hev r2 r3 r4 r5 h8).E (by decide) (by decide) [0] [1, 2, 3, 4, 5, 6, 7, 8, 9, 10, 11, 12, 13, 14, 15, 16, 17] rfl (show (List.range 18).Perm ([0] ++ [1, 2, 3, 4, 5, 6, 7, 8, 9, 10, 11, 12, 13, 14, 15, 16, 17]) by decide) (fun u => by obtain ⟨u1, u2, u3, u4, u5, u6, u7, u8, u9⟩ := u; rfl) (fun r u hq => ⟨(gH, gU, gF, gX, gW, gI, gP, gA, gR), hq, rfl, rfl⟩)⟩, (cd_ref (c_X6_gain2 l hl9 D tys htE x0 q0 q1 ms es (fE es κ) hes ev hev ((κ ev).1 0) (if_pos hev) h0 h1 rr wh r2 r3 r4 r5 h8) (cw_x) rfl hI (by decide) (by decide) (by decide) (by decide))⟩
  rw [Bool.and_eq_true] at h8
  obtain ⟨u0, h80⟩ := h8
  rw [Bool.and_eq_true] at h80
  obtain ⟨u1, h81⟩ := h80
  rw [Bool.and_eq_true] at h81
  obtain ⟨u2, u3⟩ := h81
  obtain ⟨h0, rfl⟩ := in_zp u0
  obtain ⟨h1, rfl⟩ := in_zp u1
  obtain ⟨rr, rfl⟩ := in_zp u2
  obtain ⟨wh, rfl, u3b⟩ := in_nat (n := 1) u3
  by_cases hs : mS (mrow h0 h1 rr) ((κ ev).2.2.2.2 (gT ev)) = 0
  · exact ⟨3, jI 0, (ms, es, gE, gM, gB, gT, gG, gN, gK, gD), ⟨by decide, fun th c => by
    obtain ⟨gH, gU, gF, gX, gW, gI, gP, gA, gR⟩ := c
    exact CtE.pl (c_X7_gain3 l D tys htI htJ htZ m0 a ms es th gM gB gT gN gK gD gH gU gF gX gW hms hes ev h0 h1 rr wh hev u3b hT hN ((κ ev).2.2.2.2 (gT ev)) hbeh hs) (by decide) (by decide) [0, 2, 3, 4, 6, 7, 8, 9, 10, 11, 12, 13] [1, 5, 14, 15, 16, 17] rfl (show (List.range 18).Perm ([0, 2, 3, 4, 6, 7, 8, 9, 10, 11, 12, 13] ++ [1, 5, 14, 15, 16, 17]) by decide) (fun u => by obtain ⟨u1, u2, u3, u4, u5, u6, u7, u8, u9⟩ := u; rfl) (fun r u hq => ⟨(u.1, u.2.1, u.2.2.1, u.2.2.2.1, u.2.2.2.2, gI, gP, gA, gR), hq.1, rfl, rfl⟩)⟩, (cd_ref (c_X6_gain3 l hl9 D tys htE x0 q0 q1 ms es (fE es κ) hes htM htS ((κ ev).1) (gN ev) (gT ev) (gG ev) (fun i => gM (7 * ev + i)) (fun k c => gK (6 * (30 * ev + k) + c)) ((κ ev).2.1) (fun k => gD (30 * ev + k)) ((κ ev).2.2.1) ((κ ev).2.2.2.1) ((κ ev).2.2.2.2) hN hT ev hev (if_pos hev) h0 h1 rr wh u3b hs) (cw_es hev) rfl hI (by decide) (by decide) (by decide) (by decide))⟩
  · exact ⟨0, gnR h0 h1 rr ((κ ev).2.2.2.2 (gT ev)) wh, (ms, es, gE, gM, gB, gT, gG, gN, gK, gD), ⟨by decide, fun th c => by
    obtain ⟨gH, gU, gF, gX, gW, gI, gP, gA, gR⟩ := c
    exact CtE.pl (c_X7_gain0 l D tys htI htJ htZ m0 a ms es th gM gB gT gN gK gD gH gU gF gX gW hms hes ev h0 h1 rr wh hev u3b hT hN ((κ ev).2.2.2.2 (gT ev)) hbeh hs) (by decide) (by decide) [0, 2, 3, 4, 6, 7, 8, 9, 10, 11, 12, 13] [1, 5, 14, 15, 16, 17] rfl (show (List.range 18).Perm ([0, 2, 3, 4, 6, 7, 8, 9, 10, 11, 12, 13] ++ [1, 5, 14, 15, 16, 17]) by decide) (fun u => by obtain ⟨u1, u2, u3, u4, u5, u6, u7, u8, u9⟩ := u; rfl) (fun r u hq => ⟨(u.1, u.2.1, u.2.2.1, u.2.2.2.1, u.2.2.2.2, gI, gP, gA, gR), hq.1, rfl, rfl⟩)⟩, (cd_ask (c_X6_gain0 l hl9 D tys htE x0 q0 q1 ms es (fE es κ) hes htM htS ((κ ev).1) (gN ev) (gT ev) (gG ev) (fun i => gM (7 * ev + i)) (fun k c => gK (6 * (30 * ev + k) + c)) ((κ ev).2.1) (fun k => gD (30 * ev + k)) ((κ ev).2.2.1) ((κ ev).2.2.2.1) ((κ ev).2.2.2.2) hN hT ev hev (if_pos hev) h0 h1 rr wh u3b hs) (cw_es hev) rfl hI (by decide) (by decide) (by decide) (by decide))⟩

set_option maxHeartbeats 8000000 in
set_option maxRecDepth 100000 in
/--  -/
theorem st_ofMeasurement (l : Launch) (hl9 : l.stackTraces = false) (D : va_G) (tys : List (ClassId × FieldType)) {cI cJ cZ cE cG cM cS : ClassId} (htI : tys[0]? = some (cI, .int)) (htJ : tys[1]? = some (cJ, .long)) (htZ : tys[2]? = some (cZ, .boolean)) (htE : tys[3]? = some (cE, .object RX1)) (htM : tys[4]? = some (cM, .object RX2)) (htS : tys[5]? = some (cS, .object RX4)) (htG : tys[6]? = some (cG, .array .int)) (m0 : Nat) (a : Nat → Nat) (x0 q0 q1 : Nat) (qr : Nat → Nat) (ms es : Nat) (gE gM gB : Nat → Zp) (gT : Nat → Nat) (gG : Nat → Zp) (gN : Nat → Nat) (gK : Nat → Zp) (gD : Nat → Bool) (κ : Nat → EG) (hI : INV (ms, es, gE, gM, gB, gT, gG, gN, gK, gD) κ) (ev kv wh : Int) (r1 : r32 ev) (r2 : r32 kv) (r3 : r32 wh) : ∃ (k : Nat) (v : Int32) (g' : SG), RDo l D tys cI cJ cZ m0 a yX7_ofMeasurement wsX7_ofMeasurement [.int (jI ev), .int (jI kv), .int (jI wh)] (ms, es, gE, gM, gB, gT, gG, gN, gK, gD) g' k v ∧ CDo l D tys cI cE cG cM cS x0 q0 q1 qr xc2 yX6_ofMeasurement wsX6_ofMeasurement [.int (jI ev), .int (jI kv), .int (jI wh)] (ms, es, gE, gM, gB, gT, gG, gN, gK, gD) κ g' k v := by
  obtain ⟨hms, hes, hIE, hIO⟩ := id hI
  by_cases h9 : inB 0 (((es : Nat) : Int) - 1) ev = true
  case neg =>
    rw [Bool.not_eq_true] at h9
    exact ⟨1, jI 0, (ms, es, gE, gM, gB, gT, gG, gN, gK, gD), ⟨by decide, fun th c => by
    obtain ⟨gH, gU, gF, gX, gW, gI, gP, gA, gR⟩ := c
    exact CtE.pl (c_X7_ofMeasurement1 l D tys htI htJ htZ m0 a ms es th gN hms hes ev kv wh r1 r2 r3 h9).E (by decide) (by decide) [0, 6] [1, 2, 3, 4, 5, 7, 8, 9, 10, 11, 12, 13, 14, 15, 16, 17] rfl (show (List.range 18).Perm ([0, 6] ++ [1, 2, 3, 4, 5, 7, 8, 9, 10, 11, 12, 13, 14, 15, 16, 17]) by decide) (fun u => by obtain ⟨u1, u2, u3, u4, u5, u6, u7, u8, u9⟩ := u; rfl) (fun r u hq => ⟨(gH, gU, gF, gX, gW, gI, gP, gA, gR), hq, rfl, rfl⟩)⟩, (cd_ref (c_X6_ofMeasurement1 l hl9 D tys htE x0 q0 q1 ms es (fE es κ) hes ev kv wh r1 h9) (cw_x) rfl hI (by decide) (by decide) (by decide) (by decide))⟩
  obtain ⟨ev, rfl, hev⟩ := in_nat1 h9
  obtain ⟨hset, hB, hN, hT, htm⟩ := hIE ev hev
  have hset2 : SEtl (fun i => gM (7 * ev + i)) ((κ ev).2.2.2.1 0) (fun k c => gK (6 * (30 * ev + k) + c)) (fun k => gD (30 * ev + k)) (gN ev) (gT ev + 1) (κ ev).2.1 (κ ev).2.2.1 (κ ev).2.2.2.1 (κ ev).2.2.2.2 := by rw [hB]; exact hset
  have hbeh : beh (fun i => gM (7 * ev + i)) (s5at gB ev) (fun k c => gK (6 * (30 * ev + k) + c)) (fun k => gD (30 * ev + k)) (gN ev) (gT ev) = some ((κ ev).2.2.2.2 (gT ev)) := (hset.1 (gT ev) (by omega)).2
  by_cases h7 : inB 0 (((gN ev : Nat) : Int) - 1) kv = true
  case neg =>
    rw [Bool.not_eq_true] at h7
    exact ⟨1, jI 0, (ms, es, gE, gM, gB, gT, gG, gN, gK, gD), ⟨by decide, fun th c => by
    obtain ⟨gH, gU, gF, gX, gW, gI, gP, gA, gR⟩ := c
    exact CtE.pl (c_X7_ofMeasurement2 l D tys htI htJ htZ m0 a ms es th gN hms hes ev kv wh hev r2 hN r3 h7).E (by decide) (by decide) [0, 6] [1, 2, 3, 4, 5, 7, 8, 9, 10, 11, 12, 13, 14, 15, 16, 17] rfl (show (List.range 18).Perm ([0, 6] ++ [1, 2, 3, 4, 5, 7, 8, 9, 10, 11, 12, 13, 14, 15, 16, 17]) by decide) (fun u => by obtain ⟨u1, u2, u3, u4, u5, u6, u7, u8, u9⟩ := u; rfl) (fun r u hq => ⟨(gH, gU, gF, gX, gW, gI, gP, gA, gR), hq, rfl, rfl⟩)⟩, (cd_ref (c_X6_ofMeasurement2 l hl9 D tys htE x0 q0 q1 ms es (fE es κ) hes htM htS ((κ ev).1) (gN ev) (gT ev) (gG ev) (fun i => gM (7 * ev + i)) (fun k c => gK (6 * (30 * ev + k) + c)) ((κ ev).2.1) (fun k => gD (30 * ev + k)) ((κ ev).2.2.1) ((κ ev).2.2.2.1) ((κ ev).2.2.2.2) hN hT ev hev (if_pos hev) kv wh r2 r3 h7) (cw_es hev) rfl hI (by decide) (by decide) (by decide) (by decide))⟩
  obtain ⟨kv, rfl, h7b⟩ := in_nat1 h7
  by_cases h8 : (inB 0 4 wh) = true
  case neg =>
    rw [Bool.not_eq_true] at h8
    exact ⟨2, jI 0, (ms, es, gE, gM, gB, gT, gG, gN, gK, gD), ⟨by decide, fun th c => by
    obtain ⟨gH, gU, gF, gX, gW, gI, gP, gA, gR⟩ := c
    exact CtE.pl (c_X7_ofMeasurement3 l D tys htI htJ htZ m0 a ms es th gN hms hes ev kv wh hev hN h7b r3 h8).E (by decide) (by decide) [0, 6] [1, 2, 3, 4, 5, 7, 8, 9, 10, 11, 12, 13, 14, 15, 16, 17] rfl (show (List.range 18).Perm ([0, 6] ++ [1, 2, 3, 4, 5, 7, 8, 9, 10, 11, 12, 13, 14, 15, 16, 17]) by decide) (fun u => by obtain ⟨u1, u2, u3, u4, u5, u6, u7, u8, u9⟩ := u; rfl) (fun r u hq => ⟨(gH, gU, gF, gX, gW, gI, gP, gA, gR), hq, rfl, rfl⟩)⟩, (cd_ref (c_X6_ofMeasurement3 l hl9 D tys htE x0 q0 q1 ms es (fE es κ) hes htM htS ((κ ev).1) (gN ev) (gT ev) (gG ev) (fun i => gM (7 * ev + i)) (fun k c => gK (6 * (30 * ev + k) + c)) ((κ ev).2.1) (fun k => gD (30 * ev + k)) ((κ ev).2.2.1) ((κ ev).2.2.2.1) ((κ ev).2.2.2.2) hN hT ev hev (if_pos hev) kv wh h7b r3 h8) (cw_es hev) rfl hI (by decide) (by decide) (by decide) (by decide))⟩
  obtain ⟨wh, rfl, h8b⟩ := in_nat (n := 4) h8
  refine ⟨0, omA (gK (6 * (30 * ev + kv))) (gD (30 * ev + kv)) (fun c => gK (6 * (30 * ev + kv) + c)) (bef (fun i => gM (7 * ev + i)) (s5at gB ev) (fun k c => gK (6 * (30 * ev + k) + c)) (fun k => gD (30 * ev + k)) (gN ev) kv) wh, (ms, es, gE, gM, gB, gT, gG, gN, gK, gD), ⟨by decide, fun th c => by
    obtain ⟨gH, gU, gF, gX, gW, gI, gP, gA, gR⟩ := c
    exact CtE.pl (c_X7_ofMeasurement0 l D tys htI htJ htZ m0 a ms es th gM gB gT gN gK gD gH gU gF gX gW hms hes ev kv wh hev h7b h8b hT hN htm ((κ ev).2.2.2.2 (gT ev)) hbeh) (by decide) (by decide) [0, 2, 3, 4, 6, 7, 8, 9, 10, 11, 12, 13] [1, 5, 14, 15, 16, 17] rfl (show (List.range 18).Perm ([0, 2, 3, 4, 6, 7, 8, 9, 10, 11, 12, 13] ++ [1, 5, 14, 15, 16, 17]) by decide) (fun u => by obtain ⟨u1, u2, u3, u4, u5, u6, u7, u8, u9⟩ := u; rfl) (fun r u hq => ⟨(u.1, u.2.1, u.2.2.1, u.2.2.2.1, u.2.2.2.2, gI, gP, gA, gR), hq.1, rfl, rfl⟩)⟩, ?_⟩
  by_cases w0 : wh = 0
  · subst w0
    exact (cd_ask (c_X6_ofMeasurement0_0 l hl9 D tys htE x0 q0 q1 ms es (fE es κ) hes htM htS ((κ ev).1) (gN ev) (gT ev) (gG ev) (fun i => gM (7 * ev + i)) (fun k c => gK (6 * (30 * ev + k) + c)) ((κ ev).2.1) (fun k => gD (30 * ev + k)) ((κ ev).2.2.1) ((κ ev).2.2.2.1) ((κ ev).2.2.2.2) hN hT ev hev (if_pos hev) kv h7b) (cw_es hev) rfl hI (by decide) (by decide) (by decide) (by decide))
  by_cases hdr : gD (30 * ev + kv) = true
  · exact (cd_ask (c_X6_ofMeasurement0_d l hl9 D tys htE x0 q0 q1 ms es (fE es κ) hes htM htS ((κ ev).1) (gN ev) (gT ev) (gG ev) (fun i => gM (7 * ev + i)) (fun k c => gK (6 * (30 * ev + k) + c)) ((κ ev).2.1) (fun k => gD (30 * ev + k)) ((κ ev).2.2.1) ((κ ev).2.2.2.1) ((κ ev).2.2.2.2) hN hT ev hev (if_pos hev) kv h7b wh (by omega) h8b hdr) (cw_es hev) (by unfold omA; rw [if_neg w0, if_pos hdr]) hI (by decide) (by decide) (by decide) (by decide))
  rw [Bool.not_eq_true] at hdr
  obtain ⟨q, hb, y2, y3, y4, yg⟩ := hset.2 kv h7b hdr (Nat.lt_succ_of_le (htm kv h7b))
  have eo : omA (gK (6 * (30 * ev + kv))) (gD (30 * ev + kv)) (fun c => gK (6 * (30 * ev + kv) + c)) (bef (fun i => gM (7 * ev + i)) (s5at gB ev) (fun k c => gK (6 * (30 * ev + k) + c)) (fun k => gD (30 * ev + k)) (gN ev) kv) wh = omR (fun c => gK (6 * (30 * ev + kv) + c)) q wh := by
    unfold omA
    rw [if_neg w0, if_neg (by rw [hdr]; decide), hb]
  rw [eo]
  by_cases w : wh = 1
  · subst w
    exact (cd_ask (c_X6_ofMeasurement0_1 l hl9 D tys htE x0 q0 q1 ms es (fE es κ) hes htM htS ((κ ev).1) (gN ev) (gT ev) (gG ev) (fun i => gM (7 * ev + i)) (fun k c => gK (6 * (30 * ev + k) + c)) ((κ ev).2.1) (fun k => gD (30 * ev + k)) ((κ ev).2.2.1) ((κ ev).2.2.2.1) ((κ ev).2.2.2.2) hN hT ev hev (if_pos hev) kv h7b hdr) (cw_es hev) (by rw [y2]; rfl) hI (by decide) (by decide) (by decide) (by decide))
  by_cases w : wh = 2
  · subst w
    exact (cd_ask (c_X6_ofMeasurement0_2 l hl9 D tys htE x0 q0 q1 ms es (fE es κ) hes htM htS ((κ ev).1) (gN ev) (gT ev) (gG ev) (fun i => gM (7 * ev + i)) (fun k c => gK (6 * (30 * ev + k) + c)) ((κ ev).2.1) (fun k => gD (30 * ev + k)) ((κ ev).2.2.1) ((κ ev).2.2.2.1) ((κ ev).2.2.2.2) hN hT ev hev (if_pos hev) kv h7b hdr) (cw_es hev) (by rw [y3]; rfl) hI (by decide) (by decide) (by decide) (by decide))
  by_cases w : wh = 3
  · subst w
    exact (cd_ask (c_X6_ofMeasurement0_3 l hl9 D tys htE x0 q0 q1 ms es (fE es κ) hes htM htS ((κ ev).1) (gN ev) (gT ev) (gG ev) (fun i => gM (7 * ev + i)) (fun k c => gK (6 * (30 * ev + k) + c)) ((κ ev).2.1) (fun k => gD (30 * ev + k)) ((κ ev).2.2.1) ((κ ev).2.2.2.1) ((κ ev).2.2.2.2) hN hT ev hev (if_pos hev) kv h7b hdr) (cw_es hev) (by rw [y4]; rfl) hI (by decide) (by decide) (by decide) (by decide))
  have w : wh = 4 := by omega
  subst w
  by_cases hgt : (κ ev).2.2.1 kv = true
  · exact (cd_ask (c_X6_ofMeasurement0_4t l hl9 D tys htE x0 q0 q1 ms es (fE es κ) hes htM htS ((κ ev).1) (gN ev) (gT ev) (gG ev) (fun i => gM (7 * ev + i)) (fun k c => gK (6 * (30 * ev + k) + c)) ((κ ev).2.1) (fun k => gD (30 * ev + k)) ((κ ev).2.2.1) ((κ ev).2.2.2.1) ((κ ev).2.2.2.2) hN hT ev hev (if_pos hev) kv h7b hdr hgt) (cw_es hev) (by rw [yg]; rfl) hI (by decide) (by decide) (by decide) (by decide))
  · rw [Bool.not_eq_true] at hgt
    exact (cd_ask (c_X6_ofMeasurement0_4f l hl9 D tys htE x0 q0 q1 ms es (fE es κ) hes htM htS ((κ ev).1) (gN ev) (gT ev) (gG ev) (fun i => gM (7 * ev + i)) (fun k c => gK (6 * (30 * ev + k) + c)) ((κ ev).2.1) (fun k => gD (30 * ev + k)) ((κ ev).2.2.1) ((κ ev).2.2.2.1) ((κ ev).2.2.2.2) hN hT ev hev (if_pos hev) kv h7b hdr hgt) (cw_es hev) (by rw [yg]; rfl) hI (by decide) (by decide) (by decide) (by decide))

set_option maxHeartbeats 8000000 in
set_option maxRecDepth 100000 in
/--  -/
theorem st_smoothed (l : Launch) (hl9 : l.stackTraces = false) (D : va_G) (tys : List (ClassId × FieldType)) {cI cJ cZ cE cG cM cS : ClassId} (htI : tys[0]? = some (cI, .int)) (htJ : tys[1]? = some (cJ, .long)) (htZ : tys[2]? = some (cZ, .boolean)) (htE : tys[3]? = some (cE, .object RX1)) (htM : tys[4]? = some (cM, .object RX2)) (htS : tys[5]? = some (cS, .object RX4)) (htG : tys[6]? = some (cG, .array .int)) (m0 : Nat) (a : Nat → Nat) (x0 q0 q1 : Nat) (qr : Nat → Nat) (ms es : Nat) (gE gM gB : Nat → Zp) (gT : Nat → Nat) (gG : Nat → Zp) (gN : Nat → Nat) (gK : Nat → Zp) (gD : Nat → Bool) (κ : Nat → EG) (hI : INV (ms, es, gE, gM, gB, gT, gG, gN, gK, gD) κ) (ev at_ wh : Int) (r1 : r32 ev) (r2 : r32 at_) (r3 : r32 wh) : ∃ (k : Nat) (v : Int32) (g' : SG), RDo l D tys cI cJ cZ m0 a yX7_smoothed wsX7_smoothed [.int (jI ev), .int (jI at_), .int (jI wh)] (ms, es, gE, gM, gB, gT, gG, gN, gK, gD) g' k v ∧ CDo l D tys cI cE cG cM cS x0 q0 q1 qr xc3 yX6_smoothed wsX6_smoothed [.int (jI ev), .int (jI at_), .int (jI wh)] (ms, es, gE, gM, gB, gT, gG, gN, gK, gD) κ g' k v := by
  obtain ⟨hms, hes, hIE, hIO⟩ := id hI
  by_cases h9 : inB 0 (((es : Nat) : Int) - 1) ev = true
  case neg =>
    rw [Bool.not_eq_true] at h9
    exact ⟨1, jI 0, (ms, es, gE, gM, gB, gT, gG, gN, gK, gD), ⟨by decide, fun th c => by
    obtain ⟨gH, gU, gF, gX, gW, gI, gP, gA, gR⟩ := c
    exact CtE.pl (c_X7_smoothed1 l D tys htI htJ htZ m0 a ms es th gW hms hes ev at_ wh r1 r2 r3 h9).E (by decide) (by decide) [0, 13] [1, 2, 3, 4, 5, 6, 7, 8, 9, 10, 11, 12, 14, 15, 16, 17] rfl (show (List.range 18).Perm ([0, 13] ++ [1, 2, 3, 4, 5, 6, 7, 8, 9, 10, 11, 12, 14, 15, 16, 17]) by decide) (fun u => by obtain ⟨u1, u2, u3, u4, u5, u6, u7, u8, u9⟩ := u; rfl) (fun r u hq => ⟨(gH, gU, gF, gX, gW, gI, gP, gA, gR), hq, rfl, rfl⟩)⟩, (cd_ref (c_X6_smoothed1 l hl9 D tys htE x0 q0 q1 ms es (fE es κ) hes ev at_ wh r1 h9) (cw_x) rfl hI (by decide) (by decide) (by decide) (by decide))⟩
  obtain ⟨ev, rfl, hev⟩ := in_nat1 h9
  obtain ⟨hset, hB, hN, hT, htm⟩ := hIE ev hev
  have hset2 : SEtl (fun i => gM (7 * ev + i)) ((κ ev).2.2.2.1 0) (fun k c => gK (6 * (30 * ev + k) + c)) (fun k => gD (30 * ev + k)) (gN ev) (gT ev + 1) (κ ev).2.1 (κ ev).2.2.1 (κ ev).2.2.2.1 (κ ev).2.2.2.2 := by rw [hB]; exact hset
  have hbeh : beh (fun i => gM (7 * ev + i)) (s5at gB ev) (fun k c => gK (6 * (30 * ev + k) + c)) (fun k => gD (30 * ev + k)) (gN ev) (gT ev) = some ((κ ev).2.2.2.2 (gT ev)) := (hset.1 (gT ev) (by omega)).2
  by_cases h8 : ((inB 0 ((gT ev : Nat) : Int) at_) && (inB 0 1 wh)) = true
  case neg =>
    rw [Bool.not_eq_true] at h8
    exact ⟨2, jI 0, (ms, es, gE, gM, gB, gT, gG, gN, gK, gD), ⟨by decide, fun th c => by
    obtain ⟨gH, gU, gF, gX, gW, gI, gP, gA, gR⟩ := c
    exact CtE.pl (c_X7_smoothed2 l D tys htI htJ htZ m0 a ms es th gT gW hms hes ev at_ wh hev r2 r3 hT h8).E (by decide) (by decide) [0, 4, 13] [1, 2, 3, 5, 6, 7, 8, 9, 10, 11, 12, 14, 15, 16, 17] rfl (show (List.range 18).Perm ([0, 4, 13] ++ [1, 2, 3, 5, 6, 7, 8, 9, 10, 11, 12, 14, 15, 16, 17]) by decide) (fun u => by obtain ⟨u1, u2, u3, u4, u5, u6, u7, u8, u9⟩ := u; rfl) (fun r u hq => ⟨(gH, gU, gF, gX, gW, gI, gP, gA, gR), hq, rfl, rfl⟩)⟩, (cd_ref (c_X6_smoothed2 l hl9 D tys htE x0 q0 q1 ms es (fE es κ) hes ((κ ev).1 0) ((κ ev).1 1) ((κ ev).1 3) ((κ ev).1 4) ((κ ev).1 5) (gN ev) (gT ev) (gG ev) ev hev (if_pos hev) hT at_ wh r2 r3 h8) (cw_eo hev) rfl hI (by decide) (by decide) (by decide) (by decide))⟩
  rw [Bool.and_eq_true] at h8
  obtain ⟨u0, u1⟩ := h8
  obtain ⟨at_, rfl, u0b⟩ := in_nat (n := (gT ev)) u0
  obtain ⟨wh, rfl, u1b⟩ := in_nat (n := 1) u1
  have es0 : smo (fun i => gM (7 * ev + i)) ((κ ev).2.2.2.1 0) (fun k c => gK (6 * (30 * ev + k) + c)) (fun k => gD (30 * ev + k)) (gN ev) (gT ev) (gT ev - at_) = smo (fun i => gM (7 * ev + i)) (s5at gB ev) (fun k c => gK (6 * (30 * ev + k) + c)) (fun k => gD (30 * ev + k)) (gN ev) (gT ev) (gT ev - at_) := by rw [hB]
  cases hso : smo (fun i => gM (7 * ev + i)) (s5at gB ev) (fun k c => gK (6 * (30 * ev + k) + c)) (fun k => gD (30 * ev + k)) (gN ev) (gT ev) (gT ev - at_) with
  | none => exact ⟨3, jI 0, (ms, es, gE, gM, gB, gT, gG, gN, gK, gD), ⟨by decide, fun th c => by
    obtain ⟨gH, gU, gF, gX, gW, gI, gP, gA, gR⟩ := c
    exact CtE.pl (c_X7_smoothed3 l D tys htI htJ htZ m0 a ms es th gM gB gT gN gK gD gH gU gF gX gW hms hes ev at_ wh hev u0b u1b hT hN htm ((κ ev).2.2.2.2 (gT ev)) hbeh hso) (by decide) (by decide) [0, 2, 3, 4, 6, 7, 8, 9, 10, 11, 12, 13] [1, 5, 14, 15, 16, 17] rfl (show (List.range 18).Perm ([0, 2, 3, 4, 6, 7, 8, 9, 10, 11, 12, 13] ++ [1, 5, 14, 15, 16, 17]) by decide) (fun u => by obtain ⟨u1, u2, u3, u4, u5, u6, u7, u8, u9⟩ := u; rfl) (fun r u hq => ⟨(u.1, u.2.1, u.2.2.1, u.2.2.2.1, u.2.2.2.2, gI, gP, gA, gR), hq, rfl, rfl⟩)⟩, (cd_ref (c_X6_smoothed3 l hl9 D tys htE x0 q0 q1 ms es (fE es κ) hes htM htS ((κ ev).1) (gN ev) (gT ev) (gG ev) (fun i => gM (7 * ev + i)) (fun k c => gK (6 * (30 * ev + k) + c)) ((κ ev).2.1) (fun k => gD (30 * ev + k)) ((κ ev).2.2.1) ((κ ev).2.2.2.1) ((κ ev).2.2.2.2) hN hT ev hev (if_pos hev) hset2 at_ wh u0b u1b (es0.trans hso)) (cw_es hev) rfl hI (by decide) (by decide) (by decide) (by decide))⟩
  | some xs => exact ⟨0, (if wh = 0 then vI xs.1 else vI xs.2), (ms, es, gE, gM, gB, gT, gG, gN, gK, gD), ⟨by decide, fun th c => by
    obtain ⟨gH, gU, gF, gX, gW, gI, gP, gA, gR⟩ := c
    exact CtE.pl (c_X7_smoothed0 l D tys htI htJ htZ m0 a ms es th gM gB gT gN gK gD gH gU gF gX gW hms hes ev at_ wh hev u0b u1b hT hN htm ((κ ev).2.2.2.2 (gT ev)) hbeh xs hso) (by decide) (by decide) [0, 2, 3, 4, 6, 7, 8, 9, 10, 11, 12, 13] [1, 5, 14, 15, 16, 17] rfl (show (List.range 18).Perm ([0, 2, 3, 4, 6, 7, 8, 9, 10, 11, 12, 13] ++ [1, 5, 14, 15, 16, 17]) by decide) (fun u => by obtain ⟨u1, u2, u3, u4, u5, u6, u7, u8, u9⟩ := u; rfl) (fun r u hq => ⟨(u.1, u.2.1, u.2.2.1, u.2.2.2.1, u.2.2.2.2, gI, gP, gA, gR), hq, rfl, rfl⟩)⟩, (cd_ask (c_X6_smoothed0 l hl9 D tys htE x0 q0 q1 ms es (fE es κ) hes htM htS ((κ ev).1) (gN ev) (gT ev) (gG ev) (fun i => gM (7 * ev + i)) (fun k c => gK (6 * (30 * ev + k) + c)) ((κ ev).2.1) (fun k => gD (30 * ev + k)) ((κ ev).2.2.1) ((κ ev).2.2.2.1) ((κ ev).2.2.2.2) hN hT ev hev (if_pos hev) hset2 at_ wh u0b u1b xs (es0.trans hso)) (cw_es hev) (by by_cases w : wh = 0 <;> simp [w]) hI (by decide) (by decide) (by decide) (by decide))⟩

set_option maxHeartbeats 8000000 in
set_option maxRecDepth 100000 in
/--  -/
theorem st_ahead (l : Launch) (hl9 : l.stackTraces = false) (D : va_G) (tys : List (ClassId × FieldType)) {cI cJ cZ cE cG cM cS : ClassId} (htI : tys[0]? = some (cI, .int)) (htJ : tys[1]? = some (cJ, .long)) (htZ : tys[2]? = some (cZ, .boolean)) (htE : tys[3]? = some (cE, .object RX1)) (htM : tys[4]? = some (cM, .object RX2)) (htS : tys[5]? = some (cS, .object RX4)) (htG : tys[6]? = some (cG, .array .int)) (m0 : Nat) (a : Nat → Nat) (x0 q0 q1 : Nat) (qr : Nat → Nat) (ms es : Nat) (gE gM gB : Nat → Zp) (gT : Nat → Nat) (gG : Nat → Zp) (gN : Nat → Nat) (gK : Nat → Zp) (gD : Nat → Bool) (κ : Nat → EG) (hI : INV (ms, es, gE, gM, gB, gT, gG, gN, gK, gD) κ) (ev tt wh : Int) (r1 : r32 ev) (r2 : r32 tt) (r3 : r32 wh) : ∃ (k : Nat) (v : Int32) (g' : SG), RDo l D tys cI cJ cZ m0 a yX7_ahead wsX7_ahead [.int (jI ev), .int (jI tt), .int (jI wh)] (ms, es, gE, gM, gB, gT, gG, gN, gK, gD) g' k v ∧ CDo l D tys cI cE cG cM cS x0 q0 q1 qr xc2 yX6_ahead wsX6_ahead [.int (jI ev), .int (jI tt), .int (jI wh)] (ms, es, gE, gM, gB, gT, gG, gN, gK, gD) κ g' k v := by
  obtain ⟨hms, hes, hIE, hIO⟩ := id hI
  by_cases h9 : inB 0 (((es : Nat) : Int) - 1) ev = true
  case neg =>
    rw [Bool.not_eq_true] at h9
    exact ⟨1, jI 0, (ms, es, gE, gM, gB, gT, gG, gN, gK, gD), ⟨by decide, fun th c => by
    obtain ⟨gH, gU, gF, gX, gW, gI, gP, gA, gR⟩ := c
    exact CtE.pl (c_X7_ahead1 l D tys htI htJ htZ m0 a ms es th hms hes ev tt wh r1 r2 r3 h9).E (by decide) (by decide) [0] [1, 2, 3, 4, 5, 6, 7, 8, 9, 10, 11, 12, 13, 14, 15, 16, 17] rfl (show (List.range 18).Perm ([0] ++ [1, 2, 3, 4, 5, 6, 7, 8, 9, 10, 11, 12, 13, 14, 15, 16, 17]) by decide) (fun u => by obtain ⟨u1, u2, u3, u4, u5, u6, u7, u8, u9⟩ := u; rfl) (fun r u hq => ⟨(gH, gU, gF, gX, gW, gI, gP, gA, gR), hq, rfl, rfl⟩)⟩, (cd_ref (c_X6_ahead1 l hl9 D tys htE x0 q0 q1 ms es (fE es κ) hes ev tt wh r1 h9) (cw_x) rfl hI (by decide) (by decide) (by decide) (by decide))⟩
  obtain ⟨ev, rfl, hev⟩ := in_nat1 h9
  obtain ⟨hset, hB, hN, hT, htm⟩ := hIE ev hev
  have hset2 : SEtl (fun i => gM (7 * ev + i)) ((κ ev).2.2.2.1 0) (fun k c => gK (6 * (30 * ev + k) + c)) (fun k => gD (30 * ev + k)) (gN ev) (gT ev + 1) (κ ev).2.1 (κ ev).2.2.1 (κ ev).2.2.2.1 (κ ev).2.2.2.2 := by rw [hB]; exact hset
  have hbeh : beh (fun i => gM (7 * ev + i)) (s5at gB ev) (fun k c => gK (6 * (30 * ev + k) + c)) (fun k => gD (30 * ev + k)) (gN ev) (gT ev) = some ((κ ev).2.2.2.2 (gT ev)) := (hset.1 (gT ev) (by omega)).2
  by_cases h8 : ((inB 0 1000000000 tt) && (inB 0 4 wh)) = true
  case neg =>
    rw [Bool.not_eq_true] at h8
    exact ⟨2, jI 0, (ms, es, gE, gM, gB, gT, gG, gN, gK, gD), ⟨by decide, fun th c => by
    obtain ⟨gH, gU, gF, gX, gW, gI, gP, gA, gR⟩ := c
    exact CtE.pl (c_X7_ahead2 l D tys htI htJ htZ m0 a ms es th hms hes ev tt wh hev r2 r3 h8).E (by decide) (by decide) [0] [1, 2, 3, 4, 5, 6, 7, 8, 9, 10, 11, 12, 13, 14, 15, 16, 17] rfl (show (List.range 18).Perm ([0] ++ [1, 2, 3, 4, 5, 6, 7, 8, 9, 10, 11, 12, 13, 14, 15, 16, 17]) by decide) (fun u => by obtain ⟨u1, u2, u3, u4, u5, u6, u7, u8, u9⟩ := u; rfl) (fun r u hq => ⟨(gH, gU, gF, gX, gW, gI, gP, gA, gR), hq, rfl, rfl⟩)⟩, (cd_ref (c_X6_ahead2 l hl9 D tys htE x0 q0 q1 ms es (fE es κ) hes ev hev ((κ ev).1 0) (if_pos hev) tt wh r2 r3 h8) (cw_x) rfl hI (by decide) (by decide) (by decide) (by decide))⟩
  rw [Bool.and_eq_true] at h8
  obtain ⟨u0, u1⟩ := h8
  obtain ⟨times, rfl, u0b⟩ := in_nat (n := 1000000000) u0
  obtain ⟨wh, rfl, u1b⟩ := in_nat (n := 4) u1
  exact ⟨0, vI (comp5 (itN (prd (fun i => gM (7 * ev + i))) times ((κ ev).2.2.2.2 (gT ev))) wh), (ms, es, gE, gM, gB, gT, gG, gN, gK, gD), ⟨by decide, fun th c => by
    obtain ⟨gH, gU, gF, gX, gW, gI, gP, gA, gR⟩ := c
    exact CtE.pl (c_X7_ahead0 l D tys htI htJ htZ m0 a ms es th gM gB gT gN gK gD gH gU gF gX gW gP gA gR hms hes ev times wh hev u0b u1b hT hN htm ((κ ev).2.2.2.2 (gT ev)) hbeh) (by decide) (by decide) [0, 2, 3, 4, 6, 7, 8, 9, 10, 11, 12, 13, 15, 16, 17] [1, 5, 14] rfl (show (List.range 18).Perm ([0, 2, 3, 4, 6, 7, 8, 9, 10, 11, 12, 13, 15, 16, 17] ++ [1, 5, 14]) by decide) (fun u => by obtain ⟨u1, u2, u3, u4, u5, u6, u7, u8, u9⟩ := u; rfl) (fun r u hq => ⟨(u.1, u.2.1, u.2.2.1, u.2.2.2.1, u.2.2.2.2.1, gI, u.2.2.2.2.2.1, u.2.2.2.2.2.2.1, u.2.2.2.2.2.2.2), hq, rfl, rfl⟩)⟩, (cd_ask (c_X6_ahead0 l hl9 D tys htE x0 q0 q1 ms es (fE es κ) hes htM htS ((κ ev).1) (gN ev) (gT ev) (gG ev) (fun i => gM (7 * ev + i)) (fun k c => gK (6 * (30 * ev + k) + c)) ((κ ev).2.1) (fun k => gD (30 * ev + k)) ((κ ev).2.2.1) ((κ ev).2.2.2.1) ((κ ev).2.2.2.2) hN hT ev hev (if_pos hev) times wh u0b u1b) (cw_es hev) rfl hI (by decide) (by decide) (by decide) (by decide))⟩

set_option maxHeartbeats 8000000 in
set_option maxRecDepth 100000 in
/--  -/
theorem st_aheadAnew (l : Launch) (hl9 : l.stackTraces = false) (D : va_G) (tys : List (ClassId × FieldType)) {cI cJ cZ cE cG cM cS : ClassId} (htI : tys[0]? = some (cI, .int)) (htJ : tys[1]? = some (cJ, .long)) (htZ : tys[2]? = some (cZ, .boolean)) (htE : tys[3]? = some (cE, .object RX1)) (htM : tys[4]? = some (cM, .object RX2)) (htS : tys[5]? = some (cS, .object RX4)) (htG : tys[6]? = some (cG, .array .int)) (m0 : Nat) (a : Nat → Nat) (x0 q0 q1 : Nat) (qr : Nat → Nat) (ms es : Nat) (gE gM gB : Nat → Zp) (gT : Nat → Nat) (gG : Nat → Zp) (gN : Nat → Nat) (gK : Nat → Zp) (gD : Nat → Bool) (κ : Nat → EG) (hI : INV (ms, es, gE, gM, gB, gT, gG, gN, gK, gD) κ) (ev tt wh : Int) (r1 : r32 ev) (r2 : r32 tt) (r3 : r32 wh) : ∃ (k : Nat) (v : Int32) (g' : SG), RDo l D tys cI cJ cZ m0 a yX7_aheadAnew wsX7_aheadAnew [.int (jI ev), .int (jI tt), .int (jI wh)] (ms, es, gE, gM, gB, gT, gG, gN, gK, gD) g' k v ∧ CDo l D tys cI cE cG cM cS x0 q0 q1 qr xc2 yX6_aheadAnew wsX6_aheadAnew [.int (jI ev), .int (jI tt), .int (jI wh)] (ms, es, gE, gM, gB, gT, gG, gN, gK, gD) κ g' k v := by
  obtain ⟨hms, hes, hIE, hIO⟩ := id hI
  by_cases h9 : inB 0 (((es : Nat) : Int) - 1) ev = true
  case neg =>
    rw [Bool.not_eq_true] at h9
    exact ⟨1, jI 0, (ms, es, gE, gM, gB, gT, gG, gN, gK, gD), ⟨by decide, fun th c => by
    obtain ⟨gH, gU, gF, gX, gW, gI, gP, gA, gR⟩ := c
    exact CtE.pl (c_X7_aheadAnew1 l D tys htI htJ htZ m0 a ms es th hms hes ev tt wh r1 r2 r3 h9).E (by decide) (by decide) [0] [1, 2, 3, 4, 5, 6, 7, 8, 9, 10, 11, 12, 13, 14, 15, 16, 17] rfl (show (List.range 18).Perm ([0] ++ [1, 2, 3, 4, 5, 6, 7, 8, 9, 10, 11, 12, 13, 14, 15, 16, 17]) by decide) (fun u => by obtain ⟨u1, u2, u3, u4, u5, u6, u7, u8, u9⟩ := u; rfl) (fun r u hq => ⟨(gH, gU, gF, gX, gW, gI, gP, gA, gR), hq, rfl, rfl⟩)⟩, (cd_ref (c_X6_aheadAnew1 l hl9 D tys htE x0 q0 q1 ms es (fE es κ) hes ev tt wh r1 h9) (cw_x) rfl hI (by decide) (by decide) (by decide) (by decide))⟩
  obtain ⟨ev, rfl, hev⟩ := in_nat1 h9
  obtain ⟨hset, hB, hN, hT, htm⟩ := hIE ev hev
  have hset2 : SEtl (fun i => gM (7 * ev + i)) ((κ ev).2.2.2.1 0) (fun k c => gK (6 * (30 * ev + k) + c)) (fun k => gD (30 * ev + k)) (gN ev) (gT ev + 1) (κ ev).2.1 (κ ev).2.2.1 (κ ev).2.2.2.1 (κ ev).2.2.2.2 := by rw [hB]; exact hset
  have hbeh : beh (fun i => gM (7 * ev + i)) (s5at gB ev) (fun k c => gK (6 * (30 * ev + k) + c)) (fun k => gD (30 * ev + k)) (gN ev) (gT ev) = some ((κ ev).2.2.2.2 (gT ev)) := (hset.1 (gT ev) (by omega)).2
  by_cases h8 : ((inB 0 200 tt) && (inB 0 4 wh)) = true
  case neg =>
    rw [Bool.not_eq_true] at h8
    exact ⟨2, jI 0, (ms, es, gE, gM, gB, gT, gG, gN, gK, gD), ⟨by decide, fun th c => by
    obtain ⟨gH, gU, gF, gX, gW, gI, gP, gA, gR⟩ := c
    exact CtE.pl (c_X7_aheadAnew2 l D tys htI htJ htZ m0 a ms es th hms hes ev tt wh hev r2 r3 h8).E (by decide) (by decide) [0] [1, 2, 3, 4, 5, 6, 7, 8, 9, 10, 11, 12, 13, 14, 15, 16, 17] rfl (show (List.range 18).Perm ([0] ++ [1, 2, 3, 4, 5, 6, 7, 8, 9, 10, 11, 12, 13, 14, 15, 16, 17]) by decide) (fun u => by obtain ⟨u1, u2, u3, u4, u5, u6, u7, u8, u9⟩ := u; rfl) (fun r u hq => ⟨(gH, gU, gF, gX, gW, gI, gP, gA, gR), hq, rfl, rfl⟩)⟩, (cd_ref (c_X6_aheadAnew2 l hl9 D tys htE x0 q0 q1 ms es (fE es κ) hes ev hev ((κ ev).1 0) (if_pos hev) tt wh r2 r3 h8) (cw_x) rfl hI (by decide) (by decide) (by decide) (by decide))⟩
  rw [Bool.and_eq_true] at h8
  obtain ⟨u0, u1⟩ := h8
  obtain ⟨times, rfl, u0b⟩ := in_nat (n := 200) u0
  obtain ⟨wh, rfl, u1b⟩ := in_nat (n := 4) u1
  exact ⟨0, vI (comp5 (itN (prd (fun i => gM (7 * ev + i))) times ((κ ev).2.2.2.2 (gT ev))) wh), (ms, es, gE, gM, gB, gT, gG, gN, gK, gD), ⟨by decide, fun th c => by
    obtain ⟨gH, gU, gF, gX, gW, gI, gP, gA, gR⟩ := c
    exact CtE.pl (c_X7_aheadAnew0 l D tys htI htJ htZ m0 a ms es th gM gB gT gN gK gD gH gU gF gX gW gP gA gR hms hes ev times wh hev u0b u1b hT hN htm ((κ ev).2.2.2.2 (gT ev)) hbeh) (by decide) (by decide) [0, 2, 3, 4, 6, 7, 8, 9, 10, 11, 12, 13, 15, 16, 17] [1, 5, 14] rfl (show (List.range 18).Perm ([0, 2, 3, 4, 6, 7, 8, 9, 10, 11, 12, 13, 15, 16, 17] ++ [1, 5, 14]) by decide) (fun u => by obtain ⟨u1, u2, u3, u4, u5, u6, u7, u8, u9⟩ := u; rfl) (fun r u hq => ⟨(u.1, u.2.1, u.2.2.1, u.2.2.2.1, u.2.2.2.2.1, gI, u.2.2.2.2.2.1, u.2.2.2.2.2.2.1, u.2.2.2.2.2.2.2), hq, rfl, rfl⟩)⟩, (cd_ask (c_X6_aheadAnew0 l hl9 D tys htE x0 q0 q1 ms es (fE es κ) hes htM htS ((κ ev).1) (gN ev) (gT ev) (gG ev) (fun i => gM (7 * ev + i)) (fun k c => gK (6 * (30 * ev + k) + c)) ((κ ev).2.1) (fun k => gD (30 * ev + k)) ((κ ev).2.2.1) ((κ ev).2.2.2.1) ((κ ev).2.2.2.2) hN hT ev hev (if_pos hev) times wh u0b u1b) (cw_es hev) rfl hI (by decide) (by decide) (by decide) (by decide))⟩
