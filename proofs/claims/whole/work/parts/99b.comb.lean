/-! both sides, call by call: what is asked -/
theorem in_nat {n : Nat} {v : Int} (h : inB 0 ((n : Nat) : Int) v = true) : ∃ k : Nat, v = ((k : Nat) : Int) ∧ k ≤ n := by
  obtain ⟨h1, h2⟩ := inB_iff.mp h
  exact ⟨v.toNat, by omega, by omega⟩
theorem in_nat1 {n : Nat} {v : Int} (h : inB 0 (((n : Nat) : Int) - 1) v = true) : ∃ k : Nat, v = ((k : Nat) : Int) ∧ k < n := by
  obtain ⟨h1, h2⟩ := inB_iff.mp h
  exact ⟨v.toNat, by omega, by omega⟩
theorem in_zp {v : Int} (h : inB 0 10006 v = true) : ∃ z : Zp, v = zv z := by
  obtain ⟨h1, h2⟩ := inB_iff.mp h
  exact ⟨zc v, by rw [zv_zc]; omega⟩
theorem cw_eo {cI cE cG cM cS : ClassId} {x0 q0 q1 : Nat} {qr : Nat → Nat} {ms es : Nat} {gE gM gB gG gK : Nat → Zp} {gT gN : Nat → Nat} {gD : Nat → Bool} {κ : Nat → EG} {ev : Nat} (hev : ev < es) : (CW cI cE cG cM cS x0 q0 q1 qr (ms, es, gE, gM, gB, gT, gG, gN, gK, gD) κ).Perm ([xO x0 q0 q1 ms es, xE cE q1 (fE es κ), eObj (κ ev).1 (gN ev) (gT ev) (gG ev)] ++ ((sW cM cS gM gG gK gT gN gD κ ev).tail ++ wrE cI cG cM cS q0 qr es gE gM gG gK gT gN gD κ ev)) := cw_es hev
theorem ca_gt {P : Nat → Zp} {B : S5} {M : Nat → Nat → Zp} {dr : Nat → Bool} {n T : Nat} {Y : Nat → Nat → Zp} {gt : Nat → Bool} {sp sb : Nat → S5} (h : SEtl P B M dr n (T + 1) Y gt sp sb) (ht : ∀ k, k < n → (M k 0).val ≤ T) : ∀ k, k < n → dr k = false → gt k = gtM P B M dr n k := by
  intro k hk hd
  obtain ⟨q, h1, h2, h3, h4, h5⟩ := h.2 k hk hd (by have := ht k hk; omega)
  unfold gtM
  rw [h1]
  exact h5

set_option maxHeartbeats 8000000 in
set_option maxRecDepth 100000 in
/--  -/
theorem st_of (l : Launch) (hl9 : l.stackTraces = false) (D : va_G) (tys : List (ClassId × FieldType)) {cI cJ cZ cE cG cM cS : ClassId} (htI : tys[0]? = some (cI, .int)) (htJ : tys[1]? = some (cJ, .long)) (htZ : tys[2]? = some (cZ, .boolean)) (htE : tys[3]? = some (cE, .object RX1)) (htM : tys[4]? = some (cM, .object RX2)) (htS : tys[5]? = some (cS, .object RX4)) (htG : tys[6]? = some (cG, .array .int)) (m0 : Nat) (a : Nat → Nat) (x0 q0 q1 : Nat) (qr : Nat → Nat) (ms es : Nat) (gE gM gB : Nat → Zp) (gT : Nat → Nat) (gG : Nat → Zp) (gN : Nat → Nat) (gK : Nat → Zp) (gD : Nat → Bool) (κ : Nat → EG) (hI : INV (ms, es, gE, gM, gB, gT, gG, gN, gK, gD) κ) (ev wh : Int) (r1 : r32 ev) (r2 : r32 wh) : ∃ (k : Nat) (v : Int32) (g' : SG), RDo l D tys cI cJ cZ m0 a yX7_of wsX7_of [.int (jI ev), .int (jI wh)] (ms, es, gE, gM, gB, gT, gG, gN, gK, gD) g' k v ∧ CDo l D tys cI cE cG cM cS x0 q0 q1 qr xc2 yX6_of wsX6_of [.int (jI ev), .int (jI wh)] (ms, es, gE, gM, gB, gT, gG, gN, gK, gD) κ g' k v := by
  obtain ⟨hms, hes, hIE, hIO⟩ := id hI
  by_cases h9 : inB 0 (((es : Nat) : Int) - 1) ev = true
  case neg =>
    rw [Bool.not_eq_true] at h9
    exact ⟨1, jI 0, (ms, es, gE, gM, gB, gT, gG, gN, gK, gD), ⟨by decide, fun th c => by
    obtain ⟨gH, gU, gF, gX, gW, gI, gP, gA, gR⟩ := c
    exact CtE.pl (c_X7_of1 l D tys htI htJ htZ m0 a ms es th hms hes ev wh r1 r2 h9).E (by decide) (by decide) [0] [1, 2, 3, 4, 5, 6, 7, 8, 9, 10, 11, 12, 13, 14, 15, 16, 17] rfl (show (List.range 18).Perm ([0] ++ [1, 2, 3, 4, 5, 6, 7, 8, 9, 10, 11, 12, 13, 14, 15, 16, 17]) by decide) (fun u => by obtain ⟨u1, u2, u3, u4, u5, u6, u7, u8, u9⟩ := u; rfl) (fun r u hq => ⟨(gH, gU, gF, gX, gW, gI, gP, gA, gR), hq, rfl, rfl⟩)⟩, (cd_ref (c_X6_of1 l hl9 D tys htE x0 q0 q1 ms es (fE es κ) hes ev wh r1 h9) (cw_x) rfl hI (by decide) (by decide) (by decide) (by decide))⟩
  obtain ⟨ev, rfl, hev⟩ := in_nat1 h9
  obtain ⟨hset, hB, hN, hT, htm⟩ := hIE ev hev
  have hset2 : SEtl (fun i => gM (7 * ev + i)) ((κ ev).2.2.2.1 0) (fun k c => gK (6 * (30 * ev + k) + c)) (fun k => gD (30 * ev + k)) (gN ev) (gT ev + 1) (κ ev).2.1 (κ ev).2.2.1 (κ ev).2.2.2.1 (κ ev).2.2.2.2 := by rw [hB]; exact hset
  have hbeh : beh (fun i => gM (7 * ev + i)) (s5at gB ev) (fun k c => gK (6 * (30 * ev + k) + c)) (fun k => gD (30 * ev + k)) (gN ev) (gT ev) = some ((κ ev).2.2.2.2 (gT ev)) := (hset.1 (gT ev) (by omega)).2
  by_cases h8 : (inB 0 8 wh) = true
  case neg =>
    rw [Bool.not_eq_true] at h8
    exact ⟨2, jI 0, (ms, es, gE, gM, gB, gT, gG, gN, gK, gD), ⟨by decide, fun th c => by
    obtain ⟨gH, gU, gF, gX, gW, gI, gP, gA, gR⟩ := c
    exact CtE.pl (c_X7_of2 l D tys htI htJ htZ m0 a ms es th hms hes ev wh hev r2 h8).E (by decide) (by decide) [0] [1, 2, 3, 4, 5, 6, 7, 8, 9, 10, 11, 12, 13, 14, 15, 16, 17] rfl (show (List.range 18).Perm ([0] ++ [1, 2, 3, 4, 5, 6, 7, 8, 9, 10, 11, 12, 13, 14, 15, 16, 17]) by decide) (fun u => by obtain ⟨u1, u2, u3, u4, u5, u6, u7, u8, u9⟩ := u; rfl) (fun r u hq => ⟨(gH, gU, gF, gX, gW, gI, gP, gA, gR), hq, rfl, rfl⟩)⟩, (cd_ref (c_X6_of2 l hl9 D tys htE x0 q0 q1 ms es (fE es κ) hes ev hev ((κ ev).1 0) (if_pos hev) wh r2 h8) (cw_x) rfl hI (by decide) (by decide) (by decide) (by decide))⟩
  obtain ⟨wh, rfl, h8b⟩ := in_nat (n := 8) h8
  refine ⟨0, ofR ((κ ev).2.2.2.2 (gT ev)) (gT ev) (gN ev) (cntG (fun k => gD (30 * ev + k)) (gtM (fun i => gM (7 * ev + i)) (s5at gB ev) (fun k c => gK (6 * (30 * ev + k) + c)) (fun k => gD (30 * ev + k)) (gN ev)) (gN ev)) wh, (ms, es, gE, gM, gB, gT, gG, gN, gK, gD), ⟨by decide, fun th c => by
    obtain ⟨gH, gU, gF, gX, gW, gI, gP, gA, gR⟩ := c
    exact CtE.pl (c_X7_of0 l D tys htI htJ htZ m0 a ms es th gM gB gT gN gK gD gH gU gF gX gW hms hes ev wh hev h8b hT hN htm ((κ ev).2.2.2.2 (gT ev)) hbeh) (by decide) (by decide) [0, 2, 3, 4, 6, 7, 8, 9, 10, 11, 12, 13] [1, 5, 14, 15, 16, 17] rfl (show (List.range 18).Perm ([0, 2, 3, 4, 6, 7, 8, 9, 10, 11, 12, 13] ++ [1, 5, 14, 15, 16, 17]) by decide) (fun u => by obtain ⟨u1, u2, u3, u4, u5, u6, u7, u8, u9⟩ := u; rfl) (fun r u hq => ⟨(u.1, u.2.1, u.2.2.1, u.2.2.2.1, u.2.2.2.2, gI, gP, gA, gR), hq.1, rfl, rfl⟩)⟩, ?_⟩
  by_cases w5 : wh < 5
  · exact (cd_ask (c_X6_of0_a l hl9 D tys htE x0 q0 q1 ms es (fE es κ) hes htM htS ((κ ev).1) (gN ev) (gT ev) (gG ev) (fun i => gM (7 * ev + i)) (fun k c => gK (6 * (30 * ev + k) + c)) ((κ ev).2.1) (fun k => gD (30 * ev + k)) ((κ ev).2.2.1) ((κ ev).2.2.2.1) ((κ ev).2.2.2.2) hN hT ev hev (if_pos hev) wh w5) (cw_es hev) (by unfold ofR; rw [if_pos w5]) hI (by decide) (by decide) (by decide) (by decide))
  by_cases w : wh = 5
  · subst w
    exact (cd_ask (c_X6_of0_5 l hl9 D tys htE x0 q0 q1 ms es (fE es κ) hes htM htS ((κ ev).1) (gN ev) (gT ev) (gG ev) (fun i => gM (7 * ev + i)) (fun k c => gK (6 * (30 * ev + k) + c)) ((κ ev).2.1) (fun k => gD (30 * ev + k)) ((κ ev).2.2.1) ((κ ev).2.2.2.1) ((κ ev).2.2.2.2) hN hT ev hev (if_pos hev)) (cw_es hev) rfl hI (by decide) (by decide) (by decide) (by decide))
  by_cases w : wh = 6
  · subst w
    exact (cd_ask (c_X6_of0_6 l hl9 D tys htE x0 q0 q1 ms es (fE es κ) hes htM htS ((κ ev).1) (gN ev) (gT ev) (gG ev) (fun i => gM (7 * ev + i)) (fun k c => gK (6 * (30 * ev + k) + c)) ((κ ev).2.1) (fun k => gD (30 * ev + k)) ((κ ev).2.2.1) ((κ ev).2.2.2.1) ((κ ev).2.2.2.2) hN hT ev hev (if_pos hev)) (cw_es hev) rfl hI (by decide) (by decide) (by decide) (by decide))
  by_cases w : wh = 7
  · subst w
    exact (cd_ask (c_X6_of0_7 l hl9 D tys htE x0 q0 q1 ms es (fE es κ) hes htM htS ((κ ev).1) (gN ev) (gT ev) (gG ev) (fun i => gM (7 * ev + i)) (fun k c => gK (6 * (30 * ev + k) + c)) ((κ ev).2.1) (fun k => gD (30 * ev + k)) ((κ ev).2.2.1) ((κ ev).2.2.2.1) ((κ ev).2.2.2.2) hN hT ev hev (if_pos hev)) (cw_es hev) (by rw [cntG_congr (ca_gt hset htm)]; rfl) hI (by decide) (by decide) (by decide) (by decide))
  have w : wh = 8 := by omega
  subst w
  exact (cd_ask (c_X6_of0_8 l hl9 D tys htE x0 q0 q1 ms es (fE es κ) hes htM htS ((κ ev).1) (gN ev) (gT ev) (gG ev) (fun i => gM (7 * ev + i)) (fun k c => gK (6 * (30 * ev + k) + c)) ((κ ev).2.1) (fun k => gD (30 * ev + k)) ((κ ev).2.2.1) ((κ ev).2.2.2.1) ((κ ev).2.2.2.2) hN hT ev hev (if_pos hev)) (cw_es hev) rfl hI (by decide) (by decide) (by decide) (by decide))

set_option maxHeartbeats 8000000 in
set_option maxRecDepth 100000 in
/--  -/
theorem st_information (l : Launch) (hl9 : l.stackTraces = false) (D : va_G) (tys : List (ClassId × FieldType)) {cI cJ cZ cE cG cM cS : ClassId} (htI : tys[0]? = some (cI, .int)) (htJ : tys[1]? = some (cJ, .long)) (htZ : tys[2]? = some (cZ, .boolean)) (htE : tys[3]? = some (cE, .object RX1)) (htM : tys[4]? = some (cM, .object RX2)) (htS : tys[5]? = some (cS, .object RX4)) (htG : tys[6]? = some (cG, .array .int)) (m0 : Nat) (a : Nat → Nat) (x0 q0 q1 : Nat) (qr : Nat → Nat) (ms es : Nat) (gE gM gB : Nat → Zp) (gT : Nat → Nat) (gG : Nat → Zp) (gN : Nat → Nat) (gK : Nat → Zp) (gD : Nat → Bool) (κ : Nat → EG) (hI : INV (ms, es, gE, gM, gB, gT, gG, gN, gK, gD) κ) (ev wh : Int) (r1 : r32 ev) (r2 : r32 wh) : ∃ (k : Nat) (v : Int32) (g' : SG), RDo l D tys cI cJ cZ m0 a yX7_information wsX7_information [.int (jI ev), .int (jI wh)] (ms, es, gE, gM, gB, gT, gG, gN, gK, gD) g' k v ∧ CDo l D tys cI cE cG cM cS x0 q0 q1 qr xc3 yX6_information wsX6_information [.int (jI ev), .int (jI wh)] (ms, es, gE, gM, gB, gT, gG, gN, gK, gD) κ g' k v := by
  obtain ⟨hms, hes, hIE, hIO⟩ := id hI
  by_cases h9 : inB 0 (((es : Nat) : Int) - 1) ev = true
  case neg =>
    rw [Bool.not_eq_true] at h9
    exact ⟨1, jI 0, (ms, es, gE, gM, gB, gT, gG, gN, gK, gD), ⟨by decide, fun th c => by
    obtain ⟨gH, gU, gF, gX, gW, gI, gP, gA, gR⟩ := c
    exact CtE.pl (c_X7_information1 l D tys htI htJ htZ m0 a ms es th hms hes ev wh r1 r2 h9).E (by decide) (by decide) [0] [1, 2, 3, 4, 5, 6, 7, 8, 9, 10, 11, 12, 13, 14, 15, 16, 17] rfl (show (List.range 18).Perm ([0] ++ [1, 2, 3, 4, 5, 6, 7, 8, 9, 10, 11, 12, 13, 14, 15, 16, 17]) by decide) (fun u => by obtain ⟨u1, u2, u3, u4, u5, u6, u7, u8, u9⟩ := u; rfl) (fun r u hq => ⟨(gH, gU, gF, gX, gW, gI, gP, gA, gR), hq, rfl, rfl⟩)⟩, (cd_ref (c_X6_information1 l hl9 D tys htE x0 q0 q1 ms es (fE es κ) hes ev wh r1 h9) (cw_x) rfl hI (by decide) (by decide) (by decide) (by decide))⟩
  obtain ⟨ev, rfl, hev⟩ := in_nat1 h9
  obtain ⟨hset, hB, hN, hT, htm⟩ := hIE ev hev
  have hset2 : SEtl (fun i => gM (7 * ev + i)) ((κ ev).2.2.2.1 0) (fun k c => gK (6 * (30 * ev + k) + c)) (fun k => gD (30 * ev + k)) (gN ev) (gT ev + 1) (κ ev).2.1 (κ ev).2.2.1 (κ ev).2.2.2.1 (κ ev).2.2.2.2 := by rw [hB]; exact hset
  have hbeh : beh (fun i => gM (7 * ev + i)) (s5at gB ev) (fun k c => gK (6 * (30 * ev + k) + c)) (fun k => gD (30 * ev + k)) (gN ev) (gT ev) = some ((κ ev).2.2.2.2 (gT ev)) := (hset.1 (gT ev) (by omega)).2
  by_cases h8 : (inB 0 4 wh) = true
  case neg =>
    rw [Bool.not_eq_true] at h8
    exact ⟨2, jI 0, (ms, es, gE, gM, gB, gT, gG, gN, gK, gD), ⟨by decide, fun th c => by
    obtain ⟨gH, gU, gF, gX, gW, gI, gP, gA, gR⟩ := c
    exact CtE.pl (c_X7_information2 l D tys htI htJ htZ m0 a ms es th hms hes ev wh hev r2 h8).E (by decide) (by decide) [0] [1, 2, 3, 4, 5, 6, 7, 8, 9, 10, 11, 12, 13, 14, 15, 16, 17] rfl (show (List.range 18).Perm ([0] ++ [1, 2, 3, 4, 5, 6, 7, 8, 9, 10, 11, 12, 13, 14, 15, 16, 17]) by decide) (fun u => by obtain ⟨u1, u2, u3, u4, u5, u6, u7, u8, u9⟩ := u; rfl) (fun r u hq => ⟨(gH, gU, gF, gX, gW, gI, gP, gA, gR), hq, rfl, rfl⟩)⟩, (cd_ref (c_X6_information2 l hl9 D tys htE x0 q0 q1 ms es (fE es κ) hes ev hev ((κ ev).1 0) (if_pos hev) wh r2 h8) (cw_x) rfl hI (by decide) (by decide) (by decide) (by decide))⟩
  obtain ⟨wh, rfl, h8b⟩ := in_nat (n := 4) h8
  by_cases hdt : det5 ((κ ev).2.2.2.2 (gT ev)) = 0
  · exact ⟨3, jI 0, (ms, es, gE, gM, gB, gT, gG, gN, gK, gD), ⟨by decide, fun th c => by
    obtain ⟨gH, gU, gF, gX, gW, gI, gP, gA, gR⟩ := c
    exact CtE.pl (c_X7_information3 l D tys htI htJ htZ m0 a ms es th gM gB gT gN gK gD gH gU gF gX gW hms hes ev wh hev h8b hT hN htm ((κ ev).2.2.2.2 (gT ev)) hbeh hdt) (by decide) (by decide) [0, 2, 3, 4, 6, 7, 8, 9, 10, 11, 12, 13] [1, 5, 14, 15, 16, 17] rfl (show (List.range 18).Perm ([0, 2, 3, 4, 6, 7, 8, 9, 10, 11, 12, 13] ++ [1, 5, 14, 15, 16, 17]) by decide) (fun u => by obtain ⟨u1, u2, u3, u4, u5, u6, u7, u8, u9⟩ := u; rfl) (fun r u hq => ⟨(u.1, u.2.1, u.2.2.1, u.2.2.2.1, u.2.2.2.2, gI, gP, gA, gR), hq, rfl, rfl⟩)⟩, (cd_ref (c_X6_information3 l hl9 D tys htE x0 q0 q1 ms es (fE es κ) hes htM htS ((κ ev).1) (gN ev) (gT ev) (gG ev) (fun i => gM (7 * ev + i)) (fun k c => gK (6 * (30 * ev + k) + c)) ((κ ev).2.1) (fun k => gD (30 * ev + k)) ((κ ev).2.2.1) ((κ ev).2.2.2.1) ((κ ev).2.2.2.2) hN hT ev hev (if_pos hev) wh h8b hdt) (cw_es hev) rfl hI (by decide) (by decide) (by decide) (by decide))⟩
  · exact ⟨0, vI (comp5 (tim5 (inv5 ((κ ev).2.2.2.2 (gT ev)))) wh), (ms, es, gE, gM, gB, gT, gG, gN, gK, gD), ⟨by decide, fun th c => by
    obtain ⟨gH, gU, gF, gX, gW, gI, gP, gA, gR⟩ := c
    exact CtE.pl (c_X7_information0 l D tys htI htJ htZ m0 a ms es th gM gB gT gN gK gD gH gU gF gX gW hms hes ev wh hev h8b hT hN htm ((κ ev).2.2.2.2 (gT ev)) hbeh hdt) (by decide) (by decide) [0, 2, 3, 4, 6, 7, 8, 9, 10, 11, 12, 13] [1, 5, 14, 15, 16, 17] rfl (show (List.range 18).Perm ([0, 2, 3, 4, 6, 7, 8, 9, 10, 11, 12, 13] ++ [1, 5, 14, 15, 16, 17]) by decide) (fun u => by obtain ⟨u1, u2, u3, u4, u5, u6, u7, u8, u9⟩ := u; rfl) (fun r u hq => ⟨(u.1, u.2.1, u.2.2.1, u.2.2.2.1, u.2.2.2.2, gI, gP, gA, gR), hq, rfl, rfl⟩)⟩, (cd_ask (c_X6_information0 l hl9 D tys htE x0 q0 q1 ms es (fE es κ) hes htM htS ((κ ev).1) (gN ev) (gT ev) (gG ev) (fun i => gM (7 * ev + i)) (fun k c => gK (6 * (30 * ev + k) + c)) ((κ ev).2.1) (fun k => gD (30 * ev + k)) ((κ ev).2.2.1) ((κ ev).2.2.2.1) ((κ ev).2.2.2.2) hN hT ev hev (if_pos hev) wh h8b hdt) (cw_es hev) rfl hI (by decide) (by decide) (by decide) (by decide))⟩

set_option maxHeartbeats 8000000 in
set_option maxRecDepth 100000 in
/--  -/
theorem st_anew (l : Launch) (hl9 : l.stackTraces = false) (D : va_G) (tys : List (ClassId × FieldType)) {cI cJ cZ cE cG cM cS : ClassId} (htI : tys[0]? = some (cI, .int)) (htJ : tys[1]? = some (cJ, .long)) (htZ : tys[2]? = some (cZ, .boolean)) (htE : tys[3]? = some (cE, .object RX1)) (htM : tys[4]? = some (cM, .object RX2)) (htS : tys[5]? = some (cS, .object RX4)) (htG : tys[6]? = some (cG, .array .int)) (m0 : Nat) (a : Nat → Nat) (x0 q0 q1 : Nat) (qr : Nat → Nat) (ms es : Nat) (gE gM gB : Nat → Zp) (gT : Nat → Nat) (gG : Nat → Zp) (gN : Nat → Nat) (gK : Nat → Zp) (gD : Nat → Bool) (κ : Nat → EG) (hI : INV (ms, es, gE, gM, gB, gT, gG, gN, gK, gD) κ) (ev wh : Int) (r1 : r32 ev) (r2 : r32 wh) : ∃ (k : Nat) (v : Int32) (g' : SG), RDo l D tys cI cJ cZ m0 a yX7_anew wsX7_anew [.int (jI ev), .int (jI wh)] (ms, es, gE, gM, gB, gT, gG, gN, gK, gD) g' k v ∧ CDo l D tys cI cE cG cM cS x0 q0 q1 qr xc3 yX6_anew wsX6_anew [.int (jI ev), .int (jI wh)] (ms, es, gE, gM, gB, gT, gG, gN, gK, gD) κ g' k v := by
  obtain ⟨hms, hes, hIE, hIO⟩ := id hI
  by_cases h9 : inB 0 (((es : Nat) : Int) - 1) ev = true
  case neg =>
    rw [Bool.not_eq_true] at h9
    exact ⟨1, jI 0, (ms, es, gE, gM, gB, gT, gG, gN, gK, gD), ⟨by decide, fun th c => by
    obtain ⟨gH, gU, gF, gX, gW, gI, gP, gA, gR⟩ := c
    exact CtE.pl (c_X7_anew1 l D tys htI htJ htZ m0 a ms es th hms hes ev wh r1 r2 h9).E (by decide) (by decide) [0] [1, 2, 3, 4, 5, 6, 7, 8, 9, 10, 11, 12, 13, 14, 15, 16, 17] rfl (show (List.range 18).Perm ([0] ++ [1, 2, 3, 4, 5, 6, 7, 8, 9, 10, 11, 12, 13, 14, 15, 16, 17]) by decide) (fun u => by obtain ⟨u1, u2, u3, u4, u5, u6, u7, u8, u9⟩ := u; rfl) (fun r u hq => ⟨(gH, gU, gF, gX, gW, gI, gP, gA, gR), hq, rfl, rfl⟩)⟩, (cd_ref (c_X6_anew1 l hl9 D tys htE x0 q0 q1 ms es (fE es κ) hes ev wh r1 h9) (cw_x) rfl hI (by decide) (by decide) (by decide) (by decide))⟩
  obtain ⟨ev, rfl, hev⟩ := in_nat1 h9
  obtain ⟨hset, hB, hN, hT, htm⟩ := hIE ev hev
  have hset2 : SEtl (fun i => gM (7 * ev + i)) ((κ ev).2.2.2.1 0) (fun k c => gK (6 * (30 * ev + k) + c)) (fun k => gD (30 * ev + k)) (gN ev) (gT ev + 1) (κ ev).2.1 (κ ev).2.2.1 (κ ev).2.2.2.1 (κ ev).2.2.2.2 := by rw [hB]; exact hset
  have hbeh : beh (fun i => gM (7 * ev + i)) (s5at gB ev) (fun k c => gK (6 * (30 * ev + k) + c)) (fun k => gD (30 * ev + k)) (gN ev) (gT ev) = some ((κ ev).2.2.2.2 (gT ev)) := (hset.1 (gT ev) (by omega)).2
  by_cases h8 : (inB 0 4 wh) = true
  case neg =>
    rw [Bool.not_eq_true] at h8
    exact ⟨2, jI 0, (ms, es, gE, gM, gB, gT, gG, gN, gK, gD), ⟨by decide, fun th c => by
    obtain ⟨gH, gU, gF, gX, gW, gI, gP, gA, gR⟩ := c
    exact CtE.pl (c_X7_anew2 l D tys htI htJ htZ m0 a ms es th hms hes ev wh hev r2 h8).E (by decide) (by decide) [0] [1, 2, 3, 4, 5, 6, 7, 8, 9, 10, 11, 12, 13, 14, 15, 16, 17] rfl (show (List.range 18).Perm ([0] ++ [1, 2, 3, 4, 5, 6, 7, 8, 9, 10, 11, 12, 13, 14, 15, 16, 17]) by decide) (fun u => by obtain ⟨u1, u2, u3, u4, u5, u6, u7, u8, u9⟩ := u; rfl) (fun r u hq => ⟨(gH, gU, gF, gX, gW, gI, gP, gA, gR), hq, rfl, rfl⟩)⟩, (cd_ref (c_X6_anew2 l hl9 D tys htE x0 q0 q1 ms es (fE es κ) hes ev hev ((κ ev).1 0) (if_pos hev) wh r2 h8) (cw_x) rfl hI (by decide) (by decide) (by decide) (by decide))⟩
  obtain ⟨wh, rfl, h8b⟩ := in_nat (n := 4) h8
  have es0 : secd (fun i => gM (7 * ev + i)) ((κ ev).2.2.2.1 0) (fun k c => gK (6 * (30 * ev + k) + c)) (fun k => gD (30 * ev + k)) (κ ev).2.2.1 (gN ev) (gT ev) = secd (fun i => gM (7 * ev + i)) (s5at gB ev) (fun k c => gK (6 * (30 * ev + k) + c)) (fun k => gD (30 * ev + k)) (gtM (fun i => gM (7 * ev + i)) (s5at gB ev) (fun k c => gK (6 * (30 * ev + k) + c)) (fun k => gD (30 * ev + k)) (gN ev)) (gN ev) (gT ev) := by
    rw [hB]
    exact secd_congr (ca_gt hset htm) _
  cases hsd : secd (fun i => gM (7 * ev + i)) (s5at gB ev) (fun k c => gK (6 * (30 * ev + k) + c)) (fun k => gD (30 * ev + k)) (gtM (fun i => gM (7 * ev + i)) (s5at gB ev) (fun k c => gK (6 * (30 * ev + k) + c)) (fun k => gD (30 * ev + k)) (gN ev)) (gN ev) (gT ev) with
  | none => exact ⟨3, jI 0, (ms, es, gE, gM, gB, gT, gG, gN, gK, gD), ⟨by decide, fun th c => by
    obtain ⟨gH, gU, gF, gX, gW, gI, gP, gA, gR⟩ := c
    exact CtE.pl (c_X7_anew3 l D tys htI htJ htZ m0 a ms es th gM gB gT gN gK gD gH gU gF gX gW gI hms hes ev wh hev h8b hT hN htm ((κ ev).2.2.2.2 (gT ev)) hbeh hsd) (by decide) (by decide) [0, 2, 3, 4, 6, 7, 8, 9, 10, 11, 12, 13, 14] [1, 5, 15, 16, 17] rfl (show (List.range 18).Perm ([0, 2, 3, 4, 6, 7, 8, 9, 10, 11, 12, 13, 14] ++ [1, 5, 15, 16, 17]) by decide) (fun u => by obtain ⟨u1, u2, u3, u4, u5, u6, u7, u8, u9⟩ := u; rfl) (fun r u hq => ⟨(u.1, u.2.1, u.2.2.1, u.2.2.2.1, u.2.2.2.2.1, u.2.2.2.2.2, gP, gA, gR), hq, rfl, rfl⟩)⟩, (cd_ref (c_X6_anew3 l hl9 D tys htE x0 q0 q1 ms es (fE es κ) hes htM htS ((κ ev).1) (gN ev) (gT ev) (gG ev) (fun i => gM (7 * ev + i)) (fun k c => gK (6 * (30 * ev + k) + c)) ((κ ev).2.1) (fun k => gD (30 * ev + k)) ((κ ev).2.2.1) ((κ ev).2.2.2.1) ((κ ev).2.2.2.2) hN hT ev hev (if_pos hev) wh h8b (es0.trans hsd)) (cw_es hev) rfl hI (by decide) (by decide) (by decide) (by decide))⟩
  | some sq => exact ⟨0, vI (comp5 sq wh), (ms, es, gE, gM, gB, gT, gG, gN, gK, gD), ⟨by decide, fun th c => by
    obtain ⟨gH, gU, gF, gX, gW, gI, gP, gA, gR⟩ := c
    exact CtE.pl (c_X7_anew0 l D tys htI htJ htZ m0 a ms es th gM gB gT gN gK gD gH gU gF gX gW gI hms hes ev wh hev h8b hT hN htm ((κ ev).2.2.2.2 (gT ev)) hbeh sq hsd) (by decide) (by decide) [0, 2, 3, 4, 6, 7, 8, 9, 10, 11, 12, 13, 14] [1, 5, 15, 16, 17] rfl (show (List.range 18).Perm ([0, 2, 3, 4, 6, 7, 8, 9, 10, 11, 12, 13, 14] ++ [1, 5, 15, 16, 17]) by decide) (fun u => by obtain ⟨u1, u2, u3, u4, u5, u6, u7, u8, u9⟩ := u; rfl) (fun r u hq => ⟨(u.1, u.2.1, u.2.2.1, u.2.2.2.1, u.2.2.2.2.1, u.2.2.2.2.2, gP, gA, gR), hq, rfl, rfl⟩)⟩, (cd_ask (c_X6_anew0 l hl9 D tys htE x0 q0 q1 ms es (fE es κ) hes htM htS ((κ ev).1) (gN ev) (gT ev) (gG ev) (fun i => gM (7 * ev + i)) (fun k c => gK (6 * (30 * ev + k) + c)) ((κ ev).2.1) (fun k => gD (30 * ev + k)) ((κ ev).2.2.1) ((κ ev).2.2.2.1) ((κ ev).2.2.2.2) hN hT ev hev (if_pos hev) wh h8b sq (es0.trans hsd)) (cw_es hev) rfl hI (by decide) (by decide) (by decide) (by decide))⟩
