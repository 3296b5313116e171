/-! both sides, call by call: models, and what begins -/
section RW1
variable {cI cE cG cM cS : ClassId} {gE gM gM' gB gG gK gG' gK' : Nat → Zp} {gT gN gT' gN' : Nat → Nat} {gD gD' : Nat → Bool} {κ κ' : Nat → EG}
theorem row_up {j w : Nat} {v : Zp} (hw : w < 7) : va_up (rowF gE j) w v = rowF (va_up gE (7 * j + w) v) j := by
  funext i
  by_cases hi : i = w
  · subst hi
    rw [up_s]
    unfold rowF
    rw [if_pos hw, up_s]
  · rw [up_o _ _ hi]
    unfold rowF
    by_cases h7 : i < 7
    · rw [if_pos h7, if_pos h7, up_o _ _ (by omega)]
    · rw [if_neg h7, if_neg h7]
theorem row_o {i j w : Nat} {v : Zp} (hw : w < 7) (hij : i ≠ j) : rowF (va_up gE (7 * j + w) v) i = rowF gE i := by
  funext x
  unfold rowF
  by_cases h7 : x < 7
  · rw [if_pos h7, if_pos h7, up_o _ _ (by omega)]
  · rw [if_neg h7, if_neg h7]
theorem put7_n {b : Nat} {f : Nat → Zp} : ∀ {i : Nat}, i < 7 → put7 gM b f (b + i) = f i
  | 0, _ => by unfold put7; rw [up_o _ _ (by omega), up_o _ _ (by omega), up_o _ _ (by omega), up_o _ _ (by omega), up_o _ _ (by omega), up_o _ _ (by omega), up_s]
  | 1, _ => by unfold put7; rw [up_o _ _ (by omega), up_o _ _ (by omega), up_o _ _ (by omega), up_o _ _ (by omega), up_o _ _ (by omega), up_s]
  | 2, _ => by unfold put7; rw [up_o _ _ (by omega), up_o _ _ (by omega), up_o _ _ (by omega), up_o _ _ (by omega), up_s]
  | 3, _ => by unfold put7; rw [up_o _ _ (by omega), up_o _ _ (by omega), up_o _ _ (by omega), up_s]
  | 4, _ => by unfold put7; rw [up_o _ _ (by omega), up_o _ _ (by omega), up_s]
  | 5, _ => by unfold put7; rw [up_o _ _ (by omega), up_s]
  | 6, _ => by unfold put7; rw [up_s]
theorem put7_o {b : Nat} {f : Nat → Zp} {x : Nat} (hx : x < b ∨ b + 7 ≤ x) : put7 gM b f x = gM x := by
  unfold put7
  rw [up_o _ _ (by omega), up_o _ _ (by omega), up_o _ _ (by omega), up_o _ _ (by omega), up_o _ _ (by omega), up_o _ _ (by omega), up_o _ _ (by omega)]
theorem putB_n {e : Nat} {b1 b2 b3 b4 b5 : Zp} : s5at (putB gB (5 * e) b1 b2 b3 b4 b5) e = (b1, b2, b3, b4, b5) := by
  unfold s5at putB
  rw [up_o _ _ (show 5 * e + 0 ≠ 5 * e + 4 by omega), up_o _ _ (show 5 * e + 0 ≠ 5 * e + 3 by omega), up_o _ _ (show 5 * e + 0 ≠ 5 * e + 2 by omega), up_o _ _ (show 5 * e + 0 ≠ 5 * e + 1 by omega), show 5 * e + 0 = 5 * e from rfl, up_s, up_o _ _ (show 5 * e + 1 ≠ 5 * e + 4 by omega), up_o _ _ (show 5 * e + 1 ≠ 5 * e + 3 by omega), up_o _ _ (show 5 * e + 1 ≠ 5 * e + 2 by omega), up_s, up_o _ _ (show 5 * e + 2 ≠ 5 * e + 4 by omega), up_o _ _ (show 5 * e + 2 ≠ 5 * e + 3 by omega), up_s, up_o _ _ (show 5 * e + 3 ≠ 5 * e + 4 by omega), up_s, up_s]
theorem putB_x {e x : Nat} {b1 b2 b3 b4 b5 : Zp} (hx : x < 5 * e ∨ 5 * e + 5 ≤ x) : putB gB (5 * e) b1 b2 b3 b4 b5 x = gB x := by
  unfold putB
  rw [up_o _ _ (by omega), up_o _ _ (by omega), up_o _ _ (by omega), up_o _ _ (by omega), up_o _ _ (by omega)]
theorem putB_o {e i : Nat} {b1 b2 b3 b4 b5 : Zp} (h : i ≠ e) : s5at (putB gB (5 * e) b1 b2 b3 b4 b5) i = s5at gB i := by
  unfold s5at
  rw [putB_x (by omega), putB_x (by omega), putB_x (by omega), putB_x (by omega), putB_x (by omega)]
theorem sW_m {e : Nat} (hM : ∀ i, i < 7 → gM' (7 * e + i) = gM (7 * e + i)) (hG : gG' e = gG e) (hκ : κ' e = κ e) : sW cM cS gM' gG' gK gT gN gD κ' e = sW cM cS gM gG gK gT gN gD κ e := by
  unfold sW
  rw [hG, hκ]
  exact estL_c hM (fun _ _ _ _ => rfl) (fun _ _ => rfl)
theorem fE_new {es : Nat} {u : EG} : fE (es + 1) (va_up κ es u) = va_up (fE es κ) es (some (u.1 0)) := by
  funext i
  by_cases hi : i = es
  · subst hi
    rw [up_s]
    unfold fE
    rw [if_pos (Nat.lt_succ_self _), up_s]
  · rw [up_o _ _ hi]
    unfold fE
    rw [up_o _ _ hi]
    by_cases h : i < es
    · rw [if_pos h, if_pos (by omega)]
    · rw [if_neg h, if_neg (by omega)]
theorem perm_new {X G R E : Nat × va_E} {L rest ests rows : va_W} (e : rows.Perm (R :: rest)) : ((L ++ [X, G, R, E]) ++ (rest ++ ests)).Perm (X :: G :: E :: (rows ++ (ests ++ L))) := by
  rw [List.append_assoc]
  refine List.perm_append_comm.trans ?_
  show (X :: G :: R :: E :: ((rest ++ ests) ++ L)).Perm _
  refine List.Perm.cons _ (List.Perm.cons _ ((List.Perm.swap _ _ _).trans (List.Perm.cons _ ?_)))
  rw [List.append_assoc]
  exact (e.append_right (ests ++ L)).symm
end RW1

set_option maxHeartbeats 8000000 in
set_option maxRecDepth 100000 in
/--  -/
theorem st_model (l : Launch) (hl9 : l.stackTraces = false) (D : va_G) (tys : List (ClassId × FieldType)) {cI cJ cZ cE cG cM cS : ClassId} (htI : tys[0]? = some (cI, .int)) (htJ : tys[1]? = some (cJ, .long)) (htZ : tys[2]? = some (cZ, .boolean)) (htE : tys[3]? = some (cE, .object RX1)) (htM : tys[4]? = some (cM, .object RX2)) (htS : tys[5]? = some (cS, .object RX4)) (htG : tys[6]? = some (cG, .array .int)) (m0 : Nat) (a : Nat → Nat) (x0 q0 q1 : Nat) (qr : Nat → Nat) (ms es : Nat) (gE gM gB : Nat → Zp) (gT : Nat → Nat) (gG : Nat → Zp) (gN : Nat → Nat) (gK : Nat → Zp) (gD : Nat → Bool) (κ : Nat → EG) (hI : INV (ms, es, gE, gM, gB, gT, gG, gN, gK, gD) κ)   : ∃ (k : Nat) (v : Int32) (g' : SG), RDo l D tys cI cJ cZ m0 a yX7_model wsX7_model [] (ms, es, gE, gM, gB, gT, gG, gN, gK, gD) g' k v ∧ CDo l D tys cI cE cG cM cS x0 q0 q1 qr xcm yX6_model wsX6_model [] (ms, es, gE, gM, gB, gT, gG, gN, gK, gD) κ g' k v := by
  obtain ⟨hms, hes, hIE, hIO⟩ := id hI
  by_cases h6 : ms = 6
  · exact ⟨1, jI 0, (ms, es, gE, gM, gB, gT, gG, gN, gK, gD), ⟨by decide, fun th c => by
    obtain ⟨gH, gU, gF, gX, gW, gI, gP, gA, gR⟩ := c
    exact CtE.pl (c_X7_modelX l D tys htI htJ htZ m0 a ms es th gE hms h6).E (by decide) (by decide) [0, 1] [2, 3, 4, 5, 6, 7, 8, 9, 10, 11, 12, 13, 14, 15, 16, 17] rfl (show (List.range 18).Perm ([0, 1] ++ [2, 3, 4, 5, 6, 7, 8, 9, 10, 11, 12, 13, 14, 15, 16, 17]) by decide) (fun u => by obtain ⟨u1, u2, u3, u4, u5, u6, u7, u8, u9⟩ := u; rfl) (fun r u hq => ⟨(gH, gU, gF, gX, gW, gI, gP, gA, gR), hq, rfl, rfl⟩)⟩, (cd_ref (c_X6_modelX l hl9 D tys htI htG x0 q0 q1 ms es (fG qr) hms hes h6) (cw_g) rfl hI (by decide) (by decide) (by decide) (by decide))⟩
  have hm : ms < 6 := by omega
  exact ⟨0, jI ((ms : Nat) : Int), (ms + 1, es, (va_up (va_up gE (7 * ms + 0) 1) (7 * ms + 3) 1), gM, gB, gT, gG, gN, gK, gD), ⟨by decide, fun th c => by
    obtain ⟨gH, gU, gF, gX, gW, gI, gP, gA, gR⟩ := c
    exact CtE.pl (c_X7_modelK l D tys htI htJ htZ m0 a ms es th gE hms h6).E (by decide) (by decide) [0, 1] [2, 3, 4, 5, 6, 7, 8, 9, 10, 11, 12, 13, 14, 15, 16, 17] rfl (show (List.range 18).Perm ([0, 1] ++ [2, 3, 4, 5, 6, 7, 8, 9, 10, 11, 12, 13, 14, 15, 16, 17]) by decide) (fun u => by obtain ⟨u1, u2, u3, u4, u5, u6, u7, u8, u9⟩ := u; rfl) (fun r u hq => ⟨(gH, gU, gF, gX, gW, gI, gP, gA, gR), hq, rfl, rfl⟩)⟩, CtG.to ((c_X6_modelK l hl9 D tys htI htG x0 q0 q1 ms es (fG qr) hms hes hm (qr ms) rfl (rowF gE ms)).wide (by decide) (by decide) (by decide) (by decide)) (cw_row hm) (fun r u hq => ⟨κ, ⟨rfl, hq, ⟨by omega, hes, hIE, hIO⟩⟩, cw_rput (gB := gB) hm (by rw [row_up (by omega), row_up (by omega)]) (fun i _ hi => by rw [row_o (by omega) hi, row_o (by omega) hi])⟩) (fun _ _ z => z.elim)⟩

set_option maxHeartbeats 8000000 in
set_option maxRecDepth 100000 in
/--  -/
theorem st_entry (l : Launch) (hl9 : l.stackTraces = false) (D : va_G) (tys : List (ClassId × FieldType)) {cI cJ cZ cE cG cM cS : ClassId} (htI : tys[0]? = some (cI, .int)) (htJ : tys[1]? = some (cJ, .long)) (htZ : tys[2]? = some (cZ, .boolean)) (htE : tys[3]? = some (cE, .object RX1)) (htM : tys[4]? = some (cM, .object RX2)) (htS : tys[5]? = some (cS, .object RX4)) (htG : tys[6]? = some (cG, .array .int)) (m0 : Nat) (a : Nat → Nat) (x0 q0 q1 : Nat) (qr : Nat → Nat) (ms es : Nat) (gE gM gB : Nat → Zp) (gT : Nat → Nat) (gG : Nat → Zp) (gN : Nat → Nat) (gK : Nat → Zp) (gD : Nat → Bool) (κ : Nat → EG) (hI : INV (ms, es, gE, gM, gB, gT, gG, gN, gK, gD) κ) (mo wh it : Int) (r1 : r32 mo) (r2 : r32 wh) (r3 : r32 it) : ∃ (k : Nat) (v : Int32) (g' : SG), RDo l D tys cI cJ cZ m0 a yX7_entry wsX7_entry [.int (jI mo), .int (jI wh), .int (jI it)] (ms, es, gE, gM, gB, gT, gG, gN, gK, gD) g' k v ∧ CDo l D tys cI cE cG cM cS x0 q0 q1 qr xc2 yX6_entry wsX6_entry [.int (jI mo), .int (jI wh), .int (jI it)] (ms, es, gE, gM, gB, gT, gG, gN, gK, gD) κ g' k v := by
  obtain ⟨hms, hes, hIE, hIO⟩ := id hI
  by_cases h9 : inB 0 (((ms : Nat) : Int) - 1) mo = true
  case neg =>
    rw [Bool.not_eq_true] at h9
    exact ⟨1, jI 0, (ms, es, gE, gM, gB, gT, gG, gN, gK, gD), ⟨by decide, fun th c => by
    obtain ⟨gH, gU, gF, gX, gW, gI, gP, gA, gR⟩ := c
    exact CtE.pl (c_X7_entry1 l D tys htI htJ htZ m0 a ms es th gE hms hes mo wh it r1 r2 r3 h9).E (by decide) (by decide) [0, 1] [2, 3, 4, 5, 6, 7, 8, 9, 10, 11, 12, 13, 14, 15, 16, 17] rfl (show (List.range 18).Perm ([0, 1] ++ [2, 3, 4, 5, 6, 7, 8, 9, 10, 11, 12, 13, 14, 15, 16, 17]) by decide) (fun u => by obtain ⟨u1, u2, u3, u4, u5, u6, u7, u8, u9⟩ := u; rfl) (fun r u hq => ⟨(gH, gU, gF, gX, gW, gI, gP, gA, gR), hq, rfl, rfl⟩)⟩, (cd_ref (c_X6_entry1 l hl9 D tys htI htG x0 q0 q1 ms es (fG qr) hms hes mo wh it r1 h9) (cw_g) rfl hI (by decide) (by decide) (by decide) (by decide))⟩
  obtain ⟨mo, rfl, hmo⟩ := in_nat1 h9
  by_cases h8 : ((inB 0 6 wh) && (inB 0 10006 it)) = true
  case neg =>
    rw [Bool.not_eq_true] at h8
    exact ⟨2, jI 0, (ms, es, gE, gM, gB, gT, gG, gN, gK, gD), ⟨by decide, fun th c => by
    obtain ⟨gH, gU, gF, gX, gW, gI, gP, gA, gR⟩ := c
    exact CtE.pl (c_X7_entry2 l D tys htI htJ htZ m0 a ms es th gE hms hes mo wh it r1 r2 r3 h9 h8).E (by decide) (by decide) [0, 1] [2, 3, 4, 5, 6, 7, 8, 9, 10, 11, 12, 13, 14, 15, 16, 17] rfl (show (List.range 18).Perm ([0, 1] ++ [2, 3, 4, 5, 6, 7, 8, 9, 10, 11, 12, 13, 14, 15, 16, 17]) by decide) (fun u => by obtain ⟨u1, u2, u3, u4, u5, u6, u7, u8, u9⟩ := u; rfl) (fun r u hq => ⟨(gH, gU, gF, gX, gW, gI, gP, gA, gR), hq, rfl, rfl⟩)⟩, (cd_ref (c_X6_entry2 l hl9 D tys htI htG x0 q0 q1 ms es (fG qr) hms hes mo hmo (qr mo) rfl wh it r2 r3 h8) (cw_g) rfl hI (by decide) (by decide) (by decide) (by decide))⟩
  rw [Bool.and_eq_true] at h8
  obtain ⟨u0, u1⟩ := h8
  obtain ⟨wh, rfl, u0b⟩ := in_nat (n := 6) u0
  obtain ⟨it, rfl⟩ := in_zp u1
  exact ⟨0, vI (gE (7 * mo + wh)), (ms, es, (va_up gE (7 * mo + wh) it), gM, gB, gT, gG, gN, gK, gD), ⟨by decide, fun th c => by
    obtain ⟨gH, gU, gF, gX, gW, gI, gP, gA, gR⟩ := c
    exact CtE.pl (c_X7_entry0 l D tys htI htJ htZ m0 a ms es th gE hms hes mo wh it hmo u0b).E (by decide) (by decide) [0, 1] [2, 3, 4, 5, 6, 7, 8, 9, 10, 11, 12, 13, 14, 15, 16, 17] rfl (show (List.range 18).Perm ([0, 1] ++ [2, 3, 4, 5, 6, 7, 8, 9, 10, 11, 12, 13, 14, 15, 16, 17]) by decide) (fun u => by obtain ⟨u1, u2, u3, u4, u5, u6, u7, u8, u9⟩ := u; rfl) (fun r u hq => ⟨(gH, gU, gF, gX, gW, gI, gP, gA, gR), hq, rfl, rfl⟩)⟩, CtG.to ((c_X6_entry0 l hl9 D tys htI htG x0 q0 q1 ms es (fG qr) hms hes mo hmo (qr mo) rfl (rowF gE mo) wh it u0b).wide (by decide) (by decide) (by decide) (by decide)) (cw_row (by omega)) (fun r u hq => ⟨κ, ⟨rfl, by rw [hq]; unfold rowF; rw [if_pos (by omega)], ⟨hms, hes, hIE, hIO⟩⟩, cw_rput (gB := gB) (by omega) (row_up (by omega)) (fun i _ hi => row_o (by omega) hi)⟩) (fun _ _ z => z.elim)⟩

set_option maxHeartbeats 8000000 in
set_option maxRecDepth 100000 in
/--  -/
theorem st_begin (l : Launch) (hl9 : l.stackTraces = false) (D : va_G) (tys : List (ClassId × FieldType)) {cI cJ cZ cE cG cM cS : ClassId} (htI : tys[0]? = some (cI, .int)) (htJ : tys[1]? = some (cJ, .long)) (htZ : tys[2]? = some (cZ, .boolean)) (htE : tys[3]? = some (cE, .object RX1)) (htM : tys[4]? = some (cM, .object RX2)) (htS : tys[5]? = some (cS, .object RX4)) (htG : tys[6]? = some (cG, .array .int)) (m0 : Nat) (a : Nat → Nat) (x0 q0 q1 : Nat) (qr : Nat → Nat) (ms es : Nat) (gE gM gB : Nat → Zp) (gT : Nat → Nat) (gG : Nat → Zp) (gN : Nat → Nat) (gK : Nat → Zp) (gD : Nat → Bool) (κ : Nat → EG) (hI : INV (ms, es, gE, gM, gB, gT, gG, gN, gK, gD) κ) (mo b1 b2 b3 b4 b5 : Int) (r1 : r32 mo) (r2 : r32 b1) (r3 : r32 b2) (r4 : r32 b3) (r5 : r32 b4) (r6 : r32 b5) : ∃ (k : Nat) (v : Int32) (g' : SG), RDo l D tys cI cJ cZ m0 a yX7_begin wsX7_begin [.int (jI mo), .int (jI b1), .int (jI b2), .int (jI b3), .int (jI b4), .int (jI b5)] (ms, es, gE, gM, gB, gT, gG, gN, gK, gD) g' k v ∧ CDo l D tys cI cE cG cM cS x0 q0 q1 qr xc3 yX6_begin wsX6_begin [.int (jI mo), .int (jI b1), .int (jI b2), .int (jI b3), .int (jI b4), .int (jI b5)] (ms, es, gE, gM, gB, gT, gG, gN, gK, gD) κ g' k v := by
  obtain ⟨hms, hes, hIE, hIO⟩ := id hI
  by_cases h9 : inB 0 (((ms : Nat) : Int) - 1) mo = true
  case neg =>
    rw [Bool.not_eq_true] at h9
    exact ⟨1, jI 0, (ms, es, gE, gM, gB, gT, gG, gN, gK, gD), ⟨by decide, fun th c => by
    obtain ⟨gH, gU, gF, gX, gW, gI, gP, gA, gR⟩ := c
    exact CtE.pl (c_X7_begin1 l D tys htI htJ htZ m0 a ms es th gE gM gB gG hms hes mo b1 b2 b3 b4 b5 r1 r2 r3 r4 r5 r6 h9).E (by decide) (by decide) [0, 1, 2, 3, 5] [4, 6, 7, 8, 9, 10, 11, 12, 13, 14, 15, 16, 17] rfl (show (List.range 18).Perm ([0, 1, 2, 3, 5] ++ [4, 6, 7, 8, 9, 10, 11, 12, 13, 14, 15, 16, 17]) by decide) (fun u => by obtain ⟨u1, u2, u3, u4, u5, u6, u7, u8, u9⟩ := u; rfl) (fun r u hq => ⟨(gH, gU, gF, gX, gW, gI, gP, gA, gR), hq, rfl, rfl⟩)⟩, (cd_ref (c_X6_begin1 l hl9 D tys htI htG x0 q0 q1 ms es (fG qr) hms hes mo b1 b2 b3 b4 b5 r1 h9) (cw_g) rfl hI (by decide) (by decide) (by decide) (by decide))⟩
  obtain ⟨mo, rfl, hmo⟩ := in_nat1 h9
  by_cases h8 : ((inB 0 10006 b1) && ((inB 0 10006 b2) && ((inB 0 10006 b3) && ((inB 0 10006 b4) && (inB 0 10006 b5))))) = true
  case neg =>
    rw [Bool.not_eq_true] at h8
    exact ⟨2, jI 0, (ms, es, gE, gM, gB, gT, gG, gN, gK, gD), ⟨by decide, fun th c => by
    obtain ⟨gH, gU, gF, gX, gW, gI, gP, gA, gR⟩ := c
    exact CtE.pl (c_X7_begin2 l D tys htI htJ htZ m0 a ms es th gE gM gB gG hms hes ((mo : Nat) : Int) b1 b2 b3 b4 b5 r1 r2 r3 r4 r5 r6 h9 h8).E (by decide) (by decide) [0, 1, 2, 3, 5] [4, 6, 7, 8, 9, 10, 11, 12, 13, 14, 15, 16, 17] rfl (show (List.range 18).Perm ([0, 1, 2, 3, 5] ++ [4, 6, 7, 8, 9, 10, 11, 12, 13, 14, 15, 16, 17]) by decide) (fun u => by obtain ⟨u1, u2, u3, u4, u5, u6, u7, u8, u9⟩ := u; rfl) (fun r u hq => ⟨(gH, gU, gF, gX, gW, gI, gP, gA, gR), hq, rfl, rfl⟩)⟩, (cd_ref (c_X6_begin2 l hl9 D tys htI htG x0 q0 q1 ms es (fG qr) hms hes mo hmo (qr mo) rfl b1 b2 b3 b4 b5 r2 r3 r4 r5 r6 h8) (cw_g) rfl hI (by decide) (by decide) (by decide) (by decide))⟩
  rw [Bool.and_eq_true] at h8
  obtain ⟨u1, h80⟩ := h8
  rw [Bool.and_eq_true] at h80
  obtain ⟨u2, h81⟩ := h80
  rw [Bool.and_eq_true] at h81
  obtain ⟨u3, h82⟩ := h81
  rw [Bool.and_eq_true] at h82
  obtain ⟨u4, u5⟩ := h82
  obtain ⟨b1, rfl⟩ := in_zp u1
  obtain ⟨b2, rfl⟩ := in_zp u2
  obtain ⟨b3, rfl⟩ := in_zp u3
  obtain ⟨b4, rfl⟩ := in_zp u4
  obtain ⟨b5, rfl⟩ := in_zp u5
  by_cases h6 : es = 6
  · exact ⟨3, jI 0, (ms, es, gE, gM, gB, gT, gG, gN, gK, gD), ⟨by decide, fun th c => by
    obtain ⟨gH, gU, gF, gX, gW, gI, gP, gA, gR⟩ := c
    exact CtE.pl (c_X7_begin3 l D tys htI htJ htZ m0 a ms es th gE gM gB gG hms hes mo b1 b2 b3 b4 b5 hmo h6).E (by decide) (by decide) [0, 1, 2, 3, 5] [4, 6, 7, 8, 9, 10, 11, 12, 13, 14, 15, 16, 17] rfl (show (List.range 18).Perm ([0, 1, 2, 3, 5] ++ [4, 6, 7, 8, 9, 10, 11, 12, 13, 14, 15, 16, 17]) by decide) (fun u => by obtain ⟨u1, u2, u3, u4, u5, u6, u7, u8, u9⟩ := u; rfl) (fun r u hq => ⟨(gH, gU, gF, gX, gW, gI, gP, gA, gR), hq, rfl, rfl⟩)⟩, (cd_ref (c_X6_begin3 l hl9 D tys htI htG x0 q0 q1 ms es (fG qr) hms hes mo hmo (qr mo) rfl ((b1, b2, b3, b4, b5) : S5) h6) (cw_g) rfl hI (by decide) (by decide) (by decide) (by decide))⟩
  have hm : es < 6 := by omega
  have hmo6 : mo < 6 := by omega
  obtain ⟨z1, z2, z3, z4⟩ := hIO es (Nat.le_refl _) hm
  have eM : ∀ i, i < 7 → rowF gE mo i = (put7 gM (7 * es) (fun i => gE (7 * mo + i))) (7 * es + i) := fun i hi => by
    rw [put7_n hi]
    unfold rowF
    rw [if_pos hi]
  have he : ∀ u : EG, estL cM cS u.1 0 0 10006 (rowF gE mo) zM u.2.1 zB u.2.2.1 u.2.2.2.1 u.2.2.2.2 = sW cM cS (put7 gM (7 * es) (fun i => gE (7 * mo + i))) (va_up gG es 10006) gK gT gN gD (va_up κ es u) es := fun u => by
    unfold sW
    rw [up_s, up_s, z1, z2]
    exact estL_c eM (fun k hk i hi => (z3 k hk i hi).symm) (fun k hk => (z4 k hk).symm)
  have hs : ∀ (u : EG) (k : Nat), k < es → sW cM cS (put7 gM (7 * es) (fun i => gE (7 * mo + i))) (va_up gG es 10006) gK gT gN gD (va_up κ es u) k = sW cM cS gM gG gK gT gN gD κ k := fun u k hk => sW_m (fun i hi => put7_o (by omega)) (up_o _ _ (by omega)) (up_o _ _ (by omega))
  have e6 : ((List.range 6).flatMap (xR cI qr gE)).Perm (((qr mo), .inl (cI, 7, .inl (fun i => vI (rowF gE mo i)))) :: (restI 6 [mo]).flatMap (xR cI qr gE)) := by
    have e := flat_pick (n := 6) (ks := [mo]) (xR cI qr gE) (by simp) (fun k h => by simp at h; omega)
    rw [List.flatMap_cons, List.flatMap_nil, List.append_nil] at e
    exact e
  have hp : ∀ u : EG, ((estL cM cS u.1 0 0 10006 (rowF gE mo) zM u.2.1 zB u.2.2.1 u.2.2.2.1 u.2.2.2.2 ++ [xO x0 q0 q1 ms (es + 1), xE cG q0 (fG qr), ((qr mo), .inl (cI, 7, .inl (fun i => vI (rowF gE mo i)))), xE cE q1 (va_up (fE es κ) es (some (u.1 0)))]) ++ ((restI 6 [mo]).flatMap (xR cI qr gE) ++ (List.range es).flatMap (sW cM cS gM gG gK gT gN gD κ))).Perm (CW cI cE cG cM cS x0 q0 q1 qr (ms, es + 1, gE, (put7 gM (7 * es) (fun i => gE (7 * mo + i))), (putB gB (5 * es) b1 b2 b3 b4 b5), gT, (va_up gG es 10006), gN, gK, gD) (va_up κ es u)) := fun u => by
    refine (perm_new e6).trans ?_
    have e7 : (List.range (es + 1)).flatMap (sW cM cS (put7 gM (7 * es) (fun i => gE (7 * mo + i))) (va_up gG es 10006) gK gT gN gD (va_up κ es u)) = (List.range es).flatMap (sW cM cS gM gG gK gT gN gD κ) ++ estL cM cS u.1 0 0 10006 (rowF gE mo) zM u.2.1 zB u.2.2.1 u.2.2.2.1 u.2.2.2.2 := by
      rw [he u]
      exact flat_grow (hs u)
    show List.Perm _ (xO x0 q0 q1 ms (es + 1) :: xE cG q0 (fG qr) :: xE cE q1 (fE (es + 1) (va_up κ es u)) :: ((List.range 6).flatMap (xR cI qr gE) ++ (List.range (es + 1)).flatMap (sW cM cS (put7 gM (7 * es) (fun i => gE (7 * mo + i))) (va_up gG es 10006) gK gT gN gD (va_up κ es u))))
    rw [e7, fE_new]
  have hi : ∀ u : EG, u.2.2.2.1 0 = ((b1, b2, b3, b4, b5) : S5) → SEtl (rowF gE mo) ((b1, b2, b3, b4, b5) : S5) zM zB 0 1 u.2.1 u.2.2.1 u.2.2.2.1 u.2.2.2.2 → INV (ms, es + 1, gE, (put7 gM (7 * es) (fun i => gE (7 * mo + i))), (putB gB (5 * es) b1 b2 b3 b4 b5), gT, (va_up gG es 10006), gN, gK, gD) (va_up κ es u) := fun u h1 h2 => by
    refine ⟨hms, hm, fun e he => ?_, fun e he he6 => hIO e (by omega) he6⟩
    by_cases hc : e = es
    · subst hc
      rw [up_s]
      refine ⟨?_, by rw [putB_n]; exact h1, by omega, by omega, fun k hk => by omega⟩
      rw [putB_n, z1, z2]
      exact h2.cg eM (fun j hj => absurd hj (Nat.not_lt_zero j)) (fun j hj => absurd hj (Nat.not_lt_zero j))
    · rw [up_o _ _ hc]
      exact IE_c (fun i hi => put7_o (by omega)) (putB_o hc) rfl rfl (fun _ _ _ _ => rfl) (fun _ _ => rfl) (hIE e (by omega))
  exact ⟨0, jI ((es : Nat) : Int), (ms, es + 1, gE, (put7 gM (7 * es) (fun i => gE (7 * mo + i))), (putB gB (5 * es) b1 b2 b3 b4 b5), gT, (va_up gG es 10006), gN, gK, gD), ⟨by decide, fun th c => by
    obtain ⟨gH, gU, gF, gX, gW, gI, gP, gA, gR⟩ := c
    exact CtE.pl (c_X7_begin0 l D tys htI htJ htZ m0 a ms es th gE gM gB gG hms hes mo b1 b2 b3 b4 b5 hmo h6).E (by decide) (by decide) [0, 1, 2, 3, 5] [4, 6, 7, 8, 9, 10, 11, 12, 13, 14, 15, 16, 17] rfl (show (List.range 18).Perm ([0, 1, 2, 3, 5] ++ [4, 6, 7, 8, 9, 10, 11, 12, 13, 14, 15, 16, 17]) by decide) (fun u => by obtain ⟨u1, u2, u3, u4, u5, u6, u7, u8, u9⟩ := u; rfl) (fun r u hq => ⟨(gH, gU, gF, gX, gW, gI, gP, gA, gR), hq, rfl, rfl⟩)⟩, CtG.to ((c_X6_begin0 l hl9 D tys htI htG x0 q0 q1 ms es (fG qr) hms hes mo hmo (qr mo) rfl htE htM htS (fE es κ) (rowF gE mo) ((b1, b2, b3, b4, b5) : S5) hm).wide (by decide) (by decide) (by decide) (by decide)) (cw_row hmo6) (fun r u hq => ⟨va_up κ es u, ⟨rfl, hq.1, hi u hq.2.1 hq.2.2⟩, hp u⟩) (fun _ _ z => z.elim)⟩
