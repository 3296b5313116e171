/-! the law's own methods over all that both sides hold -/
theorem CtW.ofP {S : Type} {l : Launch} {D : va_G} {tys : List (ClassId × FieldType)} {y : MethodName} {w ws' : List Cond} {fr lo mc ms : Nat} {As : List Value} {post : Int32 → S → Prop} {wc : va_W} {w1 : S → va_W} {cc : ByteArray} {maxL : Nat} {ret : Option FieldType} (hy : plainFor y = true) (hw : w = Cond.code y cc maxL ret :: ws') (hn : (lg_sl As).length ≤ maxL)
    (body : ∀ (p : Program) (e : Env) (s : State) (m : MethodId) (below : List Frame) (meth : Method) (c : Code) (A : Nat → Prop) (ls : Array Slot), Cx p s m As.toArray meth c w y.cls cc maxL ret → KK D tys s → XK s → XZ A s s.heap → XN s → va_P D vwCl wc s.heap → va_D A wc → (∀ q : Nat, s.heap.size ≤ q → A q) → lv_has ls maxL (lv_args 0 As) →
      W p l e { frames := fr, cells := mc, slots := ms, locals := lo } s m As.toArray below meth c s.heap [] 0 0 (MQ below (ENI D A post w1 (fun _ => [])) As.toArray s mc ms A) (F0 m 0 ls [])) : CtW l D tys y w fr lo mc ms As post wc w1 := by
  intro sz
  refine met_ofWF (cc := cc) (maxL := maxL) (ret := ret) hy hw ?_
  intro p e s m args below meth c s₁ B hml hv
  obtain ⟨rfl, ⟨⟨hsz, hP, hK, hD0⟩, hX, hZ⟩, hN⟩ := hv
  subst hsz
  have hl := lv_entry As hn
  rw [lg_entry_eq]
  generalize (lg_sl As ++ List.replicate (maxL - (lg_sl As).length) Slot.unset).toArray = ls at hl ⊢
  exact body p e s m below meth c (va_A wc s.heap.size) ls ⟨B.exec, B.bytes, B.returns, hml, findClass_of_methodNamed B.named, atoms_spec (ws := w) B.pre, B.notSynchronized⟩ hK hX hZ hN hP hD0.self (fun q h => Or.inr h) hl
section ZR
variable {p : Program} {l : Launch} {e : Env} {R : Room} {s : State} {m : MethodId} {args : Array Value} {below : List Frame} {meth : Method} {c : Code} {H : Heap} {locs : List Loc} {cells slots : Nat} {Q : State → Prop}
variable {cc : ByteArray} {pc : Nat} {ls : Array Slot} {rest st0 : List Value} {D : va_G} {A : Nat → Prop} {tys : List (ClassId × FieldType)} {ws wc : va_W} {H0 : Heap} {a : Nat}
theorem y_zret {S : Type} {post : Int32 → S → Prop} {w1 nw : S → va_W} {b : Bool} {x : Int} (u : S) (hexec : p.tables.exec = Jvm.exec) (hb : c.code = cc) (hr : meth.sig.returnType = some .boolean) (hlocks : meth.locks = false) (hdg : decode cc pc = .ok (.ireturn, 1)) (hP : va_P D vwCl (nw u ++ w1 u) H) (hD : va_D A (nw u ++ w1 u)) (hS : va_S A s.heap H locs) (hx : x = iB b) (hv : post (jI (iB b)) u) : W p l e R s m args below meth c H locs cells slots (MQ below (ENI D A post w1 nw) args s cells slots A) (F0 m pc ls [.int (jI x)]) := by
  subst hx
  exact W.zret (v := jI (iB b)) hexec hb hr (nar_iB b) (fun t ht _ => ⟨⟨_, u, rfl, hv, by show va_P D vwCl (nw u ++ w1 u) t.heap; rw [ht]; exact hP, hD⟩, hS.F ht⟩) hS.2.2 hdg hlocks
/-- a room's cells and slots, raised -/
theorem n_nalv (hexec : p.tables.exec = Jvm.exec) (hb : c.code = cc) (hK : KK D tys s) (hP : va_P D vwCl ws H) (q0 t0 : Nat) {cA : ClassId} {n : Nat} {f : Nat → Nat} (ha : ws[q0]? = some (a, .inl (cA, n, .inl (fun i => jI ((f i : Nat) : Int))))) (ht : tys[t0]? = some (cA, .int)) {z v : Int} {i : Nat} (hi : z = (i : Int)) (hin : i < n) (hn : n < 2147483648) (hv : ((f i : Nat) : Int) = v) (hdg : decode cc pc = .ok (.iaload, 1))
    (kk : W p l e R s m args below meth c H locs cells slots Q (F0 m (pc + 1) ls (.int (jI v) :: rest))) : W p l e R s m args below meth c H locs cells slots Q (F0 m pc ls (.int (jI z) :: .ref a :: rest)) :=
  n_ialdv (f := fun i => ((f i : Nat) : Int)) hexec hb hK hP q0 t0 ha ht hi hin hn hv hdg kk
end ZR
/-! what the law's arrays tell of what both sides know -/
def LIe (es : Nat) (gM gB gG gK : Nat → Zp) (gT gN : Nat → Nat) (gD : Nat → Bool) (fe fq fv fu : Nat → Int) (n : Nat) : Prop :=
  fe (15 * n + 12) = ((gT n : Nat) : Int) ∧ fe (15 * n + 14) = ((gN n : Nat) : Int) ∧ gT n ≤ 6 ∧ gN n ≤ 8 ∧ (∀ k, gN n ≤ k → k < 30 → gD (30 * n + k) = false) ∧
  (n < es → EW fe n (fun i => gM (7 * n + i)) (s5at gB n) (gT n) (gN n) ∧ fe (15 * n + 13) = zv (gG n) ∧ MW fq fv fu n (fun k c => gK (6 * (30 * n + k) + c)) (fun k => gD (30 * n + k)) (gN n))
def LI : SG → (Nat → Int) → (Nat → Int) → (Nat → Int) → (Nat → Int) → (Nat → Int) → (Nat → Nat) → Nat → Prop
  | (ms, es, gE, gM, gB, gT, gG, gN, gK, gD), fm, fe, fq, fv, fu, fg, c => ms ≤ 3 ∧ es ≤ 2 ∧ fg 0 = ms ∧ fg 1 = es ∧ (∀ i, i < 21 → fm i = zv (gE i)) ∧ (∀ n, n < 2 → LIe es gM gB gG gK gT gN gD fe fq fv fu n) ∧ 0 ≤ fe 42 ∧ fe 42 ≤ ((c : Nat) : Int)
section LIs
variable {ms es : Nat} {gE gM gB gG gK : Nat → Zp} {gT gN : Nat → Nat} {gD : Nat → Bool} {fm fe fq fv fu : Nat → Int} {fg : Nat → Nat} {c : Nat}
theorem EW.same {fe' : Nat → Int} {n T N : Nat} {P : Nat → Zp} {B : S5} (h : EW fe n P B T N) (hs : ∀ i, i < 13 → fe' (15 * n + i) = fe (15 * n + i)) (h14 : fe' (15 * n + 14) = fe (15 * n + 14)) : EW fe' n P B T N := by
  obtain ⟨h0, h7, h8, h9, h10, h11, h12, h13⟩ := h
  exact ⟨fun i hi => by rw [hs i (by omega)]; exact h0 i hi, by rw [hs 7 (by omega)]; exact h7, by rw [hs 8 (by omega)]; exact h8, by rw [hs 9 (by omega)]; exact h9, by rw [hs 10 (by omega)]; exact h10, by rw [hs 11 (by omega)]; exact h11, by rw [hs 12 (by omega)]; exact h12, by rw [h14]; exact h13⟩
theorem LIe.same {fe' fq' fv' fu' : Nat → Int} {gG' gK' : Nat → Zp} {gT' gN' : Nat → Nat} {gD' : Nat → Bool} {n : Nat} (h : LIe es gM gB gG gK gT gN gD fe fq fv fu n) (hs : ∀ i, i < 15 → fe' (15 * n + i) = fe (15 * n + i)) (hT : gT' n = gT n) (hN : gN' n = gN n) (hG : gG' n = gG n) (hq : ∀ k, k < gN n → fq' (8 * n + k) = fq (8 * n + k)) (hv : ∀ k, k < gN n → fv' (8 * n + k) = fv (8 * n + k)) (hu : ∀ k, k < gN n → fu' (8 * n + k) = fu (8 * n + k)) (hK : ∀ k, k < gN n → ∀ i, i < 6 → gK' (6 * (30 * n + k) + i) = gK (6 * (30 * n + k) + i)) (hD : ∀ k, k < 30 → gD' (30 * n + k) = gD (30 * n + k)) : LIe es gM gB gG' gK' gT' gN' gD' fe' fq' fv' fu' n := by
  obtain ⟨h1, h2, h3, h4, hZ, h5⟩ := h
  refine ⟨by rw [hs 12 (by omega), hT]; exact h1, by rw [hs 14 (by omega), hN]; exact h2, by rw [hT]; exact h3, by rw [hN]; exact h4, fun k k1 k2 => by rw [hN] at k1; rw [hD k k2]; exact hZ k k1 k2, fun hn => ?_⟩
  obtain ⟨a1, a2, a3⟩ := h5 hn
  rw [hT, hN, hG]
  refine ⟨a1.same (fun i hi => hs i (by omega)) (hs 14 (by omega)), by rw [hs 13 (by omega)]; exact a2, fun k hk => ?_⟩
  obtain ⟨b1, b2, b3⟩ := a3 k hk
  refine ⟨?_, ?_, ?_⟩
  · rw [hq k hk, b1]
    show zv (gK _) * _ + (16 * (zv (gK _) + 1) + zv (gK _)) = zv (gK' _) * _ + (16 * (zv (gK' _) + 1) + zv (gK' _))
    rw [hK k hk 1 (by omega), hK k hk 5 (by omega), hK k hk 0 (by omega)]
  · rw [hv k hk, b2]
    show zv (gK _) * _ + zv (gK _) = zv (gK' _) * _ + zv (gK' _)
    rw [hK k hk 2 (by omega), hK k hk 3 (by omega)]
  · rw [hu k hk, b3]
    show 2 * zv (gK _) + iB (gD _) = 2 * zv (gK' _) + iB (gD' _)
    rw [hK k hk 4 (by omega), hD k (by omega)]
theorem LI.model (h : LI (ms, es, gE, gM, gB, gT, gG, gN, gK, gD) fm fe fq fv fu fg c) (h3 : ms < 3) : LI (ms + 1, es, va_up (va_up gE (7 * ms + 0) 1) (7 * ms + 3) 1, gM, gB, gT, gG, gN, gK, gD) (va_up (va_up fm (7 * ms) 1) (7 * ms + 3) 1) fe fq fv fu (va_up fg 0 (ms + 1)) c := by
  obtain ⟨h1, h2, g0, g1, hm, hL⟩ := h
  refine ⟨by omega, h2, up_s _ _ _, by rw [up_o _ _ (by omega)]; exact g1, fun i hi => ?_, hL⟩
  by_cases i3 : i = 7 * ms + 3
  · subst i3; rw [up_s, up_s]; exact zv_z1.symm
  · rw [up_o _ _ i3, up_o _ _ i3]
    by_cases i0 : i = 7 * ms
    · subst i0; rw [up_s, show 7 * ms + 0 = 7 * ms from rfl, up_s]; exact zv_z1.symm
    · rw [up_o _ _ i0, up_o _ _ (by omega)]; exact hm i hi
theorem LI.entry (h : LI (ms, es, gE, gM, gB, gT, gG, gN, gK, gD) fm fe fq fv fu fg c) (mo wh : Nat) (z : Zp) : LI (ms, es, va_up gE (7 * mo + wh) z, gM, gB, gT, gG, gN, gK, gD) (va_up fm (7 * mo + wh) (zv z)) fe fq fv fu fg c := by
  obtain ⟨h1, h2, g0, g1, hm, hL⟩ := h
  refine ⟨h1, h2, g0, g1, fun i hi => ?_, hL⟩
  by_cases i3 : i = 7 * mo + wh
  · subst i3; rw [up_s, up_s]
  · rw [up_o _ _ i3, up_o _ _ i3]; exact hm i hi
theorem LI.m21 (h : LI (ms, es, gE, gM, gB, gT, gG, gN, gK, gD) fm fe fq fv fu fg c) (x : Int) : LI (ms, es, gE, gM, gB, gT, gG, gN, gK, gD) (va_up fm 21 x) fe fq fv fu fg c := by
  obtain ⟨h1, h2, g0, g1, hm, hL⟩ := h
  exact ⟨h1, h2, g0, g1, fun i hi => by rw [up_o _ _ (by omega)]; exact hm i hi, hL⟩
/-- the row of e that begin lays -/
def eb (fe : Nat → Int) (n : Nat) (p0 p1 p2 p3 p4 p5 p6 b1 b2 b3 b4 b5 : Int) : Nat → Int := va_up (va_up (va_up (va_up (va_up (va_up (va_up (va_up (va_up (va_up (va_up (va_up (va_up fe (15 * n + 0) p0) (15 * n + 1) p1) (15 * n + 2) p2) (15 * n + 3) p3) (15 * n + 4) p4) (15 * n + 5) p5) (15 * n + 6) p6) (15 * n + 7) b1) (15 * n + 8) b2) (15 * n + 9) b3) (15 * n + 10) b4) (15 * n + 11) b5) (15 * n + 13) 10006
theorem eb_o {n : Nat} {p0 p1 p2 p3 p4 p5 p6 b1 b2 b3 b4 b5 : Int} {i : Nat} (h : i < 15 * n ∨ 15 * n + 15 ≤ i ∨ i = 15 * n + 12 ∨ i = 15 * n + 14) : eb fe n p0 p1 p2 p3 p4 p5 p6 b1 b2 b3 b4 b5 i = fe i := by
  unfold eb
  rw [up_o _ _ (by omega), up_o _ _ (by omega), up_o _ _ (by omega), up_o _ _ (by omega), up_o _ _ (by omega), up_o _ _ (by omega), up_o _ _ (by omega), up_o _ _ (by omega), up_o _ _ (by omega), up_o _ _ (by omega), up_o _ _ (by omega), up_o _ _ (by omega), up_o _ _ (by omega)]
theorem eb_n {n : Nat} {p0 p1 p2 p3 p4 p5 p6 b1 b2 b3 b4 b5 : Int} : ∀ {i : Nat}, i < 14 → i ≠ 12 → eb fe n p0 p1 p2 p3 p4 p5 p6 b1 b2 b3 b4 b5 (15 * n + i) = [p0, p1, p2, p3, p4, p5, p6, b1, b2, b3, b4, b5, 0, 10006].getD i 0
  | 0, _, _ => by unfold eb; rw [up_o _ _ (show 15 * n + 0 ≠ 15 * n + 13 by omega), up_o _ _ (show 15 * n + 0 ≠ 15 * n + 11 by omega), up_o _ _ (show 15 * n + 0 ≠ 15 * n + 10 by omega), up_o _ _ (show 15 * n + 0 ≠ 15 * n + 9 by omega), up_o _ _ (show 15 * n + 0 ≠ 15 * n + 8 by omega), up_o _ _ (show 15 * n + 0 ≠ 15 * n + 7 by omega), up_o _ _ (show 15 * n + 0 ≠ 15 * n + 6 by omega), up_o _ _ (show 15 * n + 0 ≠ 15 * n + 5 by omega), up_o _ _ (show 15 * n + 0 ≠ 15 * n + 4 by omega), up_o _ _ (show 15 * n + 0 ≠ 15 * n + 3 by omega), up_o _ _ (show 15 * n + 0 ≠ 15 * n + 2 by omega), up_o _ _ (show 15 * n + 0 ≠ 15 * n + 1 by omega), up_s]; rfl
  | 1, _, _ => by unfold eb; rw [up_o _ _ (show 15 * n + 1 ≠ 15 * n + 13 by omega), up_o _ _ (show 15 * n + 1 ≠ 15 * n + 11 by omega), up_o _ _ (show 15 * n + 1 ≠ 15 * n + 10 by omega), up_o _ _ (show 15 * n + 1 ≠ 15 * n + 9 by omega), up_o _ _ (show 15 * n + 1 ≠ 15 * n + 8 by omega), up_o _ _ (show 15 * n + 1 ≠ 15 * n + 7 by omega), up_o _ _ (show 15 * n + 1 ≠ 15 * n + 6 by omega), up_o _ _ (show 15 * n + 1 ≠ 15 * n + 5 by omega), up_o _ _ (show 15 * n + 1 ≠ 15 * n + 4 by omega), up_o _ _ (show 15 * n + 1 ≠ 15 * n + 3 by omega), up_o _ _ (show 15 * n + 1 ≠ 15 * n + 2 by omega), up_s]; rfl
  | 2, _, _ => by unfold eb; rw [up_o _ _ (show 15 * n + 2 ≠ 15 * n + 13 by omega), up_o _ _ (show 15 * n + 2 ≠ 15 * n + 11 by omega), up_o _ _ (show 15 * n + 2 ≠ 15 * n + 10 by omega), up_o _ _ (show 15 * n + 2 ≠ 15 * n + 9 by omega), up_o _ _ (show 15 * n + 2 ≠ 15 * n + 8 by omega), up_o _ _ (show 15 * n + 2 ≠ 15 * n + 7 by omega), up_o _ _ (show 15 * n + 2 ≠ 15 * n + 6 by omega), up_o _ _ (show 15 * n + 2 ≠ 15 * n + 5 by omega), up_o _ _ (show 15 * n + 2 ≠ 15 * n + 4 by omega), up_o _ _ (show 15 * n + 2 ≠ 15 * n + 3 by omega), up_s]; rfl
  | 3, _, _ => by unfold eb; rw [up_o _ _ (show 15 * n + 3 ≠ 15 * n + 13 by omega), up_o _ _ (show 15 * n + 3 ≠ 15 * n + 11 by omega), up_o _ _ (show 15 * n + 3 ≠ 15 * n + 10 by omega), up_o _ _ (show 15 * n + 3 ≠ 15 * n + 9 by omega), up_o _ _ (show 15 * n + 3 ≠ 15 * n + 8 by omega), up_o _ _ (show 15 * n + 3 ≠ 15 * n + 7 by omega), up_o _ _ (show 15 * n + 3 ≠ 15 * n + 6 by omega), up_o _ _ (show 15 * n + 3 ≠ 15 * n + 5 by omega), up_o _ _ (show 15 * n + 3 ≠ 15 * n + 4 by omega), up_s]; rfl
  | 4, _, _ => by unfold eb; rw [up_o _ _ (show 15 * n + 4 ≠ 15 * n + 13 by omega), up_o _ _ (show 15 * n + 4 ≠ 15 * n + 11 by omega), up_o _ _ (show 15 * n + 4 ≠ 15 * n + 10 by omega), up_o _ _ (show 15 * n + 4 ≠ 15 * n + 9 by omega), up_o _ _ (show 15 * n + 4 ≠ 15 * n + 8 by omega), up_o _ _ (show 15 * n + 4 ≠ 15 * n + 7 by omega), up_o _ _ (show 15 * n + 4 ≠ 15 * n + 6 by omega), up_o _ _ (show 15 * n + 4 ≠ 15 * n + 5 by omega), up_s]; rfl
  | 5, _, _ => by unfold eb; rw [up_o _ _ (show 15 * n + 5 ≠ 15 * n + 13 by omega), up_o _ _ (show 15 * n + 5 ≠ 15 * n + 11 by omega), up_o _ _ (show 15 * n + 5 ≠ 15 * n + 10 by omega), up_o _ _ (show 15 * n + 5 ≠ 15 * n + 9 by omega), up_o _ _ (show 15 * n + 5 ≠ 15 * n + 8 by omega), up_o _ _ (show 15 * n + 5 ≠ 15 * n + 7 by omega), up_o _ _ (show 15 * n + 5 ≠ 15 * n + 6 by omega), up_s]; rfl
  | 6, _, _ => by unfold eb; rw [up_o _ _ (show 15 * n + 6 ≠ 15 * n + 13 by omega), up_o _ _ (show 15 * n + 6 ≠ 15 * n + 11 by omega), up_o _ _ (show 15 * n + 6 ≠ 15 * n + 10 by omega), up_o _ _ (show 15 * n + 6 ≠ 15 * n + 9 by omega), up_o _ _ (show 15 * n + 6 ≠ 15 * n + 8 by omega), up_o _ _ (show 15 * n + 6 ≠ 15 * n + 7 by omega), up_s]; rfl
  | 7, _, _ => by unfold eb; rw [up_o _ _ (show 15 * n + 7 ≠ 15 * n + 13 by omega), up_o _ _ (show 15 * n + 7 ≠ 15 * n + 11 by omega), up_o _ _ (show 15 * n + 7 ≠ 15 * n + 10 by omega), up_o _ _ (show 15 * n + 7 ≠ 15 * n + 9 by omega), up_o _ _ (show 15 * n + 7 ≠ 15 * n + 8 by omega), up_s]; rfl
  | 8, _, _ => by unfold eb; rw [up_o _ _ (show 15 * n + 8 ≠ 15 * n + 13 by omega), up_o _ _ (show 15 * n + 8 ≠ 15 * n + 11 by omega), up_o _ _ (show 15 * n + 8 ≠ 15 * n + 10 by omega), up_o _ _ (show 15 * n + 8 ≠ 15 * n + 9 by omega), up_s]; rfl
  | 9, _, _ => by unfold eb; rw [up_o _ _ (show 15 * n + 9 ≠ 15 * n + 13 by omega), up_o _ _ (show 15 * n + 9 ≠ 15 * n + 11 by omega), up_o _ _ (show 15 * n + 9 ≠ 15 * n + 10 by omega), up_s]; rfl
  | 10, _, _ => by unfold eb; rw [up_o _ _ (show 15 * n + 10 ≠ 15 * n + 13 by omega), up_o _ _ (show 15 * n + 10 ≠ 15 * n + 11 by omega), up_s]; rfl
  | 11, _, _ => by unfold eb; rw [up_o _ _ (show 15 * n + 11 ≠ 15 * n + 13 by omega), up_s]; rfl
  | 12, _, h => absurd rfl h
  | 13, _, _ => by unfold eb; rw [up_s]; rfl
theorem LI.begin (h : LI (ms, es, gE, gM, gB, gT, gG, gN, gK, gD) fm fe fq fv fu fg c) (hN0 : es < 2 → gN es = 0) (h2 : es < 2) (mo : Nat) (b1 b2 b3 b4 b5 : Zp) : LI (ms, es + 1, gE, put7 gM (7 * es) (fun i => gE (7 * mo + i)), putB gB (5 * es) b1 b2 b3 b4 b5, gT, va_up gG es 10006, gN, gK, gD) fm (eb fe es (zv (gE (7 * mo + 0))) (zv (gE (7 * mo + 1))) (zv (gE (7 * mo + 2))) (zv (gE (7 * mo + 3))) (zv (gE (7 * mo + 4))) (zv (gE (7 * mo + 5))) (zv (gE (7 * mo + 6))) (zv b1) (zv b2) (zv b3) (zv b4) (zv b5)) fq fv fu (va_up fg 1 (es + 1)) c := by
  obtain ⟨h1, -, g0, g1, hm, hL, c0, c1⟩ := h
  refine ⟨h1, by omega, by rw [up_o _ _ (by omega)]; exact g0, up_s _ _ _, hm, fun n hn => ?_, by rw [eb_o (by omega)]; exact c0, by rw [eb_o (by omega)]; exact c1⟩
  obtain ⟨a1, a2, a3, a4, aZ, a5⟩ := hL n hn
  by_cases hne : n = es
  · subst hne
    refine ⟨by rw [eb_o (by omega)]; exact a1, by rw [eb_o (by omega)]; exact a2, a3, a4, aZ, fun _ => ⟨?_, ?_, ?_⟩⟩
    · rw [putB_n]
      refine ⟨fun i hi => ?_, ?_, ?_, ?_, ?_, ?_, by rw [eb_o (by omega)]; exact a1, by rw [eb_o (by omega)]; exact a2⟩
      · show _ = zv (put7 gM (7 * n) (fun i => gE (7 * mo + i)) (7 * n + i))
        rw [put7_n hi, eb_n (by omega) (by omega)]
        match i, hi with
        | 0, _ => rfl
        | 1, _ => rfl
        | 2, _ => rfl
        | 3, _ => rfl
        | 4, _ => rfl
        | 5, _ => rfl
        | 6, _ => rfl
      · rw [eb_n (by omega) (by omega)]; rfl
      · rw [eb_n (by omega) (by omega)]; rfl
      · rw [eb_n (by omega) (by omega)]; rfl
      · rw [eb_n (by omega) (by omega)]; rfl
      · rw [eb_n (by omega) (by omega)]; rfl
    · rw [eb_n (by omega) (by omega), up_s]
      show (10006 : Int) = zv 10006
      decide
    · intro k hk
      rw [hN0 hn] at hk
      omega
  · refine ⟨by rw [eb_o (by omega)]; exact a1, by rw [eb_o (by omega)]; exact a2, a3, a4, aZ, fun hlt => ?_⟩
    obtain ⟨d1, d2, d3⟩ := a5 (by omega)
    rw [putB_o hne, up_o _ _ hne]
    refine ⟨?_, by rw [eb_o (by omega)]; exact d2, d3⟩
    have d4 := d1.same (fe' := eb fe es (zv (gE (7 * mo + 0))) (zv (gE (7 * mo + 1))) (zv (gE (7 * mo + 2))) (zv (gE (7 * mo + 3))) (zv (gE (7 * mo + 4))) (zv (gE (7 * mo + 5))) (zv (gE (7 * mo + 6))) (zv b1) (zv b2) (zv b3) (zv b4) (zv b5)) (fun i hi => eb_o (by omega)) (eb_o (by omega))
    obtain ⟨e0, e1⟩ := d4
    exact ⟨fun i hi => by rw [e0 i hi]; exact congrArg zv (put7_o (by omega)).symm, e1⟩
/-- .. and of the row behind them -/
theorem LI.e43 (h : LI (ms, es, gE, gM, gB, gT, gG, gN, gK, gD) fm fe fq fv fu fg c) (x : Int) : LI (ms, es, gE, gM, gB, gT, gG, gN, gK, gD) fm (va_up fe 43 x) fq fv fu fg c := by
  obtain ⟨h1, h2, g0, g1, hm, hL, c0, c1⟩ := h
  exact ⟨h1, h2, g0, g1, hm, fun n hn => (hL n hn).same (fun i hi => up_o _ _ (by omega)) rfl rfl rfl (fun _ _ => rfl) (fun _ _ => rfl) (fun _ _ => rfl) (fun _ _ _ _ => rfl) (fun _ _ => rfl), by rw [up_o _ _ (by omega)]; exact c0, by rw [up_o _ _ (by omega)]; exact c1⟩
theorem LI.e42 (h : LI (ms, es, gE, gM, gB, gT, gG, gN, gK, gD) fm fe fq fv fu fg c) : LI (ms, es, gE, gM, gB, gT, gG, gN, gK, gD) fm (va_up fe 42 (fe 42 + 1)) fq fv fu fg (c + 1) := by
  obtain ⟨h1, h2, g0, g1, hm, hL, c0, c1⟩ := h
  exact ⟨h1, h2, g0, g1, hm, fun n hn => (hL n hn).same (fun i hi => up_o _ _ (by omega)) rfl rfl rfl (fun _ _ => rfl) (fun _ _ => rfl) (fun _ _ => rfl) (fun _ _ _ _ => rfl) (fun _ _ => rfl), by rw [up_s]; omega, by rw [up_s]; omega⟩
theorem LI.up (h : LI (ms, es, gE, gM, gB, gT, gG, gN, gK, gD) fm fe fq fv fu fg c) : LI (ms, es, gE, gM, gB, gT, gG, gN, gK, gD) fm fe fq fv fu fg (c + 1) := by
  obtain ⟨h1, h2, g0, g1, hm, hL, c0, c1⟩ := h
  exact ⟨h1, h2, g0, g1, hm, hL, c0, by omega⟩
theorem LI.gate (h : LI (ms, es, gE, gM, gB, gT, gG, gN, gK, gD) fm fe fq fv fu fg c) {ev : Nat} (hev : ev < es) (z : Zp) : LI (ms, es, gE, gM, gB, gT, va_up gG ev z, gN, gK, gD) fm (va_up fe (15 * ev + 13) (zv z)) fq fv fu fg c := by
  obtain ⟨h1, h2, g0, g1, hm, hL, c0, c1⟩ := h
  refine ⟨h1, h2, g0, g1, hm, fun n hn => ?_, by rw [up_o _ _ (by omega)]; exact c0, by rw [up_o _ _ (by omega)]; exact c1⟩
  by_cases hne : n = ev
  · subst hne
    obtain ⟨a1, a2, a3, a4, aZ, a5⟩ := hL n hn
    refine ⟨by rw [up_o _ _ (by omega)]; exact a1, by rw [up_o _ _ (by omega)]; exact a2, a3, a4, aZ, fun hlt => ?_⟩
    obtain ⟨d1, d2, d3⟩ := a5 hlt
    exact ⟨d1.same (fun i hi => up_o _ _ (by omega)) (up_o _ _ (by omega)), by rw [up_s, up_s], d3⟩
  · exact (hL n hn).same (fun i hi => up_o _ _ (by omega)) rfl rfl (up_o _ _ hne) (fun _ _ => rfl) (fun _ _ => rfl) (fun _ _ => rfl) (fun _ _ _ _ => rfl) (fun _ _ => rfl)
theorem LI.predict (h : LI (ms, es, gE, gM, gB, gT, gG, gN, gK, gD) fm fe fq fv fu fg c) {ev : Nat} (hev : ev < es) (h6 : gT ev < 6) : LI (ms, es, gE, gM, gB, va_up gT ev (gT ev + 1), gG, gN, gK, gD) fm (va_up fe (15 * ev + 12) ((gT ev + 1 : Nat) : Int)) fq fv fu fg c := by
  obtain ⟨h1, h2, g0, g1, hm, hL, c0, c1⟩ := h
  refine ⟨h1, h2, g0, g1, hm, fun n hn => ?_, by rw [up_o _ _ (by omega)]; exact c0, by rw [up_o _ _ (by omega)]; exact c1⟩
  by_cases hne : n = ev
  · subst hne
    obtain ⟨a1, a2, a3, a4, aZ, a5⟩ := hL n hn
    refine ⟨by rw [up_s, up_s], by rw [up_o _ _ (by omega)]; exact a2, by rw [up_s]; omega, a4, aZ, fun hlt => ?_⟩
    obtain ⟨⟨d0, d7, d8, d9, d10, d11, d12, d14⟩, d2, d3⟩ := a5 hlt
    refine ⟨⟨fun i hi => by rw [up_o _ _ (by omega)]; exact d0 i hi, by rw [up_o _ _ (by omega)]; exact d7, by rw [up_o _ _ (by omega)]; exact d8, by rw [up_o _ _ (by omega)]; exact d9, by rw [up_o _ _ (by omega)]; exact d10, by rw [up_o _ _ (by omega)]; exact d11, by rw [up_s, up_s], by rw [up_o _ _ (by omega)]; exact d14⟩, by rw [up_o _ _ (by omega)]; exact d2, d3⟩
  · exact (hL n hn).same (fun i hi => up_o _ _ (by omega)) (up_o _ _ hne) rfl rfl (fun _ _ => rfl) (fun _ _ => rfl) (fun _ _ => rfl) (fun _ _ _ _ => rfl) (fun _ _ => rfl)
/-- a measurement told: what goes sees -/
theorem MW.told {ev N : Nat} {tt h0 h1 zz rr th : Zp} (hM : MW fq fv fu ev (fun k c => gK (6 * (30 * ev + k) + c)) (fun k => gD (30 * ev + k)) N) (hd : gD (30 * ev + N) = false) : MW (va_up fq (8 * ev + N) (zv h0 * 4294967296 + (16 * (zv th + 1) + zv tt))) (va_up fv (8 * ev + N) (zv h1 * 4294967296 + zv zz)) (va_up fu (8 * ev + N) (2 * zv rr)) ev (fun k c => told6 gK (6 * (30 * ev + N)) tt h0 h1 zz rr th (6 * (30 * ev + k) + c)) (fun k => gD (30 * ev + k)) (N + 1) := by
  intro k hk
  by_cases hkN : k = N
  · subst hkN
    refine ⟨?_, ?_, ?_⟩
    · dsimp only; rw [up_s, told_n (by omega), told_n (by omega), told_n (by omega)]; rfl
    · dsimp only; rw [up_s, told_n (by omega), told_n (by omega)]; rfl
    · dsimp only
      rw [up_s, told_n (by omega), hd]
      show _ = 2 * zv rr + 0
      omega
  · obtain ⟨b1, b2, b3⟩ := hM k (by omega)
    refine ⟨?_, ?_, ?_⟩
    · dsimp only; rw [up_o _ _ (by omega), told_o (by omega), told_o (by omega), told_o (by omega)]; exact b1
    · dsimp only; rw [up_o _ _ (by omega), told_o (by omega), told_o (by omega)]; exact b2
    · dsimp only; rw [up_o _ _ (by omega), told_o (by omega)]; exact b3
theorem EW.count {n T N N' : Nat} {P : Nat → Zp} {B : S5} (h : EW fe n P B T N) {x : Int} (hx : x = ((N' : Nat) : Int)) : EW (va_up fe (15 * n + 14) x) n P B T N' := by
  obtain ⟨h0, h7, h8, h9, h10, h11, h12, h13⟩ := h
  exact ⟨fun i hi => by rw [up_o _ _ (by omega)]; exact h0 i hi, by rw [up_o _ _ (by omega)]; exact h7, by rw [up_o _ _ (by omega)]; exact h8, by rw [up_o _ _ (by omega)]; exact h9, by rw [up_o _ _ (by omega)]; exact h10, by rw [up_o _ _ (by omega)]; exact h11, by rw [up_o _ _ (by omega)]; exact h12, by rw [up_s, hx]⟩
theorem LI.told (h : LI (ms, es, gE, gM, gB, gT, gG, gN, gK, gD) fm fe fq fv fu fg c) {ev : Nat} (hev : ev < es) (h8 : gN ev < 8) {tt h0 h1 zz rr : Zp} (hd : gD (30 * ev + gN ev) = false) {x : Int} : LI (ms, es, gE, gM, gB, gT, gG, va_up (va_up gN ev (gN ev + 1)) ev (gN ev + 1), told6 gK (6 * (30 * ev + gN ev)) tt h0 h1 zz rr (gG ev), gD) fm (va_up (va_up fe (15 * ev + 14) x) (15 * ev + 14) ((gN ev + 1 : Nat) : Int)) (va_up fq (8 * ev + gN ev) (zv h0 * 4294967296 + (16 * (zv (gG ev) + 1) + zv tt))) (va_up fv (8 * ev + gN ev) (zv h1 * 4294967296 + zv zz)) (va_up fu (8 * ev + gN ev) (2 * zv rr)) fg c := by
  obtain ⟨h1', h2, g0, g1, hm, hL, c0, c1⟩ := h
  refine ⟨h1', h2, g0, g1, hm, fun n hn => ?_, by rw [up_o _ _ (by omega), up_o _ _ (by omega)]; exact c0, by rw [up_o _ _ (by omega), up_o _ _ (by omega)]; exact c1⟩
  by_cases hne : n = ev
  · subst hne
    obtain ⟨a1, a2, a3, a4, aZ, a5⟩ := hL n hn
    refine ⟨by rw [up_o _ _ (by omega), up_o _ _ (by omega)]; exact a1, by rw [up_s, up_s], a3, by rw [up_s]; omega, fun k k1 k2 => by rw [up_s] at k1; exact aZ k (by omega) k2, fun hlt => ?_⟩
    obtain ⟨d1, d2, d3⟩ := a5 hlt
    rw [up_s]
    exact ⟨(d1.count (N' := gN n + 1) (x := ((gN n + 1 : Nat) : Int)) rfl).same (fun i hi => by rw [up_o _ _ (by omega), up_o _ _ (by omega), up_o _ _ (by omega)]) (by rw [up_s, up_s]), by rw [up_o _ _ (by omega), up_o _ _ (by omega)]; exact d2, d3.told hd⟩
  · exact (hL n hn).same (fun i hi => by rw [up_o _ _ (by omega), up_o _ _ (by omega)]) rfl (by rw [up_o _ _ hne, up_o _ _ hne]) rfl (fun k hk => up_o _ _ (by have := (hL n hn).2.2.2.1; omega)) (fun k hk => up_o _ _ (by have := (hL n hn).2.2.2.1; omega)) (fun k hk => up_o _ _ (by have := (hL n hn).2.2.2.1; omega)) (fun k hk i hi => told_o (by have := (hL n hn).2.2.2.1; omega)) (fun _ _ => rfl)
theorem LI.notold (h : LI (ms, es, gE, gM, gB, gT, gG, gN, gK, gD) fm fe fq fv fu fg c) {ev : Nat} (hev : ev < es) (h8 : gN ev < 8) {tt h0 h1 zz rr th : Zp} {x y1 y2 y3 : Int} : LI (ms, es, gE, gM, gB, gT, gG, va_up (va_up gN ev (gN ev + 1)) ev (gN ev), told6 gK (6 * (30 * ev + gN ev)) tt h0 h1 zz rr th, gD) fm (va_up (va_up fe (15 * ev + 14) x) (15 * ev + 14) ((gN ev : Nat) : Int)) (va_up fq (8 * ev + gN ev) y1) (va_up fv (8 * ev + gN ev) y2) (va_up fu (8 * ev + gN ev) y3) fg c := by
  obtain ⟨h1', h2, g0, g1, hm, hL, c0, c1⟩ := h
  refine ⟨h1', h2, g0, g1, hm, fun n hn => ?_, by rw [up_o _ _ (by omega), up_o _ _ (by omega)]; exact c0, by rw [up_o _ _ (by omega), up_o _ _ (by omega)]; exact c1⟩
  have h4 := (hL n hn).2.2.2.1
  have h14 := (hL n hn).2.1
  by_cases hne : n = ev
  · subst hne
    refine (hL n hn).same (fun i hi => ?_) rfl (by rw [up_s]) rfl (fun k hk => up_o _ _ (by omega)) (fun k hk => up_o _ _ (by omega)) (fun k hk => up_o _ _ (by omega)) (fun k hk i hi => told_o (by omega)) (fun _ _ => rfl)
    by_cases i4 : i = 14
    · subst i4; rw [up_s]; exact h14.symm
    · rw [up_o _ _ (by omega), up_o _ _ (by omega)]
  · exact (hL n hn).same (fun i hi => by rw [up_o _ _ (by omega), up_o _ _ (by omega)]) rfl (by rw [up_o _ _ hne, up_o _ _ hne]) rfl (fun k hk => up_o _ _ (by omega)) (fun k hk => up_o _ _ (by omega)) (fun k hk => up_o _ _ (by omega)) (fun k hk i hi => told_o (by omega)) (fun _ _ => rfl)
theorem MW.dropped {ev N kv : Nat} (hM : MW fq fv fu ev (fun k c => gK (6 * (30 * ev + k) + c)) (fun k => gD (30 * ev + k)) N) (hd : gD (30 * ev + kv) = false) (hk : kv < N) : MW fq fv (va_up fu (8 * ev + kv) (fu (8 * ev + kv) + 1)) ev (fun k c => gK (6 * (30 * ev + k) + c)) (fun k => va_up gD (30 * ev + kv) true (30 * ev + k)) N := by
  intro k hk2
  obtain ⟨b1, b2, b3⟩ := hM k hk2
  refine ⟨b1, b2, ?_⟩
  by_cases hkN : k = kv
  · subst hkN
    dsimp only at b3 ⊢
    rw [up_s, b3, up_s, hd]
    show 2 * zv _ + 0 + 1 = 2 * zv _ + 1
    omega
  · dsimp only
    rw [up_o _ _ (by omega), up_o _ _ (by omega)]; exact b3
theorem LI.dropped (h : LI (ms, es, gE, gM, gB, gT, gG, gN, gK, gD) fm fe fq fv fu fg c) {ev kv : Nat} (hev : ev < es) (hk : kv < gN ev) (hd : gD (30 * ev + kv) = false) {x : Int} : LI (ms, es, gE, gM, gB, gT, gG, gN, gK, va_up (va_up gD (30 * ev + kv) true) (30 * ev + kv) true) fm fe fq fv (va_up (va_up fu (8 * ev + kv) x) (8 * ev + kv) (fu (8 * ev + kv) + 1)) fg c := by
  obtain ⟨h1', h2, g0, g1, hm, hL, c0, c1⟩ := h
  refine ⟨h1', h2, g0, g1, hm, fun n hn => ?_, c0, c1⟩
  have h4 := (hL n hn).2.2.2.1
  have h4e := (hL ev (by omega)).2.2.2.1
  by_cases hne : n = ev
  · subst hne
    obtain ⟨a1, a2, a3, a4, aZ, a5⟩ := hL n hn
    refine ⟨a1, a2, a3, a4, fun k k1 k2 => by rw [up_o _ _ (by omega), up_o _ _ (by omega)]; exact aZ k k1 k2, fun hlt => ?_⟩
    obtain ⟨d1, d2, d3⟩ := a5 hlt
    refine ⟨d1, d2, fun k hk2 => ?_⟩
    obtain ⟨b1, b2, b3⟩ := (d3.dropped hd hk) k hk2
    refine ⟨b1, b2, ?_⟩
    dsimp only at b3 ⊢
    by_cases hkN : k = kv
    · subst hkN
      rw [up_s, up_s] at b3
      rw [up_s, b3, up_s]
    · rw [up_o _ _ (by omega)] at b3
      rw [up_o _ _ (by omega), up_o _ _ (by omega), up_o _ _ (show 30 * n + k ≠ 30 * n + kv by omega)]
      exact b3
  · exact (hL n hn).same (fun _ _ => rfl) rfl rfl rfl (fun _ _ => rfl) (fun _ _ => rfl) (fun k hk2 => by rw [up_o _ _ (by omega), up_o _ _ (by omega)]) (fun _ _ _ _ => rfl) (fun k hk2 => by rw [up_o _ _ (by omega), up_o _ _ (by omega)])
theorem LI.undropped (h : LI (ms, es, gE, gM, gB, gT, gG, gN, gK, gD) fm fe fq fv fu fg c) {ev kv : Nat} (hev : ev < es) (hk : kv < gN ev) (hd : gD (30 * ev + kv) = false) {x : Int} : LI (ms, es, gE, gM, gB, gT, gG, gN, gK, va_up (va_up gD (30 * ev + kv) true) (30 * ev + kv) false) fm fe fq fv (va_up (va_up fu (8 * ev + kv) x) (8 * ev + kv) (fu (8 * ev + kv))) fg c := by
  obtain ⟨h1', h2, g0, g1, hm, hL, c0, c1⟩ := h
  refine ⟨h1', h2, g0, g1, hm, fun n hn => (hL n hn).same (fun _ _ => rfl) rfl rfl rfl (fun _ _ => rfl) (fun _ _ => rfl) (fun k hk2 => ?_) (fun _ _ _ _ => rfl) (fun k hk2 => ?_), c0, c1⟩
  · by_cases hq : 8 * n + k = 8 * ev + kv
    · rw [hq, up_s]
    · rw [up_o _ _ hq, up_o _ _ hq]
  · by_cases hq : 30 * n + k = 30 * ev + kv
    · rw [hq, up_s, hd]
    · rw [up_o _ _ hq, up_o _ _ hq]
end LIs
