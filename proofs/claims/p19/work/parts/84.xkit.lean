/-! what a body that may throw knows of its start; contracts that return or throw -/
section
variable {p : Program} {l : Launch} {e : Env} {R : Room} {s : State} {m : MethodId} {args : Array Value} {below : List Frame} {meth : Method} {c : Code} {H : Heap} {locs : List Loc} {cells slots : Nat} {Q : State → Prop}
variable {mc ms : Nat} {free : Addr → Prop} {A0 A1 : Nat → Prop} {H0 : Heap} {a : Array Value} {pc : Nat} {ls : Array Slot} {st0 rest : List Value}
theorem vx_callq {S SX : Type} {post : Option Nat → S → Prop} {px : SX → Prop} {B : S → State → Prop} {BX : String → SX → State → Prop} {AX : Nat → Prop} (hr : vx_Run p l e R s m args below meth c H locs cells slots mc ms (F0 m pc ls st0) rest (va_Qq post B A1 a) (vx_X px BX AX) free) (hS : va_S A0 H0 H locs) (hA : ∀ q, q < H.size → A1 q → A0 q) (hf : ∀ q, free q → A0 q) (hAX : ∀ q, q < H.size → AX q → A0 q)
    (kx : ∀ (E : String) (ce : Cell) (q9 : Addr) (u : SX) (t : State) (H1 : Heap) (locs1 : List Loc), t.heap = H1 → s.vm.Alike t.vm → px u → BX E u t → H.size ≤ H1.size → (∀ q : Nat, q < H.size → ¬ AX q → H1[q]? = H[q]?) → va_S A0 H0 H1 locs1 → H1[q9]? = some ce → ce.vm = .none → s.vm.findClass E = some ce.cls → vx_W p l e R s m args below meth c H1 locs1 (cells + mc) (slots + ms) Q (F0 m pc ls rest) q9)
    (kk : ∀ (r : Option Nat) (u : S) (t : State) (H1 : Heap) (locs1 : List Loc), t.heap = H1 → s.vm.Alike t.vm → post r u → B u t → H.size ≤ H1.size → (∀ q : Nat, q < H.size → ¬ A1 q → H1[q]? = H[q]?) → va_S A0 H0 H1 locs1 → W p l e R s m args below meth c H1 locs1 (cells + mc) (slots + ms) Q (F0 m (pc + 3) ls (va_rf r :: rest))) : W p l e R s m args below meth c H locs cells slots Q (F0 m pc ls st0) := by
  intro T hT X
  rcases hr T hT X with ⟨v, st₀, t, T', L, h0, X', hL, e1, e2, ⟨⟨r, u, hv, hp, hb⟩, hF⟩, st⟩ | ⟨q, st₀, t, T', L, E, ce, h0, X', hL, e1, e2, ⟨u, hp, hb, hF⟩, hce, hcv, hcl, st⟩
  · cases hv
    obtain ⟨k1, k2, k3⟩ := vx_keep h0 e1 hS hA hf hL hF
    obtain ⟨t2, a1, b1⟩ := kk r u t T'.heap (locs ++ L) e1.symm (by rw [← e2]; exact X'.warmed.alike) hp hb k1 k2 k3 T' rfl X'
    exact ⟨t2, st t2 a1, b1⟩
  · obtain ⟨k1, k2, k3⟩ := vx_keep h0 e1 hS hAX hf hL hF
    obtain ⟨t2, a1, b1⟩ := kx E ce q u t T'.heap (locs ++ L) e1.symm (by rw [← e2]; exact X'.warmed.alike) hp hb k1 k2 k3 (by rw [e1]; exact hce) hcv hcl T' rfl X'
    exact ⟨t2, st.trans a1, b1⟩
end
def xNm : List String := ["java/lang/RuntimeException", "java/lang/Exception"]
def xISE : String := "java/lang/IllegalStateException"
def xIOB : String := "java/lang/IndexOutOfBoundsException"
def xIAE : String := "java/lang/IllegalArgumentException"
def xTx : List (Nat × String) := [(137, "S is 0"), (155, "P is not invertible"), (160, "there is no second way"), (167, "a predicted P is not invertible"), (192, "no such model"), (195, "no such estimator"), (197, "no such measurement"), (205, "an argument is out of its range"), (208, "there are 30 measurements"), (26, "there are 6 models"), (46, "there are 6 estimators"), (65, "the time is 20"), (85, "it is dropped"), (87, "refused")]
def xDc : List MethodName := [⟨"java/lang/RuntimeException", "<init>", "(Ljava/lang/String;)V"⟩, ⟨"java/lang/Exception", "<init>", "(Ljava/lang/String;)V"⟩, ⟨"java/lang/Throwable", "<init>", "(Ljava/lang/String;)V"⟩]
def xCl : List String := [xISE, xIOB, xIAE]
def xBad : List Cond := xDc.map Cond.declares ++ xCl.map (fun x => Cond.castable x x)
def XK (U : State) : Prop := AOs U ∧ (∀ q ∈ xTx, ∃ a, vk_R RX6 q.1 q.2 a U) ∧ (∀ x ∈ xDc, va_Nw (.declares x) U) ∧ ∀ x ∈ xCl, va_Nw (.castable x x) U
theorem XK.warm {s U : State} (h : XK s) (hW : s.WarmedH U.vm) : XK U :=
  ⟨h.1.warm hW, fun q hq => by obtain ⟨a, ha⟩ := h.2.1 q hq; exact ⟨a, ha.warm hW⟩, fun x hx => (h.2.2.1 x hx).warmD hW, fun x hx => (h.2.2.2 x hx).warmC hW⟩
theorem XK.same {u U : State} (h : XK u) (e : u.vm = U.vm) : XK U :=
  ⟨h.1.same e, fun q hq => by obtain ⟨a, ha⟩ := h.2.1 q hq; exact ⟨a, ha.same e.symm⟩, fun x hx => va_Nw.same rfl e (h.2.2.1 x hx), fun x hx => va_Nw.same rfl e (h.2.2.2 x hx)⟩
theorem XK.bad {args : Array Value} {s : State} (h : XK s) : ∀ w ∈ xBad, w.before args s = true := by
  intro w hw
  rcases List.mem_append.mp hw with hw | hw
  · obtain ⟨x, hx, rfl⟩ := List.mem_map.mp hw
    exact va_Nw.use rfl (h.2.2.1 x hx)
  · obtain ⟨x, hx, rfl⟩ := List.mem_map.mp hw
    exact va_Nw.use rfl (h.2.2.2 x hx)
def XZ (A : Nat → Prop) (U : State) (H : Heap) : Prop := vx_Zq Bundle.tN "UNASSIGNED_STACK" Bundle.steD A U H ∧ vx_Zq Bundle.tN "SUPPRESSED_SENTINEL" Bundle.listD A U H
def WX (D : va_G) (tys : List (ClassId × FieldType)) (sz : Nat) (wc : va_W) (U : State) : Prop := WP D tys sz wc U ∧ XK U ∧ XZ (va_A wc sz) U U.heap
theorem WX.blind {D : va_G} {tys : List (ClassId × FieldType)} {sz : Nat} {wc : va_W} {U : State} {g : JFrame} {mk : MethodId} {a : Array Value} (h : WX D tys sz wc U) : WX D tys sz wc (U.calling g mk a) :=
  ⟨h.1.blind, h.2.1.same (U := U.calling g mk a) rfl, vx_Zq.moved (u := U) (U := U.calling g mk a) (Vm.Alike.refl U.vm) h.2.2.1, vx_Zq.moved (u := U) (U := U.calling g mk a) (Vm.Alike.refl U.vm) h.2.2.2⟩
/-- where it throws: the class's name, a ghost, the world -/
def EX {SX : Type} (D : va_G) (A : Nat → Prop) (px : String → SX → Prop) (wx : SX → va_W) : String → State → State → Prop := vx_X (fun _ : SX => True) (fun E u t => px E u ∧ va_P D vwCl (wx u) t.heap ∧ va_D A (wx u)) A
/-- an answer that is a reference -/
def EQ {S : Type} (D : va_G) (A : Nat → Prop) (post : Option Nat → S → Prop) (w1 : S → va_W) : Array Value → State → Outcome → State → Prop := va_Qq post (fun u t => va_P D vwCl (w1 u) t.heap) A
def CtG {SX : Type} (l : Launch) (D : va_G) (tys : List (ClassId × FieldType)) (y : MethodName) (w : List Cond) (fr lo mc ms : Nat) (As : List Value) (wc : va_W) (Qc : (Nat → Prop) → Array Value → State → Outcome → State → Prop) (px : String → SX → Prop) (wx : SX → va_W) : Prop := ∀ sz : Nat, vx_Met l y w { frames := fr, cells := mc, slots := ms, locals := lo } (va_Pc As (WX D tys sz wc)) (Qc (va_A wc sz)) (EX D (va_A wc sz) px wx) mc ms (va_A wc sz)
theorem CtG.of {SX : Type} {l : Launch} {D : va_G} {tys : List (ClassId × FieldType)} {y : MethodName} {w ws' : List Cond} {fr lo mc ms : Nat} {As : List Value} {wc : va_W} {Qc : (Nat → Prop) → Array Value → State → Outcome → State → Prop} {px : String → SX → Prop} {wx : SX → va_W} {cc : ByteArray} {maxL : Nat} {ret : Option FieldType} (hy : plainName y.cls = true) (hw : w = Cond.code y cc maxL ret :: ws') (hn : (lg_sl As).length ≤ maxL)
    (body : ∀ (p : Program) (e : Env) (s : State) (m : MethodId) (below : List Frame) (meth : Method) (c : Code) (A : Nat → Prop) (ls : Array Slot), Cx p s m As.toArray meth c w y.cls cc maxL ret → (∀ x ∈ c.exceptionTable.toList, False) → KK D tys s → XK s → XZ A s s.heap → va_P D vwCl wc s.heap → va_D A wc → (∀ q : Nat, s.heap.size ≤ q → A q) → lv_has ls maxL (lv_args 0 As) →
      W p l e { frames := fr, cells := mc, slots := ms, locals := lo } s m As.toArray below meth c s.heap [] 0 0 (vx_MQ below (Qc A) (EX D A px wx) As.toArray s mc ms A) (F0 m 0 ls [])) : CtG l D tys y w fr lo mc ms As wc Qc px wx := by
  intro sz
  refine vx_ofW (cc := cc) (maxL := maxL) (ret := ret) hy hw ?_
  intro p e s m args below meth c s₁ B hml htab hv
  obtain ⟨rfl, ⟨hsz, hP, hK, hD0⟩, hX, hZ⟩ := hv
  subst hsz
  have hl := lv_entry As hn
  rw [lg_entry_eq]
  generalize (lg_sl As ++ List.replicate (maxL - (lg_sl As).length) Slot.unset).toArray = ls at hl ⊢
  exact body p e s m below meth c (va_A wc s.heap.size) ls ⟨B.exec, B.bytes, B.returns, hml, findClass_of_methodNamed B.named, atoms_spec (ws := w) B.pre, B.notSynchronized⟩ htab hK hX hZ hP hD0.self (fun q h => Or.inr h) hl
/-- a reference answered, nothing thrown -/
def CtQ {S : Type} (l : Launch) (D : va_G) (tys : List (ClassId × FieldType)) (y : MethodName) (w : List Cond) (fr lo : Nat) (As : List Value) (post : Option Nat → S → Prop) (wc : va_W) (w1 : S → va_W) : Prop := (∀ u, (w1 u).map (fun q => q.1) = wc.map (fun q => q.1)) ∧ ∀ sz : Nat, Met l y w { frames := fr, cells := 0, slots := 0, locals := lo } (va_Pc As (WP D tys sz wc)) (EQ D (va_A wc sz) post w1) 0 0 (va_A wc sz)
theorem CtQ.of {S : Type} {l : Launch} {D : va_G} {tys : List (ClassId × FieldType)} {y : MethodName} {w ws' : List Cond} {fr lo : Nat} {As : List Value} {post : Option Nat → S → Prop} {wc : va_W} {w1 : S → va_W} {cc : ByteArray} {maxL : Nat} {ret : Option FieldType} (hy : plainFor y = true) (hw : w = Cond.code y cc maxL ret :: ws') (hf : ∀ u, (w1 u).map (fun q => q.1) = wc.map (fun q => q.1)) (hn : (lg_sl As).length ≤ maxL)
    (body : ∀ (p : Program) (e : Env) (s : State) (m : MethodId) (below : List Frame) (meth : Method) (c : Code) (A : Nat → Prop) (ls : Array Slot), Cx p s m As.toArray meth c w y.cls cc maxL ret → KK D tys s → va_P D vwCl wc s.heap → va_D A wc → (∀ q : Nat, s.heap.size ≤ q → A q) → lv_has ls maxL (lv_args 0 As) →
      W p l e { frames := fr, cells := 0, slots := 0, locals := lo } s m As.toArray below meth c s.heap [] 0 0 (MQ below (EQ D A post w1) As.toArray s 0 0 A) (F0 m 0 ls [])) : CtQ l D tys y w fr lo As post wc w1 := by
  refine ⟨hf, fun sz => ?_⟩
  refine met_ofWF (cc := cc) (maxL := maxL) (ret := ret) hy hw ?_
  intro p e s m args below meth c s₁ B hml hv
  obtain ⟨rfl, hsz, hP, hK, hD0⟩ := hv
  subst hsz
  have hl := lv_entry As hn
  rw [lg_entry_eq]
  generalize (lg_sl As ++ List.replicate (maxL - (lg_sl As).length) Slot.unset).toArray = ls at hl ⊢
  exact body p e s m below meth c (va_A wc s.heap.size) ls ⟨B.exec, B.bytes, B.returns, hml, findClass_of_methodNamed B.named, atoms_spec (ws := w) B.pre, B.notSynchronized⟩ hK hP hD0.self (fun q h => Or.inr h) hl
section KX
variable {p : Program} {l : Launch} {e : Env} {R : Room} {s : State} {m : MethodId} {args : Array Value} {below : List Frame} {meth : Method} {c : Code} {H : Heap} {locs : List Loc} {cells slots : Nat} {Q : State → Prop}
variable {cc : ByteArray} {pc : Nat} {ls : Array Slot} {rest st0 : List Value} {D : va_G} {A : Nat → Prop} {tys : List (ClassId × FieldType)} {ws wc : va_W} {H0 : Heap} {a mc ms : Nat}
variable {Qc : Array Value → State → Outcome → State → Prop} {XC : String → State → State → Prop}
theorem q_ret {S : Type} {post : Option Nat → S → Prop} {w1 : S → va_W} {rt : FieldType} (u : S) (hexec : p.tables.exec = Jvm.exec) (hb : c.code = cc) (hr : meth.sig.returnType = some rt) (hrt : (∃ n, rt = .object n) ∨ ∃ t, rt = .array t) (hlocks : meth.locks = false) (hdg : decode cc pc = .ok (.areturn, 1)) (hP : va_P D vwCl (w1 u) H) (hS : va_S A s.heap H locs) (hv : post (some a) u) : W p l e R s m args below meth c H locs cells slots (MQ below (EQ D A post w1) args s cells slots A) (F0 m pc ls [.ref a]) :=
  W.aret hexec hb hr hrt (Or.inr ⟨a, rfl⟩) (fun t ht _ => ⟨⟨some a, u, rfl, hv, by show va_P D vwCl (w1 u) t.heap; rw [ht]; exact hP⟩, hS.F ht⟩) hS.2.2 hdg hlocks
theorem k_goQ {S : Type} {post : Option Nat → S → Prop} {w1 : S → va_W} {mc ms : Nat} {v : Array Value} (hr : va_Run p l e R s m args below meth c H locs cells slots mc ms (F0 m pc ls st0) rest (EQ D (va_A wc H.size) post w1 v) (va_A wc H.size)) (hf : ∀ u, (w1 u).map (fun q => q.1) = wc.map (fun q => q.1)) (hP : va_P D vwCl ws H) (hD : va_D A ws) (hS : va_S A H0 H locs) (hA : ∀ q, H0.size ≤ q → A q) (is : List Nat) (hC : is.map (fun i => ws[i]?) = wc.map some) (hn : va_nd is = true)
    (kk : ∀ (r : Option Nat) (u : S) (H1 : Heap) (locs1 : List Loc), post r u → va_P D vwCl (setW ws is (w1 u)) H1 → va_D A (setW ws is (w1 u)) → va_S A H0 H1 locs1 → W p l e R s m args below meth c H1 locs1 (cells + mc) (slots + ms) Q (F0 m (pc + 3) ls (va_rf r :: rest))) : W p l e R s m args below meth c H locs cells slots Q (F0 m pc ls st0) := by
  have hF := va_free (wc := wc) hD hS hA is hC
  refine va_callq hr hS (fun q _ h => hF q h) hF (fun r1 u t H1 locs1 ht hvm hw hB hz1 hk1 hS1 => ?_)
  have hB : va_P D vwCl (w1 u) H1 := ht ▸ hB
  obtain ⟨g1, g2⟩ := k_back hP hD hC hn (hf u) hk1 hB
  exact kk r1 u H1 locs1 hw g1 g2 hS1
/-- the ends of a body that may throw -/
theorem x_iret {S : Type} {post : Int32 → S → Prop} {w1 nw : S → va_W} {v : Int32} (u : S) (hexec : p.tables.exec = Jvm.exec) (hb : c.code = cc) (hr : meth.sig.returnType = some .int) (hlocks : meth.locks = false) (hdg : decode cc pc = .ok (.ireturn, 1)) (h1 : cells ≤ mc) (h2 : slots ≤ ms) (hP : va_P D vwCl (nw u ++ w1 u) H) (hD : va_D A (nw u ++ w1 u)) (hS : va_S A s.heap H locs) (hv : post v u) : W p l e R s m args below meth c H locs cells slots (vx_MQ below (ENI D A post w1 nw) XC args s mc ms A) (F0 m pc ls [.int v]) :=
  W.widen h1 h2 (vx_ret (n_iret u hexec hb hr hlocks hdg hP hD hS hv))
theorem x_vret {S : Type} {post : S → Prop} {w1 nw : S → va_W} (u : S) (hexec : p.tables.exec = Jvm.exec) (hb : c.code = cc) (hr : meth.sig.returnType = none) (hlocks : meth.locks = false) (hdg : decode cc pc = .ok (.return_, 1)) (h1 : cells ≤ mc) (h2 : slots ≤ ms) (hP : va_P D vwCl (nw u ++ w1 u) H) (hD : va_D A (nw u ++ w1 u)) (hS : va_S A s.heap H locs) (hv : post u) : W p l e R s m args below meth c H locs cells slots (vx_MQ below (EN D A post w1 nw) XC args s mc ms A) (F0 m pc ls []) :=
  W.widen h1 h2 (vx_ret (n_vret u hexec hb hr hlocks hdg hP hD hS hv))
theorem x_qret {S : Type} {post : Option Nat → S → Prop} {w1 : S → va_W} {rt : FieldType} (u : S) (hexec : p.tables.exec = Jvm.exec) (hb : c.code = cc) (hr : meth.sig.returnType = some rt) (hrt : (∃ n, rt = .object n) ∨ ∃ t, rt = .array t) (hlocks : meth.locks = false) (hdg : decode cc pc = .ok (.areturn, 1)) (h1 : cells ≤ mc) (h2 : slots ≤ ms) (hP : va_P D vwCl (w1 u) H) (hS : va_S A s.heap H locs) (hv : post (some a) u) : W p l e R s m args below meth c H locs cells slots (vx_MQ below (EQ D A post w1) XC args s mc ms A) (F0 m pc ls [.ref a]) :=
  W.widen h1 h2 (vx_ret (q_ret u hexec hb hr hrt hlocks hdg hP hS hv))
/-- thrown here, or below, and not caught -/
theorem x_out {SX : Type} {px : String → SX → Prop} {wx : SX → va_W} {E : String} {ce : Cell} {q : Addr} (htab : ∀ x ∈ c.exceptionTable.toList, False) (hlocks : meth.locks = false) (hcell : H[q]? = some ce) (hv : ce.vm = .none) (hcl : s.vm.findClass E = some ce.cls) (u : SX) (hP : va_P D vwCl (wx u) H) (hD : va_D A (wx u)) (hS : va_S A s.heap H locs) (hp : px E u) (hc : cells ≤ mc) (hs : slots ≤ ms) :
    vx_W p l e R s m args below meth c H locs cells slots (vx_MQ below Qc (EX D A px wx) args s mc ms A) (F0 m pc ls rest) q :=
  vx_out (fun x hx => (htab x hx).elim) hlocks hcell hv hcl (fun t ht _ => ⟨u, trivial, ⟨hp, by rw [ht]; exact hP, hD⟩, hS.F ht⟩) hS.2.2 hc hs
theorem x_thr {SX : Type} {px : String → SX → Prop} {wx : SX → va_W} {cls text : String} {ik is ic : Nat} (hexec : p.tables.exec = Jvm.exec) (hb : c.code = cc) (hl9 : l.stackTraces = false) (hown : s.vm.findClass RX6 = some m.cls) (hcls : Bundle.fit cls = true)
    (hk : (Cond.classLink RX6 ik cls).before args s = true) (hini : (Cond.initialized cls).before args s = true) (htx : (is, text) ∈ xTx) (hX : XK s) (hat : ∀ w ∈ (vx_atS RX6 ic cls xNm).filter goodWord, w.before args s = true) (hbad : ∀ w ∈ (vx_atS RX6 ic cls xNm).filter (fun w => !goodWord w), w ∈ xBad)
    (hgood : ∀ w ∈ Cond.classLink RX6 ik cls :: Cond.initialized cls :: vx_atS RX6 ic cls xNm, vx_ot w = true) (hZ : XZ A s s.heap) (hS : va_S A s.heap H locs) (hsz : ls.size = c.maxLocals)
    (d0 : decode cc pc = .ok (.new ik, 3)) (d3 : decode cc (pc + 3) = .ok (.dup, 1)) (d4 : decode cc (pc + 4) = .ok (.ldc is, 2)) (d6 : decode cc (pc + 6) = .ok (.invokespecial ic, 3)) (d9 : decode cc (pc + 9) = .ok (.athrow, 1))
    (htab : ∀ x ∈ c.exceptionTable.toList, False) (hlocks : meth.locks = false) (hfr : 5 < R.frames) (hlo : (rest.map fun v => v.category).sum + 82 ≤ R.locals) (hce : cells + 1 ≤ R.cells) (hsl : slots + 6 ≤ R.slots) (u : SX) (hP : va_P D vwCl (wx u) H) (hD : va_D A (wx u)) (hp : px cls u) (hc : cells + 1 ≤ mc) (hs : slots + 6 ≤ ms) :
    W p l e R s m args below meth c H locs cells slots (vx_MQ below Qc (EX D A px wx) args s mc ms A) (F0 m pc ls rest) := by
  obtain ⟨sa, hsa⟩ := hX.2.1 _ htx
  exact vx_throwS (names := xNm) hexec hb hl9 hown hcls (by decide +kernel) hk hini hsa (vx_hat hat hbad hX.bad) hgood hZ.1 hZ.2 hS hsz d0 d3 d4 d6 d9 (fun x hx => (htab x hx).elim) hfr hlo hce hsl hlocks
    (fun t _ hz hq => ⟨u, trivial, ⟨hp, hP.kept (fun k q hk => hq q.1 (hP k q hk).lt), hD⟩, Nat.le_trans hS.1 hz, fun q h1 h2 => (hq q (Nat.lt_of_lt_of_le h1 hS.1)).trans (hS.2.1 q h1 h2)⟩) hS.2.2 hc hs
/-- a call of such a method out of such a body -/
theorem x_pre {As : List Value} (hK : KK D tys s) (hX : XK s) (hZ : XZ A s s.heap) (hP : va_P D vwCl ws H) (hD : va_D A ws) (hS : va_S A s.heap H locs) (hA : ∀ q, s.heap.size ≤ q → A q) {is : List Nat} (hC : is.map (fun i => ws[i]?) = wc.map some) (hn : va_nd is = true) : PreS s H (va_Pc As (WX D tys H.size wc)) As := by
  have hF := va_free (wc := wc) hD hS hA is hC
  refine ⟨fun _ _ _ _ q => ⟨q.1, q.2.blind⟩, fun U hU hW => ⟨rfl, ⟨by rw [hU], by rw [hU]; exact k_cut hP hC, hK.warm hW, k_apart hD hC hn⟩, hX.warm hW, ?_⟩⟩
  rw [hU]
  exact ⟨((hZ.1.kept hS.2.1).moved hW.alike).narrow hF, ((hZ.2.kept hS.2.1).moved hW.alike).narrow hF⟩
theorem x_goI {S SX : Type} {post : Int32 → S → Prop} {w1 nw : S → va_W} {px : String → SX → Prop} {wx : SX → va_W} {mc ms : Nat} {v : Array Value} (hr : vx_Run p l e R s m args below meth c H locs cells slots mc ms (F0 m pc ls st0) rest (ENI D (va_A wc H.size) post w1 nw v) (EX D (va_A wc H.size) px wx) (va_A wc H.size)) (hfx : ∀ u, (wx u).map (fun q => q.1) = wc.map (fun q => q.1)) (hf : ∀ u, (w1 u).map (fun q => q.1) = wc.map (fun q => q.1)) (hP : va_P D vwCl ws H) (hD : va_D A ws) (hS : va_S A H0 H locs) (hA : ∀ q, H0.size ≤ q → A q) (is : List Nat) (hC : is.map (fun i => ws[i]?) = wc.map some) (hn : va_nd is = true)
    (kx : ∀ (E : String) (ce : Cell) (q9 : Addr) (u : SX) (H1 : Heap) (locs1 : List Loc), px E u → va_P D vwCl (setW ws is (wx u)) H1 → va_D A (setW ws is (wx u)) → va_S A H0 H1 locs1 → H1[q9]? = some ce → ce.vm = .none → s.vm.findClass E = some ce.cls → vx_W p l e R s m args below meth c H1 locs1 (cells + mc) (slots + ms) Q (F0 m pc ls rest) q9)
    (kk : ∀ (r : Int32) (u : S) (H1 : Heap) (locs1 : List Loc), post r u → va_P D vwCl (nw u ++ setW ws is (w1 u)) H1 → va_D A (nw u ++ setW ws is (w1 u)) → va_S A H0 H1 locs1 → W p l e R s m args below meth c H1 locs1 (cells + mc) (slots + ms) Q (F0 m (pc + 3) ls (.int r :: rest))) : W p l e R s m args below meth c H locs cells slots Q (F0 m pc ls st0) := by
  have hF := va_free (wc := wc) hD hS hA is hC
  refine vx_calli hr hS (fun q _ h => hF q h) hF (fun q _ h => hF q h) (fun E ce q9 u t H1 locs1 ht hvm _ hB hz1 hk1 hS1 h7 h8 h9 => ?_) (fun r u t H1 locs1 ht hvm hw hB hz1 hk1 hS1 => ?_)
  · have hB1 : va_P D vwCl (wx u) H1 := ht ▸ hB.2.1
    obtain ⟨g1, g2⟩ := k_back hP hD hC hn (hfx u) hk1 hB1
    exact kx E ce q9 u H1 locs1 hB.1 g1 g2 hS1 h7 h8 h9
  · have hB1 : va_P D vwCl (nw u ++ w1 u) H1 := ht ▸ hB.1
    obtain ⟨g1, g2⟩ := k_back hP hD hC hn (hf u) hk1 hB1.right
    obtain ⟨f1, f2⟩ := k_fresh hS hA hP (setW_fst is (w1 u) ws wc hC (hf u) hn) (hf u) g1 g2 hB1 hB.2
    exact kk r u H1 locs1 hw f1 f2 hS1
theorem x_goV {S SX : Type} {post : S → Prop} {w1 nw : S → va_W} {px : String → SX → Prop} {wx : SX → va_W} {mc ms : Nat} {v : Array Value} (hr : vx_Run p l e R s m args below meth c H locs cells slots mc ms (F0 m pc ls st0) rest (EN D (va_A wc H.size) post w1 nw v) (EX D (va_A wc H.size) px wx) (va_A wc H.size)) (hfx : ∀ u, (wx u).map (fun q => q.1) = wc.map (fun q => q.1)) (hf : ∀ u, (w1 u).map (fun q => q.1) = wc.map (fun q => q.1)) (hP : va_P D vwCl ws H) (hD : va_D A ws) (hS : va_S A H0 H locs) (hA : ∀ q, H0.size ≤ q → A q) (is : List Nat) (hC : is.map (fun i => ws[i]?) = wc.map some) (hn : va_nd is = true)
    (kx : ∀ (E : String) (ce : Cell) (q9 : Addr) (u : SX) (H1 : Heap) (locs1 : List Loc), px E u → va_P D vwCl (setW ws is (wx u)) H1 → va_D A (setW ws is (wx u)) → va_S A H0 H1 locs1 → H1[q9]? = some ce → ce.vm = .none → s.vm.findClass E = some ce.cls → vx_W p l e R s m args below meth c H1 locs1 (cells + mc) (slots + ms) Q (F0 m pc ls rest) q9)
    (kk : ∀ (u : S) (H1 : Heap) (locs1 : List Loc), post u → va_P D vwCl (nw u ++ setW ws is (w1 u)) H1 → va_D A (nw u ++ setW ws is (w1 u)) → va_S A H0 H1 locs1 → W p l e R s m args below meth c H1 locs1 (cells + mc) (slots + ms) Q (F0 m (pc + 3) ls rest)) : W p l e R s m args below meth c H locs cells slots Q (F0 m pc ls st0) := by
  have hF := va_free (wc := wc) hD hS hA is hC
  refine vx_callv hr hS (fun q _ h => hF q h) hF (fun q _ h => hF q h) (fun E ce q9 u t H1 locs1 ht hvm _ hB hz1 hk1 hS1 h7 h8 h9 => ?_) (fun u t H1 locs1 ht hvm hw hB hz1 hk1 hS1 => ?_)
  · have hB1 : va_P D vwCl (wx u) H1 := ht ▸ hB.2.1
    obtain ⟨g1, g2⟩ := k_back hP hD hC hn (hfx u) hk1 hB1
    exact kx E ce q9 u H1 locs1 hB.1 g1 g2 hS1 h7 h8 h9
  · have hB1 : va_P D vwCl (nw u ++ w1 u) H1 := ht ▸ hB.1
    obtain ⟨g1, g2⟩ := k_back hP hD hC hn (hf u) hk1 hB1.right
    obtain ⟨f1, f2⟩ := k_fresh hS hA hP (setW_fst is (w1 u) ws wc hC (hf u) hn) (hf u) g1 g2 hB1 hB.2
    exact kk u H1 locs1 hw f1 f2 hS1
theorem x_goQ {S SX : Type} {post : Option Nat → S → Prop} {w1 : S → va_W} {px : String → SX → Prop} {wx : SX → va_W} {mc ms : Nat} {v : Array Value} (hr : vx_Run p l e R s m args below meth c H locs cells slots mc ms (F0 m pc ls st0) rest (EQ D (va_A wc H.size) post w1 v) (EX D (va_A wc H.size) px wx) (va_A wc H.size)) (hfx : ∀ u, (wx u).map (fun q => q.1) = wc.map (fun q => q.1)) (hf : ∀ u, (w1 u).map (fun q => q.1) = wc.map (fun q => q.1)) (hP : va_P D vwCl ws H) (hD : va_D A ws) (hS : va_S A H0 H locs) (hA : ∀ q, H0.size ≤ q → A q) (is : List Nat) (hC : is.map (fun i => ws[i]?) = wc.map some) (hn : va_nd is = true)
    (kx : ∀ (E : String) (ce : Cell) (q9 : Addr) (u : SX) (H1 : Heap) (locs1 : List Loc), px E u → va_P D vwCl (setW ws is (wx u)) H1 → va_D A (setW ws is (wx u)) → va_S A H0 H1 locs1 → H1[q9]? = some ce → ce.vm = .none → s.vm.findClass E = some ce.cls → vx_W p l e R s m args below meth c H1 locs1 (cells + mc) (slots + ms) Q (F0 m pc ls rest) q9)
    (kk : ∀ (r : Option Nat) (u : S) (H1 : Heap) (locs1 : List Loc), post r u → va_P D vwCl (setW ws is (w1 u)) H1 → va_D A (setW ws is (w1 u)) → va_S A H0 H1 locs1 → W p l e R s m args below meth c H1 locs1 (cells + mc) (slots + ms) Q (F0 m (pc + 3) ls (va_rf r :: rest))) : W p l e R s m args below meth c H locs cells slots Q (F0 m pc ls st0) := by
  have hF := va_free (wc := wc) hD hS hA is hC
  refine vx_callq hr hS (fun q _ h => hF q h) hF (fun q _ h => hF q h) (fun E ce q9 u t H1 locs1 ht hvm _ hB hz1 hk1 hS1 h7 h8 h9 => ?_) (fun r u t H1 locs1 ht hvm hw hB hz1 hk1 hS1 => ?_)
  · have hB1 : va_P D vwCl (wx u) H1 := ht ▸ hB.2.1
    obtain ⟨g1, g2⟩ := k_back hP hD hC hn (hfx u) hk1 hB1
    exact kx E ce q9 u H1 locs1 hB.1 g1 g2 hS1 h7 h8 h9
  · have hB1 : va_P D vwCl (w1 u) H1 := ht ▸ hB
    obtain ⟨g1, g2⟩ := k_back hP hD hC hn (hf u) hk1 hB1
    exact kk r u H1 locs1 hw g1 g2 hS1
/-- a reference that is known -/
theorem k_goR {w1 : va_W} {q : Nat} {mc ms : Nat} {v : Array Value} (hr : va_Run p l e R s m args below meth c H locs cells slots mc ms (F0 m pc ls st0) rest (EQ D (va_A wc H.size) (fun r (_ : Unit) => r = some q) (fun _ => w1) v) (va_A wc H.size)) (hf : w1.map (fun q => q.1) = wc.map (fun q => q.1)) (hP : va_P D vwCl ws H) (hD : va_D A ws) (hS : va_S A H0 H locs) (hA : ∀ q, H0.size ≤ q → A q) (is : List Nat) (hC : is.map (fun i => ws[i]?) = wc.map some) (hn : va_nd is = true)
    (kk : ∀ (H1 : Heap) (locs1 : List Loc), va_P D vwCl (setW ws is w1) H1 → va_D A (setW ws is w1) → va_S A H0 H1 locs1 → W p l e R s m args below meth c H1 locs1 (cells + mc) (slots + ms) Q (F0 m (pc + 3) ls (.ref q :: rest))) : W p l e R s m args below meth c H locs cells slots Q (F0 m pc ls st0) :=
  k_goQ hr (fun _ => hf) hP hD hS hA is hC hn (fun r u H1 locs1 h1 h2 h3 h4 => by subst h1; exact kk H1 locs1 h2 h3 h4)
theorem x_goR {SX : Type} {w1 : va_W} {q : Nat} {px : String → SX → Prop} {wx : SX → va_W} {mc ms : Nat} {v : Array Value} (hr : vx_Run p l e R s m args below meth c H locs cells slots mc ms (F0 m pc ls st0) rest (EQ D (va_A wc H.size) (fun r (_ : Unit) => r = some q) (fun _ => w1) v) (EX D (va_A wc H.size) px wx) (va_A wc H.size)) (hfx : ∀ u, (wx u).map (fun q => q.1) = wc.map (fun q => q.1)) (hf : w1.map (fun q => q.1) = wc.map (fun q => q.1)) (hP : va_P D vwCl ws H) (hD : va_D A ws) (hS : va_S A H0 H locs) (hA : ∀ q, H0.size ≤ q → A q) (is : List Nat) (hC : is.map (fun i => ws[i]?) = wc.map some) (hn : va_nd is = true)
    (kx : ∀ (E : String) (ce : Cell) (q9 : Addr) (u : SX) (H1 : Heap) (locs1 : List Loc), px E u → va_P D vwCl (setW ws is (wx u)) H1 → va_D A (setW ws is (wx u)) → va_S A H0 H1 locs1 → H1[q9]? = some ce → ce.vm = .none → s.vm.findClass E = some ce.cls → vx_W p l e R s m args below meth c H1 locs1 (cells + mc) (slots + ms) Q (F0 m pc ls rest) q9)
    (kk : ∀ (H1 : Heap) (locs1 : List Loc), va_P D vwCl (setW ws is w1) H1 → va_D A (setW ws is w1) → va_S A H0 H1 locs1 → W p l e R s m args below meth c H1 locs1 (cells + mc) (slots + ms) Q (F0 m (pc + 3) ls (.ref q :: rest))) : W p l e R s m args below meth c H locs cells slots Q (F0 m pc ls st0) :=
  x_goQ hr hfx (fun _ => hf) hP hD hS hA is hC hn kx (fun r u H1 locs1 h1 h2 h3 h4 => by subst h1; exact kk H1 locs1 h2 h3 h4)
/-- an element of an array of arrays -/
theorem n_aald2 (hexec : p.tables.exec = Jvm.exec) (hb : c.code = cc) (hK : KK D tys s) (hP : va_P D vwCl ws H) (q0 t0 : Nat) {cA : ClassId} {ty : FieldType} {n : Nat} {f : Nat → Option Nat} (ha : ws[q0]? = some (a, .inl (cA, n, .inr (.inr (.inr (.inr f)))))) (ht : tys[t0]? = some (cA, .array ty)) {z : Int} {i q : Nat} (hi : z = (i : Int)) (hin : i < n) (hn : n < 2147483648) (hf : f i = some q) (hdg : decode cc pc = .ok (.aaload, 1))
    (kk : W p l e R s m args below meth c H locs cells slots Q (F0 m (pc + 1) ls (.ref q :: rest))) : W p l e R s m args below meth c H locs cells slots Q (F0 m pc ls (.int (jI z) :: .ref a :: rest)) := by
  subst hi
  have hin2 := jI_in hin (by omega)
  have hlt : (jI (i : Int)).toNatClampNeg < n := Nat.not_le.mp fun q => hin2 (Or.inr q)
  refine W.aald (v := va_rf (f (jI (i : Int)).toNatClampNeg)) (ty := .array ty) hexec hb (hP q0 _ ha) ((hK.1.2 t0 _ ht).1 n (fun j => va_rf (f j))) rfl (fun q => by cases q) (by show ¬ (jI (i : Int) < 0 ∨ (arrV _ _ _).slots.size ≤ _); rw [arrV_size]; exact hin2) (by show (arrV _ _ _).slots[_]? = _; rw [arrV_read _ _ hlt]) rfl rfl hdg ?_
  rw [jI_cl (by omega), hf]
  exact kk
end KX
theorem xg_ISE : ∀ w ∈ Cond.classLink RX6 24 xISE :: Cond.initialized xISE :: vx_atS RX6 28 xISE xNm, vx_ot w = true := by decide +kernel
theorem xg_IOB : ∀ w ∈ Cond.classLink RX6 190 xIOB :: Cond.initialized xIOB :: vx_atS RX6 194 xIOB xNm, vx_ot w = true := by decide +kernel
theorem xg_IAE : ∀ w ∈ Cond.classLink RX6 203 xIAE :: Cond.initialized xIAE :: vx_atS RX6 207 xIAE xNm, vx_ot w = true := by decide +kernel
theorem xb_ISE : ∀ w ∈ (vx_atS RX6 28 xISE xNm).filter (fun w => !goodWord w), w ∈ xBad := by decide +kernel
theorem xb_IOB : ∀ w ∈ (vx_atS RX6 194 xIOB xNm).filter (fun w => !goodWord w), w ∈ xBad := by decide +kernel
theorem xb_IAE : ∀ w ∈ (vx_atS RX6 207 xIAE xNm).filter (fun w => !goodWord w), w ∈ xBad := by decide +kernel
/-! from one contract to another: more cells that stay, the same in other words -/
theorem metF_mono {l : Launch} {x : MethodName} {S : Spec} {P P' : Array Value → State → Prop} {K : Program → Env → List Frame → State → Array Value → Prop} {Q Q' : Array Value → State → Outcome → State → Prop} (h : MetFree l x S P K Q) (hP : ∀ a s, P' a s → P a s) (hQ : ∀ a s o t, P' a s → Q a s o t → Q' a s o t) : MetFree l x S P' K Q' := by
  intro p e ha hc hk s m args below hf happ hp hK
  obtain ⟨n, o, h1, h2, h3, h4⟩ := h p e ha hc hk s m args below hf happ (hP _ _ hp) hK
  exact ⟨n, o, h1, h2, h3, hQ _ _ _ _ hp h4⟩
theorem fr_join {A : Nat → Prop} {D : va_G} {cl : List vw_C} {wc wr w1 : va_W} {H H1 : Heap} (hP : va_P D cl (wc ++ wr) H) (hD : va_D A (wc ++ wr)) (hk : ∀ q : Nat, q < H.size → ¬ va_A wc H.size q → H1[q]? = H[q]?) (hF : ∀ q, va_A wc H.size q → A q) (hP1 : va_P D cl w1 H1) (hD1 : va_D (va_A wc H.size) w1) : va_P D cl (w1 ++ wr) H1 ∧ va_D A (w1 ++ wr) := by
  have hn := (va_D_mem.mp hD).1
  rw [List.map_append, List.nodup_append] at hn
  have hlt : ∀ q ∈ wr, q.1 < H.size ∧ ¬ va_A wc H.size q.1 := by
    intro q hq
    have h1 : q.1 < H.size := (va_P_mem.mp hP q (List.mem_append_right _ hq)).lt
    refine ⟨h1, fun z => ?_⟩
    rcases z with ⟨k, e, z⟩ | z
    · exact hn.2.2 q.1 (List.mem_map.mpr ⟨(q.1, e), List.mem_of_getElem? z, rfl⟩) q.1 (List.mem_map.mpr ⟨q, hq, rfl⟩) rfl
    · omega
  have hr : va_P D cl wr H1 := va_P_mem.mpr fun q hq => (va_P_mem.mp hP q (List.mem_append_right _ hq)).kept (hk q.1 (hlt q hq).1 (hlt q hq).2)
  refine ⟨hP1.app hr, va_D_mem.mpr ⟨?_, fun q hq => ?_⟩⟩
  · rw [List.map_append, List.nodup_append]
    refine ⟨(va_D_mem.mp hD1).1, hn.2.1, fun x hx y hy e => ?_⟩
    obtain ⟨q, hq, rfl⟩ := List.mem_map.mp hx
    obtain ⟨r, hr2, rfl⟩ := List.mem_map.mp hy
    have h1 := (va_D_mem.mp hD1).2 q hq
    rw [e] at h1
    exact (hlt r hr2).2 h1
  · rcases List.mem_append.mp hq with h | h
    · exact hF _ ((va_D_mem.mp hD1).2 q h)
    · exact (va_D_mem.mp hD).2 q (List.mem_append_right _ h)
theorem va_A_sub {ws wc wr : va_W} (e : ws.Perm (wc ++ wr)) {sz q : Nat} (h : va_A wc sz q) : va_A ws sz q := by
  rcases h with ⟨k, x, h⟩ | h
  · obtain ⟨i, hi⟩ := List.getElem?_of_mem (e.mem_iff.mpr (List.mem_append_left wr (List.mem_of_getElem? h)))
    exact Or.inl ⟨i, x, hi⟩
  · exact Or.inr h
theorem va_F_sub {A B : Nat → Prop} {s t : State} (h : va_F A s t) (hab : ∀ q, A q → B q) : va_F B s t := ⟨h.1, fun q h1 h2 => h.2 q h1 (fun z => h2 (hab q z))⟩
theorem va_A_perm {ws ws' : va_W} (e : ws.Perm ws') {sz q : Nat} : va_A ws sz q ↔ va_A ws' sz q := by
  have e1 : ws.Perm (ws' ++ []) := by rw [List.append_nil]; exact e
  have e2 : ws'.Perm (ws ++ []) := by rw [List.append_nil]; exact e.symm
  exact ⟨va_A_sub e2, va_A_sub e1⟩
theorem CtG.to {S S' SX SX' : Type} {l : Launch} {D : va_G} {tys : List (ClassId × FieldType)} {y : MethodName} {w : List Cond} {fr lo mc ms : Nat} {As : List Value} {wc ws wr : va_W} {post : Int32 → S → Prop} {w1 nw : S → va_W} {px : String → SX → Prop} {wx : SX → va_W} {post' : Int32 → S' → Prop} {w1' nw' : S' → va_W} {px' : String → SX' → Prop} {wx' : SX' → va_W}
    (h : CtG l D tys y w fr lo mc ms As wc (fun A => ENI D A post w1 nw) px wx) (e : ws.Perm (wc ++ wr)) (hr : ∀ r u, post r u → ∃ u', post' r u' ∧ (nw u ++ w1 u ++ wr).Perm (nw' u' ++ w1' u')) (hx : ∀ E u, px E u → ∃ u', px' E u' ∧ (wx u ++ wr).Perm (wx' u')) : CtG l D tys y w fr lo mc ms As ws (fun A => ENI D A post' w1' nw') px' wx' := by
  intro sz
  refine metF_mono (h sz) ?_ ?_
  · rintro a U ⟨rfl, ⟨hsz, hP, hK, hD⟩, hX, hZ⟩
    exact ⟨rfl, ⟨hsz, (hP.perm e).left, hK, (hD.perm e).left⟩, hX, hZ.1.narrow (fun q => va_A_sub e), hZ.2.narrow (fun q => va_A_sub e)⟩
  · rintro a st o t ⟨rfl, ⟨hsz, hP, hK, hD⟩, hX, hZ⟩ hq
    subst hsz
    have hDs : va_D (va_A ws st.heap.size) (wc ++ wr) := (hD.self (sz := st.heap.size)).perm e
    have hF := fun q => va_A_sub (wr := wr) e (sz := st.heap.size) (q := q)
    rcases hq with ⟨⟨⟨r, u, ho, hp, hB1, hB2⟩, hk⟩, L, hfe, hL⟩ | ⟨q, ho, E, ce, L, ⟨u, -, ⟨hp, hB1, hB2⟩, hk⟩, h2, h3, h4, h5, h6, hL⟩
    · obtain ⟨u', hp', hpm⟩ := hr r u hp
      obtain ⟨g1, g2⟩ := fr_join (hP.perm e) hDs hk.2 hF hB1 hB2
      exact Or.inl ⟨⟨⟨r, u', ho, hp', g1.perm hpm, g2.perm hpm⟩, va_F_sub hk hF⟩, L, hfe, fun z hz => hF _ (hL z hz)⟩
    · obtain ⟨u', hp', hpm⟩ := hx E u hp
      obtain ⟨g1, g2⟩ := fr_join (hP.perm e) hDs hk.2 hF hB1 hB2
      exact Or.inr ⟨q, ho, E, ce, L, ⟨u', trivial, ⟨hp', g1.perm hpm, g2.perm hpm⟩, va_F_sub hk hF⟩, h2, h3, h4, h5, h6, fun z hz => hF _ (hL z hz)⟩
theorem CtG.toV {S S' SX SX' : Type} {l : Launch} {D : va_G} {tys : List (ClassId × FieldType)} {y : MethodName} {w : List Cond} {fr lo mc ms : Nat} {As : List Value} {wc ws wr : va_W} {post : S → Prop} {w1 nw : S → va_W} {px : String → SX → Prop} {wx : SX → va_W} {post' : S' → Prop} {w1' nw' : S' → va_W} {px' : String → SX' → Prop} {wx' : SX' → va_W}
    (h : CtG l D tys y w fr lo mc ms As wc (fun A => EN D A post w1 nw) px wx) (e : ws.Perm (wc ++ wr)) (hr : ∀ u, post u → ∃ u', post' u' ∧ (nw u ++ w1 u ++ wr).Perm (nw' u' ++ w1' u')) (hx : ∀ E u, px E u → ∃ u', px' E u' ∧ (wx u ++ wr).Perm (wx' u')) : CtG l D tys y w fr lo mc ms As ws (fun A => EN D A post' w1' nw') px' wx' := by
  intro sz
  refine metF_mono (h sz) ?_ ?_
  · rintro a U ⟨rfl, ⟨hsz, hP, hK, hD⟩, hX, hZ⟩
    exact ⟨rfl, ⟨hsz, (hP.perm e).left, hK, (hD.perm e).left⟩, hX, hZ.1.narrow (fun q => va_A_sub e), hZ.2.narrow (fun q => va_A_sub e)⟩
  · rintro a st o t ⟨rfl, ⟨hsz, hP, hK, hD⟩, hX, hZ⟩ hq
    subst hsz
    have hDs : va_D (va_A ws st.heap.size) (wc ++ wr) := (hD.self (sz := st.heap.size)).perm e
    have hF := fun q => va_A_sub (wr := wr) e (sz := st.heap.size) (q := q)
    rcases hq with ⟨⟨⟨u, ho, hp, hB1, hB2⟩, hk⟩, L, hfe, hL⟩ | ⟨q, ho, E, ce, L, ⟨u, -, ⟨hp, hB1, hB2⟩, hk⟩, h2, h3, h4, h5, h6, hL⟩
    · obtain ⟨u', hp', hpm⟩ := hr u hp
      obtain ⟨g1, g2⟩ := fr_join (hP.perm e) hDs hk.2 hF hB1 hB2
      exact Or.inl ⟨⟨⟨u', ho, hp', g1.perm hpm, g2.perm hpm⟩, va_F_sub hk hF⟩, L, hfe, fun z hz => hF _ (hL z hz)⟩
    · obtain ⟨u', hp', hpm⟩ := hx E u hp
      obtain ⟨g1, g2⟩ := fr_join (hP.perm e) hDs hk.2 hF hB1 hB2
      exact Or.inr ⟨q, ho, E, ce, L, ⟨u', trivial, ⟨hp', g1.perm hpm, g2.perm hpm⟩, va_F_sub hk hF⟩, h2, h3, h4, h5, h6, fun z hz => hF _ (hL z hz)⟩
/-- the same for methods that don't throw, and make nothing -/
theorem CtE.to {S S' : Type} {l : Launch} {D : va_G} {tys : List (ClassId × FieldType)} {y : MethodName} {w : List Cond} {fr lo : Nat} {As : List Value} {wc ws wr : va_W} {post : Int32 → S → Prop} {w1 : S → va_W} {post' : Int32 → S' → Prop} {w1' : S' → va_W} (hw : ∀ u, (w1' u).map (fun q => q.1) = ws.map (fun q => q.1))
    (h : CtE l D tys y w fr lo As post wc w1) (e : ws.Perm (wc ++ wr)) (hr : ∀ r u, post r u → ∃ u', post' r u' ∧ (w1 u ++ wr).Perm (w1' u')) : CtE l D tys y w fr lo As post' ws w1' := by
  refine ⟨hw, fun sz => ?_⟩
  refine metF_mono (h.2 sz) ?_ ?_
  · rintro a U ⟨rfl, hsz, hP, hK, hD⟩
    exact ⟨rfl, hsz, (hP.perm e).left, hK, (hD.perm e).left⟩
  · rintro a st o t ⟨rfl, hsz, hP, hK, hD⟩ ⟨⟨⟨r, u, ho, hp, hB⟩, hk⟩, L, hfe, hL⟩
    subst hsz
    have hDs : va_D (va_A ws st.heap.size) (wc ++ wr) := (hD.self (sz := st.heap.size)).perm e
    have hF := fun q => va_A_sub (wr := wr) e (sz := st.heap.size) (q := q)
    have hDc : va_D (va_A wc st.heap.size) wc := (hD.perm e).left.self
    obtain ⟨u', hp', hpm⟩ := hr r u hp
    obtain ⟨g1, g2⟩ := fr_join (hP.perm e) hDs hk.2 hF hB (hDc.fst (h.1 u))
    exact ⟨⟨⟨r, u', ho, hp', g1.perm hpm⟩, va_F_sub hk hF⟩, L, hfe, fun z hz => hF _ (hL z hz)⟩
theorem CtF.to {S S' : Type} {l : Launch} {D : va_G} {tys : List (ClassId × FieldType)} {y : MethodName} {w : List Cond} {fr lo : Nat} {As : List Value} {wc ws wr : va_W} {post : S → Prop} {w1 : S → va_W} {post' : S' → Prop} {w1' : S' → va_W} (hw : ∀ u, (w1' u).map (fun q => q.1) = ws.map (fun q => q.1))
    (h : CtF l D tys y w fr lo As post wc w1) (e : ws.Perm (wc ++ wr)) (hr : ∀ u, post u → ∃ u', post' u' ∧ (w1 u ++ wr).Perm (w1' u')) : CtF l D tys y w fr lo As post' ws w1' := by
  refine ⟨hw, fun sz => ?_⟩
  refine metF_mono (h.2 sz) ?_ ?_
  · rintro a U ⟨rfl, hsz, hP, hK, hD⟩
    exact ⟨rfl, hsz, (hP.perm e).left, hK, (hD.perm e).left⟩
  · rintro a st o t ⟨rfl, hsz, hP, hK, hD⟩ ⟨⟨⟨u, ho, hp, hB⟩, hk⟩, L, hfe, hL⟩
    subst hsz
    have hDs : va_D (va_A ws st.heap.size) (wc ++ wr) := (hD.self (sz := st.heap.size)).perm e
    have hF := fun q => va_A_sub (wr := wr) e (sz := st.heap.size) (q := q)
    have hDc : va_D (va_A wc st.heap.size) wc := (hD.perm e).left.self
    obtain ⟨u', hp', hpm⟩ := hr u hp
    obtain ⟨g1, g2⟩ := fr_join (hP.perm e) hDs hk.2 hF hB (hDc.fst (h.1 u))
    exact ⟨⟨⟨u', ho, hp', g1.perm hpm⟩, va_F_sub hk hF⟩, L, hfe, fun z hz => hF _ (hL z hz)⟩
theorem CtI.E {l : Launch} {D : va_G} {tys : List (ClassId × FieldType)} {y : MethodName} {w : List Cond} {fr lo : Nat} {As : List Value} {v : Int32} {wc w1 : va_W} (h : CtI l D tys y w fr lo As v wc w1) : CtE (S := Unit) l D tys y w fr lo As (fun r _ => r = v) wc (fun _ => w1) := ⟨fun _ => h.1, h.2⟩
theorem CtV.F {l : Launch} {D : va_G} {tys : List (ClassId × FieldType)} {y : MethodName} {w : List Cond} {fr lo : Nat} {As : List Value} {wc w1 : va_W} (h : CtV l D tys y w fr lo As wc w1) : CtF (S := Unit) l D tys y w fr lo As (fun _ => True) wc (fun _ => w1) := ⟨fun _ => h.1, h.2⟩
/-- cells at places: in another order -/
theorem perm_pl {ws wc wr : va_W} (is ir : List Nat) (h1 : is.map (fun i => ws[i]?) = wc.map some) (h2 : ir.map (fun i => ws[i]?) = wr.map some) (h : (List.range ws.length).Perm (is ++ ir)) : ws.Perm (wc ++ wr) := by
  have e1 : (List.range ws.length).map (fun i => ws[i]?) = ws.map some := by
    apply List.ext_getElem?
    intro i
    by_cases hi : i < ws.length
    · simp [hi]
    · simp [hi]
  have e2 : (ws.map some).Perm ((wc ++ wr).map some) := by
    rw [← e1, List.map_append, ← h1, ← h2, ← List.map_append]
    exact h.map _
  have e3 := e2.filterMap id
  simpa using e3
