/-! more rows: booleans, arrays of counters, contracts with an open answer -/
section BR
variable {p : Program} {l : Launch} {e : Env} {R : Room} {s : State} {m : MethodId} {args : Array Value} {below : List Frame} {meth : Method} {c : Code} {H : Heap} {locs : List Loc} {cells slots : Nat} {Q : State → Prop}
variable {cc : ByteArray} {pc : Nat} {ls : Array Slot} {rest : List Value} {D : va_G} {A : Nat → Prop} {tys : List (ClassId × FieldType)} {ws : va_W} {H0 : Heap} {a : Nat}
theorem r32_B (b : Bool) : r32 (iB b) := by cases b <;> (unfold r32; decide)
theorem iB_0 {b : Bool} : iB b = 0 ↔ b = false := by cases b <;> decide
theorem n_ifB_eq (hexec : p.tables.exec = Jvm.exec) (hb : c.code = cc) {b : Bool} {off : Int} {tgt : Nat} (hdg : decode cc pc = .ok (.ifCond .eq off, 3)) (ht : (pc : Int) + off = (tgt : Int)) (kt : b = false → W p l e R s m args below meth c H locs cells slots Q (F0 m tgt ls rest)) (kf : b = true → W p l e R s m args below meth c H locs cells slots Q (F0 m (pc + 3) ls rest)) : W p l e R s m args below meth c H locs cells slots Q (F0 m pc ls (.int (jI (iB b)) :: rest)) := n_if_eq hexec hb (r32_B b) hdg ht (fun q => kt (iB_0.mp q)) (fun q => kf (by cases b; exact absurd rfl q; rfl))
theorem n_ifB_ne (hexec : p.tables.exec = Jvm.exec) (hb : c.code = cc) {b : Bool} {off : Int} {tgt : Nat} (hdg : decode cc pc = .ok (.ifCond .ne off, 3)) (ht : (pc : Int) + off = (tgt : Int)) (kt : b = true → W p l e R s m args below meth c H locs cells slots Q (F0 m tgt ls rest)) (kf : b = false → W p l e R s m args below meth c H locs cells slots Q (F0 m (pc + 3) ls rest)) : W p l e R s m args below meth c H locs cells slots Q (F0 m pc ls (.int (jI (iB b)) :: rest)) := n_if_ne hexec hb (r32_B b) hdg ht (fun q => kt (by cases b; exact absurd rfl q; rfl)) (fun q => kf (iB_0.mp q))
theorem up_n (f : Nat → Nat) (i v k : Nat) : va_up (fun j => ((f j : Nat) : Int)) i (v : Int) k = ((va_up f i v k : Nat) : Int) := by
  by_cases h : k = i
  · subst h; simp [va_up]
  · simp [va_up, h]
theorem n_nast (hexec : p.tables.exec = Jvm.exec) (hb : c.code = cc) (hK : KK D tys s) (hP : va_P D vwCl ws H) (hD : va_D A ws) (hS : va_S A H0 H locs) (q0 t0 : Nat) {cA : ClassId} {n : Nat} {f : Nat → Nat} (ha : ws[q0]? = some (a, .inl (cA, n, .inl (fun i => jI ((f i : Nat) : Int))))) (ht : tys[t0]? = some (cA, .int)) {z x : Int} {i v : Nat} (hv : x = (v : Int)) (hi : z = (i : Int)) (hin : i < n) (hn : n < 2147483648) (hdg : decode cc pc = .ok (.iastore, 1))
    (kk : ∀ (H1 : Heap) (locs1 : List Loc), va_P D vwCl (ws.set q0 (a, .inl (cA, n, .inl (fun k => jI ((va_up f i v k : Nat) : Int))))) H1 → va_D A (ws.set q0 (a, .inl (cA, n, .inl (fun k => jI ((va_up f i v k : Nat) : Int))))) → va_S A H0 H1 locs1 → W p l e R s m args below meth c H1 locs1 cells slots Q (F0 m (pc + 1) ls rest)) : W p l e R s m args below meth c H locs cells slots Q (F0 m pc ls (.int (jI x) :: .int (jI z) :: .ref a :: rest)) := by
  subst hv
  refine n_iast (f := fun i => ((f i : Nat) : Int)) hexec hb hK hP hD hS q0 t0 ha ht hi hin hn hdg (fun H1 locs1 hP1 hD1 hS1 => ?_)
  simp only [up_n] at hP1 hD1
  exact kk H1 locs1 hP1 hD1 hS1
end BR
def inB (lo hi v : Int) : Bool := decide (lo ≤ v ∧ v ≤ hi)
theorem inB_t {lo hi v : Int} (h1 : lo ≤ v) (h2 : v ≤ hi) : inB lo hi v = true := decide_eq_true ⟨h1, h2⟩
theorem inB_f {lo hi v : Int} (h : v < lo ∨ hi < v) : inB lo hi v = false := decide_eq_false (by omega)
theorem inB_iff {lo hi v : Int} : inB lo hi v = true ↔ lo ≤ v ∧ v ≤ hi := decide_eq_true_iff
theorem inB_niff {lo hi v : Int} : inB lo hi v = false ↔ (v < lo ∨ hi < v) := by
  unfold inB
  rw [decide_eq_false_iff_not]
  omega
/-- the reference's object: models, estimators, thrown; its arrays' cells -/
def oR (ms es th : Int32) (a : Nat → Nat) : va_E := .inr (7, [.int ms, .ref (a 0), .int es, .ref (a 1), .ref (a 2), .ref (a 3), .ref (a 4), .ref (a 5), .ref (a 6), .ref (a 7), .ref (a 8), .ref (a 9), .ref (a 10), .ref (a 11), .ref (a 12), .ref (a 13), .ref (a 14), .ref (a 15), .ref (a 16), .int th])
/-- a contract whose answer and end are said by a predicate -/
def EE {S : Type} (D : va_G) (A : Nat → Prop) (post : Int32 → S → Prop) (w1 : S → va_W) : Array Value → State → Outcome → State → Prop := va_Qi post (fun u t => va_P D vwCl (w1 u) t.heap) A
def CtE {S : Type} (l : Launch) (D : va_G) (tys : List (ClassId × FieldType)) (y : MethodName) (w : List Cond) (fr lo : Nat) (As : List Value) (post : Int32 → S → Prop) (wc : va_W) (w1 : S → va_W) : Prop := (∀ u, (w1 u).map (fun q => q.1) = wc.map (fun q => q.1)) ∧ ∀ sz : Nat, Met l y w { frames := fr, cells := 0, slots := 0, locals := lo } (va_Pc As (WP D tys sz wc)) (EE D (va_A wc sz) post w1) 0 0 (va_A wc sz)
theorem CtE.of {S : Type} {l : Launch} {D : va_G} {tys : List (ClassId × FieldType)} {y : MethodName} {w ws' : List Cond} {fr lo : Nat} {As : List Value} {post : Int32 → S → Prop} {wc : va_W} {w1 : S → va_W} {cc : ByteArray} {maxL : Nat} {ret : FieldType} (hy : plainFor y = true) (hw : w = Cond.code y cc maxL (some ret) :: ws') (hf : ∀ u, (w1 u).map (fun q => q.1) = wc.map (fun q => q.1)) (hn : (lg_sl As).length ≤ maxL)
    (body : ∀ (p : Program) (e : Env) (s : State) (m : MethodId) (below : List Frame) (meth : Method) (c : Code) (A : Nat → Prop) (ls : Array Slot), Cx p s m As.toArray meth c w y.cls cc maxL (some ret) → KK D tys s → va_P D vwCl wc s.heap → va_D A wc → (∀ q : Nat, s.heap.size ≤ q → A q) → lv_has ls maxL (lv_args 0 As) →
      W p l e { frames := fr, cells := 0, slots := 0, locals := lo } s m As.toArray below meth c s.heap [] 0 0 (MQ below (EE D A post w1) As.toArray s 0 0 A) (F0 m 0 ls [])) : CtE l D tys y w fr lo As post wc w1 := by
  refine ⟨hf, fun sz => ?_⟩
  refine met_ofWF (cc := cc) (maxL := maxL) (ret := some ret) hy hw ?_
  intro p e s m args below meth c s₁ B hml hv
  obtain ⟨rfl, hsz, hP, hK, hD0⟩ := hv
  subst hsz
  have hl := lv_entry As hn
  rw [lg_entry_eq]
  generalize (lg_sl As ++ List.replicate (maxL - (lg_sl As).length) Slot.unset).toArray = ls at hl ⊢
  exact body p e s m below meth c (va_A wc s.heap.size) ls ⟨B.exec, B.bytes, B.returns, hml, findClass_of_methodNamed B.named, atoms_spec (ws := w) B.pre, B.notSynchronized⟩ hK hP hD0.self (fun q h => Or.inr h) hl
section KE
variable {p : Program} {l : Launch} {e : Env} {R : Room} {s : State} {m : MethodId} {args : Array Value} {below : List Frame} {meth : Method} {c : Code} {H : Heap} {locs : List Loc} {cells slots : Nat} {Q : State → Prop}
variable {cc : ByteArray} {pc : Nat} {ls : Array Slot} {rest st0 : List Value} {D : va_G} {A : Nat → Prop} {tys : List (ClassId × FieldType)} {ws wc : va_W} {H0 : Heap} {a : Nat}
theorem e_iret {S : Type} {post : Int32 → S → Prop} {w1 : S → va_W} {v : Int32} (u : S) (hexec : p.tables.exec = Jvm.exec) (hb : c.code = cc) (hr : meth.sig.returnType = some .int) (hlocks : meth.locks = false) (hdg : decode cc pc = .ok (.ireturn, 1)) (hP : va_P D vwCl (w1 u) H) (hS : va_S A s.heap H locs) (hv : post v u) : W p l e R s m args below meth c H locs cells slots (MQ below (EE D A post w1) args s cells slots A) (F0 m pc ls [.int v]) :=
  W.iret hexec hb hr (fun t ht _ => ⟨⟨v, u, rfl, hv, by show va_P D vwCl (w1 u) t.heap; rw [ht]; exact hP⟩, hS.F ht⟩) hS.2.2 hdg hlocks
theorem e_zret {S : Type} {post : Int32 → S → Prop} {w1 : S → va_W} {b : Bool} {x : Int} (u : S) (hexec : p.tables.exec = Jvm.exec) (hb : c.code = cc) (hr : meth.sig.returnType = some .boolean) (hlocks : meth.locks = false) (hdg : decode cc pc = .ok (.ireturn, 1)) (hP : va_P D vwCl (w1 u) H) (hS : va_S A s.heap H locs) (hx : x = iB b) (hv : post (jI (iB b)) u) : W p l e R s m args below meth c H locs cells slots (MQ below (EE D A post w1) args s cells slots A) (F0 m pc ls [.int (jI x)]) := by
  subst hx
  exact W.zret (v := jI (iB b)) hexec hb hr (nar_iB b) (fun t ht _ => ⟨⟨_, u, rfl, hv, by show va_P D vwCl (w1 u) t.heap; rw [ht]; exact hP⟩, hS.F ht⟩) hS.2.2 hdg hlocks
theorem k_goE {S : Type} {post : Int32 → S → Prop} {w1 : S → va_W} {mc ms : Nat} {v : Array Value} (hr : va_Run p l e R s m args below meth c H locs cells slots mc ms (F0 m pc ls st0) rest (EE D (va_A wc H.size) post w1 v) (va_A wc H.size)) (hf : ∀ u, (w1 u).map (fun q => q.1) = wc.map (fun q => q.1)) (hP : va_P D vwCl ws H) (hD : va_D A ws) (hS : va_S A H0 H locs) (hA : ∀ q, H0.size ≤ q → A q) (is : List Nat) (hC : is.map (fun i => ws[i]?) = wc.map some) (hn : va_nd is = true)
    (kk : ∀ (r : Int32) (u : S) (H1 : Heap) (locs1 : List Loc), post r u → va_P D vwCl (setW ws is (w1 u)) H1 → va_D A (setW ws is (w1 u)) → va_S A H0 H1 locs1 → W p l e R s m args below meth c H1 locs1 (cells + mc) (slots + ms) Q (F0 m (pc + 3) ls (.int r :: rest))) : W p l e R s m args below meth c H locs cells slots Q (F0 m pc ls st0) := by
  have hF := va_free (wc := wc) hD hS hA is hC
  refine va_calli hr hS (fun q _ h => hF q h) hF (fun r1 u t H1 locs1 ht hvm hw hB hz1 hk1 hS1 => ?_)
  have hB : va_P D vwCl (w1 u) H1 := ht ▸ hB
  obtain ⟨g1, g2⟩ := k_back hP hD hC hn (hf u) hk1 hB
  exact kk r1 u H1 locs1 hw g1 g2 hS1
end KE
