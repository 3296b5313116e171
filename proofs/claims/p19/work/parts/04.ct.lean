/-! rows over explicit small worlds, numbers as whole numbers; contracts by explicit worlds -/
def setW (ws : va_W) : List Nat → va_W → va_W
  | i :: is, q :: w => setW (ws.set i q) is w
  | _, _ => ws
theorem setW_len : ∀ (is : List Nat) (w ws : va_W), (setW ws is w).length = ws.length
  | [], _, _ => by simp [setW]
  | _ :: _, [], _ => by simp [setW]
  | i :: is, q :: w, ws => by
    show (setW (ws.set i q) is w).length = ws.length
    rw [setW_len is w, List.length_set]
/-- behind a call: each row is the callee's, or the old one at a place that the callee didn't have -/
theorem setW_row : ∀ (is : List Nat) (w ws : va_W) (k : Nat) (q : Nat × va_E), is.length = w.length → (setW ws is w)[k]? = some q → q ∈ w ∨ (ws[k]? = some q ∧ k ∉ is)
  | [], [], ws, k, q, _, h => Or.inr ⟨h, List.not_mem_nil⟩
  | [], _ :: _, _, _, _, h, _ => by simp at h
  | _ :: _, [], _, _, _, h, _ => by simp at h
  | i :: is, x :: w, ws, k, q, hl, h => by
    rcases setW_row is w (ws.set i x) k q (by simpa using hl) h with h1 | ⟨h1, h2⟩
    · exact Or.inl (List.mem_cons_of_mem _ h1)
    · by_cases hk : k = i
      · subst hk
        have hlt : k < ws.length := by
          have := (List.getElem?_eq_some_iff.mp h1).1
          simpa using this
        rw [List.getElem?_set_self hlt] at h1
        cases h1
        exact Or.inl List.mem_cons_self
      · rw [List.getElem?_set_ne (Ne.symm hk)] at h1
        exact Or.inr ⟨h1, fun z => by rcases List.mem_cons.mp z with z | z; exact hk z; exact h2 z⟩
theorem setW_fst : ∀ (is : List Nat) (w ws wc : va_W), is.map (fun i => ws[i]?) = wc.map some → w.map (fun q => q.1) = wc.map (fun q => q.1) → va_nd is = true → (setW ws is w).map (fun q => q.1) = ws.map (fun q => q.1)
  | [], _, _, _, _, _, _ => by simp [setW]
  | _ :: _, [], _, _, _, _, _ => by simp [setW]
  | i :: is, x :: w, ws, [], h, _, _ => by simp at h
  | i :: is, x :: w, ws, y :: wc, h, hf, hn => by
    simp only [List.map_cons, List.cons.injEq] at h hf
    show (setW (ws.set i x) is w).map (fun q => q.1) = _
    have hni : i ∉ is ∧ va_nd is = true := by simpa [va_nd] using hn
    have he : is.map (fun j => (ws.set i x)[j]?) = is.map (fun j => ws[j]?) := by
      apply List.map_congr_left
      intro j hj
      exact List.getElem?_set_ne (fun z => hni.1 (by rw [z]; exact hj))
    rw [setW_fst is w (ws.set i x) wc (by rw [he]; exact h.2) hf.2 hni.2]
    apply List.ext_getElem?
    intro k
    rw [List.getElem?_map, List.getElem?_map]
    by_cases hk : i = k
    · subst hk
      have hlt : i < ws.length := (List.getElem?_eq_some_iff.mp h.1).1
      rw [List.getElem?_set_self hlt, h.1]
      simp [hf.1]
    · rw [List.getElem?_set_ne hk]
theorem va_D.fst {A : Nat → Prop} {ws ws' : va_W} (h : va_D A ws) (e : ws'.map (fun q => q.1) = ws.map (fun q => q.1)) : va_D A ws' := by
  have key : ∀ (k : Nat) (q : Nat × va_E), ws'[k]? = some q → ∃ q0, ws[k]? = some q0 ∧ q0.1 = q.1 := by
    intro k q hk
    have h1 : (ws'.map (fun q => q.1))[k]? = some q.1 := by rw [List.getElem?_map, hk]; rfl
    rw [e, List.getElem?_map] at h1
    cases hw : ws[k]? with
    | none => rw [hw] at h1; cases h1
    | some q0 => rw [hw] at h1; exact ⟨q0, rfl, Option.some.inj h1⟩
  refine ⟨fun i j x y hi hj hxy => ?_, fun k q hk => ?_⟩
  · obtain ⟨x0, h1, h2⟩ := key i x hi
    obtain ⟨y0, h3, h4⟩ := key j y hj
    exact h.1 i j x0 y0 h1 h3 (h2.trans (hxy.trans h4.symm))
  · obtain ⟨q0, h1, h2⟩ := key k q hk
    rw [← h2]
    exact h.2 k q0 h1
theorem k_back {A : Nat → Prop} {D : va_G} {cl : List vw_C} {ws wc w1 : va_W} {H H1 : Heap} (hP : va_P D cl ws H) (hD : va_D A ws) {is : List Nat} (hC : is.map (fun i => ws[i]?) = wc.map some) (hn : va_nd is = true) (hf : w1.map (fun q => q.1) = wc.map (fun q => q.1))
    (hk : ∀ q : Nat, q < H.size → ¬ va_A wc H.size q → H1[q]? = H[q]?) (hP1 : va_P D cl w1 H1) : va_P D cl (setW ws is w1) H1 ∧ va_D A (setW ws is w1) := by
  have hlen : is.length = w1.length := by
    have a1 := congrArg List.length hC
    have a2 := congrArg List.length hf
    simp at a1 a2
    omega
  refine ⟨fun k q hq => ?_, hD.fst (setW_fst is w1 ws wc hC hf hn)⟩
  rcases setW_row is w1 ws k q hlen hq with h | ⟨h, hni⟩
  · obtain ⟨j, hj⟩ := List.getElem?_of_mem h
    exact hP1 j q hj
  · have hl := (hP k q h).lt
    refine (hP k q h).kept (hk q.1 hl (fun z => ?_))
    rcases z with ⟨k2, e, z⟩ | z
    · have z1 : (is.map (fun i => ws[i]?))[k2]? = some (some (q.1, e)) := by rw [hC, List.getElem?_map, z]; rfl
      rw [List.getElem?_map] at z1
      cases hi : is[k2]? with
      | none => rw [hi] at z1; cases z1
      | some i =>
        rw [hi] at z1
        have z2 : ws[i]? = some (q.1, e) := Option.some.inj z1
        have z3 := hD.1 i k _ _ z2 h rfl
        exact hni (z3 ▸ List.mem_of_getElem? hi)
    · omega
theorem k_apart {A : Nat → Prop} {ws wc : va_W} (hD : va_D A ws) {is : List Nat} (hC : is.map (fun i => ws[i]?) = wc.map some) (hn : va_nd is = true) : va_D (fun _ => True) wc := (hD.sub is hn hC).weaken (fun _ _ _ _ => trivial)
theorem k_cut {D : va_G} {cl : List vw_C} {ws wc : va_W} {H : Heap} (hP : va_P D cl ws H) {is : List Nat} (hC : is.map (fun i => ws[i]?) = wc.map some) : va_P D cl wc H := hP.by (fun k => (is[k]?).getD 0) (fun k q hk => by
  have z1 : (is.map (fun i => ws[i]?))[k]? = some (some q) := by rw [hC, List.getElem?_map, hk]; rfl
  rw [List.getElem?_map] at z1
  cases hi : is[k]? with
  | none => rw [hi] at z1; cases z1
  | some i => rw [hi] at z1; exact Option.some.inj z1)
/-- a start with the world wc -/
def WP (D : va_G) (tys : List (ClassId × FieldType)) (sz : Nat) (wc : va_W) (U : State) : Prop := U.heap.size = sz ∧ va_P D vwCl wc U.heap ∧ KK D tys U ∧ va_D (fun _ => True) wc
theorem WP.blind {D : va_G} {tys : List (ClassId × FieldType)} {sz : Nat} {wc : va_W} {U : State} {g : JFrame} {mk : MethodId} {a : Array Value} (h : WP D tys sz wc U) : WP D tys sz wc (U.calling g mk a) := ⟨h.1, h.2.1, KK.same (u := U) (U := U.calling g mk a) h.2.2.1 rfl, h.2.2.2⟩
def EV (D : va_G) (A : Nat → Prop) (w1 : va_W) : Array Value → State → Outcome → State → Prop := va_Qv (fun _ : Unit => True) (fun _ t => va_P D vwCl w1 t.heap) A
def EI (D : va_G) (A : Nat → Prop) (v : Int32) (w1 : va_W) : Array Value → State → Outcome → State → Prop := va_Qi (fun r (_ : Unit) => r = v) (fun _ t => va_P D vwCl w1 t.heap) A
def EL (D : va_G) (A : Nat → Prop) (v : Int64) (w1 : va_W) : Array Value → State → Outcome → State → Prop := va_Ql (fun r (_ : Unit) => r = v) (fun _ t => va_P D vwCl w1 t.heap) A
/-- contracts: from the world wc to the world w1 at the same addresses; the answer v; nothing new -/
def CtV (l : Launch) (D : va_G) (tys : List (ClassId × FieldType)) (y : MethodName) (w : List Cond) (fr lo : Nat) (As : List Value) (wc w1 : va_W) : Prop := w1.map (fun q => q.1) = wc.map (fun q => q.1) ∧ ∀ sz : Nat, Met l y w { frames := fr, cells := 0, slots := 0, locals := lo } (va_Pc As (WP D tys sz wc)) (EV D (va_A wc sz) w1) 0 0 (va_A wc sz)
def CtI (l : Launch) (D : va_G) (tys : List (ClassId × FieldType)) (y : MethodName) (w : List Cond) (fr lo : Nat) (As : List Value) (v : Int32) (wc w1 : va_W) : Prop := w1.map (fun q => q.1) = wc.map (fun q => q.1) ∧ ∀ sz : Nat, Met l y w { frames := fr, cells := 0, slots := 0, locals := lo } (va_Pc As (WP D tys sz wc)) (EI D (va_A wc sz) v w1) 0 0 (va_A wc sz)
def CtL (l : Launch) (D : va_G) (tys : List (ClassId × FieldType)) (y : MethodName) (w : List Cond) (fr lo : Nat) (As : List Value) (v : Int64) (wc w1 : va_W) : Prop := w1.map (fun q => q.1) = wc.map (fun q => q.1) ∧ ∀ sz : Nat, Met l y w { frames := fr, cells := 0, slots := 0, locals := lo } (va_Pc As (WP D tys sz wc)) (EL D (va_A wc sz) v w1) 0 0 (va_A wc sz)
/-- what holds all along a body -/
def Cx (p : Program) (s : State) (m : MethodId) (args : Array Value) (meth : Method) (c : Code) (w : List Cond) (C : String) (cc : ByteArray) (maxL : Nat) (ret : Option FieldType) : Prop :=
  p.tables.exec = Jvm.exec ∧ c.code = cc ∧ meth.sig.returnType = ret ∧ c.maxLocals = maxL ∧ s.vm.findClass C = some m.cls ∧ (∀ x ∈ w, x.before args s = true) ∧ meth.locks = false
theorem met_ofWF {l : Launch} {y : MethodName} {ws ws' : List Cond} {rm : Room} {Pc : Array Value → State → Prop} {Qc : Array Value → State → Outcome → State → Prop} {mc ms : Nat} {free : Addr → Prop} {cc : ByteArray} {maxL : Nat} {ret : Option FieldType}
    (hy : plainFor y = true) (hw : ws = Cond.code y cc maxL ret :: ws')
    (body : ∀ p e s m args below meth c s₁, BodyLoose p l y (headSpec ws rm) cc maxL ret e s m args below meth c s₁ → c.maxLocals = maxL → Pc args s →
      W p l e (headSpec ws rm).room s m args below meth c s.heap [] 0 0 (MQ below Qc args s mc ms free) (entryFrame m args maxL)) : Met l y ws rm Pc Qc mc ms free := by
  refine MetFree.of_bodySF (code := cc) (maxLocals := maxL) (ret := ret) hy ?_ ?_
  · intro args s m h hn
    obtain ⟨meth, c, h1, h2, h3, h4, h5, h6, -, -⟩ := Cond.code_spec hn (atoms_spec (ws := ws) h _ (by rw [hw]; exact List.mem_cons_self))
    exact ⟨meth, c, h1, h2, h3, h4, h5, h6⟩
  · intro p e s m args below meth c s₁ B hml hP _
    have hh0 : s₁.heap = s.heap := by rw [B.state]; rfl
    obtain ⟨t, a1, o, b1, b2, b3⟩ := body p e s m args below meth c s₁ B hml hP s₁ hh0 (Stand.of_body B)
    exact ⟨t, o, a1, b1, b2, ⟨b3.1, b3.2⟩⟩
theorem CtV.of {l : Launch} {D : va_G} {tys : List (ClassId × FieldType)} {y : MethodName} {w ws' : List Cond} {fr lo : Nat} {As : List Value} {wc w1 : va_W} {cc : ByteArray} {maxL : Nat} (hy : plainFor y = true) (hw : w = Cond.code y cc maxL none :: ws') (hf : w1.map (fun q => q.1) = wc.map (fun q => q.1)) (hn : (lg_sl As).length ≤ maxL)
    (body : ∀ (p : Program) (e : Env) (s : State) (m : MethodId) (below : List Frame) (meth : Method) (c : Code) (A : Nat → Prop) (ls : Array Slot), Cx p s m As.toArray meth c w y.cls cc maxL none → KK D tys s → va_P D vwCl wc s.heap → va_D A wc → (∀ q : Nat, s.heap.size ≤ q → A q) → lv_has ls maxL (lv_args 0 As) →
      W p l e { frames := fr, cells := 0, slots := 0, locals := lo } s m As.toArray below meth c s.heap [] 0 0 (MQ below (EV D A w1) As.toArray s 0 0 A) (F0 m 0 ls [])) : CtV l D tys y w fr lo As wc w1 := by
  refine ⟨hf, fun sz => ?_⟩
  refine met_ofWF (cc := cc) (maxL := maxL) (ret := none) hy hw ?_
  intro p e s m args below meth c s₁ B hml hv
  obtain ⟨rfl, hsz, hP, hK, hD0⟩ := hv
  subst hsz
  have hl := lv_entry As hn
  rw [lg_entry_eq]
  generalize (lg_sl As ++ List.replicate (maxL - (lg_sl As).length) Slot.unset).toArray = ls at hl ⊢
  exact body p e s m below meth c (va_A wc s.heap.size) ls ⟨B.exec, B.bytes, B.returns, hml, findClass_of_methodNamed B.named, atoms_spec (ws := w) B.pre, B.notSynchronized⟩ hK hP hD0.self (fun q h => Or.inr h) hl
theorem CtI.of {l : Launch} {D : va_G} {tys : List (ClassId × FieldType)} {y : MethodName} {w ws' : List Cond} {fr lo : Nat} {As : List Value} {v : Int32} {wc w1 : va_W} {cc : ByteArray} {maxL : Nat} {ret : FieldType} (hy : plainFor y = true) (hw : w = Cond.code y cc maxL (some ret) :: ws') (hf : w1.map (fun q => q.1) = wc.map (fun q => q.1)) (hn : (lg_sl As).length ≤ maxL)
    (body : ∀ (p : Program) (e : Env) (s : State) (m : MethodId) (below : List Frame) (meth : Method) (c : Code) (A : Nat → Prop) (ls : Array Slot), Cx p s m As.toArray meth c w y.cls cc maxL (some ret) → KK D tys s → va_P D vwCl wc s.heap → va_D A wc → (∀ q : Nat, s.heap.size ≤ q → A q) → lv_has ls maxL (lv_args 0 As) →
      W p l e { frames := fr, cells := 0, slots := 0, locals := lo } s m As.toArray below meth c s.heap [] 0 0 (MQ below (EI D A v w1) As.toArray s 0 0 A) (F0 m 0 ls [])) : CtI l D tys y w fr lo As v wc w1 := by
  refine ⟨hf, fun sz => ?_⟩
  refine met_ofWF (cc := cc) (maxL := maxL) (ret := some ret) hy hw ?_
  intro p e s m args below meth c s₁ B hml hv
  obtain ⟨rfl, hsz, hP, hK, hD0⟩ := hv
  subst hsz
  have hl := lv_entry As hn
  rw [lg_entry_eq]
  generalize (lg_sl As ++ List.replicate (maxL - (lg_sl As).length) Slot.unset).toArray = ls at hl ⊢
  exact body p e s m below meth c (va_A wc s.heap.size) ls ⟨B.exec, B.bytes, B.returns, hml, findClass_of_methodNamed B.named, atoms_spec (ws := w) B.pre, B.notSynchronized⟩ hK hP hD0.self (fun q h => Or.inr h) hl
theorem CtL.of {l : Launch} {D : va_G} {tys : List (ClassId × FieldType)} {y : MethodName} {w ws' : List Cond} {fr lo : Nat} {As : List Value} {v : Int64} {wc w1 : va_W} {cc : ByteArray} {maxL : Nat} (hy : plainFor y = true) (hw : w = Cond.code y cc maxL (some .long) :: ws') (hf : w1.map (fun q => q.1) = wc.map (fun q => q.1)) (hn : (lg_sl As).length ≤ maxL)
    (body : ∀ (p : Program) (e : Env) (s : State) (m : MethodId) (below : List Frame) (meth : Method) (c : Code) (A : Nat → Prop) (ls : Array Slot), Cx p s m As.toArray meth c w y.cls cc maxL (some .long) → KK D tys s → va_P D vwCl wc s.heap → va_D A wc → (∀ q : Nat, s.heap.size ≤ q → A q) → lv_has ls maxL (lv_args 0 As) →
      W p l e { frames := fr, cells := 0, slots := 0, locals := lo } s m As.toArray below meth c s.heap [] 0 0 (MQ below (EL D A v w1) As.toArray s 0 0 A) (F0 m 0 ls [])) : CtL l D tys y w fr lo As v wc w1 := by
  refine ⟨hf, fun sz => ?_⟩
  refine met_ofWF (cc := cc) (maxL := maxL) (ret := some .long) hy hw ?_
  intro p e s m args below meth c s₁ B hml hv
  obtain ⟨rfl, hsz, hP, hK, hD0⟩ := hv
  subst hsz
  have hl := lv_entry As hn
  rw [lg_entry_eq]
  generalize (lg_sl As ++ List.replicate (maxL - (lg_sl As).length) Slot.unset).toArray = ls at hl ⊢
  exact body p e s m below meth c (va_A wc s.heap.size) ls ⟨B.exec, B.bytes, B.returns, hml, findClass_of_methodNamed B.named, atoms_spec (ws := w) B.pre, B.notSynchronized⟩ hK hP hD0.self (fun q h => Or.inr h) hl
section KR
variable {p : Program} {l : Launch} {e : Env} {R : Room} {s : State} {m : MethodId} {args : Array Value} {below : List Frame} {meth : Method} {c : Code} {H : Heap} {locs : List Loc} {cells slots : Nat} {Q : State → Prop}
variable {cc : ByteArray} {pc : Nat} {ls : Array Slot} {rest st0 : List Value} {D : va_G} {A : Nat → Prop} {tys : List (ClassId × FieldType)} {ws wc w1 : va_W} {H0 : Heap} {a : Nat}
theorem k_vret (hexec : p.tables.exec = Jvm.exec) (hb : c.code = cc) (hr : meth.sig.returnType = none) (hlocks : meth.locks = false) (hdg : decode cc pc = .ok (.return_, 1)) (hP : va_P D vwCl w1 H) (hS : va_S A s.heap H locs) : W p l e R s m args below meth c H locs cells slots (MQ below (EV D A w1) args s cells slots A) (F0 m pc ls []) :=
  W.vret hexec hb hr (fun t ht _ => ⟨⟨(), rfl, trivial, by show va_P D vwCl w1 t.heap; rw [ht]; exact hP⟩, hS.F ht⟩) hS.2.2 hdg hlocks
theorem k_iret {v v' : Int32} (hexec : p.tables.exec = Jvm.exec) (hb : c.code = cc) (hr : meth.sig.returnType = some .int) (hlocks : meth.locks = false) (hdg : decode cc pc = .ok (.ireturn, 1)) (hP : va_P D vwCl w1 H) (hS : va_S A s.heap H locs) (hv : v' = v) : W p l e R s m args below meth c H locs cells slots (MQ below (EI D A v w1) args s cells slots A) (F0 m pc ls [.int v']) :=
  W.iret hexec hb hr (fun t ht _ => ⟨⟨v', (), rfl, hv, by show va_P D vwCl w1 t.heap; rw [ht]; exact hP⟩, hS.F ht⟩) hS.2.2 hdg hlocks
theorem nar_iB (b : Bool) : narrow .boolean (.int (jI (iB b))) = .int (jI (iB b)) := by cases b <;> rfl
theorem k_zret {b : Bool} {v : Int32} {x : Int} (hexec : p.tables.exec = Jvm.exec) (hb : c.code = cc) (hr : meth.sig.returnType = some .boolean) (hlocks : meth.locks = false) (hdg : decode cc pc = .ok (.ireturn, 1)) (hP : va_P D vwCl w1 H) (hS : va_S A s.heap H locs) (hx : x = iB b) (hv : jI (iB b) = v) : W p l e R s m args below meth c H locs cells slots (MQ below (EI D A v w1) args s cells slots A) (F0 m pc ls [.int (jI x)]) := by
  subst hx
  exact W.zret (v := jI (iB b)) hexec hb hr (nar_iB b) (fun t ht _ => ⟨⟨_, (), rfl, hv, by show va_P D vwCl w1 t.heap; rw [ht]; exact hP⟩, hS.F ht⟩) hS.2.2 hdg hlocks
theorem k_lret {v v' : Int64} (hexec : p.tables.exec = Jvm.exec) (hb : c.code = cc) (hr : meth.sig.returnType = some .long) (hlocks : meth.locks = false) (hdg : decode cc pc = .ok (.lreturn, 1)) (hP : va_P D vwCl w1 H) (hS : va_S A s.heap H locs) (hv : v' = v) : W p l e R s m args below meth c H locs cells slots (MQ below (EL D A v w1) args s cells slots A) (F0 m pc ls [.long v']) :=
  W.lret hexec hb hr (fun t ht _ => ⟨⟨v', (), rfl, hv, by show va_P D vwCl w1 t.heap; rw [ht]; exact hP⟩, hS.F ht⟩) hS.2.2 hdg hlocks
/-- what a call over an explicit world needs and gives -/
theorem k_pre {As : List Value} (hK : KK D tys s) (hP : va_P D vwCl ws H) (hD : va_D A ws) {is : List Nat} (hC : is.map (fun i => ws[i]?) = wc.map some) (hn : va_nd is = true) : PreS s H (va_Pc As (WP D tys H.size wc)) As :=
  ⟨fun _ _ _ _ q => ⟨q.1, q.2.blind⟩, fun U hU hW => ⟨rfl, by rw [hU], by rw [hU]; exact k_cut hP hC, hK.warm hW, k_apart hD hC hn⟩⟩
theorem k_goV {mc ms : Nat} {v : Array Value} (hr : va_Run p l e R s m args below meth c H locs cells slots mc ms (F0 m pc ls st0) rest (EV D (va_A wc H.size) w1 v) (va_A wc H.size)) (hf : w1.map (fun q => q.1) = wc.map (fun q => q.1)) (hP : va_P D vwCl ws H) (hD : va_D A ws) (hS : va_S A H0 H locs) (hA : ∀ q, H0.size ≤ q → A q) (is : List Nat) (hC : is.map (fun i => ws[i]?) = wc.map some) (hn : va_nd is = true)
    (kk : ∀ (H1 : Heap) (locs1 : List Loc), va_P D vwCl (setW ws is w1) H1 → va_D A (setW ws is w1) → va_S A H0 H1 locs1 → W p l e R s m args below meth c H1 locs1 (cells + mc) (slots + ms) Q (F0 m (pc + 3) ls rest)) : W p l e R s m args below meth c H locs cells slots Q (F0 m pc ls st0) := by
  have hF := va_free (wc := wc) hD hS hA is hC
  refine va_callv hr hS (fun q _ h => hF q h) hF (fun u t H1 locs1 ht hvm hw hB hz1 hk1 hS1 => ?_)
  rw [ht] at hB
  obtain ⟨g1, g2⟩ := k_back hP hD hC hn hf hk1 hB
  exact kk H1 locs1 g1 g2 hS1
theorem k_goI {mc ms : Nat} {v : Array Value} {r : Int32} (hr : va_Run p l e R s m args below meth c H locs cells slots mc ms (F0 m pc ls st0) rest (EI D (va_A wc H.size) r w1 v) (va_A wc H.size)) (hf : w1.map (fun q => q.1) = wc.map (fun q => q.1)) (hP : va_P D vwCl ws H) (hD : va_D A ws) (hS : va_S A H0 H locs) (hA : ∀ q, H0.size ≤ q → A q) (is : List Nat) (hC : is.map (fun i => ws[i]?) = wc.map some) (hn : va_nd is = true)
    (kk : ∀ (H1 : Heap) (locs1 : List Loc), va_P D vwCl (setW ws is w1) H1 → va_D A (setW ws is w1) → va_S A H0 H1 locs1 → W p l e R s m args below meth c H1 locs1 (cells + mc) (slots + ms) Q (F0 m (pc + 3) ls (.int r :: rest))) : W p l e R s m args below meth c H locs cells slots Q (F0 m pc ls st0) := by
  have hF := va_free (wc := wc) hD hS hA is hC
  refine va_calli hr hS (fun q _ h => hF q h) hF (fun r1 u t H1 locs1 ht hvm hw hB hz1 hk1 hS1 => ?_)
  rw [ht] at hB
  obtain ⟨g1, g2⟩ := k_back hP hD hC hn hf hk1 hB
  rw [hw]
  exact kk H1 locs1 g1 g2 hS1
theorem k_goL {mc ms : Nat} {v : Array Value} {r : Int64} (hr : va_Run p l e R s m args below meth c H locs cells slots mc ms (F0 m pc ls st0) rest (EL D (va_A wc H.size) r w1 v) (va_A wc H.size)) (hf : w1.map (fun q => q.1) = wc.map (fun q => q.1)) (hP : va_P D vwCl ws H) (hD : va_D A ws) (hS : va_S A H0 H locs) (hA : ∀ q, H0.size ≤ q → A q) (is : List Nat) (hC : is.map (fun i => ws[i]?) = wc.map some) (hn : va_nd is = true)
    (kk : ∀ (H1 : Heap) (locs1 : List Loc), va_P D vwCl (setW ws is w1) H1 → va_D A (setW ws is w1) → va_S A H0 H1 locs1 → W p l e R s m args below meth c H1 locs1 (cells + mc) (slots + ms) Q (F0 m (pc + 3) ls (.long r :: rest))) : W p l e R s m args below meth c H locs cells slots Q (F0 m pc ls st0) := by
  have hF := va_free (wc := wc) hD hS hA is hC
  refine va_calll hr hS (fun q _ h => hF q h) hF (fun r1 u t H1 locs1 ht hvm hw hB hz1 hk1 hS1 => ?_)
  rw [ht] at hB
  obtain ⟨g1, g2⟩ := k_back hP hD hC hn hf hk1 hB
  rw [hw]
  exact kk H1 locs1 g1 g2 hS1
end KR
