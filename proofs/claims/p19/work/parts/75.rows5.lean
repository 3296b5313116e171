/-! rows that make cells; contracts that leave cells behind -/
/-- the array classes that anewarray asks for -/
def AOs (U : State) : Prop := va_AO RX1 U ∧ va_AO RX2 U ∧ va_AO RX4 U
theorem AOs.warm {s U : State} (h : AOs s) (hW : s.WarmedH U.vm) : AOs U := ⟨h.1.moved hW.alike, h.2.1.moved hW.alike, h.2.2.moved hW.alike⟩
theorem AOs.same {u U : State} (h : AOs u) (e : u.vm = U.vm) : AOs U := by
  have hv : u.vm.Alike U.vm := by rw [e]; exact Vm.Alike.refl _
  exact ⟨h.1.moved hv, h.2.1.moved hv, h.2.2.moved hv⟩
def WO (D : va_G) (tys : List (ClassId × FieldType)) (sz : Nat) (wc : va_W) (U : State) : Prop := WP D tys sz wc U ∧ AOs U
theorem WO.blind {D : va_G} {tys : List (ClassId × FieldType)} {sz : Nat} {wc : va_W} {U : State} {g : JFrame} {mk : MethodId} {a : Array Value} (h : WO D tys sz wc U) : WO D tys sz wc (U.calling g mk a) := ⟨h.1.blind, h.2.same (U := U.calling g mk a) rfl⟩
/-- the end of a contract that leaves the cells nw -/
def EN {S : Type} (D : va_G) (A : Nat → Prop) (post : S → Prop) (w1 nw : S → va_W) : Array Value → State → Outcome → State → Prop := va_Qv post (fun u t => va_P D vwCl (nw u ++ w1 u) t.heap ∧ va_D A (nw u ++ w1 u)) A
def ENI {S : Type} (D : va_G) (A : Nat → Prop) (post : Int32 → S → Prop) (w1 nw : S → va_W) : Array Value → State → Outcome → State → Prop := va_Qi post (fun u t => va_P D vwCl (nw u ++ w1 u) t.heap ∧ va_D A (nw u ++ w1 u)) A
def CtN {S : Type} (l : Launch) (D : va_G) (tys : List (ClassId × FieldType)) (y : MethodName) (w : List Cond) (fr lo mc ms : Nat) (As : List Value) (post : S → Prop) (wc : va_W) (w1 nw : S → va_W) : Prop := (∀ u, (w1 u).map (fun q => q.1) = wc.map (fun q => q.1)) ∧ ∀ sz : Nat, Met l y w { frames := fr, cells := mc, slots := ms, locals := lo } (va_Pc As (WO D tys sz wc)) (EN D (va_A wc sz) post w1 nw) mc ms (va_A wc sz)
def CtNI {S : Type} (l : Launch) (D : va_G) (tys : List (ClassId × FieldType)) (y : MethodName) (w : List Cond) (fr lo mc ms : Nat) (As : List Value) (post : Int32 → S → Prop) (wc : va_W) (w1 nw : S → va_W) : Prop := (∀ u, (w1 u).map (fun q => q.1) = wc.map (fun q => q.1)) ∧ ∀ sz : Nat, Met l y w { frames := fr, cells := mc, slots := ms, locals := lo } (va_Pc As (WO D tys sz wc)) (ENI D (va_A wc sz) post w1 nw) mc ms (va_A wc sz)
theorem CtN.of {S : Type} {l : Launch} {D : va_G} {tys : List (ClassId × FieldType)} {y : MethodName} {w ws' : List Cond} {fr lo mc ms : Nat} {As : List Value} {post : S → Prop} {wc : va_W} {w1 nw : S → va_W} {cc : ByteArray} {maxL : Nat} (hy : plainFor y = true) (hw : w = Cond.code y cc maxL none :: ws') (hf : ∀ u, (w1 u).map (fun q => q.1) = wc.map (fun q => q.1)) (hn : (lg_sl As).length ≤ maxL)
    (body : ∀ (p : Program) (e : Env) (s : State) (m : MethodId) (below : List Frame) (meth : Method) (c : Code) (A : Nat → Prop) (ls : Array Slot), Cx p s m As.toArray meth c w y.cls cc maxL none → meth.name = y.name → KK D tys s → AOs s → va_P D vwCl wc s.heap → va_D A wc → (∀ q : Nat, s.heap.size ≤ q → A q) → lv_has ls maxL (lv_args 0 As) →
      W p l e { frames := fr, cells := mc, slots := ms, locals := lo } s m As.toArray below meth c s.heap [] 0 0 (MQ below (EN D A post w1 nw) As.toArray s mc ms A) (F0 m 0 ls [])) : CtN l D tys y w fr lo mc ms As post wc w1 nw := by
  refine ⟨hf, fun sz => ?_⟩
  refine met_ofWF (cc := cc) (maxL := maxL) (ret := none) hy hw ?_
  intro p e s m args below meth c s₁ B hml hv
  obtain ⟨rfl, ⟨hsz, hP, hK, hD0⟩, hO⟩ := hv
  subst hsz
  have hl := lv_entry As hn
  rw [lg_entry_eq]
  generalize (lg_sl As ++ List.replicate (maxL - (lg_sl As).length) Slot.unset).toArray = ls at hl ⊢
  exact body p e s m below meth c (va_A wc s.heap.size) ls ⟨B.exec, B.bytes, B.returns, hml, findClass_of_methodNamed B.named, atoms_spec (ws := w) B.pre, B.notSynchronized⟩ (name_of_methodNamed B.named B.method).1 hK hO hP hD0.self (fun q h => Or.inr h) hl
theorem CtNI.of {S : Type} {l : Launch} {D : va_G} {tys : List (ClassId × FieldType)} {y : MethodName} {w ws' : List Cond} {fr lo mc ms : Nat} {As : List Value} {post : Int32 → S → Prop} {wc : va_W} {w1 nw : S → va_W} {cc : ByteArray} {maxL : Nat} {ret : FieldType} (hy : plainFor y = true) (hw : w = Cond.code y cc maxL (some ret) :: ws') (hf : ∀ u, (w1 u).map (fun q => q.1) = wc.map (fun q => q.1)) (hn : (lg_sl As).length ≤ maxL)
    (body : ∀ (p : Program) (e : Env) (s : State) (m : MethodId) (below : List Frame) (meth : Method) (c : Code) (A : Nat → Prop) (ls : Array Slot), Cx p s m As.toArray meth c w y.cls cc maxL (some ret) → meth.name = y.name → KK D tys s → AOs s → va_P D vwCl wc s.heap → va_D A wc → (∀ q : Nat, s.heap.size ≤ q → A q) → lv_has ls maxL (lv_args 0 As) →
      W p l e { frames := fr, cells := mc, slots := ms, locals := lo } s m As.toArray below meth c s.heap [] 0 0 (MQ below (ENI D A post w1 nw) As.toArray s mc ms A) (F0 m 0 ls [])) : CtNI l D tys y w fr lo mc ms As post wc w1 nw := by
  refine ⟨hf, fun sz => ?_⟩
  refine met_ofWF (cc := cc) (maxL := maxL) (ret := some ret) hy hw ?_
  intro p e s m args below meth c s₁ B hml hv
  obtain ⟨rfl, ⟨hsz, hP, hK, hD0⟩, hO⟩ := hv
  subst hsz
  have hl := lv_entry As hn
  rw [lg_entry_eq]
  generalize (lg_sl As ++ List.replicate (maxL - (lg_sl As).length) Slot.unset).toArray = ls at hl ⊢
  exact body p e s m below meth c (va_A wc s.heap.size) ls ⟨B.exec, B.bytes, B.returns, hml, findClass_of_methodNamed B.named, atoms_spec (ws := w) B.pre, B.notSynchronized⟩ (name_of_methodNamed B.named B.method).1 hK hO hP hD0.self (fun q h => Or.inr h) hl
/-- fresh cells in front of what the caller has -/
theorem k_fresh {A : Nat → Prop} {D : va_G} {cl : List vw_C} {ws wc wx w1 nw : va_W} {H0 H H1 : Heap} {locs : List Loc} (hS : va_S A H0 H locs) (hA : ∀ q, H0.size ≤ q → A q) (hP : va_P D cl ws H) (hx : wx.map (fun q => q.1) = ws.map (fun q => q.1)) (hf : w1.map (fun q => q.1) = wc.map (fun q => q.1))
    (hPx : va_P D cl wx H1) (hDx : va_D A wx) (hPn : va_P D cl (nw ++ w1) H1) (hDn : va_D (va_A wc H.size) (nw ++ w1)) : va_P D cl (nw ++ wx) H1 ∧ va_D A (nw ++ wx) := by
  have hfr : ∀ q ∈ nw, H.size ≤ q.1 := by
    intro q hq
    have hd := va_D_mem.mp hDn
    rcases hd.2 q (List.mem_append_left _ hq) with ⟨k, e, hk⟩ | h
    · exfalso
      have hm : q.1 ∈ w1.map (fun q => q.1) := by
        rw [hf]
        exact List.mem_map.mpr ⟨(q.1, e), List.mem_of_getElem? hk, rfl⟩
      have hn := hd.1
      rw [List.map_append, List.nodup_append] at hn
      exact hn.2.2 q.1 (List.mem_map.mpr ⟨q, hq, rfl⟩) q.1 hm rfl
    · exact h
  have hlt : ∀ q ∈ wx, q.1 < H.size := by
    intro q hq
    have hm : q.1 ∈ ws.map (fun q => q.1) := by
      rw [← hx]
      exact List.mem_map.mpr ⟨q, hq, rfl⟩
    obtain ⟨r, hr, e⟩ := List.mem_map.mp hm
    rw [← e]
    exact (va_P_mem.mp hP r hr).lt
  refine ⟨hPn.left.app hPx, ?_⟩
  rw [va_D_mem]
  refine ⟨?_, fun q hq => ?_⟩
  · rw [List.map_append, List.nodup_append]
    refine ⟨(va_D_mem.mp hDn.left).1, (va_D_mem.mp hDx).1, fun x hx y hy e => ?_⟩
    obtain ⟨q, hq, rfl⟩ := List.mem_map.mp hx
    obtain ⟨r, hr, rfl⟩ := List.mem_map.mp hy
    have h1 := hfr q hq
    have h2 := hlt r hr
    have h3 : q.1 = r.1 := e
    omega
  · rcases List.mem_append.mp hq with h | h
    · exact hA _ (Nat.le_trans hS.1 (hfr q h))
    · exact (va_D_mem.mp hDx).2 q h
section KN
variable {p : Program} {l : Launch} {e : Env} {R : Room} {s : State} {m : MethodId} {args : Array Value} {below : List Frame} {meth : Method} {c : Code} {H : Heap} {locs : List Loc} {cells slots : Nat} {Q : State → Prop}
variable {cc : ByteArray} {pc : Nat} {ls : Array Slot} {rest st0 : List Value} {D : va_G} {A : Nat → Prop} {tys : List (ClassId × FieldType)} {ws wc : va_W} {H0 : Heap} {a : Nat}
theorem n_vret {S : Type} {post : S → Prop} {w1 nw : S → va_W} (u : S) (hexec : p.tables.exec = Jvm.exec) (hb : c.code = cc) (hr : meth.sig.returnType = none) (hlocks : meth.locks = false) (hdg : decode cc pc = .ok (.return_, 1)) (hP : va_P D vwCl (nw u ++ w1 u) H) (hD : va_D A (nw u ++ w1 u)) (hS : va_S A s.heap H locs) (hv : post u) : W p l e R s m args below meth c H locs cells slots (MQ below (EN D A post w1 nw) args s cells slots A) (F0 m pc ls []) :=
  W.vret hexec hb hr (fun t ht _ => ⟨⟨u, rfl, hv, by show va_P D vwCl (nw u ++ w1 u) t.heap; rw [ht]; exact hP, hD⟩, hS.F ht⟩) hS.2.2 hdg hlocks
theorem n_iret {S : Type} {post : Int32 → S → Prop} {w1 nw : S → va_W} {v : Int32} (u : S) (hexec : p.tables.exec = Jvm.exec) (hb : c.code = cc) (hr : meth.sig.returnType = some .int) (hlocks : meth.locks = false) (hdg : decode cc pc = .ok (.ireturn, 1)) (hP : va_P D vwCl (nw u ++ w1 u) H) (hD : va_D A (nw u ++ w1 u)) (hS : va_S A s.heap H locs) (hv : post v u) : W p l e R s m args below meth c H locs cells slots (MQ below (ENI D A post w1 nw) args s cells slots A) (F0 m pc ls [.int v]) :=
  W.iret hexec hb hr (fun t ht _ => ⟨⟨v, u, rfl, hv, by show va_P D vwCl (nw u ++ w1 u) t.heap; rw [ht]; exact hP, hD⟩, hS.F ht⟩) hS.2.2 hdg hlocks
theorem n_pre {As : List Value} (hK : KK D tys s) (hO : AOs s) (hP : va_P D vwCl ws H) (hD : va_D A ws) {is : List Nat} (hC : is.map (fun i => ws[i]?) = wc.map some) (hn : va_nd is = true) : PreS s H (va_Pc As (WO D tys H.size wc)) As :=
  ⟨fun _ _ _ _ q => ⟨q.1, q.2.blind⟩, fun U hU hW => ⟨rfl, ⟨by rw [hU], by rw [hU]; exact k_cut hP hC, hK.warm hW, k_apart hD hC hn⟩, hO.warm hW⟩⟩
theorem k_goN {S : Type} {post : S → Prop} {w1 nw : S → va_W} {mc ms : Nat} {v : Array Value} (hr : va_Run p l e R s m args below meth c H locs cells slots mc ms (F0 m pc ls st0) rest (EN D (va_A wc H.size) post w1 nw v) (va_A wc H.size)) (hf : ∀ u, (w1 u).map (fun q => q.1) = wc.map (fun q => q.1)) (hP : va_P D vwCl ws H) (hD : va_D A ws) (hS : va_S A H0 H locs) (hA : ∀ q, H0.size ≤ q → A q) (is : List Nat) (hC : is.map (fun i => ws[i]?) = wc.map some) (hn : va_nd is = true)
    (kk : ∀ (u : S) (H1 : Heap) (locs1 : List Loc), post u → va_P D vwCl (nw u ++ setW ws is (w1 u)) H1 → va_D A (nw u ++ setW ws is (w1 u)) → va_S A H0 H1 locs1 → W p l e R s m args below meth c H1 locs1 (cells + mc) (slots + ms) Q (F0 m (pc + 3) ls rest)) : W p l e R s m args below meth c H locs cells slots Q (F0 m pc ls st0) := by
  have hF := va_free (wc := wc) hD hS hA is hC
  refine va_callv hr hS (fun q _ h => hF q h) hF (fun u t H1 locs1 ht hvm hw hB hz1 hk1 hS1 => ?_)
  have hB1 : va_P D vwCl (nw u ++ w1 u) H1 := ht ▸ hB.1
  obtain ⟨g1, g2⟩ := k_back hP hD hC hn (hf u) hk1 hB1.right
  obtain ⟨f1, f2⟩ := k_fresh hS hA hP (setW_fst is (w1 u) ws wc hC (hf u) hn) (hf u) g1 g2 hB1 hB.2
  exact kk u H1 locs1 hw f1 f2 hS1
theorem k_goNI {S : Type} {post : Int32 → S → Prop} {w1 nw : S → va_W} {mc ms : Nat} {v : Array Value} (hr : va_Run p l e R s m args below meth c H locs cells slots mc ms (F0 m pc ls st0) rest (ENI D (va_A wc H.size) post w1 nw v) (va_A wc H.size)) (hf : ∀ u, (w1 u).map (fun q => q.1) = wc.map (fun q => q.1)) (hP : va_P D vwCl ws H) (hD : va_D A ws) (hS : va_S A H0 H locs) (hA : ∀ q, H0.size ≤ q → A q) (is : List Nat) (hC : is.map (fun i => ws[i]?) = wc.map some) (hn : va_nd is = true)
    (kk : ∀ (r : Int32) (u : S) (H1 : Heap) (locs1 : List Loc), post r u → va_P D vwCl (nw u ++ setW ws is (w1 u)) H1 → va_D A (nw u ++ setW ws is (w1 u)) → va_S A H0 H1 locs1 → W p l e R s m args below meth c H1 locs1 (cells + mc) (slots + ms) Q (F0 m (pc + 3) ls (.int r :: rest))) : W p l e R s m args below meth c H locs cells slots Q (F0 m pc ls st0) := by
  have hF := va_free (wc := wc) hD hS hA is hC
  refine va_calli hr hS (fun q _ h => hF q h) hF (fun r u t H1 locs1 ht hvm hw hB hz1 hk1 hS1 => ?_)
  have hB1 : va_P D vwCl (nw u ++ w1 u) H1 := ht ▸ hB.1
  obtain ⟨g1, g2⟩ := k_back hP hD hC hn (hf u) hk1 hB1.right
  obtain ⟨f1, f2⟩ := k_fresh hS hA hP (setW_fst is (w1 u) ws wc hC (hf u) hn) (hf u) g1 g2 hB1 hB.2
  exact kk r u H1 locs1 hw f1 f2 hS1
theorem k_new {c0 : Code} (hexec : p.tables.exec = Jvm.exec) (hb : c0.code = cc) {own C : String} {T : u_T} {N ci index : Nat} {Ts : List Cond} (hts : ∀ w ∈ Ts, w.before args s = true) (hin : ∀ w ∈ u_ws C T N, w ∈ Ts) (ty : Nat → FieldType) (hty : ∀ k, k < N → parseFieldDescriptor (T k).2.2.1 = some (ty k)) (hown : s.vm.findClass own = some m.cls) (hcl : (Cond.classLink own index C).before args s = true) (hinst : (Cond.instantiable C N).before args s = true) (hini : (Cond.initialized C).before args s = true)
    (hK : KK D tys s) (hP : va_P D vwCl ws H) (hD : va_D A ws) (hS : va_S A H0 H locs) (hA : ∀ q, H0.size ≤ q → A q) (hc : vwCl[ci]? = some (C, T, N)) {fs : List Value} (hfs : ∀ j, j < N → defaultValue (ty j) = vp_V fs j) (hcells : cells + 1 ≤ R.cells) (hslots : slots + N ≤ R.slots) (hdg : decode cc pc = .ok (.new index, 3))
    (kk : ∀ (q : Nat) (H1 : Heap), va_P D vwCl ((q, .inr (ci, fs)) :: ws) H1 → va_D A ((q, .inr (ci, fs)) :: ws) → va_S A H0 H1 locs →
      W p l e R s m args below meth c0 H1 locs (cells + 1) (slots + N) Q (F0 m (pc + 3) ls (.ref q :: rest))) : W p l e R s m args below meth c0 H locs cells slots Q (F0 m pc ls rest) :=
  va_new hexec hb hts hin ty hty hown hcl hinst hini hK.1 hP hD hS hA hc hfs hcells hslots hdg (fun q H1 h1 h2 h3 => kk q H1 (h1.perm List.perm_append_comm) (h2.perm List.perm_append_comm) h3)
/-- a new array of numbers or booleans: the class is the one known -/
theorem k_newa (hexec : p.tables.exec = Jvm.exec) (hb : c.code = cc) {atype : ArrayType} (harr : (Cond.arrayClass (newarray.typeOf atype)).before args s = true) {ty : FieldType} (hty : newarray.typeOf atype = ty) (hK : KK D tys s) (hP : va_P D vwCl ws H) (hD : va_D A ws) (hS : va_S A H0 H locs) (hA : ∀ q, H0.size ≤ q → A q)
    {n : Int32} {N' : Nat} {a0 : vp_A} {cT : ClassId} {t0 : Nat} (ht : tys[t0]? = some (cT, ty)) (hprim : ∀ (U : State) (cA : ClassId), va_RA U cA ty → U.vm.findClass ("[" ++ ty.toString) = some cA) (ha : ∀ cA : ClassId, vp_cell cA a0 = arrV cA N' (fun _ => defaultValue ty)) (hn : ¬ n < 0) (hN : n.toNatClampNeg = N') (hbytes : N' * componentBytes ty ≤ 536870912) (hcells : cells + 1 ≤ R.cells) (hslots : slots + N' ≤ R.slots) (hdg : decode cc pc = .ok (.newarray atype, 2))
    (kk : ∀ (q : Nat) (H1 : Heap), va_P D vwCl ((q, .inl (cT, a0)) :: ws) H1 → va_D A ((q, .inl (cT, a0)) :: ws) → va_S A H0 H1 locs →
      W p l e R s m args below meth c H1 locs (cells + 1) (slots + N') Q (F0 m (pc + 2) ls (.ref q :: rest))) : W p l e R s m args below meth c H locs cells slots Q (F0 m pc ls (.int n :: rest)) := by
  refine va_newa hexec hb harr hty hK.1 hP hD hS hA ha hn hN hbytes hcells hslots hdg (fun q cA H1 hK1 h1 h2 h3 => ?_)
  have e1 := hprim s cA (hK1.2 tys.length (cA, ty) (by rw [List.getElem?_append_right (Nat.le_refl _), Nat.sub_self]; rfl)).2
  have e2 := hprim s cT (hK.1.2 t0 (cT, ty) ht).2
  have e3 : cA = cT := Option.some.inj (e1.symm.trans e2)
  subst e3
  exact kk q H1 (h1.perm List.perm_append_comm) (h2.perm List.perm_append_comm) h3
/-- a new array of references: the class is the one known -/
theorem k_newq (hexec : p.tables.exec = Jvm.exec) (hb : c.code = cc) {own C : String} {index : Nat} (hown : s.vm.findClass own = some m.cls) (hclink : (Cond.classLink own index C).before args s = true) (hover : va_AO C s) (hK : KK D tys s) (hP : va_P D vwCl ws H) (hD : va_D A ws) (hS : va_S A H0 H locs) (hA : ∀ q, H0.size ≤ q → A q)
    {n : Int32} {N' : Nat} {cT : ClassId} {t0 : Nat} (ht : tys[t0]? = some (cT, .object C)) (hn : ¬ n < 0) (hN : n.toNatClampNeg = N') (hbytes : N' * 4 ≤ 536870912) (hcells : cells + 1 ≤ R.cells) (hslots : slots + N' ≤ R.slots) (hdg : decode cc pc = .ok (.anewarray index, 3))
    (kk : ∀ (q : Nat) (H1 : Heap), va_P D vwCl ((q, .inl (cT, N', .inr (.inr (.inr (.inr (fun _ => none)))))) :: ws) H1 → va_D A ((q, .inl (cT, N', .inr (.inr (.inr (.inr (fun _ => none)))))) :: ws) → va_S A H0 H1 locs →
      W p l e R s m args below meth c H1 locs (cells + 1) (slots + N') Q (F0 m (pc + 3) ls (.ref q :: rest))) : W p l e R s m args below meth c H locs cells slots Q (F0 m pc ls (.int n :: rest)) := by
  refine va_newq hexec hb hown hclink hover hK.1 hP hD hS hA hn hN hbytes hcells hslots hdg (fun q cA H1 hK1 h1 h2 h3 => ?_)
  obtain ⟨-, -, -, -, -, e1⟩ := (hK1.2 tys.length (cA, .object C) (by rw [List.getElem?_append_right (Nat.le_refl _), Nat.sub_self]; rfl)).2
  obtain ⟨-, -, -, -, -, e2⟩ := (hK.1.2 t0 (cT, .object C) ht).2
  have e3 : cA = cT := Option.some.inj (e1.symm.trans e2)
  subst e3
  exact kk q H1 (h1.perm List.perm_append_comm) (h2.perm List.perm_append_comm) h3
end KN
section KQ
variable {p : Program} {l : Launch} {e : Env} {R : Room} {s : State} {m : MethodId} {args : Array Value} {below : List Frame} {meth : Method} {c : Code} {H : Heap} {locs : List Loc} {cells slots : Nat} {Q : State → Prop}
variable {cc : ByteArray} {pc : Nat} {ls : Array Slot} {rest st0 : List Value} {D : va_G} {A : Nat → Prop} {tys : List (ClassId × FieldType)} {ws wc : va_W} {H0 : Heap} {a : Nat}
theorem n_aald (hexec : p.tables.exec = Jvm.exec) (hb : c.code = cc) (hK : KK D tys s) (hP : va_P D vwCl ws H) (q0 t0 : Nat) {cA : ClassId} {C : String} {n : Nat} {f : Nat → Option Nat} (ha : ws[q0]? = some (a, .inl (cA, n, .inr (.inr (.inr (.inr f)))))) (ht : tys[t0]? = some (cA, .object C)) {z : Int} {i q : Nat} (hi : z = (i : Int)) (hin : i < n) (hn : n < 2147483648) (hf : f i = some q) (hdg : decode cc pc = .ok (.aaload, 1))
    (kk : W p l e R s m args below meth c H locs cells slots Q (F0 m (pc + 1) ls (.ref q :: rest))) : W p l e R s m args below meth c H locs cells slots Q (F0 m pc ls (.int (jI z) :: .ref a :: rest)) := by
  subst hi
  refine va_aldq hexec hb hK.1 hP q0 t0 ha ht (jI_in hin (by omega)) hdg ?_
  rw [jI_cl (by omega), hf]
  exact kk
theorem n_aast (hexec : p.tables.exec = Jvm.exec) (hb : c.code = cc) (hK : KK D tys s) (hP : va_P D vwCl ws H) (hD : va_D A ws) (hS : va_S A H0 H locs) (q0 t0 qk ci : Nat) {cA : ClassId} {r : vw_C} {n v : Nat} {vs : List Value} {f : Nat → Option Nat} (ha : ws[q0]? = some (a, .inl (cA, n, .inr (.inr (.inr (.inr f)))))) (ht : tys[t0]? = some (cA, .object r.1)) (hv : ws[qk]? = some (v, .inr (ci, vs))) (hc : vwCl[ci]? = some r) {z : Int} {i : Nat} (hi : z = (i : Int)) (hin : i < n) (hn : n < 2147483648) (hdg : decode cc pc = .ok (.aastore, 1))
    (kk : ∀ (H1 : Heap) (locs1 : List Loc), va_P D vwCl (ws.set q0 (a, .inl (cA, n, .inr (.inr (.inr (.inr (va_up f i (some v)))))))) H1 → va_D A (ws.set q0 (a, .inl (cA, n, .inr (.inr (.inr (.inr (va_up f i (some v)))))))) → va_S A H0 H1 locs1 → W p l e R s m args below meth c H1 locs1 cells slots Q (F0 m (pc + 1) ls rest)) : W p l e R s m args below meth c H locs cells slots Q (F0 m pc ls (.ref v :: .int (jI z) :: .ref a :: rest)) := by
  subst hi
  refine va_astq hexec hb hK.1 hP hD hS q0 t0 qk ci ha ht hv hc (jI_in hin (by omega)) hdg (fun H1 locs1 hP1 hD1 hS1 => ?_)
  rw [jI_cl (by omega)] at hP1 hD1
  exact kk H1 locs1 hP1 hD1 hS1
end KQ
theorem z_vI : vI 0 = 0 := by decide
theorem z_vL : vL 0 = 0 := by decide
theorem z_N : jI ((0 : Nat) : Int) = 0 := by decide
theorem z_B : jI (iB false) = 0 := by decide
theorem z_zI (n : Nat) (cA : ClassId) : vp_cell cA (n, .inl (fun i => vI ((fun _ => (0 : Zp)) i))) = arrV cA n (fun _ => defaultValue .int) := congrArg (fun v => arrV cA n (fun _ => Value.int v)) z_vI
theorem z_zJ (n : Nat) (cA : ClassId) : vp_cell cA (n, .inr (.inl (fun i => vL ((fun _ => (0 : Zp)) i)))) = arrV cA n (fun _ => defaultValue .long) := congrArg (fun v => arrV cA n (fun _ => Value.long v)) z_vL
theorem z_aN (n : Nat) (cA : ClassId) : vp_cell cA (n, .inl (fun i => jI (((fun _ => 0 : Nat → Nat) i : Nat) : Int))) = arrV cA n (fun _ => defaultValue .int) := congrArg (fun v => arrV cA n (fun _ => Value.int v)) z_N
theorem z_aZ (n : Nat) (cA : ClassId) : vp_cell cA (n, .inl (fun i => jI (iB ((fun _ => false : Nat → Bool) i)))) = arrV cA n (fun _ => defaultValue .boolean) := congrArg (fun v => arrV cA n (fun _ => Value.int v)) z_B
theorem jI_nn {n : Nat} (h : n < 2147483648) : ¬ jI (n : Int) < 0 := fun q => absurd ((c_lt0 (by unfold r32; omega)).mp q) (by omega)
theorem ra_I (U : State) (cA : ClassId) (h : va_RA U cA .int) : U.vm.findClass ("[" ++ FieldType.int.toString) = some cA := h
theorem ra_J (U : State) (cA : ClassId) (h : va_RA U cA .long) : U.vm.findClass ("[" ++ FieldType.long.toString) = some cA := h
theorem ra_Z (U : State) (cA : ClassId) (h : va_RA U cA .boolean) : U.vm.findClass ("[" ++ FieldType.boolean.toString) = some cA := h
