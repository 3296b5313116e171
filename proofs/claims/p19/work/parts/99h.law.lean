/-! the law's own methods: they catch, and answer which it was -/
def XN (U : State) : Prop := va_Nc xIAE xIOB U ∧ va_Nc xISE xIOB U ∧ va_Nc xISE xIAE U
theorem XN.moved {u U : State} (hvm : u.vm.Alike U.vm) (h : XN u) : XN U := ⟨h.1.moved hvm, h.2.1.moved hvm, h.2.2.moved hvm⟩
def WY (D : va_G) (tys : List (ClassId × FieldType)) (sz : Nat) (wc : va_W) (U : State) : Prop := WX D tys sz wc U ∧ XN U
theorem WY.blind {D : va_G} {tys : List (ClassId × FieldType)} {sz : Nat} {wc : va_W} {U : State} {g : JFrame} {mk : MethodId} {a : Array Value} (h : WY D tys sz wc U) : WY D tys sz wc (U.calling g mk a) := ⟨h.1.blind, h.2.moved (u := U) (U := U.calling g mk a) (Vm.Alike.refl U.vm)⟩
def CtW {S : Type} (l : Launch) (D : va_G) (tys : List (ClassId × FieldType)) (y : MethodName) (w : List Cond) (fr lo mc ms : Nat) (As : List Value) (post : Int32 → S → Prop) (wc : va_W) (w1 : S → va_W) : Prop := ∀ sz : Nat, Met l y w { frames := fr, cells := mc, slots := ms, locals := lo } (va_Pc As (WY D tys sz wc)) (ENI D (va_A wc sz) post w1 (fun _ => [])) mc ms (va_A wc sz)
theorem CtW.of {S : Type} {l : Launch} {D : va_G} {tys : List (ClassId × FieldType)} {y : MethodName} {w ws' : List Cond} {fr lo mc ms : Nat} {As : List Value} {post : Int32 → S → Prop} {wc : va_W} {w1 : S → va_W} {cc : ByteArray} {maxL : Nat} {ret : Option FieldType} {hh : List (Nat × Nat × Nat × Nat)} (hy : plainName y.cls = true) (hw : w = Cond.codeWith y cc maxL ret hh :: ws') (hn : (lg_sl As).length ≤ maxL)
    (body : ∀ (p : Program) (e : Env) (s : State) (m : MethodId) (below : List Frame) (meth : Method) (c : Code) (A : Nat → Prop) (ls : Array Slot), Cx p s m As.toArray meth c w y.cls cc maxL ret → c.exceptionTable.toList = tableOf hh → KK D tys s → XK s → XZ A s s.heap → XN s → va_P D vwCl wc s.heap → va_D A wc → (∀ q : Nat, s.heap.size ≤ q → A q) → lv_has ls maxL (lv_args 0 As) →
      W p l e { frames := fr, cells := mc, slots := ms, locals := lo } s m As.toArray below meth c s.heap [] 0 0 (MQ below (ENI D A post w1 (fun _ => [])) As.toArray s mc ms A) (F0 m 0 ls [])) : CtW l D tys y w fr lo mc ms As post wc w1 := by
  intro sz
  refine va_MetW (cc := cc) (maxL := maxL) (ret := ret) (hh := hh) hy hw ?_
  intro p e s m args below meth c s₁ B hml hv
  obtain ⟨rfl, ⟨⟨hsz, hP, hK, hD0⟩, hX, hZ⟩, hN⟩ := hv
  subst hsz
  have htab : c.exceptionTable.toList = tableOf hh := vx_table (x := y) B (atoms_spec (ws := w) B.pre _ (by rw [hw]; exact List.mem_cons_self))
  have hl := lv_entry As hn
  rw [lg_entry_eq]
  generalize (lg_sl As ++ List.replicate (maxL - (lg_sl As).length) Slot.unset).toArray = ls at hl ⊢
  exact body p e s m below meth c (va_A wc s.heap.size) ls ⟨B.exec, B.bytes, B.returns, hml, findClass_of_methodNamed B.named, atoms_spec (ws := w) B.pre, B.notSynchronized⟩ htab hK hX hZ hN hP hD0.self (fun q h => Or.inr h) hl
section KC
variable {p : Program} {l : Launch} {e : Env} {R : Room} {s : State} {m : MethodId} {args : Array Value} {below : List Frame} {meth : Method} {c : Code} {H : Heap} {locs : List Loc} {cells slots : Nat} {Q : State → Prop}
variable {cc : ByteArray} {pc : Nat} {ls : Array Slot} {rest st0 : List Value} {D : va_G} {A : Nat → Prop} {tys : List (ClassId × FieldType)} {wr wc : va_W} {H0 : Heap} {own E : String} {ce : Cell} {q : Addr} {tl : List (Nat × Nat × Nat × Nat)} {a1 b1 h1 t1 a2 b2 h2 t2 a3 b3 h3 t3 : Nat}
theorem c_pre {As : List Value} (hK : KK D tys s) (hX : XK s) (hZ : XZ A s s.heap) (hN : XN s) (hP : va_P D vwCl (wc ++ wr) H) (hD : va_D A (wc ++ wr)) (hS : va_S A s.heap H locs) (hA : ∀ q, s.heap.size ≤ q → A q) : PreS s H (va_Pc As (WY D tys H.size wc)) As :=
  ⟨fun _ _ _ _ q => ⟨q.1, q.2.blind⟩, fun U hU hW => ⟨rfl, ((b_pre (As := As) hK hX hZ hP hD hS hA).2 U hU hW).2, hN.moved hW.alike⟩⟩
theorem g_c1 (hown : s.vm.findClass own = some m.cls) (htab : c.exceptionTable.toList = tableOf ((a1, b1, h1, t1) :: tl)) (hx : covers ⟨a1, b1, h1, t1⟩ pc = true) (h0 : t1 ≠ 0) (hlink : (Cond.classLink own t1 E).before args s = true) (hcast : va_Nw (.castable E E) s) (hcell : H[q]? = some ce) (hv : ce.vm = .none) (hcl : s.vm.findClass E = some ce.cls)
    (kk : W p l e R s m args below meth c H locs cells slots Q (F0 m h1 ls [.ref q])) : vx_W p l e R s m args below meth c H locs cells slots Q (F0 m pc ls rest) q :=
  vx_catch hown [] ⟨a1, b1, h1, t1⟩ (tableOf tl) htab (fun z hz => absurd hz List.not_mem_nil) hx h0 hlink (va_Nw.use rfl hcast) hcell hv hcl kk
theorem g_c2 {n1 : String} (hown : s.vm.findClass own = some m.cls) (htab : c.exceptionTable.toList = tableOf ((a1, b1, h1, t1) :: (a2, b2, h2, t2) :: tl)) (h01 : t1 ≠ 0) (hl1 : (Cond.classLink own t1 n1).before args s = true) (hn1 : va_Nc E n1 s) (hx : covers ⟨a2, b2, h2, t2⟩ pc = true) (h0 : t2 ≠ 0) (hlink : (Cond.classLink own t2 E).before args s = true) (hcast : va_Nw (.castable E E) s) (hcell : H[q]? = some ce) (hv : ce.vm = .none) (hcl : s.vm.findClass E = some ce.cls)
    (kk : W p l e R s m args below meth c H locs cells slots Q (F0 m h2 ls [.ref q])) : vx_W p l e R s m args below meth c H locs cells slots Q (F0 m pc ls rest) q :=
  vx_catch hown [⟨a1, b1, h1, t1⟩] ⟨a2, b2, h2, t2⟩ (tableOf tl) htab (fun z hz => by
    rw [List.mem_singleton] at hz
    subst hz
    exact Or.inr ⟨h01, n1, hl1, hn1⟩) hx h0 hlink (va_Nw.use rfl hcast) hcell hv hcl kk
theorem g_c3 {n1 n2 : String} (hown : s.vm.findClass own = some m.cls) (htab : c.exceptionTable.toList = tableOf ((a1, b1, h1, t1) :: (a2, b2, h2, t2) :: (a3, b3, h3, t3) :: tl)) (h01 : t1 ≠ 0) (hl1 : (Cond.classLink own t1 n1).before args s = true) (hn1 : va_Nc E n1 s) (h02 : t2 ≠ 0) (hl2 : (Cond.classLink own t2 n2).before args s = true) (hn2 : va_Nc E n2 s) (hx : covers ⟨a3, b3, h3, t3⟩ pc = true) (h0 : t3 ≠ 0) (hlink : (Cond.classLink own t3 E).before args s = true) (hcast : va_Nw (.castable E E) s) (hcell : H[q]? = some ce) (hv : ce.vm = .none) (hcl : s.vm.findClass E = some ce.cls)
    (kk : W p l e R s m args below meth c H locs cells slots Q (F0 m h3 ls [.ref q])) : vx_W p l e R s m args below meth c H locs cells slots Q (F0 m pc ls rest) q :=
  vx_catch hown [⟨a1, b1, h1, t1⟩, ⟨a2, b2, h2, t2⟩] ⟨a3, b3, h3, t3⟩ (tableOf tl) htab (fun z hz => by
    rcases List.mem_cons.mp hz with hz | hz
    · subst hz
      exact Or.inr ⟨h01, n1, hl1, hn1⟩
    · rw [List.mem_singleton] at hz
      subst hz
      exact Or.inr ⟨h02, n2, hl2, hn2⟩) hx h0 hlink (va_Nw.use rfl hcast) hcell hv hcl kk
end KC
theorem xc3_i {k : Nat} {E : String} (h : xc3 k = some E) : (k = 1 ∧ E = xIOB) ∨ (k = 2 ∧ E = xIAE) ∨ (k = 3 ∧ E = xISE) := by
  match k, h with
  | 1, h => exact Or.inl ⟨rfl, (Option.some.inj h).symm⟩
  | 2, h => exact Or.inr (Or.inl ⟨rfl, (Option.some.inj h).symm⟩)
  | 3, h => exact Or.inr (Or.inr ⟨rfl, (Option.some.inj h).symm⟩)
theorem xc2_i {k : Nat} {E : String} (h : xc2 k = some E) : (k = 1 ∧ E = xIOB) ∨ (k = 2 ∧ E = xIAE) := by
  match k, h with
  | 1, h => exact Or.inl ⟨rfl, (Option.some.inj h).symm⟩
  | 2, h => exact Or.inr ⟨rfl, (Option.some.inj h).symm⟩
theorem xcp_i {k : Nat} {E : String} (h : xcp k = some E) : (k = 1 ∧ E = xIOB) ∨ (k = 2 ∧ E = xISE) := by
  match k, h with
  | 1, h => exact Or.inl ⟨rfl, (Option.some.inj h).symm⟩
  | 2, h => exact Or.inr ⟨rfl, (Option.some.inj h).symm⟩
theorem xcm_i {k : Nat} {E : String} (h : xcm k = some E) : k = 1 ∧ E = xISE := by
  match k, h with
  | 1, h => exact ⟨rfl, (Option.some.inj h).symm⟩
theorem i32_j (r : Int32) : ∃ z : Int, r = jI z ∧ r32 z := ⟨r.toInt, (Int32.ofInt_toInt r).symm, Int32.le_toInt r, by have := Int32.toInt_lt r; omega⟩
theorem xcl_IOB {s : State} (h : XK s) : va_Nw (.castable xIOB xIOB) s := h.2.2.2 xIOB (by decide)
theorem xcl_IAE {s : State} (h : XK s) : va_Nw (.castable xIAE xIAE) s := h.2.2.2 xIAE (by decide)
theorem xcl_ISE {s : State} (h : XK s) : va_Nw (.castable xISE xISE) s := h.2.2.2 xISE (by decide)
