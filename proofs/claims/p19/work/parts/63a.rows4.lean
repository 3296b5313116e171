/-! contracts without an answer, with an open end -/
def EF {S : Type} (D : va_G) (A : Nat → Prop) (post : S → Prop) (w1 : S → va_W) : Array Value → State → Outcome → State → Prop := va_Qv post (fun u t => va_P D vwCl (w1 u) t.heap) A
def CtF {S : Type} (l : Launch) (D : va_G) (tys : List (ClassId × FieldType)) (y : MethodName) (w : List Cond) (fr lo : Nat) (As : List Value) (post : S → Prop) (wc : va_W) (w1 : S → va_W) : Prop := (∀ u, (w1 u).map (fun q => q.1) = wc.map (fun q => q.1)) ∧ ∀ sz : Nat, Met l y w { frames := fr, cells := 0, slots := 0, locals := lo } (va_Pc As (WP D tys sz wc)) (EF D (va_A wc sz) post w1) 0 0 (va_A wc sz)
theorem CtF.of {S : Type} {l : Launch} {D : va_G} {tys : List (ClassId × FieldType)} {y : MethodName} {w ws' : List Cond} {fr lo : Nat} {As : List Value} {post : S → Prop} {wc : va_W} {w1 : S → va_W} {cc : ByteArray} {maxL : Nat} (hy : plainFor y = true) (hw : w = Cond.code y cc maxL none :: ws') (hf : ∀ u, (w1 u).map (fun q => q.1) = wc.map (fun q => q.1)) (hn : (lg_sl As).length ≤ maxL)
    (body : ∀ (p : Program) (e : Env) (s : State) (m : MethodId) (below : List Frame) (meth : Method) (c : Code) (A : Nat → Prop) (ls : Array Slot), Cx p s m As.toArray meth c w y.cls cc maxL none → KK D tys s → va_P D vwCl wc s.heap → va_D A wc → (∀ q : Nat, s.heap.size ≤ q → A q) → lv_has ls maxL (lv_args 0 As) →
      W p l e { frames := fr, cells := 0, slots := 0, locals := lo } s m As.toArray below meth c s.heap [] 0 0 (MQ below (EF D A post w1) As.toArray s 0 0 A) (F0 m 0 ls [])) : CtF l D tys y w fr lo As post wc w1 := by
  refine ⟨hf, fun sz => ?_⟩
  refine met_ofWF (cc := cc) (maxL := maxL) (ret := none) hy hw ?_
  intro p e s m args below meth c s₁ B hml hv
  obtain ⟨rfl, hsz, hP, hK, hD0⟩ := hv
  subst hsz
  have hl := lv_entry As hn
  rw [lg_entry_eq]
  generalize (lg_sl As ++ List.replicate (maxL - (lg_sl As).length) Slot.unset).toArray = ls at hl ⊢
  exact body p e s m below meth c (va_A wc s.heap.size) ls ⟨B.exec, B.bytes, B.returns, hml, findClass_of_methodNamed B.named, atoms_spec (ws := w) B.pre, B.notSynchronized⟩ hK hP hD0.self (fun q h => Or.inr h) hl
section KF
variable {p : Program} {l : Launch} {e : Env} {R : Room} {s : State} {m : MethodId} {args : Array Value} {below : List Frame} {meth : Method} {c : Code} {H : Heap} {locs : List Loc} {cells slots : Nat} {Q : State → Prop}
variable {cc : ByteArray} {pc : Nat} {ls : Array Slot} {rest st0 : List Value} {D : va_G} {A : Nat → Prop} {tys : List (ClassId × FieldType)} {ws wc : va_W} {H0 : Heap} {a : Nat}
theorem e_vret {S : Type} {post : S → Prop} {w1 : S → va_W} (u : S) (hexec : p.tables.exec = Jvm.exec) (hb : c.code = cc) (hr : meth.sig.returnType = none) (hlocks : meth.locks = false) (hdg : decode cc pc = .ok (.return_, 1)) (hP : va_P D vwCl (w1 u) H) (hS : va_S A s.heap H locs) (hv : post u) : W p l e R s m args below meth c H locs cells slots (MQ below (EF D A post w1) args s cells slots A) (F0 m pc ls []) :=
  W.vret hexec hb hr (fun t ht _ => ⟨⟨u, rfl, hv, by show va_P D vwCl (w1 u) t.heap; rw [ht]; exact hP⟩, hS.F ht⟩) hS.2.2 hdg hlocks
theorem k_goF {S : Type} {post : S → Prop} {w1 : S → va_W} {mc ms : Nat} {v : Array Value} (hr : va_Run p l e R s m args below meth c H locs cells slots mc ms (F0 m pc ls st0) rest (EF D (va_A wc H.size) post w1 v) (va_A wc H.size)) (hf : ∀ u, (w1 u).map (fun q => q.1) = wc.map (fun q => q.1)) (hP : va_P D vwCl ws H) (hD : va_D A ws) (hS : va_S A H0 H locs) (hA : ∀ q, H0.size ≤ q → A q) (is : List Nat) (hC : is.map (fun i => ws[i]?) = wc.map some) (hn : va_nd is = true)
    (kk : ∀ (u : S) (H1 : Heap) (locs1 : List Loc), post u → va_P D vwCl (setW ws is (w1 u)) H1 → va_D A (setW ws is (w1 u)) → va_S A H0 H1 locs1 → W p l e R s m args below meth c H1 locs1 (cells + mc) (slots + ms) Q (F0 m (pc + 3) ls rest)) : W p l e R s m args below meth c H locs cells slots Q (F0 m pc ls st0) := by
  have hF := va_free (wc := wc) hD hS hA is hC
  refine va_callv hr hS (fun q _ h => hF q h) hF (fun u t H1 locs1 ht hvm hw hB hz1 hk1 hS1 => ?_)
  have hB : va_P D vwCl (w1 u) H1 := ht ▸ hB
  obtain ⟨g1, g2⟩ := k_back hP hD hC hn (hf u) hk1 hB
  exact kk u H1 locs1 hw g1 g2 hS1
end KF
/-- a row of told: time, h, z, r, gate -/
def told6 (g : Nat → Zp) (row : Nat) (t h j z r q : Zp) : Nat → Zp := va_up (va_up (va_up (va_up (va_up (va_up g row t) (row + 1) h) (row + 2) j) (row + 3) z) (row + 4) r) (row + 5) q
/-- how many measurements are gated -/
def gtM (P : Nat → Zp) (B : S5) (M : Nat → Nat → Zp) (dr : Nat → Bool) (n k : Nat) : Bool := match bef P B M dr n k with
  | some q => mgt (M k) q
  | none => false
def cntG (dr gt : Nat → Bool) : Nat → Nat
  | 0 => 0
  | k + 1 => cntG dr gt k + (if dr k = false ∧ gt k = true then 1 else 0)
theorem cntG_congr {dr gt gt' : Nat → Bool} : ∀ {n : Nat}, (∀ k, k < n → dr k = false → gt k = gt' k) → cntG dr gt n = cntG dr gt' n
  | 0, _ => rfl
  | n + 1, h => by
    show cntG dr gt n + _ = cntG dr gt' n + _
    rw [cntG_congr (fun k hk hd => h k (by omega) hd)]
    by_cases hd : dr n = false
    · rw [h n (by omega) hd]
    · simp [hd]
theorem cntG_le (dr gt : Nat → Bool) : ∀ n, cntG dr gt n ≤ n
  | 0 => Nat.le_refl 0
  | n + 1 => by
    have h := cntG_le dr gt n
    show cntG dr gt n + _ ≤ n + 1
    split <;> omega
def ofR (s : S5) (T n cnt : Nat) (wh : Nat) : Int32 := if wh < 5 then vI (comp5 s wh) else if wh = 5 then jI ((T : Nat) : Int) else if wh = 6 then jI ((n : Nat) : Int) else if wh = 7 then jI ((cnt : Nat) : Int) else vI (det5 s)
