/-! arrays by whole numbers -/
section AR
variable {p : Program} {l : Launch} {e : Env} {R : Room} {s : State} {m : MethodId} {args : Array Value} {below : List Frame} {meth : Method} {c : Code} {H : Heap} {locs : List Loc} {cells slots : Nat} {Q : State → Prop}
variable {cc : ByteArray} {pc : Nat} {ls : Array Slot} {rest : List Value} {D : va_G} {A : Nat → Prop} {tys : List (ClassId × FieldType)} {ws : va_W} {H0 : Heap} {a : Nat}
theorem n_iald (hexec : p.tables.exec = Jvm.exec) (hb : c.code = cc) (hK : KK D tys s) (hP : va_P D vwCl ws H) (q0 t0 : Nat) {cA : ClassId} {n : Nat} {f : Nat → Int} (ha : ws[q0]? = some (a, .inl (cA, n, .inl (fun i => jI (f i))))) (ht : tys[t0]? = some (cA, .int)) {z : Int} {i : Nat} (hi : z = (i : Int)) (hin : i < n) (hn : n < 2147483648) (hdg : decode cc pc = .ok (.iaload, 1))
    (kk : W p l e R s m args below meth c H locs cells slots Q (F0 m (pc + 1) ls (.int (jI (f i)) :: rest))) : W p l e R s m args below meth c H locs cells slots Q (F0 m pc ls (.int (jI z) :: .ref a :: rest)) := by
  subst hi
  refine va_iald hexec hb hK.1 hP q0 t0 ha ht (jI_in hin (by omega)) hdg ?_
  rw [jI_cl (by omega)]
  exact kk
theorem n_lald (hexec : p.tables.exec = Jvm.exec) (hb : c.code = cc) (hK : KK D tys s) (hP : va_P D vwCl ws H) (q0 t0 : Nat) {cA : ClassId} {n : Nat} {f : Nat → Int} (ha : ws[q0]? = some (a, .inl (cA, n, .inr (.inl (fun i => jL (f i)))))) (ht : tys[t0]? = some (cA, .long)) {z : Int} {i : Nat} (hi : z = (i : Int)) (hin : i < n) (hn : n < 2147483648) (hdg : decode cc pc = .ok (.laload, 1))
    (kk : W p l e R s m args below meth c H locs cells slots Q (F0 m (pc + 1) ls (.long (jL (f i)) :: rest))) : W p l e R s m args below meth c H locs cells slots Q (F0 m pc ls (.int (jI z) :: .ref a :: rest)) := by
  subst hi
  refine va_lald hexec hb hK.1 hP q0 t0 ha ht (jI_in hin (by omega)) hdg ?_
  rw [jI_cl (by omega)]
  exact kk
theorem n_zald (hexec : p.tables.exec = Jvm.exec) (hb : c.code = cc) (hK : KK D tys s) (hP : va_P D vwCl ws H) (q0 t0 : Nat) {cA : ClassId} {n : Nat} {f : Nat → Bool} (ha : ws[q0]? = some (a, .inl (cA, n, .inl (fun i => jI (iB (f i)))))) (ht : tys[t0]? = some (cA, .boolean)) {z : Int} {i : Nat} (hi : z = (i : Int)) (hin : i < n) (hn : n < 2147483648) (hdg : decode cc pc = .ok (.baload, 1))
    (kk : W p l e R s m args below meth c H locs cells slots Q (F0 m (pc + 1) ls (.int (jI (iB (f i))) :: rest))) : W p l e R s m args below meth c H locs cells slots Q (F0 m pc ls (.int (jI z) :: .ref a :: rest)) := by
  subst hi
  refine va_zald hexec hb hK.1 hP q0 t0 ha ht (jI_in hin (by omega)) hdg ?_
  rw [jI_cl (by omega)]
  exact kk
theorem up_I (f : Nat → Int) (i : Nat) (hi : i < 2147483648) (x : Int) : upd (fun k => jI (f k)) (jI (i : Int)).toNatClampNeg (jI x) = fun k => jI (va_up f i x k) := by
  rw [jI_cl (by omega)]
  funext j
  by_cases h : j = i
  · subst h; simp [upd, va_up]
  · simp [upd, va_up, h]
theorem up_L (f : Nat → Int) (i : Nat) (hi : i < 2147483648) (x : Int) : vp_updL (fun k => jL (f k)) (jI (i : Int)).toNatClampNeg (jL x) = fun k => jL (va_up f i x k) := by
  rw [jI_cl (by omega)]
  funext j
  by_cases h : j = i
  · subst h; simp [vp_updL, va_up]
  · simp [vp_updL, va_up, h]
theorem up_Z (f : Nat → Bool) (i : Nat) (hi : i < 2147483648) (b : Bool) : upd (fun k => jI (iB (f k))) (jI (i : Int)).toNatClampNeg (vp_nar .boolean (jI (iB b))) = fun k => jI (iB (va_up f i b k)) := by
  rw [jI_cl (by omega)]
  have hb : vp_nar .boolean (jI (iB b)) = jI (iB b) := by cases b <;> rfl
  rw [hb]
  funext j
  by_cases h : j = i
  · subst h; simp [upd, va_up]
  · simp [upd, va_up, h]
theorem up_z (f : Nat → Zp) (i : Nat) (z : Zp) (k : Nat) : va_up (fun j => zv (f j)) i (zv z) k = zv (va_up f i z k) := by
  by_cases h : k = i
  · subst h; simp [va_up]
  · simp [va_up, h]
theorem n_iast (hexec : p.tables.exec = Jvm.exec) (hb : c.code = cc) (hK : KK D tys s) (hP : va_P D vwCl ws H) (hD : va_D A ws) (hS : va_S A H0 H locs) (q0 t0 : Nat) {cA : ClassId} {n : Nat} {f : Nat → Int} (ha : ws[q0]? = some (a, .inl (cA, n, .inl (fun i => jI (f i))))) (ht : tys[t0]? = some (cA, .int)) {z x : Int} {i : Nat} (hi : z = (i : Int)) (hin : i < n) (hn : n < 2147483648) (hdg : decode cc pc = .ok (.iastore, 1))
    (kk : ∀ (H1 : Heap) (locs1 : List Loc), va_P D vwCl (ws.set q0 (a, .inl (cA, n, .inl (fun k => jI (va_up f i x k))))) H1 → va_D A (ws.set q0 (a, .inl (cA, n, .inl (fun k => jI (va_up f i x k))))) → va_S A H0 H1 locs1 → W p l e R s m args below meth c H1 locs1 cells slots Q (F0 m (pc + 1) ls rest)) : W p l e R s m args below meth c H locs cells slots Q (F0 m pc ls (.int (jI x) :: .int (jI z) :: .ref a :: rest)) := by
  subst hi
  refine va_iast hexec hb hK.1 hP hD hS q0 t0 ha ht (jI_in hin (by omega)) hdg (fun H1 locs1 hP1 hD1 hS1 => ?_)
  rw [up_I f i (by omega) x] at hP1 hD1
  exact kk H1 locs1 hP1 hD1 hS1
theorem n_last (hexec : p.tables.exec = Jvm.exec) (hb : c.code = cc) (hK : KK D tys s) (hP : va_P D vwCl ws H) (hD : va_D A ws) (hS : va_S A H0 H locs) (q0 t0 : Nat) {cA : ClassId} {n : Nat} {f : Nat → Int} (ha : ws[q0]? = some (a, .inl (cA, n, .inr (.inl (fun i => jL (f i)))))) (ht : tys[t0]? = some (cA, .long)) {z x : Int} {i : Nat} (hi : z = (i : Int)) (hin : i < n) (hn : n < 2147483648) (hdg : decode cc pc = .ok (.lastore, 1))
    (kk : ∀ (H1 : Heap) (locs1 : List Loc), va_P D vwCl (ws.set q0 (a, .inl (cA, n, .inr (.inl (fun k => jL (va_up f i x k)))))) H1 → va_D A (ws.set q0 (a, .inl (cA, n, .inr (.inl (fun k => jL (va_up f i x k)))))) → va_S A H0 H1 locs1 → W p l e R s m args below meth c H1 locs1 cells slots Q (F0 m (pc + 1) ls rest)) : W p l e R s m args below meth c H locs cells slots Q (F0 m pc ls (.long (jL x) :: .int (jI z) :: .ref a :: rest)) := by
  subst hi
  refine va_last hexec hb hK.1 hP hD hS q0 t0 ha ht (jI_in hin (by omega)) hdg (fun H1 locs1 hP1 hD1 hS1 => ?_)
  rw [up_L f i (by omega) x] at hP1 hD1
  exact kk H1 locs1 hP1 hD1 hS1
theorem n_zast (hexec : p.tables.exec = Jvm.exec) (hb : c.code = cc) (hK : KK D tys s) (hP : va_P D vwCl ws H) (hD : va_D A ws) (hS : va_S A H0 H locs) (q0 t0 : Nat) {cA : ClassId} {n : Nat} {f : Nat → Bool} (ha : ws[q0]? = some (a, .inl (cA, n, .inl (fun i => jI (iB (f i)))))) (ht : tys[t0]? = some (cA, .boolean)) {z x : Int} {i : Nat} {b : Bool} (hx : x = iB b) (hi : z = (i : Int)) (hin : i < n) (hn : n < 2147483648) (hdg : decode cc pc = .ok (.bastore, 1))
    (kk : ∀ (H1 : Heap) (locs1 : List Loc), va_P D vwCl (ws.set q0 (a, .inl (cA, n, .inl (fun k => jI (iB (va_up f i b k)))))) H1 → va_D A (ws.set q0 (a, .inl (cA, n, .inl (fun k => jI (iB (va_up f i b k)))))) → va_S A H0 H1 locs1 → W p l e R s m args below meth c H1 locs1 cells slots Q (F0 m (pc + 1) ls rest)) : W p l e R s m args below meth c H locs cells slots Q (F0 m pc ls (.int (jI x) :: .int (jI z) :: .ref a :: rest)) := by
  subst hi
  subst hx
  refine va_zast hexec hb hK.1 hP hD hS q0 t0 ha ht (jI_in hin (by omega)) hdg (fun H1 locs1 hP1 hD1 hS1 => ?_)
  rw [up_Z f i (by omega) b] at hP1 hD1
  exact kk H1 locs1 hP1 hD1 hS1
theorem n_ziast (hexec : p.tables.exec = Jvm.exec) (hb : c.code = cc) (hK : KK D tys s) (hP : va_P D vwCl ws H) (hD : va_D A ws) (hS : va_S A H0 H locs) (q0 t0 : Nat) {cA : ClassId} {n : Nat} {f : Nat → Zp} (ha : ws[q0]? = some (a, .inl (cA, n, .inl (fun i => vI (f i))))) (ht : tys[t0]? = some (cA, .int)) {z : Int} {x : Zp} {i : Nat} (hi : z = (i : Int)) (hin : i < n) (hn : n < 2147483648) (hdg : decode cc pc = .ok (.iastore, 1))
    (kk : ∀ (H1 : Heap) (locs1 : List Loc), va_P D vwCl (ws.set q0 (a, .inl (cA, n, .inl (fun k => vI (va_up f i x k))))) H1 → va_D A (ws.set q0 (a, .inl (cA, n, .inl (fun k => vI (va_up f i x k))))) → va_S A H0 H1 locs1 → W p l e R s m args below meth c H1 locs1 cells slots Q (F0 m (pc + 1) ls rest)) : W p l e R s m args below meth c H locs cells slots Q (F0 m pc ls (.int (vI x) :: .int (jI z) :: .ref a :: rest)) := by
  refine n_iast (f := fun i => zv (f i)) hexec hb hK hP hD hS q0 t0 ha ht hi hin hn hdg (fun H1 locs1 hP1 hD1 hS1 => ?_)
  simp only [up_z] at hP1 hD1
  exact kk H1 locs1 hP1 hD1 hS1
theorem n_zlast (hexec : p.tables.exec = Jvm.exec) (hb : c.code = cc) (hK : KK D tys s) (hP : va_P D vwCl ws H) (hD : va_D A ws) (hS : va_S A H0 H locs) (q0 t0 : Nat) {cA : ClassId} {n : Nat} {f : Nat → Zp} (ha : ws[q0]? = some (a, .inl (cA, n, .inr (.inl (fun i => vL (f i)))))) (ht : tys[t0]? = some (cA, .long)) {z : Int} {x : Zp} {i : Nat} (hi : z = (i : Int)) (hin : i < n) (hn : n < 2147483648) (hdg : decode cc pc = .ok (.lastore, 1))
    (kk : ∀ (H1 : Heap) (locs1 : List Loc), va_P D vwCl (ws.set q0 (a, .inl (cA, n, .inr (.inl (fun k => vL (va_up f i x k)))))) H1 → va_D A (ws.set q0 (a, .inl (cA, n, .inr (.inl (fun k => vL (va_up f i x k)))))) → va_S A H0 H1 locs1 → W p l e R s m args below meth c H1 locs1 cells slots Q (F0 m (pc + 1) ls rest)) : W p l e R s m args below meth c H locs cells slots Q (F0 m pc ls (.long (vL x) :: .int (jI z) :: .ref a :: rest)) := by
  refine n_last (f := fun i => zv (f i)) hexec hb hK hP hD hS q0 t0 ha ht hi hin hn hdg (fun H1 locs1 hP1 hD1 hS1 => ?_)
  simp only [up_z] at hP1 hD1
  exact kk H1 locs1 hP1 hD1 hS1
end AR
