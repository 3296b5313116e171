/-! compares of longs; what an array holds only up to its length -/
section LR
variable {p : Program} {l : Launch} {e : Env} {R : Room} {s : State} {m : MethodId} {args : Array Value} {below : List Frame} {meth : Method} {c : Code} {H : Heap} {locs : List Loc} {cells slots : Nat} {Q : State → Prop}
variable {cc : ByteArray} {pc : Nat} {ls : Array Slot} {rest : List Value}
theorem lle {x y : Int} (h : r64 x) (g : r64 y) : jL x ≤ jL y ↔ x ≤ y := by rw [Int64.le_iff_toInt_le, jL_to h.1 h.2, jL_to g.1 g.2]
theorem n_lif_eq (hexec : p.tables.exec = Jvm.exec) (hb : c.code = cc) {x y : Int} {off : Int} {tgt : Nat} (h : r64 x) (g : r64 y) (hdg : decode cc pc = .ok (.ifCond .eq off, 3)) (ht : (pc : Int) + off = (tgt : Int)) (kt : x = y → W p l e R s m args below meth c H locs cells slots Q (F0 m tgt ls rest)) (kf : ¬ x = y → W p l e R s m args below meth c H locs cells slots Q (F0 m (pc + 3) ls rest)) : W p l e R s m args below meth c H locs cells slots Q (F0 m pc ls (.int (lg_cmp (jL x) (jL y)) :: rest)) := lv_if_eq hexec hb hdg ht (fun q => kt ((jL_inj h.1 h.2 g.1 g.2).mp ((lg_cmp_eq _ _).mp q))) (fun q => kf (fun z => q ((lg_cmp_eq _ _).mpr ((jL_inj h.1 h.2 g.1 g.2).mpr z))))
theorem n_lif_ne (hexec : p.tables.exec = Jvm.exec) (hb : c.code = cc) {x y : Int} {off : Int} {tgt : Nat} (h : r64 x) (g : r64 y) (hdg : decode cc pc = .ok (.ifCond .ne off, 3)) (ht : (pc : Int) + off = (tgt : Int)) (kt : ¬ x = y → W p l e R s m args below meth c H locs cells slots Q (F0 m tgt ls rest)) (kf : x = y → W p l e R s m args below meth c H locs cells slots Q (F0 m (pc + 3) ls rest)) : W p l e R s m args below meth c H locs cells slots Q (F0 m pc ls (.int (lg_cmp (jL x) (jL y)) :: rest)) := lv_if_ne hexec hb hdg ht (fun q => kt (fun z => q ((lg_cmp_eq _ _).mpr ((jL_inj h.1 h.2 g.1 g.2).mpr z)))) (fun q => kf ((jL_inj h.1 h.2 g.1 g.2).mp ((lg_cmp_eq _ _).mp q)))
theorem n_lif_le (hexec : p.tables.exec = Jvm.exec) (hb : c.code = cc) {x y : Int} {off : Int} {tgt : Nat} (h : r64 x) (g : r64 y) (hdg : decode cc pc = .ok (.ifCond .le off, 3)) (ht : (pc : Int) + off = (tgt : Int)) (kt : x ≤ y → W p l e R s m args below meth c H locs cells slots Q (F0 m tgt ls rest)) (kf : ¬ x ≤ y → W p l e R s m args below meth c H locs cells slots Q (F0 m (pc + 3) ls rest)) : W p l e R s m args below meth c H locs cells slots Q (F0 m pc ls (.int (lg_cmp (jL x) (jL y)) :: rest)) := lv_if_le hexec hb hdg ht (fun q => kt ((lle h g).mp ((lg_cmp_le _ _).mp q))) (fun q => kf (fun z => q ((lg_cmp_le _ _).mpr ((lle h g).mpr z))))
theorem n_lif_ge (hexec : p.tables.exec = Jvm.exec) (hb : c.code = cc) {x y : Int} {off : Int} {tgt : Nat} (h : r64 x) (g : r64 y) (hdg : decode cc pc = .ok (.ifCond .ge off, 3)) (ht : (pc : Int) + off = (tgt : Int)) (kt : y ≤ x → W p l e R s m args below meth c H locs cells slots Q (F0 m tgt ls rest)) (kf : ¬ y ≤ x → W p l e R s m args below meth c H locs cells slots Q (F0 m (pc + 3) ls rest)) : W p l e R s m args below meth c H locs cells slots Q (F0 m pc ls (.int (lg_cmp (jL x) (jL y)) :: rest)) := lv_if_ge hexec hb hdg ht (fun q => kt ((lle g h).mp ((lg_cmp_ge _ _).mp q))) (fun q => kf (fun z => q ((lg_cmp_ge _ _).mpr ((lle g h).mpr z))))
end LR
theorem arrV_congr (cA : ClassId) (n : Nat) {f g : Nat → Value} (h : ∀ i, i < n → f i = g i) : arrV cA n f = arrV cA n g := by
  unfold arrV
  congr 2
  funext j
  exact h j.val j.isLt
theorem arr_J (cA : ClassId) (n : Nat) {f g : Nat → Int64} (h : ∀ i, i < n → f i = g i) : vp_cell cA (n, .inr (.inl f)) = vp_cell cA (n, .inr (.inl g)) := arrV_congr cA n (f := fun j => .long (f j)) (g := fun j => .long (g j)) (fun i hi => by rw [h i hi])
theorem arr_I (cA : ClassId) (n : Nat) {f g : Nat → Int32} (h : ∀ i, i < n → f i = g i) : vp_cell cA (n, .inl f) = vp_cell cA (n, .inl g) := arrV_congr cA n (f := fun j => .int (f j)) (g := fun j => .int (g j)) (fun i hi => by rw [h i hi])
theorem va_P.re {D : va_G} {cl : List vw_C} {ws : va_W} {H : Heap} {q0 a : Nat} {cA : ClassId} {x x' : vp_A} (h : va_P D cl ws H) (hq : ws[q0]? = some (a, .inl (cA, x))) (e : vp_cell cA x = vp_cell cA x') : va_P D cl (ws.set q0 (a, .inl (cA, x'))) H := by
  intro k q hk
  by_cases hkq : k = q0
  · subst hkq
    have hl : k < ws.length := (List.getElem?_eq_some_iff.mp hq).1
    rw [List.getElem?_set_self hl] at hk
    cases hk
    have h1 := h k _ hq
    show H[a]? = some (vp_cell cA x')
    rw [← e]
    exact h1
  · rw [List.getElem?_set_ne (Ne.symm hkq)] at hk
    exact h k q hk
theorem va_up_s {α : Type} (f : Nat → α) (k : Nat) (v : α) : va_up f k v k = v := by simp [va_up]
theorem jI_inc (n : Nat) : jI (n : Int) + Int32.ofInt 1 = jI ((n + 1 : Nat) : Int) := (jI_add _ 1).trans (congrArg jI (by omega))
