/-! an array of arrays made; FieldFilter's constructor -/
theorem arrV_c {c : ClassId} {N : Nat} {f g : Nat → Value} (h : ∀ j, j < N → f j = g j) : arrV c N f = arrV c N g := by
  unfold arrV
  have e : (fun j : Fin N => f j.val) = (fun j : Fin N => g j.val) := funext fun j => h j.val j.isLt
  rw [e]
theorem outer_arr (c : ClassId) (N h0 : Nat) : ∀ i, Jvm.Free.Multi.outerC c N h0 i = arrV c N (fun j => if j < i then .ref (h0 + 1 + j) else .null)
  | 0 => by
    show ({ cls := c, slots := Array.replicate N .null, vm := .none } : Cell) = _
    rw [arrV_new]
    exact arrV_c (fun j _ => (if_neg (Nat.not_lt_zero j)).symm)
  | i + 1 => by
    show (Jvm.Free.Multi.outerC c N h0 i).setSlot i (.ref (h0 + 1 + i)) = _
    rw [outer_arr c N h0 i, arrV_store]
    refine arrV_c (fun j _ => ?_)
    by_cases hj : j = i
    · subst hj
      simp [updV]
    · simp only [updV, if_neg hj]
      by_cases h : j < i
      · rw [if_pos h, if_pos (by omega)]
      · rw [if_neg h, if_neg (by omega)]
section KM
variable {p : Program} {l : Launch} {e : Env} {R : Room} {s : State} {m : MethodId} {args : Array Value} {below : List Frame} {meth : Method} {c : Code} {H : Heap} {locs : List Loc} {cells slots : Nat} {Q : State → Prop}
variable {cc : ByteArray} {pc : Nat} {ls : Array Slot} {rest st0 : List Value} {D : va_G} {A : Nat → Prop} {tys : List (ClassId × FieldType)} {ws wc : va_W} {H0 : Heap} {a : Nat}
theorem k_multi (hexec : p.tables.exec = Jvm.exec) (hb : c.code = cc) {own : String} {index : Nat} (hown : s.vm.findClass own = some m.cls) (hclink : (Cond.classLink own index "[[I").before args s = true) (hover : (Cond.arrayOver (.array .int)).before args s = true) (harr : (Cond.arrayClass .int).before args s = true) (hK : KK D tys s) (hP : va_P D vwCl ws H) (hD : va_D A ws) (hS : va_S A H0 H locs) (hA : ∀ q, H0.size ≤ q → A q)
    {cI cG : ClassId} (htI : tys[0]? = some (cI, .int)) (htG : tys[6]? = some (cG, .array .int)) {N M : Nat} (hN : N < 1000) (hM : M < 1000) (hcells : cells + (1 + N) ≤ R.cells) (hslots : slots + (N + N * M) ≤ R.slots) (hdg : decode cc pc = .ok (.multianewarray index 2, 4))
    (kk : ∀ (q : Nat) (H1 : Heap), va_P D vwCl ((q, .inl (cG, N, .inr (.inr (.inr (.inr (fun i => some (q + 1 + i))))))) :: ((List.range N).map (fun j => ((q + 1 + j, .inl (cI, M, .inl (fun _ => jI 0))) : Nat × va_E)) ++ ws)) H1 → va_D A ((q, .inl (cG, N, .inr (.inr (.inr (.inr (fun i => some (q + 1 + i))))))) :: ((List.range N).map (fun j => ((q + 1 + j, .inl (cI, M, .inl (fun _ => jI 0))) : Nat × va_E)) ++ ws)) → va_S A H0 H1 locs →
      W p l e R s m args below meth c H1 locs (cells + 1 + N) (slots + N + N * M) Q (F0 m (pc + 4) ls (.ref q :: rest))) : W p l e R s m args below meth c H locs cells slots Q (F0 m pc ls (.int (jI ((M : Nat) : Int)) :: .int (jI ((N : Nat) : Int)) :: rest)) := by
  intro T hT X
  have es : "[" ++ (FieldType.array .int).toString = "[[I" := by decide +kernel
  obtain ⟨vm₁, cA, comp, hW, hfA, hfC, -, -, X1, step⟩ := X.multianewarray2F hexec (ty := .int) hown (by rw [es]; exact hclink) hover harr (g := F0 m pc ls (.int (jI ((M : Nat) : Int)) :: .int (jI ((N : Nat) : Int)) :: rest)) rfl (by rw [hb]; exact hdg) (n := jI ((N : Nat) : Int)) (k := jI ((M : Nat) : Int)) (rest := rest) rfl (jI_nn (by omega)) (jI_nn (by omega)) (by rw [jI_cl (by omega)]; omega) (by rw [jI_cl (by omega)]; show M * 4 ≤ _; omega) (by rw [jI_cl (by omega)]; omega) rfl rfl (by rw [jI_cl (by omega)]; exact hcells) (by rw [jI_cl (by omega), jI_cl (by omega)]; exact hslots)
  rw [jI_cl (n := N) (by omega), jI_cl (n := M) (by omega)] at X1 step
  have eA : cA = cG := Option.some.inj (hfA.symm.trans (hK.1.2 6 _ htG).2)
  have eC : comp = cI := Option.some.inj (hfC.symm.trans (hK.1.2 0 _ htI).2)
  subst eA
  subst eC
  obtain ⟨f1, f2, -, -⟩ := Jvm.Free.Multi.fill_facts (T.setVm vm₁) cA comp N M (defaultValue .int) N
  have fo := fun (q : Nat) (hq : q < H.size) => Jvm.Free.Multi.fill_old (T.setVm vm₁) cA comp N M (defaultValue .int) (a := q) (by show q < T.heap.size; rw [hT]; exact hq) N
  have fi := Jvm.Free.Multi.fill_inner (T.setVm vm₁) cA comp N M (defaultValue .int) N
  have hh : (T.setVm vm₁).heap = H := hT
  rw [hh] at f1 f2 fi fo
  generalize hT1 : Jvm.Free.Multi.fill (T.setVm vm₁) cA comp N M (defaultValue .int) N = T1 at X1 step f1 f2 fo fi
  have hlt : ∀ q ∈ ws, q.1 < H.size := fun q hq => (va_P_mem.mp hP q hq).lt
  have hsz := hS.1
  have hPn : va_P D vwCl ((H.size, .inl (cA, N, .inr (.inr (.inr (.inr (fun i => some (H.size + 1 + i))))))) :: ((List.range N).map (fun j => ((H.size + 1 + j, .inl (comp, M, .inl (fun _ => jI 0))) : Nat × va_E)) ++ ws)) T1.heap := by
    refine va_P_mem.mpr fun q hq => ?_
    rcases List.mem_cons.mp hq with hq | hq
    · subst hq
      show T1.heap[H.size]? = some (arrV cA N (fun j => va_rf (some (H.size + 1 + j))))
      rw [f2, outer_arr]
      exact congrArg some (arrV_c (fun j hj => if_pos hj))
    · rcases List.mem_append.mp hq with hq | hq
      · obtain ⟨j, hj, rfl⟩ := List.mem_map.mp hq
        show T1.heap[H.size + 1 + j]? = some (arrV comp M (fun _ => .int (jI 0)))
        rw [fi j (List.mem_range.mp hj), jI_0]
        exact congrArg some (arrV_new comp M (.int 0))
      · exact (va_P_mem.mp hP q hq).kept (fo q.1 (hlt q hq))
  have hDn : va_D A ((H.size, .inl (cA, N, .inr (.inr (.inr (.inr (fun i => some (H.size + 1 + i))))))) :: ((List.range N).map (fun j => ((H.size + 1 + j, .inl (comp, M, .inl (fun _ => jI 0))) : Nat × va_E)) ++ ws)) := by
    obtain ⟨d1, d2⟩ := va_D_mem.mp hD
    refine va_D_mem.mpr ⟨?_, fun q hq => ?_⟩
    · rw [List.map_cons, List.nodup_cons, List.map_append, List.nodup_append, List.map_map]
      refine ⟨fun hm => ?_, (List.nodup_range (n := N)).map (fun j => H.size + 1 + j) (fun x y hxy e => hxy (by omega)), d1, fun x hx y hy e => ?_⟩
      · rcases List.mem_append.mp hm with hm | hm
        · obtain ⟨j, -, hj⟩ := List.mem_map.mp hm
          have hj : H.size + 1 + j = H.size := hj
          omega
        · obtain ⟨q, hq, he⟩ := List.mem_map.mp hm
          have := hlt q hq
          have he : q.1 = H.size := he
          omega
      · obtain ⟨j, -, hj⟩ := List.mem_map.mp hx
        obtain ⟨q, hq, he⟩ := List.mem_map.mp hy
        have := hlt q hq
        have hj : H.size + 1 + j = x := hj
        omega
    · rcases List.mem_cons.mp hq with hq | hq
      · subst hq
        exact hA _ hsz
      · rcases List.mem_append.mp hq with hq | hq
        · obtain ⟨j, -, rfl⟩ := List.mem_map.mp hq
          exact hA _ (by show H0.size ≤ H.size + 1 + j; omega)
        · exact d2 q hq
  obtain ⟨t, a1, b1⟩ := kk H.size T1.heap hPn hDn ⟨by rw [f1]; omega, fun q h1 h2 => (fo q (Nat.lt_of_lt_of_le h1 hsz)).trans (hS.2.1 q h1 h2), hS.2.2⟩ T1 rfl X1
  refine ⟨t, step t ?_, b1⟩
  rw [hT]
  exact a1
end KM
/-- what the tables say of arrays of arrays of ints -/
def aOI (U : State) : Prop := (Cond.arrayOver (.array .int)).before #[] U = true
def WM (D : va_G) (tys : List (ClassId × FieldType)) (sz : Nat) (wc : va_W) (U : State) : Prop := WO D tys sz wc U ∧ aOI U
def CtM {S : Type} (l : Launch) (D : va_G) (tys : List (ClassId × FieldType)) (y : MethodName) (w : List Cond) (fr lo mc ms : Nat) (As : List Value) (post : S → Prop) (wc : va_W) (w1 nw : S → va_W) : Prop := (∀ u, (w1 u).map (fun q => q.1) = wc.map (fun q => q.1)) ∧ ∀ sz : Nat, Met l y w { frames := fr, cells := mc, slots := ms, locals := lo } (va_Pc As (WM D tys sz wc)) (EN D (va_A wc sz) post w1 nw) mc ms (va_A wc sz)
theorem CtM.of {S : Type} {l : Launch} {D : va_G} {tys : List (ClassId × FieldType)} {y : MethodName} {w ws' : List Cond} {fr lo mc ms : Nat} {As : List Value} {post : S → Prop} {wc : va_W} {w1 nw : S → va_W} {cc : ByteArray} {maxL : Nat} (hy : plainFor y = true) (hw : w = Cond.code y cc maxL none :: ws') (hf : ∀ u, (w1 u).map (fun q => q.1) = wc.map (fun q => q.1)) (hn : (lg_sl As).length ≤ maxL)
    (body : ∀ (p : Program) (e : Env) (s : State) (m : MethodId) (below : List Frame) (meth : Method) (c : Code) (A : Nat → Prop) (ls : Array Slot), Cx p s m As.toArray meth c w y.cls cc maxL none → meth.name = y.name → KK D tys s → AOs s → aOI s → va_P D vwCl wc s.heap → va_D A wc → (∀ q : Nat, s.heap.size ≤ q → A q) → lv_has ls maxL (lv_args 0 As) →
      W p l e { frames := fr, cells := mc, slots := ms, locals := lo } s m As.toArray below meth c s.heap [] 0 0 (MQ below (EN D A post w1 nw) As.toArray s mc ms A) (F0 m 0 ls [])) : CtM l D tys y w fr lo mc ms As post wc w1 nw := by
  refine ⟨hf, fun sz => ?_⟩
  refine met_ofWF (cc := cc) (maxL := maxL) (ret := none) hy hw ?_
  intro p e s m args below meth c s₁ B hml hv
  obtain ⟨rfl, ⟨⟨hsz, hP, hK, hD0⟩, hO⟩, hI⟩ := hv
  subst hsz
  have hl := lv_entry As hn
  rw [lg_entry_eq]
  generalize (lg_sl As ++ List.replicate (maxL - (lg_sl As).length) Slot.unset).toArray = ls at hl ⊢
  exact body p e s m below meth c (va_A wc s.heap.size) ls ⟨B.exec, B.bytes, B.returns, hml, findClass_of_methodNamed B.named, atoms_spec (ws := w) B.pre, B.notSynchronized⟩ (name_of_methodNamed B.named B.method).1 hK hO hI hP hD0.self (fun q h => Or.inr h) hl

set_option maxHeartbeats 8000000 in
set_option maxRecDepth 100000 in
/--  -/
theorem c_X6_init (l : Launch) (D : va_G) (tys : List (ClassId × FieldType)) {cI cE cG : ClassId} (htI : tys[0]? = some (cI, .int)) (htE : tys[3]? = some (cE, .object RX1)) (htG : tys[6]? = some (cG, .array .int)) (x0 : Nat) : CtM (S := Nat × Nat) l D tys yX6_init wsX6_init 1 20 8 54 [.ref x0] (fun _ => True) [(x0, .inr (6, [.null, .int (jI 0), .null, .int (jI 0)]))] (fun u => [(x0, .inr (6, [.ref u.1, .int (jI 0), .ref u.2, .int (jI 0)]))]) (fun u => ((u.2, .inl (cE, 6, .inr (.inr (.inr (.inr (fun _ => none)))))) :: (u.1, .inl (cG, 6, .inr (.inr (.inr (.inr (fun i => some (u.1 + 1 + i))))))) :: ((List.range 6).map (fun j => ((u.1 + 1 + j, .inl (cI, 7, .inl (fun _ => jI 0))) : Nat × va_E))))) := by
  refine CtM.of (cc := cX6_init) (maxL := 1) (by decide +kernel) rfl (fun _ => rfl) (Nat.le_of_ble_eq_true rfl) ?_
  intro p e s m below meth c A ls hcx hini hK hO hI0 hP hD hA hl
  obtain ⟨hx, hb, hr, hml, hown, hts, hlocks⟩ := hcx
  have hS : va_S A s.heap s.heap [] := va_S.rf
  have hI : (Cond.arrayOver (.array .int)).before ([.ref x0] : List Value).toArray s = true := hI0
  have hown : s.vm.findClass RX6 = some m.cls := hown
  have hl : lv_has ls 1 [(0, .ref x0)] := hl
  have f11 := hts (.fieldLink RX6 11 "FieldFilter" "models" "[[I") (by decide +kernel)
  have iX6 : ∀ w ∈ u_ws RX6 TX6 4, w ∈ wsX6_init := by decide +kernel
  have f16 := hts (.fieldLink RX6 16 "FieldFilter" "estimators" "[LFieldFilter$Estimator;") (by decide +kernel)
  refine lv_aload_n hx hb dX6_init_0 rfl (lv_at hl 0 rfl) ?_
  refine W.objInit hx hb hown (hts (.methodLink RX6 3 objectInit) (by decide +kernel)) (hts (.instanceMethod objectInit) (by decide +kernel)) (hts (.code objectInit ⟨#[0xb1]⟩ 1 none) (List.mem_of_getElem? (i := 3) rfl)) rfl (by rw [hml]; exact hl.1) rfl dX6_init_1 (Nat.le_of_ble_eq_true rfl) (Nat.le_of_ble_eq_true rfl) ?_
  refine W.eq (g2 := F0 m 4 ls []) rfl ?_
  refine lv_aload_n hx hb dX6_init_4 rfl (lv_at hl 0 rfl) ?_
  refine n_bipush hx hb dX6_init_5 (by decide) ?_
  refine n_bipush hx hb dX6_init_7 (by decide) ?_
  refine k_multi (N := 6) (M := 7) hx hb hown (hts (.classLink RX6 9 "[[I") (by decide +kernel)) hI (hts (.arrayClass .int) (by decide +kernel)) hK hP hD hS hA htI htG (by omega) (by omega) (Nat.le_of_ble_eq_true rfl) (Nat.le_of_ble_eq_true rfl) dX6_init_9 (fun q0 H hP hD hS => ?_)
  have hP : va_P D vwCl ((q0, .inl (cG, 6, .inr (.inr (.inr (.inr (fun i => some (q0 + 1 + i))))))) :: (x0, .inr (6, [.null, .int (jI 0), .null, .int (jI 0)])) :: ((List.range 6).map (fun j => ((q0 + 1 + j, .inl (cI, 7, .inl (fun _ => jI 0))) : Nat × va_E)))) H := hP.perm (List.Perm.cons _ (List.perm_append_comm (l₁ := ((List.range 6).map (fun j => ((q0 + 1 + j, .inl (cI, 7, .inl (fun _ => jI 0))) : Nat × va_E)))) (l₂ := ([(x0, .inr (6, [.null, .int (jI 0), .null, .int (jI 0)]))] : va_W))))
  have hD : va_D A ((q0, .inl (cG, 6, .inr (.inr (.inr (.inr (fun i => some (q0 + 1 + i))))))) :: (x0, .inr (6, [.null, .int (jI 0), .null, .int (jI 0)])) :: ((List.range 6).map (fun j => ((q0 + 1 + j, .inl (cI, 7, .inl (fun _ => jI 0))) : Nat × va_E)))) := hD.perm (List.Perm.cons _ (List.perm_append_comm (l₁ := ((List.range 6).map (fun j => ((q0 + 1 + j, .inl (cI, 7, .inl (fun _ => jI 0))) : Nat × va_E)))) (l₂ := ([(x0, .inr (6, [.null, .int (jI 0), .null, .int (jI 0)]))] : va_W))))
  have hP : va_P D vwCl ((q0, .inl (cG, 6, .inr (.inr (.inr (.inr (fun i => some (q0 + 1 + i))))))) :: (x0, .inr (6, [.null, .int (jI 0), .null, .int (jI 0)])) :: ((List.range 6).map (fun j => ((q0 + 1 + j, .inl (cI, 7, .inl (fun _ => jI 0))) : Nat × va_E)))) H := hP
  have hD : va_D A ((q0, .inl (cG, 6, .inr (.inr (.inr (.inr (fun i => some (q0 + 1 + i))))))) :: (x0, .inr (6, [.null, .int (jI 0), .null, .int (jI 0)])) :: ((List.range 6).map (fun j => ((q0 + 1 + j, .inl (cI, 7, .inl (fun _ => jI 0))) : Nat × va_E)))) := hD
  refine W.widen (k := 7) (n := 48) (Nat.le_of_ble_eq_true rfl) (Nat.le_of_ble_eq_true rfl) ?_
  refine va_putF (D := D) (ci := 6) (v := .ref q0) (ty := (.array (.array .int))) (C := RX6) (T := TX6) (N := 4) hx hb hts iX6 tyX6 tyX6_ok nmX6 hown hK.1 hP hD hS 1 rfl rfl 0 (by decide) f11 (fun _ h9 => h9) rfl hini rfl (by decide +kernel) rfl rfl (Nat.le_of_ble_eq_true rfl) dX6_init_13 (fun H locs hP hD hS => ?_)
  have hP : va_P D vwCl ((q0, .inl (cG, 6, .inr (.inr (.inr (.inr (fun i => some (q0 + 1 + i))))))) :: (x0, .inr (6, [.ref q0, .int (jI 0), .null, .int (jI 0)])) :: ((List.range 6).map (fun j => ((q0 + 1 + j, .inl (cI, 7, .inl (fun _ => jI 0))) : Nat × va_E)))) H := hP
  have hD : va_D A ((q0, .inl (cG, 6, .inr (.inr (.inr (.inr (fun i => some (q0 + 1 + i))))))) :: (x0, .inr (6, [.ref q0, .int (jI 0), .null, .int (jI 0)])) :: ((List.range 6).map (fun j => ((q0 + 1 + j, .inl (cI, 7, .inl (fun _ => jI 0))) : Nat × va_E)))) := hD
  refine lv_aload_n hx hb dX6_init_16 rfl (lv_at hl 0 rfl) ?_
  refine n_bipush hx hb dX6_init_17 (by decide) ?_
  refine k_newq (C := RX1) (cT := cE) (t0 := 3) (N' := 6) hx hb hown (hts (.classLink RX6 14 RX1) (by decide +kernel)) hO.1 hK hP hD hS hA htE (jI_nn (n := 6) (by omega)) (jI_cl (n := 6) (by omega)) (by omega) (Nat.le_of_ble_eq_true rfl) (Nat.le_of_ble_eq_true rfl) dX6_init_19 (fun q1 H hP hD hS => ?_)
  have hP : va_P D vwCl ((q1, .inl (cE, 6, .inr (.inr (.inr (.inr (fun _ => none)))))) :: (q0, .inl (cG, 6, .inr (.inr (.inr (.inr (fun i => some (q0 + 1 + i))))))) :: (x0, .inr (6, [.ref q0, .int (jI 0), .null, .int (jI 0)])) :: ((List.range 6).map (fun j => ((q0 + 1 + j, .inl (cI, 7, .inl (fun _ => jI 0))) : Nat × va_E)))) H := hP
  have hD : va_D A ((q1, .inl (cE, 6, .inr (.inr (.inr (.inr (fun _ => none)))))) :: (q0, .inl (cG, 6, .inr (.inr (.inr (.inr (fun i => some (q0 + 1 + i))))))) :: (x0, .inr (6, [.ref q0, .int (jI 0), .null, .int (jI 0)])) :: ((List.range 6).map (fun j => ((q0 + 1 + j, .inl (cI, 7, .inl (fun _ => jI 0))) : Nat × va_E)))) := hD
  refine W.widen (k := 8) (n := 54) (Nat.le_of_ble_eq_true rfl) (Nat.le_of_ble_eq_true rfl) ?_
  refine va_putF (D := D) (ci := 6) (v := .ref q1) (ty := (.array (.object "FieldFilter$Estimator"))) (C := RX6) (T := TX6) (N := 4) hx hb hts iX6 tyX6 tyX6_ok nmX6 hown hK.1 hP hD hS 2 rfl rfl 2 (by decide) f16 (fun _ h9 => h9) rfl hini rfl (by decide +kernel) rfl rfl (Nat.le_of_ble_eq_true rfl) dX6_init_22 (fun H locs hP hD hS => ?_)
  have hP : va_P D vwCl ((q1, .inl (cE, 6, .inr (.inr (.inr (.inr (fun _ => none)))))) :: (q0, .inl (cG, 6, .inr (.inr (.inr (.inr (fun i => some (q0 + 1 + i))))))) :: (x0, .inr (6, [.ref q0, .int (jI 0), .ref q1, .int (jI 0)])) :: ((List.range 6).map (fun j => ((q0 + 1 + j, .inl (cI, 7, .inl (fun _ => jI 0))) : Nat × va_E)))) H := hP
  have hD : va_D A ((q1, .inl (cE, 6, .inr (.inr (.inr (.inr (fun _ => none)))))) :: (q0, .inl (cG, 6, .inr (.inr (.inr (.inr (fun i => some (q0 + 1 + i))))))) :: (x0, .inr (6, [.ref q0, .int (jI 0), .ref q1, .int (jI 0)])) :: ((List.range 6).map (fun j => ((q0 + 1 + j, .inl (cI, 7, .inl (fun _ => jI 0))) : Nat × va_E)))) := hD
  have hP : va_P D vwCl (((q1, .inl (cE, 6, .inr (.inr (.inr (.inr (fun _ => none)))))) :: (q0, .inl (cG, 6, .inr (.inr (.inr (.inr (fun i => some (q0 + 1 + i))))))) :: ((List.range 6).map (fun j => ((q0 + 1 + j, .inl (cI, 7, .inl (fun _ => jI 0))) : Nat × va_E)))) ++ [(x0, .inr (6, [.ref q0, .int (jI 0), .ref q1, .int (jI 0)]))]) H := hP.perm (List.Perm.cons _ (List.Perm.cons _ (List.perm_append_comm (l₁ := ([(x0, .inr (6, [.ref q0, .int (jI 0), .ref q1, .int (jI 0)]))] : va_W)) (l₂ := ((List.range 6).map (fun j => ((q0 + 1 + j, .inl (cI, 7, .inl (fun _ => jI 0))) : Nat × va_E)))))))
  have hD : va_D A (((q1, .inl (cE, 6, .inr (.inr (.inr (.inr (fun _ => none)))))) :: (q0, .inl (cG, 6, .inr (.inr (.inr (.inr (fun i => some (q0 + 1 + i))))))) :: ((List.range 6).map (fun j => ((q0 + 1 + j, .inl (cI, 7, .inl (fun _ => jI 0))) : Nat × va_E)))) ++ [(x0, .inr (6, [.ref q0, .int (jI 0), .ref q1, .int (jI 0)]))]) := hD.perm (List.Perm.cons _ (List.Perm.cons _ (List.perm_append_comm (l₁ := ([(x0, .inr (6, [.ref q0, .int (jI 0), .ref q1, .int (jI 0)]))] : va_W)) (l₂ := ((List.range 6).map (fun j => ((q0 + 1 + j, .inl (cI, 7, .inl (fun _ => jI 0))) : Nat × va_E)))))))
  exact n_vret ((q0, q1) : Nat × Nat) hx hb hr hlocks dX6_init_25 hP hD hS trivial
