/-! what holds at the law's start -/
theorem aOI.moved {u U : State} (hvm : u.vm.Alike U.vm) (h : aOI u) : aOI U := by
  unfold aOI Cond.before Cond.holds at h ⊢
  simp only [Cond.value] at h ⊢
  rw [hvm.findClass]
  cases hc : u.vm.findClass (FieldType.array .int).toString with
  | none => rw [hc] at h; simp at h
  | some comp =>
    rw [hc] at h
    rw [Option.bind_some] at h ⊢
    have hb : U.vm.bare = u.vm.bare := by first | exact hvm.bare_eq | exact hvm.bare_eq.symm
    have ea := va_idx_bare U.vm comp
    have eb := va_idx_bare u.vm comp
    rw [hb] at ea
    have hi := ea.symm.trans eb
    generalize hX : Array.findIdx? _ U.vm.classes = oU
    generalize hx : Array.findIdx? _ u.vm.classes = ou at h
    have eo : oU = ou := hX.symm.trans (hi.trans hx)
    subst eo
    cases oU with
    | none => simp at h
    | some c =>
      rw [Option.bind_some] at h ⊢
      cases hk : u.vm.classes[c]? with
      | none => rw [hk] at h; simp at h
      | some k =>
        obtain ⟨k', hk', he⟩ := hvm.2.2 _ _ hk
        rw [hk] at h
        rw [hk']
        have e : k'.kind = k.kind := by rw [he]
        rw [Option.map_some] at h ⊢
        rw [hvm.findClass, e]
        exact h
theorem law_facts {p : Program} {s : State} {m : MethodId} {meth : Method} {c : Code} {b L : Nat} {xs : Nat → Int32} (C0 : lw_At p s m meth c b L xs) : XN s ∧ XZ (fun q : Nat => s.heap.size ≤ q) s s.heap ∧ XK s ∧ aOI s := by
  obtain ⟨hx, hb, hr, hml, hown, hts, hX, hbl, hlocks, hgv⟩ := C0
  have hs := flat_of_before _ hgv
  have hA : ∀ a : Nat, a < s.heap.size → ¬ s.heap.size ≤ a := fun a h => Nat.not_le.mpr h
  refine ⟨⟨va_Nc.of (hs (.not (.castable xIAE xIOB)) (by decide +kernel)), va_Nc.of (hs (.not (.castable xISE xIOB)) (by decide +kernel)), va_Nc.of (hs (.not (.castable xISE xIAE)) (by decide +kernel))⟩, ⟨?_, ?_⟩, ⟨⟨?_, ?_, ?_⟩, ?_, ?_, ?_⟩, ?_⟩
  · exact vx_Zqof (hts (.laysStatic Bundle.tN "UNASSIGNED_STACK" Bundle.steD) (by decide +kernel)) (hts (.initialized Bundle.tN) (by decide +kernel)) (hs (.isRef (.static Bundle.tN "UNASSIGNED_STACK" Bundle.steD)) (by decide +kernel)) hA
  · exact vx_Zqof (hts (.laysStatic Bundle.tN "SUPPRESSED_SENTINEL" Bundle.listD) (by decide +kernel)) (hts (.initialized Bundle.tN) (by decide +kernel)) (hs (.isRef (.static Bundle.tN "SUPPRESSED_SENTINEL" Bundle.listD)) (by decide +kernel)) hA
  · exact va_AO.of (hts (.arrayOver (.object RX1)) (by decide +kernel))
  · exact va_AO.of (hts (.arrayOver (.object RX2)) (by decide +kernel))
  · exact va_AO.of (hts (.arrayOver (.object RX4)) (by decide +kernel))
  · intro q hq
    have h1 : Cond.stringRef RX6 q.1 q.2 ∈ lw_tbl := (show ∀ q ∈ xTx, Cond.stringRef RX6 q.1 q.2 ∈ lw_tbl by decide +kernel) q hq
    have h2 : Cond.exactly (.string RX6 q.1) "java/lang/String" ∈ flatC (Jvm.Cond.and given_1 narrow_1) := (show ∀ q ∈ xTx, Cond.exactly (.string RX6 q.1) "java/lang/String" ∈ flatC (Jvm.Cond.and given_1 narrow_1) by decide +kernel) q hq
    obtain ⟨a, c1, cA, kA, q1, -⟩ := Cond.exactly_spec (args := #[Value.ref b]) (first := s) (o := none) (s := s) (idx := []) (t := .string RX6 q.1) (cls := "java/lang/String") (hs _ h2)
    exact ⟨a, vk_R.of (hts _ h1) q1⟩
  · intro x hx
    exact va_Nw.of rfl (hts _ ((show ∀ x ∈ xDc, Cond.declares x ∈ lw_tbl by decide +kernel) x hx))
  · intro x hx
    exact va_Nw.of rfl (hts _ ((show ∀ x ∈ xCl, Cond.castable x x ∈ lw_tbl by decide +kernel) x hx))
  · exact hts (.arrayOver (.array .int)) (by decide +kernel)
theorem arr_at {s : State} {args : Array Value} {ty : FieldType} (h : (Cond.arrayClass ty).before args s = true) : ∃ cA : ClassId, s.vm.findClass ("[" ++ ty.toString) = some cA ∧ ArrOfT s cA ty := by
  obtain ⟨c, k, comp, h1, h2, h3⟩ := Cond.arrayClass_spec h
  exact ⟨c, h1, fun n z => ⟨fun k h => (by cases h), k, h2, comp, h3⟩⟩
theorem arr_ob {s : State} {args : Array Value} {C : String} (h : (Cond.arrayOver (.object C)).before args s = true) : ∃ cA : ClassId, ArrOfT s cA (.object C) ∧ va_RA s cA (.object C) := by
  obtain ⟨comp, c, k, h1, h2, h3, h4, h5⟩ := Cond.arrayOver_spec h
  exact ⟨c, fun n z => ⟨fun k h => (by cases h), k, h3, comp, h4⟩, k, comp, h3, h4, h1, h5⟩
theorem arr_ar {s : State} {args : Array Value} {t : FieldType} (h : (Cond.arrayOver (.array t)).before args s = true) : ∃ cA : ClassId, ArrOfT s cA (.array t) ∧ s.vm.findClass ("[" ++ (FieldType.array t).toString) = some cA := by
  obtain ⟨comp, c, k, h1, h3, h4, h5⟩ := Cond.arrayOver_specA h
  exact ⟨c, fun n z => ⟨fun k h => (by cases h), k, h3, comp, h4⟩, h5⟩
theorem law_KK {p : Program} {s : State} {m : MethodId} {meth : Method} {c : Code} {b L : Nat} {xs : Nat → Int32} (C0 : lw_At p s m meth c b L xs) : ∃ (D : va_G) (cI cJ cE cM cS cG : ClassId), KK D [(cI, .int), (cJ, .long), (cI, .int), (cE, .object RX1), (cM, .object RX2), (cS, .object RX4), (cG, .array .int)] s := by
  obtain ⟨hx, hb, hr, hml, hown, hts, hX, hbl, hlocks, hgv⟩ := C0
  obtain ⟨cI, a1, b1⟩ := arr_at (ty := .int) (hts (.arrayClass .int) (by decide +kernel))
  obtain ⟨cJ, a2, b2⟩ := arr_at (ty := .long) (hts (.arrayClass .long) (by decide +kernel))
  obtain ⟨cE, a4, b4⟩ := arr_ob (C := RX1) (hts (.arrayOver (.object RX1)) (by decide +kernel))
  obtain ⟨cM, a5, b5⟩ := arr_ob (C := RX2) (hts (.arrayOver (.object RX2)) (by decide +kernel))
  obtain ⟨cS, a6, b6⟩ := arr_ob (C := RX4) (hts (.arrayOver (.object RX4)) (by decide +kernel))
  obtain ⟨cG, a7, b7⟩ := arr_ar (t := .int) (hts (.arrayOver (.array .int)) (by decide +kernel))
  obtain ⟨c0, i0, k0⟩ := u_known (C := RX0) (T := TX0) (N := 2) (n := 2) hts inX0 (hts (.instantiable RX0 2) (by decide +kernel))
  obtain ⟨c1, i1, k1⟩ := u_known (C := RX1) (T := TX1) (N := 7) (n := 7) hts inX1 (hts (.instantiable RX1 7) (by decide +kernel))
  obtain ⟨c2, i2, k2⟩ := u_known (C := RX2) (T := TX2) (N := 11) (n := 11) hts inX2 (hts (.instantiable RX2 11) (by decide +kernel))
  obtain ⟨c3, i3, k3⟩ := u_known (C := RX3) (T := TX3) (N := 5) (n := 5) hts inX3 (hts (.instantiable RX3 5) (by decide +kernel))
  obtain ⟨c4, i4, k4⟩ := u_known (C := RX4) (T := TX4) (N := 2) (n := 2) hts inX4 (hts (.instantiable RX4 2) (by decide +kernel))
  obtain ⟨c5, i5, k5⟩ := u_known (C := RX5) (T := TX5) (N := 3) (n := 3) hts inX5 (hts (.instantiable RX5 3) (by decide +kernel))
  obtain ⟨c6, i6, k6⟩ := u_known (C := RX6) (T := TX6) (N := 4) (n := 4) hts inX6 (hts (.instantiable RX6 4) (by decide +kernel))
  refine ⟨(fun k => match k with | 0 => c0 | 1 => c1 | 2 => c2 | 3 => c3 | 4 => c4 | 5 => c5 | _ => c6, fun k => match k with | 0 => i0 | 1 => i1 | 2 => i2 | 3 => i3 | 4 => i4 | 5 => i5 | _ => i6), cI, cJ, cE, cM, cS, cG, ⟨fun k q hq => ?_, fun k q hq => ?_⟩, fun q hq => ?_⟩
  · match k, hq with
    | 0, hq => cases hq; exact k0
    | 1, hq => cases hq; exact k1
    | 2, hq => cases hq; exact k2
    | 3, hq => cases hq; exact k3
    | 4, hq => cases hq; exact k4
    | 5, hq => cases hq; exact k5
    | 6, hq => cases hq; exact k6
    | k + 7, hq => simp [vwCl] at hq
  · match k, hq with
    | 0, hq => cases hq; exact ⟨b1, a1⟩
    | 1, hq => cases hq; exact ⟨b2, a2⟩
    | 2, hq => cases hq; exact ⟨b1, a1⟩
    | 3, hq => cases hq; exact ⟨a4, b4⟩
    | 4, hq => cases hq; exact ⟨a5, b5⟩
    | 5, hq => cases hq; exact ⟨a6, b6⟩
    | 6, hq => cases hq; exact ⟨a7, b7⟩
    | k + 7, hq => simp at hq
  · exact va_Nw.of rfl (hts _ ((show ∀ q ∈ nestWs, Cond.methodLinkNest q.1 q.2.1 q.2.2.1 q.2.2.2 ∈ lw_tbl by decide +kernel) q hq))
