/-! the reference: goes -/
set_option maxHeartbeats 8000000 in
set_option maxRecDepth 100000 in
/-- the reference works the way of an estimator out -/
theorem c_X7_goes (l : Launch) (D : va_G) (tys : List (ClassId × FieldType)) {cI cJ cZ : ClassId} (htI : tys[0]? = some (cI, .int)) (htJ : tys[1]? = some (cJ, .long)) (htZ : tys[2]? = some (cZ, .boolean)) (m0 : Nat) (a : Nat → Nat) (ms es : Nat) (th : Int32) (gM : Nat → Zp) (gB : Nat → Zp) (gT : Nat → Nat) (gN : Nat → Nat) (gK : Nat → Zp) (gD : Nat → Bool) (gH : Nat → Zp) (gU : Nat → Zp) (gF : Nat → Zp) (gX : Nat → Bool) (gW : Nat → Zp) (ev : Nat) (q1 : ev < 6) (qT : gT ev ≤ 20) (qN : gN ev ≤ 30) : CtE l D tys yX7_goes wsX7_goes 3 86 [.ref m0, .int (jI ((ev : Nat) : Int))] (fun (r : Int32) (u : (Nat → Zp) × (Nat → Zp) × (Nat → Zp) × (Nat → Bool) × (Nat → Zp)) => goesPost (fun i => gM (7 * ev + i)) (s5at gB ev) (fun k c => gK (6 * (30 * ev + k) + c)) (fun k => gD (30 * ev + k)) (gN ev) (gT ev) r u.1 u.2.1 u.2.2.1 u.2.2.2.1 u.2.2.2.2) (refW m0 a cI cJ cZ ms es th gM gB gT gN gK gD gH gU gF gX gW) (fun u => refW m0 a cI cJ cZ ms es th gM gB gT gN gK gD u.1 u.2.1 u.2.2.1 u.2.2.2.1 u.2.2.2.2) := by
  refine CtE.of (cc := cX7_goes) (maxL := 5) (by decide +kernel) rfl (fun _ => rfl) (Nat.le_of_ble_eq_true rfl) ?_
  intro p e s m below meth c A ls hcx hK hP hD hA hl
  obtain ⟨hx, hb, hr, hml, hown, hts, hlocks⟩ := hcx
  have hS : va_S A s.heap s.heap [] := va_S.rf
  have hown : s.vm.findClass RX7 = some m.cls := hown
  have hl : lv_has ls 5 [(0, .ref m0), (1, .int (jI ((ev : Nat) : Int)))] := hl
  have f48 := hts (.fieldLink RX7 48 "FieldFilterModel" "now" "[J") (by decide +kernel)
  have iX7 : ∀ w ∈ u_ws RX7 TX7 20, w ∈ wsX7_goes := by decide +kernel
  have f16 := hts (.fieldLink RX7 16 "FieldFilterModel" "began" "[I") (by decide +kernel)
  have f25 := hts (.fieldLink RX7 25 "FieldFilterModel" "measured" "[I") (by decide +kernel)
  have f28 := hts (.fieldLink RX7 28 "FieldFilterModel" "told" "[I") (by decide +kernel)
  have f31 := hts (.fieldLink RX7 31 "FieldFilterModel" "isDropped" "[Z") (by decide +kernel)
  have f19 := hts (.fieldLink RX7 19 "FieldFilterModel" "time" "[I") (by decide +kernel)
  have f35 := hts (.fieldLink RX7 35 "FieldFilterModel" "ahead" "[J") (by decide +kernel)
  have f39 := hts (.fieldLink RX7 39 "FieldFilterModel" "behind" "[J") (by decide +kernel)
  have outer : ∀ (f t : Nat) (gH gU gF : Nat → Zp) (gX : Nat → Bool) (gW : Nat → Zp) (H : Heap) (locs : List Loc) (ls : Array Slot), gT ev + 1 - t < f → t ≤ gT ev + 1 → ((t = 0 ∧ s5 gW = s5at gB ev) ∨ ∃ u, t = u + 1 ∧ beh (fun i => gM (7 * ev + i)) (s5at gB ev) (fun k c => gK (6 * (30 * ev + k) + c)) (fun k => gD (30 * ev + k)) (gN ev) u = some (s5 gW)) → Rows (fun i => gM (7 * ev + i)) (s5at gB ev) (fun k c => gK (6 * (30 * ev + k) + c)) (fun k => gD (30 * ev + k)) (gN ev) gH gU t → Outs (fun i => gM (7 * ev + i)) (s5at gB ev) (fun k c => gK (6 * (30 * ev + k) + c)) (fun k => gD (30 * ev + k)) (gN ev) gF gX (fun k => (gK (6 * (30 * ev + k) + 0)).val < t) → va_P D vwCl (refW m0 a cI cJ cZ ms es th gM gB gT gN gK gD gH gU gF gX gW) H → va_D A (refW m0 a cI cJ cZ ms es th gM gB gT gN gK gD gH gU gF gX gW) → va_S A s.heap H locs → lv_has ls 5 [(2, .int (jI ((t : Nat) : Int))), (0, .ref m0), (1, .int (jI ((ev : Nat) : Int)))] → W p l e { frames := 3, cells := 0, slots := 0, locals := 86 } s m ([Value.ref m0, .int (jI ((ev : Nat) : Int))] : List Value).toArray below meth c H locs 0 0 (MQ below (EE D A (fun (r : Int32) (u : (Nat → Zp) × (Nat → Zp) × (Nat → Zp) × (Nat → Bool) × (Nat → Zp)) => goesPost (fun i => gM (7 * ev + i)) (s5at gB ev) (fun k c => gK (6 * (30 * ev + k) + c)) (fun k => gD (30 * ev + k)) (gN ev) (gT ev) r u.1 u.2.1 u.2.2.1 u.2.2.2.1 u.2.2.2.2) (fun u => refW m0 a cI cJ cZ ms es th gM gB gT gN gK gD u.1 u.2.1 u.2.2.1 u.2.2.2.1 u.2.2.2.2)) ([Value.ref m0, .int (jI ((ev : Nat) : Int))] : List Value).toArray s 0 0 A) (F0 m 32 ls []) := by
    intro f
    induction f with
    | zero => intro t gH gU gF gX gW H locs ls hf; omega
    | succ f ihf =>
      intro t gH gU gF gX gW H locs ls hf ht hcur hrows houts hP hD hS hl
      by_cases hTt : gT ev < t
      · obtain ⟨u, rfl, hu⟩ : ∃ u, t = u + 1 ∧ beh (fun i => gM (7 * ev + i)) (s5at gB ev) (fun k c => gK (6 * (30 * ev + k) + c)) (fun k => gD (30 * ev + k)) (gN ev) u = some (s5 gW) := by
          rcases hcur with ⟨h0, -⟩ | h0
          · omega
          · exact h0
        have hu1 : u = gT ev := by omega
        refine lv_iload_n hx hb dX7_goes_32 rfl (lv_at hl 0 rfl) ?_
        refine lv_aload_n hx hb dX7_goes_33 rfl (lv_at hl 1 rfl) ?_
        refine va_get (D := D) (ci := 7) (v := .ref (a 3)) (C := RX7) (T := TX7) (N := 20) hx hb hts iX7 hown hK.1 hP 0 rfl rfl 5 (by decide) f19 (fun _ h9 => h9) rfl dX7_goes_34 ?_
        refine lv_iload_n hx hb dX7_goes_37 rfl (lv_at hl 2 rfl) ?_
        refine n_iald (i := ev) hx hb hK hP 3 0 rfl htI (by omega) (by omega) (Nat.le_of_ble_eq_true rfl) dX7_goes_38 ?_
        refine n_icmp_gt (tgt := 188) hx hb (by unfold r32; omega) (by unfold r32; omega) dX7_goes_39 (by decide) (fun h39 => ?_) (fun h39 => False.elim (by omega))
        refine n_iconst hx hb dX7_goes_188 ?_
        refine e_zret (gH, gU, gF, gX, gW) hx hb hr hlocks dX7_goes_189 hP hS rfl (Or.inr ⟨rfl, ?_, ?_, ?_⟩)
        · rw [← hu1]; exact hu
        · rw [← hu1]; exact hrows
        · intro k h1 h2 h3
          exact houts k h1 h2 (by show (gK (6 * (30 * ev + k) + 0)).val < u + 1; have h3 : (gK (6 * (30 * ev + k) + 0)).val ≤ gT ev := h3; omega)
      have inner : ∀ (g k : Nat) (gF : Nat → Zp) (gX : Nat → Bool) (gW : Nat → Zp) (H : Heap) (locs : List Loc) (ls : Array Slot), gN ev - k < g → k ≤ gN ev → ∀ (gH : Nat → Zp), Rows (fun i => gM (7 * ev + i)) (s5at gB ev) (fun k c => gK (6 * (30 * ev + k) + c)) (fun k => gD (30 * ev + k)) (gN ev) gH gU t → ahd (fun i => gM (7 * ev + i)) (s5at gB ev) (fun k c => gK (6 * (30 * ev + k) + c)) (fun k => gD (30 * ev + k)) (gN ev) t = some (s5at gH t) → inn (fun k c => gK (6 * (30 * ev + k) + c)) (fun k => gD (30 * ev + k)) t k (s5at gH t) = some (s5 gW) → Outs (fun i => gM (7 * ev + i)) (s5at gB ev) (fun k c => gK (6 * (30 * ev + k) + c)) (fun k => gD (30 * ev + k)) (gN ev) gF gX (fun j => (gK (6 * (30 * ev + j) + 0)).val < t ∨ ((gK (6 * (30 * ev + j) + 0)).val = t ∧ j < k)) → va_P D vwCl (refW m0 a cI cJ cZ ms es th gM gB gT gN gK gD gH gU gF gX gW) H → va_D A (refW m0 a cI cJ cZ ms es th gM gB gT gN gK gD gH gU gF gX gW) → va_S A s.heap H locs → lv_has ls 5 [(3, .int (jI ((k : Nat) : Int))), (2, .int (jI ((t : Nat) : Int))), (0, .ref m0), (1, .int (jI ((ev : Nat) : Int)))] → W p l e { frames := 3, cells := 0, slots := 0, locals := 86 } s m ([Value.ref m0, .int (jI ((ev : Nat) : Int))] : List Value).toArray below meth c H locs 0 0 (MQ below (EE D A (fun (r : Int32) (u : (Nat → Zp) × (Nat → Zp) × (Nat → Zp) × (Nat → Bool) × (Nat → Zp)) => goesPost (fun i => gM (7 * ev + i)) (s5at gB ev) (fun k c => gK (6 * (30 * ev + k) + c)) (fun k => gD (30 * ev + k)) (gN ev) (gT ev) r u.1 u.2.1 u.2.2.1 u.2.2.2.1 u.2.2.2.2) (fun u => refW m0 a cI cJ cZ ms es th gM gB gT gN gK gD u.1 u.2.1 u.2.2.1 u.2.2.2.1 u.2.2.2.2)) ([Value.ref m0, .int (jI ((ev : Nat) : Int))] : List Value).toArray s 0 0 A) (F0 m 82 ls []) := by
        intro g
        induction g with
        | zero => intro k gF gX gW H locs ls hg; omega
        | succ g ih =>
          intro k gF gX gW H locs ls hg hk gH hrows ha hin houts hP hD hS hl
          by_cases hkn : gN ev ≤ k
          · have hkn : k = gN ev := by omega
            subst hkn
            refine lv_iload_n hx hb dX7_goes_82 rfl (lv_at hl 0 rfl) ?_
            refine lv_aload_n hx hb dX7_goes_83 rfl (lv_at hl 2 rfl) ?_
            refine va_get (D := D) (ci := 7) (v := .ref (a 5)) (C := RX7) (T := TX7) (N := 20) hx hb hts iX7 hown hK.1 hP 0 rfl rfl 7 (by decide) f25 (fun _ h9 => h9) rfl dX7_goes_84 ?_
            refine lv_iload_n hx hb dX7_goes_87 rfl (lv_at hl 3 rfl) ?_
            refine n_iald (i := ev) hx hb hK hP 4 0 rfl htI (by omega) (by omega) (Nat.le_of_ble_eq_true rfl) dX7_goes_88 ?_
            refine n_icmp_ge (tgt := 153) hx hb (by unfold r32; omega) (by unfold r32; omega) dX7_goes_89 (by decide) (fun h89 => ?_) (fun h89 => False.elim (by omega))
            refine n_iconst hx hb dX7_goes_153 ?_
            refine lv_istore_n (lv' := [(3, .int (jI 0)), (2, .int (jI ((t : Nat) : Int))), (0, .ref m0), (1, .int (jI ((ev : Nat) : Int)))]) hx hb dX7_goes_154 rfl hl (by decide) rfl (fun ls hl => ?_)
            refine lv_iload_n hx hb dX7_goes_155 rfl (lv_at hl 0 rfl) ?_
            refine n_iconst hx hb dX7_goes_156 ?_
            refine n_icmp_ge (tgt := 182) hx hb (by unfold r32; decide) (by unfold r32; decide) dX7_goes_157 (by decide) (fun h157 => False.elim (by revert h157; decide)) (fun h157 => ?_)
            refine lv_aload_n hx hb dX7_goes_160 rfl (lv_at hl 2 rfl) ?_
            refine va_get (D := D) (ci := 7) (v := .ref (a 9)) (C := RX7) (T := TX7) (N := 20) hx hb hts iX7 hown hK.1 hP 0 rfl rfl 11 (by decide) f39 (fun _ h9 => h9) rfl dX7_goes_161 ?_
            refine n_iconst hx hb dX7_goes_164 ?_
            refine lv_iload_n hx hb dX7_goes_165 rfl (lv_at hl 1 rfl) ?_
            refine n_imul hx hb dX7_goes_166 ?_
            refine lv_iload_n hx hb dX7_goes_167 rfl (lv_at hl 0 rfl) ?_
            refine n_iadd hx hb dX7_goes_168 ?_
            refine lv_aload_n hx hb dX7_goes_169 rfl (lv_at hl 2 rfl) ?_
            refine va_get (D := D) (ci := 7) (v := .ref (a 12)) (C := RX7) (T := TX7) (N := 20) hx hb hts iX7 hown hK.1 hP 0 rfl rfl 14 (by decide) f48 (fun _ h9 => h9) rfl dX7_goes_170 ?_
            refine lv_iload_n hx hb dX7_goes_173 rfl (lv_at hl 0 rfl) ?_
            refine n_lald (i := 0) hx hb hK hP 11 1 rfl htJ rfl (Nat.le_of_ble_eq_true rfl) (Nat.le_of_ble_eq_true rfl) dX7_goes_174 ?_
            refine n_zlast (i := (5 * t + 0)) (x := (gW 0)) hx hb hK hP hD hS 8 1 rfl htJ (by omega) (by omega) (Nat.le_of_ble_eq_true rfl) dX7_goes_175 (fun H locs hP hD hS => ?_)
            have hP : va_P D vwCl [(m0, oR (jI ((ms : Nat) : Int)) (jI ((es : Nat) : Int)) th a), ((a 1), .inl (cI, 42, .inl (fun i => vI (gM i)))), ((a 2), .inl (cI, 30, .inl (fun i => vI (gB i)))), ((a 3), .inl (cI, 6, .inl (fun i => jI ((gT i : Nat) : Int)))), ((a 5), .inl (cI, 6, .inl (fun i => jI ((gN i : Nat) : Int)))), ((a 6), .inl (cI, 1080, .inl (fun i => vI (gK i)))), ((a 7), .inl (cZ, 180, .inl (fun i => jI (iB (gD i))))), ((a 8), .inl (cJ, 105, .inr (.inl (fun i => vL (gH i))))), ((a 9), .inl (cJ, 105, .inr (.inl (fun i => vL ((va_up gU (5 * t + 0) (gW 0)) i))))), ((a 10), .inl (cJ, 90, .inr (.inl (fun i => vL (gF i))))), ((a 11), .inl (cZ, 30, .inl (fun i => jI (iB (gX i))))), ((a 12), .inl (cJ, 5, .inr (.inl (fun i => vL (gW i)))))] H := hP
            have hD : va_D A [(m0, oR (jI ((ms : Nat) : Int)) (jI ((es : Nat) : Int)) th a), ((a 1), .inl (cI, 42, .inl (fun i => vI (gM i)))), ((a 2), .inl (cI, 30, .inl (fun i => vI (gB i)))), ((a 3), .inl (cI, 6, .inl (fun i => jI ((gT i : Nat) : Int)))), ((a 5), .inl (cI, 6, .inl (fun i => jI ((gN i : Nat) : Int)))), ((a 6), .inl (cI, 1080, .inl (fun i => vI (gK i)))), ((a 7), .inl (cZ, 180, .inl (fun i => jI (iB (gD i))))), ((a 8), .inl (cJ, 105, .inr (.inl (fun i => vL (gH i))))), ((a 9), .inl (cJ, 105, .inr (.inl (fun i => vL ((va_up gU (5 * t + 0) (gW 0)) i))))), ((a 10), .inl (cJ, 90, .inr (.inl (fun i => vL (gF i))))), ((a 11), .inl (cZ, 30, .inl (fun i => jI (iB (gX i))))), ((a 12), .inl (cJ, 5, .inr (.inl (fun i => vL (gW i)))))] := hD
            refine lv_iinc (v := jI 1) (lv' := [(3, .int (jI 1)), (2, .int (jI ((t : Nat) : Int))), (0, .ref m0), (1, .int (jI ((ev : Nat) : Int)))]) hx hb dX7_goes_176 hl (k := 0) rfl (jI_add 0 1) (by decide) rfl (fun ls hl => ?_)
            refine lv_goto (tgt := 155) hx hb dX7_goes_179 (by decide) ?_
            refine lv_iload_n hx hb dX7_goes_155 rfl (lv_at hl 0 rfl) ?_
            refine n_iconst hx hb dX7_goes_156 ?_
            refine n_icmp_ge (tgt := 182) hx hb (by unfold r32; decide) (by unfold r32; decide) dX7_goes_157 (by decide) (fun h157 => False.elim (by revert h157; decide)) (fun h157 => ?_)
            refine lv_aload_n hx hb dX7_goes_160 rfl (lv_at hl 2 rfl) ?_
            refine va_get (D := D) (ci := 7) (v := .ref (a 9)) (C := RX7) (T := TX7) (N := 20) hx hb hts iX7 hown hK.1 hP 0 rfl rfl 11 (by decide) f39 (fun _ h9 => h9) rfl dX7_goes_161 ?_
            refine n_iconst hx hb dX7_goes_164 ?_
            refine lv_iload_n hx hb dX7_goes_165 rfl (lv_at hl 1 rfl) ?_
            refine n_imul hx hb dX7_goes_166 ?_
            refine lv_iload_n hx hb dX7_goes_167 rfl (lv_at hl 0 rfl) ?_
            refine n_iadd hx hb dX7_goes_168 ?_
            refine lv_aload_n hx hb dX7_goes_169 rfl (lv_at hl 2 rfl) ?_
            refine va_get (D := D) (ci := 7) (v := .ref (a 12)) (C := RX7) (T := TX7) (N := 20) hx hb hts iX7 hown hK.1 hP 0 rfl rfl 14 (by decide) f48 (fun _ h9 => h9) rfl dX7_goes_170 ?_
            refine lv_iload_n hx hb dX7_goes_173 rfl (lv_at hl 0 rfl) ?_
            refine n_lald (i := 1) hx hb hK hP 11 1 rfl htJ rfl (Nat.le_of_ble_eq_true rfl) (Nat.le_of_ble_eq_true rfl) dX7_goes_174 ?_
            refine n_zlast (i := (5 * t + 1)) (x := (gW 1)) hx hb hK hP hD hS 8 1 rfl htJ (by omega) (by omega) (Nat.le_of_ble_eq_true rfl) dX7_goes_175 (fun H locs hP hD hS => ?_)
            have hP : va_P D vwCl [(m0, oR (jI ((ms : Nat) : Int)) (jI ((es : Nat) : Int)) th a), ((a 1), .inl (cI, 42, .inl (fun i => vI (gM i)))), ((a 2), .inl (cI, 30, .inl (fun i => vI (gB i)))), ((a 3), .inl (cI, 6, .inl (fun i => jI ((gT i : Nat) : Int)))), ((a 5), .inl (cI, 6, .inl (fun i => jI ((gN i : Nat) : Int)))), ((a 6), .inl (cI, 1080, .inl (fun i => vI (gK i)))), ((a 7), .inl (cZ, 180, .inl (fun i => jI (iB (gD i))))), ((a 8), .inl (cJ, 105, .inr (.inl (fun i => vL (gH i))))), ((a 9), .inl (cJ, 105, .inr (.inl (fun i => vL ((va_up (va_up gU (5 * t + 0) (gW 0)) (5 * t + 1) (gW 1)) i))))), ((a 10), .inl (cJ, 90, .inr (.inl (fun i => vL (gF i))))), ((a 11), .inl (cZ, 30, .inl (fun i => jI (iB (gX i))))), ((a 12), .inl (cJ, 5, .inr (.inl (fun i => vL (gW i)))))] H := hP
            have hD : va_D A [(m0, oR (jI ((ms : Nat) : Int)) (jI ((es : Nat) : Int)) th a), ((a 1), .inl (cI, 42, .inl (fun i => vI (gM i)))), ((a 2), .inl (cI, 30, .inl (fun i => vI (gB i)))), ((a 3), .inl (cI, 6, .inl (fun i => jI ((gT i : Nat) : Int)))), ((a 5), .inl (cI, 6, .inl (fun i => jI ((gN i : Nat) : Int)))), ((a 6), .inl (cI, 1080, .inl (fun i => vI (gK i)))), ((a 7), .inl (cZ, 180, .inl (fun i => jI (iB (gD i))))), ((a 8), .inl (cJ, 105, .inr (.inl (fun i => vL (gH i))))), ((a 9), .inl (cJ, 105, .inr (.inl (fun i => vL ((va_up (va_up gU (5 * t + 0) (gW 0)) (5 * t + 1) (gW 1)) i))))), ((a 10), .inl (cJ, 90, .inr (.inl (fun i => vL (gF i))))), ((a 11), .inl (cZ, 30, .inl (fun i => jI (iB (gX i))))), ((a 12), .inl (cJ, 5, .inr (.inl (fun i => vL (gW i)))))] := hD
            refine lv_iinc (v := jI 2) (lv' := [(3, .int (jI 2)), (2, .int (jI ((t : Nat) : Int))), (0, .ref m0), (1, .int (jI ((ev : Nat) : Int)))]) hx hb dX7_goes_176 hl (k := 0) rfl (jI_add 1 1) (by decide) rfl (fun ls hl => ?_)
            refine lv_goto (tgt := 155) hx hb dX7_goes_179 (by decide) ?_
            refine lv_iload_n hx hb dX7_goes_155 rfl (lv_at hl 0 rfl) ?_
            refine n_iconst hx hb dX7_goes_156 ?_
            refine n_icmp_ge (tgt := 182) hx hb (by unfold r32; decide) (by unfold r32; decide) dX7_goes_157 (by decide) (fun h157 => False.elim (by revert h157; decide)) (fun h157 => ?_)
            refine lv_aload_n hx hb dX7_goes_160 rfl (lv_at hl 2 rfl) ?_
            refine va_get (D := D) (ci := 7) (v := .ref (a 9)) (C := RX7) (T := TX7) (N := 20) hx hb hts iX7 hown hK.1 hP 0 rfl rfl 11 (by decide) f39 (fun _ h9 => h9) rfl dX7_goes_161 ?_
            refine n_iconst hx hb dX7_goes_164 ?_
            refine lv_iload_n hx hb dX7_goes_165 rfl (lv_at hl 1 rfl) ?_
            refine n_imul hx hb dX7_goes_166 ?_
            refine lv_iload_n hx hb dX7_goes_167 rfl (lv_at hl 0 rfl) ?_
            refine n_iadd hx hb dX7_goes_168 ?_
            refine lv_aload_n hx hb dX7_goes_169 rfl (lv_at hl 2 rfl) ?_
            refine va_get (D := D) (ci := 7) (v := .ref (a 12)) (C := RX7) (T := TX7) (N := 20) hx hb hts iX7 hown hK.1 hP 0 rfl rfl 14 (by decide) f48 (fun _ h9 => h9) rfl dX7_goes_170 ?_
            refine lv_iload_n hx hb dX7_goes_173 rfl (lv_at hl 0 rfl) ?_
            refine n_lald (i := 2) hx hb hK hP 11 1 rfl htJ rfl (Nat.le_of_ble_eq_true rfl) (Nat.le_of_ble_eq_true rfl) dX7_goes_174 ?_
            refine n_zlast (i := (5 * t + 2)) (x := (gW 2)) hx hb hK hP hD hS 8 1 rfl htJ (by omega) (by omega) (Nat.le_of_ble_eq_true rfl) dX7_goes_175 (fun H locs hP hD hS => ?_)
            have hP : va_P D vwCl [(m0, oR (jI ((ms : Nat) : Int)) (jI ((es : Nat) : Int)) th a), ((a 1), .inl (cI, 42, .inl (fun i => vI (gM i)))), ((a 2), .inl (cI, 30, .inl (fun i => vI (gB i)))), ((a 3), .inl (cI, 6, .inl (fun i => jI ((gT i : Nat) : Int)))), ((a 5), .inl (cI, 6, .inl (fun i => jI ((gN i : Nat) : Int)))), ((a 6), .inl (cI, 1080, .inl (fun i => vI (gK i)))), ((a 7), .inl (cZ, 180, .inl (fun i => jI (iB (gD i))))), ((a 8), .inl (cJ, 105, .inr (.inl (fun i => vL (gH i))))), ((a 9), .inl (cJ, 105, .inr (.inl (fun i => vL ((va_up (va_up (va_up gU (5 * t + 0) (gW 0)) (5 * t + 1) (gW 1)) (5 * t + 2) (gW 2)) i))))), ((a 10), .inl (cJ, 90, .inr (.inl (fun i => vL (gF i))))), ((a 11), .inl (cZ, 30, .inl (fun i => jI (iB (gX i))))), ((a 12), .inl (cJ, 5, .inr (.inl (fun i => vL (gW i)))))] H := hP
            have hD : va_D A [(m0, oR (jI ((ms : Nat) : Int)) (jI ((es : Nat) : Int)) th a), ((a 1), .inl (cI, 42, .inl (fun i => vI (gM i)))), ((a 2), .inl (cI, 30, .inl (fun i => vI (gB i)))), ((a 3), .inl (cI, 6, .inl (fun i => jI ((gT i : Nat) : Int)))), ((a 5), .inl (cI, 6, .inl (fun i => jI ((gN i : Nat) : Int)))), ((a 6), .inl (cI, 1080, .inl (fun i => vI (gK i)))), ((a 7), .inl (cZ, 180, .inl (fun i => jI (iB (gD i))))), ((a 8), .inl (cJ, 105, .inr (.inl (fun i => vL (gH i))))), ((a 9), .inl (cJ, 105, .inr (.inl (fun i => vL ((va_up (va_up (va_up gU (5 * t + 0) (gW 0)) (5 * t + 1) (gW 1)) (5 * t + 2) (gW 2)) i))))), ((a 10), .inl (cJ, 90, .inr (.inl (fun i => vL (gF i))))), ((a 11), .inl (cZ, 30, .inl (fun i => jI (iB (gX i))))), ((a 12), .inl (cJ, 5, .inr (.inl (fun i => vL (gW i)))))] := hD
            refine lv_iinc (v := jI 3) (lv' := [(3, .int (jI 3)), (2, .int (jI ((t : Nat) : Int))), (0, .ref m0), (1, .int (jI ((ev : Nat) : Int)))]) hx hb dX7_goes_176 hl (k := 0) rfl (jI_add 2 1) (by decide) rfl (fun ls hl => ?_)
            refine lv_goto (tgt := 155) hx hb dX7_goes_179 (by decide) ?_
            refine lv_iload_n hx hb dX7_goes_155 rfl (lv_at hl 0 rfl) ?_
            refine n_iconst hx hb dX7_goes_156 ?_
            refine n_icmp_ge (tgt := 182) hx hb (by unfold r32; decide) (by unfold r32; decide) dX7_goes_157 (by decide) (fun h157 => False.elim (by revert h157; decide)) (fun h157 => ?_)
            refine lv_aload_n hx hb dX7_goes_160 rfl (lv_at hl 2 rfl) ?_
            refine va_get (D := D) (ci := 7) (v := .ref (a 9)) (C := RX7) (T := TX7) (N := 20) hx hb hts iX7 hown hK.1 hP 0 rfl rfl 11 (by decide) f39 (fun _ h9 => h9) rfl dX7_goes_161 ?_
            refine n_iconst hx hb dX7_goes_164 ?_
            refine lv_iload_n hx hb dX7_goes_165 rfl (lv_at hl 1 rfl) ?_
            refine n_imul hx hb dX7_goes_166 ?_
            refine lv_iload_n hx hb dX7_goes_167 rfl (lv_at hl 0 rfl) ?_
            refine n_iadd hx hb dX7_goes_168 ?_
            refine lv_aload_n hx hb dX7_goes_169 rfl (lv_at hl 2 rfl) ?_
            refine va_get (D := D) (ci := 7) (v := .ref (a 12)) (C := RX7) (T := TX7) (N := 20) hx hb hts iX7 hown hK.1 hP 0 rfl rfl 14 (by decide) f48 (fun _ h9 => h9) rfl dX7_goes_170 ?_
            refine lv_iload_n hx hb dX7_goes_173 rfl (lv_at hl 0 rfl) ?_
            refine n_lald (i := 3) hx hb hK hP 11 1 rfl htJ rfl (Nat.le_of_ble_eq_true rfl) (Nat.le_of_ble_eq_true rfl) dX7_goes_174 ?_
            refine n_zlast (i := (5 * t + 3)) (x := (gW 3)) hx hb hK hP hD hS 8 1 rfl htJ (by omega) (by omega) (Nat.le_of_ble_eq_true rfl) dX7_goes_175 (fun H locs hP hD hS => ?_)
            have hP : va_P D vwCl [(m0, oR (jI ((ms : Nat) : Int)) (jI ((es : Nat) : Int)) th a), ((a 1), .inl (cI, 42, .inl (fun i => vI (gM i)))), ((a 2), .inl (cI, 30, .inl (fun i => vI (gB i)))), ((a 3), .inl (cI, 6, .inl (fun i => jI ((gT i : Nat) : Int)))), ((a 5), .inl (cI, 6, .inl (fun i => jI ((gN i : Nat) : Int)))), ((a 6), .inl (cI, 1080, .inl (fun i => vI (gK i)))), ((a 7), .inl (cZ, 180, .inl (fun i => jI (iB (gD i))))), ((a 8), .inl (cJ, 105, .inr (.inl (fun i => vL (gH i))))), ((a 9), .inl (cJ, 105, .inr (.inl (fun i => vL ((va_up (va_up (va_up (va_up gU (5 * t + 0) (gW 0)) (5 * t + 1) (gW 1)) (5 * t + 2) (gW 2)) (5 * t + 3) (gW 3)) i))))), ((a 10), .inl (cJ, 90, .inr (.inl (fun i => vL (gF i))))), ((a 11), .inl (cZ, 30, .inl (fun i => jI (iB (gX i))))), ((a 12), .inl (cJ, 5, .inr (.inl (fun i => vL (gW i)))))] H := hP
            have hD : va_D A [(m0, oR (jI ((ms : Nat) : Int)) (jI ((es : Nat) : Int)) th a), ((a 1), .inl (cI, 42, .inl (fun i => vI (gM i)))), ((a 2), .inl (cI, 30, .inl (fun i => vI (gB i)))), ((a 3), .inl (cI, 6, .inl (fun i => jI ((gT i : Nat) : Int)))), ((a 5), .inl (cI, 6, .inl (fun i => jI ((gN i : Nat) : Int)))), ((a 6), .inl (cI, 1080, .inl (fun i => vI (gK i)))), ((a 7), .inl (cZ, 180, .inl (fun i => jI (iB (gD i))))), ((a 8), .inl (cJ, 105, .inr (.inl (fun i => vL (gH i))))), ((a 9), .inl (cJ, 105, .inr (.inl (fun i => vL ((va_up (va_up (va_up (va_up gU (5 * t + 0) (gW 0)) (5 * t + 1) (gW 1)) (5 * t + 2) (gW 2)) (5 * t + 3) (gW 3)) i))))), ((a 10), .inl (cJ, 90, .inr (.inl (fun i => vL (gF i))))), ((a 11), .inl (cZ, 30, .inl (fun i => jI (iB (gX i))))), ((a 12), .inl (cJ, 5, .inr (.inl (fun i => vL (gW i)))))] := hD
            refine lv_iinc (v := jI 4) (lv' := [(3, .int (jI 4)), (2, .int (jI ((t : Nat) : Int))), (0, .ref m0), (1, .int (jI ((ev : Nat) : Int)))]) hx hb dX7_goes_176 hl (k := 0) rfl (jI_add 3 1) (by decide) rfl (fun ls hl => ?_)
            refine lv_goto (tgt := 155) hx hb dX7_goes_179 (by decide) ?_
            refine lv_iload_n hx hb dX7_goes_155 rfl (lv_at hl 0 rfl) ?_
            refine n_iconst hx hb dX7_goes_156 ?_
            refine n_icmp_ge (tgt := 182) hx hb (by unfold r32; decide) (by unfold r32; decide) dX7_goes_157 (by decide) (fun h157 => False.elim (by revert h157; decide)) (fun h157 => ?_)
            refine lv_aload_n hx hb dX7_goes_160 rfl (lv_at hl 2 rfl) ?_
            refine va_get (D := D) (ci := 7) (v := .ref (a 9)) (C := RX7) (T := TX7) (N := 20) hx hb hts iX7 hown hK.1 hP 0 rfl rfl 11 (by decide) f39 (fun _ h9 => h9) rfl dX7_goes_161 ?_
            refine n_iconst hx hb dX7_goes_164 ?_
            refine lv_iload_n hx hb dX7_goes_165 rfl (lv_at hl 1 rfl) ?_
            refine n_imul hx hb dX7_goes_166 ?_
            refine lv_iload_n hx hb dX7_goes_167 rfl (lv_at hl 0 rfl) ?_
            refine n_iadd hx hb dX7_goes_168 ?_
            refine lv_aload_n hx hb dX7_goes_169 rfl (lv_at hl 2 rfl) ?_
            refine va_get (D := D) (ci := 7) (v := .ref (a 12)) (C := RX7) (T := TX7) (N := 20) hx hb hts iX7 hown hK.1 hP 0 rfl rfl 14 (by decide) f48 (fun _ h9 => h9) rfl dX7_goes_170 ?_
            refine lv_iload_n hx hb dX7_goes_173 rfl (lv_at hl 0 rfl) ?_
            refine n_lald (i := 4) hx hb hK hP 11 1 rfl htJ rfl (Nat.le_of_ble_eq_true rfl) (Nat.le_of_ble_eq_true rfl) dX7_goes_174 ?_
            refine n_zlast (i := (5 * t + 4)) (x := (gW 4)) hx hb hK hP hD hS 8 1 rfl htJ (by omega) (by omega) (Nat.le_of_ble_eq_true rfl) dX7_goes_175 (fun H locs hP hD hS => ?_)
            have hP : va_P D vwCl [(m0, oR (jI ((ms : Nat) : Int)) (jI ((es : Nat) : Int)) th a), ((a 1), .inl (cI, 42, .inl (fun i => vI (gM i)))), ((a 2), .inl (cI, 30, .inl (fun i => vI (gB i)))), ((a 3), .inl (cI, 6, .inl (fun i => jI ((gT i : Nat) : Int)))), ((a 5), .inl (cI, 6, .inl (fun i => jI ((gN i : Nat) : Int)))), ((a 6), .inl (cI, 1080, .inl (fun i => vI (gK i)))), ((a 7), .inl (cZ, 180, .inl (fun i => jI (iB (gD i))))), ((a 8), .inl (cJ, 105, .inr (.inl (fun i => vL (gH i))))), ((a 9), .inl (cJ, 105, .inr (.inl (fun i => vL ((va_up (va_up (va_up (va_up (va_up gU (5 * t + 0) (gW 0)) (5 * t + 1) (gW 1)) (5 * t + 2) (gW 2)) (5 * t + 3) (gW 3)) (5 * t + 4) (gW 4)) i))))), ((a 10), .inl (cJ, 90, .inr (.inl (fun i => vL (gF i))))), ((a 11), .inl (cZ, 30, .inl (fun i => jI (iB (gX i))))), ((a 12), .inl (cJ, 5, .inr (.inl (fun i => vL (gW i)))))] H := hP
            have hD : va_D A [(m0, oR (jI ((ms : Nat) : Int)) (jI ((es : Nat) : Int)) th a), ((a 1), .inl (cI, 42, .inl (fun i => vI (gM i)))), ((a 2), .inl (cI, 30, .inl (fun i => vI (gB i)))), ((a 3), .inl (cI, 6, .inl (fun i => jI ((gT i : Nat) : Int)))), ((a 5), .inl (cI, 6, .inl (fun i => jI ((gN i : Nat) : Int)))), ((a 6), .inl (cI, 1080, .inl (fun i => vI (gK i)))), ((a 7), .inl (cZ, 180, .inl (fun i => jI (iB (gD i))))), ((a 8), .inl (cJ, 105, .inr (.inl (fun i => vL (gH i))))), ((a 9), .inl (cJ, 105, .inr (.inl (fun i => vL ((va_up (va_up (va_up (va_up (va_up gU (5 * t + 0) (gW 0)) (5 * t + 1) (gW 1)) (5 * t + 2) (gW 2)) (5 * t + 3) (gW 3)) (5 * t + 4) (gW 4)) i))))), ((a 10), .inl (cJ, 90, .inr (.inl (fun i => vL (gF i))))), ((a 11), .inl (cZ, 30, .inl (fun i => jI (iB (gX i))))), ((a 12), .inl (cJ, 5, .inr (.inl (fun i => vL (gW i)))))] := hD
            refine lv_iinc (v := jI 5) (lv' := [(3, .int (jI 5)), (2, .int (jI ((t : Nat) : Int))), (0, .ref m0), (1, .int (jI ((ev : Nat) : Int)))]) hx hb dX7_goes_176 hl (k := 0) rfl (jI_add 4 1) (by decide) rfl (fun ls hl => ?_)
            refine lv_goto (tgt := 155) hx hb dX7_goes_179 (by decide) ?_
            refine lv_iload_n hx hb dX7_goes_155 rfl (lv_at hl 0 rfl) ?_
            refine n_iconst hx hb dX7_goes_156 ?_
            refine n_icmp_ge (tgt := 182) hx hb (by unfold r32; decide) (by unfold r32; decide) dX7_goes_157 (by decide) (fun h157 => ?_) (fun h157 => False.elim (by revert h157; decide))
            refine lv_iinc (v := jI ((t + 1 : Nat) : Int)) (lv' := [(2, .int (jI ((t + 1 : Nat) : Int))), (3, .int (jI 5)), (0, .ref m0), (1, .int (jI ((ev : Nat) : Int)))]) hx hb dX7_goes_182 hl (k := 1) rfl (jI_inc t) (by decide) rfl (fun ls hl => ?_)
            refine lv_goto (tgt := 32) hx hb dX7_goes_185 (by decide) ?_
            refine ihf (t + 1) gH (put5at gU t (s5 gW)) gF gX gW H locs ls (by omega) (by omega) (Or.inr ⟨t, rfl, ?_⟩) ?_ ?_ hP hD hS (lv_sub hl [0, 2, 3] rfl)
            · rw [beh_eq, ha]; exact hin
            · intro u hu
              by_cases hut : u = t
              · subst hut
                refine ⟨ha, ?_⟩
                rw [s5at_put, beh_eq, ha]; exact hin
              · have h9 := hrows u (by omega)
                rw [s5at_ne gU hut]
                exact h9
            · intro j h1 h2 h3
              have h3 : (gK (6 * (30 * ev + j) + 0)).val < t + 1 := h3
              exact houts j h1 h2 (by show _ < t ∨ (_ = t ∧ j < gN ev); omega)
          · have hzt : zv (gK (6 * (30 * ev + k) + 0)) = ((t : Nat) : Int) ↔ (gK (6 * (30 * ev + k) + 0)).val = t := by unfold zv; omega
            by_cases hz : (gK (6 * (30 * ev + k) + 0)).val = t
            · by_cases hd : gD (30 * ev + k) = false
              · by_cases hs : mS (fun c => gK (6 * (30 * ev + k) + c)) (s5 gW) = 0
                · have hnone : beh (fun i => gM (7 * ev + i)) (s5at gB ev) (fun k c => gK (6 * (30 * ev + k) + c)) (fun k => gD (30 * ev + k)) (gN ev) t = none := by
                    rw [beh_eq, ha]
                    show inn _ _ _ _ _ = none
                    have h8 := inn_take hin hz hd
                    unfold tk at h8
                    rw [if_pos hs] at h8
                    have h9 := inn_none h8 (gN ev - (k + 1))
                    rw [show k + 1 + (gN ev - (k + 1)) = gN ev by omega] at h9
                    exact h9
                  refine lv_iload_n hx hb dX7_goes_82 rfl (lv_at hl 0 rfl) ?_
                  refine lv_aload_n hx hb dX7_goes_83 rfl (lv_at hl 2 rfl) ?_
                  refine va_get (D := D) (ci := 7) (v := .ref (a 5)) (C := RX7) (T := TX7) (N := 20) hx hb hts iX7 hown hK.1 hP 0 rfl rfl 7 (by decide) f25 (fun _ h9 => h9) rfl dX7_goes_84 ?_
                  refine lv_iload_n hx hb dX7_goes_87 rfl (lv_at hl 3 rfl) ?_
                  refine n_iald (i := ev) hx hb hK hP 4 0 rfl htI (by omega) (by omega) (Nat.le_of_ble_eq_true rfl) dX7_goes_88 ?_
                  refine n_icmp_ge (tgt := 153) hx hb (by unfold r32; omega) (by unfold r32; omega) dX7_goes_89 (by decide) (fun h89 => False.elim (by omega)) (fun h89 => ?_)
                  refine lv_aload_n hx hb dX7_goes_92 rfl (lv_at hl 2 rfl) ?_
                  refine va_get (D := D) (ci := 7) (v := .ref (a 6)) (C := RX7) (T := TX7) (N := 20) hx hb hts iX7 hown hK.1 hP 0 rfl rfl 8 (by decide) f28 (fun _ h9 => h9) rfl dX7_goes_93 ?_
                  refine n_bipush hx hb dX7_goes_96 (by decide) ?_
                  refine n_bipush hx hb dX7_goes_98 (by decide) ?_
                  refine lv_iload_n hx hb dX7_goes_100 rfl (lv_at hl 3 rfl) ?_
                  refine n_imul hx hb dX7_goes_101 ?_
                  refine lv_iload_n hx hb dX7_goes_102 rfl (lv_at hl 0 rfl) ?_
                  refine n_iadd hx hb dX7_goes_103 ?_
                  refine n_imul hx hb dX7_goes_104 ?_
                  refine n_iald (i := (6 * (30 * ev + k))) hx hb hK hP 5 0 rfl htI (by omega) (by omega) (Nat.le_of_ble_eq_true rfl) dX7_goes_105 ?_
                  refine lv_iload_n hx hb dX7_goes_106 rfl (lv_at hl 1 rfl) ?_
                  refine n_icmp_ne (tgt := 128) hx hb (r32_z _) (by unfold r32; omega) dX7_goes_107 (by decide) (fun h107 => False.elim (h107 (hzt.mpr hz))) (fun h107 => ?_)
                  refine lv_aload_n hx hb dX7_goes_110 rfl (lv_at hl 2 rfl) ?_
                  refine va_get (D := D) (ci := 7) (v := .ref (a 7)) (C := RX7) (T := TX7) (N := 20) hx hb hts iX7 hown hK.1 hP 0 rfl rfl 9 (by decide) f31 (fun _ h9 => h9) rfl dX7_goes_111 ?_
                  refine n_bipush hx hb dX7_goes_114 (by decide) ?_
                  refine lv_iload_n hx hb dX7_goes_116 rfl (lv_at hl 3 rfl) ?_
                  refine n_imul hx hb dX7_goes_117 ?_
                  refine lv_iload_n hx hb dX7_goes_118 rfl (lv_at hl 0 rfl) ?_
                  refine n_iadd hx hb dX7_goes_119 ?_
                  refine n_zald (i := (30 * ev + k)) hx hb hK hP 6 2 rfl htZ (by omega) (by omega) (Nat.le_of_ble_eq_true rfl) dX7_goes_120 ?_
                  refine n_ifB_ne (tgt := 128) hx hb dX7_goes_121 (by decide) (fun h121 => Bool.noConfusion (hd.symm.trans h121)) (fun h121 => ?_)
                  refine n_iconst hx hb dX7_goes_124 ?_
                  refine lv_goto (tgt := 129) hx hb dX7_goes_125 (by decide) ?_
                  refine lv_istore (lv' := [(4, .int (jI 1)), (3, .int (jI ((k : Nat) : Int))), (2, .int (jI ((t : Nat) : Int))), (0, .ref m0), (1, .int (jI ((ev : Nat) : Int)))]) hx hb dX7_goes_129 hl (by decide) rfl (fun ls hl => ?_)
                  refine lv_iload hx hb dX7_goes_131 (lv_at hl 0 rfl) ?_
                  refine n_if_eq (tgt := 147) hx hb (by unfold r32; decide) dX7_goes_133 (by decide) (fun h133 => False.elim (by revert h133; decide)) (fun h133 => ?_)
                  refine lv_aload_n hx hb dX7_goes_136 rfl (lv_at hl 3 rfl) ?_
                  refine lv_iload_n hx hb dX7_goes_137 rfl (lv_at hl 4 rfl) ?_
                  refine lv_iload_n hx hb dX7_goes_138 rfl (lv_at hl 1 rfl) ?_
                  have ct139 := c_X7_takes0' l D tys htI htJ htZ m0 a ms es th gK gW gF gX ev k q1 (by omega) hs
                  refine k_goI (va_runV (As := [.int (jI ((ev : Nat) : Int)), .int (jI ((k : Nat) : Int))]) (rest := []) ⟨hx, hb, hml, hown, hts⟩ (ct139.2 _) (cwV 2 hts gX7_goes_X7_takes rfl rfl rfl (by decide +kernel) ⟨Nat.le_of_ble_eq_true rfl, Nat.le_of_ble_eq_true rfl⟩) ⟨(k_pre hK hP hD (is := [0, 5, 11, 9, 10]) rfl rfl).1, va_recv hK.1 hP (ci := 7) (q0 := 0) rfl rfl, (k_pre hK hP hD (is := [0, 5, 11, 9, 10]) rfl rfl).2⟩ rfl rfl hl.1 rfl (lv_room (Nat.le_of_ble_eq_true rfl)) dX7_goes_139 ⟨Nat.le_of_ble_eq_true rfl, Nat.le_of_ble_eq_true rfl⟩) ct139.1 hP hD hS hA [0, 5, 11, 9, 10] rfl rfl (fun H locs hP hD hS => ?_)
                  have hP : va_P D vwCl [(m0, oR (jI ((ms : Nat) : Int)) (jI ((es : Nat) : Int)) th a), ((a 1), .inl (cI, 42, .inl (fun i => vI (gM i)))), ((a 2), .inl (cI, 30, .inl (fun i => vI (gB i)))), ((a 3), .inl (cI, 6, .inl (fun i => jI ((gT i : Nat) : Int)))), ((a 5), .inl (cI, 6, .inl (fun i => jI ((gN i : Nat) : Int)))), ((a 6), .inl (cI, 1080, .inl (fun i => vI (gK i)))), ((a 7), .inl (cZ, 180, .inl (fun i => jI (iB (gD i))))), ((a 8), .inl (cJ, 105, .inr (.inl (fun i => vL (gH i))))), ((a 9), .inl (cJ, 105, .inr (.inl (fun i => vL (gU i))))), ((a 10), .inl (cJ, 90, .inr (.inl (fun i => vL (gF i))))), ((a 11), .inl (cZ, 30, .inl (fun i => jI (iB (gX i))))), ((a 12), .inl (cJ, 5, .inr (.inl (fun i => vL (gW i)))))] H := hP
                  have hD : va_D A [(m0, oR (jI ((ms : Nat) : Int)) (jI ((es : Nat) : Int)) th a), ((a 1), .inl (cI, 42, .inl (fun i => vI (gM i)))), ((a 2), .inl (cI, 30, .inl (fun i => vI (gB i)))), ((a 3), .inl (cI, 6, .inl (fun i => jI ((gT i : Nat) : Int)))), ((a 5), .inl (cI, 6, .inl (fun i => jI ((gN i : Nat) : Int)))), ((a 6), .inl (cI, 1080, .inl (fun i => vI (gK i)))), ((a 7), .inl (cZ, 180, .inl (fun i => jI (iB (gD i))))), ((a 8), .inl (cJ, 105, .inr (.inl (fun i => vL (gH i))))), ((a 9), .inl (cJ, 105, .inr (.inl (fun i => vL (gU i))))), ((a 10), .inl (cJ, 90, .inr (.inl (fun i => vL (gF i))))), ((a 11), .inl (cZ, 30, .inl (fun i => jI (iB (gX i))))), ((a 12), .inl (cJ, 5, .inr (.inl (fun i => vL (gW i)))))] := hD
                  refine n_ifB_ne (tgt := 147) hx hb dX7_goes_142 (by decide) (fun h142 => Bool.noConfusion h142) (fun h142 => ?_)
                  refine n_iconst hx hb dX7_goes_145 ?_
                  refine e_zret (gH, gU, gF, gX, gW) hx hb hr hlocks dX7_goes_146 hP hS rfl (Or.inl ⟨?_, rfl⟩)
                  have h9 := beh_none hnone (gT ev - t)
                  rw [show t + (gT ev - t) = gT ev by omega] at h9
                  exact h9
                · have hbef : bef (fun i => gM (7 * ev + i)) (s5at gB ev) (fun k c => gK (6 * (30 * ev + k) + c)) (fun k => gD (30 * ev + k)) (gN ev) k = some (s5 gW) := by
                    show (ahd (fun i => gM (7 * ev + i)) (s5at gB ev) (fun k c => gK (6 * (30 * ev + k) + c)) (fun k => gD (30 * ev + k)) (gN ev) (gK (6 * (30 * ev + k) + 0)).val).bind _ = _
                    rw [hz, ha]
                    exact hin
                  have htk := inn_take hin hz hd
                  unfold tk at htk
                  rw [if_neg hs] at htk
                  by_cases hg : mgt (fun c => gK (6 * (30 * ev + k) + c)) (s5 gW) = true
                  · rw [if_pos hg] at htk
                    refine lv_iload_n hx hb dX7_goes_82 rfl (lv_at hl 0 rfl) ?_
                    refine lv_aload_n hx hb dX7_goes_83 rfl (lv_at hl 2 rfl) ?_
                    refine va_get (D := D) (ci := 7) (v := .ref (a 5)) (C := RX7) (T := TX7) (N := 20) hx hb hts iX7 hown hK.1 hP 0 rfl rfl 7 (by decide) f25 (fun _ h9 => h9) rfl dX7_goes_84 ?_
                    refine lv_iload_n hx hb dX7_goes_87 rfl (lv_at hl 3 rfl) ?_
                    refine n_iald (i := ev) hx hb hK hP 4 0 rfl htI (by omega) (by omega) (Nat.le_of_ble_eq_true rfl) dX7_goes_88 ?_
                    refine n_icmp_ge (tgt := 153) hx hb (by unfold r32; omega) (by unfold r32; omega) dX7_goes_89 (by decide) (fun h89 => False.elim (by omega)) (fun h89 => ?_)
                    refine lv_aload_n hx hb dX7_goes_92 rfl (lv_at hl 2 rfl) ?_
                    refine va_get (D := D) (ci := 7) (v := .ref (a 6)) (C := RX7) (T := TX7) (N := 20) hx hb hts iX7 hown hK.1 hP 0 rfl rfl 8 (by decide) f28 (fun _ h9 => h9) rfl dX7_goes_93 ?_
                    refine n_bipush hx hb dX7_goes_96 (by decide) ?_
                    refine n_bipush hx hb dX7_goes_98 (by decide) ?_
                    refine lv_iload_n hx hb dX7_goes_100 rfl (lv_at hl 3 rfl) ?_
                    refine n_imul hx hb dX7_goes_101 ?_
                    refine lv_iload_n hx hb dX7_goes_102 rfl (lv_at hl 0 rfl) ?_
                    refine n_iadd hx hb dX7_goes_103 ?_
                    refine n_imul hx hb dX7_goes_104 ?_
                    refine n_iald (i := (6 * (30 * ev + k))) hx hb hK hP 5 0 rfl htI (by omega) (by omega) (Nat.le_of_ble_eq_true rfl) dX7_goes_105 ?_
                    refine lv_iload_n hx hb dX7_goes_106 rfl (lv_at hl 1 rfl) ?_
                    refine n_icmp_ne (tgt := 128) hx hb (r32_z _) (by unfold r32; omega) dX7_goes_107 (by decide) (fun h107 => False.elim (h107 (hzt.mpr hz))) (fun h107 => ?_)
                    refine lv_aload_n hx hb dX7_goes_110 rfl (lv_at hl 2 rfl) ?_
                    refine va_get (D := D) (ci := 7) (v := .ref (a 7)) (C := RX7) (T := TX7) (N := 20) hx hb hts iX7 hown hK.1 hP 0 rfl rfl 9 (by decide) f31 (fun _ h9 => h9) rfl dX7_goes_111 ?_
                    refine n_bipush hx hb dX7_goes_114 (by decide) ?_
                    refine lv_iload_n hx hb dX7_goes_116 rfl (lv_at hl 3 rfl) ?_
                    refine n_imul hx hb dX7_goes_117 ?_
                    refine lv_iload_n hx hb dX7_goes_118 rfl (lv_at hl 0 rfl) ?_
                    refine n_iadd hx hb dX7_goes_119 ?_
                    refine n_zald (i := (30 * ev + k)) hx hb hK hP 6 2 rfl htZ (by omega) (by omega) (Nat.le_of_ble_eq_true rfl) dX7_goes_120 ?_
                    refine n_ifB_ne (tgt := 128) hx hb dX7_goes_121 (by decide) (fun h121 => Bool.noConfusion (hd.symm.trans h121)) (fun h121 => ?_)
                    refine n_iconst hx hb dX7_goes_124 ?_
                    refine lv_goto (tgt := 129) hx hb dX7_goes_125 (by decide) ?_
                    refine lv_istore (lv' := [(4, .int (jI 1)), (3, .int (jI ((k : Nat) : Int))), (2, .int (jI ((t : Nat) : Int))), (0, .ref m0), (1, .int (jI ((ev : Nat) : Int)))]) hx hb dX7_goes_129 hl (by decide) rfl (fun ls hl => ?_)
                    refine lv_iload hx hb dX7_goes_131 (lv_at hl 0 rfl) ?_
                    refine n_if_eq (tgt := 147) hx hb (by unfold r32; decide) dX7_goes_133 (by decide) (fun h133 => False.elim (by revert h133; decide)) (fun h133 => ?_)
                    refine lv_aload_n hx hb dX7_goes_136 rfl (lv_at hl 3 rfl) ?_
                    refine lv_iload_n hx hb dX7_goes_137 rfl (lv_at hl 4 rfl) ?_
                    refine lv_iload_n hx hb dX7_goes_138 rfl (lv_at hl 1 rfl) ?_
                    have ct139 := c_X7_takesg' l D tys htI htJ htZ m0 a ms es th gK gW gF gX ev k q1 (by omega) hs hg
                    refine k_goI (va_runV (As := [.int (jI ((ev : Nat) : Int)), .int (jI ((k : Nat) : Int))]) (rest := []) ⟨hx, hb, hml, hown, hts⟩ (ct139.2 _) (cwV 2 hts gX7_goes_X7_takes rfl rfl rfl (by decide +kernel) ⟨Nat.le_of_ble_eq_true rfl, Nat.le_of_ble_eq_true rfl⟩) ⟨(k_pre hK hP hD (is := [0, 5, 11, 9, 10]) rfl rfl).1, va_recv hK.1 hP (ci := 7) (q0 := 0) rfl rfl, (k_pre hK hP hD (is := [0, 5, 11, 9, 10]) rfl rfl).2⟩ rfl rfl hl.1 rfl (lv_room (Nat.le_of_ble_eq_true rfl)) dX7_goes_139 ⟨Nat.le_of_ble_eq_true rfl, Nat.le_of_ble_eq_true rfl⟩) ct139.1 hP hD hS hA [0, 5, 11, 9, 10] rfl rfl (fun H locs hP hD hS => ?_)
                    have hP : va_P D vwCl [(m0, oR (jI ((ms : Nat) : Int)) (jI ((es : Nat) : Int)) th a), ((a 1), .inl (cI, 42, .inl (fun i => vI (gM i)))), ((a 2), .inl (cI, 30, .inl (fun i => vI (gB i)))), ((a 3), .inl (cI, 6, .inl (fun i => jI ((gT i : Nat) : Int)))), ((a 5), .inl (cI, 6, .inl (fun i => jI ((gN i : Nat) : Int)))), ((a 6), .inl (cI, 1080, .inl (fun i => vI (gK i)))), ((a 7), .inl (cZ, 180, .inl (fun i => jI (iB (gD i))))), ((a 8), .inl (cJ, 105, .inr (.inl (fun i => vL (gH i))))), ((a 9), .inl (cJ, 105, .inr (.inl (fun i => vL (gU i))))), ((a 10), .inl (cJ, 90, .inr (.inl (fun i => vL ((put3 gF k (mY (fun c => gK (6 * (30 * ev + k) + c)) (s5 gW)) (mS (fun c => gK (6 * (30 * ev + k) + c)) (s5 gW)) (mG (fun c => gK (6 * (30 * ev + k) + c)) (s5 gW))) i))))), ((a 11), .inl (cZ, 30, .inl (fun i => jI (iB ((va_up gX k true) i))))), ((a 12), .inl (cJ, 5, .inr (.inl (fun i => vL (gW i)))))] H := hP
                    have hD : va_D A [(m0, oR (jI ((ms : Nat) : Int)) (jI ((es : Nat) : Int)) th a), ((a 1), .inl (cI, 42, .inl (fun i => vI (gM i)))), ((a 2), .inl (cI, 30, .inl (fun i => vI (gB i)))), ((a 3), .inl (cI, 6, .inl (fun i => jI ((gT i : Nat) : Int)))), ((a 5), .inl (cI, 6, .inl (fun i => jI ((gN i : Nat) : Int)))), ((a 6), .inl (cI, 1080, .inl (fun i => vI (gK i)))), ((a 7), .inl (cZ, 180, .inl (fun i => jI (iB (gD i))))), ((a 8), .inl (cJ, 105, .inr (.inl (fun i => vL (gH i))))), ((a 9), .inl (cJ, 105, .inr (.inl (fun i => vL (gU i))))), ((a 10), .inl (cJ, 90, .inr (.inl (fun i => vL ((put3 gF k (mY (fun c => gK (6 * (30 * ev + k) + c)) (s5 gW)) (mS (fun c => gK (6 * (30 * ev + k) + c)) (s5 gW)) (mG (fun c => gK (6 * (30 * ev + k) + c)) (s5 gW))) i))))), ((a 11), .inl (cZ, 30, .inl (fun i => jI (iB ((va_up gX k true) i))))), ((a 12), .inl (cJ, 5, .inr (.inl (fun i => vL (gW i)))))] := hD
                    refine n_ifB_ne (tgt := 147) hx hb dX7_goes_142 (by decide) (fun h142 => ?_) (fun h142 => Bool.noConfusion h142)
                    refine lv_iinc (v := jI ((k + 1 : Nat) : Int)) (lv' := [(3, .int (jI ((k + 1 : Nat) : Int))), (4, .int (jI 1)), (2, .int (jI ((t : Nat) : Int))), (0, .ref m0), (1, .int (jI ((ev : Nat) : Int)))]) hx hb dX7_goes_147 hl (k := 1) rfl (jI_inc k) (by decide) rfl (fun ls hl => ?_)
                    refine lv_goto (tgt := 82) hx hb dX7_goes_150 (by decide) ?_
                    refine ih (k + 1) _ _ _ H locs ls (by omega) (by omega) gH hrows ha htk ?_ hP hD hS (lv_sub hl [0, 2, 3, 4] rfl)
                    intro j h1 h2 h3
                    by_cases hjk : j = k
                    · subst hjk
                      exact ⟨_, hbef, Out.put _ _ _ _ _ hg⟩
                    · obtain ⟨q, h5, h6⟩ := houts j h1 h2 (by have h3 : (gK (6 * (30 * ev + j) + 0)).val < t ∨ ((gK (6 * (30 * ev + j) + 0)).val = t ∧ j < k + 1) := h3; show _ < t ∨ (_ = t ∧ j < k); omega)
                      exact ⟨q, h5, h6.keep hjk _ _ _ _⟩
                  · have hg2 : mgt (fun c => gK (6 * (30 * ev + k) + c)) (s5 gW) = false := by simpa using hg
                    rw [if_neg hg] at htk
                    have hg := hg2
                    refine lv_iload_n hx hb dX7_goes_82 rfl (lv_at hl 0 rfl) ?_
                    refine lv_aload_n hx hb dX7_goes_83 rfl (lv_at hl 2 rfl) ?_
                    refine va_get (D := D) (ci := 7) (v := .ref (a 5)) (C := RX7) (T := TX7) (N := 20) hx hb hts iX7 hown hK.1 hP 0 rfl rfl 7 (by decide) f25 (fun _ h9 => h9) rfl dX7_goes_84 ?_
                    refine lv_iload_n hx hb dX7_goes_87 rfl (lv_at hl 3 rfl) ?_
                    refine n_iald (i := ev) hx hb hK hP 4 0 rfl htI (by omega) (by omega) (Nat.le_of_ble_eq_true rfl) dX7_goes_88 ?_
                    refine n_icmp_ge (tgt := 153) hx hb (by unfold r32; omega) (by unfold r32; omega) dX7_goes_89 (by decide) (fun h89 => False.elim (by omega)) (fun h89 => ?_)
                    refine lv_aload_n hx hb dX7_goes_92 rfl (lv_at hl 2 rfl) ?_
                    refine va_get (D := D) (ci := 7) (v := .ref (a 6)) (C := RX7) (T := TX7) (N := 20) hx hb hts iX7 hown hK.1 hP 0 rfl rfl 8 (by decide) f28 (fun _ h9 => h9) rfl dX7_goes_93 ?_
                    refine n_bipush hx hb dX7_goes_96 (by decide) ?_
                    refine n_bipush hx hb dX7_goes_98 (by decide) ?_
                    refine lv_iload_n hx hb dX7_goes_100 rfl (lv_at hl 3 rfl) ?_
                    refine n_imul hx hb dX7_goes_101 ?_
                    refine lv_iload_n hx hb dX7_goes_102 rfl (lv_at hl 0 rfl) ?_
                    refine n_iadd hx hb dX7_goes_103 ?_
                    refine n_imul hx hb dX7_goes_104 ?_
                    refine n_iald (i := (6 * (30 * ev + k))) hx hb hK hP 5 0 rfl htI (by omega) (by omega) (Nat.le_of_ble_eq_true rfl) dX7_goes_105 ?_
                    refine lv_iload_n hx hb dX7_goes_106 rfl (lv_at hl 1 rfl) ?_
                    refine n_icmp_ne (tgt := 128) hx hb (r32_z _) (by unfold r32; omega) dX7_goes_107 (by decide) (fun h107 => False.elim (h107 (hzt.mpr hz))) (fun h107 => ?_)
                    refine lv_aload_n hx hb dX7_goes_110 rfl (lv_at hl 2 rfl) ?_
                    refine va_get (D := D) (ci := 7) (v := .ref (a 7)) (C := RX7) (T := TX7) (N := 20) hx hb hts iX7 hown hK.1 hP 0 rfl rfl 9 (by decide) f31 (fun _ h9 => h9) rfl dX7_goes_111 ?_
                    refine n_bipush hx hb dX7_goes_114 (by decide) ?_
                    refine lv_iload_n hx hb dX7_goes_116 rfl (lv_at hl 3 rfl) ?_
                    refine n_imul hx hb dX7_goes_117 ?_
                    refine lv_iload_n hx hb dX7_goes_118 rfl (lv_at hl 0 rfl) ?_
                    refine n_iadd hx hb dX7_goes_119 ?_
                    refine n_zald (i := (30 * ev + k)) hx hb hK hP 6 2 rfl htZ (by omega) (by omega) (Nat.le_of_ble_eq_true rfl) dX7_goes_120 ?_
                    refine n_ifB_ne (tgt := 128) hx hb dX7_goes_121 (by decide) (fun h121 => Bool.noConfusion (hd.symm.trans h121)) (fun h121 => ?_)
                    refine n_iconst hx hb dX7_goes_124 ?_
                    refine lv_goto (tgt := 129) hx hb dX7_goes_125 (by decide) ?_
                    refine lv_istore (lv' := [(4, .int (jI 1)), (3, .int (jI ((k : Nat) : Int))), (2, .int (jI ((t : Nat) : Int))), (0, .ref m0), (1, .int (jI ((ev : Nat) : Int)))]) hx hb dX7_goes_129 hl (by decide) rfl (fun ls hl => ?_)
                    refine lv_iload hx hb dX7_goes_131 (lv_at hl 0 rfl) ?_
                    refine n_if_eq (tgt := 147) hx hb (by unfold r32; decide) dX7_goes_133 (by decide) (fun h133 => False.elim (by revert h133; decide)) (fun h133 => ?_)
                    refine lv_aload_n hx hb dX7_goes_136 rfl (lv_at hl 3 rfl) ?_
                    refine lv_iload_n hx hb dX7_goes_137 rfl (lv_at hl 4 rfl) ?_
                    refine lv_iload_n hx hb dX7_goes_138 rfl (lv_at hl 1 rfl) ?_
                    have ct139 := c_X7_takesc' l D tys htI htJ htZ m0 a ms es th gK gW gF gX ev k q1 (by omega) hs hg
                    refine k_goI (va_runV (As := [.int (jI ((ev : Nat) : Int)), .int (jI ((k : Nat) : Int))]) (rest := []) ⟨hx, hb, hml, hown, hts⟩ (ct139.2 _) (cwV 2 hts gX7_goes_X7_takes rfl rfl rfl (by decide +kernel) ⟨Nat.le_of_ble_eq_true rfl, Nat.le_of_ble_eq_true rfl⟩) ⟨(k_pre hK hP hD (is := [0, 5, 11, 9, 10]) rfl rfl).1, va_recv hK.1 hP (ci := 7) (q0 := 0) rfl rfl, (k_pre hK hP hD (is := [0, 5, 11, 9, 10]) rfl rfl).2⟩ rfl rfl hl.1 rfl (lv_room (Nat.le_of_ble_eq_true rfl)) dX7_goes_139 ⟨Nat.le_of_ble_eq_true rfl, Nat.le_of_ble_eq_true rfl⟩) ct139.1 hP hD hS hA [0, 5, 11, 9, 10] rfl rfl (fun H locs hP hD hS => ?_)
                    have hP : va_P D vwCl [(m0, oR (jI ((ms : Nat) : Int)) (jI ((es : Nat) : Int)) th a), ((a 1), .inl (cI, 42, .inl (fun i => vI (gM i)))), ((a 2), .inl (cI, 30, .inl (fun i => vI (gB i)))), ((a 3), .inl (cI, 6, .inl (fun i => jI ((gT i : Nat) : Int)))), ((a 5), .inl (cI, 6, .inl (fun i => jI ((gN i : Nat) : Int)))), ((a 6), .inl (cI, 1080, .inl (fun i => vI (gK i)))), ((a 7), .inl (cZ, 180, .inl (fun i => jI (iB (gD i))))), ((a 8), .inl (cJ, 105, .inr (.inl (fun i => vL (gH i))))), ((a 9), .inl (cJ, 105, .inr (.inl (fun i => vL (gU i))))), ((a 10), .inl (cJ, 90, .inr (.inl (fun i => vL ((put3 gF k (mY (fun c => gK (6 * (30 * ev + k) + c)) (s5 gW)) (mS (fun c => gK (6 * (30 * ev + k) + c)) (s5 gW)) (mG (fun c => gK (6 * (30 * ev + k) + c)) (s5 gW))) i))))), ((a 11), .inl (cZ, 30, .inl (fun i => jI (iB ((va_up gX k false) i))))), ((a 12), .inl (cJ, 5, .inr (.inl (fun i => vL ((put5 gW (cor (fun c => gK (6 * (30 * ev + k) + c)) (s5 gW))) i)))))] H := hP
                    have hD : va_D A [(m0, oR (jI ((ms : Nat) : Int)) (jI ((es : Nat) : Int)) th a), ((a 1), .inl (cI, 42, .inl (fun i => vI (gM i)))), ((a 2), .inl (cI, 30, .inl (fun i => vI (gB i)))), ((a 3), .inl (cI, 6, .inl (fun i => jI ((gT i : Nat) : Int)))), ((a 5), .inl (cI, 6, .inl (fun i => jI ((gN i : Nat) : Int)))), ((a 6), .inl (cI, 1080, .inl (fun i => vI (gK i)))), ((a 7), .inl (cZ, 180, .inl (fun i => jI (iB (gD i))))), ((a 8), .inl (cJ, 105, .inr (.inl (fun i => vL (gH i))))), ((a 9), .inl (cJ, 105, .inr (.inl (fun i => vL (gU i))))), ((a 10), .inl (cJ, 90, .inr (.inl (fun i => vL ((put3 gF k (mY (fun c => gK (6 * (30 * ev + k) + c)) (s5 gW)) (mS (fun c => gK (6 * (30 * ev + k) + c)) (s5 gW)) (mG (fun c => gK (6 * (30 * ev + k) + c)) (s5 gW))) i))))), ((a 11), .inl (cZ, 30, .inl (fun i => jI (iB ((va_up gX k false) i))))), ((a 12), .inl (cJ, 5, .inr (.inl (fun i => vL ((put5 gW (cor (fun c => gK (6 * (30 * ev + k) + c)) (s5 gW))) i)))))] := hD
                    refine n_ifB_ne (tgt := 147) hx hb dX7_goes_142 (by decide) (fun h142 => ?_) (fun h142 => Bool.noConfusion h142)
                    refine lv_iinc (v := jI ((k + 1 : Nat) : Int)) (lv' := [(3, .int (jI ((k + 1 : Nat) : Int))), (4, .int (jI 1)), (2, .int (jI ((t : Nat) : Int))), (0, .ref m0), (1, .int (jI ((ev : Nat) : Int)))]) hx hb dX7_goes_147 hl (k := 1) rfl (jI_inc k) (by decide) rfl (fun ls hl => ?_)
                    refine lv_goto (tgt := 82) hx hb dX7_goes_150 (by decide) ?_
                    refine ih (k + 1) _ _ _ H locs ls (by omega) (by omega) gH hrows ha (by rw [s5_put5]; exact htk) ?_ hP hD hS (lv_sub hl [0, 2, 3, 4] rfl)
                    intro j h1 h2 h3
                    by_cases hjk : j = k
                    · subst hjk
                      exact ⟨_, hbef, Out.put _ _ _ _ _ hg⟩
                    · obtain ⟨q, h5, h6⟩ := houts j h1 h2 (by have h3 : (gK (6 * (30 * ev + j) + 0)).val < t ∨ ((gK (6 * (30 * ev + j) + 0)).val = t ∧ j < k + 1) := h3; show _ < t ∨ (_ = t ∧ j < k); omega)
                      exact ⟨q, h5, h6.keep hjk _ _ _ _⟩
              · have hd2 : gD (30 * ev + k) = true := by simpa using hd
                have hd := hd2
                refine lv_iload_n hx hb dX7_goes_82 rfl (lv_at hl 0 rfl) ?_
                refine lv_aload_n hx hb dX7_goes_83 rfl (lv_at hl 2 rfl) ?_
                refine va_get (D := D) (ci := 7) (v := .ref (a 5)) (C := RX7) (T := TX7) (N := 20) hx hb hts iX7 hown hK.1 hP 0 rfl rfl 7 (by decide) f25 (fun _ h9 => h9) rfl dX7_goes_84 ?_
                refine lv_iload_n hx hb dX7_goes_87 rfl (lv_at hl 3 rfl) ?_
                refine n_iald (i := ev) hx hb hK hP 4 0 rfl htI (by omega) (by omega) (Nat.le_of_ble_eq_true rfl) dX7_goes_88 ?_
                refine n_icmp_ge (tgt := 153) hx hb (by unfold r32; omega) (by unfold r32; omega) dX7_goes_89 (by decide) (fun h89 => False.elim (by omega)) (fun h89 => ?_)
                refine lv_aload_n hx hb dX7_goes_92 rfl (lv_at hl 2 rfl) ?_
                refine va_get (D := D) (ci := 7) (v := .ref (a 6)) (C := RX7) (T := TX7) (N := 20) hx hb hts iX7 hown hK.1 hP 0 rfl rfl 8 (by decide) f28 (fun _ h9 => h9) rfl dX7_goes_93 ?_
                refine n_bipush hx hb dX7_goes_96 (by decide) ?_
                refine n_bipush hx hb dX7_goes_98 (by decide) ?_
                refine lv_iload_n hx hb dX7_goes_100 rfl (lv_at hl 3 rfl) ?_
                refine n_imul hx hb dX7_goes_101 ?_
                refine lv_iload_n hx hb dX7_goes_102 rfl (lv_at hl 0 rfl) ?_
                refine n_iadd hx hb dX7_goes_103 ?_
                refine n_imul hx hb dX7_goes_104 ?_
                refine n_iald (i := (6 * (30 * ev + k))) hx hb hK hP 5 0 rfl htI (by omega) (by omega) (Nat.le_of_ble_eq_true rfl) dX7_goes_105 ?_
                refine lv_iload_n hx hb dX7_goes_106 rfl (lv_at hl 1 rfl) ?_
                refine n_icmp_ne (tgt := 128) hx hb (r32_z _) (by unfold r32; omega) dX7_goes_107 (by decide) (fun h107 => False.elim (h107 (hzt.mpr hz))) (fun h107 => ?_)
                refine lv_aload_n hx hb dX7_goes_110 rfl (lv_at hl 2 rfl) ?_
                refine va_get (D := D) (ci := 7) (v := .ref (a 7)) (C := RX7) (T := TX7) (N := 20) hx hb hts iX7 hown hK.1 hP 0 rfl rfl 9 (by decide) f31 (fun _ h9 => h9) rfl dX7_goes_111 ?_
                refine n_bipush hx hb dX7_goes_114 (by decide) ?_
                refine lv_iload_n hx hb dX7_goes_116 rfl (lv_at hl 3 rfl) ?_
                refine n_imul hx hb dX7_goes_117 ?_
                refine lv_iload_n hx hb dX7_goes_118 rfl (lv_at hl 0 rfl) ?_
                refine n_iadd hx hb dX7_goes_119 ?_
                refine n_zald (i := (30 * ev + k)) hx hb hK hP 6 2 rfl htZ (by omega) (by omega) (Nat.le_of_ble_eq_true rfl) dX7_goes_120 ?_
                refine n_ifB_ne (tgt := 128) hx hb dX7_goes_121 (by decide) (fun h121 => ?_) (fun h121 => Bool.noConfusion (hd.symm.trans h121))
                refine n_iconst hx hb dX7_goes_128 ?_
                refine lv_istore (lv' := [(4, .int (jI 0)), (3, .int (jI ((k : Nat) : Int))), (2, .int (jI ((t : Nat) : Int))), (0, .ref m0), (1, .int (jI ((ev : Nat) : Int)))]) hx hb dX7_goes_129 hl (by decide) rfl (fun ls hl => ?_)
                refine lv_iload hx hb dX7_goes_131 (lv_at hl 0 rfl) ?_
                refine n_if_eq (tgt := 147) hx hb (by unfold r32; decide) dX7_goes_133 (by decide) (fun h133 => ?_) (fun h133 => False.elim (by revert h133; decide))
                refine lv_iinc (v := jI ((k + 1 : Nat) : Int)) (lv' := [(3, .int (jI ((k + 1 : Nat) : Int))), (4, .int (jI 0)), (2, .int (jI ((t : Nat) : Int))), (0, .ref m0), (1, .int (jI ((ev : Nat) : Int)))]) hx hb dX7_goes_147 hl (k := 1) rfl (jI_inc k) (by decide) rfl (fun ls hl => ?_)
                refine lv_goto (tgt := 82) hx hb dX7_goes_150 (by decide) ?_
                refine ih (k + 1) gF gX gW H locs ls (by omega) (by omega) gH hrows ha (inn_skip hin (by show ¬ (_ ∧ gD (30 * ev + k) = false); rw [hd]; simp)) ?_ hP hD hS (lv_sub hl [0, 2, 3, 4] rfl)
                intro j h1 h2 h3
                have h2' : gD (30 * ev + j) = false := h2
                have hjk : j ≠ k := fun q => by rw [q, hd] at h2'; cases h2'
                exact houts j h1 h2 (by have h3 : (gK (6 * (30 * ev + j) + 0)).val < t ∨ ((gK (6 * (30 * ev + j) + 0)).val = t ∧ j < k + 1) := h3; show _ < t ∨ (_ = t ∧ j < k); omega)
            · skip
              refine lv_iload_n hx hb dX7_goes_82 rfl (lv_at hl 0 rfl) ?_
              refine lv_aload_n hx hb dX7_goes_83 rfl (lv_at hl 2 rfl) ?_
              refine va_get (D := D) (ci := 7) (v := .ref (a 5)) (C := RX7) (T := TX7) (N := 20) hx hb hts iX7 hown hK.1 hP 0 rfl rfl 7 (by decide) f25 (fun _ h9 => h9) rfl dX7_goes_84 ?_
              refine lv_iload_n hx hb dX7_goes_87 rfl (lv_at hl 3 rfl) ?_
              refine n_iald (i := ev) hx hb hK hP 4 0 rfl htI (by omega) (by omega) (Nat.le_of_ble_eq_true rfl) dX7_goes_88 ?_
              refine n_icmp_ge (tgt := 153) hx hb (by unfold r32; omega) (by unfold r32; omega) dX7_goes_89 (by decide) (fun h89 => False.elim (by omega)) (fun h89 => ?_)
              refine lv_aload_n hx hb dX7_goes_92 rfl (lv_at hl 2 rfl) ?_
              refine va_get (D := D) (ci := 7) (v := .ref (a 6)) (C := RX7) (T := TX7) (N := 20) hx hb hts iX7 hown hK.1 hP 0 rfl rfl 8 (by decide) f28 (fun _ h9 => h9) rfl dX7_goes_93 ?_
              refine n_bipush hx hb dX7_goes_96 (by decide) ?_
              refine n_bipush hx hb dX7_goes_98 (by decide) ?_
              refine lv_iload_n hx hb dX7_goes_100 rfl (lv_at hl 3 rfl) ?_
              refine n_imul hx hb dX7_goes_101 ?_
              refine lv_iload_n hx hb dX7_goes_102 rfl (lv_at hl 0 rfl) ?_
              refine n_iadd hx hb dX7_goes_103 ?_
              refine n_imul hx hb dX7_goes_104 ?_
              refine n_iald (i := (6 * (30 * ev + k))) hx hb hK hP 5 0 rfl htI (by omega) (by omega) (Nat.le_of_ble_eq_true rfl) dX7_goes_105 ?_
              refine lv_iload_n hx hb dX7_goes_106 rfl (lv_at hl 1 rfl) ?_
              refine n_icmp_ne (tgt := 128) hx hb (r32_z _) (by unfold r32; omega) dX7_goes_107 (by decide) (fun h107 => ?_) (fun h107 => False.elim (hz (hzt.mp h107)))
              refine n_iconst hx hb dX7_goes_128 ?_
              refine lv_istore (lv' := [(4, .int (jI 0)), (3, .int (jI ((k : Nat) : Int))), (2, .int (jI ((t : Nat) : Int))), (0, .ref m0), (1, .int (jI ((ev : Nat) : Int)))]) hx hb dX7_goes_129 hl (by decide) rfl (fun ls hl => ?_)
              refine lv_iload hx hb dX7_goes_131 (lv_at hl 0 rfl) ?_
              refine n_if_eq (tgt := 147) hx hb (by unfold r32; decide) dX7_goes_133 (by decide) (fun h133 => ?_) (fun h133 => False.elim (by revert h133; decide))
              refine lv_iinc (v := jI ((k + 1 : Nat) : Int)) (lv' := [(3, .int (jI ((k + 1 : Nat) : Int))), (4, .int (jI 0)), (2, .int (jI ((t : Nat) : Int))), (0, .ref m0), (1, .int (jI ((ev : Nat) : Int)))]) hx hb dX7_goes_147 hl (k := 1) rfl (jI_inc k) (by decide) rfl (fun ls hl => ?_)
              refine lv_goto (tgt := 82) hx hb dX7_goes_150 (by decide) ?_
              refine ih (k + 1) gF gX gW H locs ls (by omega) (by omega) gH hrows ha (inn_skip hin (fun q => hz q.1)) ?_ hP hD hS (lv_sub hl [0, 2, 3, 4] rfl)
              intro j h1 h2 h3
              have h3 : (gK (6 * (30 * ev + j) + 0)).val < t ∨ ((gK (6 * (30 * ev + j) + 0)).val = t ∧ j < k + 1) := h3
              have hjk : j = k → ¬ (gK (6 * (30 * ev + j) + 0)).val = t := fun q => by rw [q]; exact hz
              exact houts j h1 h2 (by
                show (gK (6 * (30 * ev + j) + 0)).val < t ∨ ((gK (6 * (30 * ev + j) + 0)).val = t ∧ j < k)
                by_cases q : j = k
                · have := hjk q
                  omega
                · omega)
      have hout0 : Outs (fun i => gM (7 * ev + i)) (s5at gB ev) (fun k c => gK (6 * (30 * ev + k) + c)) (fun k => gD (30 * ev + k)) (gN ev) gF gX (fun j => (gK (6 * (30 * ev + j) + 0)).val < t ∨ ((gK (6 * (30 * ev + j) + 0)).val = t ∧ j < 0)) := fun j h1 h2 h3 => houts j h1 h2 (by have h3 : (gK (6 * (30 * ev + j) + 0)).val < t ∨ ((gK (6 * (30 * ev + j) + 0)).val = t ∧ j < 0) := h3; show _ < t; omega)
      have hrowsp : ∀ q, Rows (fun i => gM (7 * ev + i)) (s5at gB ev) (fun k c => gK (6 * (30 * ev + k) + c)) (fun k => gD (30 * ev + k)) (gN ev) (put5at gH t q) gU t := fun q u hu => by
        have h9 := hrows u hu
        rw [s5at_ne gH (show u ≠ t by omega)]
        exact h9
      by_cases h0 : t = 0
      · have hs0 : s5 gW = s5at gB ev := by
          rcases hcur with ⟨-, h9⟩ | ⟨u, h9, -⟩
          · exact h9
          · omega
        refine lv_iload_n hx hb dX7_goes_32 rfl (lv_at hl 0 rfl) ?_
        refine lv_aload_n hx hb dX7_goes_33 rfl (lv_at hl 1 rfl) ?_
        refine va_get (D := D) (ci := 7) (v := .ref (a 3)) (C := RX7) (T := TX7) (N := 20) hx hb hts iX7 hown hK.1 hP 0 rfl rfl 5 (by decide) f19 (fun _ h9 => h9) rfl dX7_goes_34 ?_
        refine lv_iload_n hx hb dX7_goes_37 rfl (lv_at hl 2 rfl) ?_
        refine n_iald (i := ev) hx hb hK hP 3 0 rfl htI (by omega) (by omega) (Nat.le_of_ble_eq_true rfl) dX7_goes_38 ?_
        refine n_icmp_gt (tgt := 188) hx hb (by unfold r32; omega) (by unfold r32; omega) dX7_goes_39 (by decide) (fun h39 => False.elim (by omega)) (fun h39 => ?_)
        refine lv_iload_n hx hb dX7_goes_42 rfl (lv_at hl 0 rfl) ?_
        refine n_if_le (tgt := 51) hx hb (by unfold r32; omega) dX7_goes_43 (by decide) (fun h43 => ?_) (fun h43 => False.elim (by omega))
        refine n_iconst hx hb dX7_goes_51 ?_
        refine lv_istore_n (lv' := [(3, .int (jI 0)), (2, .int (jI ((t : Nat) : Int))), (0, .ref m0), (1, .int (jI ((ev : Nat) : Int)))]) hx hb dX7_goes_52 rfl hl (by decide) rfl (fun ls hl => ?_)
        refine lv_iload_n hx hb dX7_goes_53 rfl (lv_at hl 0 rfl) ?_
        refine n_iconst hx hb dX7_goes_54 ?_
        refine n_icmp_ge (tgt := 80) hx hb (by unfold r32; decide) (by unfold r32; decide) dX7_goes_55 (by decide) (fun h55 => False.elim (by revert h55; decide)) (fun h55 => ?_)
        refine lv_aload_n hx hb dX7_goes_58 rfl (lv_at hl 2 rfl) ?_
        refine va_get (D := D) (ci := 7) (v := .ref (a 8)) (C := RX7) (T := TX7) (N := 20) hx hb hts iX7 hown hK.1 hP 0 rfl rfl 10 (by decide) f35 (fun _ h9 => h9) rfl dX7_goes_59 ?_
        refine n_iconst hx hb dX7_goes_62 ?_
        refine lv_iload_n hx hb dX7_goes_63 rfl (lv_at hl 1 rfl) ?_
        refine n_imul hx hb dX7_goes_64 ?_
        refine lv_iload_n hx hb dX7_goes_65 rfl (lv_at hl 0 rfl) ?_
        refine n_iadd hx hb dX7_goes_66 ?_
        refine lv_aload_n hx hb dX7_goes_67 rfl (lv_at hl 2 rfl) ?_
        refine va_get (D := D) (ci := 7) (v := .ref (a 12)) (C := RX7) (T := TX7) (N := 20) hx hb hts iX7 hown hK.1 hP 0 rfl rfl 14 (by decide) f48 (fun _ h9 => h9) rfl dX7_goes_68 ?_
        refine lv_iload_n hx hb dX7_goes_71 rfl (lv_at hl 0 rfl) ?_
        refine n_lald (i := 0) hx hb hK hP 11 1 rfl htJ rfl (Nat.le_of_ble_eq_true rfl) (Nat.le_of_ble_eq_true rfl) dX7_goes_72 ?_
        refine n_zlast (i := (5 * t + 0)) (x := (gW 0)) hx hb hK hP hD hS 7 1 rfl htJ (by omega) (by omega) (Nat.le_of_ble_eq_true rfl) dX7_goes_73 (fun H locs hP hD hS => ?_)
        have hP : va_P D vwCl [(m0, oR (jI ((ms : Nat) : Int)) (jI ((es : Nat) : Int)) th a), ((a 1), .inl (cI, 42, .inl (fun i => vI (gM i)))), ((a 2), .inl (cI, 30, .inl (fun i => vI (gB i)))), ((a 3), .inl (cI, 6, .inl (fun i => jI ((gT i : Nat) : Int)))), ((a 5), .inl (cI, 6, .inl (fun i => jI ((gN i : Nat) : Int)))), ((a 6), .inl (cI, 1080, .inl (fun i => vI (gK i)))), ((a 7), .inl (cZ, 180, .inl (fun i => jI (iB (gD i))))), ((a 8), .inl (cJ, 105, .inr (.inl (fun i => vL ((va_up gH (5 * t + 0) (gW 0)) i))))), ((a 9), .inl (cJ, 105, .inr (.inl (fun i => vL (gU i))))), ((a 10), .inl (cJ, 90, .inr (.inl (fun i => vL (gF i))))), ((a 11), .inl (cZ, 30, .inl (fun i => jI (iB (gX i))))), ((a 12), .inl (cJ, 5, .inr (.inl (fun i => vL (gW i)))))] H := hP
        have hD : va_D A [(m0, oR (jI ((ms : Nat) : Int)) (jI ((es : Nat) : Int)) th a), ((a 1), .inl (cI, 42, .inl (fun i => vI (gM i)))), ((a 2), .inl (cI, 30, .inl (fun i => vI (gB i)))), ((a 3), .inl (cI, 6, .inl (fun i => jI ((gT i : Nat) : Int)))), ((a 5), .inl (cI, 6, .inl (fun i => jI ((gN i : Nat) : Int)))), ((a 6), .inl (cI, 1080, .inl (fun i => vI (gK i)))), ((a 7), .inl (cZ, 180, .inl (fun i => jI (iB (gD i))))), ((a 8), .inl (cJ, 105, .inr (.inl (fun i => vL ((va_up gH (5 * t + 0) (gW 0)) i))))), ((a 9), .inl (cJ, 105, .inr (.inl (fun i => vL (gU i))))), ((a 10), .inl (cJ, 90, .inr (.inl (fun i => vL (gF i))))), ((a 11), .inl (cZ, 30, .inl (fun i => jI (iB (gX i))))), ((a 12), .inl (cJ, 5, .inr (.inl (fun i => vL (gW i)))))] := hD
        refine lv_iinc (v := jI 1) (lv' := [(3, .int (jI 1)), (2, .int (jI ((t : Nat) : Int))), (0, .ref m0), (1, .int (jI ((ev : Nat) : Int)))]) hx hb dX7_goes_74 hl (k := 0) rfl (jI_add 0 1) (by decide) rfl (fun ls hl => ?_)
        refine lv_goto (tgt := 53) hx hb dX7_goes_77 (by decide) ?_
        refine lv_iload_n hx hb dX7_goes_53 rfl (lv_at hl 0 rfl) ?_
        refine n_iconst hx hb dX7_goes_54 ?_
        refine n_icmp_ge (tgt := 80) hx hb (by unfold r32; decide) (by unfold r32; decide) dX7_goes_55 (by decide) (fun h55 => False.elim (by revert h55; decide)) (fun h55 => ?_)
        refine lv_aload_n hx hb dX7_goes_58 rfl (lv_at hl 2 rfl) ?_
        refine va_get (D := D) (ci := 7) (v := .ref (a 8)) (C := RX7) (T := TX7) (N := 20) hx hb hts iX7 hown hK.1 hP 0 rfl rfl 10 (by decide) f35 (fun _ h9 => h9) rfl dX7_goes_59 ?_
        refine n_iconst hx hb dX7_goes_62 ?_
        refine lv_iload_n hx hb dX7_goes_63 rfl (lv_at hl 1 rfl) ?_
        refine n_imul hx hb dX7_goes_64 ?_
        refine lv_iload_n hx hb dX7_goes_65 rfl (lv_at hl 0 rfl) ?_
        refine n_iadd hx hb dX7_goes_66 ?_
        refine lv_aload_n hx hb dX7_goes_67 rfl (lv_at hl 2 rfl) ?_
        refine va_get (D := D) (ci := 7) (v := .ref (a 12)) (C := RX7) (T := TX7) (N := 20) hx hb hts iX7 hown hK.1 hP 0 rfl rfl 14 (by decide) f48 (fun _ h9 => h9) rfl dX7_goes_68 ?_
        refine lv_iload_n hx hb dX7_goes_71 rfl (lv_at hl 0 rfl) ?_
        refine n_lald (i := 1) hx hb hK hP 11 1 rfl htJ rfl (Nat.le_of_ble_eq_true rfl) (Nat.le_of_ble_eq_true rfl) dX7_goes_72 ?_
        refine n_zlast (i := (5 * t + 1)) (x := (gW 1)) hx hb hK hP hD hS 7 1 rfl htJ (by omega) (by omega) (Nat.le_of_ble_eq_true rfl) dX7_goes_73 (fun H locs hP hD hS => ?_)
        have hP : va_P D vwCl [(m0, oR (jI ((ms : Nat) : Int)) (jI ((es : Nat) : Int)) th a), ((a 1), .inl (cI, 42, .inl (fun i => vI (gM i)))), ((a 2), .inl (cI, 30, .inl (fun i => vI (gB i)))), ((a 3), .inl (cI, 6, .inl (fun i => jI ((gT i : Nat) : Int)))), ((a 5), .inl (cI, 6, .inl (fun i => jI ((gN i : Nat) : Int)))), ((a 6), .inl (cI, 1080, .inl (fun i => vI (gK i)))), ((a 7), .inl (cZ, 180, .inl (fun i => jI (iB (gD i))))), ((a 8), .inl (cJ, 105, .inr (.inl (fun i => vL ((va_up (va_up gH (5 * t + 0) (gW 0)) (5 * t + 1) (gW 1)) i))))), ((a 9), .inl (cJ, 105, .inr (.inl (fun i => vL (gU i))))), ((a 10), .inl (cJ, 90, .inr (.inl (fun i => vL (gF i))))), ((a 11), .inl (cZ, 30, .inl (fun i => jI (iB (gX i))))), ((a 12), .inl (cJ, 5, .inr (.inl (fun i => vL (gW i)))))] H := hP
        have hD : va_D A [(m0, oR (jI ((ms : Nat) : Int)) (jI ((es : Nat) : Int)) th a), ((a 1), .inl (cI, 42, .inl (fun i => vI (gM i)))), ((a 2), .inl (cI, 30, .inl (fun i => vI (gB i)))), ((a 3), .inl (cI, 6, .inl (fun i => jI ((gT i : Nat) : Int)))), ((a 5), .inl (cI, 6, .inl (fun i => jI ((gN i : Nat) : Int)))), ((a 6), .inl (cI, 1080, .inl (fun i => vI (gK i)))), ((a 7), .inl (cZ, 180, .inl (fun i => jI (iB (gD i))))), ((a 8), .inl (cJ, 105, .inr (.inl (fun i => vL ((va_up (va_up gH (5 * t + 0) (gW 0)) (5 * t + 1) (gW 1)) i))))), ((a 9), .inl (cJ, 105, .inr (.inl (fun i => vL (gU i))))), ((a 10), .inl (cJ, 90, .inr (.inl (fun i => vL (gF i))))), ((a 11), .inl (cZ, 30, .inl (fun i => jI (iB (gX i))))), ((a 12), .inl (cJ, 5, .inr (.inl (fun i => vL (gW i)))))] := hD
        refine lv_iinc (v := jI 2) (lv' := [(3, .int (jI 2)), (2, .int (jI ((t : Nat) : Int))), (0, .ref m0), (1, .int (jI ((ev : Nat) : Int)))]) hx hb dX7_goes_74 hl (k := 0) rfl (jI_add 1 1) (by decide) rfl (fun ls hl => ?_)
        refine lv_goto (tgt := 53) hx hb dX7_goes_77 (by decide) ?_
        refine lv_iload_n hx hb dX7_goes_53 rfl (lv_at hl 0 rfl) ?_
        refine n_iconst hx hb dX7_goes_54 ?_
        refine n_icmp_ge (tgt := 80) hx hb (by unfold r32; decide) (by unfold r32; decide) dX7_goes_55 (by decide) (fun h55 => False.elim (by revert h55; decide)) (fun h55 => ?_)
        refine lv_aload_n hx hb dX7_goes_58 rfl (lv_at hl 2 rfl) ?_
        refine va_get (D := D) (ci := 7) (v := .ref (a 8)) (C := RX7) (T := TX7) (N := 20) hx hb hts iX7 hown hK.1 hP 0 rfl rfl 10 (by decide) f35 (fun _ h9 => h9) rfl dX7_goes_59 ?_
        refine n_iconst hx hb dX7_goes_62 ?_
        refine lv_iload_n hx hb dX7_goes_63 rfl (lv_at hl 1 rfl) ?_
        refine n_imul hx hb dX7_goes_64 ?_
        refine lv_iload_n hx hb dX7_goes_65 rfl (lv_at hl 0 rfl) ?_
        refine n_iadd hx hb dX7_goes_66 ?_
        refine lv_aload_n hx hb dX7_goes_67 rfl (lv_at hl 2 rfl) ?_
        refine va_get (D := D) (ci := 7) (v := .ref (a 12)) (C := RX7) (T := TX7) (N := 20) hx hb hts iX7 hown hK.1 hP 0 rfl rfl 14 (by decide) f48 (fun _ h9 => h9) rfl dX7_goes_68 ?_
        refine lv_iload_n hx hb dX7_goes_71 rfl (lv_at hl 0 rfl) ?_
        refine n_lald (i := 2) hx hb hK hP 11 1 rfl htJ rfl (Nat.le_of_ble_eq_true rfl) (Nat.le_of_ble_eq_true rfl) dX7_goes_72 ?_
        refine n_zlast (i := (5 * t + 2)) (x := (gW 2)) hx hb hK hP hD hS 7 1 rfl htJ (by omega) (by omega) (Nat.le_of_ble_eq_true rfl) dX7_goes_73 (fun H locs hP hD hS => ?_)
        have hP : va_P D vwCl [(m0, oR (jI ((ms : Nat) : Int)) (jI ((es : Nat) : Int)) th a), ((a 1), .inl (cI, 42, .inl (fun i => vI (gM i)))), ((a 2), .inl (cI, 30, .inl (fun i => vI (gB i)))), ((a 3), .inl (cI, 6, .inl (fun i => jI ((gT i : Nat) : Int)))), ((a 5), .inl (cI, 6, .inl (fun i => jI ((gN i : Nat) : Int)))), ((a 6), .inl (cI, 1080, .inl (fun i => vI (gK i)))), ((a 7), .inl (cZ, 180, .inl (fun i => jI (iB (gD i))))), ((a 8), .inl (cJ, 105, .inr (.inl (fun i => vL ((va_up (va_up (va_up gH (5 * t + 0) (gW 0)) (5 * t + 1) (gW 1)) (5 * t + 2) (gW 2)) i))))), ((a 9), .inl (cJ, 105, .inr (.inl (fun i => vL (gU i))))), ((a 10), .inl (cJ, 90, .inr (.inl (fun i => vL (gF i))))), ((a 11), .inl (cZ, 30, .inl (fun i => jI (iB (gX i))))), ((a 12), .inl (cJ, 5, .inr (.inl (fun i => vL (gW i)))))] H := hP
        have hD : va_D A [(m0, oR (jI ((ms : Nat) : Int)) (jI ((es : Nat) : Int)) th a), ((a 1), .inl (cI, 42, .inl (fun i => vI (gM i)))), ((a 2), .inl (cI, 30, .inl (fun i => vI (gB i)))), ((a 3), .inl (cI, 6, .inl (fun i => jI ((gT i : Nat) : Int)))), ((a 5), .inl (cI, 6, .inl (fun i => jI ((gN i : Nat) : Int)))), ((a 6), .inl (cI, 1080, .inl (fun i => vI (gK i)))), ((a 7), .inl (cZ, 180, .inl (fun i => jI (iB (gD i))))), ((a 8), .inl (cJ, 105, .inr (.inl (fun i => vL ((va_up (va_up (va_up gH (5 * t + 0) (gW 0)) (5 * t + 1) (gW 1)) (5 * t + 2) (gW 2)) i))))), ((a 9), .inl (cJ, 105, .inr (.inl (fun i => vL (gU i))))), ((a 10), .inl (cJ, 90, .inr (.inl (fun i => vL (gF i))))), ((a 11), .inl (cZ, 30, .inl (fun i => jI (iB (gX i))))), ((a 12), .inl (cJ, 5, .inr (.inl (fun i => vL (gW i)))))] := hD
        refine lv_iinc (v := jI 3) (lv' := [(3, .int (jI 3)), (2, .int (jI ((t : Nat) : Int))), (0, .ref m0), (1, .int (jI ((ev : Nat) : Int)))]) hx hb dX7_goes_74 hl (k := 0) rfl (jI_add 2 1) (by decide) rfl (fun ls hl => ?_)
        refine lv_goto (tgt := 53) hx hb dX7_goes_77 (by decide) ?_
        refine lv_iload_n hx hb dX7_goes_53 rfl (lv_at hl 0 rfl) ?_
        refine n_iconst hx hb dX7_goes_54 ?_
        refine n_icmp_ge (tgt := 80) hx hb (by unfold r32; decide) (by unfold r32; decide) dX7_goes_55 (by decide) (fun h55 => False.elim (by revert h55; decide)) (fun h55 => ?_)
        refine lv_aload_n hx hb dX7_goes_58 rfl (lv_at hl 2 rfl) ?_
        refine va_get (D := D) (ci := 7) (v := .ref (a 8)) (C := RX7) (T := TX7) (N := 20) hx hb hts iX7 hown hK.1 hP 0 rfl rfl 10 (by decide) f35 (fun _ h9 => h9) rfl dX7_goes_59 ?_
        refine n_iconst hx hb dX7_goes_62 ?_
        refine lv_iload_n hx hb dX7_goes_63 rfl (lv_at hl 1 rfl) ?_
        refine n_imul hx hb dX7_goes_64 ?_
        refine lv_iload_n hx hb dX7_goes_65 rfl (lv_at hl 0 rfl) ?_
        refine n_iadd hx hb dX7_goes_66 ?_
        refine lv_aload_n hx hb dX7_goes_67 rfl (lv_at hl 2 rfl) ?_
        refine va_get (D := D) (ci := 7) (v := .ref (a 12)) (C := RX7) (T := TX7) (N := 20) hx hb hts iX7 hown hK.1 hP 0 rfl rfl 14 (by decide) f48 (fun _ h9 => h9) rfl dX7_goes_68 ?_
        refine lv_iload_n hx hb dX7_goes_71 rfl (lv_at hl 0 rfl) ?_
        refine n_lald (i := 3) hx hb hK hP 11 1 rfl htJ rfl (Nat.le_of_ble_eq_true rfl) (Nat.le_of_ble_eq_true rfl) dX7_goes_72 ?_
        refine n_zlast (i := (5 * t + 3)) (x := (gW 3)) hx hb hK hP hD hS 7 1 rfl htJ (by omega) (by omega) (Nat.le_of_ble_eq_true rfl) dX7_goes_73 (fun H locs hP hD hS => ?_)
        have hP : va_P D vwCl [(m0, oR (jI ((ms : Nat) : Int)) (jI ((es : Nat) : Int)) th a), ((a 1), .inl (cI, 42, .inl (fun i => vI (gM i)))), ((a 2), .inl (cI, 30, .inl (fun i => vI (gB i)))), ((a 3), .inl (cI, 6, .inl (fun i => jI ((gT i : Nat) : Int)))), ((a 5), .inl (cI, 6, .inl (fun i => jI ((gN i : Nat) : Int)))), ((a 6), .inl (cI, 1080, .inl (fun i => vI (gK i)))), ((a 7), .inl (cZ, 180, .inl (fun i => jI (iB (gD i))))), ((a 8), .inl (cJ, 105, .inr (.inl (fun i => vL ((va_up (va_up (va_up (va_up gH (5 * t + 0) (gW 0)) (5 * t + 1) (gW 1)) (5 * t + 2) (gW 2)) (5 * t + 3) (gW 3)) i))))), ((a 9), .inl (cJ, 105, .inr (.inl (fun i => vL (gU i))))), ((a 10), .inl (cJ, 90, .inr (.inl (fun i => vL (gF i))))), ((a 11), .inl (cZ, 30, .inl (fun i => jI (iB (gX i))))), ((a 12), .inl (cJ, 5, .inr (.inl (fun i => vL (gW i)))))] H := hP
        have hD : va_D A [(m0, oR (jI ((ms : Nat) : Int)) (jI ((es : Nat) : Int)) th a), ((a 1), .inl (cI, 42, .inl (fun i => vI (gM i)))), ((a 2), .inl (cI, 30, .inl (fun i => vI (gB i)))), ((a 3), .inl (cI, 6, .inl (fun i => jI ((gT i : Nat) : Int)))), ((a 5), .inl (cI, 6, .inl (fun i => jI ((gN i : Nat) : Int)))), ((a 6), .inl (cI, 1080, .inl (fun i => vI (gK i)))), ((a 7), .inl (cZ, 180, .inl (fun i => jI (iB (gD i))))), ((a 8), .inl (cJ, 105, .inr (.inl (fun i => vL ((va_up (va_up (va_up (va_up gH (5 * t + 0) (gW 0)) (5 * t + 1) (gW 1)) (5 * t + 2) (gW 2)) (5 * t + 3) (gW 3)) i))))), ((a 9), .inl (cJ, 105, .inr (.inl (fun i => vL (gU i))))), ((a 10), .inl (cJ, 90, .inr (.inl (fun i => vL (gF i))))), ((a 11), .inl (cZ, 30, .inl (fun i => jI (iB (gX i))))), ((a 12), .inl (cJ, 5, .inr (.inl (fun i => vL (gW i)))))] := hD
        refine lv_iinc (v := jI 4) (lv' := [(3, .int (jI 4)), (2, .int (jI ((t : Nat) : Int))), (0, .ref m0), (1, .int (jI ((ev : Nat) : Int)))]) hx hb dX7_goes_74 hl (k := 0) rfl (jI_add 3 1) (by decide) rfl (fun ls hl => ?_)
        refine lv_goto (tgt := 53) hx hb dX7_goes_77 (by decide) ?_
        refine lv_iload_n hx hb dX7_goes_53 rfl (lv_at hl 0 rfl) ?_
        refine n_iconst hx hb dX7_goes_54 ?_
        refine n_icmp_ge (tgt := 80) hx hb (by unfold r32; decide) (by unfold r32; decide) dX7_goes_55 (by decide) (fun h55 => False.elim (by revert h55; decide)) (fun h55 => ?_)
        refine lv_aload_n hx hb dX7_goes_58 rfl (lv_at hl 2 rfl) ?_
        refine va_get (D := D) (ci := 7) (v := .ref (a 8)) (C := RX7) (T := TX7) (N := 20) hx hb hts iX7 hown hK.1 hP 0 rfl rfl 10 (by decide) f35 (fun _ h9 => h9) rfl dX7_goes_59 ?_
        refine n_iconst hx hb dX7_goes_62 ?_
        refine lv_iload_n hx hb dX7_goes_63 rfl (lv_at hl 1 rfl) ?_
        refine n_imul hx hb dX7_goes_64 ?_
        refine lv_iload_n hx hb dX7_goes_65 rfl (lv_at hl 0 rfl) ?_
        refine n_iadd hx hb dX7_goes_66 ?_
        refine lv_aload_n hx hb dX7_goes_67 rfl (lv_at hl 2 rfl) ?_
        refine va_get (D := D) (ci := 7) (v := .ref (a 12)) (C := RX7) (T := TX7) (N := 20) hx hb hts iX7 hown hK.1 hP 0 rfl rfl 14 (by decide) f48 (fun _ h9 => h9) rfl dX7_goes_68 ?_
        refine lv_iload_n hx hb dX7_goes_71 rfl (lv_at hl 0 rfl) ?_
        refine n_lald (i := 4) hx hb hK hP 11 1 rfl htJ rfl (Nat.le_of_ble_eq_true rfl) (Nat.le_of_ble_eq_true rfl) dX7_goes_72 ?_
        refine n_zlast (i := (5 * t + 4)) (x := (gW 4)) hx hb hK hP hD hS 7 1 rfl htJ (by omega) (by omega) (Nat.le_of_ble_eq_true rfl) dX7_goes_73 (fun H locs hP hD hS => ?_)
        have hP : va_P D vwCl [(m0, oR (jI ((ms : Nat) : Int)) (jI ((es : Nat) : Int)) th a), ((a 1), .inl (cI, 42, .inl (fun i => vI (gM i)))), ((a 2), .inl (cI, 30, .inl (fun i => vI (gB i)))), ((a 3), .inl (cI, 6, .inl (fun i => jI ((gT i : Nat) : Int)))), ((a 5), .inl (cI, 6, .inl (fun i => jI ((gN i : Nat) : Int)))), ((a 6), .inl (cI, 1080, .inl (fun i => vI (gK i)))), ((a 7), .inl (cZ, 180, .inl (fun i => jI (iB (gD i))))), ((a 8), .inl (cJ, 105, .inr (.inl (fun i => vL ((va_up (va_up (va_up (va_up (va_up gH (5 * t + 0) (gW 0)) (5 * t + 1) (gW 1)) (5 * t + 2) (gW 2)) (5 * t + 3) (gW 3)) (5 * t + 4) (gW 4)) i))))), ((a 9), .inl (cJ, 105, .inr (.inl (fun i => vL (gU i))))), ((a 10), .inl (cJ, 90, .inr (.inl (fun i => vL (gF i))))), ((a 11), .inl (cZ, 30, .inl (fun i => jI (iB (gX i))))), ((a 12), .inl (cJ, 5, .inr (.inl (fun i => vL (gW i)))))] H := hP
        have hD : va_D A [(m0, oR (jI ((ms : Nat) : Int)) (jI ((es : Nat) : Int)) th a), ((a 1), .inl (cI, 42, .inl (fun i => vI (gM i)))), ((a 2), .inl (cI, 30, .inl (fun i => vI (gB i)))), ((a 3), .inl (cI, 6, .inl (fun i => jI ((gT i : Nat) : Int)))), ((a 5), .inl (cI, 6, .inl (fun i => jI ((gN i : Nat) : Int)))), ((a 6), .inl (cI, 1080, .inl (fun i => vI (gK i)))), ((a 7), .inl (cZ, 180, .inl (fun i => jI (iB (gD i))))), ((a 8), .inl (cJ, 105, .inr (.inl (fun i => vL ((va_up (va_up (va_up (va_up (va_up gH (5 * t + 0) (gW 0)) (5 * t + 1) (gW 1)) (5 * t + 2) (gW 2)) (5 * t + 3) (gW 3)) (5 * t + 4) (gW 4)) i))))), ((a 9), .inl (cJ, 105, .inr (.inl (fun i => vL (gU i))))), ((a 10), .inl (cJ, 90, .inr (.inl (fun i => vL (gF i))))), ((a 11), .inl (cZ, 30, .inl (fun i => jI (iB (gX i))))), ((a 12), .inl (cJ, 5, .inr (.inl (fun i => vL (gW i)))))] := hD
        refine lv_iinc (v := jI 5) (lv' := [(3, .int (jI 5)), (2, .int (jI ((t : Nat) : Int))), (0, .ref m0), (1, .int (jI ((ev : Nat) : Int)))]) hx hb dX7_goes_74 hl (k := 0) rfl (jI_add 4 1) (by decide) rfl (fun ls hl => ?_)
        refine lv_goto (tgt := 53) hx hb dX7_goes_77 (by decide) ?_
        refine lv_iload_n hx hb dX7_goes_53 rfl (lv_at hl 0 rfl) ?_
        refine n_iconst hx hb dX7_goes_54 ?_
        refine n_icmp_ge (tgt := 80) hx hb (by unfold r32; decide) (by unfold r32; decide) dX7_goes_55 (by decide) (fun h55 => ?_) (fun h55 => False.elim (by revert h55; decide))
        refine n_iconst hx hb dX7_goes_80 ?_
        refine lv_istore_n (lv' := [(3, .int (jI 0)), (2, .int (jI ((t : Nat) : Int))), (0, .ref m0), (1, .int (jI ((ev : Nat) : Int)))]) hx hb dX7_goes_81 rfl hl (by decide) rfl (fun ls hl => ?_)
        refine inner (gN ev + 1) 0 gF gX gW H locs ls (by omega) (by omega) (put5at gH t (s5 gW)) (hrowsp _) ?_ ?_ hout0 hP hD hS (lv_sub hl [0, 1, 2, 3] rfl)
        · rw [s5at_put, h0, hs0]; rfl
        · rw [s5at_put]; rfl
      · obtain ⟨u, hu1, hu2⟩ : ∃ u, t = u + 1 ∧ beh (fun i => gM (7 * ev + i)) (s5at gB ev) (fun k c => gK (6 * (30 * ev + k) + c)) (fun k => gD (30 * ev + k)) (gN ev) u = some (s5 gW) := by
          rcases hcur with ⟨h9, -⟩ | h9
          · exact absurd h9 h0
          · exact h9
        refine lv_iload_n hx hb dX7_goes_32 rfl (lv_at hl 0 rfl) ?_
        refine lv_aload_n hx hb dX7_goes_33 rfl (lv_at hl 1 rfl) ?_
        refine va_get (D := D) (ci := 7) (v := .ref (a 3)) (C := RX7) (T := TX7) (N := 20) hx hb hts iX7 hown hK.1 hP 0 rfl rfl 5 (by decide) f19 (fun _ h9 => h9) rfl dX7_goes_34 ?_
        refine lv_iload_n hx hb dX7_goes_37 rfl (lv_at hl 2 rfl) ?_
        refine n_iald (i := ev) hx hb hK hP 3 0 rfl htI (by omega) (by omega) (Nat.le_of_ble_eq_true rfl) dX7_goes_38 ?_
        refine n_icmp_gt (tgt := 188) hx hb (by unfold r32; omega) (by unfold r32; omega) dX7_goes_39 (by decide) (fun h39 => False.elim (by omega)) (fun h39 => ?_)
        refine lv_iload_n hx hb dX7_goes_42 rfl (lv_at hl 0 rfl) ?_
        refine n_if_le (tgt := 51) hx hb (by unfold r32; omega) dX7_goes_43 (by decide) (fun h43 => False.elim (by omega)) (fun h43 => ?_)
        refine lv_aload_n hx hb dX7_goes_46 rfl (lv_at hl 1 rfl) ?_
        refine lv_iload_n hx hb dX7_goes_47 rfl (lv_at hl 2 rfl) ?_
        have ct48 := c_X7_predicts l D tys htI htJ htZ m0 a ms es th gM gW ev q1
        refine k_goV (va_runV (As := [.int (jI ((ev : Nat) : Int))]) (rest := []) ⟨hx, hb, hml, hown, hts⟩ (ct48.2 _) (cwV 1 hts gX7_goes_X7_predicts rfl rfl rfl (by decide +kernel) ⟨Nat.le_of_ble_eq_true rfl, Nat.le_of_ble_eq_true rfl⟩) ⟨(k_pre hK hP hD (is := [0, 1, 11]) rfl rfl).1, va_recv hK.1 hP (ci := 7) (q0 := 0) rfl rfl, (k_pre hK hP hD (is := [0, 1, 11]) rfl rfl).2⟩ rfl rfl hl.1 rfl (lv_room (Nat.le_of_ble_eq_true rfl)) dX7_goes_48 ⟨Nat.le_of_ble_eq_true rfl, Nat.le_of_ble_eq_true rfl⟩) ct48.1 hP hD hS hA [0, 1, 11] rfl rfl (fun H locs hP hD hS => ?_)
        have hP : va_P D vwCl [(m0, oR (jI ((ms : Nat) : Int)) (jI ((es : Nat) : Int)) th a), ((a 1), .inl (cI, 42, .inl (fun i => vI (gM i)))), ((a 2), .inl (cI, 30, .inl (fun i => vI (gB i)))), ((a 3), .inl (cI, 6, .inl (fun i => jI ((gT i : Nat) : Int)))), ((a 5), .inl (cI, 6, .inl (fun i => jI ((gN i : Nat) : Int)))), ((a 6), .inl (cI, 1080, .inl (fun i => vI (gK i)))), ((a 7), .inl (cZ, 180, .inl (fun i => jI (iB (gD i))))), ((a 8), .inl (cJ, 105, .inr (.inl (fun i => vL (gH i))))), ((a 9), .inl (cJ, 105, .inr (.inl (fun i => vL (gU i))))), ((a 10), .inl (cJ, 90, .inr (.inl (fun i => vL (gF i))))), ((a 11), .inl (cZ, 30, .inl (fun i => jI (iB (gX i))))), ((a 12), .inl (cJ, 5, .inr (.inl (fun i => vL ((put5 gW (prd (fun i => gM (7 * ev + i)) (s5 gW))) i)))))] H := hP
        have hD : va_D A [(m0, oR (jI ((ms : Nat) : Int)) (jI ((es : Nat) : Int)) th a), ((a 1), .inl (cI, 42, .inl (fun i => vI (gM i)))), ((a 2), .inl (cI, 30, .inl (fun i => vI (gB i)))), ((a 3), .inl (cI, 6, .inl (fun i => jI ((gT i : Nat) : Int)))), ((a 5), .inl (cI, 6, .inl (fun i => jI ((gN i : Nat) : Int)))), ((a 6), .inl (cI, 1080, .inl (fun i => vI (gK i)))), ((a 7), .inl (cZ, 180, .inl (fun i => jI (iB (gD i))))), ((a 8), .inl (cJ, 105, .inr (.inl (fun i => vL (gH i))))), ((a 9), .inl (cJ, 105, .inr (.inl (fun i => vL (gU i))))), ((a 10), .inl (cJ, 90, .inr (.inl (fun i => vL (gF i))))), ((a 11), .inl (cZ, 30, .inl (fun i => jI (iB (gX i))))), ((a 12), .inl (cJ, 5, .inr (.inl (fun i => vL ((put5 gW (prd (fun i => gM (7 * ev + i)) (s5 gW))) i)))))] := hD
        refine n_iconst hx hb dX7_goes_51 ?_
        refine lv_istore_n (lv' := [(3, .int (jI 0)), (2, .int (jI ((t : Nat) : Int))), (0, .ref m0), (1, .int (jI ((ev : Nat) : Int)))]) hx hb dX7_goes_52 rfl hl (by decide) rfl (fun ls hl => ?_)
        refine lv_iload_n hx hb dX7_goes_53 rfl (lv_at hl 0 rfl) ?_
        refine n_iconst hx hb dX7_goes_54 ?_
        refine n_icmp_ge (tgt := 80) hx hb (by unfold r32; decide) (by unfold r32; decide) dX7_goes_55 (by decide) (fun h55 => False.elim (by revert h55; decide)) (fun h55 => ?_)
        refine lv_aload_n hx hb dX7_goes_58 rfl (lv_at hl 2 rfl) ?_
        refine va_get (D := D) (ci := 7) (v := .ref (a 8)) (C := RX7) (T := TX7) (N := 20) hx hb hts iX7 hown hK.1 hP 0 rfl rfl 10 (by decide) f35 (fun _ h9 => h9) rfl dX7_goes_59 ?_
        refine n_iconst hx hb dX7_goes_62 ?_
        refine lv_iload_n hx hb dX7_goes_63 rfl (lv_at hl 1 rfl) ?_
        refine n_imul hx hb dX7_goes_64 ?_
        refine lv_iload_n hx hb dX7_goes_65 rfl (lv_at hl 0 rfl) ?_
        refine n_iadd hx hb dX7_goes_66 ?_
        refine lv_aload_n hx hb dX7_goes_67 rfl (lv_at hl 2 rfl) ?_
        refine va_get (D := D) (ci := 7) (v := .ref (a 12)) (C := RX7) (T := TX7) (N := 20) hx hb hts iX7 hown hK.1 hP 0 rfl rfl 14 (by decide) f48 (fun _ h9 => h9) rfl dX7_goes_68 ?_
        refine lv_iload_n hx hb dX7_goes_71 rfl (lv_at hl 0 rfl) ?_
        refine n_lald (i := 0) hx hb hK hP 11 1 rfl htJ rfl (Nat.le_of_ble_eq_true rfl) (Nat.le_of_ble_eq_true rfl) dX7_goes_72 ?_
        refine n_zlast (i := (5 * t + 0)) (x := ((put5 gW (prd (fun i => gM (7 * ev + i)) (s5 gW))) 0)) hx hb hK hP hD hS 7 1 rfl htJ (by omega) (by omega) (Nat.le_of_ble_eq_true rfl) dX7_goes_73 (fun H locs hP hD hS => ?_)
        have hP : va_P D vwCl [(m0, oR (jI ((ms : Nat) : Int)) (jI ((es : Nat) : Int)) th a), ((a 1), .inl (cI, 42, .inl (fun i => vI (gM i)))), ((a 2), .inl (cI, 30, .inl (fun i => vI (gB i)))), ((a 3), .inl (cI, 6, .inl (fun i => jI ((gT i : Nat) : Int)))), ((a 5), .inl (cI, 6, .inl (fun i => jI ((gN i : Nat) : Int)))), ((a 6), .inl (cI, 1080, .inl (fun i => vI (gK i)))), ((a 7), .inl (cZ, 180, .inl (fun i => jI (iB (gD i))))), ((a 8), .inl (cJ, 105, .inr (.inl (fun i => vL ((va_up gH (5 * t + 0) ((put5 gW (prd (fun i => gM (7 * ev + i)) (s5 gW))) 0)) i))))), ((a 9), .inl (cJ, 105, .inr (.inl (fun i => vL (gU i))))), ((a 10), .inl (cJ, 90, .inr (.inl (fun i => vL (gF i))))), ((a 11), .inl (cZ, 30, .inl (fun i => jI (iB (gX i))))), ((a 12), .inl (cJ, 5, .inr (.inl (fun i => vL ((put5 gW (prd (fun i => gM (7 * ev + i)) (s5 gW))) i)))))] H := hP
        have hD : va_D A [(m0, oR (jI ((ms : Nat) : Int)) (jI ((es : Nat) : Int)) th a), ((a 1), .inl (cI, 42, .inl (fun i => vI (gM i)))), ((a 2), .inl (cI, 30, .inl (fun i => vI (gB i)))), ((a 3), .inl (cI, 6, .inl (fun i => jI ((gT i : Nat) : Int)))), ((a 5), .inl (cI, 6, .inl (fun i => jI ((gN i : Nat) : Int)))), ((a 6), .inl (cI, 1080, .inl (fun i => vI (gK i)))), ((a 7), .inl (cZ, 180, .inl (fun i => jI (iB (gD i))))), ((a 8), .inl (cJ, 105, .inr (.inl (fun i => vL ((va_up gH (5 * t + 0) ((put5 gW (prd (fun i => gM (7 * ev + i)) (s5 gW))) 0)) i))))), ((a 9), .inl (cJ, 105, .inr (.inl (fun i => vL (gU i))))), ((a 10), .inl (cJ, 90, .inr (.inl (fun i => vL (gF i))))), ((a 11), .inl (cZ, 30, .inl (fun i => jI (iB (gX i))))), ((a 12), .inl (cJ, 5, .inr (.inl (fun i => vL ((put5 gW (prd (fun i => gM (7 * ev + i)) (s5 gW))) i)))))] := hD
        refine lv_iinc (v := jI 1) (lv' := [(3, .int (jI 1)), (2, .int (jI ((t : Nat) : Int))), (0, .ref m0), (1, .int (jI ((ev : Nat) : Int)))]) hx hb dX7_goes_74 hl (k := 0) rfl (jI_add 0 1) (by decide) rfl (fun ls hl => ?_)
        refine lv_goto (tgt := 53) hx hb dX7_goes_77 (by decide) ?_
        refine lv_iload_n hx hb dX7_goes_53 rfl (lv_at hl 0 rfl) ?_
        refine n_iconst hx hb dX7_goes_54 ?_
        refine n_icmp_ge (tgt := 80) hx hb (by unfold r32; decide) (by unfold r32; decide) dX7_goes_55 (by decide) (fun h55 => False.elim (by revert h55; decide)) (fun h55 => ?_)
        refine lv_aload_n hx hb dX7_goes_58 rfl (lv_at hl 2 rfl) ?_
        refine va_get (D := D) (ci := 7) (v := .ref (a 8)) (C := RX7) (T := TX7) (N := 20) hx hb hts iX7 hown hK.1 hP 0 rfl rfl 10 (by decide) f35 (fun _ h9 => h9) rfl dX7_goes_59 ?_
        refine n_iconst hx hb dX7_goes_62 ?_
        refine lv_iload_n hx hb dX7_goes_63 rfl (lv_at hl 1 rfl) ?_
        refine n_imul hx hb dX7_goes_64 ?_
        refine lv_iload_n hx hb dX7_goes_65 rfl (lv_at hl 0 rfl) ?_
        refine n_iadd hx hb dX7_goes_66 ?_
        refine lv_aload_n hx hb dX7_goes_67 rfl (lv_at hl 2 rfl) ?_
        refine va_get (D := D) (ci := 7) (v := .ref (a 12)) (C := RX7) (T := TX7) (N := 20) hx hb hts iX7 hown hK.1 hP 0 rfl rfl 14 (by decide) f48 (fun _ h9 => h9) rfl dX7_goes_68 ?_
        refine lv_iload_n hx hb dX7_goes_71 rfl (lv_at hl 0 rfl) ?_
        refine n_lald (i := 1) hx hb hK hP 11 1 rfl htJ rfl (Nat.le_of_ble_eq_true rfl) (Nat.le_of_ble_eq_true rfl) dX7_goes_72 ?_
        refine n_zlast (i := (5 * t + 1)) (x := ((put5 gW (prd (fun i => gM (7 * ev + i)) (s5 gW))) 1)) hx hb hK hP hD hS 7 1 rfl htJ (by omega) (by omega) (Nat.le_of_ble_eq_true rfl) dX7_goes_73 (fun H locs hP hD hS => ?_)
        have hP : va_P D vwCl [(m0, oR (jI ((ms : Nat) : Int)) (jI ((es : Nat) : Int)) th a), ((a 1), .inl (cI, 42, .inl (fun i => vI (gM i)))), ((a 2), .inl (cI, 30, .inl (fun i => vI (gB i)))), ((a 3), .inl (cI, 6, .inl (fun i => jI ((gT i : Nat) : Int)))), ((a 5), .inl (cI, 6, .inl (fun i => jI ((gN i : Nat) : Int)))), ((a 6), .inl (cI, 1080, .inl (fun i => vI (gK i)))), ((a 7), .inl (cZ, 180, .inl (fun i => jI (iB (gD i))))), ((a 8), .inl (cJ, 105, .inr (.inl (fun i => vL ((va_up (va_up gH (5 * t + 0) ((put5 gW (prd (fun i => gM (7 * ev + i)) (s5 gW))) 0)) (5 * t + 1) ((put5 gW (prd (fun i => gM (7 * ev + i)) (s5 gW))) 1)) i))))), ((a 9), .inl (cJ, 105, .inr (.inl (fun i => vL (gU i))))), ((a 10), .inl (cJ, 90, .inr (.inl (fun i => vL (gF i))))), ((a 11), .inl (cZ, 30, .inl (fun i => jI (iB (gX i))))), ((a 12), .inl (cJ, 5, .inr (.inl (fun i => vL ((put5 gW (prd (fun i => gM (7 * ev + i)) (s5 gW))) i)))))] H := hP
        have hD : va_D A [(m0, oR (jI ((ms : Nat) : Int)) (jI ((es : Nat) : Int)) th a), ((a 1), .inl (cI, 42, .inl (fun i => vI (gM i)))), ((a 2), .inl (cI, 30, .inl (fun i => vI (gB i)))), ((a 3), .inl (cI, 6, .inl (fun i => jI ((gT i : Nat) : Int)))), ((a 5), .inl (cI, 6, .inl (fun i => jI ((gN i : Nat) : Int)))), ((a 6), .inl (cI, 1080, .inl (fun i => vI (gK i)))), ((a 7), .inl (cZ, 180, .inl (fun i => jI (iB (gD i))))), ((a 8), .inl (cJ, 105, .inr (.inl (fun i => vL ((va_up (va_up gH (5 * t + 0) ((put5 gW (prd (fun i => gM (7 * ev + i)) (s5 gW))) 0)) (5 * t + 1) ((put5 gW (prd (fun i => gM (7 * ev + i)) (s5 gW))) 1)) i))))), ((a 9), .inl (cJ, 105, .inr (.inl (fun i => vL (gU i))))), ((a 10), .inl (cJ, 90, .inr (.inl (fun i => vL (gF i))))), ((a 11), .inl (cZ, 30, .inl (fun i => jI (iB (gX i))))), ((a 12), .inl (cJ, 5, .inr (.inl (fun i => vL ((put5 gW (prd (fun i => gM (7 * ev + i)) (s5 gW))) i)))))] := hD
        refine lv_iinc (v := jI 2) (lv' := [(3, .int (jI 2)), (2, .int (jI ((t : Nat) : Int))), (0, .ref m0), (1, .int (jI ((ev : Nat) : Int)))]) hx hb dX7_goes_74 hl (k := 0) rfl (jI_add 1 1) (by decide) rfl (fun ls hl => ?_)
        refine lv_goto (tgt := 53) hx hb dX7_goes_77 (by decide) ?_
        refine lv_iload_n hx hb dX7_goes_53 rfl (lv_at hl 0 rfl) ?_
        refine n_iconst hx hb dX7_goes_54 ?_
        refine n_icmp_ge (tgt := 80) hx hb (by unfold r32; decide) (by unfold r32; decide) dX7_goes_55 (by decide) (fun h55 => False.elim (by revert h55; decide)) (fun h55 => ?_)
        refine lv_aload_n hx hb dX7_goes_58 rfl (lv_at hl 2 rfl) ?_
        refine va_get (D := D) (ci := 7) (v := .ref (a 8)) (C := RX7) (T := TX7) (N := 20) hx hb hts iX7 hown hK.1 hP 0 rfl rfl 10 (by decide) f35 (fun _ h9 => h9) rfl dX7_goes_59 ?_
        refine n_iconst hx hb dX7_goes_62 ?_
        refine lv_iload_n hx hb dX7_goes_63 rfl (lv_at hl 1 rfl) ?_
        refine n_imul hx hb dX7_goes_64 ?_
        refine lv_iload_n hx hb dX7_goes_65 rfl (lv_at hl 0 rfl) ?_
        refine n_iadd hx hb dX7_goes_66 ?_
        refine lv_aload_n hx hb dX7_goes_67 rfl (lv_at hl 2 rfl) ?_
        refine va_get (D := D) (ci := 7) (v := .ref (a 12)) (C := RX7) (T := TX7) (N := 20) hx hb hts iX7 hown hK.1 hP 0 rfl rfl 14 (by decide) f48 (fun _ h9 => h9) rfl dX7_goes_68 ?_
        refine lv_iload_n hx hb dX7_goes_71 rfl (lv_at hl 0 rfl) ?_
        refine n_lald (i := 2) hx hb hK hP 11 1 rfl htJ rfl (Nat.le_of_ble_eq_true rfl) (Nat.le_of_ble_eq_true rfl) dX7_goes_72 ?_
        refine n_zlast (i := (5 * t + 2)) (x := ((put5 gW (prd (fun i => gM (7 * ev + i)) (s5 gW))) 2)) hx hb hK hP hD hS 7 1 rfl htJ (by omega) (by omega) (Nat.le_of_ble_eq_true rfl) dX7_goes_73 (fun H locs hP hD hS => ?_)
        have hP : va_P D vwCl [(m0, oR (jI ((ms : Nat) : Int)) (jI ((es : Nat) : Int)) th a), ((a 1), .inl (cI, 42, .inl (fun i => vI (gM i)))), ((a 2), .inl (cI, 30, .inl (fun i => vI (gB i)))), ((a 3), .inl (cI, 6, .inl (fun i => jI ((gT i : Nat) : Int)))), ((a 5), .inl (cI, 6, .inl (fun i => jI ((gN i : Nat) : Int)))), ((a 6), .inl (cI, 1080, .inl (fun i => vI (gK i)))), ((a 7), .inl (cZ, 180, .inl (fun i => jI (iB (gD i))))), ((a 8), .inl (cJ, 105, .inr (.inl (fun i => vL ((va_up (va_up (va_up gH (5 * t + 0) ((put5 gW (prd (fun i => gM (7 * ev + i)) (s5 gW))) 0)) (5 * t + 1) ((put5 gW (prd (fun i => gM (7 * ev + i)) (s5 gW))) 1)) (5 * t + 2) ((put5 gW (prd (fun i => gM (7 * ev + i)) (s5 gW))) 2)) i))))), ((a 9), .inl (cJ, 105, .inr (.inl (fun i => vL (gU i))))), ((a 10), .inl (cJ, 90, .inr (.inl (fun i => vL (gF i))))), ((a 11), .inl (cZ, 30, .inl (fun i => jI (iB (gX i))))), ((a 12), .inl (cJ, 5, .inr (.inl (fun i => vL ((put5 gW (prd (fun i => gM (7 * ev + i)) (s5 gW))) i)))))] H := hP
        have hD : va_D A [(m0, oR (jI ((ms : Nat) : Int)) (jI ((es : Nat) : Int)) th a), ((a 1), .inl (cI, 42, .inl (fun i => vI (gM i)))), ((a 2), .inl (cI, 30, .inl (fun i => vI (gB i)))), ((a 3), .inl (cI, 6, .inl (fun i => jI ((gT i : Nat) : Int)))), ((a 5), .inl (cI, 6, .inl (fun i => jI ((gN i : Nat) : Int)))), ((a 6), .inl (cI, 1080, .inl (fun i => vI (gK i)))), ((a 7), .inl (cZ, 180, .inl (fun i => jI (iB (gD i))))), ((a 8), .inl (cJ, 105, .inr (.inl (fun i => vL ((va_up (va_up (va_up gH (5 * t + 0) ((put5 gW (prd (fun i => gM (7 * ev + i)) (s5 gW))) 0)) (5 * t + 1) ((put5 gW (prd (fun i => gM (7 * ev + i)) (s5 gW))) 1)) (5 * t + 2) ((put5 gW (prd (fun i => gM (7 * ev + i)) (s5 gW))) 2)) i))))), ((a 9), .inl (cJ, 105, .inr (.inl (fun i => vL (gU i))))), ((a 10), .inl (cJ, 90, .inr (.inl (fun i => vL (gF i))))), ((a 11), .inl (cZ, 30, .inl (fun i => jI (iB (gX i))))), ((a 12), .inl (cJ, 5, .inr (.inl (fun i => vL ((put5 gW (prd (fun i => gM (7 * ev + i)) (s5 gW))) i)))))] := hD
        refine lv_iinc (v := jI 3) (lv' := [(3, .int (jI 3)), (2, .int (jI ((t : Nat) : Int))), (0, .ref m0), (1, .int (jI ((ev : Nat) : Int)))]) hx hb dX7_goes_74 hl (k := 0) rfl (jI_add 2 1) (by decide) rfl (fun ls hl => ?_)
        refine lv_goto (tgt := 53) hx hb dX7_goes_77 (by decide) ?_
        refine lv_iload_n hx hb dX7_goes_53 rfl (lv_at hl 0 rfl) ?_
        refine n_iconst hx hb dX7_goes_54 ?_
        refine n_icmp_ge (tgt := 80) hx hb (by unfold r32; decide) (by unfold r32; decide) dX7_goes_55 (by decide) (fun h55 => False.elim (by revert h55; decide)) (fun h55 => ?_)
        refine lv_aload_n hx hb dX7_goes_58 rfl (lv_at hl 2 rfl) ?_
        refine va_get (D := D) (ci := 7) (v := .ref (a 8)) (C := RX7) (T := TX7) (N := 20) hx hb hts iX7 hown hK.1 hP 0 rfl rfl 10 (by decide) f35 (fun _ h9 => h9) rfl dX7_goes_59 ?_
        refine n_iconst hx hb dX7_goes_62 ?_
        refine lv_iload_n hx hb dX7_goes_63 rfl (lv_at hl 1 rfl) ?_
        refine n_imul hx hb dX7_goes_64 ?_
        refine lv_iload_n hx hb dX7_goes_65 rfl (lv_at hl 0 rfl) ?_
        refine n_iadd hx hb dX7_goes_66 ?_
        refine lv_aload_n hx hb dX7_goes_67 rfl (lv_at hl 2 rfl) ?_
        refine va_get (D := D) (ci := 7) (v := .ref (a 12)) (C := RX7) (T := TX7) (N := 20) hx hb hts iX7 hown hK.1 hP 0 rfl rfl 14 (by decide) f48 (fun _ h9 => h9) rfl dX7_goes_68 ?_
        refine lv_iload_n hx hb dX7_goes_71 rfl (lv_at hl 0 rfl) ?_
        refine n_lald (i := 3) hx hb hK hP 11 1 rfl htJ rfl (Nat.le_of_ble_eq_true rfl) (Nat.le_of_ble_eq_true rfl) dX7_goes_72 ?_
        refine n_zlast (i := (5 * t + 3)) (x := ((put5 gW (prd (fun i => gM (7 * ev + i)) (s5 gW))) 3)) hx hb hK hP hD hS 7 1 rfl htJ (by omega) (by omega) (Nat.le_of_ble_eq_true rfl) dX7_goes_73 (fun H locs hP hD hS => ?_)
        have hP : va_P D vwCl [(m0, oR (jI ((ms : Nat) : Int)) (jI ((es : Nat) : Int)) th a), ((a 1), .inl (cI, 42, .inl (fun i => vI (gM i)))), ((a 2), .inl (cI, 30, .inl (fun i => vI (gB i)))), ((a 3), .inl (cI, 6, .inl (fun i => jI ((gT i : Nat) : Int)))), ((a 5), .inl (cI, 6, .inl (fun i => jI ((gN i : Nat) : Int)))), ((a 6), .inl (cI, 1080, .inl (fun i => vI (gK i)))), ((a 7), .inl (cZ, 180, .inl (fun i => jI (iB (gD i))))), ((a 8), .inl (cJ, 105, .inr (.inl (fun i => vL ((va_up (va_up (va_up (va_up gH (5 * t + 0) ((put5 gW (prd (fun i => gM (7 * ev + i)) (s5 gW))) 0)) (5 * t + 1) ((put5 gW (prd (fun i => gM (7 * ev + i)) (s5 gW))) 1)) (5 * t + 2) ((put5 gW (prd (fun i => gM (7 * ev + i)) (s5 gW))) 2)) (5 * t + 3) ((put5 gW (prd (fun i => gM (7 * ev + i)) (s5 gW))) 3)) i))))), ((a 9), .inl (cJ, 105, .inr (.inl (fun i => vL (gU i))))), ((a 10), .inl (cJ, 90, .inr (.inl (fun i => vL (gF i))))), ((a 11), .inl (cZ, 30, .inl (fun i => jI (iB (gX i))))), ((a 12), .inl (cJ, 5, .inr (.inl (fun i => vL ((put5 gW (prd (fun i => gM (7 * ev + i)) (s5 gW))) i)))))] H := hP
        have hD : va_D A [(m0, oR (jI ((ms : Nat) : Int)) (jI ((es : Nat) : Int)) th a), ((a 1), .inl (cI, 42, .inl (fun i => vI (gM i)))), ((a 2), .inl (cI, 30, .inl (fun i => vI (gB i)))), ((a 3), .inl (cI, 6, .inl (fun i => jI ((gT i : Nat) : Int)))), ((a 5), .inl (cI, 6, .inl (fun i => jI ((gN i : Nat) : Int)))), ((a 6), .inl (cI, 1080, .inl (fun i => vI (gK i)))), ((a 7), .inl (cZ, 180, .inl (fun i => jI (iB (gD i))))), ((a 8), .inl (cJ, 105, .inr (.inl (fun i => vL ((va_up (va_up (va_up (va_up gH (5 * t + 0) ((put5 gW (prd (fun i => gM (7 * ev + i)) (s5 gW))) 0)) (5 * t + 1) ((put5 gW (prd (fun i => gM (7 * ev + i)) (s5 gW))) 1)) (5 * t + 2) ((put5 gW (prd (fun i => gM (7 * ev + i)) (s5 gW))) 2)) (5 * t + 3) ((put5 gW (prd (fun i => gM (7 * ev + i)) (s5 gW))) 3)) i))))), ((a 9), .inl (cJ, 105, .inr (.inl (fun i => vL (gU i))))), ((a 10), .inl (cJ, 90, .inr (.inl (fun i => vL (gF i))))), ((a 11), .inl (cZ, 30, .inl (fun i => jI (iB (gX i))))), ((a 12), .inl (cJ, 5, .inr (.inl (fun i => vL ((put5 gW (prd (fun i => gM (7 * ev + i)) (s5 gW))) i)))))] := hD
        refine lv_iinc (v := jI 4) (lv' := [(3, .int (jI 4)), (2, .int (jI ((t : Nat) : Int))), (0, .ref m0), (1, .int (jI ((ev : Nat) : Int)))]) hx hb dX7_goes_74 hl (k := 0) rfl (jI_add 3 1) (by decide) rfl (fun ls hl => ?_)
        refine lv_goto (tgt := 53) hx hb dX7_goes_77 (by decide) ?_
        refine lv_iload_n hx hb dX7_goes_53 rfl (lv_at hl 0 rfl) ?_
        refine n_iconst hx hb dX7_goes_54 ?_
        refine n_icmp_ge (tgt := 80) hx hb (by unfold r32; decide) (by unfold r32; decide) dX7_goes_55 (by decide) (fun h55 => False.elim (by revert h55; decide)) (fun h55 => ?_)
        refine lv_aload_n hx hb dX7_goes_58 rfl (lv_at hl 2 rfl) ?_
        refine va_get (D := D) (ci := 7) (v := .ref (a 8)) (C := RX7) (T := TX7) (N := 20) hx hb hts iX7 hown hK.1 hP 0 rfl rfl 10 (by decide) f35 (fun _ h9 => h9) rfl dX7_goes_59 ?_
        refine n_iconst hx hb dX7_goes_62 ?_
        refine lv_iload_n hx hb dX7_goes_63 rfl (lv_at hl 1 rfl) ?_
        refine n_imul hx hb dX7_goes_64 ?_
        refine lv_iload_n hx hb dX7_goes_65 rfl (lv_at hl 0 rfl) ?_
        refine n_iadd hx hb dX7_goes_66 ?_
        refine lv_aload_n hx hb dX7_goes_67 rfl (lv_at hl 2 rfl) ?_
        refine va_get (D := D) (ci := 7) (v := .ref (a 12)) (C := RX7) (T := TX7) (N := 20) hx hb hts iX7 hown hK.1 hP 0 rfl rfl 14 (by decide) f48 (fun _ h9 => h9) rfl dX7_goes_68 ?_
        refine lv_iload_n hx hb dX7_goes_71 rfl (lv_at hl 0 rfl) ?_
        refine n_lald (i := 4) hx hb hK hP 11 1 rfl htJ rfl (Nat.le_of_ble_eq_true rfl) (Nat.le_of_ble_eq_true rfl) dX7_goes_72 ?_
        refine n_zlast (i := (5 * t + 4)) (x := ((put5 gW (prd (fun i => gM (7 * ev + i)) (s5 gW))) 4)) hx hb hK hP hD hS 7 1 rfl htJ (by omega) (by omega) (Nat.le_of_ble_eq_true rfl) dX7_goes_73 (fun H locs hP hD hS => ?_)
        have hP : va_P D vwCl [(m0, oR (jI ((ms : Nat) : Int)) (jI ((es : Nat) : Int)) th a), ((a 1), .inl (cI, 42, .inl (fun i => vI (gM i)))), ((a 2), .inl (cI, 30, .inl (fun i => vI (gB i)))), ((a 3), .inl (cI, 6, .inl (fun i => jI ((gT i : Nat) : Int)))), ((a 5), .inl (cI, 6, .inl (fun i => jI ((gN i : Nat) : Int)))), ((a 6), .inl (cI, 1080, .inl (fun i => vI (gK i)))), ((a 7), .inl (cZ, 180, .inl (fun i => jI (iB (gD i))))), ((a 8), .inl (cJ, 105, .inr (.inl (fun i => vL ((va_up (va_up (va_up (va_up (va_up gH (5 * t + 0) ((put5 gW (prd (fun i => gM (7 * ev + i)) (s5 gW))) 0)) (5 * t + 1) ((put5 gW (prd (fun i => gM (7 * ev + i)) (s5 gW))) 1)) (5 * t + 2) ((put5 gW (prd (fun i => gM (7 * ev + i)) (s5 gW))) 2)) (5 * t + 3) ((put5 gW (prd (fun i => gM (7 * ev + i)) (s5 gW))) 3)) (5 * t + 4) ((put5 gW (prd (fun i => gM (7 * ev + i)) (s5 gW))) 4)) i))))), ((a 9), .inl (cJ, 105, .inr (.inl (fun i => vL (gU i))))), ((a 10), .inl (cJ, 90, .inr (.inl (fun i => vL (gF i))))), ((a 11), .inl (cZ, 30, .inl (fun i => jI (iB (gX i))))), ((a 12), .inl (cJ, 5, .inr (.inl (fun i => vL ((put5 gW (prd (fun i => gM (7 * ev + i)) (s5 gW))) i)))))] H := hP
        have hD : va_D A [(m0, oR (jI ((ms : Nat) : Int)) (jI ((es : Nat) : Int)) th a), ((a 1), .inl (cI, 42, .inl (fun i => vI (gM i)))), ((a 2), .inl (cI, 30, .inl (fun i => vI (gB i)))), ((a 3), .inl (cI, 6, .inl (fun i => jI ((gT i : Nat) : Int)))), ((a 5), .inl (cI, 6, .inl (fun i => jI ((gN i : Nat) : Int)))), ((a 6), .inl (cI, 1080, .inl (fun i => vI (gK i)))), ((a 7), .inl (cZ, 180, .inl (fun i => jI (iB (gD i))))), ((a 8), .inl (cJ, 105, .inr (.inl (fun i => vL ((va_up (va_up (va_up (va_up (va_up gH (5 * t + 0) ((put5 gW (prd (fun i => gM (7 * ev + i)) (s5 gW))) 0)) (5 * t + 1) ((put5 gW (prd (fun i => gM (7 * ev + i)) (s5 gW))) 1)) (5 * t + 2) ((put5 gW (prd (fun i => gM (7 * ev + i)) (s5 gW))) 2)) (5 * t + 3) ((put5 gW (prd (fun i => gM (7 * ev + i)) (s5 gW))) 3)) (5 * t + 4) ((put5 gW (prd (fun i => gM (7 * ev + i)) (s5 gW))) 4)) i))))), ((a 9), .inl (cJ, 105, .inr (.inl (fun i => vL (gU i))))), ((a 10), .inl (cJ, 90, .inr (.inl (fun i => vL (gF i))))), ((a 11), .inl (cZ, 30, .inl (fun i => jI (iB (gX i))))), ((a 12), .inl (cJ, 5, .inr (.inl (fun i => vL ((put5 gW (prd (fun i => gM (7 * ev + i)) (s5 gW))) i)))))] := hD
        refine lv_iinc (v := jI 5) (lv' := [(3, .int (jI 5)), (2, .int (jI ((t : Nat) : Int))), (0, .ref m0), (1, .int (jI ((ev : Nat) : Int)))]) hx hb dX7_goes_74 hl (k := 0) rfl (jI_add 4 1) (by decide) rfl (fun ls hl => ?_)
        refine lv_goto (tgt := 53) hx hb dX7_goes_77 (by decide) ?_
        refine lv_iload_n hx hb dX7_goes_53 rfl (lv_at hl 0 rfl) ?_
        refine n_iconst hx hb dX7_goes_54 ?_
        refine n_icmp_ge (tgt := 80) hx hb (by unfold r32; decide) (by unfold r32; decide) dX7_goes_55 (by decide) (fun h55 => ?_) (fun h55 => False.elim (by revert h55; decide))
        refine n_iconst hx hb dX7_goes_80 ?_
        refine lv_istore_n (lv' := [(3, .int (jI 0)), (2, .int (jI ((t : Nat) : Int))), (0, .ref m0), (1, .int (jI ((ev : Nat) : Int)))]) hx hb dX7_goes_81 rfl hl (by decide) rfl (fun ls hl => ?_)
        refine inner (gN ev + 1) 0 gF gX _ H locs ls (by omega) (by omega) (put5at gH t (prd (fun i => gM (7 * ev + i)) (s5 gW))) (hrowsp _) ?_ ?_ hout0 hP hD hS (lv_sub hl [0, 1, 2, 3] rfl)
        · rw [s5at_put, hu1]
          show (beh (fun i => gM (7 * ev + i)) (s5at gB ev) (fun k c => gK (6 * (30 * ev + k) + c)) (fun k => gD (30 * ev + k)) (gN ev) u).bind _ = _
          rw [hu2]; rfl
        · rw [s5at_put, s5_put5]; rfl
  refine n_iconst hx hb dX7_goes_0 ?_
  refine lv_istore_n (lv' := [(2, .int (jI 0)), (0, .ref m0), (1, .int (jI ((ev : Nat) : Int)))]) hx hb dX7_goes_1 rfl hl (by decide) rfl (fun ls hl => ?_)
  refine lv_iload_n hx hb dX7_goes_2 rfl (lv_at hl 0 rfl) ?_
  refine n_iconst hx hb dX7_goes_3 ?_
  refine n_icmp_ge (tgt := 30) hx hb (by unfold r32; decide) (by unfold r32; decide) dX7_goes_4 (by decide) (fun h4 => False.elim (by revert h4; decide)) (fun h4 => ?_)
  refine lv_aload_n hx hb dX7_goes_7 rfl (lv_at hl 1 rfl) ?_
  refine va_get (D := D) (ci := 7) (v := .ref (a 12)) (C := RX7) (T := TX7) (N := 20) hx hb hts iX7 hown hK.1 hP 0 rfl rfl 14 (by decide) f48 (fun _ h9 => h9) rfl dX7_goes_8 ?_
  refine lv_iload_n hx hb dX7_goes_11 rfl (lv_at hl 0 rfl) ?_
  refine lv_aload_n hx hb dX7_goes_12 rfl (lv_at hl 1 rfl) ?_
  refine va_get (D := D) (ci := 7) (v := .ref (a 2)) (C := RX7) (T := TX7) (N := 20) hx hb hts iX7 hown hK.1 hP 0 rfl rfl 4 (by decide) f16 (fun _ h9 => h9) rfl dX7_goes_13 ?_
  refine n_iconst hx hb dX7_goes_16 ?_
  refine lv_iload_n hx hb dX7_goes_17 rfl (lv_at hl 2 rfl) ?_
  refine n_imul hx hb dX7_goes_18 ?_
  refine lv_iload_n hx hb dX7_goes_19 rfl (lv_at hl 0 rfl) ?_
  refine n_iadd hx hb dX7_goes_20 ?_
  refine n_iald (i := (5 * ev + 0)) hx hb hK hP 2 0 rfl htI (by omega) (by omega) (Nat.le_of_ble_eq_true rfl) dX7_goes_21 ?_
  refine n_i2lZ hx hb dX7_goes_22 ?_
  refine n_zlast (i := 0) (x := (gB (5 * ev + 0))) hx hb hK hP hD hS 11 1 rfl htJ rfl (Nat.le_of_ble_eq_true rfl) (Nat.le_of_ble_eq_true rfl) dX7_goes_23 (fun H locs hP hD hS => ?_)
  have hP : va_P D vwCl [(m0, oR (jI ((ms : Nat) : Int)) (jI ((es : Nat) : Int)) th a), ((a 1), .inl (cI, 42, .inl (fun i => vI (gM i)))), ((a 2), .inl (cI, 30, .inl (fun i => vI (gB i)))), ((a 3), .inl (cI, 6, .inl (fun i => jI ((gT i : Nat) : Int)))), ((a 5), .inl (cI, 6, .inl (fun i => jI ((gN i : Nat) : Int)))), ((a 6), .inl (cI, 1080, .inl (fun i => vI (gK i)))), ((a 7), .inl (cZ, 180, .inl (fun i => jI (iB (gD i))))), ((a 8), .inl (cJ, 105, .inr (.inl (fun i => vL (gH i))))), ((a 9), .inl (cJ, 105, .inr (.inl (fun i => vL (gU i))))), ((a 10), .inl (cJ, 90, .inr (.inl (fun i => vL (gF i))))), ((a 11), .inl (cZ, 30, .inl (fun i => jI (iB (gX i))))), ((a 12), .inl (cJ, 5, .inr (.inl (fun i => vL ((va_up gW 0 (gB (5 * ev + 0))) i)))))] H := hP
  have hD : va_D A [(m0, oR (jI ((ms : Nat) : Int)) (jI ((es : Nat) : Int)) th a), ((a 1), .inl (cI, 42, .inl (fun i => vI (gM i)))), ((a 2), .inl (cI, 30, .inl (fun i => vI (gB i)))), ((a 3), .inl (cI, 6, .inl (fun i => jI ((gT i : Nat) : Int)))), ((a 5), .inl (cI, 6, .inl (fun i => jI ((gN i : Nat) : Int)))), ((a 6), .inl (cI, 1080, .inl (fun i => vI (gK i)))), ((a 7), .inl (cZ, 180, .inl (fun i => jI (iB (gD i))))), ((a 8), .inl (cJ, 105, .inr (.inl (fun i => vL (gH i))))), ((a 9), .inl (cJ, 105, .inr (.inl (fun i => vL (gU i))))), ((a 10), .inl (cJ, 90, .inr (.inl (fun i => vL (gF i))))), ((a 11), .inl (cZ, 30, .inl (fun i => jI (iB (gX i))))), ((a 12), .inl (cJ, 5, .inr (.inl (fun i => vL ((va_up gW 0 (gB (5 * ev + 0))) i)))))] := hD
  refine lv_iinc (v := jI 1) (lv' := [(2, .int (jI 1)), (0, .ref m0), (1, .int (jI ((ev : Nat) : Int)))]) hx hb dX7_goes_24 hl (k := 0) rfl (jI_add 0 1) (by decide) rfl (fun ls hl => ?_)
  refine lv_goto (tgt := 2) hx hb dX7_goes_27 (by decide) ?_
  refine lv_iload_n hx hb dX7_goes_2 rfl (lv_at hl 0 rfl) ?_
  refine n_iconst hx hb dX7_goes_3 ?_
  refine n_icmp_ge (tgt := 30) hx hb (by unfold r32; decide) (by unfold r32; decide) dX7_goes_4 (by decide) (fun h4 => False.elim (by revert h4; decide)) (fun h4 => ?_)
  refine lv_aload_n hx hb dX7_goes_7 rfl (lv_at hl 1 rfl) ?_
  refine va_get (D := D) (ci := 7) (v := .ref (a 12)) (C := RX7) (T := TX7) (N := 20) hx hb hts iX7 hown hK.1 hP 0 rfl rfl 14 (by decide) f48 (fun _ h9 => h9) rfl dX7_goes_8 ?_
  refine lv_iload_n hx hb dX7_goes_11 rfl (lv_at hl 0 rfl) ?_
  refine lv_aload_n hx hb dX7_goes_12 rfl (lv_at hl 1 rfl) ?_
  refine va_get (D := D) (ci := 7) (v := .ref (a 2)) (C := RX7) (T := TX7) (N := 20) hx hb hts iX7 hown hK.1 hP 0 rfl rfl 4 (by decide) f16 (fun _ h9 => h9) rfl dX7_goes_13 ?_
  refine n_iconst hx hb dX7_goes_16 ?_
  refine lv_iload_n hx hb dX7_goes_17 rfl (lv_at hl 2 rfl) ?_
  refine n_imul hx hb dX7_goes_18 ?_
  refine lv_iload_n hx hb dX7_goes_19 rfl (lv_at hl 0 rfl) ?_
  refine n_iadd hx hb dX7_goes_20 ?_
  refine n_iald (i := (5 * ev + 1)) hx hb hK hP 2 0 rfl htI (by omega) (by omega) (Nat.le_of_ble_eq_true rfl) dX7_goes_21 ?_
  refine n_i2lZ hx hb dX7_goes_22 ?_
  refine n_zlast (i := 1) (x := (gB (5 * ev + 1))) hx hb hK hP hD hS 11 1 rfl htJ rfl (Nat.le_of_ble_eq_true rfl) (Nat.le_of_ble_eq_true rfl) dX7_goes_23 (fun H locs hP hD hS => ?_)
  have hP : va_P D vwCl [(m0, oR (jI ((ms : Nat) : Int)) (jI ((es : Nat) : Int)) th a), ((a 1), .inl (cI, 42, .inl (fun i => vI (gM i)))), ((a 2), .inl (cI, 30, .inl (fun i => vI (gB i)))), ((a 3), .inl (cI, 6, .inl (fun i => jI ((gT i : Nat) : Int)))), ((a 5), .inl (cI, 6, .inl (fun i => jI ((gN i : Nat) : Int)))), ((a 6), .inl (cI, 1080, .inl (fun i => vI (gK i)))), ((a 7), .inl (cZ, 180, .inl (fun i => jI (iB (gD i))))), ((a 8), .inl (cJ, 105, .inr (.inl (fun i => vL (gH i))))), ((a 9), .inl (cJ, 105, .inr (.inl (fun i => vL (gU i))))), ((a 10), .inl (cJ, 90, .inr (.inl (fun i => vL (gF i))))), ((a 11), .inl (cZ, 30, .inl (fun i => jI (iB (gX i))))), ((a 12), .inl (cJ, 5, .inr (.inl (fun i => vL ((va_up (va_up gW 0 (gB (5 * ev + 0))) 1 (gB (5 * ev + 1))) i)))))] H := hP
  have hD : va_D A [(m0, oR (jI ((ms : Nat) : Int)) (jI ((es : Nat) : Int)) th a), ((a 1), .inl (cI, 42, .inl (fun i => vI (gM i)))), ((a 2), .inl (cI, 30, .inl (fun i => vI (gB i)))), ((a 3), .inl (cI, 6, .inl (fun i => jI ((gT i : Nat) : Int)))), ((a 5), .inl (cI, 6, .inl (fun i => jI ((gN i : Nat) : Int)))), ((a 6), .inl (cI, 1080, .inl (fun i => vI (gK i)))), ((a 7), .inl (cZ, 180, .inl (fun i => jI (iB (gD i))))), ((a 8), .inl (cJ, 105, .inr (.inl (fun i => vL (gH i))))), ((a 9), .inl (cJ, 105, .inr (.inl (fun i => vL (gU i))))), ((a 10), .inl (cJ, 90, .inr (.inl (fun i => vL (gF i))))), ((a 11), .inl (cZ, 30, .inl (fun i => jI (iB (gX i))))), ((a 12), .inl (cJ, 5, .inr (.inl (fun i => vL ((va_up (va_up gW 0 (gB (5 * ev + 0))) 1 (gB (5 * ev + 1))) i)))))] := hD
  refine lv_iinc (v := jI 2) (lv' := [(2, .int (jI 2)), (0, .ref m0), (1, .int (jI ((ev : Nat) : Int)))]) hx hb dX7_goes_24 hl (k := 0) rfl (jI_add 1 1) (by decide) rfl (fun ls hl => ?_)
  refine lv_goto (tgt := 2) hx hb dX7_goes_27 (by decide) ?_
  refine lv_iload_n hx hb dX7_goes_2 rfl (lv_at hl 0 rfl) ?_
  refine n_iconst hx hb dX7_goes_3 ?_
  refine n_icmp_ge (tgt := 30) hx hb (by unfold r32; decide) (by unfold r32; decide) dX7_goes_4 (by decide) (fun h4 => False.elim (by revert h4; decide)) (fun h4 => ?_)
  refine lv_aload_n hx hb dX7_goes_7 rfl (lv_at hl 1 rfl) ?_
  refine va_get (D := D) (ci := 7) (v := .ref (a 12)) (C := RX7) (T := TX7) (N := 20) hx hb hts iX7 hown hK.1 hP 0 rfl rfl 14 (by decide) f48 (fun _ h9 => h9) rfl dX7_goes_8 ?_
  refine lv_iload_n hx hb dX7_goes_11 rfl (lv_at hl 0 rfl) ?_
  refine lv_aload_n hx hb dX7_goes_12 rfl (lv_at hl 1 rfl) ?_
  refine va_get (D := D) (ci := 7) (v := .ref (a 2)) (C := RX7) (T := TX7) (N := 20) hx hb hts iX7 hown hK.1 hP 0 rfl rfl 4 (by decide) f16 (fun _ h9 => h9) rfl dX7_goes_13 ?_
  refine n_iconst hx hb dX7_goes_16 ?_
  refine lv_iload_n hx hb dX7_goes_17 rfl (lv_at hl 2 rfl) ?_
  refine n_imul hx hb dX7_goes_18 ?_
  refine lv_iload_n hx hb dX7_goes_19 rfl (lv_at hl 0 rfl) ?_
  refine n_iadd hx hb dX7_goes_20 ?_
  refine n_iald (i := (5 * ev + 2)) hx hb hK hP 2 0 rfl htI (by omega) (by omega) (Nat.le_of_ble_eq_true rfl) dX7_goes_21 ?_
  refine n_i2lZ hx hb dX7_goes_22 ?_
  refine n_zlast (i := 2) (x := (gB (5 * ev + 2))) hx hb hK hP hD hS 11 1 rfl htJ rfl (Nat.le_of_ble_eq_true rfl) (Nat.le_of_ble_eq_true rfl) dX7_goes_23 (fun H locs hP hD hS => ?_)
  have hP : va_P D vwCl [(m0, oR (jI ((ms : Nat) : Int)) (jI ((es : Nat) : Int)) th a), ((a 1), .inl (cI, 42, .inl (fun i => vI (gM i)))), ((a 2), .inl (cI, 30, .inl (fun i => vI (gB i)))), ((a 3), .inl (cI, 6, .inl (fun i => jI ((gT i : Nat) : Int)))), ((a 5), .inl (cI, 6, .inl (fun i => jI ((gN i : Nat) : Int)))), ((a 6), .inl (cI, 1080, .inl (fun i => vI (gK i)))), ((a 7), .inl (cZ, 180, .inl (fun i => jI (iB (gD i))))), ((a 8), .inl (cJ, 105, .inr (.inl (fun i => vL (gH i))))), ((a 9), .inl (cJ, 105, .inr (.inl (fun i => vL (gU i))))), ((a 10), .inl (cJ, 90, .inr (.inl (fun i => vL (gF i))))), ((a 11), .inl (cZ, 30, .inl (fun i => jI (iB (gX i))))), ((a 12), .inl (cJ, 5, .inr (.inl (fun i => vL ((va_up (va_up (va_up gW 0 (gB (5 * ev + 0))) 1 (gB (5 * ev + 1))) 2 (gB (5 * ev + 2))) i)))))] H := hP
  have hD : va_D A [(m0, oR (jI ((ms : Nat) : Int)) (jI ((es : Nat) : Int)) th a), ((a 1), .inl (cI, 42, .inl (fun i => vI (gM i)))), ((a 2), .inl (cI, 30, .inl (fun i => vI (gB i)))), ((a 3), .inl (cI, 6, .inl (fun i => jI ((gT i : Nat) : Int)))), ((a 5), .inl (cI, 6, .inl (fun i => jI ((gN i : Nat) : Int)))), ((a 6), .inl (cI, 1080, .inl (fun i => vI (gK i)))), ((a 7), .inl (cZ, 180, .inl (fun i => jI (iB (gD i))))), ((a 8), .inl (cJ, 105, .inr (.inl (fun i => vL (gH i))))), ((a 9), .inl (cJ, 105, .inr (.inl (fun i => vL (gU i))))), ((a 10), .inl (cJ, 90, .inr (.inl (fun i => vL (gF i))))), ((a 11), .inl (cZ, 30, .inl (fun i => jI (iB (gX i))))), ((a 12), .inl (cJ, 5, .inr (.inl (fun i => vL ((va_up (va_up (va_up gW 0 (gB (5 * ev + 0))) 1 (gB (5 * ev + 1))) 2 (gB (5 * ev + 2))) i)))))] := hD
  refine lv_iinc (v := jI 3) (lv' := [(2, .int (jI 3)), (0, .ref m0), (1, .int (jI ((ev : Nat) : Int)))]) hx hb dX7_goes_24 hl (k := 0) rfl (jI_add 2 1) (by decide) rfl (fun ls hl => ?_)
  refine lv_goto (tgt := 2) hx hb dX7_goes_27 (by decide) ?_
  refine lv_iload_n hx hb dX7_goes_2 rfl (lv_at hl 0 rfl) ?_
  refine n_iconst hx hb dX7_goes_3 ?_
  refine n_icmp_ge (tgt := 30) hx hb (by unfold r32; decide) (by unfold r32; decide) dX7_goes_4 (by decide) (fun h4 => False.elim (by revert h4; decide)) (fun h4 => ?_)
  refine lv_aload_n hx hb dX7_goes_7 rfl (lv_at hl 1 rfl) ?_
  refine va_get (D := D) (ci := 7) (v := .ref (a 12)) (C := RX7) (T := TX7) (N := 20) hx hb hts iX7 hown hK.1 hP 0 rfl rfl 14 (by decide) f48 (fun _ h9 => h9) rfl dX7_goes_8 ?_
  refine lv_iload_n hx hb dX7_goes_11 rfl (lv_at hl 0 rfl) ?_
  refine lv_aload_n hx hb dX7_goes_12 rfl (lv_at hl 1 rfl) ?_
  refine va_get (D := D) (ci := 7) (v := .ref (a 2)) (C := RX7) (T := TX7) (N := 20) hx hb hts iX7 hown hK.1 hP 0 rfl rfl 4 (by decide) f16 (fun _ h9 => h9) rfl dX7_goes_13 ?_
  refine n_iconst hx hb dX7_goes_16 ?_
  refine lv_iload_n hx hb dX7_goes_17 rfl (lv_at hl 2 rfl) ?_
  refine n_imul hx hb dX7_goes_18 ?_
  refine lv_iload_n hx hb dX7_goes_19 rfl (lv_at hl 0 rfl) ?_
  refine n_iadd hx hb dX7_goes_20 ?_
  refine n_iald (i := (5 * ev + 3)) hx hb hK hP 2 0 rfl htI (by omega) (by omega) (Nat.le_of_ble_eq_true rfl) dX7_goes_21 ?_
  refine n_i2lZ hx hb dX7_goes_22 ?_
  refine n_zlast (i := 3) (x := (gB (5 * ev + 3))) hx hb hK hP hD hS 11 1 rfl htJ rfl (Nat.le_of_ble_eq_true rfl) (Nat.le_of_ble_eq_true rfl) dX7_goes_23 (fun H locs hP hD hS => ?_)
  have hP : va_P D vwCl [(m0, oR (jI ((ms : Nat) : Int)) (jI ((es : Nat) : Int)) th a), ((a 1), .inl (cI, 42, .inl (fun i => vI (gM i)))), ((a 2), .inl (cI, 30, .inl (fun i => vI (gB i)))), ((a 3), .inl (cI, 6, .inl (fun i => jI ((gT i : Nat) : Int)))), ((a 5), .inl (cI, 6, .inl (fun i => jI ((gN i : Nat) : Int)))), ((a 6), .inl (cI, 1080, .inl (fun i => vI (gK i)))), ((a 7), .inl (cZ, 180, .inl (fun i => jI (iB (gD i))))), ((a 8), .inl (cJ, 105, .inr (.inl (fun i => vL (gH i))))), ((a 9), .inl (cJ, 105, .inr (.inl (fun i => vL (gU i))))), ((a 10), .inl (cJ, 90, .inr (.inl (fun i => vL (gF i))))), ((a 11), .inl (cZ, 30, .inl (fun i => jI (iB (gX i))))), ((a 12), .inl (cJ, 5, .inr (.inl (fun i => vL ((va_up (va_up (va_up (va_up gW 0 (gB (5 * ev + 0))) 1 (gB (5 * ev + 1))) 2 (gB (5 * ev + 2))) 3 (gB (5 * ev + 3))) i)))))] H := hP
  have hD : va_D A [(m0, oR (jI ((ms : Nat) : Int)) (jI ((es : Nat) : Int)) th a), ((a 1), .inl (cI, 42, .inl (fun i => vI (gM i)))), ((a 2), .inl (cI, 30, .inl (fun i => vI (gB i)))), ((a 3), .inl (cI, 6, .inl (fun i => jI ((gT i : Nat) : Int)))), ((a 5), .inl (cI, 6, .inl (fun i => jI ((gN i : Nat) : Int)))), ((a 6), .inl (cI, 1080, .inl (fun i => vI (gK i)))), ((a 7), .inl (cZ, 180, .inl (fun i => jI (iB (gD i))))), ((a 8), .inl (cJ, 105, .inr (.inl (fun i => vL (gH i))))), ((a 9), .inl (cJ, 105, .inr (.inl (fun i => vL (gU i))))), ((a 10), .inl (cJ, 90, .inr (.inl (fun i => vL (gF i))))), ((a 11), .inl (cZ, 30, .inl (fun i => jI (iB (gX i))))), ((a 12), .inl (cJ, 5, .inr (.inl (fun i => vL ((va_up (va_up (va_up (va_up gW 0 (gB (5 * ev + 0))) 1 (gB (5 * ev + 1))) 2 (gB (5 * ev + 2))) 3 (gB (5 * ev + 3))) i)))))] := hD
  refine lv_iinc (v := jI 4) (lv' := [(2, .int (jI 4)), (0, .ref m0), (1, .int (jI ((ev : Nat) : Int)))]) hx hb dX7_goes_24 hl (k := 0) rfl (jI_add 3 1) (by decide) rfl (fun ls hl => ?_)
  refine lv_goto (tgt := 2) hx hb dX7_goes_27 (by decide) ?_
  refine lv_iload_n hx hb dX7_goes_2 rfl (lv_at hl 0 rfl) ?_
  refine n_iconst hx hb dX7_goes_3 ?_
  refine n_icmp_ge (tgt := 30) hx hb (by unfold r32; decide) (by unfold r32; decide) dX7_goes_4 (by decide) (fun h4 => False.elim (by revert h4; decide)) (fun h4 => ?_)
  refine lv_aload_n hx hb dX7_goes_7 rfl (lv_at hl 1 rfl) ?_
  refine va_get (D := D) (ci := 7) (v := .ref (a 12)) (C := RX7) (T := TX7) (N := 20) hx hb hts iX7 hown hK.1 hP 0 rfl rfl 14 (by decide) f48 (fun _ h9 => h9) rfl dX7_goes_8 ?_
  refine lv_iload_n hx hb dX7_goes_11 rfl (lv_at hl 0 rfl) ?_
  refine lv_aload_n hx hb dX7_goes_12 rfl (lv_at hl 1 rfl) ?_
  refine va_get (D := D) (ci := 7) (v := .ref (a 2)) (C := RX7) (T := TX7) (N := 20) hx hb hts iX7 hown hK.1 hP 0 rfl rfl 4 (by decide) f16 (fun _ h9 => h9) rfl dX7_goes_13 ?_
  refine n_iconst hx hb dX7_goes_16 ?_
  refine lv_iload_n hx hb dX7_goes_17 rfl (lv_at hl 2 rfl) ?_
  refine n_imul hx hb dX7_goes_18 ?_
  refine lv_iload_n hx hb dX7_goes_19 rfl (lv_at hl 0 rfl) ?_
  refine n_iadd hx hb dX7_goes_20 ?_
  refine n_iald (i := (5 * ev + 4)) hx hb hK hP 2 0 rfl htI (by omega) (by omega) (Nat.le_of_ble_eq_true rfl) dX7_goes_21 ?_
  refine n_i2lZ hx hb dX7_goes_22 ?_
  refine n_zlast (i := 4) (x := (gB (5 * ev + 4))) hx hb hK hP hD hS 11 1 rfl htJ rfl (Nat.le_of_ble_eq_true rfl) (Nat.le_of_ble_eq_true rfl) dX7_goes_23 (fun H locs hP hD hS => ?_)
  have hP : va_P D vwCl [(m0, oR (jI ((ms : Nat) : Int)) (jI ((es : Nat) : Int)) th a), ((a 1), .inl (cI, 42, .inl (fun i => vI (gM i)))), ((a 2), .inl (cI, 30, .inl (fun i => vI (gB i)))), ((a 3), .inl (cI, 6, .inl (fun i => jI ((gT i : Nat) : Int)))), ((a 5), .inl (cI, 6, .inl (fun i => jI ((gN i : Nat) : Int)))), ((a 6), .inl (cI, 1080, .inl (fun i => vI (gK i)))), ((a 7), .inl (cZ, 180, .inl (fun i => jI (iB (gD i))))), ((a 8), .inl (cJ, 105, .inr (.inl (fun i => vL (gH i))))), ((a 9), .inl (cJ, 105, .inr (.inl (fun i => vL (gU i))))), ((a 10), .inl (cJ, 90, .inr (.inl (fun i => vL (gF i))))), ((a 11), .inl (cZ, 30, .inl (fun i => jI (iB (gX i))))), ((a 12), .inl (cJ, 5, .inr (.inl (fun i => vL ((va_up (va_up (va_up (va_up (va_up gW 0 (gB (5 * ev + 0))) 1 (gB (5 * ev + 1))) 2 (gB (5 * ev + 2))) 3 (gB (5 * ev + 3))) 4 (gB (5 * ev + 4))) i)))))] H := hP
  have hD : va_D A [(m0, oR (jI ((ms : Nat) : Int)) (jI ((es : Nat) : Int)) th a), ((a 1), .inl (cI, 42, .inl (fun i => vI (gM i)))), ((a 2), .inl (cI, 30, .inl (fun i => vI (gB i)))), ((a 3), .inl (cI, 6, .inl (fun i => jI ((gT i : Nat) : Int)))), ((a 5), .inl (cI, 6, .inl (fun i => jI ((gN i : Nat) : Int)))), ((a 6), .inl (cI, 1080, .inl (fun i => vI (gK i)))), ((a 7), .inl (cZ, 180, .inl (fun i => jI (iB (gD i))))), ((a 8), .inl (cJ, 105, .inr (.inl (fun i => vL (gH i))))), ((a 9), .inl (cJ, 105, .inr (.inl (fun i => vL (gU i))))), ((a 10), .inl (cJ, 90, .inr (.inl (fun i => vL (gF i))))), ((a 11), .inl (cZ, 30, .inl (fun i => jI (iB (gX i))))), ((a 12), .inl (cJ, 5, .inr (.inl (fun i => vL ((va_up (va_up (va_up (va_up (va_up gW 0 (gB (5 * ev + 0))) 1 (gB (5 * ev + 1))) 2 (gB (5 * ev + 2))) 3 (gB (5 * ev + 3))) 4 (gB (5 * ev + 4))) i)))))] := hD
  refine lv_iinc (v := jI 5) (lv' := [(2, .int (jI 5)), (0, .ref m0), (1, .int (jI ((ev : Nat) : Int)))]) hx hb dX7_goes_24 hl (k := 0) rfl (jI_add 4 1) (by decide) rfl (fun ls hl => ?_)
  refine lv_goto (tgt := 2) hx hb dX7_goes_27 (by decide) ?_
  refine lv_iload_n hx hb dX7_goes_2 rfl (lv_at hl 0 rfl) ?_
  refine n_iconst hx hb dX7_goes_3 ?_
  refine n_icmp_ge (tgt := 30) hx hb (by unfold r32; decide) (by unfold r32; decide) dX7_goes_4 (by decide) (fun h4 => ?_) (fun h4 => False.elim (by revert h4; decide))
  refine n_iconst hx hb dX7_goes_30 ?_
  refine lv_istore_n (lv' := [(2, .int (jI 0)), (0, .ref m0), (1, .int (jI ((ev : Nat) : Int)))]) hx hb dX7_goes_31 rfl hl (by decide) rfl (fun ls hl => ?_)
  exact outer (gT ev + 2) 0 gH gU gF gX _ H locs ls (by omega) (by omega) (Or.inl ⟨rfl, rfl⟩) (fun u hu => absurd hu (Nat.not_lt_zero u)) (fun k _ _ h => absurd h (Nat.not_lt_zero _)) hP hD hS (lv_sub hl [0, 1, 2] rfl)
