/-! the estimator's methods -/
set_option maxHeartbeats 8000000 in
set_option maxRecDepth 100000 in
/--  -/
theorem c_X1_countGated (l : Launch) (D : va_G) (tys : List (ClassId × FieldType)) {cM cS : ClassId} (htM : tys[4]? = some (cM, .object RX2)) (htS : tys[5]? = some (cS, .object RX4)) (ad : Nat → Nat) (n T : Nat) (th : Zp) (P : Nat → Zp) (M Y : Nat → Nat → Zp) (dr gt : Nat → Bool) (sp sb : Nat → S5) (hn30 : n ≤ 30) (hT : T ≤ 20)  : CtE (S := Unit) l D tys yX1_countGated wsX1_countGated 0 0 [.ref (ad 0)] (fun (r : Int32) (_ : Unit) => r = jI ((cntG dr gt n : Nat) : Int)) (estL cM cS ad n T th P M Y dr gt sp sb) (fun _ => (estL cM cS ad n T th P M Y dr gt sp sb)) := by
  refine CtE.of (cc := cX1_countGated) (maxL := 3) (by decide +kernel) rfl (fun _ => rfl) (Nat.le_of_ble_eq_true rfl) ?_
  intro p e s m below meth c A ls hcx hK hP hD hA hl
  obtain ⟨hx, hb, hr, hml, hown, hts, hlocks⟩ := hcx
  have hS : va_S A s.heap s.heap [] := va_S.rf
  have hown : s.vm.findClass RX1 = some m.cls := hown
  have hl : lv_has ls 3 [(0, .ref (ad 0))] := hl
  have f69 := hts (.fieldLink RX1 69 "FieldFilter$Estimator" "toldCount" "I") (by decide +kernel)
  have iX1 : ∀ w ∈ u_ws RX1 TX1 7, w ∈ wsX1_countGated := by decide +kernel
  have f20 := hts (.fieldLink RX1 20 "FieldFilter$Estimator" "told" "[LFieldFilter$Measurement;") (by decide +kernel)
  have f72 := hts (.fieldLink RX1 72 "FieldFilter$Measurement" "gated" "Z") (by decide +kernel)
  have iX2 : ∀ w ∈ u_ws RX2 TX2 11, w ∈ wsX1_countGated := by decide +kernel
  have f76 := hts (.fieldLink RX1 76 "FieldFilter$Measurement" "dropped" "Z") (by decide +kernel)
  have loop : ∀ (f k : Nat) (H : Heap) (locs : List Loc) (ls : Array Slot), n - k < f → k ≤ n → va_P D vwCl (estL cM cS ad n T th P M Y dr gt sp sb) H → va_D A (estL cM cS ad n T th P M Y dr gt sp sb) → va_S A s.heap H locs → lv_has ls 3 [(2, .int (jI ((k : Nat) : Int))), (1, .int (jI ((cntG dr gt k : Nat) : Int))), (0, .ref (ad 0))] → W p l e { frames := 0, cells := 0, slots := 0, locals := 0 } s m ([Value.ref (ad 0)] : List Value).toArray below meth c H locs 0 0 (MQ below (EE D A (fun (r : Int32) (_ : Unit) => r = jI ((cntG dr gt n : Nat) : Int)) (fun _ => (estL cM cS ad n T th P M Y dr gt sp sb))) ([Value.ref (ad 0)] : List Value).toArray s 0 0 A) (F0 m 4 ls []) := by
    intro f
    induction f with
    | zero => intro k H locs ls hf; omega
    | succ f ih =>
      intro k H locs ls hf hk hP hD hS hl
      by_cases hkn : k = n
      · have hP := hP.perm est_0
        have hD := hD.perm est_0
        have hP : va_P D vwCl (((ad 0), .inr (1, [.ref (ad 1), .ref (ad 3), .int (jI ((n : Nat) : Int)), .int (jI ((T : Nat) : Int)), .int (vI th), .ref (ad 4), .ref (ad 5)])) :: ((ad 1), .inr (3, [.int (vI (P 0)), .int (vI (P 1)), .int (vI (P 2)), .int (vI (P 3)), .ref (ad 2)])) :: ((ad 2), .inr (5, [.int (vI (P 4)), .int (vI (P 5)), .int (vI (P 6))])) :: ((ad 3), .inl (cM, 30, .inr (.inr (.inr (.inr (fun k => some (ad (6 + 3 * k)))))))) :: ((ad 4), .inl (cS, 21, .inr (.inr (.inr (.inr (fun t => some (ad (96 + 6 * t)))))))) :: ((ad 5), .inl (cS, 21, .inr (.inr (.inr (.inr (fun t => some (ad (99 + 6 * t)))))))) :: eRest [] ad M Y dr gt sp sb) H := hP
        have hD : va_D A (((ad 0), .inr (1, [.ref (ad 1), .ref (ad 3), .int (jI ((n : Nat) : Int)), .int (jI ((T : Nat) : Int)), .int (vI th), .ref (ad 4), .ref (ad 5)])) :: ((ad 1), .inr (3, [.int (vI (P 0)), .int (vI (P 1)), .int (vI (P 2)), .int (vI (P 3)), .ref (ad 2)])) :: ((ad 2), .inr (5, [.int (vI (P 4)), .int (vI (P 5)), .int (vI (P 6))])) :: ((ad 3), .inl (cM, 30, .inr (.inr (.inr (.inr (fun k => some (ad (6 + 3 * k)))))))) :: ((ad 4), .inl (cS, 21, .inr (.inr (.inr (.inr (fun t => some (ad (96 + 6 * t)))))))) :: ((ad 5), .inl (cS, 21, .inr (.inr (.inr (.inr (fun t => some (ad (99 + 6 * t)))))))) :: eRest [] ad M Y dr gt sp sb) := hD
        refine lv_iload_n hx hb dX1_countGated_4 rfl (lv_at hl 0 rfl) ?_
        refine lv_aload_n hx hb dX1_countGated_5 rfl (lv_at hl 2 rfl) ?_
        refine va_get (D := D) (ci := 1) (v := .int (jI ((n : Nat) : Int))) (C := RX1) (T := TX1) (N := 7) hx hb hts iX1 hown hK.1 hP 0 rfl rfl 2 (by decide) f69 (fun _ h9 => h9) rfl dX1_countGated_6 ?_
        refine n_icmp_ge (tgt := 45) hx hb (by unfold r32; omega) (by unfold r32; omega) dX1_countGated_9 (by decide) (fun h9 => ?_) (fun h9 => False.elim (by omega))
        refine lv_iload_n hx hb dX1_countGated_45 rfl (lv_at hl 1 rfl) ?_
        have hP : va_P D vwCl (estL cM cS ad n T th P M Y dr gt sp sb) H := by
          refine va_P.perm ?_ (est_0).symm
          rw [eRest_same (fun j _ _ => ⟨rfl, rfl, rfl, rfl⟩) (fun _ _ _ => rfl) (fun _ _ _ => rfl)]
          exact hP
        have hD : va_D A (estL cM cS ad n T th P M Y dr gt sp sb) := by
          refine va_D.perm ?_ (est_0).symm
          rw [eRest_same (fun j _ _ => ⟨rfl, rfl, rfl, rfl⟩) (fun _ _ _ => rfl) (fun _ _ _ => rfl)]
          exact hD
        exact e_iret () hx hb hr hlocks dX1_countGated_46 hP hS (by show _ = _; rw [hkn])
      have hk30 : k < 30 := by omega
      have hc30 := cntG_le dr gt k
      cases hg : gt k with
      | false =>
        have hP := hP.perm (est_m hk30)
        have hD := hD.perm (est_m hk30)
        have hP : va_P D vwCl (((ad 0), .inr (1, [.ref (ad 1), .ref (ad 3), .int (jI ((n : Nat) : Int)), .int (jI ((T : Nat) : Int)), .int (vI th), .ref (ad 4), .ref (ad 5)])) :: ((ad 1), .inr (3, [.int (vI (P 0)), .int (vI (P 1)), .int (vI (P 2)), .int (vI (P 3)), .ref (ad 2)])) :: ((ad 2), .inr (5, [.int (vI (P 4)), .int (vI (P 5)), .int (vI (P 6))])) :: ((ad 3), .inl (cM, 30, .inr (.inr (.inr (.inr (fun k => some (ad (6 + 3 * k)))))))) :: ((ad 4), .inl (cS, 21, .inr (.inr (.inr (.inr (fun t => some (ad (96 + 6 * t)))))))) :: ((ad 5), .inl (cS, 21, .inr (.inr (.inr (.inr (fun t => some (ad (99 + 6 * t)))))))) :: ((ad (6 + 3 * k)), .inr (2, [.ref (ad (6 + 3 * k + 1)), .int (vI (M k 3)), .int (vI (M k 4)), .int (vI (M k 0)), .int (vI (M k 5)), .int (jI (iB (dr k))), .ref (ad (6 + 3 * k + 2)), .int (vI (Y k 2)), .int (vI (Y k 3)), .int (vI (Y k 4)), .int (jI (iB (gt k)))])) :: ((ad (6 + 3 * k + 1)), .inr (0, [.int (vI (M k 1)), .int (vI (M k 2))])) :: ((ad (6 + 3 * k + 2)), .inr (0, [.int (vI (Y k 0)), .int (vI (Y k 1))])) :: eRest [k] ad M Y dr gt sp sb) H := hP
        have hD : va_D A (((ad 0), .inr (1, [.ref (ad 1), .ref (ad 3), .int (jI ((n : Nat) : Int)), .int (jI ((T : Nat) : Int)), .int (vI th), .ref (ad 4), .ref (ad 5)])) :: ((ad 1), .inr (3, [.int (vI (P 0)), .int (vI (P 1)), .int (vI (P 2)), .int (vI (P 3)), .ref (ad 2)])) :: ((ad 2), .inr (5, [.int (vI (P 4)), .int (vI (P 5)), .int (vI (P 6))])) :: ((ad 3), .inl (cM, 30, .inr (.inr (.inr (.inr (fun k => some (ad (6 + 3 * k)))))))) :: ((ad 4), .inl (cS, 21, .inr (.inr (.inr (.inr (fun t => some (ad (96 + 6 * t)))))))) :: ((ad 5), .inl (cS, 21, .inr (.inr (.inr (.inr (fun t => some (ad (99 + 6 * t)))))))) :: ((ad (6 + 3 * k)), .inr (2, [.ref (ad (6 + 3 * k + 1)), .int (vI (M k 3)), .int (vI (M k 4)), .int (vI (M k 0)), .int (vI (M k 5)), .int (jI (iB (dr k))), .ref (ad (6 + 3 * k + 2)), .int (vI (Y k 2)), .int (vI (Y k 3)), .int (vI (Y k 4)), .int (jI (iB (gt k)))])) :: ((ad (6 + 3 * k + 1)), .inr (0, [.int (vI (M k 1)), .int (vI (M k 2))])) :: ((ad (6 + 3 * k + 2)), .inr (0, [.int (vI (Y k 0)), .int (vI (Y k 1))])) :: eRest [k] ad M Y dr gt sp sb) := hD
        refine lv_iload_n hx hb dX1_countGated_4 rfl (lv_at hl 0 rfl) ?_
        refine lv_aload_n hx hb dX1_countGated_5 rfl (lv_at hl 2 rfl) ?_
        refine va_get (D := D) (ci := 1) (v := .int (jI ((n : Nat) : Int))) (C := RX1) (T := TX1) (N := 7) hx hb hts iX1 hown hK.1 hP 0 rfl rfl 2 (by decide) f69 (fun _ h9 => h9) rfl dX1_countGated_6 ?_
        refine n_icmp_ge (tgt := 45) hx hb (by unfold r32; omega) (by unfold r32; omega) dX1_countGated_9 (by decide) (fun h9 => False.elim (by omega)) (fun h9 => ?_)
        refine lv_aload_n hx hb dX1_countGated_12 rfl (lv_at hl 2 rfl) ?_
        refine va_get (D := D) (ci := 1) (v := .ref (ad 3)) (C := RX1) (T := TX1) (N := 7) hx hb hts iX1 hown hK.1 hP 0 rfl rfl 1 (by decide) f20 (fun _ h9 => h9) rfl dX1_countGated_13 ?_
        refine lv_iload_n hx hb dX1_countGated_16 rfl (lv_at hl 0 rfl) ?_
        refine n_aald (i := k) (q := (ad (6 + 3 * k))) hx hb hK hP 3 4 rfl htM rfl hk30 (Nat.le_of_ble_eq_true rfl) rfl dX1_countGated_17 ?_
        refine va_get (D := D) (ci := 2) (v := .int (jI (iB (gt k)))) (C := RX2) (T := TX2) (N := 11) hx hb hts iX2 hown hK.1 hP 6 rfl rfl 10 (by decide) f72 (fun _ h9 => h9) rfl dX1_countGated_18 ?_
        refine n_ifB_eq (tgt := 39) hx hb dX1_countGated_21 (by decide) (fun h21 => ?_) (fun h21 => Bool.noConfusion (hg.symm.trans h21))
        refine lv_iinc (v := jI ((k + 1 : Nat) : Int)) (lv' := [(2, .int (jI ((k + 1 : Nat) : Int))), (1, .int (jI ((cntG dr gt k : Nat) : Int))), (0, .ref (ad 0))]) hx hb dX1_countGated_39 hl (k := 0) rfl (jI_inc k) (by decide) rfl (fun ls hl => ?_)
        refine lv_goto (tgt := 4) hx hb dX1_countGated_42 (by decide) ?_
        have hP : va_P D vwCl (estL cM cS ad n T th P M Y dr gt sp sb) H := by
          refine va_P.perm ?_ ((est_m hk30)).symm
          rw [eRest_same (fun j _ _ => ⟨rfl, rfl, rfl, rfl⟩) (fun _ _ _ => rfl) (fun _ _ _ => rfl)]
          exact hP
        have hD : va_D A (estL cM cS ad n T th P M Y dr gt sp sb) := by
          refine va_D.perm ?_ ((est_m hk30)).symm
          rw [eRest_same (fun j _ _ => ⟨rfl, rfl, rfl, rfl⟩) (fun _ _ _ => rfl) (fun _ _ _ => rfl)]
          exact hD
        have e9 : cntG dr gt (k + 1) = cntG dr gt k := by
          show cntG dr gt k + (if dr k = false ∧ gt k = true then 1 else 0) = _
          rw [if_neg (fun q => by rw [hg] at q; exact Bool.noConfusion q.2), Nat.add_zero]
        exact ih (k + 1) H locs ls (by omega) (by omega) hP hD hS (by rw [e9]; exact lv_sub hl [0, 1, 2] rfl)
      | true =>
        cases hd : dr k with
        | true =>
          have hP := hP.perm (est_m hk30)
          have hD := hD.perm (est_m hk30)
          have hP : va_P D vwCl (((ad 0), .inr (1, [.ref (ad 1), .ref (ad 3), .int (jI ((n : Nat) : Int)), .int (jI ((T : Nat) : Int)), .int (vI th), .ref (ad 4), .ref (ad 5)])) :: ((ad 1), .inr (3, [.int (vI (P 0)), .int (vI (P 1)), .int (vI (P 2)), .int (vI (P 3)), .ref (ad 2)])) :: ((ad 2), .inr (5, [.int (vI (P 4)), .int (vI (P 5)), .int (vI (P 6))])) :: ((ad 3), .inl (cM, 30, .inr (.inr (.inr (.inr (fun k => some (ad (6 + 3 * k)))))))) :: ((ad 4), .inl (cS, 21, .inr (.inr (.inr (.inr (fun t => some (ad (96 + 6 * t)))))))) :: ((ad 5), .inl (cS, 21, .inr (.inr (.inr (.inr (fun t => some (ad (99 + 6 * t)))))))) :: ((ad (6 + 3 * k)), .inr (2, [.ref (ad (6 + 3 * k + 1)), .int (vI (M k 3)), .int (vI (M k 4)), .int (vI (M k 0)), .int (vI (M k 5)), .int (jI (iB (dr k))), .ref (ad (6 + 3 * k + 2)), .int (vI (Y k 2)), .int (vI (Y k 3)), .int (vI (Y k 4)), .int (jI (iB (gt k)))])) :: ((ad (6 + 3 * k + 1)), .inr (0, [.int (vI (M k 1)), .int (vI (M k 2))])) :: ((ad (6 + 3 * k + 2)), .inr (0, [.int (vI (Y k 0)), .int (vI (Y k 1))])) :: eRest [k] ad M Y dr gt sp sb) H := hP
          have hD : va_D A (((ad 0), .inr (1, [.ref (ad 1), .ref (ad 3), .int (jI ((n : Nat) : Int)), .int (jI ((T : Nat) : Int)), .int (vI th), .ref (ad 4), .ref (ad 5)])) :: ((ad 1), .inr (3, [.int (vI (P 0)), .int (vI (P 1)), .int (vI (P 2)), .int (vI (P 3)), .ref (ad 2)])) :: ((ad 2), .inr (5, [.int (vI (P 4)), .int (vI (P 5)), .int (vI (P 6))])) :: ((ad 3), .inl (cM, 30, .inr (.inr (.inr (.inr (fun k => some (ad (6 + 3 * k)))))))) :: ((ad 4), .inl (cS, 21, .inr (.inr (.inr (.inr (fun t => some (ad (96 + 6 * t)))))))) :: ((ad 5), .inl (cS, 21, .inr (.inr (.inr (.inr (fun t => some (ad (99 + 6 * t)))))))) :: ((ad (6 + 3 * k)), .inr (2, [.ref (ad (6 + 3 * k + 1)), .int (vI (M k 3)), .int (vI (M k 4)), .int (vI (M k 0)), .int (vI (M k 5)), .int (jI (iB (dr k))), .ref (ad (6 + 3 * k + 2)), .int (vI (Y k 2)), .int (vI (Y k 3)), .int (vI (Y k 4)), .int (jI (iB (gt k)))])) :: ((ad (6 + 3 * k + 1)), .inr (0, [.int (vI (M k 1)), .int (vI (M k 2))])) :: ((ad (6 + 3 * k + 2)), .inr (0, [.int (vI (Y k 0)), .int (vI (Y k 1))])) :: eRest [k] ad M Y dr gt sp sb) := hD
          refine lv_iload_n hx hb dX1_countGated_4 rfl (lv_at hl 0 rfl) ?_
          refine lv_aload_n hx hb dX1_countGated_5 rfl (lv_at hl 2 rfl) ?_
          refine va_get (D := D) (ci := 1) (v := .int (jI ((n : Nat) : Int))) (C := RX1) (T := TX1) (N := 7) hx hb hts iX1 hown hK.1 hP 0 rfl rfl 2 (by decide) f69 (fun _ h9 => h9) rfl dX1_countGated_6 ?_
          refine n_icmp_ge (tgt := 45) hx hb (by unfold r32; omega) (by unfold r32; omega) dX1_countGated_9 (by decide) (fun h9 => False.elim (by omega)) (fun h9 => ?_)
          refine lv_aload_n hx hb dX1_countGated_12 rfl (lv_at hl 2 rfl) ?_
          refine va_get (D := D) (ci := 1) (v := .ref (ad 3)) (C := RX1) (T := TX1) (N := 7) hx hb hts iX1 hown hK.1 hP 0 rfl rfl 1 (by decide) f20 (fun _ h9 => h9) rfl dX1_countGated_13 ?_
          refine lv_iload_n hx hb dX1_countGated_16 rfl (lv_at hl 0 rfl) ?_
          refine n_aald (i := k) (q := (ad (6 + 3 * k))) hx hb hK hP 3 4 rfl htM rfl hk30 (Nat.le_of_ble_eq_true rfl) rfl dX1_countGated_17 ?_
          refine va_get (D := D) (ci := 2) (v := .int (jI (iB (gt k)))) (C := RX2) (T := TX2) (N := 11) hx hb hts iX2 hown hK.1 hP 6 rfl rfl 10 (by decide) f72 (fun _ h9 => h9) rfl dX1_countGated_18 ?_
          refine n_ifB_eq (tgt := 39) hx hb dX1_countGated_21 (by decide) (fun h21 => Bool.noConfusion (hg.symm.trans h21)) (fun h21 => ?_)
          refine lv_aload_n hx hb dX1_countGated_24 rfl (lv_at hl 2 rfl) ?_
          refine va_get (D := D) (ci := 1) (v := .ref (ad 3)) (C := RX1) (T := TX1) (N := 7) hx hb hts iX1 hown hK.1 hP 0 rfl rfl 1 (by decide) f20 (fun _ h9 => h9) rfl dX1_countGated_25 ?_
          refine lv_iload_n hx hb dX1_countGated_28 rfl (lv_at hl 0 rfl) ?_
          refine n_aald (i := k) (q := (ad (6 + 3 * k))) hx hb hK hP 3 4 rfl htM rfl hk30 (Nat.le_of_ble_eq_true rfl) rfl dX1_countGated_29 ?_
          refine va_get (D := D) (ci := 2) (v := .int (jI (iB (dr k)))) (C := RX2) (T := TX2) (N := 11) hx hb hts iX2 hown hK.1 hP 6 rfl rfl 5 (by decide) f76 (fun _ h9 => h9) rfl dX1_countGated_30 ?_
          refine n_ifB_ne (tgt := 39) hx hb dX1_countGated_33 (by decide) (fun h33 => ?_) (fun h33 => Bool.noConfusion (hd.symm.trans h33))
          refine lv_iinc (v := jI ((k + 1 : Nat) : Int)) (lv' := [(2, .int (jI ((k + 1 : Nat) : Int))), (1, .int (jI ((cntG dr gt k : Nat) : Int))), (0, .ref (ad 0))]) hx hb dX1_countGated_39 hl (k := 0) rfl (jI_inc k) (by decide) rfl (fun ls hl => ?_)
          refine lv_goto (tgt := 4) hx hb dX1_countGated_42 (by decide) ?_
          have hP : va_P D vwCl (estL cM cS ad n T th P M Y dr gt sp sb) H := by
            refine va_P.perm ?_ ((est_m hk30)).symm
            rw [eRest_same (fun j _ _ => ⟨rfl, rfl, rfl, rfl⟩) (fun _ _ _ => rfl) (fun _ _ _ => rfl)]
            exact hP
          have hD : va_D A (estL cM cS ad n T th P M Y dr gt sp sb) := by
            refine va_D.perm ?_ ((est_m hk30)).symm
            rw [eRest_same (fun j _ _ => ⟨rfl, rfl, rfl, rfl⟩) (fun _ _ _ => rfl) (fun _ _ _ => rfl)]
            exact hD
          have e9 : cntG dr gt (k + 1) = cntG dr gt k := by
            show cntG dr gt k + (if dr k = false ∧ gt k = true then 1 else 0) = _
            rw [if_neg (fun q => by rw [hd] at q; exact Bool.noConfusion q.1), Nat.add_zero]
          exact ih (k + 1) H locs ls (by omega) (by omega) hP hD hS (by rw [e9]; exact lv_sub hl [0, 1, 2] rfl)
        | false =>
          have hP := hP.perm (est_m hk30)
          have hD := hD.perm (est_m hk30)
          have hP : va_P D vwCl (((ad 0), .inr (1, [.ref (ad 1), .ref (ad 3), .int (jI ((n : Nat) : Int)), .int (jI ((T : Nat) : Int)), .int (vI th), .ref (ad 4), .ref (ad 5)])) :: ((ad 1), .inr (3, [.int (vI (P 0)), .int (vI (P 1)), .int (vI (P 2)), .int (vI (P 3)), .ref (ad 2)])) :: ((ad 2), .inr (5, [.int (vI (P 4)), .int (vI (P 5)), .int (vI (P 6))])) :: ((ad 3), .inl (cM, 30, .inr (.inr (.inr (.inr (fun k => some (ad (6 + 3 * k)))))))) :: ((ad 4), .inl (cS, 21, .inr (.inr (.inr (.inr (fun t => some (ad (96 + 6 * t)))))))) :: ((ad 5), .inl (cS, 21, .inr (.inr (.inr (.inr (fun t => some (ad (99 + 6 * t)))))))) :: ((ad (6 + 3 * k)), .inr (2, [.ref (ad (6 + 3 * k + 1)), .int (vI (M k 3)), .int (vI (M k 4)), .int (vI (M k 0)), .int (vI (M k 5)), .int (jI (iB (dr k))), .ref (ad (6 + 3 * k + 2)), .int (vI (Y k 2)), .int (vI (Y k 3)), .int (vI (Y k 4)), .int (jI (iB (gt k)))])) :: ((ad (6 + 3 * k + 1)), .inr (0, [.int (vI (M k 1)), .int (vI (M k 2))])) :: ((ad (6 + 3 * k + 2)), .inr (0, [.int (vI (Y k 0)), .int (vI (Y k 1))])) :: eRest [k] ad M Y dr gt sp sb) H := hP
          have hD : va_D A (((ad 0), .inr (1, [.ref (ad 1), .ref (ad 3), .int (jI ((n : Nat) : Int)), .int (jI ((T : Nat) : Int)), .int (vI th), .ref (ad 4), .ref (ad 5)])) :: ((ad 1), .inr (3, [.int (vI (P 0)), .int (vI (P 1)), .int (vI (P 2)), .int (vI (P 3)), .ref (ad 2)])) :: ((ad 2), .inr (5, [.int (vI (P 4)), .int (vI (P 5)), .int (vI (P 6))])) :: ((ad 3), .inl (cM, 30, .inr (.inr (.inr (.inr (fun k => some (ad (6 + 3 * k)))))))) :: ((ad 4), .inl (cS, 21, .inr (.inr (.inr (.inr (fun t => some (ad (96 + 6 * t)))))))) :: ((ad 5), .inl (cS, 21, .inr (.inr (.inr (.inr (fun t => some (ad (99 + 6 * t)))))))) :: ((ad (6 + 3 * k)), .inr (2, [.ref (ad (6 + 3 * k + 1)), .int (vI (M k 3)), .int (vI (M k 4)), .int (vI (M k 0)), .int (vI (M k 5)), .int (jI (iB (dr k))), .ref (ad (6 + 3 * k + 2)), .int (vI (Y k 2)), .int (vI (Y k 3)), .int (vI (Y k 4)), .int (jI (iB (gt k)))])) :: ((ad (6 + 3 * k + 1)), .inr (0, [.int (vI (M k 1)), .int (vI (M k 2))])) :: ((ad (6 + 3 * k + 2)), .inr (0, [.int (vI (Y k 0)), .int (vI (Y k 1))])) :: eRest [k] ad M Y dr gt sp sb) := hD
          refine lv_iload_n hx hb dX1_countGated_4 rfl (lv_at hl 0 rfl) ?_
          refine lv_aload_n hx hb dX1_countGated_5 rfl (lv_at hl 2 rfl) ?_
          refine va_get (D := D) (ci := 1) (v := .int (jI ((n : Nat) : Int))) (C := RX1) (T := TX1) (N := 7) hx hb hts iX1 hown hK.1 hP 0 rfl rfl 2 (by decide) f69 (fun _ h9 => h9) rfl dX1_countGated_6 ?_
          refine n_icmp_ge (tgt := 45) hx hb (by unfold r32; omega) (by unfold r32; omega) dX1_countGated_9 (by decide) (fun h9 => False.elim (by omega)) (fun h9 => ?_)
          refine lv_aload_n hx hb dX1_countGated_12 rfl (lv_at hl 2 rfl) ?_
          refine va_get (D := D) (ci := 1) (v := .ref (ad 3)) (C := RX1) (T := TX1) (N := 7) hx hb hts iX1 hown hK.1 hP 0 rfl rfl 1 (by decide) f20 (fun _ h9 => h9) rfl dX1_countGated_13 ?_
          refine lv_iload_n hx hb dX1_countGated_16 rfl (lv_at hl 0 rfl) ?_
          refine n_aald (i := k) (q := (ad (6 + 3 * k))) hx hb hK hP 3 4 rfl htM rfl hk30 (Nat.le_of_ble_eq_true rfl) rfl dX1_countGated_17 ?_
          refine va_get (D := D) (ci := 2) (v := .int (jI (iB (gt k)))) (C := RX2) (T := TX2) (N := 11) hx hb hts iX2 hown hK.1 hP 6 rfl rfl 10 (by decide) f72 (fun _ h9 => h9) rfl dX1_countGated_18 ?_
          refine n_ifB_eq (tgt := 39) hx hb dX1_countGated_21 (by decide) (fun h21 => Bool.noConfusion (hg.symm.trans h21)) (fun h21 => ?_)
          refine lv_aload_n hx hb dX1_countGated_24 rfl (lv_at hl 2 rfl) ?_
          refine va_get (D := D) (ci := 1) (v := .ref (ad 3)) (C := RX1) (T := TX1) (N := 7) hx hb hts iX1 hown hK.1 hP 0 rfl rfl 1 (by decide) f20 (fun _ h9 => h9) rfl dX1_countGated_25 ?_
          refine lv_iload_n hx hb dX1_countGated_28 rfl (lv_at hl 0 rfl) ?_
          refine n_aald (i := k) (q := (ad (6 + 3 * k))) hx hb hK hP 3 4 rfl htM rfl hk30 (Nat.le_of_ble_eq_true rfl) rfl dX1_countGated_29 ?_
          refine va_get (D := D) (ci := 2) (v := .int (jI (iB (dr k)))) (C := RX2) (T := TX2) (N := 11) hx hb hts iX2 hown hK.1 hP 6 rfl rfl 5 (by decide) f76 (fun _ h9 => h9) rfl dX1_countGated_30 ?_
          refine n_ifB_ne (tgt := 39) hx hb dX1_countGated_33 (by decide) (fun h33 => Bool.noConfusion (hd.symm.trans h33)) (fun h33 => ?_)
          refine lv_iinc (v := jI ((cntG dr gt k + 1 : Nat) : Int)) (lv' := [(1, .int (jI ((cntG dr gt k + 1 : Nat) : Int))), (2, .int (jI ((k : Nat) : Int))), (0, .ref (ad 0))]) hx hb dX1_countGated_36 hl (k := 1) rfl (jI_inc (cntG dr gt k)) (by decide) rfl (fun ls hl => ?_)
          refine lv_iinc (v := jI ((k + 1 : Nat) : Int)) (lv' := [(2, .int (jI ((k + 1 : Nat) : Int))), (1, .int (jI ((cntG dr gt k + 1 : Nat) : Int))), (0, .ref (ad 0))]) hx hb dX1_countGated_39 hl (k := 1) rfl (jI_inc k) (by decide) rfl (fun ls hl => ?_)
          refine lv_goto (tgt := 4) hx hb dX1_countGated_42 (by decide) ?_
          have hP : va_P D vwCl (estL cM cS ad n T th P M Y dr gt sp sb) H := by
            refine va_P.perm ?_ ((est_m hk30)).symm
            rw [eRest_same (fun j _ _ => ⟨rfl, rfl, rfl, rfl⟩) (fun _ _ _ => rfl) (fun _ _ _ => rfl)]
            exact hP
          have hD : va_D A (estL cM cS ad n T th P M Y dr gt sp sb) := by
            refine va_D.perm ?_ ((est_m hk30)).symm
            rw [eRest_same (fun j _ _ => ⟨rfl, rfl, rfl, rfl⟩) (fun _ _ _ => rfl) (fun _ _ _ => rfl)]
            exact hD
          have e9 : cntG dr gt (k + 1) = cntG dr gt k + 1 := by
            show cntG dr gt k + (if dr k = false ∧ gt k = true then 1 else 0) = _
            rw [if_pos ⟨hd, hg⟩]
          exact ih (k + 1) H locs ls (by omega) (by omega) hP hD hS (by rw [e9]; exact lv_sub hl [0, 1, 2] rfl)
  refine n_iconst hx hb dX1_countGated_0 ?_
  refine lv_istore_n (lv' := [(1, .int (jI 0)), (0, .ref (ad 0))]) hx hb dX1_countGated_1 rfl hl (by decide) rfl (fun ls hl => ?_)
  refine n_iconst hx hb dX1_countGated_2 ?_
  refine lv_istore_n (lv' := [(2, .int (jI 0)), (1, .int (jI 0)), (0, .ref (ad 0))]) hx hb dX1_countGated_3 rfl hl (by decide) rfl (fun ls hl => ?_)
  exact loop (n + 1) 0 s.heap [] ls (by omega) (by omega) hP hD hS (lv_sub hl [0, 1, 2] rfl)

set_option maxHeartbeats 8000000 in
set_option maxRecDepth 100000 in
/--  -/
theorem c_X1_startFrom (l : Launch) (D : va_G) (tys : List (ClassId × FieldType)) {cM cS : ClassId} (htM : tys[4]? = some (cM, .object RX2)) (htS : tys[5]? = some (cS, .object RX4)) (ad : Nat → Nat) (n T : Nat) (th : Zp) (P : Nat → Zp) (M Y : Nat → Nat → Zp) (dr gt : Nat → Bool) (sp sb : Nat → S5) (hn30 : n ≤ 30) (hT : T ≤ 20) (b : S5)  : CtF (S := (Nat → Nat → Zp) × (Nat → Bool) × (Nat → S5) × (Nat → S5)) l D tys yX1_startFrom wsX1_startFrom 5 114 [.ref (ad 0), .int (vI b.1), .int (vI b.2.1), .int (vI b.2.2.1), .int (vI b.2.2.2.1), .int (vI b.2.2.2.2)] (fun (u : (Nat → Nat → Zp) × (Nat → Bool) × (Nat → S5) × (Nat → S5)) => u.2.2.1 0 = b ∧ (beh P b M dr n T = none ∨ SEtl P b M dr n (T + 1) u.1 u.2.1 u.2.2.1 u.2.2.2)) (estL cM cS ad n T th P M Y dr gt sp sb) (fun u => (estL cM cS ad n T th P M u.1 dr u.2.1 u.2.2.1 u.2.2.2)) := by
  refine CtF.of (cc := cX1_startFrom) (maxL := 6) (by decide +kernel) rfl (fun _ => rfl) (Nat.le_of_ble_eq_true rfl) ?_
  intro p e s m below meth c A ls hcx hK hP hD hA hl
  obtain ⟨hx, hb, hr, hml, hown, hts, hlocks⟩ := hcx
  have hS : va_S A s.heap s.heap [] := va_S.rf
  have hown : s.vm.findClass RX1 = some m.cls := hown
  have hl : lv_has ls 6 [(0, .ref (ad 0)), (1, .int (vI b.1)), (2, .int (vI b.2.1)), (3, .int (vI b.2.2.1)), (4, .int (vI b.2.2.2.1)), (5, .int (vI b.2.2.2.2))] := hl
  have f30 := hts (.fieldLink RX1 30 "FieldFilter$Estimator" "predicted" "[LFieldFilter$State;") (by decide +kernel)
  have iX1 : ∀ w ∈ u_ws RX1 TX1 7, w ∈ wsX1_startFrom := by decide +kernel
  have f43 := hts (.fieldLink RX1 43 "FieldFilter$State" "x" "LFieldFilter$Column;") (by decide +kernel)
  have iX4 : ∀ w ∈ u_ws RX4 TX4 2, w ∈ wsX1_startFrom := by decide +kernel
  have f53 := hts (.fieldLink RX1 53 "FieldFilter$State" "p" "LFieldFilter$Symmetric;") (by decide +kernel)
  have hP := hP.perm (est_p (t := 0) (by omega))
  have hD := hD.perm (est_p (t := 0) (by omega))
  have hP : va_P D vwCl (((ad 0), .inr (1, [.ref (ad 1), .ref (ad 3), .int (jI ((n : Nat) : Int)), .int (jI ((T : Nat) : Int)), .int (vI th), .ref (ad 4), .ref (ad 5)])) :: ((ad 1), .inr (3, [.int (vI (P 0)), .int (vI (P 1)), .int (vI (P 2)), .int (vI (P 3)), .ref (ad 2)])) :: ((ad 2), .inr (5, [.int (vI (P 4)), .int (vI (P 5)), .int (vI (P 6))])) :: ((ad 3), .inl (cM, 30, .inr (.inr (.inr (.inr (fun k => some (ad (6 + 3 * k)))))))) :: ((ad 4), .inl (cS, 21, .inr (.inr (.inr (.inr (fun t => some (ad (96 + 6 * t)))))))) :: ((ad 5), .inl (cS, 21, .inr (.inr (.inr (.inr (fun t => some (ad (99 + 6 * t)))))))) :: ((ad (96 + 6 * 0)), .inr (4, [.ref (ad (96 + 6 * 0 + 1)), .ref (ad (96 + 6 * 0 + 2))])) :: ((ad (96 + 6 * 0 + 1)), .inr (0, [.int (vI ((sp 0).1)), .int (vI ((sp 0).2.1))])) :: ((ad (96 + 6 * 0 + 2)), .inr (5, [.int (vI ((sp 0).2.2.1)), .int (vI ((sp 0).2.2.2.1)), .int (vI ((sp 0).2.2.2.2))])) :: eRest [30 + 2 * 0] ad M Y dr gt sp sb) s.heap := hP
  have hD : va_D A (((ad 0), .inr (1, [.ref (ad 1), .ref (ad 3), .int (jI ((n : Nat) : Int)), .int (jI ((T : Nat) : Int)), .int (vI th), .ref (ad 4), .ref (ad 5)])) :: ((ad 1), .inr (3, [.int (vI (P 0)), .int (vI (P 1)), .int (vI (P 2)), .int (vI (P 3)), .ref (ad 2)])) :: ((ad 2), .inr (5, [.int (vI (P 4)), .int (vI (P 5)), .int (vI (P 6))])) :: ((ad 3), .inl (cM, 30, .inr (.inr (.inr (.inr (fun k => some (ad (6 + 3 * k)))))))) :: ((ad 4), .inl (cS, 21, .inr (.inr (.inr (.inr (fun t => some (ad (96 + 6 * t)))))))) :: ((ad 5), .inl (cS, 21, .inr (.inr (.inr (.inr (fun t => some (ad (99 + 6 * t)))))))) :: ((ad (96 + 6 * 0)), .inr (4, [.ref (ad (96 + 6 * 0 + 1)), .ref (ad (96 + 6 * 0 + 2))])) :: ((ad (96 + 6 * 0 + 1)), .inr (0, [.int (vI ((sp 0).1)), .int (vI ((sp 0).2.1))])) :: ((ad (96 + 6 * 0 + 2)), .inr (5, [.int (vI ((sp 0).2.2.1)), .int (vI ((sp 0).2.2.2.1)), .int (vI ((sp 0).2.2.2.2))])) :: eRest [30 + 2 * 0] ad M Y dr gt sp sb) := hD
  refine lv_aload_n hx hb dX1_startFrom_0 rfl (lv_at hl 0 rfl) ?_
  refine va_get (D := D) (ci := 1) (v := .ref (ad 4)) (C := RX1) (T := TX1) (N := 7) hx hb hts iX1 hown hK.1 hP 0 rfl rfl 5 (by decide) f30 (fun _ h9 => h9) rfl dX1_startFrom_1 ?_
  refine n_iconst hx hb dX1_startFrom_4 ?_
  refine n_aald (i := 0) (q := (ad (96 + 6 * 0))) hx hb hK hP 4 5 rfl htS rfl (by omega) (Nat.le_of_ble_eq_true rfl) rfl dX1_startFrom_5 ?_
  refine va_get (D := D) (ci := 4) (v := .ref (ad (96 + 6 * 0 + 1))) (C := RX4) (T := TX4) (N := 2) hx hb hts iX4 hown hK.1 hP 6 rfl rfl 0 (by decide) f43 (fun _ h9 => h9) rfl dX1_startFrom_6 ?_
  refine lv_iload_n hx hb dX1_startFrom_9 rfl (lv_at hl 1 rfl) ?_
  refine lv_iload_n hx hb dX1_startFrom_10 rfl (lv_at hl 2 rfl) ?_
  have ct11 := c_X0_set l D tys (ad (96 + 6 * 0 + 1)) (vI ((sp 0).1)) (vI ((sp 0).2.1)) (vI b.1) (vI b.2.1)
  refine k_goV (va_runV (As := [.int (vI b.1), .int (vI b.2.1)]) (rest := []) ⟨hx, hb, hml, hown, hts⟩ (ct11.2 _) (cwV 2 hts gX1_startFrom_X0_set rfl rfl rfl (by decide +kernel) ⟨Nat.le_of_ble_eq_true rfl, Nat.le_of_ble_eq_true rfl⟩) ⟨(k_pre hK hP hD (is := [7]) rfl rfl).1, va_recv hK.1 hP (ci := 0) (q0 := 7) rfl rfl, (k_pre hK hP hD (is := [7]) rfl rfl).2⟩ rfl rfl hl.1 rfl (lv_room (Nat.le_of_ble_eq_true rfl)) dX1_startFrom_11 ⟨Nat.le_of_ble_eq_true rfl, Nat.le_of_ble_eq_true rfl⟩) ct11.1 hP hD hS hA [7] rfl rfl (fun H locs hP hD hS => ?_)
  have hP : va_P D vwCl (((ad 0), .inr (1, [.ref (ad 1), .ref (ad 3), .int (jI ((n : Nat) : Int)), .int (jI ((T : Nat) : Int)), .int (vI th), .ref (ad 4), .ref (ad 5)])) :: ((ad 1), .inr (3, [.int (vI (P 0)), .int (vI (P 1)), .int (vI (P 2)), .int (vI (P 3)), .ref (ad 2)])) :: ((ad 2), .inr (5, [.int (vI (P 4)), .int (vI (P 5)), .int (vI (P 6))])) :: ((ad 3), .inl (cM, 30, .inr (.inr (.inr (.inr (fun k => some (ad (6 + 3 * k)))))))) :: ((ad 4), .inl (cS, 21, .inr (.inr (.inr (.inr (fun t => some (ad (96 + 6 * t)))))))) :: ((ad 5), .inl (cS, 21, .inr (.inr (.inr (.inr (fun t => some (ad (99 + 6 * t)))))))) :: ((ad (96 + 6 * 0)), .inr (4, [.ref (ad (96 + 6 * 0 + 1)), .ref (ad (96 + 6 * 0 + 2))])) :: ((ad (96 + 6 * 0 + 1)), .inr (0, [.int (vI b.1), .int (vI b.2.1)])) :: ((ad (96 + 6 * 0 + 2)), .inr (5, [.int (vI ((sp 0).2.2.1)), .int (vI ((sp 0).2.2.2.1)), .int (vI ((sp 0).2.2.2.2))])) :: eRest [30 + 2 * 0] ad M Y dr gt sp sb) H := hP
  have hD : va_D A (((ad 0), .inr (1, [.ref (ad 1), .ref (ad 3), .int (jI ((n : Nat) : Int)), .int (jI ((T : Nat) : Int)), .int (vI th), .ref (ad 4), .ref (ad 5)])) :: ((ad 1), .inr (3, [.int (vI (P 0)), .int (vI (P 1)), .int (vI (P 2)), .int (vI (P 3)), .ref (ad 2)])) :: ((ad 2), .inr (5, [.int (vI (P 4)), .int (vI (P 5)), .int (vI (P 6))])) :: ((ad 3), .inl (cM, 30, .inr (.inr (.inr (.inr (fun k => some (ad (6 + 3 * k)))))))) :: ((ad 4), .inl (cS, 21, .inr (.inr (.inr (.inr (fun t => some (ad (96 + 6 * t)))))))) :: ((ad 5), .inl (cS, 21, .inr (.inr (.inr (.inr (fun t => some (ad (99 + 6 * t)))))))) :: ((ad (96 + 6 * 0)), .inr (4, [.ref (ad (96 + 6 * 0 + 1)), .ref (ad (96 + 6 * 0 + 2))])) :: ((ad (96 + 6 * 0 + 1)), .inr (0, [.int (vI b.1), .int (vI b.2.1)])) :: ((ad (96 + 6 * 0 + 2)), .inr (5, [.int (vI ((sp 0).2.2.1)), .int (vI ((sp 0).2.2.2.1)), .int (vI ((sp 0).2.2.2.2))])) :: eRest [30 + 2 * 0] ad M Y dr gt sp sb) := hD
  refine lv_aload_n hx hb dX1_startFrom_14 rfl (lv_at hl 0 rfl) ?_
  refine va_get (D := D) (ci := 1) (v := .ref (ad 4)) (C := RX1) (T := TX1) (N := 7) hx hb hts iX1 hown hK.1 hP 0 rfl rfl 5 (by decide) f30 (fun _ h9 => h9) rfl dX1_startFrom_15 ?_
  refine n_iconst hx hb dX1_startFrom_18 ?_
  refine n_aald (i := 0) (q := (ad (96 + 6 * 0))) hx hb hK hP 4 5 rfl htS rfl (by omega) (Nat.le_of_ble_eq_true rfl) rfl dX1_startFrom_19 ?_
  refine va_get (D := D) (ci := 4) (v := .ref (ad (96 + 6 * 0 + 2))) (C := RX4) (T := TX4) (N := 2) hx hb hts iX4 hown hK.1 hP 6 rfl rfl 1 (by decide) f53 (fun _ h9 => h9) rfl dX1_startFrom_20 ?_
  refine lv_iload_n hx hb dX1_startFrom_23 rfl (lv_at hl 3 rfl) ?_
  refine lv_iload hx hb dX1_startFrom_24 (lv_at hl 4 rfl) ?_
  refine lv_iload hx hb dX1_startFrom_26 (lv_at hl 5 rfl) ?_
  have ct28 := c_X5_set l D tys (ad (96 + 6 * 0 + 2)) (vI ((sp 0).2.2.1)) (vI ((sp 0).2.2.2.1)) (vI ((sp 0).2.2.2.2)) (vI b.2.2.1) (vI b.2.2.2.1) (vI b.2.2.2.2)
  refine k_goV (va_runV (As := [.int (vI b.2.2.1), .int (vI b.2.2.2.1), .int (vI b.2.2.2.2)]) (rest := []) ⟨hx, hb, hml, hown, hts⟩ (ct28.2 _) (cwV 3 hts gX1_startFrom_X5_set rfl rfl rfl (by decide +kernel) ⟨Nat.le_of_ble_eq_true rfl, Nat.le_of_ble_eq_true rfl⟩) ⟨(k_pre hK hP hD (is := [8]) rfl rfl).1, va_recv hK.1 hP (ci := 5) (q0 := 8) rfl rfl, (k_pre hK hP hD (is := [8]) rfl rfl).2⟩ rfl rfl hl.1 rfl (lv_room (Nat.le_of_ble_eq_true rfl)) dX1_startFrom_28 ⟨Nat.le_of_ble_eq_true rfl, Nat.le_of_ble_eq_true rfl⟩) ct28.1 hP hD hS hA [8] rfl rfl (fun H locs hP hD hS => ?_)
  have hP : va_P D vwCl (((ad 0), .inr (1, [.ref (ad 1), .ref (ad 3), .int (jI ((n : Nat) : Int)), .int (jI ((T : Nat) : Int)), .int (vI th), .ref (ad 4), .ref (ad 5)])) :: ((ad 1), .inr (3, [.int (vI (P 0)), .int (vI (P 1)), .int (vI (P 2)), .int (vI (P 3)), .ref (ad 2)])) :: ((ad 2), .inr (5, [.int (vI (P 4)), .int (vI (P 5)), .int (vI (P 6))])) :: ((ad 3), .inl (cM, 30, .inr (.inr (.inr (.inr (fun k => some (ad (6 + 3 * k)))))))) :: ((ad 4), .inl (cS, 21, .inr (.inr (.inr (.inr (fun t => some (ad (96 + 6 * t)))))))) :: ((ad 5), .inl (cS, 21, .inr (.inr (.inr (.inr (fun t => some (ad (99 + 6 * t)))))))) :: ((ad (96 + 6 * 0)), .inr (4, [.ref (ad (96 + 6 * 0 + 1)), .ref (ad (96 + 6 * 0 + 2))])) :: ((ad (96 + 6 * 0 + 1)), .inr (0, [.int (vI b.1), .int (vI b.2.1)])) :: ((ad (96 + 6 * 0 + 2)), .inr (5, [.int (vI b.2.2.1), .int (vI b.2.2.2.1), .int (vI b.2.2.2.2)])) :: eRest [30 + 2 * 0] ad M Y dr gt sp sb) H := hP
  have hD : va_D A (((ad 0), .inr (1, [.ref (ad 1), .ref (ad 3), .int (jI ((n : Nat) : Int)), .int (jI ((T : Nat) : Int)), .int (vI th), .ref (ad 4), .ref (ad 5)])) :: ((ad 1), .inr (3, [.int (vI (P 0)), .int (vI (P 1)), .int (vI (P 2)), .int (vI (P 3)), .ref (ad 2)])) :: ((ad 2), .inr (5, [.int (vI (P 4)), .int (vI (P 5)), .int (vI (P 6))])) :: ((ad 3), .inl (cM, 30, .inr (.inr (.inr (.inr (fun k => some (ad (6 + 3 * k)))))))) :: ((ad 4), .inl (cS, 21, .inr (.inr (.inr (.inr (fun t => some (ad (96 + 6 * t)))))))) :: ((ad 5), .inl (cS, 21, .inr (.inr (.inr (.inr (fun t => some (ad (99 + 6 * t)))))))) :: ((ad (96 + 6 * 0)), .inr (4, [.ref (ad (96 + 6 * 0 + 1)), .ref (ad (96 + 6 * 0 + 2))])) :: ((ad (96 + 6 * 0 + 1)), .inr (0, [.int (vI b.1), .int (vI b.2.1)])) :: ((ad (96 + 6 * 0 + 2)), .inr (5, [.int (vI b.2.2.1), .int (vI b.2.2.2.1), .int (vI b.2.2.2.2)])) :: eRest [30 + 2 * 0] ad M Y dr gt sp sb) := hD
  obtain ⟨sp2, hp2, hpo⟩ : ∃ g : Nat → S5, g 0 = b ∧ ∀ j, j ≠ 0 → g j = sp j := ⟨fun j => if j = 0 then b else sp j, if_pos rfl, fun j hj => if_neg hj⟩
  have hP : va_P D vwCl (estL cM cS ad n T th P M Y dr gt sp2 sb) H := by
    refine va_P.perm ?_ ((est_p (t := 0) (by omega))).symm
    rw [eRest_same (sp := sp) (sb := sb) (fun j _ _ => ⟨rfl, rfl, rfl, rfl⟩) (fun v _ hv => hpo v (fun q => hv (by simp [q]))) (fun _ _ _ => rfl)]
    rw [hp2]
    exact hP
  have hD : va_D A (estL cM cS ad n T th P M Y dr gt sp2 sb) := by
    refine va_D.perm ?_ ((est_p (t := 0) (by omega))).symm
    rw [eRest_same (sp := sp) (sb := sb) (fun j _ _ => ⟨rfl, rfl, rfl, rfl⟩) (fun v _ hv => hpo v (fun q => hv (by simp [q]))) (fun _ _ _ => rfl)]
    rw [hp2]
    exact hD
  refine lv_aload_n hx hb dX1_startFrom_31 rfl (lv_at hl 0 rfl) ?_
  rw [← List.append_nil (estL cM cS ad n T th P M Y dr gt sp2 sb)] at hP hD
  have ct32 := c_X1_settle l D tys htM htS ad n T th P M Y dr gt sp2 sb hn30 hT
  refine a_goE (va_runV (As := []) (rest := []) ⟨hx, hb, hml, hown, hts⟩ (ct32.2 _) (cwV 0 hts gX1_startFrom_X1_settle rfl rfl rfl (by decide +kernel) ⟨Nat.le_of_ble_eq_true rfl, Nat.le_of_ble_eq_true rfl⟩) ⟨(a_pre hK hP hD).1, va_recv hK.1 hP (ci := 1) (q0 := 0) rfl rfl, (a_pre hK hP hD).2⟩ rfl rfl hl.1 rfl (lv_room (Nat.le_of_ble_eq_true rfl)) dX1_startFrom_32 ⟨Nat.le_of_ble_eq_true rfl, Nat.le_of_ble_eq_true rfl⟩) ct32.1 hP hD hS hA (fun r u H locs hpost hP hD hS => ?_)
  rw [List.append_nil] at hP hD
  rw [hp2] at hpost
  refine lv_pop hx hb dX1_startFrom_35 rfl ?_
  exact e_vret u hx hb hr hlocks dX1_startFrom_36 hP hS ⟨hpost.1, hpost.2.elim (fun q => Or.inl q.1) (fun q => Or.inr q.2)⟩
