/-! an estimator's cells: its object, its motion, three arrays, and 72 groups of three cells (30 measurements; 21 times two states) -/
def eObj (ad : Nat → Nat) (n T : Nat) (th : Zp) : Nat × va_E := (ad 0, .inr (1, [.ref (ad 1), .ref (ad 3), .int (jI ((n : Nat) : Int)), .int (jI ((T : Nat) : Int)), .int (vI th), .ref (ad 4), .ref (ad 5)]))
def eMot (ad : Nat → Nat) (P : Nat → Zp) : Nat × va_E := (ad 1, .inr (3, [.int (vI (P 0)), .int (vI (P 1)), .int (vI (P 2)), .int (vI (P 3)), .ref (ad 2)]))
def eQ (ad : Nat → Nat) (P : Nat → Zp) : Nat × va_E := (ad 2, .inr (5, [.int (vI (P 4)), .int (vI (P 5)), .int (vI (P 6))]))
def mGrp (ad : Nat → Nat) (M Y : Nat → Nat → Zp) (dr gt : Nat → Bool) (k : Nat) : va_W := [(ad (6 + 3 * k), .inr (2, [.ref (ad (6 + 3 * k + 1)), .int (vI (M k 3)), .int (vI (M k 4)), .int (vI (M k 0)), .int (vI (M k 5)), .int (jI (iB (dr k))), .ref (ad (6 + 3 * k + 2)), .int (vI (Y k 2)), .int (vI (Y k 3)), .int (vI (Y k 4)), .int (jI (iB (gt k)))])), (ad (6 + 3 * k + 1), .inr (0, [.int (vI (M k 1)), .int (vI (M k 2))])), (ad (6 + 3 * k + 2), .inr (0, [.int (vI (Y k 0)), .int (vI (Y k 1))]))]
def sGrp (ad : Nat → Nat) (j : Nat) (s : S5) : va_W := [(ad j, .inr (4, [.ref (ad (j + 1)), .ref (ad (j + 2))])), (ad (j + 1), .inr (0, [.int (vI s.1), .int (vI s.2.1)])), (ad (j + 2), .inr (5, [.int (vI s.2.2.1), .int (vI s.2.2.2.1), .int (vI s.2.2.2.2)]))]
def eGrp (ad : Nat → Nat) (M Y : Nat → Nat → Zp) (dr gt : Nat → Bool) (sp sb : Nat → S5) (i : Nat) : va_W := if i < 30 then mGrp ad M Y dr gt i else if i % 2 = 0 then sGrp ad (6 + 3 * i) (sp ((i - 30) / 2)) else sGrp ad (6 + 3 * i) (sb ((i - 30) / 2))
def eHd (cM cS : ClassId) (ad : Nat → Nat) (n T : Nat) (th : Zp) (P : Nat → Zp) : va_W := [eObj ad n T th, eMot ad P, eQ ad P, (ad 3, .inl (cM, 30, .inr (.inr (.inr (.inr (fun k => some (ad (6 + 3 * k)))))))), (ad 4, .inl (cS, 21, .inr (.inr (.inr (.inr (fun t => some (ad (96 + 6 * t)))))))), (ad 5, .inl (cS, 21, .inr (.inr (.inr (.inr (fun t => some (ad (99 + 6 * t))))))))]
def estL (cM cS : ClassId) (ad : Nat → Nat) (n T : Nat) (th : Zp) (P : Nat → Zp) (M Y : Nat → Nat → Zp) (dr gt : Nat → Bool) (sp sb : Nat → S5) : va_W := eHd cM cS ad n T th P ++ (List.range 72).flatMap (eGrp ad M Y dr gt sp sb)
theorem eGrp_m {ad : Nat → Nat} {M Y : Nat → Nat → Zp} {dr gt : Nat → Bool} {sp sb : Nat → S5} {k : Nat} (h : k < 30) : eGrp ad M Y dr gt sp sb k = mGrp ad M Y dr gt k := if_pos h
theorem eGrp_p {ad : Nat → Nat} {M Y : Nat → Nat → Zp} {dr gt : Nat → Bool} {sp sb : Nat → S5} (t : Nat) : eGrp ad M Y dr gt sp sb (30 + 2 * t) = sGrp ad (96 + 6 * t) (sp t) := by
  unfold eGrp
  rw [if_neg (by omega), if_pos (by omega), show (30 + 2 * t - 30) / 2 = t by omega, show 6 + 3 * (30 + 2 * t) = 96 + 6 * t by omega]
theorem eGrp_b {ad : Nat → Nat} {M Y : Nat → Nat → Zp} {dr gt : Nat → Bool} {sp sb : Nat → S5} (t : Nat) : eGrp ad M Y dr gt sp sb (31 + 2 * t) = sGrp ad (99 + 6 * t) (sb t) := by
  unfold eGrp
  rw [if_neg (by omega), if_neg (by omega), show (31 + 2 * t - 30) / 2 = t by omega, show 6 + 3 * (31 + 2 * t) = 99 + 6 * t by omega]
/-- the rest of an estimator's cells, the groups ks left out -/
def eRest (ks : List Nat) (ad : Nat → Nat) (M Y : Nat → Nat → Zp) (dr gt : Nat → Bool) (sp sb : Nat → S5) : va_W := (restI 72 ks).flatMap (eGrp ad M Y dr gt sp sb)
section EST
variable {cM cS : ClassId} {ad : Nat → Nat} {n T : Nat} {th : Zp} {P : Nat → Zp} {M Y M' Y' : Nat → Nat → Zp} {dr gt dr' gt' : Nat → Bool} {sp sb sp' sb' : Nat → S5}
theorem est_0 : (estL cM cS ad n T th P M Y dr gt sp sb).Perm (eHd cM cS ad n T th P ++ eRest [] ad M Y dr gt sp sb) := by
  unfold estL eRest
  exact ((flat_pick (ks := []) (eGrp ad M Y dr gt sp sb) List.nodup_nil (fun k h => by cases h))).append_left _
theorem est_b {t : Nat} (ht : t < 21) : (estL cM cS ad n T th P M Y dr gt sp sb).Perm (eHd cM cS ad n T th P ++ (sGrp ad (99 + 6 * t) (sb t) ++ eRest [31 + 2 * t] ad M Y dr gt sp sb)) := by
  unfold estL eRest
  have h := flat_pick (n := 72) (ks := [31 + 2 * t]) (eGrp ad M Y dr gt sp sb) (by simp) (fun k h => by simp at h; omega)
  simp only [List.flatMap_cons, List.flatMap_nil, List.append_nil, eGrp_b] at h
  exact h.append_left _
theorem est_p {t : Nat} (ht : t < 21) : (estL cM cS ad n T th P M Y dr gt sp sb).Perm (eHd cM cS ad n T th P ++ (sGrp ad (96 + 6 * t) (sp t) ++ eRest [30 + 2 * t] ad M Y dr gt sp sb)) := by
  unfold estL eRest
  have h := flat_pick (n := 72) (ks := [30 + 2 * t]) (eGrp ad M Y dr gt sp sb) (by simp) (fun k h => by simp at h; omega)
  simp only [List.flatMap_cons, List.flatMap_nil, List.append_nil, eGrp_p] at h
  exact h.append_left _
theorem est_m {k : Nat} (hk : k < 30) : (estL cM cS ad n T th P M Y dr gt sp sb).Perm (eHd cM cS ad n T th P ++ (mGrp ad M Y dr gt k ++ eRest [k] ad M Y dr gt sp sb)) := by
  unfold estL eRest
  have h := flat_pick (n := 72) (ks := [k]) (eGrp ad M Y dr gt sp sb) (by simp) (fun k h => by simp at h; omega)
  simp only [List.flatMap_cons, List.flatMap_nil, List.append_nil, eGrp_m hk] at h
  exact h.append_left _
theorem est_pb {t : Nat} (ht : t < 21) : (estL cM cS ad n T th P M Y dr gt sp sb).Perm (eHd cM cS ad n T th P ++ (sGrp ad (96 + 6 * t) (sp t) ++ (sGrp ad (99 + 6 * t) (sb t) ++ eRest [30 + 2 * t, 31 + 2 * t] ad M Y dr gt sp sb))) := by
  unfold estL eRest
  have h := flat_pick (n := 72) (ks := [30 + 2 * t, 31 + 2 * t]) (eGrp ad M Y dr gt sp sb) (by simp <;> omega) (fun k h => by simp at h; omega)
  simp only [List.flatMap_cons, List.flatMap_nil, List.append_nil, eGrp_p, eGrp_b, List.append_assoc] at h
  exact h.append_left _
/-- the state ahead of t + 1 with the one behind t -/
theorem est_pq {t : Nat} (ht : t < 20) : (estL cM cS ad n T th P M Y dr gt sp sb).Perm (eHd cM cS ad n T th P ++ (sGrp ad (96 + 6 * (t + 1)) (sp (t + 1)) ++ (sGrp ad (99 + 6 * t) (sb t) ++ eRest [30 + 2 * (t + 1), 31 + 2 * t] ad M Y dr gt sp sb))) := by
  unfold estL eRest
  have h := flat_pick (n := 72) (ks := [30 + 2 * (t + 1), 31 + 2 * t]) (eGrp ad M Y dr gt sp sb) (by simp <;> omega) (fun k h => by simp at h; omega)
  simp only [List.flatMap_cons, List.flatMap_nil, List.append_nil, eGrp_p, eGrp_b, List.append_assoc] at h
  exact h.append_left _
theorem est_mb {k t : Nat} (hk : k < 30) (ht : t < 21) : (estL cM cS ad n T th P M Y dr gt sp sb).Perm (eHd cM cS ad n T th P ++ (mGrp ad M Y dr gt k ++ (sGrp ad (99 + 6 * t) (sb t) ++ eRest [k, 31 + 2 * t] ad M Y dr gt sp sb))) := by
  unfold estL eRest
  have h := flat_pick (n := 72) (ks := [k, 31 + 2 * t]) (eGrp ad M Y dr gt sp sb) (by simp <;> omega) (fun k h => by simp at h; omega)
  simp only [List.flatMap_cons, List.flatMap_nil, List.append_nil, eGrp_m hk, eGrp_b, List.append_assoc] at h
  exact h.append_left _
/-- the rest is the same where all that lies outside of ks is -/
theorem eRest_same {ks : List Nat} (hm : ∀ k, k < 30 → k ∉ ks → M' k = M k ∧ Y' k = Y k ∧ dr' k = dr k ∧ gt' k = gt k) (hp : ∀ t, t < 21 → 30 + 2 * t ∉ ks → sp' t = sp t) (hb : ∀ t, t < 21 → 31 + 2 * t ∉ ks → sb' t = sb t) : eRest ks ad M' Y' dr' gt' sp' sb' = eRest ks ad M Y dr gt sp sb := by
  unfold eRest
  refine rest_same (fun i hi hn => ?_)
  by_cases h : i < 30
  · rw [eGrp_m h, eGrp_m h]
    obtain ⟨a1, a2, a3, a4⟩ := hm i h hn
    unfold mGrp
    rw [a1, a2, a3, a4]
  · obtain ⟨t, ht | ht⟩ : ∃ t, i = 30 + 2 * t ∨ i = 31 + 2 * t := ⟨(i - 30) / 2, by omega⟩
    · subst ht
      rw [eGrp_p, eGrp_p, hp t (by omega) hn]
    · subst ht
      rw [eGrp_b, eGrp_b, hb t (by omega) hn]
end EST
