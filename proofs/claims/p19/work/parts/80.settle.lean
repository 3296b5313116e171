/-! what settle does, by the model -/
/-- what a measurement keeps of the time it was taken -/
def CAk (P : Nat → Zp) (B : S5) (M : Nat → Nat → Zp) (dr : Nat → Bool) (n : Nat) (Y : Nat → Nat → Zp) (gt : Nat → Bool) (k : Nat) : Prop := ∃ q, bef P B M dr n k = some q ∧ Y k 2 = mY (M k) q ∧ Y k 3 = mS (M k) q ∧ Y k 4 = mG (M k) q ∧ gt k = mgt (M k) q
/-- settled at the times below t -/
def SEtl (P : Nat → Zp) (B : S5) (M : Nat → Nat → Zp) (dr : Nat → Bool) (n t : Nat) (Y : Nat → Nat → Zp) (gt : Nat → Bool) (sp sb : Nat → S5) : Prop := (∀ u, u < t → ahd P B M dr n u = some (sp u) ∧ beh P B M dr n u = some (sb u)) ∧ ∀ k, k < n → dr k = false → (M k 0).val < t → CAk P B M dr n Y gt k
/-- in the time t, ahead of the measurement k -/
def SEin (P : Nat → Zp) (B : S5) (M : Nat → Nat → Zp) (dr : Nat → Bool) (n t k : Nat) (Y : Nat → Nat → Zp) (gt : Nat → Bool) (sp sb : Nat → S5) : Prop := SEtl P B M dr n t Y gt sp sb ∧ ahd P B M dr n t = some (sp t) ∧ inn M dr t k (sp t) = some (sb t) ∧ ∀ j, j < k → j < n → dr j = false → (M j 0).val = t → CAk P B M dr n Y gt j
theorem CAk.congr {P : Nat → Zp} {B : S5} {M : Nat → Nat → Zp} {dr : Nat → Bool} {n : Nat} {Y Y' : Nat → Nat → Zp} {gt gt' : Nat → Bool} {k : Nat} (h : CAk P B M dr n Y gt k) (e1 : Y' k = Y k) (e2 : gt' k = gt k) : CAk P B M dr n Y' gt' k := by
  obtain ⟨q, h1, h2, h3, h4, h5⟩ := h
  exact ⟨q, h1, by rw [e1]; exact h2, by rw [e1]; exact h3, by rw [e1]; exact h4, by rw [e2]; exact h5⟩
theorem SEin.end {P : Nat → Zp} {B : S5} {M : Nat → Nat → Zp} {dr : Nat → Bool} {n t : Nat} {Y : Nat → Nat → Zp} {gt : Nat → Bool} {sp sb : Nat → S5} (h : SEin P B M dr n t n Y gt sp sb) : SEtl P B M dr n (t + 1) Y gt sp sb := by
  obtain ⟨⟨h1, h2⟩, h3, h4, h5⟩ := h
  refine ⟨fun u hu => ?_, fun k hk hd ht => ?_⟩
  · by_cases e : u = t
    · subst e
      exact ⟨h3, by rw [beh_eq, h3]; exact h4⟩
    · exact h1 u (by omega)
  · by_cases e : (M k 0).val = t
    · exact h5 k hk hk hd e
    · exact h2 k hk hd (by omega)
theorem SEin.skip {P : Nat → Zp} {B : S5} {M : Nat → Nat → Zp} {dr : Nat → Bool} {n t k : Nat} {Y : Nat → Nat → Zp} {gt : Nat → Bool} {sp sb : Nat → S5} (h : SEin P B M dr n t k Y gt sp sb) (h1 : ¬ ((M k 0).val = t ∧ dr k = false)) : SEin P B M dr n t (k + 1) Y gt sp sb := by
  refine ⟨h.1, h.2.1, inn_skip h.2.2.1 h1, fun j hj hjn hd ht => ?_⟩
  by_cases e : j = k
  · subst e
    exact absurd ⟨ht, hd⟩ h1
  · exact h.2.2.2 j (by omega) hjn hd ht
theorem SEin.take {P : Nat → Zp} {B : S5} {M : Nat → Nat → Zp} {dr : Nat → Bool} {n t k : Nat} {Y Y' : Nat → Nat → Zp} {gt gt' : Nat → Bool} {sp sb sb' : Nat → S5} (h : SEin P B M dr n t k Y gt sp sb) (ht : (M k 0).val = t) (hd : dr k = false) (hs : ¬ mS (M k) (sb t) = 0)
    (y2 : Y' k 2 = mY (M k) (sb t)) (y3 : Y' k 3 = mS (M k) (sb t)) (y4 : Y' k 4 = mG (M k) (sb t)) (yg : gt' k = mgt (M k) (sb t)) (yo : ∀ j, j ≠ k → Y' j = Y j ∧ gt' j = gt j) (st : sb' t = if mgt (M k) (sb t) = true then sb t else cor (M k) (sb t)) (so : ∀ u, u ≠ t → sb' u = sb u) : SEin P B M dr n t (k + 1) Y' gt' sp sb' := by
  have hc : ∀ j, j ≠ k → CAk P B M dr n Y gt j → CAk P B M dr n Y' gt' j := fun j hj q => q.congr (yo j hj).1 (yo j hj).2
  refine ⟨⟨fun u hu => ?_, fun j hj hdj htj => ?_⟩, h.2.1, ?_, fun j hj hjn hdj htj => ?_⟩
  · rw [so u (by omega)]
    exact h.1.1 u hu
  · refine hc j (fun e => ?_) (h.1.2 j hj hdj htj)
    subst e
    omega
  · rw [inn_take h.2.2.1 ht hd, st]
    exact if_neg hs
  · by_cases e : j = k
    · subst e
      refine ⟨sb t, ?_, y2, y3, y4, yg⟩
      unfold bef
      rw [ht, h.2.1]
      exact h.2.2.1
    · exact hc j e (h.2.2.2 j (by omega) hjn hdj htj)
theorem SEin.stop {P : Nat → Zp} {B : S5} {M : Nat → Nat → Zp} {dr : Nat → Bool} {n T t k : Nat} {Y : Nat → Nat → Zp} {gt : Nat → Bool} {sp sb : Nat → S5} (h : SEin P B M dr n t k Y gt sp sb) (hk : k < n) (htT : t ≤ T) (ht : (M k 0).val = t) (hd : dr k = false) (hs : mS (M k) (sb t) = 0) : beh P B M dr n T = none := by
  have h1 : inn M dr t (k + 1) (sp t) = none := by
    rw [inn_take h.2.2.1 ht hd]
    exact if_pos hs
  have h2 := inn_none h1 (n - (k + 1))
  rw [show k + 1 + (n - (k + 1)) = n by omega] at h2
  have h3 : beh P B M dr n t = none := by rw [beh_eq, h.2.1]; exact h2
  have h4 := beh_none h3 (T - t)
  rw [show t + (T - t) = T by omega] at h4
  exact h4
theorem SEtl.congr {P : Nat → Zp} {B : S5} {M : Nat → Nat → Zp} {dr : Nat → Bool} {n t : Nat} {Y : Nat → Nat → Zp} {gt : Nat → Bool} {sp sb sp' sb' : Nat → S5} (h : SEtl P B M dr n t Y gt sp sb) (e1 : ∀ u, u < t → sp' u = sp u) (e2 : ∀ u, u < t → sb' u = sb u) : SEtl P B M dr n t Y gt sp' sb' :=
  ⟨fun u hu => by rw [e1 u hu, e2 u hu]; exact h.1 u hu, h.2⟩
