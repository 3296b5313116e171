/-! the law: goes -/
/-! goes: what its arrays tell; what it finds -/
def EW (fe : Nat → Int) (one : Nat) (P : Nat → Zp) (B : S5) (T n : Nat) : Prop := (∀ i, i < 7 → fe (15 * one + i) = zv (P i)) ∧ fe (15 * one + 7) = zv B.1 ∧ fe (15 * one + 8) = zv B.2.1 ∧ fe (15 * one + 9) = zv B.2.2.1 ∧ fe (15 * one + 10) = zv B.2.2.2.1 ∧ fe (15 * one + 11) = zv B.2.2.2.2 ∧ fe (15 * one + 12) = ((T : Nat) : Int) ∧ fe (15 * one + 14) = ((n : Nat) : Int)
def MW (fq fv fu : Nat → Int) (one : Nat) (M : Nat → Nat → Zp) (dr : Nat → Bool) (n : Nat) : Prop := ∀ k, k < n → fq (8 * one + k) = zv (M k 1) * 4294967296 + (16 * (zv (M k 5) + 1) + zv (M k 0)) ∧ fv (8 * one + k) = zv (M k 2) * 4294967296 + zv (M k 3) ∧ fu (8 * one + k) = 2 * zv (M k 4) + iB (dr k)
def put5at (g : Nat → Zp) (t : Nat) (s : S5) : Nat → Zp := va_up (va_up (va_up (va_up (va_up g (5 * t + 0) s.1) (5 * t + 1) s.2.1) (5 * t + 2) s.2.2.1) (5 * t + 3) s.2.2.2.1) (5 * t + 4) s.2.2.2.2
theorem s5at_put (g : Nat → Zp) (t : Nat) (s : S5) : s5at (put5at g t s) t = s := by
  simp [s5at, put5at, va_up]
theorem s5at_ne (g : Nat → Zp) {t u : Nat} (h : u ≠ t) (s : S5) : s5at (put5at g t s) u = s5at g u := by
  have key : ∀ i, i < 5 → put5at g t s (5 * u + i) = g (5 * u + i) := fun i hi => by
    unfold put5at va_up
    rw [if_neg (by omega), if_neg (by omega), if_neg (by omega), if_neg (by omega), if_neg (by omega)]
  unfold s5at
  rw [key 0 (by omega), key 1 (by omega), key 2 (by omega), key 3 (by omega), key 4 (by omega)]
theorem s5_at0 (g : Nat → Zp) : s5 g = s5at g 0 := rfl
theorem s5_far (g : Nat → Zp) {t : Nat} (h : 0 < t) (s : S5) : s5 (put5at g t s) = s5 g := s5at_ne g (u := 0) (by omega) s
theorem s5at_put5 (g : Nat → Zp) (s : S5) {t : Nat} (h : 0 < t) : s5at (put5 g s) t = s5at g t := by
  have key : ∀ i, 5 ≤ i → put5 g s i = g i := fun i hi => by
    unfold put5 va_up
    rw [if_neg (by omega), if_neg (by omega), if_neg (by omega), if_neg (by omega), if_neg (by omega)]
  unfold s5at
  rw [key _ (by omega), key _ (by omega), key _ (by omega), key _ (by omega), key _ (by omega)]
theorem s5at_pw (g : Nat → Zp) (s : S5) {t : Nat} (h : 0 < t) : s5at (pw g s) t = s5at g t := by
  unfold s5at
  rw [pw_o _ _ (by omega), pw_o _ _ (by omega), pw_o _ _ (by omega), pw_o _ _ (by omega), pw_o _ _ (by omega)]
theorem up_id {α : Type} (f : Nat → α) (k : Nat) : va_up f k (f k) = f := by
  funext j
  by_cases h : j = k
  · subst h; rw [up_s]
  · rw [up_o _ _ h]
/-- what came of measurement k, taken at the state q -/
def YO (M : Nat → Nat → Zp) (fy : Nat → Zp) (k : Nat) (q : S5) : Prop := fy (4 * k) = mY (M k) q ∧ fy (4 * k + 1) = mS (M k) q ∧ fy (4 * k + 2) = mG (M k) q ∧ fy (4 * k + 3) = if mgt (M k) q = true then 1 else 0
def yput (fy : Nat → Zp) (k : Nat) (a b c d : Zp) : Nat → Zp := va_up (va_up (va_up (va_up fy (4 * k) a) (4 * k + 1) b) (4 * k + 2) c) (4 * k + 3) d
theorem YO.put (M : Nat → Nat → Zp) (fy : Nat → Zp) (k : Nat) (q : S5) {d : Zp} (h : d = if mgt (M k) q = true then 1 else 0) : YO M (yput fy k (mY (M k) q) (mS (M k) q) (mG (M k) q) d) k q := by
  unfold YO yput
  refine ⟨?_, ?_, ?_, ?_⟩
  · rw [up_o _ _ (by omega), up_o _ _ (by omega), up_o _ _ (by omega), up_s]
  · rw [up_o _ _ (by omega), up_o _ _ (by omega), up_s]
  · rw [up_o _ _ (by omega), up_s]
  · rw [up_s]; exact h
theorem YO.keep {M : Nat → Nat → Zp} {fy : Nat → Zp} {k j : Nat} {q : S5} (h : YO M fy j q) (hj : j ≠ k) (a b c d : Zp) : YO M (yput fy k a b c d) j q := by
  obtain ⟨h1, h2, h3, h4⟩ := h
  unfold YO yput
  refine ⟨?_, ?_, ?_, ?_⟩
  · rw [up_o _ _ (by omega), up_o _ _ (by omega), up_o _ _ (by omega), up_o _ _ (by omega)]; exact h1
  · rw [up_o _ _ (by omega), up_o _ _ (by omega), up_o _ _ (by omega), up_o _ _ (by omega)]; exact h2
  · rw [up_o _ _ (by omega), up_o _ _ (by omega), up_o _ _ (by omega), up_o _ _ (by omega)]; exact h3
  · rw [up_o _ _ (by omega), up_o _ _ (by omega), up_o _ _ (by omega), up_o _ _ (by omega)]; exact h4
def YOs (P : Nat → Zp) (B : S5) (M : Nat → Nat → Zp) (dr : Nat → Bool) (n : Nat) (fy : Nat → Zp) (p : Nat → Prop) : Prop := ∀ k, k < n → dr k = false → p k → ∃ q, bef P B M dr n k = some q ∧ YO M fy k q
/-- the rows of the times ahead of t -/
def RoA (P : Nat → Zp) (B : S5) (M : Nat → Nat → Zp) (dr : Nat → Bool) (n : Nat) (fw : Nat → Zp) (t : Nat) : Prop := ∀ u, u < t → ahd P B M dr n u = some (s5at fw (u + 1))
def RoB (P : Nat → Zp) (B : S5) (M : Nat → Nat → Zp) (dr : Nat → Bool) (n : Nat) (fw : Nat → Zp) (t : Nat) : Prop := ∀ u, u < t → u < 4 → beh P B M dr n u = some (s5at fw (u + 8))
def goP (P : Nat → Zp) (B : S5) (M : Nat → Nat → Zp) (dr : Nat → Bool) (n T : Nat) (r : Int32) (fw fy : Nat → Zp) : Prop :=
  (beh P B M dr n T = none ∧ r = jI (iB false)) ∨ (r = jI (iB true) ∧ beh P B M dr n T = some (s5 fw) ∧ RoA P B M dr n fw (T + 1) ∧ RoB P B M dr n fw (T + 1) ∧ YOs P B M dr n fy (fun k => (M k 0).val ≤ T))
theorem lcor_eq (m : Nat → Zp) (s : S5) (f : Zp) (hf : f = zinv (mS m s)) :
    ((s.1 + ph0 m s * f * mY m s), (s.2.1 + ph1 m s * f * mY m s), (s.2.2.1 + ph0 m s * f * (-ph0 m s)), (s.2.2.2.1 + ph0 m s * f * (-ph1 m s)), (s.2.2.2.2 + ph1 m s * f * (-ph1 m s))) = cor m s := by
  subst hf
  unfold cor
  refine Prod.ext ?_ (Prod.ext ?_ (Prod.ext ?_ (Prod.ext ?_ ?_)))
  · show s.1 + ph0 m s * zinv (mS m s) * mY m s = _; grind
  · show s.2.1 + ph1 m s * zinv (mS m s) * mY m s = _; grind
  · show s.2.2.1 + ph0 m s * zinv (mS m s) * (-ph0 m s) = _; grind
  · show s.2.2.2.1 + ph0 m s * zinv (mS m s) * (-ph1 m s) = _; grind
  · show s.2.2.2.2 + ph1 m s * zinv (mS m s) * (-ph1 m s) = _; grind

theorem r01_B (b : Bool) : 0 ≤ iB b ∧ iB b ≤ 1 := by cases b <;> decide
set_option maxHeartbeats 8000000 in
set_option maxRecDepth 100000 in
/-- the law works the way of an estimator out -/
theorem c_L_goes (l : Launch) (D : va_G) (tys : List (ClassId × FieldType)) {cI cJ : ClassId} (htI : tys[0]? = some (cI, .int)) (htJ : tys[1]? = some (cJ, .long)) (e0 q0 v0 u0 w0 y0 : Nat) (one : Nat) (fe fq fv fu : Nat → Int) (fw fy : Nat → Zp) (P : Nat → Zp) (B : S5) (M : Nat → Nat → Zp) (dr : Nat → Bool) (T n : Nat) (q1 : one < 2) (qT : T ≤ 6) (qN : n ≤ 8) (hE : EW fe one P B T n) (hM : MW fq fv fu one M dr n) (htm : ∀ k, k < n → (M k 0).val ≤ T) : CtE (S := (Nat → Zp) × (Nat → Zp)) l D tys yL_goes wsL_goes 2 56 [.ref e0, .ref q0, .ref v0, .ref u0, .ref w0, .ref y0, .int (jI ((one : Nat) : Int))] (fun (r : Int32) (u : (Nat → Zp) × (Nat → Zp)) => goP P B M dr n T r u.1 u.2) [(e0, .inl (cI, 45, .inl (fun i => jI (fe i)))), (q0, .inl (cJ, 16, .inr (.inl (fun i => jL (fq i))))), (v0, .inl (cJ, 16, .inr (.inl (fun i => jL (fv i))))), (u0, .inl (cJ, 16, .inr (.inl (fun i => jL (fu i))))), (w0, .inl (cJ, 60, .inr (.inl (fun i => vL (fw i))))), (y0, .inl (cJ, 32, .inr (.inl (fun i => vL (fy i)))))] (fun u => [(e0, .inl (cI, 45, .inl (fun i => jI (fe i)))), (q0, .inl (cJ, 16, .inr (.inl (fun i => jL (fq i))))), (v0, .inl (cJ, 16, .inr (.inl (fun i => jL (fv i))))), (u0, .inl (cJ, 16, .inr (.inl (fun i => jL (fu i))))), (w0, .inl (cJ, 60, .inr (.inl (fun i => vL (u.1 i))))), (y0, .inl (cJ, 32, .inr (.inl (fun i => vL (u.2 i)))))]) := by
  refine CtE.of (cc := cL_goes) (maxL := 31) (by decide +kernel) rfl (fun _ => rfl) (Nat.le_of_ble_eq_true rfl) ?_
  intro p e s m below meth c A ls hcx hK hP hD hA hl
  obtain ⟨hx, hb, hr, hml, hown, hts, hlocks⟩ := hcx
  have hS : va_S A s.heap s.heap [] := va_S.rf
  have hown : s.vm.findClass RL = some m.cls := hown
  have hl : lv_has ls 31 [(0, .ref e0), (1, .ref q0), (2, .ref v0), (3, .ref u0), (4, .ref w0), (5, .ref y0), (6, .int (jI ((one : Nat) : Int)))] := hl
  have hat : (15 * ((one : Nat) : Int)) = (((15 * one) : Nat) : Int) := by omega
  have hk0 : (8 * ((one : Nat) : Int)) = (((8 * one + 0) : Nat) : Int) := by omega
  obtain ⟨hEP, hE7, hE8, hE9, hE10, hE11, hE12, hE14⟩ := hE
  have hE0 : fe (15 * one + 0) = zv (P 0) := hEP 0 (by omega)
  have hE1 : fe (15 * one + 1) = zv (P 1) := hEP 1 (by omega)
  have hE2 : fe (15 * one + 2) = zv (P 2) := hEP 2 (by omega)
  have hE3 : fe (15 * one + 3) = zv (P 3) := hEP 3 (by omega)
  have hE4 : fe (15 * one + 4) = zv (P 4) := hEP 4 (by omega)
  have hE5 : fe (15 * one + 5) = zv (P 5) := hEP 5 (by omega)
  have hE6 : fe (15 * one + 6) = zv (P 6) := hEP 6 (by omega)
  have k84 : (Cond.constantLong RL 84 (jL 16)).before _ s = true := hts (.constantLong RL 84 (16)) (by decide +kernel)
  have k86 : (Cond.constantLong RL 86 (jL 2)).before _ s = true := hts (.constantLong RL 86 (2)) (by decide +kernel)
  have k88 : (Cond.constantLong RL 88 (jL 65536)).before _ s = true := hts (.constantLong RL 88 (65536)) (by decide +kernel)
  have k93 : (Cond.constantLong RL 93 (jL 4294967296)).before _ s = true := hts (.constantLong RL 93 (4294967296)) (by decide +kernel)
  have outer : ∀ (f t : Nat) (fw fy : Nat → Zp) (H : Heap) (locs : List Loc) (ls : Array Slot), T + 1 - t < f → t ≤ T + 1 → ((t = 0 ∧ s5 fw = B) ∨ ∃ u, t = u + 1 ∧ beh P B M dr n u = some (s5 fw)) → RoA P B M dr n fw t → RoB P B M dr n fw t → YOs P B M dr n fy (fun k => (M k 0).val < t) → va_P D vwCl [(e0, .inl (cI, 45, .inl (fun i => jI (fe i)))), (q0, .inl (cJ, 16, .inr (.inl (fun i => jL (fq i))))), (v0, .inl (cJ, 16, .inr (.inl (fun i => jL (fv i))))), (u0, .inl (cJ, 16, .inr (.inl (fun i => jL (fu i))))), (w0, .inl (cJ, 60, .inr (.inl (fun i => vL (fw i))))), (y0, .inl (cJ, 32, .inr (.inl (fun i => vL (fy i)))))] H → va_D A [(e0, .inl (cI, 45, .inl (fun i => jI (fe i)))), (q0, .inl (cJ, 16, .inr (.inl (fun i => jL (fq i))))), (v0, .inl (cJ, 16, .inr (.inl (fun i => jL (fv i))))), (u0, .inl (cJ, 16, .inr (.inl (fun i => jL (fu i))))), (w0, .inl (cJ, 60, .inr (.inl (fun i => vL (fw i))))), (y0, .inl (cJ, 32, .inr (.inl (fun i => vL (fy i)))))] → va_S A s.heap H locs → lv_has ls 31 [(8, .int (jI ((t : Nat) : Int))), (0, .ref e0), (1, .ref q0), (2, .ref v0), (3, .ref u0), (4, .ref w0), (5, .ref y0), (6, .int (jI ((one : Nat) : Int))), (7, .int (jI (((15 * one) : Nat) : Int)))] → W p l e { frames := 2, cells := 0, slots := 0, locals := 56 } s m ([Value.ref e0, .ref q0, .ref v0, .ref u0, .ref w0, .ref y0, .int (jI ((one : Nat) : Int))] : List Value).toArray below meth c H locs 0 0 (MQ below (EE D A (fun (r : Int32) (u : (Nat → Zp) × (Nat → Zp)) => goP P B M dr n T r u.1 u.2) (fun u => [(e0, .inl (cI, 45, .inl (fun i => jI (fe i)))), (q0, .inl (cJ, 16, .inr (.inl (fun i => jL (fq i))))), (v0, .inl (cJ, 16, .inr (.inl (fun i => jL (fv i))))), (u0, .inl (cJ, 16, .inr (.inl (fun i => jL (fu i))))), (w0, .inl (cJ, 60, .inr (.inl (fun i => vL (u.1 i))))), (y0, .inl (cJ, 32, .inr (.inl (fun i => vL (u.2 i)))))])) ([Value.ref e0, .ref q0, .ref v0, .ref u0, .ref w0, .ref y0, .int (jI ((one : Nat) : Int))] : List Value).toArray s 0 0 A) (F0 m 41 ls []) := by
    intro f
    induction f with
    | zero => intro t fw fy H locs ls hf; omega
    | succ f ihf =>
      intro t fw fy H locs ls hf ht hcur hra hrb houts hP hD hS hl
      by_cases hTt : T < t
      · obtain ⟨u, rfl, hu⟩ : ∃ u, t = u + 1 ∧ beh P B M dr n u = some (s5 fw) := by
          rcases hcur with ⟨h0, -⟩ | h0
          · omega
          · exact h0
        have hu1 : u = T := by omega
        refine lv_iload hx hb dL_goes_41 (lv_at hl 0 rfl) ?_
        refine lv_aload_n hx hb dL_goes_43 rfl (lv_at hl 1 rfl) ?_
        refine lv_iload hx hb dL_goes_44 (lv_at hl 8 rfl) ?_
        refine n_bipush hx hb dL_goes_46 (by decide) ?_
        refine n_iadd hx hb dL_goes_48 ?_
        refine n_ialdv (i := ((15 * one) + 12)) (v := ((T : Nat) : Int)) hx hb hK hP 0 0 rfl htI (by omega) (by omega) (Nat.le_of_ble_eq_true rfl) hE12 dL_goes_49 ?_
        refine n_icmp_gt (tgt := 547) hx hb (by unfold r32; omega) (by unfold r32; omega) dL_goes_50 (by decide) (fun h50 => ?_) (fun h50 => False.elim (by omega))
        refine n_iconst hx hb dL_goes_547 ?_
        refine e_zret (fw, fy) hx hb hr hlocks dL_goes_548 hP hS rfl (Or.inr ⟨rfl, ?_, ?_, ?_, ?_⟩)
        · rw [← hu1]; exact hu
        · rw [← hu1]; exact hra
        · rw [← hu1]; exact hrb
        · intro k h1 h2 h3
          exact houts k h1 h2 (by show (M k 0).val < u + 1; have h3 : (M k 0).val ≤ T := h3; omega)
      have inner : ∀ (g k : Nat) (fw fy : Nat → Zp) (H : Heap) (locs : List Loc) (ls : Array Slot), n - k < g → k ≤ n → RoA P B M dr n fw (t + 1) → RoB P B M dr n fw t → ahd P B M dr n t = some (s5at fw (t + 1)) → inn M dr t k (s5at fw (t + 1)) = some (s5 fw) → YOs P B M dr n fy (fun j => (M j 0).val < t ∨ ((M j 0).val = t ∧ j < k)) → va_P D vwCl [(e0, .inl (cI, 45, .inl (fun i => jI (fe i)))), (q0, .inl (cJ, 16, .inr (.inl (fun i => jL (fq i))))), (v0, .inl (cJ, 16, .inr (.inl (fun i => jL (fv i))))), (u0, .inl (cJ, 16, .inr (.inl (fun i => jL (fu i))))), (w0, .inl (cJ, 60, .inr (.inl (fun i => vL (fw i))))), (y0, .inl (cJ, 32, .inr (.inl (fun i => vL (fy i)))))] H → va_D A [(e0, .inl (cI, 45, .inl (fun i => jI (fe i)))), (q0, .inl (cJ, 16, .inr (.inl (fun i => jL (fq i))))), (v0, .inl (cJ, 16, .inr (.inl (fun i => jL (fv i))))), (u0, .inl (cJ, 16, .inr (.inl (fun i => jL (fu i))))), (w0, .inl (cJ, 60, .inr (.inl (fun i => vL (fw i))))), (y0, .inl (cJ, 32, .inr (.inl (fun i => vL (fy i)))))] → va_S A s.heap H locs → lv_has ls 31 [(9, .int (jI (((8 * one + k) : Nat) : Int))), (8, .int (jI ((t : Nat) : Int))), (0, .ref e0), (1, .ref q0), (2, .ref v0), (3, .ref u0), (4, .ref w0), (5, .ref y0), (6, .int (jI ((one : Nat) : Int))), (7, .int (jI (((15 * one) : Nat) : Int)))] → W p l e { frames := 2, cells := 0, slots := 0, locals := 56 } s m ([Value.ref e0, .ref q0, .ref v0, .ref u0, .ref w0, .ref y0, .int (jI ((one : Nat) : Int))] : List Value).toArray below meth c H locs 0 0 (MQ below (EE D A (fun (r : Int32) (u : (Nat → Zp) × (Nat → Zp)) => goP P B M dr n T r u.1 u.2) (fun u => [(e0, .inl (cI, 45, .inl (fun i => jI (fe i)))), (q0, .inl (cJ, 16, .inr (.inl (fun i => jL (fq i))))), (v0, .inl (cJ, 16, .inr (.inl (fun i => jL (fv i))))), (u0, .inl (cJ, 16, .inr (.inl (fun i => jL (fu i))))), (w0, .inl (cJ, 60, .inr (.inl (fun i => vL (u.1 i))))), (y0, .inl (cJ, 32, .inr (.inl (fun i => vL (u.2 i)))))])) ([Value.ref e0, .ref q0, .ref v0, .ref u0, .ref w0, .ref y0, .int (jI ((one : Nat) : Int))] : List Value).toArray s 0 0 A) (F0 m 105 ls []) := by
        intro g
        induction g with
        | zero => intro k fw fy H locs ls hg; omega
        | succ g ih =>
          intro k fw fy H locs ls hg hk hra hrb ha hin houts hP hD hS hl
          by_cases hkn : n ≤ k
          · have hkn : k = n := by omega
            have hbt : beh P B M dr n t = some (s5 fw) := by rw [beh_eq, ha]; rw [hkn] at hin; exact hin
            have houts2 : YOs P B M dr n fy (fun j => (M j 0).val < t + 1) := by
              intro j h1 h2 h3
              have h3 : (M j 0).val < t + 1 := h3
              exact houts j h1 h2 (by show _ < t ∨ (_ = t ∧ j < k); omega)
            by_cases h4 : t < 4
            · skip
              refine lv_iload hx hb dL_goes_105 (lv_at hl 0 rfl) ?_
              refine n_bipush hx hb dL_goes_107 (by decide) ?_
              refine lv_iload hx hb dL_goes_109 (lv_at hl 8 rfl) ?_
              refine n_imul hx hb dL_goes_111 ?_
              refine lv_aload_n hx hb dL_goes_112 rfl (lv_at hl 2 rfl) ?_
              refine lv_iload hx hb dL_goes_113 (lv_at hl 9 rfl) ?_
              refine n_bipush hx hb dL_goes_115 (by decide) ?_
              refine n_iadd hx hb dL_goes_117 ?_
              refine n_ialdv (i := ((15 * one) + 14)) (v := ((n : Nat) : Int)) hx hb hK hP 0 0 rfl htI (by omega) (by omega) (Nat.le_of_ble_eq_true rfl) hE14 dL_goes_118 ?_
              refine n_iadd hx hb dL_goes_119 ?_
              refine n_icmp_ge (tgt := 484) hx hb (by unfold r32; omega) (by unfold r32; omega) dL_goes_120 (by decide) (fun h120 => ?_) (fun h120 => False.elim (by omega))
              refine n_iconst hx hb dL_goes_484 ?_
              refine lv_istore (lv' := [(9, .int (jI 0)), (8, .int (jI ((t : Nat) : Int))), (0, .ref e0), (1, .ref q0), (2, .ref v0), (3, .ref u0), (4, .ref w0), (5, .ref y0), (6, .int (jI ((one : Nat) : Int))), (7, .int (jI (((15 * one) : Nat) : Int)))]) hx hb dL_goes_485 hl (by decide) rfl (fun ls hl => ?_)
              refine lv_iload hx hb dL_goes_487 (lv_at hl 0 rfl) ?_
              refine n_iconst hx hb dL_goes_489 ?_
              refine n_icmp_ge (tgt := 541) hx hb (by unfold r32; decide) (by unfold r32; decide) dL_goes_490 (by decide) (fun h490 => False.elim (by revert h490; decide)) (fun h490 => ?_)
              refine lv_aload hx hb dL_goes_493 (lv_at hl 6 rfl) ?_
              refine n_bipush hx hb dL_goes_495 (by decide) ?_
              refine lv_iload hx hb dL_goes_497 (lv_at hl 1 rfl) ?_
              refine n_iconst hx hb dL_goes_499 ?_
              refine n_icmp_ge (tgt := 513) hx hb (by unfold r32; omega) (by unfold r32; omega) dL_goes_500 (by decide) (fun h500 => False.elim (by omega)) (fun h500 => ?_)
              refine n_iconst hx hb dL_goes_503 ?_
              refine lv_iload hx hb dL_goes_504 (lv_at hl 1 rfl) ?_
              refine n_imul hx hb dL_goes_506 ?_
              refine lv_iload hx hb dL_goes_507 (lv_at hl 0 rfl) ?_
              refine n_iadd hx hb dL_goes_509 ?_
              refine lv_goto (tgt := 514) hx hb dL_goes_510 (by decide) ?_
              refine n_iadd hx hb dL_goes_514 ?_
              refine lv_iload hx hb dL_goes_515 (lv_at hl 1 rfl) ?_
              refine n_iconst hx hb dL_goes_517 ?_
              refine n_icmp_ge (tgt := 529) hx hb (by unfold r32; omega) (by unfold r32; omega) dL_goes_518 (by decide) (fun h518 => False.elim (by omega)) (fun h518 => ?_)
              refine lv_aload hx hb dL_goes_521 (lv_at hl 6 rfl) ?_
              refine lv_iload hx hb dL_goes_523 (lv_at hl 0 rfl) ?_
              refine n_lald (i := 0) hx hb hK hP 4 1 rfl htJ rfl (Nat.le_of_ble_eq_true rfl) (Nat.le_of_ble_eq_true rfl) dL_goes_525 ?_
              refine lv_goto (tgt := 534) hx hb dL_goes_526 (by decide) ?_
              refine n_zlast (i := (5 * (t + 8) + 0)) (x := (fw 0)) hx hb hK hP hD hS 4 1 rfl htJ (by omega) (by omega) (Nat.le_of_ble_eq_true rfl) dL_goes_534 (fun H locs hP hD hS => ?_)
              have hP : va_P D vwCl [(e0, .inl (cI, 45, .inl (fun i => jI (fe i)))), (q0, .inl (cJ, 16, .inr (.inl (fun i => jL (fq i))))), (v0, .inl (cJ, 16, .inr (.inl (fun i => jL (fv i))))), (u0, .inl (cJ, 16, .inr (.inl (fun i => jL (fu i))))), (w0, .inl (cJ, 60, .inr (.inl (fun i => vL ((va_up fw (5 * (t + 8) + 0) (fw 0)) i))))), (y0, .inl (cJ, 32, .inr (.inl (fun i => vL (fy i)))))] H := hP
              have hD : va_D A [(e0, .inl (cI, 45, .inl (fun i => jI (fe i)))), (q0, .inl (cJ, 16, .inr (.inl (fun i => jL (fq i))))), (v0, .inl (cJ, 16, .inr (.inl (fun i => jL (fv i))))), (u0, .inl (cJ, 16, .inr (.inl (fun i => jL (fu i))))), (w0, .inl (cJ, 60, .inr (.inl (fun i => vL ((va_up fw (5 * (t + 8) + 0) (fw 0)) i))))), (y0, .inl (cJ, 32, .inr (.inl (fun i => vL (fy i)))))] := hD
              refine lv_iinc (v := jI 1) (lv' := [(9, .int (jI 1)), (8, .int (jI ((t : Nat) : Int))), (0, .ref e0), (1, .ref q0), (2, .ref v0), (3, .ref u0), (4, .ref w0), (5, .ref y0), (6, .int (jI ((one : Nat) : Int))), (7, .int (jI (((15 * one) : Nat) : Int)))]) hx hb dL_goes_535 hl (k := 0) rfl (jI_add 0 1) (by decide) rfl (fun ls hl => ?_)
              refine lv_goto (tgt := 487) hx hb dL_goes_538 (by decide) ?_
              refine lv_iload hx hb dL_goes_487 (lv_at hl 0 rfl) ?_
              refine n_iconst hx hb dL_goes_489 ?_
              refine n_icmp_ge (tgt := 541) hx hb (by unfold r32; decide) (by unfold r32; decide) dL_goes_490 (by decide) (fun h490 => False.elim (by revert h490; decide)) (fun h490 => ?_)
              refine lv_aload hx hb dL_goes_493 (lv_at hl 6 rfl) ?_
              refine n_bipush hx hb dL_goes_495 (by decide) ?_
              refine lv_iload hx hb dL_goes_497 (lv_at hl 1 rfl) ?_
              refine n_iconst hx hb dL_goes_499 ?_
              refine n_icmp_ge (tgt := 513) hx hb (by unfold r32; omega) (by unfold r32; omega) dL_goes_500 (by decide) (fun h500 => False.elim (by omega)) (fun h500 => ?_)
              refine n_iconst hx hb dL_goes_503 ?_
              refine lv_iload hx hb dL_goes_504 (lv_at hl 1 rfl) ?_
              refine n_imul hx hb dL_goes_506 ?_
              refine lv_iload hx hb dL_goes_507 (lv_at hl 0 rfl) ?_
              refine n_iadd hx hb dL_goes_509 ?_
              refine lv_goto (tgt := 514) hx hb dL_goes_510 (by decide) ?_
              refine n_iadd hx hb dL_goes_514 ?_
              refine lv_iload hx hb dL_goes_515 (lv_at hl 1 rfl) ?_
              refine n_iconst hx hb dL_goes_517 ?_
              refine n_icmp_ge (tgt := 529) hx hb (by unfold r32; omega) (by unfold r32; omega) dL_goes_518 (by decide) (fun h518 => False.elim (by omega)) (fun h518 => ?_)
              refine lv_aload hx hb dL_goes_521 (lv_at hl 6 rfl) ?_
              refine lv_iload hx hb dL_goes_523 (lv_at hl 0 rfl) ?_
              refine n_laldv (i := 1) (v := (zv (fw 1))) hx hb hK hP 4 1 rfl htJ rfl (Nat.le_of_ble_eq_true rfl) (Nat.le_of_ble_eq_true rfl) (congrArg zv (up_o _ _ (by omega))) dL_goes_525 ?_
              refine lv_goto (tgt := 534) hx hb dL_goes_526 (by decide) ?_
              refine n_zlast (i := (5 * (t + 8) + 1)) (x := (fw 1)) hx hb hK hP hD hS 4 1 rfl htJ (by omega) (by omega) (Nat.le_of_ble_eq_true rfl) dL_goes_534 (fun H locs hP hD hS => ?_)
              have hP : va_P D vwCl [(e0, .inl (cI, 45, .inl (fun i => jI (fe i)))), (q0, .inl (cJ, 16, .inr (.inl (fun i => jL (fq i))))), (v0, .inl (cJ, 16, .inr (.inl (fun i => jL (fv i))))), (u0, .inl (cJ, 16, .inr (.inl (fun i => jL (fu i))))), (w0, .inl (cJ, 60, .inr (.inl (fun i => vL ((va_up (va_up fw (5 * (t + 8) + 0) (fw 0)) (5 * (t + 8) + 1) (fw 1)) i))))), (y0, .inl (cJ, 32, .inr (.inl (fun i => vL (fy i)))))] H := hP
              have hD : va_D A [(e0, .inl (cI, 45, .inl (fun i => jI (fe i)))), (q0, .inl (cJ, 16, .inr (.inl (fun i => jL (fq i))))), (v0, .inl (cJ, 16, .inr (.inl (fun i => jL (fv i))))), (u0, .inl (cJ, 16, .inr (.inl (fun i => jL (fu i))))), (w0, .inl (cJ, 60, .inr (.inl (fun i => vL ((va_up (va_up fw (5 * (t + 8) + 0) (fw 0)) (5 * (t + 8) + 1) (fw 1)) i))))), (y0, .inl (cJ, 32, .inr (.inl (fun i => vL (fy i)))))] := hD
              refine lv_iinc (v := jI 2) (lv' := [(9, .int (jI 2)), (8, .int (jI ((t : Nat) : Int))), (0, .ref e0), (1, .ref q0), (2, .ref v0), (3, .ref u0), (4, .ref w0), (5, .ref y0), (6, .int (jI ((one : Nat) : Int))), (7, .int (jI (((15 * one) : Nat) : Int)))]) hx hb dL_goes_535 hl (k := 0) rfl (jI_add 1 1) (by decide) rfl (fun ls hl => ?_)
              refine lv_goto (tgt := 487) hx hb dL_goes_538 (by decide) ?_
              refine lv_iload hx hb dL_goes_487 (lv_at hl 0 rfl) ?_
              refine n_iconst hx hb dL_goes_489 ?_
              refine n_icmp_ge (tgt := 541) hx hb (by unfold r32; decide) (by unfold r32; decide) dL_goes_490 (by decide) (fun h490 => False.elim (by revert h490; decide)) (fun h490 => ?_)
              refine lv_aload hx hb dL_goes_493 (lv_at hl 6 rfl) ?_
              refine n_bipush hx hb dL_goes_495 (by decide) ?_
              refine lv_iload hx hb dL_goes_497 (lv_at hl 1 rfl) ?_
              refine n_iconst hx hb dL_goes_499 ?_
              refine n_icmp_ge (tgt := 513) hx hb (by unfold r32; omega) (by unfold r32; omega) dL_goes_500 (by decide) (fun h500 => False.elim (by omega)) (fun h500 => ?_)
              refine n_iconst hx hb dL_goes_503 ?_
              refine lv_iload hx hb dL_goes_504 (lv_at hl 1 rfl) ?_
              refine n_imul hx hb dL_goes_506 ?_
              refine lv_iload hx hb dL_goes_507 (lv_at hl 0 rfl) ?_
              refine n_iadd hx hb dL_goes_509 ?_
              refine lv_goto (tgt := 514) hx hb dL_goes_510 (by decide) ?_
              refine n_iadd hx hb dL_goes_514 ?_
              refine lv_iload hx hb dL_goes_515 (lv_at hl 1 rfl) ?_
              refine n_iconst hx hb dL_goes_517 ?_
              refine n_icmp_ge (tgt := 529) hx hb (by unfold r32; omega) (by unfold r32; omega) dL_goes_518 (by decide) (fun h518 => False.elim (by omega)) (fun h518 => ?_)
              refine lv_aload hx hb dL_goes_521 (lv_at hl 6 rfl) ?_
              refine lv_iload hx hb dL_goes_523 (lv_at hl 0 rfl) ?_
              refine n_laldv (i := 2) (v := (zv (fw 2))) hx hb hK hP 4 1 rfl htJ rfl (Nat.le_of_ble_eq_true rfl) (Nat.le_of_ble_eq_true rfl) (congrArg zv ((up_o _ _ (by omega)).trans (up_o _ _ (by omega)))) dL_goes_525 ?_
              refine lv_goto (tgt := 534) hx hb dL_goes_526 (by decide) ?_
              refine n_zlast (i := (5 * (t + 8) + 2)) (x := (fw 2)) hx hb hK hP hD hS 4 1 rfl htJ (by omega) (by omega) (Nat.le_of_ble_eq_true rfl) dL_goes_534 (fun H locs hP hD hS => ?_)
              have hP : va_P D vwCl [(e0, .inl (cI, 45, .inl (fun i => jI (fe i)))), (q0, .inl (cJ, 16, .inr (.inl (fun i => jL (fq i))))), (v0, .inl (cJ, 16, .inr (.inl (fun i => jL (fv i))))), (u0, .inl (cJ, 16, .inr (.inl (fun i => jL (fu i))))), (w0, .inl (cJ, 60, .inr (.inl (fun i => vL ((va_up (va_up (va_up fw (5 * (t + 8) + 0) (fw 0)) (5 * (t + 8) + 1) (fw 1)) (5 * (t + 8) + 2) (fw 2)) i))))), (y0, .inl (cJ, 32, .inr (.inl (fun i => vL (fy i)))))] H := hP
              have hD : va_D A [(e0, .inl (cI, 45, .inl (fun i => jI (fe i)))), (q0, .inl (cJ, 16, .inr (.inl (fun i => jL (fq i))))), (v0, .inl (cJ, 16, .inr (.inl (fun i => jL (fv i))))), (u0, .inl (cJ, 16, .inr (.inl (fun i => jL (fu i))))), (w0, .inl (cJ, 60, .inr (.inl (fun i => vL ((va_up (va_up (va_up fw (5 * (t + 8) + 0) (fw 0)) (5 * (t + 8) + 1) (fw 1)) (5 * (t + 8) + 2) (fw 2)) i))))), (y0, .inl (cJ, 32, .inr (.inl (fun i => vL (fy i)))))] := hD
              refine lv_iinc (v := jI 3) (lv' := [(9, .int (jI 3)), (8, .int (jI ((t : Nat) : Int))), (0, .ref e0), (1, .ref q0), (2, .ref v0), (3, .ref u0), (4, .ref w0), (5, .ref y0), (6, .int (jI ((one : Nat) : Int))), (7, .int (jI (((15 * one) : Nat) : Int)))]) hx hb dL_goes_535 hl (k := 0) rfl (jI_add 2 1) (by decide) rfl (fun ls hl => ?_)
              refine lv_goto (tgt := 487) hx hb dL_goes_538 (by decide) ?_
              refine lv_iload hx hb dL_goes_487 (lv_at hl 0 rfl) ?_
              refine n_iconst hx hb dL_goes_489 ?_
              refine n_icmp_ge (tgt := 541) hx hb (by unfold r32; decide) (by unfold r32; decide) dL_goes_490 (by decide) (fun h490 => False.elim (by revert h490; decide)) (fun h490 => ?_)
              refine lv_aload hx hb dL_goes_493 (lv_at hl 6 rfl) ?_
              refine n_bipush hx hb dL_goes_495 (by decide) ?_
              refine lv_iload hx hb dL_goes_497 (lv_at hl 1 rfl) ?_
              refine n_iconst hx hb dL_goes_499 ?_
              refine n_icmp_ge (tgt := 513) hx hb (by unfold r32; omega) (by unfold r32; omega) dL_goes_500 (by decide) (fun h500 => False.elim (by omega)) (fun h500 => ?_)
              refine n_iconst hx hb dL_goes_503 ?_
              refine lv_iload hx hb dL_goes_504 (lv_at hl 1 rfl) ?_
              refine n_imul hx hb dL_goes_506 ?_
              refine lv_iload hx hb dL_goes_507 (lv_at hl 0 rfl) ?_
              refine n_iadd hx hb dL_goes_509 ?_
              refine lv_goto (tgt := 514) hx hb dL_goes_510 (by decide) ?_
              refine n_iadd hx hb dL_goes_514 ?_
              refine lv_iload hx hb dL_goes_515 (lv_at hl 1 rfl) ?_
              refine n_iconst hx hb dL_goes_517 ?_
              refine n_icmp_ge (tgt := 529) hx hb (by unfold r32; omega) (by unfold r32; omega) dL_goes_518 (by decide) (fun h518 => False.elim (by omega)) (fun h518 => ?_)
              refine lv_aload hx hb dL_goes_521 (lv_at hl 6 rfl) ?_
              refine lv_iload hx hb dL_goes_523 (lv_at hl 0 rfl) ?_
              refine n_laldv (i := 3) (v := (zv (fw 3))) hx hb hK hP 4 1 rfl htJ rfl (Nat.le_of_ble_eq_true rfl) (Nat.le_of_ble_eq_true rfl) (congrArg zv ((up_o _ _ (by omega)).trans ((up_o _ _ (by omega)).trans (up_o _ _ (by omega))))) dL_goes_525 ?_
              refine lv_goto (tgt := 534) hx hb dL_goes_526 (by decide) ?_
              refine n_zlast (i := (5 * (t + 8) + 3)) (x := (fw 3)) hx hb hK hP hD hS 4 1 rfl htJ (by omega) (by omega) (Nat.le_of_ble_eq_true rfl) dL_goes_534 (fun H locs hP hD hS => ?_)
              have hP : va_P D vwCl [(e0, .inl (cI, 45, .inl (fun i => jI (fe i)))), (q0, .inl (cJ, 16, .inr (.inl (fun i => jL (fq i))))), (v0, .inl (cJ, 16, .inr (.inl (fun i => jL (fv i))))), (u0, .inl (cJ, 16, .inr (.inl (fun i => jL (fu i))))), (w0, .inl (cJ, 60, .inr (.inl (fun i => vL ((va_up (va_up (va_up (va_up fw (5 * (t + 8) + 0) (fw 0)) (5 * (t + 8) + 1) (fw 1)) (5 * (t + 8) + 2) (fw 2)) (5 * (t + 8) + 3) (fw 3)) i))))), (y0, .inl (cJ, 32, .inr (.inl (fun i => vL (fy i)))))] H := hP
              have hD : va_D A [(e0, .inl (cI, 45, .inl (fun i => jI (fe i)))), (q0, .inl (cJ, 16, .inr (.inl (fun i => jL (fq i))))), (v0, .inl (cJ, 16, .inr (.inl (fun i => jL (fv i))))), (u0, .inl (cJ, 16, .inr (.inl (fun i => jL (fu i))))), (w0, .inl (cJ, 60, .inr (.inl (fun i => vL ((va_up (va_up (va_up (va_up fw (5 * (t + 8) + 0) (fw 0)) (5 * (t + 8) + 1) (fw 1)) (5 * (t + 8) + 2) (fw 2)) (5 * (t + 8) + 3) (fw 3)) i))))), (y0, .inl (cJ, 32, .inr (.inl (fun i => vL (fy i)))))] := hD
              refine lv_iinc (v := jI 4) (lv' := [(9, .int (jI 4)), (8, .int (jI ((t : Nat) : Int))), (0, .ref e0), (1, .ref q0), (2, .ref v0), (3, .ref u0), (4, .ref w0), (5, .ref y0), (6, .int (jI ((one : Nat) : Int))), (7, .int (jI (((15 * one) : Nat) : Int)))]) hx hb dL_goes_535 hl (k := 0) rfl (jI_add 3 1) (by decide) rfl (fun ls hl => ?_)
              refine lv_goto (tgt := 487) hx hb dL_goes_538 (by decide) ?_
              refine lv_iload hx hb dL_goes_487 (lv_at hl 0 rfl) ?_
              refine n_iconst hx hb dL_goes_489 ?_
              refine n_icmp_ge (tgt := 541) hx hb (by unfold r32; decide) (by unfold r32; decide) dL_goes_490 (by decide) (fun h490 => False.elim (by revert h490; decide)) (fun h490 => ?_)
              refine lv_aload hx hb dL_goes_493 (lv_at hl 6 rfl) ?_
              refine n_bipush hx hb dL_goes_495 (by decide) ?_
              refine lv_iload hx hb dL_goes_497 (lv_at hl 1 rfl) ?_
              refine n_iconst hx hb dL_goes_499 ?_
              refine n_icmp_ge (tgt := 513) hx hb (by unfold r32; omega) (by unfold r32; omega) dL_goes_500 (by decide) (fun h500 => False.elim (by omega)) (fun h500 => ?_)
              refine n_iconst hx hb dL_goes_503 ?_
              refine lv_iload hx hb dL_goes_504 (lv_at hl 1 rfl) ?_
              refine n_imul hx hb dL_goes_506 ?_
              refine lv_iload hx hb dL_goes_507 (lv_at hl 0 rfl) ?_
              refine n_iadd hx hb dL_goes_509 ?_
              refine lv_goto (tgt := 514) hx hb dL_goes_510 (by decide) ?_
              refine n_iadd hx hb dL_goes_514 ?_
              refine lv_iload hx hb dL_goes_515 (lv_at hl 1 rfl) ?_
              refine n_iconst hx hb dL_goes_517 ?_
              refine n_icmp_ge (tgt := 529) hx hb (by unfold r32; omega) (by unfold r32; omega) dL_goes_518 (by decide) (fun h518 => False.elim (by omega)) (fun h518 => ?_)
              refine lv_aload hx hb dL_goes_521 (lv_at hl 6 rfl) ?_
              refine lv_iload hx hb dL_goes_523 (lv_at hl 0 rfl) ?_
              refine n_laldv (i := 4) (v := (zv (fw 4))) hx hb hK hP 4 1 rfl htJ rfl (Nat.le_of_ble_eq_true rfl) (Nat.le_of_ble_eq_true rfl) (congrArg zv ((up_o _ _ (by omega)).trans ((up_o _ _ (by omega)).trans ((up_o _ _ (by omega)).trans (up_o _ _ (by omega)))))) dL_goes_525 ?_
              refine lv_goto (tgt := 534) hx hb dL_goes_526 (by decide) ?_
              refine n_zlast (i := (5 * (t + 8) + 4)) (x := (fw 4)) hx hb hK hP hD hS 4 1 rfl htJ (by omega) (by omega) (Nat.le_of_ble_eq_true rfl) dL_goes_534 (fun H locs hP hD hS => ?_)
              have hP : va_P D vwCl [(e0, .inl (cI, 45, .inl (fun i => jI (fe i)))), (q0, .inl (cJ, 16, .inr (.inl (fun i => jL (fq i))))), (v0, .inl (cJ, 16, .inr (.inl (fun i => jL (fv i))))), (u0, .inl (cJ, 16, .inr (.inl (fun i => jL (fu i))))), (w0, .inl (cJ, 60, .inr (.inl (fun i => vL ((va_up (va_up (va_up (va_up (va_up fw (5 * (t + 8) + 0) (fw 0)) (5 * (t + 8) + 1) (fw 1)) (5 * (t + 8) + 2) (fw 2)) (5 * (t + 8) + 3) (fw 3)) (5 * (t + 8) + 4) (fw 4)) i))))), (y0, .inl (cJ, 32, .inr (.inl (fun i => vL (fy i)))))] H := hP
              have hD : va_D A [(e0, .inl (cI, 45, .inl (fun i => jI (fe i)))), (q0, .inl (cJ, 16, .inr (.inl (fun i => jL (fq i))))), (v0, .inl (cJ, 16, .inr (.inl (fun i => jL (fv i))))), (u0, .inl (cJ, 16, .inr (.inl (fun i => jL (fu i))))), (w0, .inl (cJ, 60, .inr (.inl (fun i => vL ((va_up (va_up (va_up (va_up (va_up fw (5 * (t + 8) + 0) (fw 0)) (5 * (t + 8) + 1) (fw 1)) (5 * (t + 8) + 2) (fw 2)) (5 * (t + 8) + 3) (fw 3)) (5 * (t + 8) + 4) (fw 4)) i))))), (y0, .inl (cJ, 32, .inr (.inl (fun i => vL (fy i)))))] := hD
              refine lv_iinc (v := jI 5) (lv' := [(9, .int (jI 5)), (8, .int (jI ((t : Nat) : Int))), (0, .ref e0), (1, .ref q0), (2, .ref v0), (3, .ref u0), (4, .ref w0), (5, .ref y0), (6, .int (jI ((one : Nat) : Int))), (7, .int (jI (((15 * one) : Nat) : Int)))]) hx hb dL_goes_535 hl (k := 0) rfl (jI_add 4 1) (by decide) rfl (fun ls hl => ?_)
              refine lv_goto (tgt := 487) hx hb dL_goes_538 (by decide) ?_
              refine lv_iload hx hb dL_goes_487 (lv_at hl 0 rfl) ?_
              refine n_iconst hx hb dL_goes_489 ?_
              refine n_icmp_ge (tgt := 541) hx hb (by unfold r32; decide) (by unfold r32; decide) dL_goes_490 (by decide) (fun h490 => ?_) (fun h490 => False.elim (by revert h490; decide))
              refine lv_iinc (v := jI ((t + 1 : Nat) : Int)) (lv' := [(8, .int (jI ((t + 1 : Nat) : Int))), (9, .int (jI 5)), (0, .ref e0), (1, .ref q0), (2, .ref v0), (3, .ref u0), (4, .ref w0), (5, .ref y0), (6, .int (jI ((one : Nat) : Int))), (7, .int (jI (((15 * one) : Nat) : Int)))]) hx hb dL_goes_541 hl (k := 1) rfl (jI_inc t) (by decide) rfl (fun ls hl => ?_)
              refine lv_goto (tgt := 41) hx hb dL_goes_544 (by decide) ?_
              refine ihf (t + 1) (put5at fw (t + 8) (s5 fw)) fy H locs ls (by omega) (by omega) (Or.inr ⟨t, rfl, ?_⟩) ?_ ?_ houts2 hP hD hS (lv_sub hl [0, 2, 3, 4, 5, 6, 7, 8, 9] rfl)
              · rw [s5_far _ (by omega)]; exact hbt
              · intro u hu
                rw [s5at_ne fw (by omega)]
                exact hra u hu
              · intro u hu hu4
                by_cases hut : u = t
                · subst hut
                  rw [s5at_put]
                  exact hbt
                · rw [s5at_ne fw (by omega)]
                  exact hrb u (by omega) hu4
            · skip
              refine lv_iload hx hb dL_goes_105 (lv_at hl 0 rfl) ?_
              refine n_bipush hx hb dL_goes_107 (by decide) ?_
              refine lv_iload hx hb dL_goes_109 (lv_at hl 8 rfl) ?_
              refine n_imul hx hb dL_goes_111 ?_
              refine lv_aload_n hx hb dL_goes_112 rfl (lv_at hl 2 rfl) ?_
              refine lv_iload hx hb dL_goes_113 (lv_at hl 9 rfl) ?_
              refine n_bipush hx hb dL_goes_115 (by decide) ?_
              refine n_iadd hx hb dL_goes_117 ?_
              refine n_ialdv (i := ((15 * one) + 14)) (v := ((n : Nat) : Int)) hx hb hK hP 0 0 rfl htI (by omega) (by omega) (Nat.le_of_ble_eq_true rfl) hE14 dL_goes_118 ?_
              refine n_iadd hx hb dL_goes_119 ?_
              refine n_icmp_ge (tgt := 484) hx hb (by unfold r32; omega) (by unfold r32; omega) dL_goes_120 (by decide) (fun h120 => ?_) (fun h120 => False.elim (by omega))
              refine n_iconst hx hb dL_goes_484 ?_
              refine lv_istore (lv' := [(9, .int (jI 0)), (8, .int (jI ((t : Nat) : Int))), (0, .ref e0), (1, .ref q0), (2, .ref v0), (3, .ref u0), (4, .ref w0), (5, .ref y0), (6, .int (jI ((one : Nat) : Int))), (7, .int (jI (((15 * one) : Nat) : Int)))]) hx hb dL_goes_485 hl (by decide) rfl (fun ls hl => ?_)
              refine lv_iload hx hb dL_goes_487 (lv_at hl 0 rfl) ?_
              refine n_iconst hx hb dL_goes_489 ?_
              refine n_icmp_ge (tgt := 541) hx hb (by unfold r32; decide) (by unfold r32; decide) dL_goes_490 (by decide) (fun h490 => False.elim (by revert h490; decide)) (fun h490 => ?_)
              refine lv_aload hx hb dL_goes_493 (lv_at hl 6 rfl) ?_
              refine n_bipush hx hb dL_goes_495 (by decide) ?_
              refine lv_iload hx hb dL_goes_497 (lv_at hl 1 rfl) ?_
              refine n_iconst hx hb dL_goes_499 ?_
              refine n_icmp_ge (tgt := 513) hx hb (by unfold r32; omega) (by unfold r32; omega) dL_goes_500 (by decide) (fun h500 => ?_) (fun h500 => False.elim (by omega))
              refine n_iconst hx hb dL_goes_513 ?_
              refine n_iadd hx hb dL_goes_514 ?_
              refine lv_iload hx hb dL_goes_515 (lv_at hl 1 rfl) ?_
              refine n_iconst hx hb dL_goes_517 ?_
              refine n_icmp_ge (tgt := 529) hx hb (by unfold r32; omega) (by unfold r32; omega) dL_goes_518 (by decide) (fun h518 => ?_) (fun h518 => False.elim (by omega))
              refine lv_aload hx hb dL_goes_529 (lv_at hl 6 rfl) ?_
              refine n_bipush hx hb dL_goes_531 (by decide) ?_
              refine n_lald (i := 40) hx hb hK hP 4 1 rfl htJ rfl (Nat.le_of_ble_eq_true rfl) (Nat.le_of_ble_eq_true rfl) dL_goes_533 ?_
              refine n_zlast (i := 40) (x := (fw 40)) hx hb hK hP hD hS 4 1 rfl htJ rfl (Nat.le_of_ble_eq_true rfl) (Nat.le_of_ble_eq_true rfl) dL_goes_534 (fun H locs hP hD hS => ?_)
              have hP : va_P D vwCl [(e0, .inl (cI, 45, .inl (fun i => jI (fe i)))), (q0, .inl (cJ, 16, .inr (.inl (fun i => jL (fq i))))), (v0, .inl (cJ, 16, .inr (.inl (fun i => jL (fv i))))), (u0, .inl (cJ, 16, .inr (.inl (fun i => jL (fu i))))), (w0, .inl (cJ, 60, .inr (.inl (fun i => vL ((va_up fw 40 (fw 40)) i))))), (y0, .inl (cJ, 32, .inr (.inl (fun i => vL (fy i)))))] H := hP
              have hD : va_D A [(e0, .inl (cI, 45, .inl (fun i => jI (fe i)))), (q0, .inl (cJ, 16, .inr (.inl (fun i => jL (fq i))))), (v0, .inl (cJ, 16, .inr (.inl (fun i => jL (fv i))))), (u0, .inl (cJ, 16, .inr (.inl (fun i => jL (fu i))))), (w0, .inl (cJ, 60, .inr (.inl (fun i => vL ((va_up fw 40 (fw 40)) i))))), (y0, .inl (cJ, 32, .inr (.inl (fun i => vL (fy i)))))] := hD
              refine lv_iinc (v := jI 1) (lv' := [(9, .int (jI 1)), (8, .int (jI ((t : Nat) : Int))), (0, .ref e0), (1, .ref q0), (2, .ref v0), (3, .ref u0), (4, .ref w0), (5, .ref y0), (6, .int (jI ((one : Nat) : Int))), (7, .int (jI (((15 * one) : Nat) : Int)))]) hx hb dL_goes_535 hl (k := 0) rfl (jI_add 0 1) (by decide) rfl (fun ls hl => ?_)
              refine lv_goto (tgt := 487) hx hb dL_goes_538 (by decide) ?_
              refine lv_iload hx hb dL_goes_487 (lv_at hl 0 rfl) ?_
              refine n_iconst hx hb dL_goes_489 ?_
              refine n_icmp_ge (tgt := 541) hx hb (by unfold r32; decide) (by unfold r32; decide) dL_goes_490 (by decide) (fun h490 => False.elim (by revert h490; decide)) (fun h490 => ?_)
              refine lv_aload hx hb dL_goes_493 (lv_at hl 6 rfl) ?_
              refine n_bipush hx hb dL_goes_495 (by decide) ?_
              refine lv_iload hx hb dL_goes_497 (lv_at hl 1 rfl) ?_
              refine n_iconst hx hb dL_goes_499 ?_
              refine n_icmp_ge (tgt := 513) hx hb (by unfold r32; omega) (by unfold r32; omega) dL_goes_500 (by decide) (fun h500 => ?_) (fun h500 => False.elim (by omega))
              refine n_iconst hx hb dL_goes_513 ?_
              refine n_iadd hx hb dL_goes_514 ?_
              refine lv_iload hx hb dL_goes_515 (lv_at hl 1 rfl) ?_
              refine n_iconst hx hb dL_goes_517 ?_
              refine n_icmp_ge (tgt := 529) hx hb (by unfold r32; omega) (by unfold r32; omega) dL_goes_518 (by decide) (fun h518 => ?_) (fun h518 => False.elim (by omega))
              refine lv_aload hx hb dL_goes_529 (lv_at hl 6 rfl) ?_
              refine n_bipush hx hb dL_goes_531 (by decide) ?_
              refine n_laldv (i := 40) (v := (zv (fw 40))) hx hb hK hP 4 1 rfl htJ rfl (Nat.le_of_ble_eq_true rfl) (Nat.le_of_ble_eq_true rfl) (congrArg zv (up_s _ _ _)) dL_goes_533 ?_
              refine n_zlast (i := 40) (x := (fw 40)) hx hb hK hP hD hS 4 1 rfl htJ rfl (Nat.le_of_ble_eq_true rfl) (Nat.le_of_ble_eq_true rfl) dL_goes_534 (fun H locs hP hD hS => ?_)
              have hP : va_P D vwCl [(e0, .inl (cI, 45, .inl (fun i => jI (fe i)))), (q0, .inl (cJ, 16, .inr (.inl (fun i => jL (fq i))))), (v0, .inl (cJ, 16, .inr (.inl (fun i => jL (fv i))))), (u0, .inl (cJ, 16, .inr (.inl (fun i => jL (fu i))))), (w0, .inl (cJ, 60, .inr (.inl (fun i => vL ((va_up (va_up fw 40 (fw 40)) 40 (fw 40)) i))))), (y0, .inl (cJ, 32, .inr (.inl (fun i => vL (fy i)))))] H := hP
              have hD : va_D A [(e0, .inl (cI, 45, .inl (fun i => jI (fe i)))), (q0, .inl (cJ, 16, .inr (.inl (fun i => jL (fq i))))), (v0, .inl (cJ, 16, .inr (.inl (fun i => jL (fv i))))), (u0, .inl (cJ, 16, .inr (.inl (fun i => jL (fu i))))), (w0, .inl (cJ, 60, .inr (.inl (fun i => vL ((va_up (va_up fw 40 (fw 40)) 40 (fw 40)) i))))), (y0, .inl (cJ, 32, .inr (.inl (fun i => vL (fy i)))))] := hD
              refine lv_iinc (v := jI 2) (lv' := [(9, .int (jI 2)), (8, .int (jI ((t : Nat) : Int))), (0, .ref e0), (1, .ref q0), (2, .ref v0), (3, .ref u0), (4, .ref w0), (5, .ref y0), (6, .int (jI ((one : Nat) : Int))), (7, .int (jI (((15 * one) : Nat) : Int)))]) hx hb dL_goes_535 hl (k := 0) rfl (jI_add 1 1) (by decide) rfl (fun ls hl => ?_)
              refine lv_goto (tgt := 487) hx hb dL_goes_538 (by decide) ?_
              refine lv_iload hx hb dL_goes_487 (lv_at hl 0 rfl) ?_
              refine n_iconst hx hb dL_goes_489 ?_
              refine n_icmp_ge (tgt := 541) hx hb (by unfold r32; decide) (by unfold r32; decide) dL_goes_490 (by decide) (fun h490 => False.elim (by revert h490; decide)) (fun h490 => ?_)
              refine lv_aload hx hb dL_goes_493 (lv_at hl 6 rfl) ?_
              refine n_bipush hx hb dL_goes_495 (by decide) ?_
              refine lv_iload hx hb dL_goes_497 (lv_at hl 1 rfl) ?_
              refine n_iconst hx hb dL_goes_499 ?_
              refine n_icmp_ge (tgt := 513) hx hb (by unfold r32; omega) (by unfold r32; omega) dL_goes_500 (by decide) (fun h500 => ?_) (fun h500 => False.elim (by omega))
              refine n_iconst hx hb dL_goes_513 ?_
              refine n_iadd hx hb dL_goes_514 ?_
              refine lv_iload hx hb dL_goes_515 (lv_at hl 1 rfl) ?_
              refine n_iconst hx hb dL_goes_517 ?_
              refine n_icmp_ge (tgt := 529) hx hb (by unfold r32; omega) (by unfold r32; omega) dL_goes_518 (by decide) (fun h518 => ?_) (fun h518 => False.elim (by omega))
              refine lv_aload hx hb dL_goes_529 (lv_at hl 6 rfl) ?_
              refine n_bipush hx hb dL_goes_531 (by decide) ?_
              refine n_laldv (i := 40) (v := (zv (fw 40))) hx hb hK hP 4 1 rfl htJ rfl (Nat.le_of_ble_eq_true rfl) (Nat.le_of_ble_eq_true rfl) (congrArg zv (up_s _ _ _)) dL_goes_533 ?_
              refine n_zlast (i := 40) (x := (fw 40)) hx hb hK hP hD hS 4 1 rfl htJ rfl (Nat.le_of_ble_eq_true rfl) (Nat.le_of_ble_eq_true rfl) dL_goes_534 (fun H locs hP hD hS => ?_)
              have hP : va_P D vwCl [(e0, .inl (cI, 45, .inl (fun i => jI (fe i)))), (q0, .inl (cJ, 16, .inr (.inl (fun i => jL (fq i))))), (v0, .inl (cJ, 16, .inr (.inl (fun i => jL (fv i))))), (u0, .inl (cJ, 16, .inr (.inl (fun i => jL (fu i))))), (w0, .inl (cJ, 60, .inr (.inl (fun i => vL ((va_up (va_up (va_up fw 40 (fw 40)) 40 (fw 40)) 40 (fw 40)) i))))), (y0, .inl (cJ, 32, .inr (.inl (fun i => vL (fy i)))))] H := hP
              have hD : va_D A [(e0, .inl (cI, 45, .inl (fun i => jI (fe i)))), (q0, .inl (cJ, 16, .inr (.inl (fun i => jL (fq i))))), (v0, .inl (cJ, 16, .inr (.inl (fun i => jL (fv i))))), (u0, .inl (cJ, 16, .inr (.inl (fun i => jL (fu i))))), (w0, .inl (cJ, 60, .inr (.inl (fun i => vL ((va_up (va_up (va_up fw 40 (fw 40)) 40 (fw 40)) 40 (fw 40)) i))))), (y0, .inl (cJ, 32, .inr (.inl (fun i => vL (fy i)))))] := hD
              refine lv_iinc (v := jI 3) (lv' := [(9, .int (jI 3)), (8, .int (jI ((t : Nat) : Int))), (0, .ref e0), (1, .ref q0), (2, .ref v0), (3, .ref u0), (4, .ref w0), (5, .ref y0), (6, .int (jI ((one : Nat) : Int))), (7, .int (jI (((15 * one) : Nat) : Int)))]) hx hb dL_goes_535 hl (k := 0) rfl (jI_add 2 1) (by decide) rfl (fun ls hl => ?_)
              refine lv_goto (tgt := 487) hx hb dL_goes_538 (by decide) ?_
              refine lv_iload hx hb dL_goes_487 (lv_at hl 0 rfl) ?_
              refine n_iconst hx hb dL_goes_489 ?_
              refine n_icmp_ge (tgt := 541) hx hb (by unfold r32; decide) (by unfold r32; decide) dL_goes_490 (by decide) (fun h490 => False.elim (by revert h490; decide)) (fun h490 => ?_)
              refine lv_aload hx hb dL_goes_493 (lv_at hl 6 rfl) ?_
              refine n_bipush hx hb dL_goes_495 (by decide) ?_
              refine lv_iload hx hb dL_goes_497 (lv_at hl 1 rfl) ?_
              refine n_iconst hx hb dL_goes_499 ?_
              refine n_icmp_ge (tgt := 513) hx hb (by unfold r32; omega) (by unfold r32; omega) dL_goes_500 (by decide) (fun h500 => ?_) (fun h500 => False.elim (by omega))
              refine n_iconst hx hb dL_goes_513 ?_
              refine n_iadd hx hb dL_goes_514 ?_
              refine lv_iload hx hb dL_goes_515 (lv_at hl 1 rfl) ?_
              refine n_iconst hx hb dL_goes_517 ?_
              refine n_icmp_ge (tgt := 529) hx hb (by unfold r32; omega) (by unfold r32; omega) dL_goes_518 (by decide) (fun h518 => ?_) (fun h518 => False.elim (by omega))
              refine lv_aload hx hb dL_goes_529 (lv_at hl 6 rfl) ?_
              refine n_bipush hx hb dL_goes_531 (by decide) ?_
              refine n_laldv (i := 40) (v := (zv (fw 40))) hx hb hK hP 4 1 rfl htJ rfl (Nat.le_of_ble_eq_true rfl) (Nat.le_of_ble_eq_true rfl) (congrArg zv (up_s _ _ _)) dL_goes_533 ?_
              refine n_zlast (i := 40) (x := (fw 40)) hx hb hK hP hD hS 4 1 rfl htJ rfl (Nat.le_of_ble_eq_true rfl) (Nat.le_of_ble_eq_true rfl) dL_goes_534 (fun H locs hP hD hS => ?_)
              have hP : va_P D vwCl [(e0, .inl (cI, 45, .inl (fun i => jI (fe i)))), (q0, .inl (cJ, 16, .inr (.inl (fun i => jL (fq i))))), (v0, .inl (cJ, 16, .inr (.inl (fun i => jL (fv i))))), (u0, .inl (cJ, 16, .inr (.inl (fun i => jL (fu i))))), (w0, .inl (cJ, 60, .inr (.inl (fun i => vL ((va_up (va_up (va_up (va_up fw 40 (fw 40)) 40 (fw 40)) 40 (fw 40)) 40 (fw 40)) i))))), (y0, .inl (cJ, 32, .inr (.inl (fun i => vL (fy i)))))] H := hP
              have hD : va_D A [(e0, .inl (cI, 45, .inl (fun i => jI (fe i)))), (q0, .inl (cJ, 16, .inr (.inl (fun i => jL (fq i))))), (v0, .inl (cJ, 16, .inr (.inl (fun i => jL (fv i))))), (u0, .inl (cJ, 16, .inr (.inl (fun i => jL (fu i))))), (w0, .inl (cJ, 60, .inr (.inl (fun i => vL ((va_up (va_up (va_up (va_up fw 40 (fw 40)) 40 (fw 40)) 40 (fw 40)) 40 (fw 40)) i))))), (y0, .inl (cJ, 32, .inr (.inl (fun i => vL (fy i)))))] := hD
              refine lv_iinc (v := jI 4) (lv' := [(9, .int (jI 4)), (8, .int (jI ((t : Nat) : Int))), (0, .ref e0), (1, .ref q0), (2, .ref v0), (3, .ref u0), (4, .ref w0), (5, .ref y0), (6, .int (jI ((one : Nat) : Int))), (7, .int (jI (((15 * one) : Nat) : Int)))]) hx hb dL_goes_535 hl (k := 0) rfl (jI_add 3 1) (by decide) rfl (fun ls hl => ?_)
              refine lv_goto (tgt := 487) hx hb dL_goes_538 (by decide) ?_
              refine lv_iload hx hb dL_goes_487 (lv_at hl 0 rfl) ?_
              refine n_iconst hx hb dL_goes_489 ?_
              refine n_icmp_ge (tgt := 541) hx hb (by unfold r32; decide) (by unfold r32; decide) dL_goes_490 (by decide) (fun h490 => False.elim (by revert h490; decide)) (fun h490 => ?_)
              refine lv_aload hx hb dL_goes_493 (lv_at hl 6 rfl) ?_
              refine n_bipush hx hb dL_goes_495 (by decide) ?_
              refine lv_iload hx hb dL_goes_497 (lv_at hl 1 rfl) ?_
              refine n_iconst hx hb dL_goes_499 ?_
              refine n_icmp_ge (tgt := 513) hx hb (by unfold r32; omega) (by unfold r32; omega) dL_goes_500 (by decide) (fun h500 => ?_) (fun h500 => False.elim (by omega))
              refine n_iconst hx hb dL_goes_513 ?_
              refine n_iadd hx hb dL_goes_514 ?_
              refine lv_iload hx hb dL_goes_515 (lv_at hl 1 rfl) ?_
              refine n_iconst hx hb dL_goes_517 ?_
              refine n_icmp_ge (tgt := 529) hx hb (by unfold r32; omega) (by unfold r32; omega) dL_goes_518 (by decide) (fun h518 => ?_) (fun h518 => False.elim (by omega))
              refine lv_aload hx hb dL_goes_529 (lv_at hl 6 rfl) ?_
              refine n_bipush hx hb dL_goes_531 (by decide) ?_
              refine n_laldv (i := 40) (v := (zv (fw 40))) hx hb hK hP 4 1 rfl htJ rfl (Nat.le_of_ble_eq_true rfl) (Nat.le_of_ble_eq_true rfl) (congrArg zv (up_s _ _ _)) dL_goes_533 ?_
              refine n_zlast (i := 40) (x := (fw 40)) hx hb hK hP hD hS 4 1 rfl htJ rfl (Nat.le_of_ble_eq_true rfl) (Nat.le_of_ble_eq_true rfl) dL_goes_534 (fun H locs hP hD hS => ?_)
              have hP : va_P D vwCl [(e0, .inl (cI, 45, .inl (fun i => jI (fe i)))), (q0, .inl (cJ, 16, .inr (.inl (fun i => jL (fq i))))), (v0, .inl (cJ, 16, .inr (.inl (fun i => jL (fv i))))), (u0, .inl (cJ, 16, .inr (.inl (fun i => jL (fu i))))), (w0, .inl (cJ, 60, .inr (.inl (fun i => vL ((va_up (va_up (va_up (va_up (va_up fw 40 (fw 40)) 40 (fw 40)) 40 (fw 40)) 40 (fw 40)) 40 (fw 40)) i))))), (y0, .inl (cJ, 32, .inr (.inl (fun i => vL (fy i)))))] H := hP
              have hD : va_D A [(e0, .inl (cI, 45, .inl (fun i => jI (fe i)))), (q0, .inl (cJ, 16, .inr (.inl (fun i => jL (fq i))))), (v0, .inl (cJ, 16, .inr (.inl (fun i => jL (fv i))))), (u0, .inl (cJ, 16, .inr (.inl (fun i => jL (fu i))))), (w0, .inl (cJ, 60, .inr (.inl (fun i => vL ((va_up (va_up (va_up (va_up (va_up fw 40 (fw 40)) 40 (fw 40)) 40 (fw 40)) 40 (fw 40)) 40 (fw 40)) i))))), (y0, .inl (cJ, 32, .inr (.inl (fun i => vL (fy i)))))] := hD
              refine lv_iinc (v := jI 5) (lv' := [(9, .int (jI 5)), (8, .int (jI ((t : Nat) : Int))), (0, .ref e0), (1, .ref q0), (2, .ref v0), (3, .ref u0), (4, .ref w0), (5, .ref y0), (6, .int (jI ((one : Nat) : Int))), (7, .int (jI (((15 * one) : Nat) : Int)))]) hx hb dL_goes_535 hl (k := 0) rfl (jI_add 4 1) (by decide) rfl (fun ls hl => ?_)
              refine lv_goto (tgt := 487) hx hb dL_goes_538 (by decide) ?_
              refine lv_iload hx hb dL_goes_487 (lv_at hl 0 rfl) ?_
              refine n_iconst hx hb dL_goes_489 ?_
              refine n_icmp_ge (tgt := 541) hx hb (by unfold r32; decide) (by unfold r32; decide) dL_goes_490 (by decide) (fun h490 => ?_) (fun h490 => False.elim (by revert h490; decide))
              refine lv_iinc (v := jI ((t + 1 : Nat) : Int)) (lv' := [(8, .int (jI ((t + 1 : Nat) : Int))), (9, .int (jI 5)), (0, .ref e0), (1, .ref q0), (2, .ref v0), (3, .ref u0), (4, .ref w0), (5, .ref y0), (6, .int (jI ((one : Nat) : Int))), (7, .int (jI (((15 * one) : Nat) : Int)))]) hx hb dL_goes_541 hl (k := 1) rfl (jI_inc t) (by decide) rfl (fun ls hl => ?_)
              refine lv_goto (tgt := 41) hx hb dL_goes_544 (by decide) ?_
              simp only [up_id] at hP hD
              refine ihf (t + 1) fw fy H locs ls (by omega) (by omega) (Or.inr ⟨t, rfl, hbt⟩) hra (fun u hu hu4 => hrb u (by omega) hu4) houts2 hP hD hS (lv_sub hl [0, 2, 3, 4, 5, 6, 7, 8, 9] rfl)
          · skip
            obtain ⟨hq, hv, hu⟩ := hM k (by omega)
            have b0 := zv_0 (M k 0)
            have b1 := zv_0 (M k 1)
            have b2 := zv_0 (M k 2)
            have b3 := zv_0 (M k 3)
            have b4 := zv_0 (M k 4)
            have b5 := zv_0 (M k 5)
            have d1 := zv_le (M k 1)
            have d2 := zv_le (M k 2)
            have d3 := zv_le (M k 3)
            have d4 := zv_le (M k 4)
            have d5 := zv_le (M k 5)
            have d0 : zv (M k 0) ≤ 6 := by have := htm k (by omega); unfold zv; omega
            have g1 := (r01_B (dr k)).1
            have g2 := (r01_B (dr k)).2
            have hzt : zv (M k 0) = ((t : Nat) : Int) ↔ (M k 0).val = t := by unfold zv; omega
            by_cases hz : (M k 0).val = t
            · by_cases hd : dr k = false
              · obtain ⟨zC, hC⟩ : ∃ z : Zp, z = fw 2 * M k 1 + fw 3 * M k 2 := ⟨_, rfl⟩
                obtain ⟨zD, hD9⟩ : ∃ z : Zp, z = fw 3 * M k 1 + fw 4 * M k 2 := ⟨_, rfl⟩
                obtain ⟨zS, hS9⟩ : ∃ z : Zp, z = M k 1 * zC + M k 2 * zD + M k 4 := ⟨_, rfl⟩
                have eC : zC = ph0 (M k) (s5 fw) := hC
                have eD : zD = ph1 (M k) (s5 fw) := hD9
                have eS : zS = mS (M k) (s5 fw) := by rw [hS9, eC, eD]; rfl
                by_cases hs : zS = 0
                · have hnone : beh P B M dr n t = none := by
                    rw [beh_eq, ha]
                    show inn _ _ _ _ _ = none
                    have h8 := inn_take hin hz hd
                    unfold tk at h8
                    rw [if_pos (by rw [← eS]; exact hs)] at h8
                    have h9 := inn_none h8 (n - (k + 1))
                    rw [show k + 1 + (n - (k + 1)) = n by omega] at h9
                    exact h9
                  refine lv_iload hx hb dL_goes_105 (lv_at hl 0 rfl) ?_
                  refine n_bipush hx hb dL_goes_107 (by decide) ?_
                  refine lv_iload hx hb dL_goes_109 (lv_at hl 8 rfl) ?_
                  refine n_imul hx hb dL_goes_111 ?_
                  refine lv_aload_n hx hb dL_goes_112 rfl (lv_at hl 2 rfl) ?_
                  refine lv_iload hx hb dL_goes_113 (lv_at hl 9 rfl) ?_
                  refine n_bipush hx hb dL_goes_115 (by decide) ?_
                  refine n_iadd hx hb dL_goes_117 ?_
                  refine n_ialdv (i := ((15 * one) + 14)) (v := ((n : Nat) : Int)) hx hb hK hP 0 0 rfl htI (by omega) (by omega) (Nat.le_of_ble_eq_true rfl) hE14 dL_goes_118 ?_
                  refine n_iadd hx hb dL_goes_119 ?_
                  refine n_icmp_ge (tgt := 484) hx hb (by unfold r32; omega) (by unfold r32; omega) dL_goes_120 (by decide) (fun h120 => False.elim (by omega)) (fun h120 => ?_)
                  refine lv_aload_n hx hb dL_goes_123 rfl (lv_at hl 3 rfl) ?_
                  refine lv_iload hx hb dL_goes_124 (lv_at hl 0 rfl) ?_
                  refine n_laldv (i := (8 * one + k)) (v := (zv (M k 1) * 4294967296 + (16 * (zv (M k 5) + 1) + zv (M k 0)))) hx hb hK hP 1 1 rfl htJ (by omega) (by omega) (Nat.le_of_ble_eq_true rfl) hq dL_goes_126 ?_
                  refine lv_ldc2 (v := jL 16) hx hb hown k84 dL_goes_127 ?_
                  refine n_lremv (v := (zv (M k 0))) hx hb dL_goes_130 (by omega) (by omega) (by omega) (by omega) (by omega) ?_
                  refine lv_iload hx hb dL_goes_131 (lv_at hl 1 rfl) ?_
                  refine n_i2l hx hb dL_goes_133 (by omega) (by omega) ?_
                  refine W.lcmp hx hb dL_goes_134 ?_
                  refine n_lif_ne (tgt := 478) hx hb (r64_z _) (by unfold r64; omega) dL_goes_135 (by decide) (fun h135 => False.elim (h135 (hzt.mpr hz))) (fun h135 => ?_)
                  refine lv_aload_n hx hb dL_goes_138 rfl (lv_at hl 5 rfl) ?_
                  refine lv_iload hx hb dL_goes_139 (lv_at hl 0 rfl) ?_
                  refine n_laldv (i := (8 * one + k)) (v := (2 * zv (M k 4) + iB (dr k))) hx hb hK hP 3 1 rfl htJ (by omega) (by omega) (Nat.le_of_ble_eq_true rfl) hu dL_goes_141 ?_
                  refine lv_ldc2 (v := jL 2) hx hb hown k86 dL_goes_142 ?_
                  refine n_lremv (v := (iB (dr k))) hx hb dL_goes_145 (by omega) (by omega) (by omega) (by omega) (by omega) ?_
                  refine lv_lconst (v := jL 1) hx hb dL_goes_146 rfl ?_
                  refine W.lcmp hx hb dL_goes_147 ?_
                  refine n_lif_ne (tgt := 154) hx hb (by unfold r64; omega) (by unfold r64; omega) dL_goes_148 (by decide) (fun h148 => ?_) (fun h148 => False.elim (absurd h148 (by rw [hd]; decide)))
                  refine lv_aload_n hx hb dL_goes_154 rfl (lv_at hl 3 rfl) ?_
                  refine lv_iload hx hb dL_goes_155 (lv_at hl 0 rfl) ?_
                  refine n_laldv (i := (8 * one + k)) (v := (zv (M k 1) * 4294967296 + (16 * (zv (M k 5) + 1) + zv (M k 0)))) hx hb hK hP 1 1 rfl htJ (by omega) (by omega) (Nat.le_of_ble_eq_true rfl) hq dL_goes_157 ?_
                  refine n_bipush hx hb dL_goes_158 (by decide) ?_
                  refine n_lshrv (v := (zv (M k 1))) hx hb dL_goes_160 (by omega) (by omega) (by omega) ?_
                  refine lv_lstore (lv' := [(10, .long (vL (M k 1))), (9, .int (jI (((8 * one + k) : Nat) : Int))), (8, .int (jI ((t : Nat) : Int))), (0, .ref e0), (1, .ref q0), (2, .ref v0), (3, .ref u0), (4, .ref w0), (5, .ref y0), (6, .int (jI ((one : Nat) : Int))), (7, .int (jI (((15 * one) : Nat) : Int)))]) hx hb dL_goes_161 hl (by decide) rfl (fun ls hl => ?_)
                  refine lv_aload_n hx hb dL_goes_163 rfl (lv_at hl 5 rfl) ?_
                  refine lv_iload hx hb dL_goes_164 (lv_at hl 1 rfl) ?_
                  refine n_laldv (i := (8 * one + k)) (v := (zv (M k 2) * 4294967296 + zv (M k 3))) hx hb hK hP 2 1 rfl htJ (by omega) (by omega) (Nat.le_of_ble_eq_true rfl) hv dL_goes_166 ?_
                  refine n_bipush hx hb dL_goes_167 (by decide) ?_
                  refine n_lshrv (v := (zv (M k 2))) hx hb dL_goes_169 (by omega) (by omega) (by omega) ?_
                  refine lv_lstore (lv' := [(12, .long (vL (M k 2))), (10, .long (vL (M k 1))), (9, .int (jI (((8 * one + k) : Nat) : Int))), (8, .int (jI ((t : Nat) : Int))), (0, .ref e0), (1, .ref q0), (2, .ref v0), (3, .ref u0), (4, .ref w0), (5, .ref y0), (6, .int (jI ((one : Nat) : Int))), (7, .int (jI (((15 * one) : Nat) : Int)))]) hx hb dL_goes_170 hl (by decide) rfl (fun ls hl => ?_)
                  refine lv_aload hx hb dL_goes_172 (lv_at hl 8 rfl) ?_
                  refine n_iconst hx hb dL_goes_174 ?_
                  refine n_lald (i := 2) hx hb hK hP 4 1 rfl htJ rfl (Nat.le_of_ble_eq_true rfl) (Nat.le_of_ble_eq_true rfl) dL_goes_175 ?_
                  refine lv_lload hx hb dL_goes_176 (lv_at hl 1 rfl) ?_
                  refine n_lmul hx hb dL_goes_178 ?_
                  refine lv_aload hx hb dL_goes_179 (lv_at hl 8 rfl) ?_
                  refine n_iconst hx hb dL_goes_181 ?_
                  refine n_lald (i := 3) hx hb hK hP 4 1 rfl htJ rfl (Nat.le_of_ble_eq_true rfl) (Nat.le_of_ble_eq_true rfl) dL_goes_182 ?_
                  refine lv_lload hx hb dL_goes_183 (lv_at hl 0 rfl) ?_
                  refine n_lmul hx hb dL_goes_185 ?_
                  refine n_ladd hx hb dL_goes_186 ?_
                  have ct187 := c_L_by l D tys ((zv (fw 2) * zv (M k 1)) + (zv (fw 3) * zv (M k 2))) _ _ (ra_to (rp_a (rp_add (rp_mul (rp_v (fw 2)) (rp_v (M k 1))) (rp_mul (rp_v (fw 3)) (rp_v (M k 2))))) hC.symm) (Nat.le_of_ble_eq_true rfl)
                  refine k_goL (va_runS (As := [.long (jL ((zv (fw 2) * zv (M k 1)) + (zv (fw 3) * zv (M k 2))))]) (rest := []) ⟨hx, hb, hml, hown, hts⟩ (ct187.2 _) (va_cwS 1 hts gL_goes_L_by rfl rfl rfl (by decide +kernel) ⟨Nat.le_of_ble_eq_true rfl, Nat.le_of_ble_eq_true rfl⟩) (k_pre hK hP hD (is := []) rfl rfl) rfl rfl hl.1 rfl (lv_room (Nat.le_of_ble_eq_true rfl)) dL_goes_187 ⟨Nat.le_of_ble_eq_true rfl, Nat.le_of_ble_eq_true rfl⟩) ct187.1 hP hD hS hA [] rfl rfl (fun H locs hP hD hS => ?_)
                  have hP : va_P D vwCl [(e0, .inl (cI, 45, .inl (fun i => jI (fe i)))), (q0, .inl (cJ, 16, .inr (.inl (fun i => jL (fq i))))), (v0, .inl (cJ, 16, .inr (.inl (fun i => jL (fv i))))), (u0, .inl (cJ, 16, .inr (.inl (fun i => jL (fu i))))), (w0, .inl (cJ, 60, .inr (.inl (fun i => vL (fw i))))), (y0, .inl (cJ, 32, .inr (.inl (fun i => vL (fy i)))))] H := hP
                  have hD : va_D A [(e0, .inl (cI, 45, .inl (fun i => jI (fe i)))), (q0, .inl (cJ, 16, .inr (.inl (fun i => jL (fq i))))), (v0, .inl (cJ, 16, .inr (.inl (fun i => jL (fv i))))), (u0, .inl (cJ, 16, .inr (.inl (fun i => jL (fu i))))), (w0, .inl (cJ, 60, .inr (.inl (fun i => vL (fw i))))), (y0, .inl (cJ, 32, .inr (.inl (fun i => vL (fy i)))))] := hD
                  refine lv_lstore (lv' := [(14, .long (vL zC)), (12, .long (vL (M k 2))), (10, .long (vL (M k 1))), (9, .int (jI (((8 * one + k) : Nat) : Int))), (8, .int (jI ((t : Nat) : Int))), (0, .ref e0), (1, .ref q0), (2, .ref v0), (3, .ref u0), (4, .ref w0), (5, .ref y0), (6, .int (jI ((one : Nat) : Int))), (7, .int (jI (((15 * one) : Nat) : Int)))]) hx hb dL_goes_190 hl (by decide) rfl (fun ls hl => ?_)
                  refine lv_aload hx hb dL_goes_192 (lv_at hl 9 rfl) ?_
                  refine n_iconst hx hb dL_goes_194 ?_
                  refine n_lald (i := 3) hx hb hK hP 4 1 rfl htJ rfl (Nat.le_of_ble_eq_true rfl) (Nat.le_of_ble_eq_true rfl) dL_goes_195 ?_
                  refine lv_lload hx hb dL_goes_196 (lv_at hl 2 rfl) ?_
                  refine n_lmul hx hb dL_goes_198 ?_
                  refine lv_aload hx hb dL_goes_199 (lv_at hl 9 rfl) ?_
                  refine n_iconst hx hb dL_goes_201 ?_
                  refine n_lald (i := 4) hx hb hK hP 4 1 rfl htJ rfl (Nat.le_of_ble_eq_true rfl) (Nat.le_of_ble_eq_true rfl) dL_goes_202 ?_
                  refine lv_lload hx hb dL_goes_203 (lv_at hl 1 rfl) ?_
                  refine n_lmul hx hb dL_goes_205 ?_
                  refine n_ladd hx hb dL_goes_206 ?_
                  have ct207 := c_L_by l D tys ((zv (fw 3) * zv (M k 1)) + (zv (fw 4) * zv (M k 2))) _ _ (ra_to (rp_a (rp_add (rp_mul (rp_v (fw 3)) (rp_v (M k 1))) (rp_mul (rp_v (fw 4)) (rp_v (M k 2))))) hD9.symm) (Nat.le_of_ble_eq_true rfl)
                  refine k_goL (va_runS (As := [.long (jL ((zv (fw 3) * zv (M k 1)) + (zv (fw 4) * zv (M k 2))))]) (rest := []) ⟨hx, hb, hml, hown, hts⟩ (ct207.2 _) (va_cwS 1 hts gL_goes_L_by rfl rfl rfl (by decide +kernel) ⟨Nat.le_of_ble_eq_true rfl, Nat.le_of_ble_eq_true rfl⟩) (k_pre hK hP hD (is := []) rfl rfl) rfl rfl hl.1 rfl (lv_room (Nat.le_of_ble_eq_true rfl)) dL_goes_207 ⟨Nat.le_of_ble_eq_true rfl, Nat.le_of_ble_eq_true rfl⟩) ct207.1 hP hD hS hA [] rfl rfl (fun H locs hP hD hS => ?_)
                  have hP : va_P D vwCl [(e0, .inl (cI, 45, .inl (fun i => jI (fe i)))), (q0, .inl (cJ, 16, .inr (.inl (fun i => jL (fq i))))), (v0, .inl (cJ, 16, .inr (.inl (fun i => jL (fv i))))), (u0, .inl (cJ, 16, .inr (.inl (fun i => jL (fu i))))), (w0, .inl (cJ, 60, .inr (.inl (fun i => vL (fw i))))), (y0, .inl (cJ, 32, .inr (.inl (fun i => vL (fy i)))))] H := hP
                  have hD : va_D A [(e0, .inl (cI, 45, .inl (fun i => jI (fe i)))), (q0, .inl (cJ, 16, .inr (.inl (fun i => jL (fq i))))), (v0, .inl (cJ, 16, .inr (.inl (fun i => jL (fv i))))), (u0, .inl (cJ, 16, .inr (.inl (fun i => jL (fu i))))), (w0, .inl (cJ, 60, .inr (.inl (fun i => vL (fw i))))), (y0, .inl (cJ, 32, .inr (.inl (fun i => vL (fy i)))))] := hD
                  refine lv_lstore (lv' := [(16, .long (vL zD)), (14, .long (vL zC)), (12, .long (vL (M k 2))), (10, .long (vL (M k 1))), (9, .int (jI (((8 * one + k) : Nat) : Int))), (8, .int (jI ((t : Nat) : Int))), (0, .ref e0), (1, .ref q0), (2, .ref v0), (3, .ref u0), (4, .ref w0), (5, .ref y0), (6, .int (jI ((one : Nat) : Int))), (7, .int (jI (((15 * one) : Nat) : Int)))]) hx hb dL_goes_210 hl (by decide) rfl (fun ls hl => ?_)
                  refine lv_lload hx hb dL_goes_212 (lv_at hl 3 rfl) ?_
                  refine lv_lload hx hb dL_goes_214 (lv_at hl 1 rfl) ?_
                  refine n_lmul hx hb dL_goes_216 ?_
                  refine lv_lload hx hb dL_goes_217 (lv_at hl 2 rfl) ?_
                  refine lv_lload hx hb dL_goes_219 (lv_at hl 0 rfl) ?_
                  refine n_lmul hx hb dL_goes_221 ?_
                  refine n_ladd hx hb dL_goes_222 ?_
                  refine lv_aload_n hx hb dL_goes_223 rfl (lv_at hl 9 rfl) ?_
                  refine lv_iload hx hb dL_goes_224 (lv_at hl 4 rfl) ?_
                  refine n_laldv (i := (8 * one + k)) (v := (2 * zv (M k 4) + iB (dr k))) hx hb hK hP 3 1 rfl htJ (by omega) (by omega) (Nat.le_of_ble_eq_true rfl) hu dL_goes_226 ?_
                  refine lv_ldc2 (v := jL 2) hx hb hown k86 dL_goes_227 ?_
                  refine n_ldivv (v := (zv (M k 4))) hx hb dL_goes_230 (by omega) (by omega) (by omega) (by omega) (by omega) ?_
                  refine n_ladd hx hb dL_goes_231 ?_
                  have ct232 := c_L_by l D tys (((zv (M k 1) * zv zC) + (zv (M k 2) * zv zD)) + zv (M k 4)) _ _ (ra_to (rp_a (rp_add (rp_add (rp_mul (rp_v (M k 1)) (rp_v zC)) (rp_mul (rp_v (M k 2)) (rp_v zD))) (rp_v (M k 4)))) hS9.symm) (Nat.le_of_ble_eq_true rfl)
                  refine k_goL (va_runS (As := [.long (jL (((zv (M k 1) * zv zC) + (zv (M k 2) * zv zD)) + zv (M k 4)))]) (rest := []) ⟨hx, hb, hml, hown, hts⟩ (ct232.2 _) (va_cwS 1 hts gL_goes_L_by rfl rfl rfl (by decide +kernel) ⟨Nat.le_of_ble_eq_true rfl, Nat.le_of_ble_eq_true rfl⟩) (k_pre hK hP hD (is := []) rfl rfl) rfl rfl hl.1 rfl (lv_room (Nat.le_of_ble_eq_true rfl)) dL_goes_232 ⟨Nat.le_of_ble_eq_true rfl, Nat.le_of_ble_eq_true rfl⟩) ct232.1 hP hD hS hA [] rfl rfl (fun H locs hP hD hS => ?_)
                  have hP : va_P D vwCl [(e0, .inl (cI, 45, .inl (fun i => jI (fe i)))), (q0, .inl (cJ, 16, .inr (.inl (fun i => jL (fq i))))), (v0, .inl (cJ, 16, .inr (.inl (fun i => jL (fv i))))), (u0, .inl (cJ, 16, .inr (.inl (fun i => jL (fu i))))), (w0, .inl (cJ, 60, .inr (.inl (fun i => vL (fw i))))), (y0, .inl (cJ, 32, .inr (.inl (fun i => vL (fy i)))))] H := hP
                  have hD : va_D A [(e0, .inl (cI, 45, .inl (fun i => jI (fe i)))), (q0, .inl (cJ, 16, .inr (.inl (fun i => jL (fq i))))), (v0, .inl (cJ, 16, .inr (.inl (fun i => jL (fv i))))), (u0, .inl (cJ, 16, .inr (.inl (fun i => jL (fu i))))), (w0, .inl (cJ, 60, .inr (.inl (fun i => vL (fw i))))), (y0, .inl (cJ, 32, .inr (.inl (fun i => vL (fy i)))))] := hD
                  refine lv_lstore (lv' := [(18, .long (vL zS)), (16, .long (vL zD)), (14, .long (vL zC)), (12, .long (vL (M k 2))), (10, .long (vL (M k 1))), (9, .int (jI (((8 * one + k) : Nat) : Int))), (8, .int (jI ((t : Nat) : Int))), (0, .ref e0), (1, .ref q0), (2, .ref v0), (3, .ref u0), (4, .ref w0), (5, .ref y0), (6, .int (jI ((one : Nat) : Int))), (7, .int (jI (((15 * one) : Nat) : Int)))]) hx hb dL_goes_235 hl (by decide) rfl (fun ls hl => ?_)
                  refine lv_lload hx hb dL_goes_237 (lv_at hl 0 rfl) ?_
                  refine lv_lconst (v := jL 0) hx hb dL_goes_239 rfl ?_
                  refine W.lcmp hx hb dL_goes_240 ?_
                  refine n_lif_ne (tgt := 246) hx hb (r64_z _) (by unfold r64; omega) dL_goes_241 (by decide) (fun h241 => False.elim (h241 (by rw [hs]; rfl))) (fun h241 => ?_)
                  refine n_iconst hx hb dL_goes_244 ?_
                  refine e_zret (fw, fy) hx hb hr hlocks dL_goes_245 hP hS rfl (Or.inl ⟨?_, rfl⟩)
                  have h9 := beh_none hnone (T - t)
                  rw [show t + (T - t) = T by omega] at h9
                  exact h9
                · have hbef : bef P B M dr n k = some (s5 fw) := by
                    show (ahd P B M dr n (M k 0).val).bind _ = _
                    rw [hz, ha]
                    exact hin
                  have htk := inn_take hin hz hd
                  unfold tk at htk
                  rw [if_neg (by rw [← eS]; exact hs)] at htk
                  obtain ⟨zY, hY9⟩ : ∃ z : Zp, z = M k 3 - M k 1 * fw 0 - M k 2 * fw 1 := ⟨_, rfl⟩
                  obtain ⟨zG, hG9⟩ : ∃ z : Zp, z = zY * zY * zinv zS := ⟨_, rfl⟩
                  have eY : zY = mY (M k) (s5 fw) := by rw [hY9]; exact rY_eq (M k) (s5 fw)
                  have eG : zG = mG (M k) (s5 fw) := by rw [hG9, eY, eS]; rfl
                  have ym : ∀ d : Zp, d = (if mgt (M k) (s5 fw) = true then 1 else 0) → YOs P B M dr n (yput fy k zY zS zG d) (fun j => (M j 0).val < t ∨ ((M j 0).val = t ∧ j < k + 1)) := by
                    intro d hd9 j h1 h2 h3
                    by_cases hjk : j = k
                    · subst hjk
                      refine ⟨_, hbef, ?_⟩
                      rw [eY, eS, eG]
                      exact YO.put _ _ _ _ hd9
                    · obtain ⟨q, h5, h6⟩ := houts j h1 h2 (by have h3 : (M j 0).val < t ∨ ((M j 0).val = t ∧ j < k + 1) := h3; show _ < t ∨ (_ = t ∧ j < k); omega)
                      exact ⟨q, h5, h6.keep hjk _ _ _ _⟩
                  by_cases hg : zv (M k 5) < zv zG
                  · have hgt : mgt (M k) (s5 fw) = true := decide_eq_true (by rw [← eG]; exact hg)
                    rw [if_pos hgt] at htk
                    refine lv_iload hx hb dL_goes_105 (lv_at hl 0 rfl) ?_
                    refine n_bipush hx hb dL_goes_107 (by decide) ?_
                    refine lv_iload hx hb dL_goes_109 (lv_at hl 8 rfl) ?_
                    refine n_imul hx hb dL_goes_111 ?_
                    refine lv_aload_n hx hb dL_goes_112 rfl (lv_at hl 2 rfl) ?_
                    refine lv_iload hx hb dL_goes_113 (lv_at hl 9 rfl) ?_
                    refine n_bipush hx hb dL_goes_115 (by decide) ?_
                    refine n_iadd hx hb dL_goes_117 ?_
                    refine n_ialdv (i := ((15 * one) + 14)) (v := ((n : Nat) : Int)) hx hb hK hP 0 0 rfl htI (by omega) (by omega) (Nat.le_of_ble_eq_true rfl) hE14 dL_goes_118 ?_
                    refine n_iadd hx hb dL_goes_119 ?_
                    refine n_icmp_ge (tgt := 484) hx hb (by unfold r32; omega) (by unfold r32; omega) dL_goes_120 (by decide) (fun h120 => False.elim (by omega)) (fun h120 => ?_)
                    refine lv_aload_n hx hb dL_goes_123 rfl (lv_at hl 3 rfl) ?_
                    refine lv_iload hx hb dL_goes_124 (lv_at hl 0 rfl) ?_
                    refine n_laldv (i := (8 * one + k)) (v := (zv (M k 1) * 4294967296 + (16 * (zv (M k 5) + 1) + zv (M k 0)))) hx hb hK hP 1 1 rfl htJ (by omega) (by omega) (Nat.le_of_ble_eq_true rfl) hq dL_goes_126 ?_
                    refine lv_ldc2 (v := jL 16) hx hb hown k84 dL_goes_127 ?_
                    refine n_lremv (v := (zv (M k 0))) hx hb dL_goes_130 (by omega) (by omega) (by omega) (by omega) (by omega) ?_
                    refine lv_iload hx hb dL_goes_131 (lv_at hl 1 rfl) ?_
                    refine n_i2l hx hb dL_goes_133 (by omega) (by omega) ?_
                    refine W.lcmp hx hb dL_goes_134 ?_
                    refine n_lif_ne (tgt := 478) hx hb (r64_z _) (by unfold r64; omega) dL_goes_135 (by decide) (fun h135 => False.elim (h135 (hzt.mpr hz))) (fun h135 => ?_)
                    refine lv_aload_n hx hb dL_goes_138 rfl (lv_at hl 5 rfl) ?_
                    refine lv_iload hx hb dL_goes_139 (lv_at hl 0 rfl) ?_
                    refine n_laldv (i := (8 * one + k)) (v := (2 * zv (M k 4) + iB (dr k))) hx hb hK hP 3 1 rfl htJ (by omega) (by omega) (Nat.le_of_ble_eq_true rfl) hu dL_goes_141 ?_
                    refine lv_ldc2 (v := jL 2) hx hb hown k86 dL_goes_142 ?_
                    refine n_lremv (v := (iB (dr k))) hx hb dL_goes_145 (by omega) (by omega) (by omega) (by omega) (by omega) ?_
                    refine lv_lconst (v := jL 1) hx hb dL_goes_146 rfl ?_
                    refine W.lcmp hx hb dL_goes_147 ?_
                    refine n_lif_ne (tgt := 154) hx hb (by unfold r64; omega) (by unfold r64; omega) dL_goes_148 (by decide) (fun h148 => ?_) (fun h148 => False.elim (absurd h148 (by rw [hd]; decide)))
                    refine lv_aload_n hx hb dL_goes_154 rfl (lv_at hl 3 rfl) ?_
                    refine lv_iload hx hb dL_goes_155 (lv_at hl 0 rfl) ?_
                    refine n_laldv (i := (8 * one + k)) (v := (zv (M k 1) * 4294967296 + (16 * (zv (M k 5) + 1) + zv (M k 0)))) hx hb hK hP 1 1 rfl htJ (by omega) (by omega) (Nat.le_of_ble_eq_true rfl) hq dL_goes_157 ?_
                    refine n_bipush hx hb dL_goes_158 (by decide) ?_
                    refine n_lshrv (v := (zv (M k 1))) hx hb dL_goes_160 (by omega) (by omega) (by omega) ?_
                    refine lv_lstore (lv' := [(10, .long (vL (M k 1))), (9, .int (jI (((8 * one + k) : Nat) : Int))), (8, .int (jI ((t : Nat) : Int))), (0, .ref e0), (1, .ref q0), (2, .ref v0), (3, .ref u0), (4, .ref w0), (5, .ref y0), (6, .int (jI ((one : Nat) : Int))), (7, .int (jI (((15 * one) : Nat) : Int)))]) hx hb dL_goes_161 hl (by decide) rfl (fun ls hl => ?_)
                    refine lv_aload_n hx hb dL_goes_163 rfl (lv_at hl 5 rfl) ?_
                    refine lv_iload hx hb dL_goes_164 (lv_at hl 1 rfl) ?_
                    refine n_laldv (i := (8 * one + k)) (v := (zv (M k 2) * 4294967296 + zv (M k 3))) hx hb hK hP 2 1 rfl htJ (by omega) (by omega) (Nat.le_of_ble_eq_true rfl) hv dL_goes_166 ?_
                    refine n_bipush hx hb dL_goes_167 (by decide) ?_
                    refine n_lshrv (v := (zv (M k 2))) hx hb dL_goes_169 (by omega) (by omega) (by omega) ?_
                    refine lv_lstore (lv' := [(12, .long (vL (M k 2))), (10, .long (vL (M k 1))), (9, .int (jI (((8 * one + k) : Nat) : Int))), (8, .int (jI ((t : Nat) : Int))), (0, .ref e0), (1, .ref q0), (2, .ref v0), (3, .ref u0), (4, .ref w0), (5, .ref y0), (6, .int (jI ((one : Nat) : Int))), (7, .int (jI (((15 * one) : Nat) : Int)))]) hx hb dL_goes_170 hl (by decide) rfl (fun ls hl => ?_)
                    refine lv_aload hx hb dL_goes_172 (lv_at hl 8 rfl) ?_
                    refine n_iconst hx hb dL_goes_174 ?_
                    refine n_lald (i := 2) hx hb hK hP 4 1 rfl htJ rfl (Nat.le_of_ble_eq_true rfl) (Nat.le_of_ble_eq_true rfl) dL_goes_175 ?_
                    refine lv_lload hx hb dL_goes_176 (lv_at hl 1 rfl) ?_
                    refine n_lmul hx hb dL_goes_178 ?_
                    refine lv_aload hx hb dL_goes_179 (lv_at hl 8 rfl) ?_
                    refine n_iconst hx hb dL_goes_181 ?_
                    refine n_lald (i := 3) hx hb hK hP 4 1 rfl htJ rfl (Nat.le_of_ble_eq_true rfl) (Nat.le_of_ble_eq_true rfl) dL_goes_182 ?_
                    refine lv_lload hx hb dL_goes_183 (lv_at hl 0 rfl) ?_
                    refine n_lmul hx hb dL_goes_185 ?_
                    refine n_ladd hx hb dL_goes_186 ?_
                    have ct187 := c_L_by l D tys ((zv (fw 2) * zv (M k 1)) + (zv (fw 3) * zv (M k 2))) _ _ (ra_to (rp_a (rp_add (rp_mul (rp_v (fw 2)) (rp_v (M k 1))) (rp_mul (rp_v (fw 3)) (rp_v (M k 2))))) hC.symm) (Nat.le_of_ble_eq_true rfl)
                    refine k_goL (va_runS (As := [.long (jL ((zv (fw 2) * zv (M k 1)) + (zv (fw 3) * zv (M k 2))))]) (rest := []) ⟨hx, hb, hml, hown, hts⟩ (ct187.2 _) (va_cwS 1 hts gL_goes_L_by rfl rfl rfl (by decide +kernel) ⟨Nat.le_of_ble_eq_true rfl, Nat.le_of_ble_eq_true rfl⟩) (k_pre hK hP hD (is := []) rfl rfl) rfl rfl hl.1 rfl (lv_room (Nat.le_of_ble_eq_true rfl)) dL_goes_187 ⟨Nat.le_of_ble_eq_true rfl, Nat.le_of_ble_eq_true rfl⟩) ct187.1 hP hD hS hA [] rfl rfl (fun H locs hP hD hS => ?_)
                    have hP : va_P D vwCl [(e0, .inl (cI, 45, .inl (fun i => jI (fe i)))), (q0, .inl (cJ, 16, .inr (.inl (fun i => jL (fq i))))), (v0, .inl (cJ, 16, .inr (.inl (fun i => jL (fv i))))), (u0, .inl (cJ, 16, .inr (.inl (fun i => jL (fu i))))), (w0, .inl (cJ, 60, .inr (.inl (fun i => vL (fw i))))), (y0, .inl (cJ, 32, .inr (.inl (fun i => vL (fy i)))))] H := hP
                    have hD : va_D A [(e0, .inl (cI, 45, .inl (fun i => jI (fe i)))), (q0, .inl (cJ, 16, .inr (.inl (fun i => jL (fq i))))), (v0, .inl (cJ, 16, .inr (.inl (fun i => jL (fv i))))), (u0, .inl (cJ, 16, .inr (.inl (fun i => jL (fu i))))), (w0, .inl (cJ, 60, .inr (.inl (fun i => vL (fw i))))), (y0, .inl (cJ, 32, .inr (.inl (fun i => vL (fy i)))))] := hD
                    refine lv_lstore (lv' := [(14, .long (vL zC)), (12, .long (vL (M k 2))), (10, .long (vL (M k 1))), (9, .int (jI (((8 * one + k) : Nat) : Int))), (8, .int (jI ((t : Nat) : Int))), (0, .ref e0), (1, .ref q0), (2, .ref v0), (3, .ref u0), (4, .ref w0), (5, .ref y0), (6, .int (jI ((one : Nat) : Int))), (7, .int (jI (((15 * one) : Nat) : Int)))]) hx hb dL_goes_190 hl (by decide) rfl (fun ls hl => ?_)
                    refine lv_aload hx hb dL_goes_192 (lv_at hl 9 rfl) ?_
                    refine n_iconst hx hb dL_goes_194 ?_
                    refine n_lald (i := 3) hx hb hK hP 4 1 rfl htJ rfl (Nat.le_of_ble_eq_true rfl) (Nat.le_of_ble_eq_true rfl) dL_goes_195 ?_
                    refine lv_lload hx hb dL_goes_196 (lv_at hl 2 rfl) ?_
                    refine n_lmul hx hb dL_goes_198 ?_
                    refine lv_aload hx hb dL_goes_199 (lv_at hl 9 rfl) ?_
                    refine n_iconst hx hb dL_goes_201 ?_
                    refine n_lald (i := 4) hx hb hK hP 4 1 rfl htJ rfl (Nat.le_of_ble_eq_true rfl) (Nat.le_of_ble_eq_true rfl) dL_goes_202 ?_
                    refine lv_lload hx hb dL_goes_203 (lv_at hl 1 rfl) ?_
                    refine n_lmul hx hb dL_goes_205 ?_
                    refine n_ladd hx hb dL_goes_206 ?_
                    have ct207 := c_L_by l D tys ((zv (fw 3) * zv (M k 1)) + (zv (fw 4) * zv (M k 2))) _ _ (ra_to (rp_a (rp_add (rp_mul (rp_v (fw 3)) (rp_v (M k 1))) (rp_mul (rp_v (fw 4)) (rp_v (M k 2))))) hD9.symm) (Nat.le_of_ble_eq_true rfl)
                    refine k_goL (va_runS (As := [.long (jL ((zv (fw 3) * zv (M k 1)) + (zv (fw 4) * zv (M k 2))))]) (rest := []) ⟨hx, hb, hml, hown, hts⟩ (ct207.2 _) (va_cwS 1 hts gL_goes_L_by rfl rfl rfl (by decide +kernel) ⟨Nat.le_of_ble_eq_true rfl, Nat.le_of_ble_eq_true rfl⟩) (k_pre hK hP hD (is := []) rfl rfl) rfl rfl hl.1 rfl (lv_room (Nat.le_of_ble_eq_true rfl)) dL_goes_207 ⟨Nat.le_of_ble_eq_true rfl, Nat.le_of_ble_eq_true rfl⟩) ct207.1 hP hD hS hA [] rfl rfl (fun H locs hP hD hS => ?_)
                    have hP : va_P D vwCl [(e0, .inl (cI, 45, .inl (fun i => jI (fe i)))), (q0, .inl (cJ, 16, .inr (.inl (fun i => jL (fq i))))), (v0, .inl (cJ, 16, .inr (.inl (fun i => jL (fv i))))), (u0, .inl (cJ, 16, .inr (.inl (fun i => jL (fu i))))), (w0, .inl (cJ, 60, .inr (.inl (fun i => vL (fw i))))), (y0, .inl (cJ, 32, .inr (.inl (fun i => vL (fy i)))))] H := hP
                    have hD : va_D A [(e0, .inl (cI, 45, .inl (fun i => jI (fe i)))), (q0, .inl (cJ, 16, .inr (.inl (fun i => jL (fq i))))), (v0, .inl (cJ, 16, .inr (.inl (fun i => jL (fv i))))), (u0, .inl (cJ, 16, .inr (.inl (fun i => jL (fu i))))), (w0, .inl (cJ, 60, .inr (.inl (fun i => vL (fw i))))), (y0, .inl (cJ, 32, .inr (.inl (fun i => vL (fy i)))))] := hD
                    refine lv_lstore (lv' := [(16, .long (vL zD)), (14, .long (vL zC)), (12, .long (vL (M k 2))), (10, .long (vL (M k 1))), (9, .int (jI (((8 * one + k) : Nat) : Int))), (8, .int (jI ((t : Nat) : Int))), (0, .ref e0), (1, .ref q0), (2, .ref v0), (3, .ref u0), (4, .ref w0), (5, .ref y0), (6, .int (jI ((one : Nat) : Int))), (7, .int (jI (((15 * one) : Nat) : Int)))]) hx hb dL_goes_210 hl (by decide) rfl (fun ls hl => ?_)
                    refine lv_lload hx hb dL_goes_212 (lv_at hl 3 rfl) ?_
                    refine lv_lload hx hb dL_goes_214 (lv_at hl 1 rfl) ?_
                    refine n_lmul hx hb dL_goes_216 ?_
                    refine lv_lload hx hb dL_goes_217 (lv_at hl 2 rfl) ?_
                    refine lv_lload hx hb dL_goes_219 (lv_at hl 0 rfl) ?_
                    refine n_lmul hx hb dL_goes_221 ?_
                    refine n_ladd hx hb dL_goes_222 ?_
                    refine lv_aload_n hx hb dL_goes_223 rfl (lv_at hl 9 rfl) ?_
                    refine lv_iload hx hb dL_goes_224 (lv_at hl 4 rfl) ?_
                    refine n_laldv (i := (8 * one + k)) (v := (2 * zv (M k 4) + iB (dr k))) hx hb hK hP 3 1 rfl htJ (by omega) (by omega) (Nat.le_of_ble_eq_true rfl) hu dL_goes_226 ?_
                    refine lv_ldc2 (v := jL 2) hx hb hown k86 dL_goes_227 ?_
                    refine n_ldivv (v := (zv (M k 4))) hx hb dL_goes_230 (by omega) (by omega) (by omega) (by omega) (by omega) ?_
                    refine n_ladd hx hb dL_goes_231 ?_
                    have ct232 := c_L_by l D tys (((zv (M k 1) * zv zC) + (zv (M k 2) * zv zD)) + zv (M k 4)) _ _ (ra_to (rp_a (rp_add (rp_add (rp_mul (rp_v (M k 1)) (rp_v zC)) (rp_mul (rp_v (M k 2)) (rp_v zD))) (rp_v (M k 4)))) hS9.symm) (Nat.le_of_ble_eq_true rfl)
                    refine k_goL (va_runS (As := [.long (jL (((zv (M k 1) * zv zC) + (zv (M k 2) * zv zD)) + zv (M k 4)))]) (rest := []) ⟨hx, hb, hml, hown, hts⟩ (ct232.2 _) (va_cwS 1 hts gL_goes_L_by rfl rfl rfl (by decide +kernel) ⟨Nat.le_of_ble_eq_true rfl, Nat.le_of_ble_eq_true rfl⟩) (k_pre hK hP hD (is := []) rfl rfl) rfl rfl hl.1 rfl (lv_room (Nat.le_of_ble_eq_true rfl)) dL_goes_232 ⟨Nat.le_of_ble_eq_true rfl, Nat.le_of_ble_eq_true rfl⟩) ct232.1 hP hD hS hA [] rfl rfl (fun H locs hP hD hS => ?_)
                    have hP : va_P D vwCl [(e0, .inl (cI, 45, .inl (fun i => jI (fe i)))), (q0, .inl (cJ, 16, .inr (.inl (fun i => jL (fq i))))), (v0, .inl (cJ, 16, .inr (.inl (fun i => jL (fv i))))), (u0, .inl (cJ, 16, .inr (.inl (fun i => jL (fu i))))), (w0, .inl (cJ, 60, .inr (.inl (fun i => vL (fw i))))), (y0, .inl (cJ, 32, .inr (.inl (fun i => vL (fy i)))))] H := hP
                    have hD : va_D A [(e0, .inl (cI, 45, .inl (fun i => jI (fe i)))), (q0, .inl (cJ, 16, .inr (.inl (fun i => jL (fq i))))), (v0, .inl (cJ, 16, .inr (.inl (fun i => jL (fv i))))), (u0, .inl (cJ, 16, .inr (.inl (fun i => jL (fu i))))), (w0, .inl (cJ, 60, .inr (.inl (fun i => vL (fw i))))), (y0, .inl (cJ, 32, .inr (.inl (fun i => vL (fy i)))))] := hD
                    refine lv_lstore (lv' := [(18, .long (vL zS)), (16, .long (vL zD)), (14, .long (vL zC)), (12, .long (vL (M k 2))), (10, .long (vL (M k 1))), (9, .int (jI (((8 * one + k) : Nat) : Int))), (8, .int (jI ((t : Nat) : Int))), (0, .ref e0), (1, .ref q0), (2, .ref v0), (3, .ref u0), (4, .ref w0), (5, .ref y0), (6, .int (jI ((one : Nat) : Int))), (7, .int (jI (((15 * one) : Nat) : Int)))]) hx hb dL_goes_235 hl (by decide) rfl (fun ls hl => ?_)
                    refine lv_lload hx hb dL_goes_237 (lv_at hl 0 rfl) ?_
                    refine lv_lconst (v := jL 0) hx hb dL_goes_239 rfl ?_
                    refine W.lcmp hx hb dL_goes_240 ?_
                    refine n_lif_ne (tgt := 246) hx hb (r64_z _) (by unfold r64; omega) dL_goes_241 (by decide) (fun h241 => ?_) (fun h241 => False.elim (hs (zv_eq0.mp h241)))
                    refine lv_aload_n hx hb dL_goes_246 rfl (lv_at hl 9 rfl) ?_
                    refine lv_iload hx hb dL_goes_247 (lv_at hl 5 rfl) ?_
                    refine n_laldv (i := (8 * one + k)) (v := (zv (M k 2) * 4294967296 + zv (M k 3))) hx hb hK hP 2 1 rfl htJ (by omega) (by omega) (Nat.le_of_ble_eq_true rfl) hv dL_goes_249 ?_
                    refine lv_ldc2 (v := jL 65536) hx hb hown k88 dL_goes_250 ?_
                    refine n_lremv (v := (zv (M k 3))) hx hb dL_goes_253 (by omega) (by omega) (by omega) (by omega) (by omega) ?_
                    refine lv_lload hx hb dL_goes_254 (lv_at hl 4 rfl) ?_
                    refine lv_aload hx hb dL_goes_256 (lv_at hl 11 rfl) ?_
                    refine n_iconst hx hb dL_goes_258 ?_
                    refine n_lald (i := 0) hx hb hK hP 4 1 rfl htJ rfl (Nat.le_of_ble_eq_true rfl) (Nat.le_of_ble_eq_true rfl) dL_goes_259 ?_
                    refine n_lmul hx hb dL_goes_260 ?_
                    have ct261 := c_L_by l D tys (zv (M k 1) * zv (fw 0)) _ _ (rp_a (rp_mul (rp_v (M k 1)) (rp_v (fw 0)))) (Nat.le_of_ble_eq_true rfl)
                    refine k_goL (va_runS (As := [.long (jL (zv (M k 1) * zv (fw 0)))]) (rest := [.long (vL (M k 3))]) ⟨hx, hb, hml, hown, hts⟩ (ct261.2 _) (va_cwS 1 hts gL_goes_L_by rfl rfl rfl (by decide +kernel) ⟨Nat.le_of_ble_eq_true rfl, Nat.le_of_ble_eq_true rfl⟩) (k_pre hK hP hD (is := []) rfl rfl) rfl rfl hl.1 rfl (lv_room (Nat.le_of_ble_eq_true rfl)) dL_goes_261 ⟨Nat.le_of_ble_eq_true rfl, Nat.le_of_ble_eq_true rfl⟩) ct261.1 hP hD hS hA [] rfl rfl (fun H locs hP hD hS => ?_)
                    have hP : va_P D vwCl [(e0, .inl (cI, 45, .inl (fun i => jI (fe i)))), (q0, .inl (cJ, 16, .inr (.inl (fun i => jL (fq i))))), (v0, .inl (cJ, 16, .inr (.inl (fun i => jL (fv i))))), (u0, .inl (cJ, 16, .inr (.inl (fun i => jL (fu i))))), (w0, .inl (cJ, 60, .inr (.inl (fun i => vL (fw i))))), (y0, .inl (cJ, 32, .inr (.inl (fun i => vL (fy i)))))] H := hP
                    have hD : va_D A [(e0, .inl (cI, 45, .inl (fun i => jI (fe i)))), (q0, .inl (cJ, 16, .inr (.inl (fun i => jL (fq i))))), (v0, .inl (cJ, 16, .inr (.inl (fun i => jL (fv i))))), (u0, .inl (cJ, 16, .inr (.inl (fun i => jL (fu i))))), (w0, .inl (cJ, 60, .inr (.inl (fun i => vL (fw i))))), (y0, .inl (cJ, 32, .inr (.inl (fun i => vL (fy i)))))] := hD
                    refine n_lsub hx hb dL_goes_264 ?_
                    refine lv_lload hx hb dL_goes_265 (lv_at hl 3 rfl) ?_
                    refine lv_aload hx hb dL_goes_267 (lv_at hl 11 rfl) ?_
                    refine n_iconst hx hb dL_goes_269 ?_
                    refine n_lald (i := 1) hx hb hK hP 4 1 rfl htJ rfl (Nat.le_of_ble_eq_true rfl) (Nat.le_of_ble_eq_true rfl) dL_goes_270 ?_
                    refine n_lmul hx hb dL_goes_271 ?_
                    have ct272 := c_L_by l D tys (zv (M k 2) * zv (fw 1)) _ _ (rp_a (rp_mul (rp_v (M k 2)) (rp_v (fw 1)))) (Nat.le_of_ble_eq_true rfl)
                    refine k_goL (va_runS (As := [.long (jL (zv (M k 2) * zv (fw 1)))]) (rest := [.long (jL (zv (M k 3) - zv ((M k 1) * (fw 0))))]) ⟨hx, hb, hml, hown, hts⟩ (ct272.2 _) (va_cwS 1 hts gL_goes_L_by rfl rfl rfl (by decide +kernel) ⟨Nat.le_of_ble_eq_true rfl, Nat.le_of_ble_eq_true rfl⟩) (k_pre hK hP hD (is := []) rfl rfl) rfl rfl hl.1 rfl (lv_room (Nat.le_of_ble_eq_true rfl)) dL_goes_272 ⟨Nat.le_of_ble_eq_true rfl, Nat.le_of_ble_eq_true rfl⟩) ct272.1 hP hD hS hA [] rfl rfl (fun H locs hP hD hS => ?_)
                    have hP : va_P D vwCl [(e0, .inl (cI, 45, .inl (fun i => jI (fe i)))), (q0, .inl (cJ, 16, .inr (.inl (fun i => jL (fq i))))), (v0, .inl (cJ, 16, .inr (.inl (fun i => jL (fv i))))), (u0, .inl (cJ, 16, .inr (.inl (fun i => jL (fu i))))), (w0, .inl (cJ, 60, .inr (.inl (fun i => vL (fw i))))), (y0, .inl (cJ, 32, .inr (.inl (fun i => vL (fy i)))))] H := hP
                    have hD : va_D A [(e0, .inl (cI, 45, .inl (fun i => jI (fe i)))), (q0, .inl (cJ, 16, .inr (.inl (fun i => jL (fq i))))), (v0, .inl (cJ, 16, .inr (.inl (fun i => jL (fv i))))), (u0, .inl (cJ, 16, .inr (.inl (fun i => jL (fu i))))), (w0, .inl (cJ, 60, .inr (.inl (fun i => vL (fw i))))), (y0, .inl (cJ, 32, .inr (.inl (fun i => vL (fy i)))))] := hD
                    refine n_lsub hx hb dL_goes_275 ?_
                    have ct276 := c_L_by l D tys ((zv (M k 3) - zv ((M k 1) * (fw 0))) - zv ((M k 2) * (fw 1))) _ _ (ra_to (ra_sub (ra_sub (rp_a (rp_v (M k 3))) (rp_a (rp_v ((M k 1) * (fw 0))))) (rp_a (rp_v ((M k 2) * (fw 1))))) hY9.symm) (Nat.le_of_ble_eq_true rfl)
                    refine k_goL (va_runS (As := [.long (jL ((zv (M k 3) - zv ((M k 1) * (fw 0))) - zv ((M k 2) * (fw 1))))]) (rest := []) ⟨hx, hb, hml, hown, hts⟩ (ct276.2 _) (va_cwS 1 hts gL_goes_L_by rfl rfl rfl (by decide +kernel) ⟨Nat.le_of_ble_eq_true rfl, Nat.le_of_ble_eq_true rfl⟩) (k_pre hK hP hD (is := []) rfl rfl) rfl rfl hl.1 rfl (lv_room (Nat.le_of_ble_eq_true rfl)) dL_goes_276 ⟨Nat.le_of_ble_eq_true rfl, Nat.le_of_ble_eq_true rfl⟩) ct276.1 hP hD hS hA [] rfl rfl (fun H locs hP hD hS => ?_)
                    have hP : va_P D vwCl [(e0, .inl (cI, 45, .inl (fun i => jI (fe i)))), (q0, .inl (cJ, 16, .inr (.inl (fun i => jL (fq i))))), (v0, .inl (cJ, 16, .inr (.inl (fun i => jL (fv i))))), (u0, .inl (cJ, 16, .inr (.inl (fun i => jL (fu i))))), (w0, .inl (cJ, 60, .inr (.inl (fun i => vL (fw i))))), (y0, .inl (cJ, 32, .inr (.inl (fun i => vL (fy i)))))] H := hP
                    have hD : va_D A [(e0, .inl (cI, 45, .inl (fun i => jI (fe i)))), (q0, .inl (cJ, 16, .inr (.inl (fun i => jL (fq i))))), (v0, .inl (cJ, 16, .inr (.inl (fun i => jL (fv i))))), (u0, .inl (cJ, 16, .inr (.inl (fun i => jL (fu i))))), (w0, .inl (cJ, 60, .inr (.inl (fun i => vL (fw i))))), (y0, .inl (cJ, 32, .inr (.inl (fun i => vL (fy i)))))] := hD
                    refine lv_lstore (lv' := [(20, .long (vL zY)), (18, .long (vL zS)), (16, .long (vL zD)), (14, .long (vL zC)), (12, .long (vL (M k 2))), (10, .long (vL (M k 1))), (9, .int (jI (((8 * one + k) : Nat) : Int))), (8, .int (jI ((t : Nat) : Int))), (0, .ref e0), (1, .ref q0), (2, .ref v0), (3, .ref u0), (4, .ref w0), (5, .ref y0), (6, .int (jI ((one : Nat) : Int))), (7, .int (jI (((15 * one) : Nat) : Int)))]) hx hb dL_goes_279 hl (by decide) rfl (fun ls hl => ?_)
                    refine lv_lload hx hb dL_goes_281 (lv_at hl 0 rfl) ?_
                    refine lv_lload hx hb dL_goes_283 (lv_at hl 0 rfl) ?_
                    refine n_lmul hx hb dL_goes_285 ?_
                    have ct286 := c_L_by l D tys (zv zY * zv zY) _ _ (rp_a (rp_mul (rp_v zY) (rp_v zY))) (Nat.le_of_ble_eq_true rfl)
                    refine k_goL (va_runS (As := [.long (jL (zv zY * zv zY))]) (rest := []) ⟨hx, hb, hml, hown, hts⟩ (ct286.2 _) (va_cwS 1 hts gL_goes_L_by rfl rfl rfl (by decide +kernel) ⟨Nat.le_of_ble_eq_true rfl, Nat.le_of_ble_eq_true rfl⟩) (k_pre hK hP hD (is := []) rfl rfl) rfl rfl hl.1 rfl (lv_room (Nat.le_of_ble_eq_true rfl)) dL_goes_286 ⟨Nat.le_of_ble_eq_true rfl, Nat.le_of_ble_eq_true rfl⟩) ct286.1 hP hD hS hA [] rfl rfl (fun H locs hP hD hS => ?_)
                    have hP : va_P D vwCl [(e0, .inl (cI, 45, .inl (fun i => jI (fe i)))), (q0, .inl (cJ, 16, .inr (.inl (fun i => jL (fq i))))), (v0, .inl (cJ, 16, .inr (.inl (fun i => jL (fv i))))), (u0, .inl (cJ, 16, .inr (.inl (fun i => jL (fu i))))), (w0, .inl (cJ, 60, .inr (.inl (fun i => vL (fw i))))), (y0, .inl (cJ, 32, .inr (.inl (fun i => vL (fy i)))))] H := hP
                    have hD : va_D A [(e0, .inl (cI, 45, .inl (fun i => jI (fe i)))), (q0, .inl (cJ, 16, .inr (.inl (fun i => jL (fq i))))), (v0, .inl (cJ, 16, .inr (.inl (fun i => jL (fv i))))), (u0, .inl (cJ, 16, .inr (.inl (fun i => jL (fu i))))), (w0, .inl (cJ, 60, .inr (.inl (fun i => vL (fw i))))), (y0, .inl (cJ, 32, .inr (.inl (fun i => vL (fy i)))))] := hD
                    refine lv_lload hx hb dL_goes_289 (lv_at hl 1 rfl) ?_
                    have ct291 := c_L_over l D tys (zv zS) _ _ (rp_a (rp_v zS)) (Nat.le_of_ble_eq_true rfl)
                    refine k_goL (va_runS (As := [.long (vL zS)]) (rest := [.long (vL (zY * zY))]) ⟨hx, hb, hml, hown, hts⟩ (ct291.2 _) (va_cwS 1 hts gL_goes_L_over rfl rfl rfl (by decide +kernel) ⟨Nat.le_of_ble_eq_true rfl, Nat.le_of_ble_eq_true rfl⟩) (k_pre hK hP hD (is := []) rfl rfl) rfl rfl hl.1 rfl (lv_room (Nat.le_of_ble_eq_true rfl)) dL_goes_291 ⟨Nat.le_of_ble_eq_true rfl, Nat.le_of_ble_eq_true rfl⟩) ct291.1 hP hD hS hA [] rfl rfl (fun H locs hP hD hS => ?_)
                    have hP : va_P D vwCl [(e0, .inl (cI, 45, .inl (fun i => jI (fe i)))), (q0, .inl (cJ, 16, .inr (.inl (fun i => jL (fq i))))), (v0, .inl (cJ, 16, .inr (.inl (fun i => jL (fv i))))), (u0, .inl (cJ, 16, .inr (.inl (fun i => jL (fu i))))), (w0, .inl (cJ, 60, .inr (.inl (fun i => vL (fw i))))), (y0, .inl (cJ, 32, .inr (.inl (fun i => vL (fy i)))))] H := hP
                    have hD : va_D A [(e0, .inl (cI, 45, .inl (fun i => jI (fe i)))), (q0, .inl (cJ, 16, .inr (.inl (fun i => jL (fq i))))), (v0, .inl (cJ, 16, .inr (.inl (fun i => jL (fv i))))), (u0, .inl (cJ, 16, .inr (.inl (fun i => jL (fu i))))), (w0, .inl (cJ, 60, .inr (.inl (fun i => vL (fw i))))), (y0, .inl (cJ, 32, .inr (.inl (fun i => vL (fy i)))))] := hD
                    refine n_lmul hx hb dL_goes_294 ?_
                    have ct295 := c_L_by l D tys (zv (zY * zY) * zv (zinv zS)) _ _ (ra_to (rp_a (rp_mul (rp_v (zY * zY)) (rp_v (zinv zS)))) hG9.symm) (Nat.le_of_ble_eq_true rfl)
                    refine k_goL (va_runS (As := [.long (jL (zv (zY * zY) * zv (zinv zS)))]) (rest := []) ⟨hx, hb, hml, hown, hts⟩ (ct295.2 _) (va_cwS 1 hts gL_goes_L_by rfl rfl rfl (by decide +kernel) ⟨Nat.le_of_ble_eq_true rfl, Nat.le_of_ble_eq_true rfl⟩) (k_pre hK hP hD (is := []) rfl rfl) rfl rfl hl.1 rfl (lv_room (Nat.le_of_ble_eq_true rfl)) dL_goes_295 ⟨Nat.le_of_ble_eq_true rfl, Nat.le_of_ble_eq_true rfl⟩) ct295.1 hP hD hS hA [] rfl rfl (fun H locs hP hD hS => ?_)
                    have hP : va_P D vwCl [(e0, .inl (cI, 45, .inl (fun i => jI (fe i)))), (q0, .inl (cJ, 16, .inr (.inl (fun i => jL (fq i))))), (v0, .inl (cJ, 16, .inr (.inl (fun i => jL (fv i))))), (u0, .inl (cJ, 16, .inr (.inl (fun i => jL (fu i))))), (w0, .inl (cJ, 60, .inr (.inl (fun i => vL (fw i))))), (y0, .inl (cJ, 32, .inr (.inl (fun i => vL (fy i)))))] H := hP
                    have hD : va_D A [(e0, .inl (cI, 45, .inl (fun i => jI (fe i)))), (q0, .inl (cJ, 16, .inr (.inl (fun i => jL (fq i))))), (v0, .inl (cJ, 16, .inr (.inl (fun i => jL (fv i))))), (u0, .inl (cJ, 16, .inr (.inl (fun i => jL (fu i))))), (w0, .inl (cJ, 60, .inr (.inl (fun i => vL (fw i))))), (y0, .inl (cJ, 32, .inr (.inl (fun i => vL (fy i)))))] := hD
                    refine lv_lstore (lv' := [(22, .long (vL zG)), (20, .long (vL zY)), (18, .long (vL zS)), (16, .long (vL zD)), (14, .long (vL zC)), (12, .long (vL (M k 2))), (10, .long (vL (M k 1))), (9, .int (jI (((8 * one + k) : Nat) : Int))), (8, .int (jI ((t : Nat) : Int))), (0, .ref e0), (1, .ref q0), (2, .ref v0), (3, .ref u0), (4, .ref w0), (5, .ref y0), (6, .int (jI ((one : Nat) : Int))), (7, .int (jI (((15 * one) : Nat) : Int)))]) hx hb dL_goes_298 hl (by decide) rfl (fun ls hl => ?_)
                    refine lv_lload hx hb dL_goes_300 (lv_at hl 0 rfl) ?_
                    refine lv_aload_n hx hb dL_goes_302 rfl (lv_at hl 10 rfl) ?_
                    refine lv_iload hx hb dL_goes_303 (lv_at hl 7 rfl) ?_
                    refine n_laldv (i := (8 * one + k)) (v := (zv (M k 1) * 4294967296 + (16 * (zv (M k 5) + 1) + zv (M k 0)))) hx hb hK hP 1 1 rfl htJ (by omega) (by omega) (Nat.le_of_ble_eq_true rfl) hq dL_goes_305 ?_
                    refine lv_ldc2 (v := jL 4294967296) hx hb hown k93 dL_goes_306 ?_
                    refine n_lremv (v := (16 * (zv (M k 5) + 1) + zv (M k 0))) hx hb dL_goes_309 (by omega) (by omega) (by omega) (by omega) (by omega) ?_
                    refine lv_ldc2 (v := jL 16) hx hb hown k84 dL_goes_310 ?_
                    refine n_ldivv (v := (zv (M k 5) + 1)) hx hb dL_goes_313 (by omega) (by omega) (by omega) (by omega) (by omega) ?_
                    refine W.lcmp hx hb dL_goes_314 ?_
                    refine n_lif_lt (tgt := 322) hx hb (r64_z _) (by unfold r64; omega) dL_goes_315 (by decide) (fun h315 => False.elim (by omega)) (fun h315 => ?_)
                    refine n_iconst hx hb dL_goes_318 ?_
                    refine lv_goto (tgt := 323) hx hb dL_goes_319 (by decide) ?_
                    refine lv_istore (lv' := [(24, .int (jI 1)), (22, .long (vL zG)), (20, .long (vL zY)), (18, .long (vL zS)), (16, .long (vL zD)), (14, .long (vL zC)), (12, .long (vL (M k 2))), (10, .long (vL (M k 1))), (9, .int (jI (((8 * one + k) : Nat) : Int))), (8, .int (jI ((t : Nat) : Int))), (0, .ref e0), (1, .ref q0), (2, .ref v0), (3, .ref u0), (4, .ref w0), (5, .ref y0), (6, .int (jI ((one : Nat) : Int))), (7, .int (jI (((15 * one) : Nat) : Int)))]) hx hb dL_goes_323 hl (by decide) rfl (fun ls hl => ?_)
                    refine n_iconst hx hb dL_goes_325 ?_
                    refine lv_iload hx hb dL_goes_326 (lv_at hl 8 rfl) ?_
                    refine n_bipush hx hb dL_goes_328 (by decide) ?_
                    refine n_iremv (v := ((k : Nat) : Int)) hx hb dL_goes_330 (by omega) (by omega) (by omega) (by omega) (by omega) ?_
                    refine n_imul hx hb dL_goes_331 ?_
                    refine lv_istore (lv' := [(25, .int (jI (4 * ((k : Nat) : Int)))), (24, .int (jI 1)), (22, .long (vL zG)), (20, .long (vL zY)), (18, .long (vL zS)), (16, .long (vL zD)), (14, .long (vL zC)), (12, .long (vL (M k 2))), (10, .long (vL (M k 1))), (9, .int (jI (((8 * one + k) : Nat) : Int))), (8, .int (jI ((t : Nat) : Int))), (0, .ref e0), (1, .ref q0), (2, .ref v0), (3, .ref u0), (4, .ref w0), (5, .ref y0), (6, .int (jI ((one : Nat) : Int))), (7, .int (jI (((15 * one) : Nat) : Int)))]) hx hb dL_goes_332 hl (by decide) rfl (fun ls hl => ?_)
                    refine lv_aload hx hb dL_goes_334 (lv_at hl 16 rfl) ?_
                    refine lv_iload hx hb dL_goes_336 (lv_at hl 0 rfl) ?_
                    refine lv_lload hx hb dL_goes_338 (lv_at hl 3 rfl) ?_
                    refine n_zlast (i := (4 * k)) (x := zY) hx hb hK hP hD hS 5 1 rfl htJ (by omega) (by omega) (Nat.le_of_ble_eq_true rfl) dL_goes_340 (fun H locs hP hD hS => ?_)
                    have hP : va_P D vwCl [(e0, .inl (cI, 45, .inl (fun i => jI (fe i)))), (q0, .inl (cJ, 16, .inr (.inl (fun i => jL (fq i))))), (v0, .inl (cJ, 16, .inr (.inl (fun i => jL (fv i))))), (u0, .inl (cJ, 16, .inr (.inl (fun i => jL (fu i))))), (w0, .inl (cJ, 60, .inr (.inl (fun i => vL (fw i))))), (y0, .inl (cJ, 32, .inr (.inl (fun i => vL ((va_up fy (4 * k) zY) i)))))] H := hP
                    have hD : va_D A [(e0, .inl (cI, 45, .inl (fun i => jI (fe i)))), (q0, .inl (cJ, 16, .inr (.inl (fun i => jL (fq i))))), (v0, .inl (cJ, 16, .inr (.inl (fun i => jL (fv i))))), (u0, .inl (cJ, 16, .inr (.inl (fun i => jL (fu i))))), (w0, .inl (cJ, 60, .inr (.inl (fun i => vL (fw i))))), (y0, .inl (cJ, 32, .inr (.inl (fun i => vL ((va_up fy (4 * k) zY) i)))))] := hD
                    refine lv_aload hx hb dL_goes_341 (lv_at hl 16 rfl) ?_
                    refine lv_iload hx hb dL_goes_343 (lv_at hl 0 rfl) ?_
                    refine n_iconst hx hb dL_goes_345 ?_
                    refine n_iadd hx hb dL_goes_346 ?_
                    refine lv_lload hx hb dL_goes_347 (lv_at hl 4 rfl) ?_
                    refine n_zlast (i := (4 * k + 1)) (x := zS) hx hb hK hP hD hS 5 1 rfl htJ (by omega) (by omega) (Nat.le_of_ble_eq_true rfl) dL_goes_349 (fun H locs hP hD hS => ?_)
                    have hP : va_P D vwCl [(e0, .inl (cI, 45, .inl (fun i => jI (fe i)))), (q0, .inl (cJ, 16, .inr (.inl (fun i => jL (fq i))))), (v0, .inl (cJ, 16, .inr (.inl (fun i => jL (fv i))))), (u0, .inl (cJ, 16, .inr (.inl (fun i => jL (fu i))))), (w0, .inl (cJ, 60, .inr (.inl (fun i => vL (fw i))))), (y0, .inl (cJ, 32, .inr (.inl (fun i => vL ((va_up (va_up fy (4 * k) zY) (4 * k + 1) zS) i)))))] H := hP
                    have hD : va_D A [(e0, .inl (cI, 45, .inl (fun i => jI (fe i)))), (q0, .inl (cJ, 16, .inr (.inl (fun i => jL (fq i))))), (v0, .inl (cJ, 16, .inr (.inl (fun i => jL (fv i))))), (u0, .inl (cJ, 16, .inr (.inl (fun i => jL (fu i))))), (w0, .inl (cJ, 60, .inr (.inl (fun i => vL (fw i))))), (y0, .inl (cJ, 32, .inr (.inl (fun i => vL ((va_up (va_up fy (4 * k) zY) (4 * k + 1) zS) i)))))] := hD
                    refine lv_aload hx hb dL_goes_350 (lv_at hl 16 rfl) ?_
                    refine lv_iload hx hb dL_goes_352 (lv_at hl 0 rfl) ?_
                    refine n_iconst hx hb dL_goes_354 ?_
                    refine n_iadd hx hb dL_goes_355 ?_
                    refine lv_lload hx hb dL_goes_356 (lv_at hl 2 rfl) ?_
                    refine n_zlast (i := (4 * k + 2)) (x := zG) hx hb hK hP hD hS 5 1 rfl htJ (by omega) (by omega) (Nat.le_of_ble_eq_true rfl) dL_goes_358 (fun H locs hP hD hS => ?_)
                    have hP : va_P D vwCl [(e0, .inl (cI, 45, .inl (fun i => jI (fe i)))), (q0, .inl (cJ, 16, .inr (.inl (fun i => jL (fq i))))), (v0, .inl (cJ, 16, .inr (.inl (fun i => jL (fv i))))), (u0, .inl (cJ, 16, .inr (.inl (fun i => jL (fu i))))), (w0, .inl (cJ, 60, .inr (.inl (fun i => vL (fw i))))), (y0, .inl (cJ, 32, .inr (.inl (fun i => vL ((va_up (va_up (va_up fy (4 * k) zY) (4 * k + 1) zS) (4 * k + 2) zG) i)))))] H := hP
                    have hD : va_D A [(e0, .inl (cI, 45, .inl (fun i => jI (fe i)))), (q0, .inl (cJ, 16, .inr (.inl (fun i => jL (fq i))))), (v0, .inl (cJ, 16, .inr (.inl (fun i => jL (fv i))))), (u0, .inl (cJ, 16, .inr (.inl (fun i => jL (fu i))))), (w0, .inl (cJ, 60, .inr (.inl (fun i => vL (fw i))))), (y0, .inl (cJ, 32, .inr (.inl (fun i => vL ((va_up (va_up (va_up fy (4 * k) zY) (4 * k + 1) zS) (4 * k + 2) zG) i)))))] := hD
                    refine lv_aload hx hb dL_goes_359 (lv_at hl 16 rfl) ?_
                    refine lv_iload hx hb dL_goes_361 (lv_at hl 0 rfl) ?_
                    refine n_iconst hx hb dL_goes_363 ?_
                    refine n_iadd hx hb dL_goes_364 ?_
                    refine lv_iload hx hb dL_goes_365 (lv_at hl 1 rfl) ?_
                    refine n_if_eq (tgt := 374) hx hb (by unfold r32; decide) dL_goes_367 (by decide) (fun h367 => False.elim (by revert h367; decide)) (fun h367 => ?_)
                    refine lv_lconst (v := jL 1) hx hb dL_goes_370 rfl ?_
                    refine lv_goto (tgt := 375) hx hb dL_goes_371 (by decide) ?_
                    refine n_zlast (i := (4 * k + 3)) (x := 1) hx hb hK hP hD hS 5 1 rfl htJ (by omega) (by omega) (Nat.le_of_ble_eq_true rfl) dL_goes_375 (fun H locs hP hD hS => ?_)
                    have hP : va_P D vwCl [(e0, .inl (cI, 45, .inl (fun i => jI (fe i)))), (q0, .inl (cJ, 16, .inr (.inl (fun i => jL (fq i))))), (v0, .inl (cJ, 16, .inr (.inl (fun i => jL (fv i))))), (u0, .inl (cJ, 16, .inr (.inl (fun i => jL (fu i))))), (w0, .inl (cJ, 60, .inr (.inl (fun i => vL (fw i))))), (y0, .inl (cJ, 32, .inr (.inl (fun i => vL ((va_up (va_up (va_up (va_up fy (4 * k) zY) (4 * k + 1) zS) (4 * k + 2) zG) (4 * k + 3) 1) i)))))] H := hP
                    have hD : va_D A [(e0, .inl (cI, 45, .inl (fun i => jI (fe i)))), (q0, .inl (cJ, 16, .inr (.inl (fun i => jL (fq i))))), (v0, .inl (cJ, 16, .inr (.inl (fun i => jL (fv i))))), (u0, .inl (cJ, 16, .inr (.inl (fun i => jL (fu i))))), (w0, .inl (cJ, 60, .inr (.inl (fun i => vL (fw i))))), (y0, .inl (cJ, 32, .inr (.inl (fun i => vL ((va_up (va_up (va_up (va_up fy (4 * k) zY) (4 * k + 1) zS) (4 * k + 2) zG) (4 * k + 3) 1) i)))))] := hD
                    refine n_iconst hx hb dL_goes_376 ?_
                    refine lv_istore (lv' := [(26, .int (jI 0)), (25, .int (jI (4 * ((k : Nat) : Int)))), (24, .int (jI 1)), (22, .long (vL zG)), (20, .long (vL zY)), (18, .long (vL zS)), (16, .long (vL zD)), (14, .long (vL zC)), (12, .long (vL (M k 2))), (10, .long (vL (M k 1))), (9, .int (jI (((8 * one + k) : Nat) : Int))), (8, .int (jI ((t : Nat) : Int))), (0, .ref e0), (1, .ref q0), (2, .ref v0), (3, .ref u0), (4, .ref w0), (5, .ref y0), (6, .int (jI ((one : Nat) : Int))), (7, .int (jI (((15 * one) : Nat) : Int)))]) hx hb dL_goes_377 hl (by decide) rfl (fun ls hl => ?_)
                    refine lv_iload hx hb dL_goes_379 (lv_at hl 0 rfl) ?_
                    refine n_iconst hx hb dL_goes_381 ?_
                    refine n_icmp_ge (tgt := 478) hx hb (by unfold r32; decide) (by unfold r32; decide) dL_goes_382 (by decide) (fun h382 => False.elim (by revert h382; decide)) (fun h382 => ?_)
                    refine lv_iload hx hb dL_goes_385 (lv_at hl 2 rfl) ?_
                    refine n_if_ne (tgt := 478) hx hb (by unfold r32; decide) dL_goes_387 (by decide) (fun h387 => ?_) (fun h387 => False.elim (by revert h387; decide))
                    refine lv_iinc (v := jI (((8 * one + (k + 1)) : Nat) : Int)) (lv' := [(9, .int (jI (((8 * one + (k + 1)) : Nat) : Int))), (26, .int (jI 0)), (25, .int (jI (4 * ((k : Nat) : Int)))), (24, .int (jI 1)), (22, .long (vL zG)), (20, .long (vL zY)), (18, .long (vL zS)), (16, .long (vL zD)), (14, .long (vL zC)), (12, .long (vL (M k 2))), (10, .long (vL (M k 1))), (8, .int (jI ((t : Nat) : Int))), (0, .ref e0), (1, .ref q0), (2, .ref v0), (3, .ref u0), (4, .ref w0), (5, .ref y0), (6, .int (jI ((one : Nat) : Int))), (7, .int (jI (((15 * one) : Nat) : Int)))]) hx hb dL_goes_478 hl (k := 10) rfl (jI_inc (8 * one + k)) (by decide) rfl (fun ls hl => ?_)
                    refine lv_goto (tgt := 105) hx hb dL_goes_481 (by decide) ?_
                    refine ih (k + 1) fw (yput fy k zY zS zG 1) H locs ls (by omega) (by omega) hra hrb ha htk (ym 1 (by rw [if_pos hgt])) hP hD hS (lv_sub hl [0, 11, 12, 13, 14, 15, 16, 17, 18, 19] rfl)
                  · have hgt : mgt (M k) (s5 fw) = false := decide_eq_false (by rw [← eG]; exact hg)
                    rw [if_neg (by rw [hgt]; decide)] at htk
                    have ecor : (((fw 0 + zC * zinv zS * zY), (fw 1 + zD * zinv zS * zY), (fw 2 + zC * zinv zS * (-zC)), (fw 3 + zC * zinv zS * (-zD)), (fw 4 + zD * zinv zS * (-zD))) : S5) = cor (M k) (s5 fw) := by
                      rw [eC, eD, eY]
                      exact lcor_eq (M k) (s5 fw) (zinv zS) (by rw [eS])
                    refine lv_iload hx hb dL_goes_105 (lv_at hl 0 rfl) ?_
                    refine n_bipush hx hb dL_goes_107 (by decide) ?_
                    refine lv_iload hx hb dL_goes_109 (lv_at hl 8 rfl) ?_
                    refine n_imul hx hb dL_goes_111 ?_
                    refine lv_aload_n hx hb dL_goes_112 rfl (lv_at hl 2 rfl) ?_
                    refine lv_iload hx hb dL_goes_113 (lv_at hl 9 rfl) ?_
                    refine n_bipush hx hb dL_goes_115 (by decide) ?_
                    refine n_iadd hx hb dL_goes_117 ?_
                    refine n_ialdv (i := ((15 * one) + 14)) (v := ((n : Nat) : Int)) hx hb hK hP 0 0 rfl htI (by omega) (by omega) (Nat.le_of_ble_eq_true rfl) hE14 dL_goes_118 ?_
                    refine n_iadd hx hb dL_goes_119 ?_
                    refine n_icmp_ge (tgt := 484) hx hb (by unfold r32; omega) (by unfold r32; omega) dL_goes_120 (by decide) (fun h120 => False.elim (by omega)) (fun h120 => ?_)
                    refine lv_aload_n hx hb dL_goes_123 rfl (lv_at hl 3 rfl) ?_
                    refine lv_iload hx hb dL_goes_124 (lv_at hl 0 rfl) ?_
                    refine n_laldv (i := (8 * one + k)) (v := (zv (M k 1) * 4294967296 + (16 * (zv (M k 5) + 1) + zv (M k 0)))) hx hb hK hP 1 1 rfl htJ (by omega) (by omega) (Nat.le_of_ble_eq_true rfl) hq dL_goes_126 ?_
                    refine lv_ldc2 (v := jL 16) hx hb hown k84 dL_goes_127 ?_
                    refine n_lremv (v := (zv (M k 0))) hx hb dL_goes_130 (by omega) (by omega) (by omega) (by omega) (by omega) ?_
                    refine lv_iload hx hb dL_goes_131 (lv_at hl 1 rfl) ?_
                    refine n_i2l hx hb dL_goes_133 (by omega) (by omega) ?_
                    refine W.lcmp hx hb dL_goes_134 ?_
                    refine n_lif_ne (tgt := 478) hx hb (r64_z _) (by unfold r64; omega) dL_goes_135 (by decide) (fun h135 => False.elim (h135 (hzt.mpr hz))) (fun h135 => ?_)
                    refine lv_aload_n hx hb dL_goes_138 rfl (lv_at hl 5 rfl) ?_
                    refine lv_iload hx hb dL_goes_139 (lv_at hl 0 rfl) ?_
                    refine n_laldv (i := (8 * one + k)) (v := (2 * zv (M k 4) + iB (dr k))) hx hb hK hP 3 1 rfl htJ (by omega) (by omega) (Nat.le_of_ble_eq_true rfl) hu dL_goes_141 ?_
                    refine lv_ldc2 (v := jL 2) hx hb hown k86 dL_goes_142 ?_
                    refine n_lremv (v := (iB (dr k))) hx hb dL_goes_145 (by omega) (by omega) (by omega) (by omega) (by omega) ?_
                    refine lv_lconst (v := jL 1) hx hb dL_goes_146 rfl ?_
                    refine W.lcmp hx hb dL_goes_147 ?_
                    refine n_lif_ne (tgt := 154) hx hb (by unfold r64; omega) (by unfold r64; omega) dL_goes_148 (by decide) (fun h148 => ?_) (fun h148 => False.elim (absurd h148 (by rw [hd]; decide)))
                    refine lv_aload_n hx hb dL_goes_154 rfl (lv_at hl 3 rfl) ?_
                    refine lv_iload hx hb dL_goes_155 (lv_at hl 0 rfl) ?_
                    refine n_laldv (i := (8 * one + k)) (v := (zv (M k 1) * 4294967296 + (16 * (zv (M k 5) + 1) + zv (M k 0)))) hx hb hK hP 1 1 rfl htJ (by omega) (by omega) (Nat.le_of_ble_eq_true rfl) hq dL_goes_157 ?_
                    refine n_bipush hx hb dL_goes_158 (by decide) ?_
                    refine n_lshrv (v := (zv (M k 1))) hx hb dL_goes_160 (by omega) (by omega) (by omega) ?_
                    refine lv_lstore (lv' := [(10, .long (vL (M k 1))), (9, .int (jI (((8 * one + k) : Nat) : Int))), (8, .int (jI ((t : Nat) : Int))), (0, .ref e0), (1, .ref q0), (2, .ref v0), (3, .ref u0), (4, .ref w0), (5, .ref y0), (6, .int (jI ((one : Nat) : Int))), (7, .int (jI (((15 * one) : Nat) : Int)))]) hx hb dL_goes_161 hl (by decide) rfl (fun ls hl => ?_)
                    refine lv_aload_n hx hb dL_goes_163 rfl (lv_at hl 5 rfl) ?_
                    refine lv_iload hx hb dL_goes_164 (lv_at hl 1 rfl) ?_
                    refine n_laldv (i := (8 * one + k)) (v := (zv (M k 2) * 4294967296 + zv (M k 3))) hx hb hK hP 2 1 rfl htJ (by omega) (by omega) (Nat.le_of_ble_eq_true rfl) hv dL_goes_166 ?_
                    refine n_bipush hx hb dL_goes_167 (by decide) ?_
                    refine n_lshrv (v := (zv (M k 2))) hx hb dL_goes_169 (by omega) (by omega) (by omega) ?_
                    refine lv_lstore (lv' := [(12, .long (vL (M k 2))), (10, .long (vL (M k 1))), (9, .int (jI (((8 * one + k) : Nat) : Int))), (8, .int (jI ((t : Nat) : Int))), (0, .ref e0), (1, .ref q0), (2, .ref v0), (3, .ref u0), (4, .ref w0), (5, .ref y0), (6, .int (jI ((one : Nat) : Int))), (7, .int (jI (((15 * one) : Nat) : Int)))]) hx hb dL_goes_170 hl (by decide) rfl (fun ls hl => ?_)
                    refine lv_aload hx hb dL_goes_172 (lv_at hl 8 rfl) ?_
                    refine n_iconst hx hb dL_goes_174 ?_
                    refine n_lald (i := 2) hx hb hK hP 4 1 rfl htJ rfl (Nat.le_of_ble_eq_true rfl) (Nat.le_of_ble_eq_true rfl) dL_goes_175 ?_
                    refine lv_lload hx hb dL_goes_176 (lv_at hl 1 rfl) ?_
                    refine n_lmul hx hb dL_goes_178 ?_
                    refine lv_aload hx hb dL_goes_179 (lv_at hl 8 rfl) ?_
                    refine n_iconst hx hb dL_goes_181 ?_
                    refine n_lald (i := 3) hx hb hK hP 4 1 rfl htJ rfl (Nat.le_of_ble_eq_true rfl) (Nat.le_of_ble_eq_true rfl) dL_goes_182 ?_
                    refine lv_lload hx hb dL_goes_183 (lv_at hl 0 rfl) ?_
                    refine n_lmul hx hb dL_goes_185 ?_
                    refine n_ladd hx hb dL_goes_186 ?_
                    have ct187 := c_L_by l D tys ((zv (fw 2) * zv (M k 1)) + (zv (fw 3) * zv (M k 2))) _ _ (ra_to (rp_a (rp_add (rp_mul (rp_v (fw 2)) (rp_v (M k 1))) (rp_mul (rp_v (fw 3)) (rp_v (M k 2))))) hC.symm) (Nat.le_of_ble_eq_true rfl)
                    refine k_goL (va_runS (As := [.long (jL ((zv (fw 2) * zv (M k 1)) + (zv (fw 3) * zv (M k 2))))]) (rest := []) ⟨hx, hb, hml, hown, hts⟩ (ct187.2 _) (va_cwS 1 hts gL_goes_L_by rfl rfl rfl (by decide +kernel) ⟨Nat.le_of_ble_eq_true rfl, Nat.le_of_ble_eq_true rfl⟩) (k_pre hK hP hD (is := []) rfl rfl) rfl rfl hl.1 rfl (lv_room (Nat.le_of_ble_eq_true rfl)) dL_goes_187 ⟨Nat.le_of_ble_eq_true rfl, Nat.le_of_ble_eq_true rfl⟩) ct187.1 hP hD hS hA [] rfl rfl (fun H locs hP hD hS => ?_)
                    have hP : va_P D vwCl [(e0, .inl (cI, 45, .inl (fun i => jI (fe i)))), (q0, .inl (cJ, 16, .inr (.inl (fun i => jL (fq i))))), (v0, .inl (cJ, 16, .inr (.inl (fun i => jL (fv i))))), (u0, .inl (cJ, 16, .inr (.inl (fun i => jL (fu i))))), (w0, .inl (cJ, 60, .inr (.inl (fun i => vL (fw i))))), (y0, .inl (cJ, 32, .inr (.inl (fun i => vL (fy i)))))] H := hP
                    have hD : va_D A [(e0, .inl (cI, 45, .inl (fun i => jI (fe i)))), (q0, .inl (cJ, 16, .inr (.inl (fun i => jL (fq i))))), (v0, .inl (cJ, 16, .inr (.inl (fun i => jL (fv i))))), (u0, .inl (cJ, 16, .inr (.inl (fun i => jL (fu i))))), (w0, .inl (cJ, 60, .inr (.inl (fun i => vL (fw i))))), (y0, .inl (cJ, 32, .inr (.inl (fun i => vL (fy i)))))] := hD
                    refine lv_lstore (lv' := [(14, .long (vL zC)), (12, .long (vL (M k 2))), (10, .long (vL (M k 1))), (9, .int (jI (((8 * one + k) : Nat) : Int))), (8, .int (jI ((t : Nat) : Int))), (0, .ref e0), (1, .ref q0), (2, .ref v0), (3, .ref u0), (4, .ref w0), (5, .ref y0), (6, .int (jI ((one : Nat) : Int))), (7, .int (jI (((15 * one) : Nat) : Int)))]) hx hb dL_goes_190 hl (by decide) rfl (fun ls hl => ?_)
                    refine lv_aload hx hb dL_goes_192 (lv_at hl 9 rfl) ?_
                    refine n_iconst hx hb dL_goes_194 ?_
                    refine n_lald (i := 3) hx hb hK hP 4 1 rfl htJ rfl (Nat.le_of_ble_eq_true rfl) (Nat.le_of_ble_eq_true rfl) dL_goes_195 ?_
                    refine lv_lload hx hb dL_goes_196 (lv_at hl 2 rfl) ?_
                    refine n_lmul hx hb dL_goes_198 ?_
                    refine lv_aload hx hb dL_goes_199 (lv_at hl 9 rfl) ?_
                    refine n_iconst hx hb dL_goes_201 ?_
                    refine n_lald (i := 4) hx hb hK hP 4 1 rfl htJ rfl (Nat.le_of_ble_eq_true rfl) (Nat.le_of_ble_eq_true rfl) dL_goes_202 ?_
                    refine lv_lload hx hb dL_goes_203 (lv_at hl 1 rfl) ?_
                    refine n_lmul hx hb dL_goes_205 ?_
                    refine n_ladd hx hb dL_goes_206 ?_
                    have ct207 := c_L_by l D tys ((zv (fw 3) * zv (M k 1)) + (zv (fw 4) * zv (M k 2))) _ _ (ra_to (rp_a (rp_add (rp_mul (rp_v (fw 3)) (rp_v (M k 1))) (rp_mul (rp_v (fw 4)) (rp_v (M k 2))))) hD9.symm) (Nat.le_of_ble_eq_true rfl)
                    refine k_goL (va_runS (As := [.long (jL ((zv (fw 3) * zv (M k 1)) + (zv (fw 4) * zv (M k 2))))]) (rest := []) ⟨hx, hb, hml, hown, hts⟩ (ct207.2 _) (va_cwS 1 hts gL_goes_L_by rfl rfl rfl (by decide +kernel) ⟨Nat.le_of_ble_eq_true rfl, Nat.le_of_ble_eq_true rfl⟩) (k_pre hK hP hD (is := []) rfl rfl) rfl rfl hl.1 rfl (lv_room (Nat.le_of_ble_eq_true rfl)) dL_goes_207 ⟨Nat.le_of_ble_eq_true rfl, Nat.le_of_ble_eq_true rfl⟩) ct207.1 hP hD hS hA [] rfl rfl (fun H locs hP hD hS => ?_)
                    have hP : va_P D vwCl [(e0, .inl (cI, 45, .inl (fun i => jI (fe i)))), (q0, .inl (cJ, 16, .inr (.inl (fun i => jL (fq i))))), (v0, .inl (cJ, 16, .inr (.inl (fun i => jL (fv i))))), (u0, .inl (cJ, 16, .inr (.inl (fun i => jL (fu i))))), (w0, .inl (cJ, 60, .inr (.inl (fun i => vL (fw i))))), (y0, .inl (cJ, 32, .inr (.inl (fun i => vL (fy i)))))] H := hP
                    have hD : va_D A [(e0, .inl (cI, 45, .inl (fun i => jI (fe i)))), (q0, .inl (cJ, 16, .inr (.inl (fun i => jL (fq i))))), (v0, .inl (cJ, 16, .inr (.inl (fun i => jL (fv i))))), (u0, .inl (cJ, 16, .inr (.inl (fun i => jL (fu i))))), (w0, .inl (cJ, 60, .inr (.inl (fun i => vL (fw i))))), (y0, .inl (cJ, 32, .inr (.inl (fun i => vL (fy i)))))] := hD
                    refine lv_lstore (lv' := [(16, .long (vL zD)), (14, .long (vL zC)), (12, .long (vL (M k 2))), (10, .long (vL (M k 1))), (9, .int (jI (((8 * one + k) : Nat) : Int))), (8, .int (jI ((t : Nat) : Int))), (0, .ref e0), (1, .ref q0), (2, .ref v0), (3, .ref u0), (4, .ref w0), (5, .ref y0), (6, .int (jI ((one : Nat) : Int))), (7, .int (jI (((15 * one) : Nat) : Int)))]) hx hb dL_goes_210 hl (by decide) rfl (fun ls hl => ?_)
                    refine lv_lload hx hb dL_goes_212 (lv_at hl 3 rfl) ?_
                    refine lv_lload hx hb dL_goes_214 (lv_at hl 1 rfl) ?_
                    refine n_lmul hx hb dL_goes_216 ?_
                    refine lv_lload hx hb dL_goes_217 (lv_at hl 2 rfl) ?_
                    refine lv_lload hx hb dL_goes_219 (lv_at hl 0 rfl) ?_
                    refine n_lmul hx hb dL_goes_221 ?_
                    refine n_ladd hx hb dL_goes_222 ?_
                    refine lv_aload_n hx hb dL_goes_223 rfl (lv_at hl 9 rfl) ?_
                    refine lv_iload hx hb dL_goes_224 (lv_at hl 4 rfl) ?_
                    refine n_laldv (i := (8 * one + k)) (v := (2 * zv (M k 4) + iB (dr k))) hx hb hK hP 3 1 rfl htJ (by omega) (by omega) (Nat.le_of_ble_eq_true rfl) hu dL_goes_226 ?_
                    refine lv_ldc2 (v := jL 2) hx hb hown k86 dL_goes_227 ?_
                    refine n_ldivv (v := (zv (M k 4))) hx hb dL_goes_230 (by omega) (by omega) (by omega) (by omega) (by omega) ?_
                    refine n_ladd hx hb dL_goes_231 ?_
                    have ct232 := c_L_by l D tys (((zv (M k 1) * zv zC) + (zv (M k 2) * zv zD)) + zv (M k 4)) _ _ (ra_to (rp_a (rp_add (rp_add (rp_mul (rp_v (M k 1)) (rp_v zC)) (rp_mul (rp_v (M k 2)) (rp_v zD))) (rp_v (M k 4)))) hS9.symm) (Nat.le_of_ble_eq_true rfl)
                    refine k_goL (va_runS (As := [.long (jL (((zv (M k 1) * zv zC) + (zv (M k 2) * zv zD)) + zv (M k 4)))]) (rest := []) ⟨hx, hb, hml, hown, hts⟩ (ct232.2 _) (va_cwS 1 hts gL_goes_L_by rfl rfl rfl (by decide +kernel) ⟨Nat.le_of_ble_eq_true rfl, Nat.le_of_ble_eq_true rfl⟩) (k_pre hK hP hD (is := []) rfl rfl) rfl rfl hl.1 rfl (lv_room (Nat.le_of_ble_eq_true rfl)) dL_goes_232 ⟨Nat.le_of_ble_eq_true rfl, Nat.le_of_ble_eq_true rfl⟩) ct232.1 hP hD hS hA [] rfl rfl (fun H locs hP hD hS => ?_)
                    have hP : va_P D vwCl [(e0, .inl (cI, 45, .inl (fun i => jI (fe i)))), (q0, .inl (cJ, 16, .inr (.inl (fun i => jL (fq i))))), (v0, .inl (cJ, 16, .inr (.inl (fun i => jL (fv i))))), (u0, .inl (cJ, 16, .inr (.inl (fun i => jL (fu i))))), (w0, .inl (cJ, 60, .inr (.inl (fun i => vL (fw i))))), (y0, .inl (cJ, 32, .inr (.inl (fun i => vL (fy i)))))] H := hP
                    have hD : va_D A [(e0, .inl (cI, 45, .inl (fun i => jI (fe i)))), (q0, .inl (cJ, 16, .inr (.inl (fun i => jL (fq i))))), (v0, .inl (cJ, 16, .inr (.inl (fun i => jL (fv i))))), (u0, .inl (cJ, 16, .inr (.inl (fun i => jL (fu i))))), (w0, .inl (cJ, 60, .inr (.inl (fun i => vL (fw i))))), (y0, .inl (cJ, 32, .inr (.inl (fun i => vL (fy i)))))] := hD
                    refine lv_lstore (lv' := [(18, .long (vL zS)), (16, .long (vL zD)), (14, .long (vL zC)), (12, .long (vL (M k 2))), (10, .long (vL (M k 1))), (9, .int (jI (((8 * one + k) : Nat) : Int))), (8, .int (jI ((t : Nat) : Int))), (0, .ref e0), (1, .ref q0), (2, .ref v0), (3, .ref u0), (4, .ref w0), (5, .ref y0), (6, .int (jI ((one : Nat) : Int))), (7, .int (jI (((15 * one) : Nat) : Int)))]) hx hb dL_goes_235 hl (by decide) rfl (fun ls hl => ?_)
                    refine lv_lload hx hb dL_goes_237 (lv_at hl 0 rfl) ?_
                    refine lv_lconst (v := jL 0) hx hb dL_goes_239 rfl ?_
                    refine W.lcmp hx hb dL_goes_240 ?_
                    refine n_lif_ne (tgt := 246) hx hb (r64_z _) (by unfold r64; omega) dL_goes_241 (by decide) (fun h241 => ?_) (fun h241 => False.elim (hs (zv_eq0.mp h241)))
                    refine lv_aload_n hx hb dL_goes_246 rfl (lv_at hl 9 rfl) ?_
                    refine lv_iload hx hb dL_goes_247 (lv_at hl 5 rfl) ?_
                    refine n_laldv (i := (8 * one + k)) (v := (zv (M k 2) * 4294967296 + zv (M k 3))) hx hb hK hP 2 1 rfl htJ (by omega) (by omega) (Nat.le_of_ble_eq_true rfl) hv dL_goes_249 ?_
                    refine lv_ldc2 (v := jL 65536) hx hb hown k88 dL_goes_250 ?_
                    refine n_lremv (v := (zv (M k 3))) hx hb dL_goes_253 (by omega) (by omega) (by omega) (by omega) (by omega) ?_
                    refine lv_lload hx hb dL_goes_254 (lv_at hl 4 rfl) ?_
                    refine lv_aload hx hb dL_goes_256 (lv_at hl 11 rfl) ?_
                    refine n_iconst hx hb dL_goes_258 ?_
                    refine n_lald (i := 0) hx hb hK hP 4 1 rfl htJ rfl (Nat.le_of_ble_eq_true rfl) (Nat.le_of_ble_eq_true rfl) dL_goes_259 ?_
                    refine n_lmul hx hb dL_goes_260 ?_
                    have ct261 := c_L_by l D tys (zv (M k 1) * zv (fw 0)) _ _ (rp_a (rp_mul (rp_v (M k 1)) (rp_v (fw 0)))) (Nat.le_of_ble_eq_true rfl)
                    refine k_goL (va_runS (As := [.long (jL (zv (M k 1) * zv (fw 0)))]) (rest := [.long (vL (M k 3))]) ⟨hx, hb, hml, hown, hts⟩ (ct261.2 _) (va_cwS 1 hts gL_goes_L_by rfl rfl rfl (by decide +kernel) ⟨Nat.le_of_ble_eq_true rfl, Nat.le_of_ble_eq_true rfl⟩) (k_pre hK hP hD (is := []) rfl rfl) rfl rfl hl.1 rfl (lv_room (Nat.le_of_ble_eq_true rfl)) dL_goes_261 ⟨Nat.le_of_ble_eq_true rfl, Nat.le_of_ble_eq_true rfl⟩) ct261.1 hP hD hS hA [] rfl rfl (fun H locs hP hD hS => ?_)
                    have hP : va_P D vwCl [(e0, .inl (cI, 45, .inl (fun i => jI (fe i)))), (q0, .inl (cJ, 16, .inr (.inl (fun i => jL (fq i))))), (v0, .inl (cJ, 16, .inr (.inl (fun i => jL (fv i))))), (u0, .inl (cJ, 16, .inr (.inl (fun i => jL (fu i))))), (w0, .inl (cJ, 60, .inr (.inl (fun i => vL (fw i))))), (y0, .inl (cJ, 32, .inr (.inl (fun i => vL (fy i)))))] H := hP
                    have hD : va_D A [(e0, .inl (cI, 45, .inl (fun i => jI (fe i)))), (q0, .inl (cJ, 16, .inr (.inl (fun i => jL (fq i))))), (v0, .inl (cJ, 16, .inr (.inl (fun i => jL (fv i))))), (u0, .inl (cJ, 16, .inr (.inl (fun i => jL (fu i))))), (w0, .inl (cJ, 60, .inr (.inl (fun i => vL (fw i))))), (y0, .inl (cJ, 32, .inr (.inl (fun i => vL (fy i)))))] := hD
                    refine n_lsub hx hb dL_goes_264 ?_
                    refine lv_lload hx hb dL_goes_265 (lv_at hl 3 rfl) ?_
                    refine lv_aload hx hb dL_goes_267 (lv_at hl 11 rfl) ?_
                    refine n_iconst hx hb dL_goes_269 ?_
                    refine n_lald (i := 1) hx hb hK hP 4 1 rfl htJ rfl (Nat.le_of_ble_eq_true rfl) (Nat.le_of_ble_eq_true rfl) dL_goes_270 ?_
                    refine n_lmul hx hb dL_goes_271 ?_
                    have ct272 := c_L_by l D tys (zv (M k 2) * zv (fw 1)) _ _ (rp_a (rp_mul (rp_v (M k 2)) (rp_v (fw 1)))) (Nat.le_of_ble_eq_true rfl)
                    refine k_goL (va_runS (As := [.long (jL (zv (M k 2) * zv (fw 1)))]) (rest := [.long (jL (zv (M k 3) - zv ((M k 1) * (fw 0))))]) ⟨hx, hb, hml, hown, hts⟩ (ct272.2 _) (va_cwS 1 hts gL_goes_L_by rfl rfl rfl (by decide +kernel) ⟨Nat.le_of_ble_eq_true rfl, Nat.le_of_ble_eq_true rfl⟩) (k_pre hK hP hD (is := []) rfl rfl) rfl rfl hl.1 rfl (lv_room (Nat.le_of_ble_eq_true rfl)) dL_goes_272 ⟨Nat.le_of_ble_eq_true rfl, Nat.le_of_ble_eq_true rfl⟩) ct272.1 hP hD hS hA [] rfl rfl (fun H locs hP hD hS => ?_)
                    have hP : va_P D vwCl [(e0, .inl (cI, 45, .inl (fun i => jI (fe i)))), (q0, .inl (cJ, 16, .inr (.inl (fun i => jL (fq i))))), (v0, .inl (cJ, 16, .inr (.inl (fun i => jL (fv i))))), (u0, .inl (cJ, 16, .inr (.inl (fun i => jL (fu i))))), (w0, .inl (cJ, 60, .inr (.inl (fun i => vL (fw i))))), (y0, .inl (cJ, 32, .inr (.inl (fun i => vL (fy i)))))] H := hP
                    have hD : va_D A [(e0, .inl (cI, 45, .inl (fun i => jI (fe i)))), (q0, .inl (cJ, 16, .inr (.inl (fun i => jL (fq i))))), (v0, .inl (cJ, 16, .inr (.inl (fun i => jL (fv i))))), (u0, .inl (cJ, 16, .inr (.inl (fun i => jL (fu i))))), (w0, .inl (cJ, 60, .inr (.inl (fun i => vL (fw i))))), (y0, .inl (cJ, 32, .inr (.inl (fun i => vL (fy i)))))] := hD
                    refine n_lsub hx hb dL_goes_275 ?_
                    have ct276 := c_L_by l D tys ((zv (M k 3) - zv ((M k 1) * (fw 0))) - zv ((M k 2) * (fw 1))) _ _ (ra_to (ra_sub (ra_sub (rp_a (rp_v (M k 3))) (rp_a (rp_v ((M k 1) * (fw 0))))) (rp_a (rp_v ((M k 2) * (fw 1))))) hY9.symm) (Nat.le_of_ble_eq_true rfl)
                    refine k_goL (va_runS (As := [.long (jL ((zv (M k 3) - zv ((M k 1) * (fw 0))) - zv ((M k 2) * (fw 1))))]) (rest := []) ⟨hx, hb, hml, hown, hts⟩ (ct276.2 _) (va_cwS 1 hts gL_goes_L_by rfl rfl rfl (by decide +kernel) ⟨Nat.le_of_ble_eq_true rfl, Nat.le_of_ble_eq_true rfl⟩) (k_pre hK hP hD (is := []) rfl rfl) rfl rfl hl.1 rfl (lv_room (Nat.le_of_ble_eq_true rfl)) dL_goes_276 ⟨Nat.le_of_ble_eq_true rfl, Nat.le_of_ble_eq_true rfl⟩) ct276.1 hP hD hS hA [] rfl rfl (fun H locs hP hD hS => ?_)
                    have hP : va_P D vwCl [(e0, .inl (cI, 45, .inl (fun i => jI (fe i)))), (q0, .inl (cJ, 16, .inr (.inl (fun i => jL (fq i))))), (v0, .inl (cJ, 16, .inr (.inl (fun i => jL (fv i))))), (u0, .inl (cJ, 16, .inr (.inl (fun i => jL (fu i))))), (w0, .inl (cJ, 60, .inr (.inl (fun i => vL (fw i))))), (y0, .inl (cJ, 32, .inr (.inl (fun i => vL (fy i)))))] H := hP
                    have hD : va_D A [(e0, .inl (cI, 45, .inl (fun i => jI (fe i)))), (q0, .inl (cJ, 16, .inr (.inl (fun i => jL (fq i))))), (v0, .inl (cJ, 16, .inr (.inl (fun i => jL (fv i))))), (u0, .inl (cJ, 16, .inr (.inl (fun i => jL (fu i))))), (w0, .inl (cJ, 60, .inr (.inl (fun i => vL (fw i))))), (y0, .inl (cJ, 32, .inr (.inl (fun i => vL (fy i)))))] := hD
                    refine lv_lstore (lv' := [(20, .long (vL zY)), (18, .long (vL zS)), (16, .long (vL zD)), (14, .long (vL zC)), (12, .long (vL (M k 2))), (10, .long (vL (M k 1))), (9, .int (jI (((8 * one + k) : Nat) : Int))), (8, .int (jI ((t : Nat) : Int))), (0, .ref e0), (1, .ref q0), (2, .ref v0), (3, .ref u0), (4, .ref w0), (5, .ref y0), (6, .int (jI ((one : Nat) : Int))), (7, .int (jI (((15 * one) : Nat) : Int)))]) hx hb dL_goes_279 hl (by decide) rfl (fun ls hl => ?_)
                    refine lv_lload hx hb dL_goes_281 (lv_at hl 0 rfl) ?_
                    refine lv_lload hx hb dL_goes_283 (lv_at hl 0 rfl) ?_
                    refine n_lmul hx hb dL_goes_285 ?_
                    have ct286 := c_L_by l D tys (zv zY * zv zY) _ _ (rp_a (rp_mul (rp_v zY) (rp_v zY))) (Nat.le_of_ble_eq_true rfl)
                    refine k_goL (va_runS (As := [.long (jL (zv zY * zv zY))]) (rest := []) ⟨hx, hb, hml, hown, hts⟩ (ct286.2 _) (va_cwS 1 hts gL_goes_L_by rfl rfl rfl (by decide +kernel) ⟨Nat.le_of_ble_eq_true rfl, Nat.le_of_ble_eq_true rfl⟩) (k_pre hK hP hD (is := []) rfl rfl) rfl rfl hl.1 rfl (lv_room (Nat.le_of_ble_eq_true rfl)) dL_goes_286 ⟨Nat.le_of_ble_eq_true rfl, Nat.le_of_ble_eq_true rfl⟩) ct286.1 hP hD hS hA [] rfl rfl (fun H locs hP hD hS => ?_)
                    have hP : va_P D vwCl [(e0, .inl (cI, 45, .inl (fun i => jI (fe i)))), (q0, .inl (cJ, 16, .inr (.inl (fun i => jL (fq i))))), (v0, .inl (cJ, 16, .inr (.inl (fun i => jL (fv i))))), (u0, .inl (cJ, 16, .inr (.inl (fun i => jL (fu i))))), (w0, .inl (cJ, 60, .inr (.inl (fun i => vL (fw i))))), (y0, .inl (cJ, 32, .inr (.inl (fun i => vL (fy i)))))] H := hP
                    have hD : va_D A [(e0, .inl (cI, 45, .inl (fun i => jI (fe i)))), (q0, .inl (cJ, 16, .inr (.inl (fun i => jL (fq i))))), (v0, .inl (cJ, 16, .inr (.inl (fun i => jL (fv i))))), (u0, .inl (cJ, 16, .inr (.inl (fun i => jL (fu i))))), (w0, .inl (cJ, 60, .inr (.inl (fun i => vL (fw i))))), (y0, .inl (cJ, 32, .inr (.inl (fun i => vL (fy i)))))] := hD
                    refine lv_lload hx hb dL_goes_289 (lv_at hl 1 rfl) ?_
                    have ct291 := c_L_over l D tys (zv zS) _ _ (rp_a (rp_v zS)) (Nat.le_of_ble_eq_true rfl)
                    refine k_goL (va_runS (As := [.long (vL zS)]) (rest := [.long (vL (zY * zY))]) ⟨hx, hb, hml, hown, hts⟩ (ct291.2 _) (va_cwS 1 hts gL_goes_L_over rfl rfl rfl (by decide +kernel) ⟨Nat.le_of_ble_eq_true rfl, Nat.le_of_ble_eq_true rfl⟩) (k_pre hK hP hD (is := []) rfl rfl) rfl rfl hl.1 rfl (lv_room (Nat.le_of_ble_eq_true rfl)) dL_goes_291 ⟨Nat.le_of_ble_eq_true rfl, Nat.le_of_ble_eq_true rfl⟩) ct291.1 hP hD hS hA [] rfl rfl (fun H locs hP hD hS => ?_)
                    have hP : va_P D vwCl [(e0, .inl (cI, 45, .inl (fun i => jI (fe i)))), (q0, .inl (cJ, 16, .inr (.inl (fun i => jL (fq i))))), (v0, .inl (cJ, 16, .inr (.inl (fun i => jL (fv i))))), (u0, .inl (cJ, 16, .inr (.inl (fun i => jL (fu i))))), (w0, .inl (cJ, 60, .inr (.inl (fun i => vL (fw i))))), (y0, .inl (cJ, 32, .inr (.inl (fun i => vL (fy i)))))] H := hP
                    have hD : va_D A [(e0, .inl (cI, 45, .inl (fun i => jI (fe i)))), (q0, .inl (cJ, 16, .inr (.inl (fun i => jL (fq i))))), (v0, .inl (cJ, 16, .inr (.inl (fun i => jL (fv i))))), (u0, .inl (cJ, 16, .inr (.inl (fun i => jL (fu i))))), (w0, .inl (cJ, 60, .inr (.inl (fun i => vL (fw i))))), (y0, .inl (cJ, 32, .inr (.inl (fun i => vL (fy i)))))] := hD
                    refine n_lmul hx hb dL_goes_294 ?_
                    have ct295 := c_L_by l D tys (zv (zY * zY) * zv (zinv zS)) _ _ (ra_to (rp_a (rp_mul (rp_v (zY * zY)) (rp_v (zinv zS)))) hG9.symm) (Nat.le_of_ble_eq_true rfl)
                    refine k_goL (va_runS (As := [.long (jL (zv (zY * zY) * zv (zinv zS)))]) (rest := []) ⟨hx, hb, hml, hown, hts⟩ (ct295.2 _) (va_cwS 1 hts gL_goes_L_by rfl rfl rfl (by decide +kernel) ⟨Nat.le_of_ble_eq_true rfl, Nat.le_of_ble_eq_true rfl⟩) (k_pre hK hP hD (is := []) rfl rfl) rfl rfl hl.1 rfl (lv_room (Nat.le_of_ble_eq_true rfl)) dL_goes_295 ⟨Nat.le_of_ble_eq_true rfl, Nat.le_of_ble_eq_true rfl⟩) ct295.1 hP hD hS hA [] rfl rfl (fun H locs hP hD hS => ?_)
                    have hP : va_P D vwCl [(e0, .inl (cI, 45, .inl (fun i => jI (fe i)))), (q0, .inl (cJ, 16, .inr (.inl (fun i => jL (fq i))))), (v0, .inl (cJ, 16, .inr (.inl (fun i => jL (fv i))))), (u0, .inl (cJ, 16, .inr (.inl (fun i => jL (fu i))))), (w0, .inl (cJ, 60, .inr (.inl (fun i => vL (fw i))))), (y0, .inl (cJ, 32, .inr (.inl (fun i => vL (fy i)))))] H := hP
                    have hD : va_D A [(e0, .inl (cI, 45, .inl (fun i => jI (fe i)))), (q0, .inl (cJ, 16, .inr (.inl (fun i => jL (fq i))))), (v0, .inl (cJ, 16, .inr (.inl (fun i => jL (fv i))))), (u0, .inl (cJ, 16, .inr (.inl (fun i => jL (fu i))))), (w0, .inl (cJ, 60, .inr (.inl (fun i => vL (fw i))))), (y0, .inl (cJ, 32, .inr (.inl (fun i => vL (fy i)))))] := hD
                    refine lv_lstore (lv' := [(22, .long (vL zG)), (20, .long (vL zY)), (18, .long (vL zS)), (16, .long (vL zD)), (14, .long (vL zC)), (12, .long (vL (M k 2))), (10, .long (vL (M k 1))), (9, .int (jI (((8 * one + k) : Nat) : Int))), (8, .int (jI ((t : Nat) : Int))), (0, .ref e0), (1, .ref q0), (2, .ref v0), (3, .ref u0), (4, .ref w0), (5, .ref y0), (6, .int (jI ((one : Nat) : Int))), (7, .int (jI (((15 * one) : Nat) : Int)))]) hx hb dL_goes_298 hl (by decide) rfl (fun ls hl => ?_)
                    refine lv_lload hx hb dL_goes_300 (lv_at hl 0 rfl) ?_
                    refine lv_aload_n hx hb dL_goes_302 rfl (lv_at hl 10 rfl) ?_
                    refine lv_iload hx hb dL_goes_303 (lv_at hl 7 rfl) ?_
                    refine n_laldv (i := (8 * one + k)) (v := (zv (M k 1) * 4294967296 + (16 * (zv (M k 5) + 1) + zv (M k 0)))) hx hb hK hP 1 1 rfl htJ (by omega) (by omega) (Nat.le_of_ble_eq_true rfl) hq dL_goes_305 ?_
                    refine lv_ldc2 (v := jL 4294967296) hx hb hown k93 dL_goes_306 ?_
                    refine n_lremv (v := (16 * (zv (M k 5) + 1) + zv (M k 0))) hx hb dL_goes_309 (by omega) (by omega) (by omega) (by omega) (by omega) ?_
                    refine lv_ldc2 (v := jL 16) hx hb hown k84 dL_goes_310 ?_
                    refine n_ldivv (v := (zv (M k 5) + 1)) hx hb dL_goes_313 (by omega) (by omega) (by omega) (by omega) (by omega) ?_
                    refine W.lcmp hx hb dL_goes_314 ?_
                    refine n_lif_lt (tgt := 322) hx hb (r64_z _) (by unfold r64; omega) dL_goes_315 (by decide) (fun h315 => ?_) (fun h315 => False.elim (h315 (by omega)))
                    refine n_iconst hx hb dL_goes_322 ?_
                    refine lv_istore (lv' := [(24, .int (jI 0)), (22, .long (vL zG)), (20, .long (vL zY)), (18, .long (vL zS)), (16, .long (vL zD)), (14, .long (vL zC)), (12, .long (vL (M k 2))), (10, .long (vL (M k 1))), (9, .int (jI (((8 * one + k) : Nat) : Int))), (8, .int (jI ((t : Nat) : Int))), (0, .ref e0), (1, .ref q0), (2, .ref v0), (3, .ref u0), (4, .ref w0), (5, .ref y0), (6, .int (jI ((one : Nat) : Int))), (7, .int (jI (((15 * one) : Nat) : Int)))]) hx hb dL_goes_323 hl (by decide) rfl (fun ls hl => ?_)
                    refine n_iconst hx hb dL_goes_325 ?_
                    refine lv_iload hx hb dL_goes_326 (lv_at hl 8 rfl) ?_
                    refine n_bipush hx hb dL_goes_328 (by decide) ?_
                    refine n_iremv (v := ((k : Nat) : Int)) hx hb dL_goes_330 (by omega) (by omega) (by omega) (by omega) (by omega) ?_
                    refine n_imul hx hb dL_goes_331 ?_
                    refine lv_istore (lv' := [(25, .int (jI (4 * ((k : Nat) : Int)))), (24, .int (jI 0)), (22, .long (vL zG)), (20, .long (vL zY)), (18, .long (vL zS)), (16, .long (vL zD)), (14, .long (vL zC)), (12, .long (vL (M k 2))), (10, .long (vL (M k 1))), (9, .int (jI (((8 * one + k) : Nat) : Int))), (8, .int (jI ((t : Nat) : Int))), (0, .ref e0), (1, .ref q0), (2, .ref v0), (3, .ref u0), (4, .ref w0), (5, .ref y0), (6, .int (jI ((one : Nat) : Int))), (7, .int (jI (((15 * one) : Nat) : Int)))]) hx hb dL_goes_332 hl (by decide) rfl (fun ls hl => ?_)
                    refine lv_aload hx hb dL_goes_334 (lv_at hl 16 rfl) ?_
                    refine lv_iload hx hb dL_goes_336 (lv_at hl 0 rfl) ?_
                    refine lv_lload hx hb dL_goes_338 (lv_at hl 3 rfl) ?_
                    refine n_zlast (i := (4 * k)) (x := zY) hx hb hK hP hD hS 5 1 rfl htJ (by omega) (by omega) (Nat.le_of_ble_eq_true rfl) dL_goes_340 (fun H locs hP hD hS => ?_)
                    have hP : va_P D vwCl [(e0, .inl (cI, 45, .inl (fun i => jI (fe i)))), (q0, .inl (cJ, 16, .inr (.inl (fun i => jL (fq i))))), (v0, .inl (cJ, 16, .inr (.inl (fun i => jL (fv i))))), (u0, .inl (cJ, 16, .inr (.inl (fun i => jL (fu i))))), (w0, .inl (cJ, 60, .inr (.inl (fun i => vL (fw i))))), (y0, .inl (cJ, 32, .inr (.inl (fun i => vL ((va_up fy (4 * k) zY) i)))))] H := hP
                    have hD : va_D A [(e0, .inl (cI, 45, .inl (fun i => jI (fe i)))), (q0, .inl (cJ, 16, .inr (.inl (fun i => jL (fq i))))), (v0, .inl (cJ, 16, .inr (.inl (fun i => jL (fv i))))), (u0, .inl (cJ, 16, .inr (.inl (fun i => jL (fu i))))), (w0, .inl (cJ, 60, .inr (.inl (fun i => vL (fw i))))), (y0, .inl (cJ, 32, .inr (.inl (fun i => vL ((va_up fy (4 * k) zY) i)))))] := hD
                    refine lv_aload hx hb dL_goes_341 (lv_at hl 16 rfl) ?_
                    refine lv_iload hx hb dL_goes_343 (lv_at hl 0 rfl) ?_
                    refine n_iconst hx hb dL_goes_345 ?_
                    refine n_iadd hx hb dL_goes_346 ?_
                    refine lv_lload hx hb dL_goes_347 (lv_at hl 4 rfl) ?_
                    refine n_zlast (i := (4 * k + 1)) (x := zS) hx hb hK hP hD hS 5 1 rfl htJ (by omega) (by omega) (Nat.le_of_ble_eq_true rfl) dL_goes_349 (fun H locs hP hD hS => ?_)
                    have hP : va_P D vwCl [(e0, .inl (cI, 45, .inl (fun i => jI (fe i)))), (q0, .inl (cJ, 16, .inr (.inl (fun i => jL (fq i))))), (v0, .inl (cJ, 16, .inr (.inl (fun i => jL (fv i))))), (u0, .inl (cJ, 16, .inr (.inl (fun i => jL (fu i))))), (w0, .inl (cJ, 60, .inr (.inl (fun i => vL (fw i))))), (y0, .inl (cJ, 32, .inr (.inl (fun i => vL ((va_up (va_up fy (4 * k) zY) (4 * k + 1) zS) i)))))] H := hP
                    have hD : va_D A [(e0, .inl (cI, 45, .inl (fun i => jI (fe i)))), (q0, .inl (cJ, 16, .inr (.inl (fun i => jL (fq i))))), (v0, .inl (cJ, 16, .inr (.inl (fun i => jL (fv i))))), (u0, .inl (cJ, 16, .inr (.inl (fun i => jL (fu i))))), (w0, .inl (cJ, 60, .inr (.inl (fun i => vL (fw i))))), (y0, .inl (cJ, 32, .inr (.inl (fun i => vL ((va_up (va_up fy (4 * k) zY) (4 * k + 1) zS) i)))))] := hD
                    refine lv_aload hx hb dL_goes_350 (lv_at hl 16 rfl) ?_
                    refine lv_iload hx hb dL_goes_352 (lv_at hl 0 rfl) ?_
                    refine n_iconst hx hb dL_goes_354 ?_
                    refine n_iadd hx hb dL_goes_355 ?_
                    refine lv_lload hx hb dL_goes_356 (lv_at hl 2 rfl) ?_
                    refine n_zlast (i := (4 * k + 2)) (x := zG) hx hb hK hP hD hS 5 1 rfl htJ (by omega) (by omega) (Nat.le_of_ble_eq_true rfl) dL_goes_358 (fun H locs hP hD hS => ?_)
                    have hP : va_P D vwCl [(e0, .inl (cI, 45, .inl (fun i => jI (fe i)))), (q0, .inl (cJ, 16, .inr (.inl (fun i => jL (fq i))))), (v0, .inl (cJ, 16, .inr (.inl (fun i => jL (fv i))))), (u0, .inl (cJ, 16, .inr (.inl (fun i => jL (fu i))))), (w0, .inl (cJ, 60, .inr (.inl (fun i => vL (fw i))))), (y0, .inl (cJ, 32, .inr (.inl (fun i => vL ((va_up (va_up (va_up fy (4 * k) zY) (4 * k + 1) zS) (4 * k + 2) zG) i)))))] H := hP
                    have hD : va_D A [(e0, .inl (cI, 45, .inl (fun i => jI (fe i)))), (q0, .inl (cJ, 16, .inr (.inl (fun i => jL (fq i))))), (v0, .inl (cJ, 16, .inr (.inl (fun i => jL (fv i))))), (u0, .inl (cJ, 16, .inr (.inl (fun i => jL (fu i))))), (w0, .inl (cJ, 60, .inr (.inl (fun i => vL (fw i))))), (y0, .inl (cJ, 32, .inr (.inl (fun i => vL ((va_up (va_up (va_up fy (4 * k) zY) (4 * k + 1) zS) (4 * k + 2) zG) i)))))] := hD
                    refine lv_aload hx hb dL_goes_359 (lv_at hl 16 rfl) ?_
                    refine lv_iload hx hb dL_goes_361 (lv_at hl 0 rfl) ?_
                    refine n_iconst hx hb dL_goes_363 ?_
                    refine n_iadd hx hb dL_goes_364 ?_
                    refine lv_iload hx hb dL_goes_365 (lv_at hl 1 rfl) ?_
                    refine n_if_eq (tgt := 374) hx hb (by unfold r32; decide) dL_goes_367 (by decide) (fun h367 => ?_) (fun h367 => False.elim (by revert h367; decide))
                    refine lv_lconst (v := jL 0) hx hb dL_goes_374 rfl ?_
                    refine n_zlast (i := (4 * k + 3)) (x := 0) hx hb hK hP hD hS 5 1 rfl htJ (by omega) (by omega) (Nat.le_of_ble_eq_true rfl) dL_goes_375 (fun H locs hP hD hS => ?_)
                    have hP : va_P D vwCl [(e0, .inl (cI, 45, .inl (fun i => jI (fe i)))), (q0, .inl (cJ, 16, .inr (.inl (fun i => jL (fq i))))), (v0, .inl (cJ, 16, .inr (.inl (fun i => jL (fv i))))), (u0, .inl (cJ, 16, .inr (.inl (fun i => jL (fu i))))), (w0, .inl (cJ, 60, .inr (.inl (fun i => vL (fw i))))), (y0, .inl (cJ, 32, .inr (.inl (fun i => vL ((va_up (va_up (va_up (va_up fy (4 * k) zY) (4 * k + 1) zS) (4 * k + 2) zG) (4 * k + 3) 0) i)))))] H := hP
                    have hD : va_D A [(e0, .inl (cI, 45, .inl (fun i => jI (fe i)))), (q0, .inl (cJ, 16, .inr (.inl (fun i => jL (fq i))))), (v0, .inl (cJ, 16, .inr (.inl (fun i => jL (fv i))))), (u0, .inl (cJ, 16, .inr (.inl (fun i => jL (fu i))))), (w0, .inl (cJ, 60, .inr (.inl (fun i => vL (fw i))))), (y0, .inl (cJ, 32, .inr (.inl (fun i => vL ((va_up (va_up (va_up (va_up fy (4 * k) zY) (4 * k + 1) zS) (4 * k + 2) zG) (4 * k + 3) 0) i)))))] := hD
                    refine n_iconst hx hb dL_goes_376 ?_
                    refine lv_istore (lv' := [(26, .int (jI 0)), (25, .int (jI (4 * ((k : Nat) : Int)))), (24, .int (jI 0)), (22, .long (vL zG)), (20, .long (vL zY)), (18, .long (vL zS)), (16, .long (vL zD)), (14, .long (vL zC)), (12, .long (vL (M k 2))), (10, .long (vL (M k 1))), (9, .int (jI (((8 * one + k) : Nat) : Int))), (8, .int (jI ((t : Nat) : Int))), (0, .ref e0), (1, .ref q0), (2, .ref v0), (3, .ref u0), (4, .ref w0), (5, .ref y0), (6, .int (jI ((one : Nat) : Int))), (7, .int (jI (((15 * one) : Nat) : Int)))]) hx hb dL_goes_377 hl (by decide) rfl (fun ls hl => ?_)
                    refine lv_iload hx hb dL_goes_379 (lv_at hl 0 rfl) ?_
                    refine n_iconst hx hb dL_goes_381 ?_
                    refine n_icmp_ge (tgt := 478) hx hb (by unfold r32; decide) (by unfold r32; decide) dL_goes_382 (by decide) (fun h382 => False.elim (by revert h382; decide)) (fun h382 => ?_)
                    refine lv_iload hx hb dL_goes_385 (lv_at hl 2 rfl) ?_
                    refine n_if_ne (tgt := 478) hx hb (by unfold r32; decide) dL_goes_387 (by decide) (fun h387 => False.elim (by revert h387; decide)) (fun h387 => ?_)
                    refine lv_iload hx hb dL_goes_390 (lv_at hl 0 rfl) ?_
                    refine n_if_eq (tgt := 407) hx hb (by unfold r32; decide) dL_goes_392 (by decide) (fun h392 => ?_) (fun h392 => False.elim (by revert h392; decide))
                    refine lv_lload hx hb dL_goes_407 (lv_at hl 7 rfl) ?_
                    refine lv_goto (tgt := 414) hx hb dL_goes_409 (by decide) ?_
                    refine lv_lstore (lv' := [(27, .long (vL zC)), (26, .int (jI 0)), (25, .int (jI (4 * ((k : Nat) : Int)))), (24, .int (jI 0)), (22, .long (vL zG)), (20, .long (vL zY)), (18, .long (vL zS)), (16, .long (vL zD)), (14, .long (vL zC)), (12, .long (vL (M k 2))), (10, .long (vL (M k 1))), (9, .int (jI (((8 * one + k) : Nat) : Int))), (8, .int (jI ((t : Nat) : Int))), (0, .ref e0), (1, .ref q0), (2, .ref v0), (3, .ref u0), (4, .ref w0), (5, .ref y0), (6, .int (jI ((one : Nat) : Int))), (7, .int (jI (((15 * one) : Nat) : Int)))]) hx hb dL_goes_414 hl (by decide) rfl (fun ls hl => ?_)
                    refine lv_iload hx hb dL_goes_416 (lv_at hl 1 rfl) ?_
                    refine n_iconst hx hb dL_goes_418 ?_
                    refine n_icmp_ge (tgt := 427) hx hb (by unfold r32; decide) (by unfold r32; decide) dL_goes_419 (by decide) (fun h419 => False.elim (by revert h419; decide)) (fun h419 => ?_)
                    refine lv_lload hx hb dL_goes_422 (lv_at hl 5 rfl) ?_
                    refine lv_goto (tgt := 442) hx hb dL_goes_424 (by decide) ?_
                    refine lv_lstore (lv' := [(29, .long (vL zY)), (27, .long (vL zC)), (26, .int (jI 0)), (25, .int (jI (4 * ((k : Nat) : Int)))), (24, .int (jI 0)), (22, .long (vL zG)), (20, .long (vL zY)), (18, .long (vL zS)), (16, .long (vL zD)), (14, .long (vL zC)), (12, .long (vL (M k 2))), (10, .long (vL (M k 1))), (9, .int (jI (((8 * one + k) : Nat) : Int))), (8, .int (jI ((t : Nat) : Int))), (0, .ref e0), (1, .ref q0), (2, .ref v0), (3, .ref u0), (4, .ref w0), (5, .ref y0), (6, .int (jI ((one : Nat) : Int))), (7, .int (jI (((15 * one) : Nat) : Int)))]) hx hb dL_goes_442 hl (by decide) rfl (fun ls hl => ?_)
                    refine lv_aload hx hb dL_goes_444 (lv_at hl 18 rfl) ?_
                    refine lv_iload hx hb dL_goes_446 (lv_at hl 2 rfl) ?_
                    refine lv_aload hx hb dL_goes_448 (lv_at hl 18 rfl) ?_
                    refine lv_iload hx hb dL_goes_450 (lv_at hl 2 rfl) ?_
                    refine n_lald (i := 0) hx hb hK hP 4 1 rfl htJ rfl (Nat.le_of_ble_eq_true rfl) (Nat.le_of_ble_eq_true rfl) dL_goes_452 ?_
                    refine lv_lload hx hb dL_goes_453 (lv_at hl 1 rfl) ?_
                    refine lv_lload hx hb dL_goes_455 (lv_at hl 7 rfl) ?_
                    have ct457 := c_L_over l D tys (zv zS) _ _ (rp_a (rp_v zS)) (Nat.le_of_ble_eq_true rfl)
                    refine k_goL (va_runS (As := [.long (vL zS)]) (rest := [.long (vL zC), .long (vL (fw 0)), .int (jI 0), .ref w0]) ⟨hx, hb, hml, hown, hts⟩ (ct457.2 _) (va_cwS 1 hts gL_goes_L_over rfl rfl rfl (by decide +kernel) ⟨Nat.le_of_ble_eq_true rfl, Nat.le_of_ble_eq_true rfl⟩) (k_pre hK hP hD (is := []) rfl rfl) rfl rfl hl.1 rfl (lv_room (Nat.le_of_ble_eq_true rfl)) dL_goes_457 ⟨Nat.le_of_ble_eq_true rfl, Nat.le_of_ble_eq_true rfl⟩) ct457.1 hP hD hS hA [] rfl rfl (fun H locs hP hD hS => ?_)
                    have hP : va_P D vwCl [(e0, .inl (cI, 45, .inl (fun i => jI (fe i)))), (q0, .inl (cJ, 16, .inr (.inl (fun i => jL (fq i))))), (v0, .inl (cJ, 16, .inr (.inl (fun i => jL (fv i))))), (u0, .inl (cJ, 16, .inr (.inl (fun i => jL (fu i))))), (w0, .inl (cJ, 60, .inr (.inl (fun i => vL (fw i))))), (y0, .inl (cJ, 32, .inr (.inl (fun i => vL ((va_up (va_up (va_up (va_up fy (4 * k) zY) (4 * k + 1) zS) (4 * k + 2) zG) (4 * k + 3) 0) i)))))] H := hP
                    have hD : va_D A [(e0, .inl (cI, 45, .inl (fun i => jI (fe i)))), (q0, .inl (cJ, 16, .inr (.inl (fun i => jL (fq i))))), (v0, .inl (cJ, 16, .inr (.inl (fun i => jL (fv i))))), (u0, .inl (cJ, 16, .inr (.inl (fun i => jL (fu i))))), (w0, .inl (cJ, 60, .inr (.inl (fun i => vL (fw i))))), (y0, .inl (cJ, 32, .inr (.inl (fun i => vL ((va_up (va_up (va_up (va_up fy (4 * k) zY) (4 * k + 1) zS) (4 * k + 2) zG) (4 * k + 3) 0) i)))))] := hD
                    refine n_lmul hx hb dL_goes_460 ?_
                    have ct461 := c_L_by l D tys (zv zC * zv (zinv zS)) _ _ (rp_a (rp_mul (rp_v zC) (rp_v (zinv zS)))) (Nat.le_of_ble_eq_true rfl)
                    refine k_goL (va_runS (As := [.long (jL (zv zC * zv (zinv zS)))]) (rest := [.long (vL (fw 0)), .int (jI 0), .ref w0]) ⟨hx, hb, hml, hown, hts⟩ (ct461.2 _) (va_cwS 1 hts gL_goes_L_by rfl rfl rfl (by decide +kernel) ⟨Nat.le_of_ble_eq_true rfl, Nat.le_of_ble_eq_true rfl⟩) (k_pre hK hP hD (is := []) rfl rfl) rfl rfl hl.1 rfl (lv_room (Nat.le_of_ble_eq_true rfl)) dL_goes_461 ⟨Nat.le_of_ble_eq_true rfl, Nat.le_of_ble_eq_true rfl⟩) ct461.1 hP hD hS hA [] rfl rfl (fun H locs hP hD hS => ?_)
                    have hP : va_P D vwCl [(e0, .inl (cI, 45, .inl (fun i => jI (fe i)))), (q0, .inl (cJ, 16, .inr (.inl (fun i => jL (fq i))))), (v0, .inl (cJ, 16, .inr (.inl (fun i => jL (fv i))))), (u0, .inl (cJ, 16, .inr (.inl (fun i => jL (fu i))))), (w0, .inl (cJ, 60, .inr (.inl (fun i => vL (fw i))))), (y0, .inl (cJ, 32, .inr (.inl (fun i => vL ((va_up (va_up (va_up (va_up fy (4 * k) zY) (4 * k + 1) zS) (4 * k + 2) zG) (4 * k + 3) 0) i)))))] H := hP
                    have hD : va_D A [(e0, .inl (cI, 45, .inl (fun i => jI (fe i)))), (q0, .inl (cJ, 16, .inr (.inl (fun i => jL (fq i))))), (v0, .inl (cJ, 16, .inr (.inl (fun i => jL (fv i))))), (u0, .inl (cJ, 16, .inr (.inl (fun i => jL (fu i))))), (w0, .inl (cJ, 60, .inr (.inl (fun i => vL (fw i))))), (y0, .inl (cJ, 32, .inr (.inl (fun i => vL ((va_up (va_up (va_up (va_up fy (4 * k) zY) (4 * k + 1) zS) (4 * k + 2) zG) (4 * k + 3) 0) i)))))] := hD
                    refine lv_lload hx hb dL_goes_464 (lv_at hl 0 rfl) ?_
                    refine n_lmul hx hb dL_goes_466 ?_
                    refine n_ladd hx hb dL_goes_467 ?_
                    have ct468 := c_L_by l D tys (zv (fw 0) + (zv (zC * (zinv zS)) * zv zY)) _ _ (rp_a (rp_add (rp_v (fw 0)) (rp_mul (rp_v (zC * (zinv zS))) (rp_v zY)))) (Nat.le_of_ble_eq_true rfl)
                    refine k_goL (va_runS (As := [.long (jL (zv (fw 0) + (zv (zC * (zinv zS)) * zv zY)))]) (rest := [.int (jI 0), .ref w0]) ⟨hx, hb, hml, hown, hts⟩ (ct468.2 _) (va_cwS 1 hts gL_goes_L_by rfl rfl rfl (by decide +kernel) ⟨Nat.le_of_ble_eq_true rfl, Nat.le_of_ble_eq_true rfl⟩) (k_pre hK hP hD (is := []) rfl rfl) rfl rfl hl.1 rfl (lv_room (Nat.le_of_ble_eq_true rfl)) dL_goes_468 ⟨Nat.le_of_ble_eq_true rfl, Nat.le_of_ble_eq_true rfl⟩) ct468.1 hP hD hS hA [] rfl rfl (fun H locs hP hD hS => ?_)
                    have hP : va_P D vwCl [(e0, .inl (cI, 45, .inl (fun i => jI (fe i)))), (q0, .inl (cJ, 16, .inr (.inl (fun i => jL (fq i))))), (v0, .inl (cJ, 16, .inr (.inl (fun i => jL (fv i))))), (u0, .inl (cJ, 16, .inr (.inl (fun i => jL (fu i))))), (w0, .inl (cJ, 60, .inr (.inl (fun i => vL (fw i))))), (y0, .inl (cJ, 32, .inr (.inl (fun i => vL ((va_up (va_up (va_up (va_up fy (4 * k) zY) (4 * k + 1) zS) (4 * k + 2) zG) (4 * k + 3) 0) i)))))] H := hP
                    have hD : va_D A [(e0, .inl (cI, 45, .inl (fun i => jI (fe i)))), (q0, .inl (cJ, 16, .inr (.inl (fun i => jL (fq i))))), (v0, .inl (cJ, 16, .inr (.inl (fun i => jL (fv i))))), (u0, .inl (cJ, 16, .inr (.inl (fun i => jL (fu i))))), (w0, .inl (cJ, 60, .inr (.inl (fun i => vL (fw i))))), (y0, .inl (cJ, 32, .inr (.inl (fun i => vL ((va_up (va_up (va_up (va_up fy (4 * k) zY) (4 * k + 1) zS) (4 * k + 2) zG) (4 * k + 3) 0) i)))))] := hD
                    refine n_zlast (i := 0) (x := ((fw 0) + ((zC * (zinv zS)) * zY))) hx hb hK hP hD hS 4 1 rfl htJ rfl (Nat.le_of_ble_eq_true rfl) (Nat.le_of_ble_eq_true rfl) dL_goes_471 (fun H locs hP hD hS => ?_)
                    have hP : va_P D vwCl [(e0, .inl (cI, 45, .inl (fun i => jI (fe i)))), (q0, .inl (cJ, 16, .inr (.inl (fun i => jL (fq i))))), (v0, .inl (cJ, 16, .inr (.inl (fun i => jL (fv i))))), (u0, .inl (cJ, 16, .inr (.inl (fun i => jL (fu i))))), (w0, .inl (cJ, 60, .inr (.inl (fun i => vL ((va_up fw 0 ((fw 0) + ((zC * (zinv zS)) * zY))) i))))), (y0, .inl (cJ, 32, .inr (.inl (fun i => vL ((va_up (va_up (va_up (va_up fy (4 * k) zY) (4 * k + 1) zS) (4 * k + 2) zG) (4 * k + 3) 0) i)))))] H := hP
                    have hD : va_D A [(e0, .inl (cI, 45, .inl (fun i => jI (fe i)))), (q0, .inl (cJ, 16, .inr (.inl (fun i => jL (fq i))))), (v0, .inl (cJ, 16, .inr (.inl (fun i => jL (fv i))))), (u0, .inl (cJ, 16, .inr (.inl (fun i => jL (fu i))))), (w0, .inl (cJ, 60, .inr (.inl (fun i => vL ((va_up fw 0 ((fw 0) + ((zC * (zinv zS)) * zY))) i))))), (y0, .inl (cJ, 32, .inr (.inl (fun i => vL ((va_up (va_up (va_up (va_up fy (4 * k) zY) (4 * k + 1) zS) (4 * k + 2) zG) (4 * k + 3) 0) i)))))] := hD
                    refine lv_iinc (v := jI 1) (lv' := [(26, .int (jI 1)), (29, .long (vL zY)), (27, .long (vL zC)), (25, .int (jI (4 * ((k : Nat) : Int)))), (24, .int (jI 0)), (22, .long (vL zG)), (20, .long (vL zY)), (18, .long (vL zS)), (16, .long (vL zD)), (14, .long (vL zC)), (12, .long (vL (M k 2))), (10, .long (vL (M k 1))), (9, .int (jI (((8 * one + k) : Nat) : Int))), (8, .int (jI ((t : Nat) : Int))), (0, .ref e0), (1, .ref q0), (2, .ref v0), (3, .ref u0), (4, .ref w0), (5, .ref y0), (6, .int (jI ((one : Nat) : Int))), (7, .int (jI (((15 * one) : Nat) : Int)))]) hx hb dL_goes_472 hl (k := 2) rfl (jI_add 0 1) (by decide) rfl (fun ls hl => ?_)
                    refine lv_goto (tgt := 379) hx hb dL_goes_475 (by decide) ?_
                    refine lv_iload hx hb dL_goes_379 (lv_at hl 0 rfl) ?_
                    refine n_iconst hx hb dL_goes_381 ?_
                    refine n_icmp_ge (tgt := 478) hx hb (by unfold r32; decide) (by unfold r32; decide) dL_goes_382 (by decide) (fun h382 => False.elim (by revert h382; decide)) (fun h382 => ?_)
                    refine lv_iload hx hb dL_goes_385 (lv_at hl 4 rfl) ?_
                    refine n_if_ne (tgt := 478) hx hb (by unfold r32; decide) dL_goes_387 (by decide) (fun h387 => False.elim (by revert h387; decide)) (fun h387 => ?_)
                    refine lv_iload hx hb dL_goes_390 (lv_at hl 0 rfl) ?_
                    refine n_if_eq (tgt := 407) hx hb (by unfold r32; decide) dL_goes_392 (by decide) (fun h392 => False.elim (by revert h392; decide)) (fun h392 => ?_)
                    refine lv_iload hx hb dL_goes_395 (lv_at hl 0 rfl) ?_
                    refine n_iconst hx hb dL_goes_397 ?_
                    refine n_icmp_eq (tgt := 407) hx hb (by unfold r32; decide) (by unfold r32; decide) dL_goes_398 (by decide) (fun h398 => False.elim (by revert h398; decide)) (fun h398 => ?_)
                    refine lv_iload hx hb dL_goes_401 (lv_at hl 0 rfl) ?_
                    refine n_iconst hx hb dL_goes_403 ?_
                    refine n_icmp_ne (tgt := 412) hx hb (by unfold r32; decide) (by unfold r32; decide) dL_goes_404 (by decide) (fun h404 => ?_) (fun h404 => False.elim (by revert h404; decide))
                    refine lv_lload hx hb dL_goes_412 (lv_at hl 8 rfl) ?_
                    refine lv_lstore (lv' := [(27, .long (vL zD)), (26, .int (jI 1)), (29, .long (vL zY)), (25, .int (jI (4 * ((k : Nat) : Int)))), (24, .int (jI 0)), (22, .long (vL zG)), (20, .long (vL zY)), (18, .long (vL zS)), (16, .long (vL zD)), (14, .long (vL zC)), (12, .long (vL (M k 2))), (10, .long (vL (M k 1))), (9, .int (jI (((8 * one + k) : Nat) : Int))), (8, .int (jI ((t : Nat) : Int))), (0, .ref e0), (1, .ref q0), (2, .ref v0), (3, .ref u0), (4, .ref w0), (5, .ref y0), (6, .int (jI ((one : Nat) : Int))), (7, .int (jI (((15 * one) : Nat) : Int)))]) hx hb dL_goes_414 hl (by decide) rfl (fun ls hl => ?_)
                    refine lv_iload hx hb dL_goes_416 (lv_at hl 1 rfl) ?_
                    refine n_iconst hx hb dL_goes_418 ?_
                    refine n_icmp_ge (tgt := 427) hx hb (by unfold r32; decide) (by unfold r32; decide) dL_goes_419 (by decide) (fun h419 => False.elim (by revert h419; decide)) (fun h419 => ?_)
                    refine lv_lload hx hb dL_goes_422 (lv_at hl 6 rfl) ?_
                    refine lv_goto (tgt := 442) hx hb dL_goes_424 (by decide) ?_
                    refine lv_lstore (lv' := [(29, .long (vL zY)), (27, .long (vL zD)), (26, .int (jI 1)), (25, .int (jI (4 * ((k : Nat) : Int)))), (24, .int (jI 0)), (22, .long (vL zG)), (20, .long (vL zY)), (18, .long (vL zS)), (16, .long (vL zD)), (14, .long (vL zC)), (12, .long (vL (M k 2))), (10, .long (vL (M k 1))), (9, .int (jI (((8 * one + k) : Nat) : Int))), (8, .int (jI ((t : Nat) : Int))), (0, .ref e0), (1, .ref q0), (2, .ref v0), (3, .ref u0), (4, .ref w0), (5, .ref y0), (6, .int (jI ((one : Nat) : Int))), (7, .int (jI (((15 * one) : Nat) : Int)))]) hx hb dL_goes_442 hl (by decide) rfl (fun ls hl => ?_)
                    refine lv_aload hx hb dL_goes_444 (lv_at hl 18 rfl) ?_
                    refine lv_iload hx hb dL_goes_446 (lv_at hl 2 rfl) ?_
                    refine lv_aload hx hb dL_goes_448 (lv_at hl 18 rfl) ?_
                    refine lv_iload hx hb dL_goes_450 (lv_at hl 2 rfl) ?_
                    refine n_laldv (i := 1) (v := (zv (fw 1))) hx hb hK hP 4 1 rfl htJ rfl (Nat.le_of_ble_eq_true rfl) (Nat.le_of_ble_eq_true rfl) (congrArg zv (up_o _ _ (by omega))) dL_goes_452 ?_
                    refine lv_lload hx hb dL_goes_453 (lv_at hl 1 rfl) ?_
                    refine lv_lload hx hb dL_goes_455 (lv_at hl 7 rfl) ?_
                    have ct457 := c_L_over l D tys (zv zS) _ _ (rp_a (rp_v zS)) (Nat.le_of_ble_eq_true rfl)
                    refine k_goL (va_runS (As := [.long (vL zS)]) (rest := [.long (vL zD), .long (vL (fw 1)), .int (jI 1), .ref w0]) ⟨hx, hb, hml, hown, hts⟩ (ct457.2 _) (va_cwS 1 hts gL_goes_L_over rfl rfl rfl (by decide +kernel) ⟨Nat.le_of_ble_eq_true rfl, Nat.le_of_ble_eq_true rfl⟩) (k_pre hK hP hD (is := []) rfl rfl) rfl rfl hl.1 rfl (lv_room (Nat.le_of_ble_eq_true rfl)) dL_goes_457 ⟨Nat.le_of_ble_eq_true rfl, Nat.le_of_ble_eq_true rfl⟩) ct457.1 hP hD hS hA [] rfl rfl (fun H locs hP hD hS => ?_)
                    have hP : va_P D vwCl [(e0, .inl (cI, 45, .inl (fun i => jI (fe i)))), (q0, .inl (cJ, 16, .inr (.inl (fun i => jL (fq i))))), (v0, .inl (cJ, 16, .inr (.inl (fun i => jL (fv i))))), (u0, .inl (cJ, 16, .inr (.inl (fun i => jL (fu i))))), (w0, .inl (cJ, 60, .inr (.inl (fun i => vL ((va_up fw 0 ((fw 0) + ((zC * (zinv zS)) * zY))) i))))), (y0, .inl (cJ, 32, .inr (.inl (fun i => vL ((va_up (va_up (va_up (va_up fy (4 * k) zY) (4 * k + 1) zS) (4 * k + 2) zG) (4 * k + 3) 0) i)))))] H := hP
                    have hD : va_D A [(e0, .inl (cI, 45, .inl (fun i => jI (fe i)))), (q0, .inl (cJ, 16, .inr (.inl (fun i => jL (fq i))))), (v0, .inl (cJ, 16, .inr (.inl (fun i => jL (fv i))))), (u0, .inl (cJ, 16, .inr (.inl (fun i => jL (fu i))))), (w0, .inl (cJ, 60, .inr (.inl (fun i => vL ((va_up fw 0 ((fw 0) + ((zC * (zinv zS)) * zY))) i))))), (y0, .inl (cJ, 32, .inr (.inl (fun i => vL ((va_up (va_up (va_up (va_up fy (4 * k) zY) (4 * k + 1) zS) (4 * k + 2) zG) (4 * k + 3) 0) i)))))] := hD
                    refine n_lmul hx hb dL_goes_460 ?_
                    have ct461 := c_L_by l D tys (zv zD * zv (zinv zS)) _ _ (rp_a (rp_mul (rp_v zD) (rp_v (zinv zS)))) (Nat.le_of_ble_eq_true rfl)
                    refine k_goL (va_runS (As := [.long (jL (zv zD * zv (zinv zS)))]) (rest := [.long (vL (fw 1)), .int (jI 1), .ref w0]) ⟨hx, hb, hml, hown, hts⟩ (ct461.2 _) (va_cwS 1 hts gL_goes_L_by rfl rfl rfl (by decide +kernel) ⟨Nat.le_of_ble_eq_true rfl, Nat.le_of_ble_eq_true rfl⟩) (k_pre hK hP hD (is := []) rfl rfl) rfl rfl hl.1 rfl (lv_room (Nat.le_of_ble_eq_true rfl)) dL_goes_461 ⟨Nat.le_of_ble_eq_true rfl, Nat.le_of_ble_eq_true rfl⟩) ct461.1 hP hD hS hA [] rfl rfl (fun H locs hP hD hS => ?_)
                    have hP : va_P D vwCl [(e0, .inl (cI, 45, .inl (fun i => jI (fe i)))), (q0, .inl (cJ, 16, .inr (.inl (fun i => jL (fq i))))), (v0, .inl (cJ, 16, .inr (.inl (fun i => jL (fv i))))), (u0, .inl (cJ, 16, .inr (.inl (fun i => jL (fu i))))), (w0, .inl (cJ, 60, .inr (.inl (fun i => vL ((va_up fw 0 ((fw 0) + ((zC * (zinv zS)) * zY))) i))))), (y0, .inl (cJ, 32, .inr (.inl (fun i => vL ((va_up (va_up (va_up (va_up fy (4 * k) zY) (4 * k + 1) zS) (4 * k + 2) zG) (4 * k + 3) 0) i)))))] H := hP
                    have hD : va_D A [(e0, .inl (cI, 45, .inl (fun i => jI (fe i)))), (q0, .inl (cJ, 16, .inr (.inl (fun i => jL (fq i))))), (v0, .inl (cJ, 16, .inr (.inl (fun i => jL (fv i))))), (u0, .inl (cJ, 16, .inr (.inl (fun i => jL (fu i))))), (w0, .inl (cJ, 60, .inr (.inl (fun i => vL ((va_up fw 0 ((fw 0) + ((zC * (zinv zS)) * zY))) i))))), (y0, .inl (cJ, 32, .inr (.inl (fun i => vL ((va_up (va_up (va_up (va_up fy (4 * k) zY) (4 * k + 1) zS) (4 * k + 2) zG) (4 * k + 3) 0) i)))))] := hD
                    refine lv_lload hx hb dL_goes_464 (lv_at hl 0 rfl) ?_
                    refine n_lmul hx hb dL_goes_466 ?_
                    refine n_ladd hx hb dL_goes_467 ?_
                    have ct468 := c_L_by l D tys (zv (fw 1) + (zv (zD * (zinv zS)) * zv zY)) _ _ (rp_a (rp_add (rp_v (fw 1)) (rp_mul (rp_v (zD * (zinv zS))) (rp_v zY)))) (Nat.le_of_ble_eq_true rfl)
                    refine k_goL (va_runS (As := [.long (jL (zv (fw 1) + (zv (zD * (zinv zS)) * zv zY)))]) (rest := [.int (jI 1), .ref w0]) ⟨hx, hb, hml, hown, hts⟩ (ct468.2 _) (va_cwS 1 hts gL_goes_L_by rfl rfl rfl (by decide +kernel) ⟨Nat.le_of_ble_eq_true rfl, Nat.le_of_ble_eq_true rfl⟩) (k_pre hK hP hD (is := []) rfl rfl) rfl rfl hl.1 rfl (lv_room (Nat.le_of_ble_eq_true rfl)) dL_goes_468 ⟨Nat.le_of_ble_eq_true rfl, Nat.le_of_ble_eq_true rfl⟩) ct468.1 hP hD hS hA [] rfl rfl (fun H locs hP hD hS => ?_)
                    have hP : va_P D vwCl [(e0, .inl (cI, 45, .inl (fun i => jI (fe i)))), (q0, .inl (cJ, 16, .inr (.inl (fun i => jL (fq i))))), (v0, .inl (cJ, 16, .inr (.inl (fun i => jL (fv i))))), (u0, .inl (cJ, 16, .inr (.inl (fun i => jL (fu i))))), (w0, .inl (cJ, 60, .inr (.inl (fun i => vL ((va_up fw 0 ((fw 0) + ((zC * (zinv zS)) * zY))) i))))), (y0, .inl (cJ, 32, .inr (.inl (fun i => vL ((va_up (va_up (va_up (va_up fy (4 * k) zY) (4 * k + 1) zS) (4 * k + 2) zG) (4 * k + 3) 0) i)))))] H := hP
                    have hD : va_D A [(e0, .inl (cI, 45, .inl (fun i => jI (fe i)))), (q0, .inl (cJ, 16, .inr (.inl (fun i => jL (fq i))))), (v0, .inl (cJ, 16, .inr (.inl (fun i => jL (fv i))))), (u0, .inl (cJ, 16, .inr (.inl (fun i => jL (fu i))))), (w0, .inl (cJ, 60, .inr (.inl (fun i => vL ((va_up fw 0 ((fw 0) + ((zC * (zinv zS)) * zY))) i))))), (y0, .inl (cJ, 32, .inr (.inl (fun i => vL ((va_up (va_up (va_up (va_up fy (4 * k) zY) (4 * k + 1) zS) (4 * k + 2) zG) (4 * k + 3) 0) i)))))] := hD
                    refine n_zlast (i := 1) (x := ((fw 1) + ((zD * (zinv zS)) * zY))) hx hb hK hP hD hS 4 1 rfl htJ rfl (Nat.le_of_ble_eq_true rfl) (Nat.le_of_ble_eq_true rfl) dL_goes_471 (fun H locs hP hD hS => ?_)
                    have hP : va_P D vwCl [(e0, .inl (cI, 45, .inl (fun i => jI (fe i)))), (q0, .inl (cJ, 16, .inr (.inl (fun i => jL (fq i))))), (v0, .inl (cJ, 16, .inr (.inl (fun i => jL (fv i))))), (u0, .inl (cJ, 16, .inr (.inl (fun i => jL (fu i))))), (w0, .inl (cJ, 60, .inr (.inl (fun i => vL ((va_up (va_up fw 0 ((fw 0) + ((zC * (zinv zS)) * zY))) 1 ((fw 1) + ((zD * (zinv zS)) * zY))) i))))), (y0, .inl (cJ, 32, .inr (.inl (fun i => vL ((va_up (va_up (va_up (va_up fy (4 * k) zY) (4 * k + 1) zS) (4 * k + 2) zG) (4 * k + 3) 0) i)))))] H := hP
                    have hD : va_D A [(e0, .inl (cI, 45, .inl (fun i => jI (fe i)))), (q0, .inl (cJ, 16, .inr (.inl (fun i => jL (fq i))))), (v0, .inl (cJ, 16, .inr (.inl (fun i => jL (fv i))))), (u0, .inl (cJ, 16, .inr (.inl (fun i => jL (fu i))))), (w0, .inl (cJ, 60, .inr (.inl (fun i => vL ((va_up (va_up fw 0 ((fw 0) + ((zC * (zinv zS)) * zY))) 1 ((fw 1) + ((zD * (zinv zS)) * zY))) i))))), (y0, .inl (cJ, 32, .inr (.inl (fun i => vL ((va_up (va_up (va_up (va_up fy (4 * k) zY) (4 * k + 1) zS) (4 * k + 2) zG) (4 * k + 3) 0) i)))))] := hD
                    refine lv_iinc (v := jI 2) (lv' := [(26, .int (jI 2)), (29, .long (vL zY)), (27, .long (vL zD)), (25, .int (jI (4 * ((k : Nat) : Int)))), (24, .int (jI 0)), (22, .long (vL zG)), (20, .long (vL zY)), (18, .long (vL zS)), (16, .long (vL zD)), (14, .long (vL zC)), (12, .long (vL (M k 2))), (10, .long (vL (M k 1))), (9, .int (jI (((8 * one + k) : Nat) : Int))), (8, .int (jI ((t : Nat) : Int))), (0, .ref e0), (1, .ref q0), (2, .ref v0), (3, .ref u0), (4, .ref w0), (5, .ref y0), (6, .int (jI ((one : Nat) : Int))), (7, .int (jI (((15 * one) : Nat) : Int)))]) hx hb dL_goes_472 hl (k := 2) rfl (jI_add 1 1) (by decide) rfl (fun ls hl => ?_)
                    refine lv_goto (tgt := 379) hx hb dL_goes_475 (by decide) ?_
                    refine lv_iload hx hb dL_goes_379 (lv_at hl 0 rfl) ?_
                    refine n_iconst hx hb dL_goes_381 ?_
                    refine n_icmp_ge (tgt := 478) hx hb (by unfold r32; decide) (by unfold r32; decide) dL_goes_382 (by decide) (fun h382 => False.elim (by revert h382; decide)) (fun h382 => ?_)
                    refine lv_iload hx hb dL_goes_385 (lv_at hl 4 rfl) ?_
                    refine n_if_ne (tgt := 478) hx hb (by unfold r32; decide) dL_goes_387 (by decide) (fun h387 => False.elim (by revert h387; decide)) (fun h387 => ?_)
                    refine lv_iload hx hb dL_goes_390 (lv_at hl 0 rfl) ?_
                    refine n_if_eq (tgt := 407) hx hb (by unfold r32; decide) dL_goes_392 (by decide) (fun h392 => False.elim (by revert h392; decide)) (fun h392 => ?_)
                    refine lv_iload hx hb dL_goes_395 (lv_at hl 0 rfl) ?_
                    refine n_iconst hx hb dL_goes_397 ?_
                    refine n_icmp_eq (tgt := 407) hx hb (by unfold r32; decide) (by unfold r32; decide) dL_goes_398 (by decide) (fun h398 => ?_) (fun h398 => False.elim (by revert h398; decide))
                    refine lv_lload hx hb dL_goes_407 (lv_at hl 9 rfl) ?_
                    refine lv_goto (tgt := 414) hx hb dL_goes_409 (by decide) ?_
                    refine lv_lstore (lv' := [(27, .long (vL zC)), (26, .int (jI 2)), (29, .long (vL zY)), (25, .int (jI (4 * ((k : Nat) : Int)))), (24, .int (jI 0)), (22, .long (vL zG)), (20, .long (vL zY)), (18, .long (vL zS)), (16, .long (vL zD)), (14, .long (vL zC)), (12, .long (vL (M k 2))), (10, .long (vL (M k 1))), (9, .int (jI (((8 * one + k) : Nat) : Int))), (8, .int (jI ((t : Nat) : Int))), (0, .ref e0), (1, .ref q0), (2, .ref v0), (3, .ref u0), (4, .ref w0), (5, .ref y0), (6, .int (jI ((one : Nat) : Int))), (7, .int (jI (((15 * one) : Nat) : Int)))]) hx hb dL_goes_414 hl (by decide) rfl (fun ls hl => ?_)
                    refine lv_iload hx hb dL_goes_416 (lv_at hl 1 rfl) ?_
                    refine n_iconst hx hb dL_goes_418 ?_
                    refine n_icmp_ge (tgt := 427) hx hb (by unfold r32; decide) (by unfold r32; decide) dL_goes_419 (by decide) (fun h419 => ?_) (fun h419 => False.elim (by revert h419; decide))
                    refine lv_iload hx hb dL_goes_427 (lv_at hl 1 rfl) ?_
                    refine n_iconst hx hb dL_goes_429 ?_
                    refine n_icmp_ne (tgt := 439) hx hb (by unfold r32; decide) (by unfold r32; decide) dL_goes_430 (by decide) (fun h430 => False.elim (by revert h430; decide)) (fun h430 => ?_)
                    refine lv_lload hx hb dL_goes_433 (lv_at hl 9 rfl) ?_
                    refine n_lneg hx hb dL_goes_435 ?_
                    refine lv_goto (tgt := 442) hx hb dL_goes_436 (by decide) ?_
                    refine lv_lstore (lv' := [(29, .long (jL (-zv zC))), (27, .long (vL zC)), (26, .int (jI 2)), (25, .int (jI (4 * ((k : Nat) : Int)))), (24, .int (jI 0)), (22, .long (vL zG)), (20, .long (vL zY)), (18, .long (vL zS)), (16, .long (vL zD)), (14, .long (vL zC)), (12, .long (vL (M k 2))), (10, .long (vL (M k 1))), (9, .int (jI (((8 * one + k) : Nat) : Int))), (8, .int (jI ((t : Nat) : Int))), (0, .ref e0), (1, .ref q0), (2, .ref v0), (3, .ref u0), (4, .ref w0), (5, .ref y0), (6, .int (jI ((one : Nat) : Int))), (7, .int (jI (((15 * one) : Nat) : Int)))]) hx hb dL_goes_442 hl (by decide) rfl (fun ls hl => ?_)
                    refine lv_aload hx hb dL_goes_444 (lv_at hl 18 rfl) ?_
                    refine lv_iload hx hb dL_goes_446 (lv_at hl 2 rfl) ?_
                    refine lv_aload hx hb dL_goes_448 (lv_at hl 18 rfl) ?_
                    refine lv_iload hx hb dL_goes_450 (lv_at hl 2 rfl) ?_
                    refine n_laldv (i := 2) (v := (zv (fw 2))) hx hb hK hP 4 1 rfl htJ rfl (Nat.le_of_ble_eq_true rfl) (Nat.le_of_ble_eq_true rfl) (congrArg zv ((up_o _ _ (by omega)).trans (up_o _ _ (by omega)))) dL_goes_452 ?_
                    refine lv_lload hx hb dL_goes_453 (lv_at hl 1 rfl) ?_
                    refine lv_lload hx hb dL_goes_455 (lv_at hl 7 rfl) ?_
                    have ct457 := c_L_over l D tys (zv zS) _ _ (rp_a (rp_v zS)) (Nat.le_of_ble_eq_true rfl)
                    refine k_goL (va_runS (As := [.long (vL zS)]) (rest := [.long (vL zC), .long (vL (fw 2)), .int (jI 2), .ref w0]) ⟨hx, hb, hml, hown, hts⟩ (ct457.2 _) (va_cwS 1 hts gL_goes_L_over rfl rfl rfl (by decide +kernel) ⟨Nat.le_of_ble_eq_true rfl, Nat.le_of_ble_eq_true rfl⟩) (k_pre hK hP hD (is := []) rfl rfl) rfl rfl hl.1 rfl (lv_room (Nat.le_of_ble_eq_true rfl)) dL_goes_457 ⟨Nat.le_of_ble_eq_true rfl, Nat.le_of_ble_eq_true rfl⟩) ct457.1 hP hD hS hA [] rfl rfl (fun H locs hP hD hS => ?_)
                    have hP : va_P D vwCl [(e0, .inl (cI, 45, .inl (fun i => jI (fe i)))), (q0, .inl (cJ, 16, .inr (.inl (fun i => jL (fq i))))), (v0, .inl (cJ, 16, .inr (.inl (fun i => jL (fv i))))), (u0, .inl (cJ, 16, .inr (.inl (fun i => jL (fu i))))), (w0, .inl (cJ, 60, .inr (.inl (fun i => vL ((va_up (va_up fw 0 ((fw 0) + ((zC * (zinv zS)) * zY))) 1 ((fw 1) + ((zD * (zinv zS)) * zY))) i))))), (y0, .inl (cJ, 32, .inr (.inl (fun i => vL ((va_up (va_up (va_up (va_up fy (4 * k) zY) (4 * k + 1) zS) (4 * k + 2) zG) (4 * k + 3) 0) i)))))] H := hP
                    have hD : va_D A [(e0, .inl (cI, 45, .inl (fun i => jI (fe i)))), (q0, .inl (cJ, 16, .inr (.inl (fun i => jL (fq i))))), (v0, .inl (cJ, 16, .inr (.inl (fun i => jL (fv i))))), (u0, .inl (cJ, 16, .inr (.inl (fun i => jL (fu i))))), (w0, .inl (cJ, 60, .inr (.inl (fun i => vL ((va_up (va_up fw 0 ((fw 0) + ((zC * (zinv zS)) * zY))) 1 ((fw 1) + ((zD * (zinv zS)) * zY))) i))))), (y0, .inl (cJ, 32, .inr (.inl (fun i => vL ((va_up (va_up (va_up (va_up fy (4 * k) zY) (4 * k + 1) zS) (4 * k + 2) zG) (4 * k + 3) 0) i)))))] := hD
                    refine n_lmul hx hb dL_goes_460 ?_
                    have ct461 := c_L_by l D tys (zv zC * zv (zinv zS)) _ _ (rp_a (rp_mul (rp_v zC) (rp_v (zinv zS)))) (Nat.le_of_ble_eq_true rfl)
                    refine k_goL (va_runS (As := [.long (jL (zv zC * zv (zinv zS)))]) (rest := [.long (vL (fw 2)), .int (jI 2), .ref w0]) ⟨hx, hb, hml, hown, hts⟩ (ct461.2 _) (va_cwS 1 hts gL_goes_L_by rfl rfl rfl (by decide +kernel) ⟨Nat.le_of_ble_eq_true rfl, Nat.le_of_ble_eq_true rfl⟩) (k_pre hK hP hD (is := []) rfl rfl) rfl rfl hl.1 rfl (lv_room (Nat.le_of_ble_eq_true rfl)) dL_goes_461 ⟨Nat.le_of_ble_eq_true rfl, Nat.le_of_ble_eq_true rfl⟩) ct461.1 hP hD hS hA [] rfl rfl (fun H locs hP hD hS => ?_)
                    have hP : va_P D vwCl [(e0, .inl (cI, 45, .inl (fun i => jI (fe i)))), (q0, .inl (cJ, 16, .inr (.inl (fun i => jL (fq i))))), (v0, .inl (cJ, 16, .inr (.inl (fun i => jL (fv i))))), (u0, .inl (cJ, 16, .inr (.inl (fun i => jL (fu i))))), (w0, .inl (cJ, 60, .inr (.inl (fun i => vL ((va_up (va_up fw 0 ((fw 0) + ((zC * (zinv zS)) * zY))) 1 ((fw 1) + ((zD * (zinv zS)) * zY))) i))))), (y0, .inl (cJ, 32, .inr (.inl (fun i => vL ((va_up (va_up (va_up (va_up fy (4 * k) zY) (4 * k + 1) zS) (4 * k + 2) zG) (4 * k + 3) 0) i)))))] H := hP
                    have hD : va_D A [(e0, .inl (cI, 45, .inl (fun i => jI (fe i)))), (q0, .inl (cJ, 16, .inr (.inl (fun i => jL (fq i))))), (v0, .inl (cJ, 16, .inr (.inl (fun i => jL (fv i))))), (u0, .inl (cJ, 16, .inr (.inl (fun i => jL (fu i))))), (w0, .inl (cJ, 60, .inr (.inl (fun i => vL ((va_up (va_up fw 0 ((fw 0) + ((zC * (zinv zS)) * zY))) 1 ((fw 1) + ((zD * (zinv zS)) * zY))) i))))), (y0, .inl (cJ, 32, .inr (.inl (fun i => vL ((va_up (va_up (va_up (va_up fy (4 * k) zY) (4 * k + 1) zS) (4 * k + 2) zG) (4 * k + 3) 0) i)))))] := hD
                    refine lv_lload hx hb dL_goes_464 (lv_at hl 0 rfl) ?_
                    refine n_lmul hx hb dL_goes_466 ?_
                    refine n_ladd hx hb dL_goes_467 ?_
                    have ct468 := c_L_by l D tys (zv (fw 2) + (zv (zC * (zinv zS)) * (-zv zC))) _ _ (ra_add (rp_a (rp_v (fw 2))) (ra_mul (rp_a (rp_v (zC * (zinv zS)))) (ra_neg (rp_a (rp_v zC))))) (Nat.le_of_ble_eq_true rfl)
                    refine k_goL (va_runS (As := [.long (jL (zv (fw 2) + (zv (zC * (zinv zS)) * (-zv zC))))]) (rest := [.int (jI 2), .ref w0]) ⟨hx, hb, hml, hown, hts⟩ (ct468.2 _) (va_cwS 1 hts gL_goes_L_by rfl rfl rfl (by decide +kernel) ⟨Nat.le_of_ble_eq_true rfl, Nat.le_of_ble_eq_true rfl⟩) (k_pre hK hP hD (is := []) rfl rfl) rfl rfl hl.1 rfl (lv_room (Nat.le_of_ble_eq_true rfl)) dL_goes_468 ⟨Nat.le_of_ble_eq_true rfl, Nat.le_of_ble_eq_true rfl⟩) ct468.1 hP hD hS hA [] rfl rfl (fun H locs hP hD hS => ?_)
                    have hP : va_P D vwCl [(e0, .inl (cI, 45, .inl (fun i => jI (fe i)))), (q0, .inl (cJ, 16, .inr (.inl (fun i => jL (fq i))))), (v0, .inl (cJ, 16, .inr (.inl (fun i => jL (fv i))))), (u0, .inl (cJ, 16, .inr (.inl (fun i => jL (fu i))))), (w0, .inl (cJ, 60, .inr (.inl (fun i => vL ((va_up (va_up fw 0 ((fw 0) + ((zC * (zinv zS)) * zY))) 1 ((fw 1) + ((zD * (zinv zS)) * zY))) i))))), (y0, .inl (cJ, 32, .inr (.inl (fun i => vL ((va_up (va_up (va_up (va_up fy (4 * k) zY) (4 * k + 1) zS) (4 * k + 2) zG) (4 * k + 3) 0) i)))))] H := hP
                    have hD : va_D A [(e0, .inl (cI, 45, .inl (fun i => jI (fe i)))), (q0, .inl (cJ, 16, .inr (.inl (fun i => jL (fq i))))), (v0, .inl (cJ, 16, .inr (.inl (fun i => jL (fv i))))), (u0, .inl (cJ, 16, .inr (.inl (fun i => jL (fu i))))), (w0, .inl (cJ, 60, .inr (.inl (fun i => vL ((va_up (va_up fw 0 ((fw 0) + ((zC * (zinv zS)) * zY))) 1 ((fw 1) + ((zD * (zinv zS)) * zY))) i))))), (y0, .inl (cJ, 32, .inr (.inl (fun i => vL ((va_up (va_up (va_up (va_up fy (4 * k) zY) (4 * k + 1) zS) (4 * k + 2) zG) (4 * k + 3) 0) i)))))] := hD
                    refine n_zlast (i := 2) (x := ((fw 2) + ((zC * (zinv zS)) * (-zC)))) hx hb hK hP hD hS 4 1 rfl htJ rfl (Nat.le_of_ble_eq_true rfl) (Nat.le_of_ble_eq_true rfl) dL_goes_471 (fun H locs hP hD hS => ?_)
                    have hP : va_P D vwCl [(e0, .inl (cI, 45, .inl (fun i => jI (fe i)))), (q0, .inl (cJ, 16, .inr (.inl (fun i => jL (fq i))))), (v0, .inl (cJ, 16, .inr (.inl (fun i => jL (fv i))))), (u0, .inl (cJ, 16, .inr (.inl (fun i => jL (fu i))))), (w0, .inl (cJ, 60, .inr (.inl (fun i => vL ((va_up (va_up (va_up fw 0 ((fw 0) + ((zC * (zinv zS)) * zY))) 1 ((fw 1) + ((zD * (zinv zS)) * zY))) 2 ((fw 2) + ((zC * (zinv zS)) * (-zC)))) i))))), (y0, .inl (cJ, 32, .inr (.inl (fun i => vL ((va_up (va_up (va_up (va_up fy (4 * k) zY) (4 * k + 1) zS) (4 * k + 2) zG) (4 * k + 3) 0) i)))))] H := hP
                    have hD : va_D A [(e0, .inl (cI, 45, .inl (fun i => jI (fe i)))), (q0, .inl (cJ, 16, .inr (.inl (fun i => jL (fq i))))), (v0, .inl (cJ, 16, .inr (.inl (fun i => jL (fv i))))), (u0, .inl (cJ, 16, .inr (.inl (fun i => jL (fu i))))), (w0, .inl (cJ, 60, .inr (.inl (fun i => vL ((va_up (va_up (va_up fw 0 ((fw 0) + ((zC * (zinv zS)) * zY))) 1 ((fw 1) + ((zD * (zinv zS)) * zY))) 2 ((fw 2) + ((zC * (zinv zS)) * (-zC)))) i))))), (y0, .inl (cJ, 32, .inr (.inl (fun i => vL ((va_up (va_up (va_up (va_up fy (4 * k) zY) (4 * k + 1) zS) (4 * k + 2) zG) (4 * k + 3) 0) i)))))] := hD
                    refine lv_iinc (v := jI 3) (lv' := [(26, .int (jI 3)), (29, .long (jL (-zv zC))), (27, .long (vL zC)), (25, .int (jI (4 * ((k : Nat) : Int)))), (24, .int (jI 0)), (22, .long (vL zG)), (20, .long (vL zY)), (18, .long (vL zS)), (16, .long (vL zD)), (14, .long (vL zC)), (12, .long (vL (M k 2))), (10, .long (vL (M k 1))), (9, .int (jI (((8 * one + k) : Nat) : Int))), (8, .int (jI ((t : Nat) : Int))), (0, .ref e0), (1, .ref q0), (2, .ref v0), (3, .ref u0), (4, .ref w0), (5, .ref y0), (6, .int (jI ((one : Nat) : Int))), (7, .int (jI (((15 * one) : Nat) : Int)))]) hx hb dL_goes_472 hl (k := 2) rfl (jI_add 2 1) (by decide) rfl (fun ls hl => ?_)
                    refine lv_goto (tgt := 379) hx hb dL_goes_475 (by decide) ?_
                    refine lv_iload hx hb dL_goes_379 (lv_at hl 0 rfl) ?_
                    refine n_iconst hx hb dL_goes_381 ?_
                    refine n_icmp_ge (tgt := 478) hx hb (by unfold r32; decide) (by unfold r32; decide) dL_goes_382 (by decide) (fun h382 => False.elim (by revert h382; decide)) (fun h382 => ?_)
                    refine lv_iload hx hb dL_goes_385 (lv_at hl 4 rfl) ?_
                    refine n_if_ne (tgt := 478) hx hb (by unfold r32; decide) dL_goes_387 (by decide) (fun h387 => False.elim (by revert h387; decide)) (fun h387 => ?_)
                    refine lv_iload hx hb dL_goes_390 (lv_at hl 0 rfl) ?_
                    refine n_if_eq (tgt := 407) hx hb (by unfold r32; decide) dL_goes_392 (by decide) (fun h392 => False.elim (by revert h392; decide)) (fun h392 => ?_)
                    refine lv_iload hx hb dL_goes_395 (lv_at hl 0 rfl) ?_
                    refine n_iconst hx hb dL_goes_397 ?_
                    refine n_icmp_eq (tgt := 407) hx hb (by unfold r32; decide) (by unfold r32; decide) dL_goes_398 (by decide) (fun h398 => False.elim (by revert h398; decide)) (fun h398 => ?_)
                    refine lv_iload hx hb dL_goes_401 (lv_at hl 0 rfl) ?_
                    refine n_iconst hx hb dL_goes_403 ?_
                    refine n_icmp_ne (tgt := 412) hx hb (by unfold r32; decide) (by unfold r32; decide) dL_goes_404 (by decide) (fun h404 => False.elim (by revert h404; decide)) (fun h404 => ?_)
                    refine lv_lload hx hb dL_goes_407 (lv_at hl 9 rfl) ?_
                    refine lv_goto (tgt := 414) hx hb dL_goes_409 (by decide) ?_
                    refine lv_lstore (lv' := [(27, .long (vL zC)), (26, .int (jI 3)), (29, .long (jL (-zv zC))), (25, .int (jI (4 * ((k : Nat) : Int)))), (24, .int (jI 0)), (22, .long (vL zG)), (20, .long (vL zY)), (18, .long (vL zS)), (16, .long (vL zD)), (14, .long (vL zC)), (12, .long (vL (M k 2))), (10, .long (vL (M k 1))), (9, .int (jI (((8 * one + k) : Nat) : Int))), (8, .int (jI ((t : Nat) : Int))), (0, .ref e0), (1, .ref q0), (2, .ref v0), (3, .ref u0), (4, .ref w0), (5, .ref y0), (6, .int (jI ((one : Nat) : Int))), (7, .int (jI (((15 * one) : Nat) : Int)))]) hx hb dL_goes_414 hl (by decide) rfl (fun ls hl => ?_)
                    refine lv_iload hx hb dL_goes_416 (lv_at hl 1 rfl) ?_
                    refine n_iconst hx hb dL_goes_418 ?_
                    refine n_icmp_ge (tgt := 427) hx hb (by unfold r32; decide) (by unfold r32; decide) dL_goes_419 (by decide) (fun h419 => ?_) (fun h419 => False.elim (by revert h419; decide))
                    refine lv_iload hx hb dL_goes_427 (lv_at hl 1 rfl) ?_
                    refine n_iconst hx hb dL_goes_429 ?_
                    refine n_icmp_ne (tgt := 439) hx hb (by unfold r32; decide) (by unfold r32; decide) dL_goes_430 (by decide) (fun h430 => ?_) (fun h430 => False.elim (by revert h430; decide))
                    refine lv_lload hx hb dL_goes_439 (lv_at hl 8 rfl) ?_
                    refine n_lneg hx hb dL_goes_441 ?_
                    refine lv_lstore (lv' := [(29, .long (jL (-zv zD))), (27, .long (vL zC)), (26, .int (jI 3)), (25, .int (jI (4 * ((k : Nat) : Int)))), (24, .int (jI 0)), (22, .long (vL zG)), (20, .long (vL zY)), (18, .long (vL zS)), (16, .long (vL zD)), (14, .long (vL zC)), (12, .long (vL (M k 2))), (10, .long (vL (M k 1))), (9, .int (jI (((8 * one + k) : Nat) : Int))), (8, .int (jI ((t : Nat) : Int))), (0, .ref e0), (1, .ref q0), (2, .ref v0), (3, .ref u0), (4, .ref w0), (5, .ref y0), (6, .int (jI ((one : Nat) : Int))), (7, .int (jI (((15 * one) : Nat) : Int)))]) hx hb dL_goes_442 hl (by decide) rfl (fun ls hl => ?_)
                    refine lv_aload hx hb dL_goes_444 (lv_at hl 18 rfl) ?_
                    refine lv_iload hx hb dL_goes_446 (lv_at hl 2 rfl) ?_
                    refine lv_aload hx hb dL_goes_448 (lv_at hl 18 rfl) ?_
                    refine lv_iload hx hb dL_goes_450 (lv_at hl 2 rfl) ?_
                    refine n_laldv (i := 3) (v := (zv (fw 3))) hx hb hK hP 4 1 rfl htJ rfl (Nat.le_of_ble_eq_true rfl) (Nat.le_of_ble_eq_true rfl) (congrArg zv ((up_o _ _ (by omega)).trans ((up_o _ _ (by omega)).trans (up_o _ _ (by omega))))) dL_goes_452 ?_
                    refine lv_lload hx hb dL_goes_453 (lv_at hl 1 rfl) ?_
                    refine lv_lload hx hb dL_goes_455 (lv_at hl 7 rfl) ?_
                    have ct457 := c_L_over l D tys (zv zS) _ _ (rp_a (rp_v zS)) (Nat.le_of_ble_eq_true rfl)
                    refine k_goL (va_runS (As := [.long (vL zS)]) (rest := [.long (vL zC), .long (vL (fw 3)), .int (jI 3), .ref w0]) ⟨hx, hb, hml, hown, hts⟩ (ct457.2 _) (va_cwS 1 hts gL_goes_L_over rfl rfl rfl (by decide +kernel) ⟨Nat.le_of_ble_eq_true rfl, Nat.le_of_ble_eq_true rfl⟩) (k_pre hK hP hD (is := []) rfl rfl) rfl rfl hl.1 rfl (lv_room (Nat.le_of_ble_eq_true rfl)) dL_goes_457 ⟨Nat.le_of_ble_eq_true rfl, Nat.le_of_ble_eq_true rfl⟩) ct457.1 hP hD hS hA [] rfl rfl (fun H locs hP hD hS => ?_)
                    have hP : va_P D vwCl [(e0, .inl (cI, 45, .inl (fun i => jI (fe i)))), (q0, .inl (cJ, 16, .inr (.inl (fun i => jL (fq i))))), (v0, .inl (cJ, 16, .inr (.inl (fun i => jL (fv i))))), (u0, .inl (cJ, 16, .inr (.inl (fun i => jL (fu i))))), (w0, .inl (cJ, 60, .inr (.inl (fun i => vL ((va_up (va_up (va_up fw 0 ((fw 0) + ((zC * (zinv zS)) * zY))) 1 ((fw 1) + ((zD * (zinv zS)) * zY))) 2 ((fw 2) + ((zC * (zinv zS)) * (-zC)))) i))))), (y0, .inl (cJ, 32, .inr (.inl (fun i => vL ((va_up (va_up (va_up (va_up fy (4 * k) zY) (4 * k + 1) zS) (4 * k + 2) zG) (4 * k + 3) 0) i)))))] H := hP
                    have hD : va_D A [(e0, .inl (cI, 45, .inl (fun i => jI (fe i)))), (q0, .inl (cJ, 16, .inr (.inl (fun i => jL (fq i))))), (v0, .inl (cJ, 16, .inr (.inl (fun i => jL (fv i))))), (u0, .inl (cJ, 16, .inr (.inl (fun i => jL (fu i))))), (w0, .inl (cJ, 60, .inr (.inl (fun i => vL ((va_up (va_up (va_up fw 0 ((fw 0) + ((zC * (zinv zS)) * zY))) 1 ((fw 1) + ((zD * (zinv zS)) * zY))) 2 ((fw 2) + ((zC * (zinv zS)) * (-zC)))) i))))), (y0, .inl (cJ, 32, .inr (.inl (fun i => vL ((va_up (va_up (va_up (va_up fy (4 * k) zY) (4 * k + 1) zS) (4 * k + 2) zG) (4 * k + 3) 0) i)))))] := hD
                    refine n_lmul hx hb dL_goes_460 ?_
                    have ct461 := c_L_by l D tys (zv zC * zv (zinv zS)) _ _ (rp_a (rp_mul (rp_v zC) (rp_v (zinv zS)))) (Nat.le_of_ble_eq_true rfl)
                    refine k_goL (va_runS (As := [.long (jL (zv zC * zv (zinv zS)))]) (rest := [.long (vL (fw 3)), .int (jI 3), .ref w0]) ⟨hx, hb, hml, hown, hts⟩ (ct461.2 _) (va_cwS 1 hts gL_goes_L_by rfl rfl rfl (by decide +kernel) ⟨Nat.le_of_ble_eq_true rfl, Nat.le_of_ble_eq_true rfl⟩) (k_pre hK hP hD (is := []) rfl rfl) rfl rfl hl.1 rfl (lv_room (Nat.le_of_ble_eq_true rfl)) dL_goes_461 ⟨Nat.le_of_ble_eq_true rfl, Nat.le_of_ble_eq_true rfl⟩) ct461.1 hP hD hS hA [] rfl rfl (fun H locs hP hD hS => ?_)
                    have hP : va_P D vwCl [(e0, .inl (cI, 45, .inl (fun i => jI (fe i)))), (q0, .inl (cJ, 16, .inr (.inl (fun i => jL (fq i))))), (v0, .inl (cJ, 16, .inr (.inl (fun i => jL (fv i))))), (u0, .inl (cJ, 16, .inr (.inl (fun i => jL (fu i))))), (w0, .inl (cJ, 60, .inr (.inl (fun i => vL ((va_up (va_up (va_up fw 0 ((fw 0) + ((zC * (zinv zS)) * zY))) 1 ((fw 1) + ((zD * (zinv zS)) * zY))) 2 ((fw 2) + ((zC * (zinv zS)) * (-zC)))) i))))), (y0, .inl (cJ, 32, .inr (.inl (fun i => vL ((va_up (va_up (va_up (va_up fy (4 * k) zY) (4 * k + 1) zS) (4 * k + 2) zG) (4 * k + 3) 0) i)))))] H := hP
                    have hD : va_D A [(e0, .inl (cI, 45, .inl (fun i => jI (fe i)))), (q0, .inl (cJ, 16, .inr (.inl (fun i => jL (fq i))))), (v0, .inl (cJ, 16, .inr (.inl (fun i => jL (fv i))))), (u0, .inl (cJ, 16, .inr (.inl (fun i => jL (fu i))))), (w0, .inl (cJ, 60, .inr (.inl (fun i => vL ((va_up (va_up (va_up fw 0 ((fw 0) + ((zC * (zinv zS)) * zY))) 1 ((fw 1) + ((zD * (zinv zS)) * zY))) 2 ((fw 2) + ((zC * (zinv zS)) * (-zC)))) i))))), (y0, .inl (cJ, 32, .inr (.inl (fun i => vL ((va_up (va_up (va_up (va_up fy (4 * k) zY) (4 * k + 1) zS) (4 * k + 2) zG) (4 * k + 3) 0) i)))))] := hD
                    refine lv_lload hx hb dL_goes_464 (lv_at hl 0 rfl) ?_
                    refine n_lmul hx hb dL_goes_466 ?_
                    refine n_ladd hx hb dL_goes_467 ?_
                    have ct468 := c_L_by l D tys (zv (fw 3) + (zv (zC * (zinv zS)) * (-zv zD))) _ _ (ra_add (rp_a (rp_v (fw 3))) (ra_mul (rp_a (rp_v (zC * (zinv zS)))) (ra_neg (rp_a (rp_v zD))))) (Nat.le_of_ble_eq_true rfl)
                    refine k_goL (va_runS (As := [.long (jL (zv (fw 3) + (zv (zC * (zinv zS)) * (-zv zD))))]) (rest := [.int (jI 3), .ref w0]) ⟨hx, hb, hml, hown, hts⟩ (ct468.2 _) (va_cwS 1 hts gL_goes_L_by rfl rfl rfl (by decide +kernel) ⟨Nat.le_of_ble_eq_true rfl, Nat.le_of_ble_eq_true rfl⟩) (k_pre hK hP hD (is := []) rfl rfl) rfl rfl hl.1 rfl (lv_room (Nat.le_of_ble_eq_true rfl)) dL_goes_468 ⟨Nat.le_of_ble_eq_true rfl, Nat.le_of_ble_eq_true rfl⟩) ct468.1 hP hD hS hA [] rfl rfl (fun H locs hP hD hS => ?_)
                    have hP : va_P D vwCl [(e0, .inl (cI, 45, .inl (fun i => jI (fe i)))), (q0, .inl (cJ, 16, .inr (.inl (fun i => jL (fq i))))), (v0, .inl (cJ, 16, .inr (.inl (fun i => jL (fv i))))), (u0, .inl (cJ, 16, .inr (.inl (fun i => jL (fu i))))), (w0, .inl (cJ, 60, .inr (.inl (fun i => vL ((va_up (va_up (va_up fw 0 ((fw 0) + ((zC * (zinv zS)) * zY))) 1 ((fw 1) + ((zD * (zinv zS)) * zY))) 2 ((fw 2) + ((zC * (zinv zS)) * (-zC)))) i))))), (y0, .inl (cJ, 32, .inr (.inl (fun i => vL ((va_up (va_up (va_up (va_up fy (4 * k) zY) (4 * k + 1) zS) (4 * k + 2) zG) (4 * k + 3) 0) i)))))] H := hP
                    have hD : va_D A [(e0, .inl (cI, 45, .inl (fun i => jI (fe i)))), (q0, .inl (cJ, 16, .inr (.inl (fun i => jL (fq i))))), (v0, .inl (cJ, 16, .inr (.inl (fun i => jL (fv i))))), (u0, .inl (cJ, 16, .inr (.inl (fun i => jL (fu i))))), (w0, .inl (cJ, 60, .inr (.inl (fun i => vL ((va_up (va_up (va_up fw 0 ((fw 0) + ((zC * (zinv zS)) * zY))) 1 ((fw 1) + ((zD * (zinv zS)) * zY))) 2 ((fw 2) + ((zC * (zinv zS)) * (-zC)))) i))))), (y0, .inl (cJ, 32, .inr (.inl (fun i => vL ((va_up (va_up (va_up (va_up fy (4 * k) zY) (4 * k + 1) zS) (4 * k + 2) zG) (4 * k + 3) 0) i)))))] := hD
                    refine n_zlast (i := 3) (x := ((fw 3) + ((zC * (zinv zS)) * (-zD)))) hx hb hK hP hD hS 4 1 rfl htJ rfl (Nat.le_of_ble_eq_true rfl) (Nat.le_of_ble_eq_true rfl) dL_goes_471 (fun H locs hP hD hS => ?_)
                    have hP : va_P D vwCl [(e0, .inl (cI, 45, .inl (fun i => jI (fe i)))), (q0, .inl (cJ, 16, .inr (.inl (fun i => jL (fq i))))), (v0, .inl (cJ, 16, .inr (.inl (fun i => jL (fv i))))), (u0, .inl (cJ, 16, .inr (.inl (fun i => jL (fu i))))), (w0, .inl (cJ, 60, .inr (.inl (fun i => vL ((va_up (va_up (va_up (va_up fw 0 ((fw 0) + ((zC * (zinv zS)) * zY))) 1 ((fw 1) + ((zD * (zinv zS)) * zY))) 2 ((fw 2) + ((zC * (zinv zS)) * (-zC)))) 3 ((fw 3) + ((zC * (zinv zS)) * (-zD)))) i))))), (y0, .inl (cJ, 32, .inr (.inl (fun i => vL ((va_up (va_up (va_up (va_up fy (4 * k) zY) (4 * k + 1) zS) (4 * k + 2) zG) (4 * k + 3) 0) i)))))] H := hP
                    have hD : va_D A [(e0, .inl (cI, 45, .inl (fun i => jI (fe i)))), (q0, .inl (cJ, 16, .inr (.inl (fun i => jL (fq i))))), (v0, .inl (cJ, 16, .inr (.inl (fun i => jL (fv i))))), (u0, .inl (cJ, 16, .inr (.inl (fun i => jL (fu i))))), (w0, .inl (cJ, 60, .inr (.inl (fun i => vL ((va_up (va_up (va_up (va_up fw 0 ((fw 0) + ((zC * (zinv zS)) * zY))) 1 ((fw 1) + ((zD * (zinv zS)) * zY))) 2 ((fw 2) + ((zC * (zinv zS)) * (-zC)))) 3 ((fw 3) + ((zC * (zinv zS)) * (-zD)))) i))))), (y0, .inl (cJ, 32, .inr (.inl (fun i => vL ((va_up (va_up (va_up (va_up fy (4 * k) zY) (4 * k + 1) zS) (4 * k + 2) zG) (4 * k + 3) 0) i)))))] := hD
                    refine lv_iinc (v := jI 4) (lv' := [(26, .int (jI 4)), (29, .long (jL (-zv zD))), (27, .long (vL zC)), (25, .int (jI (4 * ((k : Nat) : Int)))), (24, .int (jI 0)), (22, .long (vL zG)), (20, .long (vL zY)), (18, .long (vL zS)), (16, .long (vL zD)), (14, .long (vL zC)), (12, .long (vL (M k 2))), (10, .long (vL (M k 1))), (9, .int (jI (((8 * one + k) : Nat) : Int))), (8, .int (jI ((t : Nat) : Int))), (0, .ref e0), (1, .ref q0), (2, .ref v0), (3, .ref u0), (4, .ref w0), (5, .ref y0), (6, .int (jI ((one : Nat) : Int))), (7, .int (jI (((15 * one) : Nat) : Int)))]) hx hb dL_goes_472 hl (k := 2) rfl (jI_add 3 1) (by decide) rfl (fun ls hl => ?_)
                    refine lv_goto (tgt := 379) hx hb dL_goes_475 (by decide) ?_
                    refine lv_iload hx hb dL_goes_379 (lv_at hl 0 rfl) ?_
                    refine n_iconst hx hb dL_goes_381 ?_
                    refine n_icmp_ge (tgt := 478) hx hb (by unfold r32; decide) (by unfold r32; decide) dL_goes_382 (by decide) (fun h382 => False.elim (by revert h382; decide)) (fun h382 => ?_)
                    refine lv_iload hx hb dL_goes_385 (lv_at hl 4 rfl) ?_
                    refine n_if_ne (tgt := 478) hx hb (by unfold r32; decide) dL_goes_387 (by decide) (fun h387 => False.elim (by revert h387; decide)) (fun h387 => ?_)
                    refine lv_iload hx hb dL_goes_390 (lv_at hl 0 rfl) ?_
                    refine n_if_eq (tgt := 407) hx hb (by unfold r32; decide) dL_goes_392 (by decide) (fun h392 => False.elim (by revert h392; decide)) (fun h392 => ?_)
                    refine lv_iload hx hb dL_goes_395 (lv_at hl 0 rfl) ?_
                    refine n_iconst hx hb dL_goes_397 ?_
                    refine n_icmp_eq (tgt := 407) hx hb (by unfold r32; decide) (by unfold r32; decide) dL_goes_398 (by decide) (fun h398 => False.elim (by revert h398; decide)) (fun h398 => ?_)
                    refine lv_iload hx hb dL_goes_401 (lv_at hl 0 rfl) ?_
                    refine n_iconst hx hb dL_goes_403 ?_
                    refine n_icmp_ne (tgt := 412) hx hb (by unfold r32; decide) (by unfold r32; decide) dL_goes_404 (by decide) (fun h404 => ?_) (fun h404 => False.elim (by revert h404; decide))
                    refine lv_lload hx hb dL_goes_412 (lv_at hl 8 rfl) ?_
                    refine lv_lstore (lv' := [(27, .long (vL zD)), (26, .int (jI 4)), (29, .long (jL (-zv zD))), (25, .int (jI (4 * ((k : Nat) : Int)))), (24, .int (jI 0)), (22, .long (vL zG)), (20, .long (vL zY)), (18, .long (vL zS)), (16, .long (vL zD)), (14, .long (vL zC)), (12, .long (vL (M k 2))), (10, .long (vL (M k 1))), (9, .int (jI (((8 * one + k) : Nat) : Int))), (8, .int (jI ((t : Nat) : Int))), (0, .ref e0), (1, .ref q0), (2, .ref v0), (3, .ref u0), (4, .ref w0), (5, .ref y0), (6, .int (jI ((one : Nat) : Int))), (7, .int (jI (((15 * one) : Nat) : Int)))]) hx hb dL_goes_414 hl (by decide) rfl (fun ls hl => ?_)
                    refine lv_iload hx hb dL_goes_416 (lv_at hl 1 rfl) ?_
                    refine n_iconst hx hb dL_goes_418 ?_
                    refine n_icmp_ge (tgt := 427) hx hb (by unfold r32; decide) (by unfold r32; decide) dL_goes_419 (by decide) (fun h419 => ?_) (fun h419 => False.elim (by revert h419; decide))
                    refine lv_iload hx hb dL_goes_427 (lv_at hl 1 rfl) ?_
                    refine n_iconst hx hb dL_goes_429 ?_
                    refine n_icmp_ne (tgt := 439) hx hb (by unfold r32; decide) (by unfold r32; decide) dL_goes_430 (by decide) (fun h430 => ?_) (fun h430 => False.elim (by revert h430; decide))
                    refine lv_lload hx hb dL_goes_439 (lv_at hl 8 rfl) ?_
                    refine n_lneg hx hb dL_goes_441 ?_
                    refine lv_lstore (lv' := [(29, .long (jL (-zv zD))), (27, .long (vL zD)), (26, .int (jI 4)), (25, .int (jI (4 * ((k : Nat) : Int)))), (24, .int (jI 0)), (22, .long (vL zG)), (20, .long (vL zY)), (18, .long (vL zS)), (16, .long (vL zD)), (14, .long (vL zC)), (12, .long (vL (M k 2))), (10, .long (vL (M k 1))), (9, .int (jI (((8 * one + k) : Nat) : Int))), (8, .int (jI ((t : Nat) : Int))), (0, .ref e0), (1, .ref q0), (2, .ref v0), (3, .ref u0), (4, .ref w0), (5, .ref y0), (6, .int (jI ((one : Nat) : Int))), (7, .int (jI (((15 * one) : Nat) : Int)))]) hx hb dL_goes_442 hl (by decide) rfl (fun ls hl => ?_)
                    refine lv_aload hx hb dL_goes_444 (lv_at hl 18 rfl) ?_
                    refine lv_iload hx hb dL_goes_446 (lv_at hl 2 rfl) ?_
                    refine lv_aload hx hb dL_goes_448 (lv_at hl 18 rfl) ?_
                    refine lv_iload hx hb dL_goes_450 (lv_at hl 2 rfl) ?_
                    refine n_laldv (i := 4) (v := (zv (fw 4))) hx hb hK hP 4 1 rfl htJ rfl (Nat.le_of_ble_eq_true rfl) (Nat.le_of_ble_eq_true rfl) (congrArg zv ((up_o _ _ (by omega)).trans ((up_o _ _ (by omega)).trans ((up_o _ _ (by omega)).trans (up_o _ _ (by omega)))))) dL_goes_452 ?_
                    refine lv_lload hx hb dL_goes_453 (lv_at hl 1 rfl) ?_
                    refine lv_lload hx hb dL_goes_455 (lv_at hl 7 rfl) ?_
                    have ct457 := c_L_over l D tys (zv zS) _ _ (rp_a (rp_v zS)) (Nat.le_of_ble_eq_true rfl)
                    refine k_goL (va_runS (As := [.long (vL zS)]) (rest := [.long (vL zD), .long (vL (fw 4)), .int (jI 4), .ref w0]) ⟨hx, hb, hml, hown, hts⟩ (ct457.2 _) (va_cwS 1 hts gL_goes_L_over rfl rfl rfl (by decide +kernel) ⟨Nat.le_of_ble_eq_true rfl, Nat.le_of_ble_eq_true rfl⟩) (k_pre hK hP hD (is := []) rfl rfl) rfl rfl hl.1 rfl (lv_room (Nat.le_of_ble_eq_true rfl)) dL_goes_457 ⟨Nat.le_of_ble_eq_true rfl, Nat.le_of_ble_eq_true rfl⟩) ct457.1 hP hD hS hA [] rfl rfl (fun H locs hP hD hS => ?_)
                    have hP : va_P D vwCl [(e0, .inl (cI, 45, .inl (fun i => jI (fe i)))), (q0, .inl (cJ, 16, .inr (.inl (fun i => jL (fq i))))), (v0, .inl (cJ, 16, .inr (.inl (fun i => jL (fv i))))), (u0, .inl (cJ, 16, .inr (.inl (fun i => jL (fu i))))), (w0, .inl (cJ, 60, .inr (.inl (fun i => vL ((va_up (va_up (va_up (va_up fw 0 ((fw 0) + ((zC * (zinv zS)) * zY))) 1 ((fw 1) + ((zD * (zinv zS)) * zY))) 2 ((fw 2) + ((zC * (zinv zS)) * (-zC)))) 3 ((fw 3) + ((zC * (zinv zS)) * (-zD)))) i))))), (y0, .inl (cJ, 32, .inr (.inl (fun i => vL ((va_up (va_up (va_up (va_up fy (4 * k) zY) (4 * k + 1) zS) (4 * k + 2) zG) (4 * k + 3) 0) i)))))] H := hP
                    have hD : va_D A [(e0, .inl (cI, 45, .inl (fun i => jI (fe i)))), (q0, .inl (cJ, 16, .inr (.inl (fun i => jL (fq i))))), (v0, .inl (cJ, 16, .inr (.inl (fun i => jL (fv i))))), (u0, .inl (cJ, 16, .inr (.inl (fun i => jL (fu i))))), (w0, .inl (cJ, 60, .inr (.inl (fun i => vL ((va_up (va_up (va_up (va_up fw 0 ((fw 0) + ((zC * (zinv zS)) * zY))) 1 ((fw 1) + ((zD * (zinv zS)) * zY))) 2 ((fw 2) + ((zC * (zinv zS)) * (-zC)))) 3 ((fw 3) + ((zC * (zinv zS)) * (-zD)))) i))))), (y0, .inl (cJ, 32, .inr (.inl (fun i => vL ((va_up (va_up (va_up (va_up fy (4 * k) zY) (4 * k + 1) zS) (4 * k + 2) zG) (4 * k + 3) 0) i)))))] := hD
                    refine n_lmul hx hb dL_goes_460 ?_
                    have ct461 := c_L_by l D tys (zv zD * zv (zinv zS)) _ _ (rp_a (rp_mul (rp_v zD) (rp_v (zinv zS)))) (Nat.le_of_ble_eq_true rfl)
                    refine k_goL (va_runS (As := [.long (jL (zv zD * zv (zinv zS)))]) (rest := [.long (vL (fw 4)), .int (jI 4), .ref w0]) ⟨hx, hb, hml, hown, hts⟩ (ct461.2 _) (va_cwS 1 hts gL_goes_L_by rfl rfl rfl (by decide +kernel) ⟨Nat.le_of_ble_eq_true rfl, Nat.le_of_ble_eq_true rfl⟩) (k_pre hK hP hD (is := []) rfl rfl) rfl rfl hl.1 rfl (lv_room (Nat.le_of_ble_eq_true rfl)) dL_goes_461 ⟨Nat.le_of_ble_eq_true rfl, Nat.le_of_ble_eq_true rfl⟩) ct461.1 hP hD hS hA [] rfl rfl (fun H locs hP hD hS => ?_)
                    have hP : va_P D vwCl [(e0, .inl (cI, 45, .inl (fun i => jI (fe i)))), (q0, .inl (cJ, 16, .inr (.inl (fun i => jL (fq i))))), (v0, .inl (cJ, 16, .inr (.inl (fun i => jL (fv i))))), (u0, .inl (cJ, 16, .inr (.inl (fun i => jL (fu i))))), (w0, .inl (cJ, 60, .inr (.inl (fun i => vL ((va_up (va_up (va_up (va_up fw 0 ((fw 0) + ((zC * (zinv zS)) * zY))) 1 ((fw 1) + ((zD * (zinv zS)) * zY))) 2 ((fw 2) + ((zC * (zinv zS)) * (-zC)))) 3 ((fw 3) + ((zC * (zinv zS)) * (-zD)))) i))))), (y0, .inl (cJ, 32, .inr (.inl (fun i => vL ((va_up (va_up (va_up (va_up fy (4 * k) zY) (4 * k + 1) zS) (4 * k + 2) zG) (4 * k + 3) 0) i)))))] H := hP
                    have hD : va_D A [(e0, .inl (cI, 45, .inl (fun i => jI (fe i)))), (q0, .inl (cJ, 16, .inr (.inl (fun i => jL (fq i))))), (v0, .inl (cJ, 16, .inr (.inl (fun i => jL (fv i))))), (u0, .inl (cJ, 16, .inr (.inl (fun i => jL (fu i))))), (w0, .inl (cJ, 60, .inr (.inl (fun i => vL ((va_up (va_up (va_up (va_up fw 0 ((fw 0) + ((zC * (zinv zS)) * zY))) 1 ((fw 1) + ((zD * (zinv zS)) * zY))) 2 ((fw 2) + ((zC * (zinv zS)) * (-zC)))) 3 ((fw 3) + ((zC * (zinv zS)) * (-zD)))) i))))), (y0, .inl (cJ, 32, .inr (.inl (fun i => vL ((va_up (va_up (va_up (va_up fy (4 * k) zY) (4 * k + 1) zS) (4 * k + 2) zG) (4 * k + 3) 0) i)))))] := hD
                    refine lv_lload hx hb dL_goes_464 (lv_at hl 0 rfl) ?_
                    refine n_lmul hx hb dL_goes_466 ?_
                    refine n_ladd hx hb dL_goes_467 ?_
                    have ct468 := c_L_by l D tys (zv (fw 4) + (zv (zD * (zinv zS)) * (-zv zD))) _ _ (ra_add (rp_a (rp_v (fw 4))) (ra_mul (rp_a (rp_v (zD * (zinv zS)))) (ra_neg (rp_a (rp_v zD))))) (Nat.le_of_ble_eq_true rfl)
                    refine k_goL (va_runS (As := [.long (jL (zv (fw 4) + (zv (zD * (zinv zS)) * (-zv zD))))]) (rest := [.int (jI 4), .ref w0]) ⟨hx, hb, hml, hown, hts⟩ (ct468.2 _) (va_cwS 1 hts gL_goes_L_by rfl rfl rfl (by decide +kernel) ⟨Nat.le_of_ble_eq_true rfl, Nat.le_of_ble_eq_true rfl⟩) (k_pre hK hP hD (is := []) rfl rfl) rfl rfl hl.1 rfl (lv_room (Nat.le_of_ble_eq_true rfl)) dL_goes_468 ⟨Nat.le_of_ble_eq_true rfl, Nat.le_of_ble_eq_true rfl⟩) ct468.1 hP hD hS hA [] rfl rfl (fun H locs hP hD hS => ?_)
                    have hP : va_P D vwCl [(e0, .inl (cI, 45, .inl (fun i => jI (fe i)))), (q0, .inl (cJ, 16, .inr (.inl (fun i => jL (fq i))))), (v0, .inl (cJ, 16, .inr (.inl (fun i => jL (fv i))))), (u0, .inl (cJ, 16, .inr (.inl (fun i => jL (fu i))))), (w0, .inl (cJ, 60, .inr (.inl (fun i => vL ((va_up (va_up (va_up (va_up fw 0 ((fw 0) + ((zC * (zinv zS)) * zY))) 1 ((fw 1) + ((zD * (zinv zS)) * zY))) 2 ((fw 2) + ((zC * (zinv zS)) * (-zC)))) 3 ((fw 3) + ((zC * (zinv zS)) * (-zD)))) i))))), (y0, .inl (cJ, 32, .inr (.inl (fun i => vL ((va_up (va_up (va_up (va_up fy (4 * k) zY) (4 * k + 1) zS) (4 * k + 2) zG) (4 * k + 3) 0) i)))))] H := hP
                    have hD : va_D A [(e0, .inl (cI, 45, .inl (fun i => jI (fe i)))), (q0, .inl (cJ, 16, .inr (.inl (fun i => jL (fq i))))), (v0, .inl (cJ, 16, .inr (.inl (fun i => jL (fv i))))), (u0, .inl (cJ, 16, .inr (.inl (fun i => jL (fu i))))), (w0, .inl (cJ, 60, .inr (.inl (fun i => vL ((va_up (va_up (va_up (va_up fw 0 ((fw 0) + ((zC * (zinv zS)) * zY))) 1 ((fw 1) + ((zD * (zinv zS)) * zY))) 2 ((fw 2) + ((zC * (zinv zS)) * (-zC)))) 3 ((fw 3) + ((zC * (zinv zS)) * (-zD)))) i))))), (y0, .inl (cJ, 32, .inr (.inl (fun i => vL ((va_up (va_up (va_up (va_up fy (4 * k) zY) (4 * k + 1) zS) (4 * k + 2) zG) (4 * k + 3) 0) i)))))] := hD
                    refine n_zlast (i := 4) (x := ((fw 4) + ((zD * (zinv zS)) * (-zD)))) hx hb hK hP hD hS 4 1 rfl htJ rfl (Nat.le_of_ble_eq_true rfl) (Nat.le_of_ble_eq_true rfl) dL_goes_471 (fun H locs hP hD hS => ?_)
                    have hP : va_P D vwCl [(e0, .inl (cI, 45, .inl (fun i => jI (fe i)))), (q0, .inl (cJ, 16, .inr (.inl (fun i => jL (fq i))))), (v0, .inl (cJ, 16, .inr (.inl (fun i => jL (fv i))))), (u0, .inl (cJ, 16, .inr (.inl (fun i => jL (fu i))))), (w0, .inl (cJ, 60, .inr (.inl (fun i => vL ((va_up (va_up (va_up (va_up (va_up fw 0 ((fw 0) + ((zC * (zinv zS)) * zY))) 1 ((fw 1) + ((zD * (zinv zS)) * zY))) 2 ((fw 2) + ((zC * (zinv zS)) * (-zC)))) 3 ((fw 3) + ((zC * (zinv zS)) * (-zD)))) 4 ((fw 4) + ((zD * (zinv zS)) * (-zD)))) i))))), (y0, .inl (cJ, 32, .inr (.inl (fun i => vL ((va_up (va_up (va_up (va_up fy (4 * k) zY) (4 * k + 1) zS) (4 * k + 2) zG) (4 * k + 3) 0) i)))))] H := hP
                    have hD : va_D A [(e0, .inl (cI, 45, .inl (fun i => jI (fe i)))), (q0, .inl (cJ, 16, .inr (.inl (fun i => jL (fq i))))), (v0, .inl (cJ, 16, .inr (.inl (fun i => jL (fv i))))), (u0, .inl (cJ, 16, .inr (.inl (fun i => jL (fu i))))), (w0, .inl (cJ, 60, .inr (.inl (fun i => vL ((va_up (va_up (va_up (va_up (va_up fw 0 ((fw 0) + ((zC * (zinv zS)) * zY))) 1 ((fw 1) + ((zD * (zinv zS)) * zY))) 2 ((fw 2) + ((zC * (zinv zS)) * (-zC)))) 3 ((fw 3) + ((zC * (zinv zS)) * (-zD)))) 4 ((fw 4) + ((zD * (zinv zS)) * (-zD)))) i))))), (y0, .inl (cJ, 32, .inr (.inl (fun i => vL ((va_up (va_up (va_up (va_up fy (4 * k) zY) (4 * k + 1) zS) (4 * k + 2) zG) (4 * k + 3) 0) i)))))] := hD
                    refine lv_iinc (v := jI 5) (lv' := [(26, .int (jI 5)), (29, .long (jL (-zv zD))), (27, .long (vL zD)), (25, .int (jI (4 * ((k : Nat) : Int)))), (24, .int (jI 0)), (22, .long (vL zG)), (20, .long (vL zY)), (18, .long (vL zS)), (16, .long (vL zD)), (14, .long (vL zC)), (12, .long (vL (M k 2))), (10, .long (vL (M k 1))), (9, .int (jI (((8 * one + k) : Nat) : Int))), (8, .int (jI ((t : Nat) : Int))), (0, .ref e0), (1, .ref q0), (2, .ref v0), (3, .ref u0), (4, .ref w0), (5, .ref y0), (6, .int (jI ((one : Nat) : Int))), (7, .int (jI (((15 * one) : Nat) : Int)))]) hx hb dL_goes_472 hl (k := 2) rfl (jI_add 4 1) (by decide) rfl (fun ls hl => ?_)
                    refine lv_goto (tgt := 379) hx hb dL_goes_475 (by decide) ?_
                    refine lv_iload hx hb dL_goes_379 (lv_at hl 0 rfl) ?_
                    refine n_iconst hx hb dL_goes_381 ?_
                    refine n_icmp_ge (tgt := 478) hx hb (by unfold r32; decide) (by unfold r32; decide) dL_goes_382 (by decide) (fun h382 => ?_) (fun h382 => False.elim (by revert h382; decide))
                    refine lv_iinc (v := jI (((8 * one + (k + 1)) : Nat) : Int)) (lv' := [(9, .int (jI (((8 * one + (k + 1)) : Nat) : Int))), (26, .int (jI 5)), (29, .long (jL (-zv zD))), (27, .long (vL zD)), (25, .int (jI (4 * ((k : Nat) : Int)))), (24, .int (jI 0)), (22, .long (vL zG)), (20, .long (vL zY)), (18, .long (vL zS)), (16, .long (vL zD)), (14, .long (vL zC)), (12, .long (vL (M k 2))), (10, .long (vL (M k 1))), (8, .int (jI ((t : Nat) : Int))), (0, .ref e0), (1, .ref q0), (2, .ref v0), (3, .ref u0), (4, .ref w0), (5, .ref y0), (6, .int (jI ((one : Nat) : Int))), (7, .int (jI (((15 * one) : Nat) : Int)))]) hx hb dL_goes_478 hl (k := 12) rfl (jI_inc (8 * one + k)) (by decide) rfl (fun ls hl => ?_)
                    refine lv_goto (tgt := 105) hx hb dL_goes_481 (by decide) ?_
                    have hP : va_P D vwCl [(e0, .inl (cI, 45, .inl (fun i => jI (fe i)))), (q0, .inl (cJ, 16, .inr (.inl (fun i => jL (fq i))))), (v0, .inl (cJ, 16, .inr (.inl (fun i => jL (fv i))))), (u0, .inl (cJ, 16, .inr (.inl (fun i => jL (fu i))))), (w0, .inl (cJ, 60, .inr (.inl (fun i => vL ((put5 fw ((fw 0 + zC * zinv zS * zY), (fw 1 + zD * zinv zS * zY), (fw 2 + zC * zinv zS * (-zC)), (fw 3 + zC * zinv zS * (-zD)), (fw 4 + zD * zinv zS * (-zD)))) i))))), (y0, .inl (cJ, 32, .inr (.inl (fun i => vL ((yput fy k zY zS zG 0) i)))))] H := hP
                    have hD : va_D A [(e0, .inl (cI, 45, .inl (fun i => jI (fe i)))), (q0, .inl (cJ, 16, .inr (.inl (fun i => jL (fq i))))), (v0, .inl (cJ, 16, .inr (.inl (fun i => jL (fv i))))), (u0, .inl (cJ, 16, .inr (.inl (fun i => jL (fu i))))), (w0, .inl (cJ, 60, .inr (.inl (fun i => vL ((put5 fw ((fw 0 + zC * zinv zS * zY), (fw 1 + zD * zinv zS * zY), (fw 2 + zC * zinv zS * (-zC)), (fw 3 + zC * zinv zS * (-zD)), (fw 4 + zD * zinv zS * (-zD)))) i))))), (y0, .inl (cJ, 32, .inr (.inl (fun i => vL ((yput fy k zY zS zG 0) i)))))] := hD
                    refine ih (k + 1) (put5 fw ((fw 0 + zC * zinv zS * zY), (fw 1 + zD * zinv zS * zY), (fw 2 + zC * zinv zS * (-zC)), (fw 3 + zC * zinv zS * (-zD)), (fw 4 + zD * zinv zS * (-zD)))) (yput fy k zY zS zG 0) H locs ls (by omega) (by omega) ?_ ?_ ?_ ?_ (ym 0 (by rw [if_neg (by rw [hgt]; decide)])) hP hD hS (lv_sub hl [0, 13, 14, 15, 16, 17, 18, 19, 20, 21] rfl)
                    · intro u hu
                      rw [s5at_put5 _ _ (by omega)]
                      exact hra u hu
                    · intro u hu hu4
                      rw [s5at_put5 _ _ (by omega)]
                      exact hrb u hu hu4
                    · rw [s5at_put5 _ _ (by omega)]
                      exact ha
                    · rw [s5at_put5 _ _ (by omega), s5_put5, ecor]
                      exact htk
              · have hd2 : dr k = true := by simpa using hd
                have hd := hd2
                refine lv_iload hx hb dL_goes_105 (lv_at hl 0 rfl) ?_
                refine n_bipush hx hb dL_goes_107 (by decide) ?_
                refine lv_iload hx hb dL_goes_109 (lv_at hl 8 rfl) ?_
                refine n_imul hx hb dL_goes_111 ?_
                refine lv_aload_n hx hb dL_goes_112 rfl (lv_at hl 2 rfl) ?_
                refine lv_iload hx hb dL_goes_113 (lv_at hl 9 rfl) ?_
                refine n_bipush hx hb dL_goes_115 (by decide) ?_
                refine n_iadd hx hb dL_goes_117 ?_
                refine n_ialdv (i := ((15 * one) + 14)) (v := ((n : Nat) : Int)) hx hb hK hP 0 0 rfl htI (by omega) (by omega) (Nat.le_of_ble_eq_true rfl) hE14 dL_goes_118 ?_
                refine n_iadd hx hb dL_goes_119 ?_
                refine n_icmp_ge (tgt := 484) hx hb (by unfold r32; omega) (by unfold r32; omega) dL_goes_120 (by decide) (fun h120 => False.elim (by omega)) (fun h120 => ?_)
                refine lv_aload_n hx hb dL_goes_123 rfl (lv_at hl 3 rfl) ?_
                refine lv_iload hx hb dL_goes_124 (lv_at hl 0 rfl) ?_
                refine n_laldv (i := (8 * one + k)) (v := (zv (M k 1) * 4294967296 + (16 * (zv (M k 5) + 1) + zv (M k 0)))) hx hb hK hP 1 1 rfl htJ (by omega) (by omega) (Nat.le_of_ble_eq_true rfl) hq dL_goes_126 ?_
                refine lv_ldc2 (v := jL 16) hx hb hown k84 dL_goes_127 ?_
                refine n_lremv (v := (zv (M k 0))) hx hb dL_goes_130 (by omega) (by omega) (by omega) (by omega) (by omega) ?_
                refine lv_iload hx hb dL_goes_131 (lv_at hl 1 rfl) ?_
                refine n_i2l hx hb dL_goes_133 (by omega) (by omega) ?_
                refine W.lcmp hx hb dL_goes_134 ?_
                refine n_lif_ne (tgt := 478) hx hb (r64_z _) (by unfold r64; omega) dL_goes_135 (by decide) (fun h135 => False.elim (h135 (hzt.mpr hz))) (fun h135 => ?_)
                refine lv_aload_n hx hb dL_goes_138 rfl (lv_at hl 5 rfl) ?_
                refine lv_iload hx hb dL_goes_139 (lv_at hl 0 rfl) ?_
                refine n_laldv (i := (8 * one + k)) (v := (2 * zv (M k 4) + iB (dr k))) hx hb hK hP 3 1 rfl htJ (by omega) (by omega) (Nat.le_of_ble_eq_true rfl) hu dL_goes_141 ?_
                refine lv_ldc2 (v := jL 2) hx hb hown k86 dL_goes_142 ?_
                refine n_lremv (v := (iB (dr k))) hx hb dL_goes_145 (by omega) (by omega) (by omega) (by omega) (by omega) ?_
                refine lv_lconst (v := jL 1) hx hb dL_goes_146 rfl ?_
                refine W.lcmp hx hb dL_goes_147 ?_
                refine n_lif_ne (tgt := 154) hx hb (by unfold r64; omega) (by unfold r64; omega) dL_goes_148 (by decide) (fun h148 => False.elim (h148 (by rw [hd]; rfl))) (fun h148 => ?_)
                refine lv_goto (tgt := 478) hx hb dL_goes_151 (by decide) ?_
                refine lv_iinc (v := jI (((8 * one + (k + 1)) : Nat) : Int)) (lv' := [(9, .int (jI (((8 * one + (k + 1)) : Nat) : Int))), (8, .int (jI ((t : Nat) : Int))), (0, .ref e0), (1, .ref q0), (2, .ref v0), (3, .ref u0), (4, .ref w0), (5, .ref y0), (6, .int (jI ((one : Nat) : Int))), (7, .int (jI (((15 * one) : Nat) : Int)))]) hx hb dL_goes_478 hl (k := 0) rfl (jI_inc (8 * one + k)) (by decide) rfl (fun ls hl => ?_)
                refine lv_goto (tgt := 105) hx hb dL_goes_481 (by decide) ?_
                refine ih (k + 1) fw fy H locs ls (by omega) (by omega) hra hrb ha (inn_skip hin (by rw [hd]; simp)) ?_ hP hD hS (lv_sub hl [0, 1, 2, 3, 4, 5, 6, 7, 8, 9] rfl)
                intro j h1 h2 h3
                have hjk : j ≠ k := fun q => by rw [q, hd] at h2; cases h2
                exact houts j h1 h2 (by have h3 : (M j 0).val < t ∨ ((M j 0).val = t ∧ j < k + 1) := h3; show _ < t ∨ (_ = t ∧ j < k); omega)
            · skip
              refine lv_iload hx hb dL_goes_105 (lv_at hl 0 rfl) ?_
              refine n_bipush hx hb dL_goes_107 (by decide) ?_
              refine lv_iload hx hb dL_goes_109 (lv_at hl 8 rfl) ?_
              refine n_imul hx hb dL_goes_111 ?_
              refine lv_aload_n hx hb dL_goes_112 rfl (lv_at hl 2 rfl) ?_
              refine lv_iload hx hb dL_goes_113 (lv_at hl 9 rfl) ?_
              refine n_bipush hx hb dL_goes_115 (by decide) ?_
              refine n_iadd hx hb dL_goes_117 ?_
              refine n_ialdv (i := ((15 * one) + 14)) (v := ((n : Nat) : Int)) hx hb hK hP 0 0 rfl htI (by omega) (by omega) (Nat.le_of_ble_eq_true rfl) hE14 dL_goes_118 ?_
              refine n_iadd hx hb dL_goes_119 ?_
              refine n_icmp_ge (tgt := 484) hx hb (by unfold r32; omega) (by unfold r32; omega) dL_goes_120 (by decide) (fun h120 => False.elim (by omega)) (fun h120 => ?_)
              refine lv_aload_n hx hb dL_goes_123 rfl (lv_at hl 3 rfl) ?_
              refine lv_iload hx hb dL_goes_124 (lv_at hl 0 rfl) ?_
              refine n_laldv (i := (8 * one + k)) (v := (zv (M k 1) * 4294967296 + (16 * (zv (M k 5) + 1) + zv (M k 0)))) hx hb hK hP 1 1 rfl htJ (by omega) (by omega) (Nat.le_of_ble_eq_true rfl) hq dL_goes_126 ?_
              refine lv_ldc2 (v := jL 16) hx hb hown k84 dL_goes_127 ?_
              refine n_lremv (v := (zv (M k 0))) hx hb dL_goes_130 (by omega) (by omega) (by omega) (by omega) (by omega) ?_
              refine lv_iload hx hb dL_goes_131 (lv_at hl 1 rfl) ?_
              refine n_i2l hx hb dL_goes_133 (by omega) (by omega) ?_
              refine W.lcmp hx hb dL_goes_134 ?_
              refine n_lif_ne (tgt := 478) hx hb (r64_z _) (by unfold r64; omega) dL_goes_135 (by decide) (fun h135 => ?_) (fun h135 => False.elim (hz (hzt.mp h135)))
              refine lv_iinc (v := jI (((8 * one + (k + 1)) : Nat) : Int)) (lv' := [(9, .int (jI (((8 * one + (k + 1)) : Nat) : Int))), (8, .int (jI ((t : Nat) : Int))), (0, .ref e0), (1, .ref q0), (2, .ref v0), (3, .ref u0), (4, .ref w0), (5, .ref y0), (6, .int (jI ((one : Nat) : Int))), (7, .int (jI (((15 * one) : Nat) : Int)))]) hx hb dL_goes_478 hl (k := 0) rfl (jI_inc (8 * one + k)) (by decide) rfl (fun ls hl => ?_)
              refine lv_goto (tgt := 105) hx hb dL_goes_481 (by decide) ?_
              refine ih (k + 1) fw fy H locs ls (by omega) (by omega) hra hrb ha (inn_skip hin (fun q => hz q.1)) ?_ hP hD hS (lv_sub hl [0, 1, 2, 3, 4, 5, 6, 7, 8, 9] rfl)
              intro j h1 h2 h3
              have h3 : (M j 0).val < t ∨ ((M j 0).val = t ∧ j < k + 1) := h3
              have hjk : j = k → ¬ (M j 0).val = t := fun q => by rw [q]; exact hz
              exact houts j h1 h2 (by
                show (M j 0).val < t ∨ ((M j 0).val = t ∧ j < k)
                by_cases q : j = k
                · have := hjk q
                  omega
                · omega)
      have hout0 : YOs P B M dr n fy (fun j => (M j 0).val < t ∨ ((M j 0).val = t ∧ j < 0)) := fun j h1 h2 h3 => houts j h1 h2 (by have h3 : (M j 0).val < t ∨ ((M j 0).val = t ∧ j < 0) := h3; show _ < t; omega)
      by_cases h0 : t = 0
      · have hs0 : s5 fw = B := by
          rcases hcur with ⟨-, h9⟩ | ⟨u, h9, -⟩
          · exact h9
          · omega
        have hah : ahd P B M dr n t = some (s5at (put5at fw (t + 1) (s5 fw)) (t + 1)) := by
          rw [s5at_put, hs0, h0]; rfl
        refine lv_iload hx hb dL_goes_41 (lv_at hl 0 rfl) ?_
        refine lv_aload_n hx hb dL_goes_43 rfl (lv_at hl 1 rfl) ?_
        refine lv_iload hx hb dL_goes_44 (lv_at hl 8 rfl) ?_
        refine n_bipush hx hb dL_goes_46 (by decide) ?_
        refine n_iadd hx hb dL_goes_48 ?_
        refine n_ialdv (i := ((15 * one) + 12)) (v := ((T : Nat) : Int)) hx hb hK hP 0 0 rfl htI (by omega) (by omega) (Nat.le_of_ble_eq_true rfl) hE12 dL_goes_49 ?_
        refine n_icmp_gt (tgt := 547) hx hb (by unfold r32; omega) (by unfold r32; omega) dL_goes_50 (by decide) (fun h50 => False.elim (by omega)) (fun h50 => ?_)
        refine lv_iload hx hb dL_goes_53 (lv_at hl 0 rfl) ?_
        refine n_if_le (tgt := 66) hx hb (by unfold r32; omega) dL_goes_55 (by decide) (fun h55 => ?_) (fun h55 => False.elim (by omega))
        refine n_iconst hx hb dL_goes_66 ?_
        refine lv_istore (lv' := [(9, .int (jI 0)), (8, .int (jI ((t : Nat) : Int))), (0, .ref e0), (1, .ref q0), (2, .ref v0), (3, .ref u0), (4, .ref w0), (5, .ref y0), (6, .int (jI ((one : Nat) : Int))), (7, .int (jI (((15 * one) : Nat) : Int)))]) hx hb dL_goes_67 hl (by decide) rfl (fun ls hl => ?_)
        refine lv_iload hx hb dL_goes_69 (lv_at hl 0 rfl) ?_
        refine n_iconst hx hb dL_goes_71 ?_
        refine n_icmp_ge (tgt := 98) hx hb (by unfold r32; decide) (by unfold r32; decide) dL_goes_72 (by decide) (fun h72 => False.elim (by revert h72; decide)) (fun h72 => ?_)
        refine lv_aload hx hb dL_goes_75 (lv_at hl 6 rfl) ?_
        refine n_iconst hx hb dL_goes_77 ?_
        refine n_iconst hx hb dL_goes_78 ?_
        refine lv_iload hx hb dL_goes_79 (lv_at hl 1 rfl) ?_
        refine n_imul hx hb dL_goes_81 ?_
        refine n_iadd hx hb dL_goes_82 ?_
        refine lv_iload hx hb dL_goes_83 (lv_at hl 0 rfl) ?_
        refine n_iadd hx hb dL_goes_85 ?_
        refine lv_aload hx hb dL_goes_86 (lv_at hl 6 rfl) ?_
        refine lv_iload hx hb dL_goes_88 (lv_at hl 0 rfl) ?_
        refine n_lald (i := 0) hx hb hK hP 4 1 rfl htJ rfl (Nat.le_of_ble_eq_true rfl) (Nat.le_of_ble_eq_true rfl) dL_goes_90 ?_
        refine n_zlast (i := (5 * (t + 1) + 0)) (x := (fw 0)) hx hb hK hP hD hS 4 1 rfl htJ (by omega) (by omega) (Nat.le_of_ble_eq_true rfl) dL_goes_91 (fun H locs hP hD hS => ?_)
        have hP : va_P D vwCl [(e0, .inl (cI, 45, .inl (fun i => jI (fe i)))), (q0, .inl (cJ, 16, .inr (.inl (fun i => jL (fq i))))), (v0, .inl (cJ, 16, .inr (.inl (fun i => jL (fv i))))), (u0, .inl (cJ, 16, .inr (.inl (fun i => jL (fu i))))), (w0, .inl (cJ, 60, .inr (.inl (fun i => vL ((va_up fw (5 * (t + 1) + 0) (fw 0)) i))))), (y0, .inl (cJ, 32, .inr (.inl (fun i => vL (fy i)))))] H := hP
        have hD : va_D A [(e0, .inl (cI, 45, .inl (fun i => jI (fe i)))), (q0, .inl (cJ, 16, .inr (.inl (fun i => jL (fq i))))), (v0, .inl (cJ, 16, .inr (.inl (fun i => jL (fv i))))), (u0, .inl (cJ, 16, .inr (.inl (fun i => jL (fu i))))), (w0, .inl (cJ, 60, .inr (.inl (fun i => vL ((va_up fw (5 * (t + 1) + 0) (fw 0)) i))))), (y0, .inl (cJ, 32, .inr (.inl (fun i => vL (fy i)))))] := hD
        refine lv_iinc (v := jI 1) (lv' := [(9, .int (jI 1)), (8, .int (jI ((t : Nat) : Int))), (0, .ref e0), (1, .ref q0), (2, .ref v0), (3, .ref u0), (4, .ref w0), (5, .ref y0), (6, .int (jI ((one : Nat) : Int))), (7, .int (jI (((15 * one) : Nat) : Int)))]) hx hb dL_goes_92 hl (k := 0) rfl (jI_add 0 1) (by decide) rfl (fun ls hl => ?_)
        refine lv_goto (tgt := 69) hx hb dL_goes_95 (by decide) ?_
        refine lv_iload hx hb dL_goes_69 (lv_at hl 0 rfl) ?_
        refine n_iconst hx hb dL_goes_71 ?_
        refine n_icmp_ge (tgt := 98) hx hb (by unfold r32; decide) (by unfold r32; decide) dL_goes_72 (by decide) (fun h72 => False.elim (by revert h72; decide)) (fun h72 => ?_)
        refine lv_aload hx hb dL_goes_75 (lv_at hl 6 rfl) ?_
        refine n_iconst hx hb dL_goes_77 ?_
        refine n_iconst hx hb dL_goes_78 ?_
        refine lv_iload hx hb dL_goes_79 (lv_at hl 1 rfl) ?_
        refine n_imul hx hb dL_goes_81 ?_
        refine n_iadd hx hb dL_goes_82 ?_
        refine lv_iload hx hb dL_goes_83 (lv_at hl 0 rfl) ?_
        refine n_iadd hx hb dL_goes_85 ?_
        refine lv_aload hx hb dL_goes_86 (lv_at hl 6 rfl) ?_
        refine lv_iload hx hb dL_goes_88 (lv_at hl 0 rfl) ?_
        refine n_laldv (i := 1) (v := (zv (fw 1))) hx hb hK hP 4 1 rfl htJ rfl (Nat.le_of_ble_eq_true rfl) (Nat.le_of_ble_eq_true rfl) (congrArg zv (up_o _ _ (by omega))) dL_goes_90 ?_
        refine n_zlast (i := (5 * (t + 1) + 1)) (x := (fw 1)) hx hb hK hP hD hS 4 1 rfl htJ (by omega) (by omega) (Nat.le_of_ble_eq_true rfl) dL_goes_91 (fun H locs hP hD hS => ?_)
        have hP : va_P D vwCl [(e0, .inl (cI, 45, .inl (fun i => jI (fe i)))), (q0, .inl (cJ, 16, .inr (.inl (fun i => jL (fq i))))), (v0, .inl (cJ, 16, .inr (.inl (fun i => jL (fv i))))), (u0, .inl (cJ, 16, .inr (.inl (fun i => jL (fu i))))), (w0, .inl (cJ, 60, .inr (.inl (fun i => vL ((va_up (va_up fw (5 * (t + 1) + 0) (fw 0)) (5 * (t + 1) + 1) (fw 1)) i))))), (y0, .inl (cJ, 32, .inr (.inl (fun i => vL (fy i)))))] H := hP
        have hD : va_D A [(e0, .inl (cI, 45, .inl (fun i => jI (fe i)))), (q0, .inl (cJ, 16, .inr (.inl (fun i => jL (fq i))))), (v0, .inl (cJ, 16, .inr (.inl (fun i => jL (fv i))))), (u0, .inl (cJ, 16, .inr (.inl (fun i => jL (fu i))))), (w0, .inl (cJ, 60, .inr (.inl (fun i => vL ((va_up (va_up fw (5 * (t + 1) + 0) (fw 0)) (5 * (t + 1) + 1) (fw 1)) i))))), (y0, .inl (cJ, 32, .inr (.inl (fun i => vL (fy i)))))] := hD
        refine lv_iinc (v := jI 2) (lv' := [(9, .int (jI 2)), (8, .int (jI ((t : Nat) : Int))), (0, .ref e0), (1, .ref q0), (2, .ref v0), (3, .ref u0), (4, .ref w0), (5, .ref y0), (6, .int (jI ((one : Nat) : Int))), (7, .int (jI (((15 * one) : Nat) : Int)))]) hx hb dL_goes_92 hl (k := 0) rfl (jI_add 1 1) (by decide) rfl (fun ls hl => ?_)
        refine lv_goto (tgt := 69) hx hb dL_goes_95 (by decide) ?_
        refine lv_iload hx hb dL_goes_69 (lv_at hl 0 rfl) ?_
        refine n_iconst hx hb dL_goes_71 ?_
        refine n_icmp_ge (tgt := 98) hx hb (by unfold r32; decide) (by unfold r32; decide) dL_goes_72 (by decide) (fun h72 => False.elim (by revert h72; decide)) (fun h72 => ?_)
        refine lv_aload hx hb dL_goes_75 (lv_at hl 6 rfl) ?_
        refine n_iconst hx hb dL_goes_77 ?_
        refine n_iconst hx hb dL_goes_78 ?_
        refine lv_iload hx hb dL_goes_79 (lv_at hl 1 rfl) ?_
        refine n_imul hx hb dL_goes_81 ?_
        refine n_iadd hx hb dL_goes_82 ?_
        refine lv_iload hx hb dL_goes_83 (lv_at hl 0 rfl) ?_
        refine n_iadd hx hb dL_goes_85 ?_
        refine lv_aload hx hb dL_goes_86 (lv_at hl 6 rfl) ?_
        refine lv_iload hx hb dL_goes_88 (lv_at hl 0 rfl) ?_
        refine n_laldv (i := 2) (v := (zv (fw 2))) hx hb hK hP 4 1 rfl htJ rfl (Nat.le_of_ble_eq_true rfl) (Nat.le_of_ble_eq_true rfl) (congrArg zv ((up_o _ _ (by omega)).trans (up_o _ _ (by omega)))) dL_goes_90 ?_
        refine n_zlast (i := (5 * (t + 1) + 2)) (x := (fw 2)) hx hb hK hP hD hS 4 1 rfl htJ (by omega) (by omega) (Nat.le_of_ble_eq_true rfl) dL_goes_91 (fun H locs hP hD hS => ?_)
        have hP : va_P D vwCl [(e0, .inl (cI, 45, .inl (fun i => jI (fe i)))), (q0, .inl (cJ, 16, .inr (.inl (fun i => jL (fq i))))), (v0, .inl (cJ, 16, .inr (.inl (fun i => jL (fv i))))), (u0, .inl (cJ, 16, .inr (.inl (fun i => jL (fu i))))), (w0, .inl (cJ, 60, .inr (.inl (fun i => vL ((va_up (va_up (va_up fw (5 * (t + 1) + 0) (fw 0)) (5 * (t + 1) + 1) (fw 1)) (5 * (t + 1) + 2) (fw 2)) i))))), (y0, .inl (cJ, 32, .inr (.inl (fun i => vL (fy i)))))] H := hP
        have hD : va_D A [(e0, .inl (cI, 45, .inl (fun i => jI (fe i)))), (q0, .inl (cJ, 16, .inr (.inl (fun i => jL (fq i))))), (v0, .inl (cJ, 16, .inr (.inl (fun i => jL (fv i))))), (u0, .inl (cJ, 16, .inr (.inl (fun i => jL (fu i))))), (w0, .inl (cJ, 60, .inr (.inl (fun i => vL ((va_up (va_up (va_up fw (5 * (t + 1) + 0) (fw 0)) (5 * (t + 1) + 1) (fw 1)) (5 * (t + 1) + 2) (fw 2)) i))))), (y0, .inl (cJ, 32, .inr (.inl (fun i => vL (fy i)))))] := hD
        refine lv_iinc (v := jI 3) (lv' := [(9, .int (jI 3)), (8, .int (jI ((t : Nat) : Int))), (0, .ref e0), (1, .ref q0), (2, .ref v0), (3, .ref u0), (4, .ref w0), (5, .ref y0), (6, .int (jI ((one : Nat) : Int))), (7, .int (jI (((15 * one) : Nat) : Int)))]) hx hb dL_goes_92 hl (k := 0) rfl (jI_add 2 1) (by decide) rfl (fun ls hl => ?_)
        refine lv_goto (tgt := 69) hx hb dL_goes_95 (by decide) ?_
        refine lv_iload hx hb dL_goes_69 (lv_at hl 0 rfl) ?_
        refine n_iconst hx hb dL_goes_71 ?_
        refine n_icmp_ge (tgt := 98) hx hb (by unfold r32; decide) (by unfold r32; decide) dL_goes_72 (by decide) (fun h72 => False.elim (by revert h72; decide)) (fun h72 => ?_)
        refine lv_aload hx hb dL_goes_75 (lv_at hl 6 rfl) ?_
        refine n_iconst hx hb dL_goes_77 ?_
        refine n_iconst hx hb dL_goes_78 ?_
        refine lv_iload hx hb dL_goes_79 (lv_at hl 1 rfl) ?_
        refine n_imul hx hb dL_goes_81 ?_
        refine n_iadd hx hb dL_goes_82 ?_
        refine lv_iload hx hb dL_goes_83 (lv_at hl 0 rfl) ?_
        refine n_iadd hx hb dL_goes_85 ?_
        refine lv_aload hx hb dL_goes_86 (lv_at hl 6 rfl) ?_
        refine lv_iload hx hb dL_goes_88 (lv_at hl 0 rfl) ?_
        refine n_laldv (i := 3) (v := (zv (fw 3))) hx hb hK hP 4 1 rfl htJ rfl (Nat.le_of_ble_eq_true rfl) (Nat.le_of_ble_eq_true rfl) (congrArg zv ((up_o _ _ (by omega)).trans ((up_o _ _ (by omega)).trans (up_o _ _ (by omega))))) dL_goes_90 ?_
        refine n_zlast (i := (5 * (t + 1) + 3)) (x := (fw 3)) hx hb hK hP hD hS 4 1 rfl htJ (by omega) (by omega) (Nat.le_of_ble_eq_true rfl) dL_goes_91 (fun H locs hP hD hS => ?_)
        have hP : va_P D vwCl [(e0, .inl (cI, 45, .inl (fun i => jI (fe i)))), (q0, .inl (cJ, 16, .inr (.inl (fun i => jL (fq i))))), (v0, .inl (cJ, 16, .inr (.inl (fun i => jL (fv i))))), (u0, .inl (cJ, 16, .inr (.inl (fun i => jL (fu i))))), (w0, .inl (cJ, 60, .inr (.inl (fun i => vL ((va_up (va_up (va_up (va_up fw (5 * (t + 1) + 0) (fw 0)) (5 * (t + 1) + 1) (fw 1)) (5 * (t + 1) + 2) (fw 2)) (5 * (t + 1) + 3) (fw 3)) i))))), (y0, .inl (cJ, 32, .inr (.inl (fun i => vL (fy i)))))] H := hP
        have hD : va_D A [(e0, .inl (cI, 45, .inl (fun i => jI (fe i)))), (q0, .inl (cJ, 16, .inr (.inl (fun i => jL (fq i))))), (v0, .inl (cJ, 16, .inr (.inl (fun i => jL (fv i))))), (u0, .inl (cJ, 16, .inr (.inl (fun i => jL (fu i))))), (w0, .inl (cJ, 60, .inr (.inl (fun i => vL ((va_up (va_up (va_up (va_up fw (5 * (t + 1) + 0) (fw 0)) (5 * (t + 1) + 1) (fw 1)) (5 * (t + 1) + 2) (fw 2)) (5 * (t + 1) + 3) (fw 3)) i))))), (y0, .inl (cJ, 32, .inr (.inl (fun i => vL (fy i)))))] := hD
        refine lv_iinc (v := jI 4) (lv' := [(9, .int (jI 4)), (8, .int (jI ((t : Nat) : Int))), (0, .ref e0), (1, .ref q0), (2, .ref v0), (3, .ref u0), (4, .ref w0), (5, .ref y0), (6, .int (jI ((one : Nat) : Int))), (7, .int (jI (((15 * one) : Nat) : Int)))]) hx hb dL_goes_92 hl (k := 0) rfl (jI_add 3 1) (by decide) rfl (fun ls hl => ?_)
        refine lv_goto (tgt := 69) hx hb dL_goes_95 (by decide) ?_
        refine lv_iload hx hb dL_goes_69 (lv_at hl 0 rfl) ?_
        refine n_iconst hx hb dL_goes_71 ?_
        refine n_icmp_ge (tgt := 98) hx hb (by unfold r32; decide) (by unfold r32; decide) dL_goes_72 (by decide) (fun h72 => False.elim (by revert h72; decide)) (fun h72 => ?_)
        refine lv_aload hx hb dL_goes_75 (lv_at hl 6 rfl) ?_
        refine n_iconst hx hb dL_goes_77 ?_
        refine n_iconst hx hb dL_goes_78 ?_
        refine lv_iload hx hb dL_goes_79 (lv_at hl 1 rfl) ?_
        refine n_imul hx hb dL_goes_81 ?_
        refine n_iadd hx hb dL_goes_82 ?_
        refine lv_iload hx hb dL_goes_83 (lv_at hl 0 rfl) ?_
        refine n_iadd hx hb dL_goes_85 ?_
        refine lv_aload hx hb dL_goes_86 (lv_at hl 6 rfl) ?_
        refine lv_iload hx hb dL_goes_88 (lv_at hl 0 rfl) ?_
        refine n_laldv (i := 4) (v := (zv (fw 4))) hx hb hK hP 4 1 rfl htJ rfl (Nat.le_of_ble_eq_true rfl) (Nat.le_of_ble_eq_true rfl) (congrArg zv ((up_o _ _ (by omega)).trans ((up_o _ _ (by omega)).trans ((up_o _ _ (by omega)).trans (up_o _ _ (by omega)))))) dL_goes_90 ?_
        refine n_zlast (i := (5 * (t + 1) + 4)) (x := (fw 4)) hx hb hK hP hD hS 4 1 rfl htJ (by omega) (by omega) (Nat.le_of_ble_eq_true rfl) dL_goes_91 (fun H locs hP hD hS => ?_)
        have hP : va_P D vwCl [(e0, .inl (cI, 45, .inl (fun i => jI (fe i)))), (q0, .inl (cJ, 16, .inr (.inl (fun i => jL (fq i))))), (v0, .inl (cJ, 16, .inr (.inl (fun i => jL (fv i))))), (u0, .inl (cJ, 16, .inr (.inl (fun i => jL (fu i))))), (w0, .inl (cJ, 60, .inr (.inl (fun i => vL ((va_up (va_up (va_up (va_up (va_up fw (5 * (t + 1) + 0) (fw 0)) (5 * (t + 1) + 1) (fw 1)) (5 * (t + 1) + 2) (fw 2)) (5 * (t + 1) + 3) (fw 3)) (5 * (t + 1) + 4) (fw 4)) i))))), (y0, .inl (cJ, 32, .inr (.inl (fun i => vL (fy i)))))] H := hP
        have hD : va_D A [(e0, .inl (cI, 45, .inl (fun i => jI (fe i)))), (q0, .inl (cJ, 16, .inr (.inl (fun i => jL (fq i))))), (v0, .inl (cJ, 16, .inr (.inl (fun i => jL (fv i))))), (u0, .inl (cJ, 16, .inr (.inl (fun i => jL (fu i))))), (w0, .inl (cJ, 60, .inr (.inl (fun i => vL ((va_up (va_up (va_up (va_up (va_up fw (5 * (t + 1) + 0) (fw 0)) (5 * (t + 1) + 1) (fw 1)) (5 * (t + 1) + 2) (fw 2)) (5 * (t + 1) + 3) (fw 3)) (5 * (t + 1) + 4) (fw 4)) i))))), (y0, .inl (cJ, 32, .inr (.inl (fun i => vL (fy i)))))] := hD
        refine lv_iinc (v := jI 5) (lv' := [(9, .int (jI 5)), (8, .int (jI ((t : Nat) : Int))), (0, .ref e0), (1, .ref q0), (2, .ref v0), (3, .ref u0), (4, .ref w0), (5, .ref y0), (6, .int (jI ((one : Nat) : Int))), (7, .int (jI (((15 * one) : Nat) : Int)))]) hx hb dL_goes_92 hl (k := 0) rfl (jI_add 4 1) (by decide) rfl (fun ls hl => ?_)
        refine lv_goto (tgt := 69) hx hb dL_goes_95 (by decide) ?_
        refine lv_iload hx hb dL_goes_69 (lv_at hl 0 rfl) ?_
        refine n_iconst hx hb dL_goes_71 ?_
        refine n_icmp_ge (tgt := 98) hx hb (by unfold r32; decide) (by unfold r32; decide) dL_goes_72 (by decide) (fun h72 => ?_) (fun h72 => False.elim (by revert h72; decide))
        refine n_bipush hx hb dL_goes_98 (by decide) ?_
        refine lv_iload hx hb dL_goes_100 (lv_at hl 8 rfl) ?_
        refine n_imul hx hb dL_goes_102 ?_
        rw [hk0]
        refine lv_istore (lv' := [(9, .int (jI (((8 * one + 0) : Nat) : Int))), (8, .int (jI ((t : Nat) : Int))), (0, .ref e0), (1, .ref q0), (2, .ref v0), (3, .ref u0), (4, .ref w0), (5, .ref y0), (6, .int (jI ((one : Nat) : Int))), (7, .int (jI (((15 * one) : Nat) : Int)))]) hx hb dL_goes_103 hl (by decide) rfl (fun ls hl => ?_)
        refine inner (n + 1) 0 (put5at fw (t + 1) (s5 fw)) fy H locs ls (by omega) (by omega) ?_ ?_ hah ?_ hout0 hP hD hS (lv_sub hl [0, 1, 2, 3, 4, 5, 6, 7, 8, 9] rfl)
        · intro u hu
          have : u = t := by omega
          subst this
          exact hah
        · intro u hu hu4; omega
        · rw [s5_far _ (by omega), s5at_put]; rfl
      · obtain ⟨u, hu1, hu2⟩ : ∃ u, t = u + 1 ∧ beh P B M dr n u = some (s5 fw) := by
          rcases hcur with ⟨h9, -⟩ | h9
          · exact absurd h9 h0
          · exact h9
        have hah : ahd P B M dr n t = some (s5at (put5at (pw fw (prd P (s5 fw))) (t + 1) (s5 (pw fw (prd P (s5 fw))))) (t + 1)) := by
          rw [s5at_put, s5_pw, hu1]
          show (beh P B M dr n u).bind _ = _
          rw [hu2]; rfl
        refine lv_iload hx hb dL_goes_41 (lv_at hl 0 rfl) ?_
        refine lv_aload_n hx hb dL_goes_43 rfl (lv_at hl 1 rfl) ?_
        refine lv_iload hx hb dL_goes_44 (lv_at hl 8 rfl) ?_
        refine n_bipush hx hb dL_goes_46 (by decide) ?_
        refine n_iadd hx hb dL_goes_48 ?_
        refine n_ialdv (i := ((15 * one) + 12)) (v := ((T : Nat) : Int)) hx hb hK hP 0 0 rfl htI (by omega) (by omega) (Nat.le_of_ble_eq_true rfl) hE12 dL_goes_49 ?_
        refine n_icmp_gt (tgt := 547) hx hb (by unfold r32; omega) (by unfold r32; omega) dL_goes_50 (by decide) (fun h50 => False.elim (by omega)) (fun h50 => ?_)
        refine lv_iload hx hb dL_goes_53 (lv_at hl 0 rfl) ?_
        refine n_if_le (tgt := 66) hx hb (by unfold r32; omega) dL_goes_55 (by decide) (fun h55 => False.elim (by omega)) (fun h55 => ?_)
        refine lv_aload_n hx hb dL_goes_58 rfl (lv_at hl 1 rfl) ?_
        refine lv_iload hx hb dL_goes_59 (lv_at hl 8 rfl) ?_
        refine lv_aload hx hb dL_goes_61 (lv_at hl 5 rfl) ?_
        have ct63 := c_L_predicts l D tys htI htJ e0 w0 (15 * one) fe fw P (by omega) hEP
        refine k_goV (va_runS (As := [.ref e0, .int (jI (((15 * one) : Nat) : Int)), .ref w0]) (rest := []) ⟨hx, hb, hml, hown, hts⟩ (ct63.2 _) (va_cwS 3 hts gL_goes_L_predicts rfl rfl rfl (by decide +kernel) ⟨Nat.le_of_ble_eq_true rfl, Nat.le_of_ble_eq_true rfl⟩) (k_pre hK hP hD (is := [0, 4]) rfl rfl) rfl rfl hl.1 rfl (lv_room (Nat.le_of_ble_eq_true rfl)) dL_goes_63 ⟨Nat.le_of_ble_eq_true rfl, Nat.le_of_ble_eq_true rfl⟩) ct63.1 hP hD hS hA [0, 4] rfl rfl (fun H locs hP hD hS => ?_)
        have hP : va_P D vwCl [(e0, .inl (cI, 45, .inl (fun i => jI (fe i)))), (q0, .inl (cJ, 16, .inr (.inl (fun i => jL (fq i))))), (v0, .inl (cJ, 16, .inr (.inl (fun i => jL (fv i))))), (u0, .inl (cJ, 16, .inr (.inl (fun i => jL (fu i))))), (w0, .inl (cJ, 60, .inr (.inl (fun i => vL ((pw fw (prd P (s5 fw))) i))))), (y0, .inl (cJ, 32, .inr (.inl (fun i => vL (fy i)))))] H := hP
        have hD : va_D A [(e0, .inl (cI, 45, .inl (fun i => jI (fe i)))), (q0, .inl (cJ, 16, .inr (.inl (fun i => jL (fq i))))), (v0, .inl (cJ, 16, .inr (.inl (fun i => jL (fv i))))), (u0, .inl (cJ, 16, .inr (.inl (fun i => jL (fu i))))), (w0, .inl (cJ, 60, .inr (.inl (fun i => vL ((pw fw (prd P (s5 fw))) i))))), (y0, .inl (cJ, 32, .inr (.inl (fun i => vL (fy i)))))] := hD
        refine n_iconst hx hb dL_goes_66 ?_
        refine lv_istore (lv' := [(9, .int (jI 0)), (8, .int (jI ((t : Nat) : Int))), (0, .ref e0), (1, .ref q0), (2, .ref v0), (3, .ref u0), (4, .ref w0), (5, .ref y0), (6, .int (jI ((one : Nat) : Int))), (7, .int (jI (((15 * one) : Nat) : Int)))]) hx hb dL_goes_67 hl (by decide) rfl (fun ls hl => ?_)
        refine lv_iload hx hb dL_goes_69 (lv_at hl 0 rfl) ?_
        refine n_iconst hx hb dL_goes_71 ?_
        refine n_icmp_ge (tgt := 98) hx hb (by unfold r32; decide) (by unfold r32; decide) dL_goes_72 (by decide) (fun h72 => False.elim (by revert h72; decide)) (fun h72 => ?_)
        refine lv_aload hx hb dL_goes_75 (lv_at hl 6 rfl) ?_
        refine n_iconst hx hb dL_goes_77 ?_
        refine n_iconst hx hb dL_goes_78 ?_
        refine lv_iload hx hb dL_goes_79 (lv_at hl 1 rfl) ?_
        refine n_imul hx hb dL_goes_81 ?_
        refine n_iadd hx hb dL_goes_82 ?_
        refine lv_iload hx hb dL_goes_83 (lv_at hl 0 rfl) ?_
        refine n_iadd hx hb dL_goes_85 ?_
        refine lv_aload hx hb dL_goes_86 (lv_at hl 6 rfl) ?_
        refine lv_iload hx hb dL_goes_88 (lv_at hl 0 rfl) ?_
        refine n_lald (i := 0) hx hb hK hP 4 1 rfl htJ rfl (Nat.le_of_ble_eq_true rfl) (Nat.le_of_ble_eq_true rfl) dL_goes_90 ?_
        refine n_zlast (i := (5 * (t + 1) + 0)) (x := ((pw fw (prd P (s5 fw))) 0)) hx hb hK hP hD hS 4 1 rfl htJ (by omega) (by omega) (Nat.le_of_ble_eq_true rfl) dL_goes_91 (fun H locs hP hD hS => ?_)
        have hP : va_P D vwCl [(e0, .inl (cI, 45, .inl (fun i => jI (fe i)))), (q0, .inl (cJ, 16, .inr (.inl (fun i => jL (fq i))))), (v0, .inl (cJ, 16, .inr (.inl (fun i => jL (fv i))))), (u0, .inl (cJ, 16, .inr (.inl (fun i => jL (fu i))))), (w0, .inl (cJ, 60, .inr (.inl (fun i => vL ((va_up (pw fw (prd P (s5 fw))) (5 * (t + 1) + 0) ((pw fw (prd P (s5 fw))) 0)) i))))), (y0, .inl (cJ, 32, .inr (.inl (fun i => vL (fy i)))))] H := hP
        have hD : va_D A [(e0, .inl (cI, 45, .inl (fun i => jI (fe i)))), (q0, .inl (cJ, 16, .inr (.inl (fun i => jL (fq i))))), (v0, .inl (cJ, 16, .inr (.inl (fun i => jL (fv i))))), (u0, .inl (cJ, 16, .inr (.inl (fun i => jL (fu i))))), (w0, .inl (cJ, 60, .inr (.inl (fun i => vL ((va_up (pw fw (prd P (s5 fw))) (5 * (t + 1) + 0) ((pw fw (prd P (s5 fw))) 0)) i))))), (y0, .inl (cJ, 32, .inr (.inl (fun i => vL (fy i)))))] := hD
        refine lv_iinc (v := jI 1) (lv' := [(9, .int (jI 1)), (8, .int (jI ((t : Nat) : Int))), (0, .ref e0), (1, .ref q0), (2, .ref v0), (3, .ref u0), (4, .ref w0), (5, .ref y0), (6, .int (jI ((one : Nat) : Int))), (7, .int (jI (((15 * one) : Nat) : Int)))]) hx hb dL_goes_92 hl (k := 0) rfl (jI_add 0 1) (by decide) rfl (fun ls hl => ?_)
        refine lv_goto (tgt := 69) hx hb dL_goes_95 (by decide) ?_
        refine lv_iload hx hb dL_goes_69 (lv_at hl 0 rfl) ?_
        refine n_iconst hx hb dL_goes_71 ?_
        refine n_icmp_ge (tgt := 98) hx hb (by unfold r32; decide) (by unfold r32; decide) dL_goes_72 (by decide) (fun h72 => False.elim (by revert h72; decide)) (fun h72 => ?_)
        refine lv_aload hx hb dL_goes_75 (lv_at hl 6 rfl) ?_
        refine n_iconst hx hb dL_goes_77 ?_
        refine n_iconst hx hb dL_goes_78 ?_
        refine lv_iload hx hb dL_goes_79 (lv_at hl 1 rfl) ?_
        refine n_imul hx hb dL_goes_81 ?_
        refine n_iadd hx hb dL_goes_82 ?_
        refine lv_iload hx hb dL_goes_83 (lv_at hl 0 rfl) ?_
        refine n_iadd hx hb dL_goes_85 ?_
        refine lv_aload hx hb dL_goes_86 (lv_at hl 6 rfl) ?_
        refine lv_iload hx hb dL_goes_88 (lv_at hl 0 rfl) ?_
        refine n_laldv (i := 1) (v := (zv ((pw fw (prd P (s5 fw))) 1))) hx hb hK hP 4 1 rfl htJ rfl (Nat.le_of_ble_eq_true rfl) (Nat.le_of_ble_eq_true rfl) (congrArg zv (up_o _ _ (by omega))) dL_goes_90 ?_
        refine n_zlast (i := (5 * (t + 1) + 1)) (x := ((pw fw (prd P (s5 fw))) 1)) hx hb hK hP hD hS 4 1 rfl htJ (by omega) (by omega) (Nat.le_of_ble_eq_true rfl) dL_goes_91 (fun H locs hP hD hS => ?_)
        have hP : va_P D vwCl [(e0, .inl (cI, 45, .inl (fun i => jI (fe i)))), (q0, .inl (cJ, 16, .inr (.inl (fun i => jL (fq i))))), (v0, .inl (cJ, 16, .inr (.inl (fun i => jL (fv i))))), (u0, .inl (cJ, 16, .inr (.inl (fun i => jL (fu i))))), (w0, .inl (cJ, 60, .inr (.inl (fun i => vL ((va_up (va_up (pw fw (prd P (s5 fw))) (5 * (t + 1) + 0) ((pw fw (prd P (s5 fw))) 0)) (5 * (t + 1) + 1) ((pw fw (prd P (s5 fw))) 1)) i))))), (y0, .inl (cJ, 32, .inr (.inl (fun i => vL (fy i)))))] H := hP
        have hD : va_D A [(e0, .inl (cI, 45, .inl (fun i => jI (fe i)))), (q0, .inl (cJ, 16, .inr (.inl (fun i => jL (fq i))))), (v0, .inl (cJ, 16, .inr (.inl (fun i => jL (fv i))))), (u0, .inl (cJ, 16, .inr (.inl (fun i => jL (fu i))))), (w0, .inl (cJ, 60, .inr (.inl (fun i => vL ((va_up (va_up (pw fw (prd P (s5 fw))) (5 * (t + 1) + 0) ((pw fw (prd P (s5 fw))) 0)) (5 * (t + 1) + 1) ((pw fw (prd P (s5 fw))) 1)) i))))), (y0, .inl (cJ, 32, .inr (.inl (fun i => vL (fy i)))))] := hD
        refine lv_iinc (v := jI 2) (lv' := [(9, .int (jI 2)), (8, .int (jI ((t : Nat) : Int))), (0, .ref e0), (1, .ref q0), (2, .ref v0), (3, .ref u0), (4, .ref w0), (5, .ref y0), (6, .int (jI ((one : Nat) : Int))), (7, .int (jI (((15 * one) : Nat) : Int)))]) hx hb dL_goes_92 hl (k := 0) rfl (jI_add 1 1) (by decide) rfl (fun ls hl => ?_)
        refine lv_goto (tgt := 69) hx hb dL_goes_95 (by decide) ?_
        refine lv_iload hx hb dL_goes_69 (lv_at hl 0 rfl) ?_
        refine n_iconst hx hb dL_goes_71 ?_
        refine n_icmp_ge (tgt := 98) hx hb (by unfold r32; decide) (by unfold r32; decide) dL_goes_72 (by decide) (fun h72 => False.elim (by revert h72; decide)) (fun h72 => ?_)
        refine lv_aload hx hb dL_goes_75 (lv_at hl 6 rfl) ?_
        refine n_iconst hx hb dL_goes_77 ?_
        refine n_iconst hx hb dL_goes_78 ?_
        refine lv_iload hx hb dL_goes_79 (lv_at hl 1 rfl) ?_
        refine n_imul hx hb dL_goes_81 ?_
        refine n_iadd hx hb dL_goes_82 ?_
        refine lv_iload hx hb dL_goes_83 (lv_at hl 0 rfl) ?_
        refine n_iadd hx hb dL_goes_85 ?_
        refine lv_aload hx hb dL_goes_86 (lv_at hl 6 rfl) ?_
        refine lv_iload hx hb dL_goes_88 (lv_at hl 0 rfl) ?_
        refine n_laldv (i := 2) (v := (zv ((pw fw (prd P (s5 fw))) 2))) hx hb hK hP 4 1 rfl htJ rfl (Nat.le_of_ble_eq_true rfl) (Nat.le_of_ble_eq_true rfl) (congrArg zv ((up_o _ _ (by omega)).trans (up_o _ _ (by omega)))) dL_goes_90 ?_
        refine n_zlast (i := (5 * (t + 1) + 2)) (x := ((pw fw (prd P (s5 fw))) 2)) hx hb hK hP hD hS 4 1 rfl htJ (by omega) (by omega) (Nat.le_of_ble_eq_true rfl) dL_goes_91 (fun H locs hP hD hS => ?_)
        have hP : va_P D vwCl [(e0, .inl (cI, 45, .inl (fun i => jI (fe i)))), (q0, .inl (cJ, 16, .inr (.inl (fun i => jL (fq i))))), (v0, .inl (cJ, 16, .inr (.inl (fun i => jL (fv i))))), (u0, .inl (cJ, 16, .inr (.inl (fun i => jL (fu i))))), (w0, .inl (cJ, 60, .inr (.inl (fun i => vL ((va_up (va_up (va_up (pw fw (prd P (s5 fw))) (5 * (t + 1) + 0) ((pw fw (prd P (s5 fw))) 0)) (5 * (t + 1) + 1) ((pw fw (prd P (s5 fw))) 1)) (5 * (t + 1) + 2) ((pw fw (prd P (s5 fw))) 2)) i))))), (y0, .inl (cJ, 32, .inr (.inl (fun i => vL (fy i)))))] H := hP
        have hD : va_D A [(e0, .inl (cI, 45, .inl (fun i => jI (fe i)))), (q0, .inl (cJ, 16, .inr (.inl (fun i => jL (fq i))))), (v0, .inl (cJ, 16, .inr (.inl (fun i => jL (fv i))))), (u0, .inl (cJ, 16, .inr (.inl (fun i => jL (fu i))))), (w0, .inl (cJ, 60, .inr (.inl (fun i => vL ((va_up (va_up (va_up (pw fw (prd P (s5 fw))) (5 * (t + 1) + 0) ((pw fw (prd P (s5 fw))) 0)) (5 * (t + 1) + 1) ((pw fw (prd P (s5 fw))) 1)) (5 * (t + 1) + 2) ((pw fw (prd P (s5 fw))) 2)) i))))), (y0, .inl (cJ, 32, .inr (.inl (fun i => vL (fy i)))))] := hD
        refine lv_iinc (v := jI 3) (lv' := [(9, .int (jI 3)), (8, .int (jI ((t : Nat) : Int))), (0, .ref e0), (1, .ref q0), (2, .ref v0), (3, .ref u0), (4, .ref w0), (5, .ref y0), (6, .int (jI ((one : Nat) : Int))), (7, .int (jI (((15 * one) : Nat) : Int)))]) hx hb dL_goes_92 hl (k := 0) rfl (jI_add 2 1) (by decide) rfl (fun ls hl => ?_)
        refine lv_goto (tgt := 69) hx hb dL_goes_95 (by decide) ?_
        refine lv_iload hx hb dL_goes_69 (lv_at hl 0 rfl) ?_
        refine n_iconst hx hb dL_goes_71 ?_
        refine n_icmp_ge (tgt := 98) hx hb (by unfold r32; decide) (by unfold r32; decide) dL_goes_72 (by decide) (fun h72 => False.elim (by revert h72; decide)) (fun h72 => ?_)
        refine lv_aload hx hb dL_goes_75 (lv_at hl 6 rfl) ?_
        refine n_iconst hx hb dL_goes_77 ?_
        refine n_iconst hx hb dL_goes_78 ?_
        refine lv_iload hx hb dL_goes_79 (lv_at hl 1 rfl) ?_
        refine n_imul hx hb dL_goes_81 ?_
        refine n_iadd hx hb dL_goes_82 ?_
        refine lv_iload hx hb dL_goes_83 (lv_at hl 0 rfl) ?_
        refine n_iadd hx hb dL_goes_85 ?_
        refine lv_aload hx hb dL_goes_86 (lv_at hl 6 rfl) ?_
        refine lv_iload hx hb dL_goes_88 (lv_at hl 0 rfl) ?_
        refine n_laldv (i := 3) (v := (zv ((pw fw (prd P (s5 fw))) 3))) hx hb hK hP 4 1 rfl htJ rfl (Nat.le_of_ble_eq_true rfl) (Nat.le_of_ble_eq_true rfl) (congrArg zv ((up_o _ _ (by omega)).trans ((up_o _ _ (by omega)).trans (up_o _ _ (by omega))))) dL_goes_90 ?_
        refine n_zlast (i := (5 * (t + 1) + 3)) (x := ((pw fw (prd P (s5 fw))) 3)) hx hb hK hP hD hS 4 1 rfl htJ (by omega) (by omega) (Nat.le_of_ble_eq_true rfl) dL_goes_91 (fun H locs hP hD hS => ?_)
        have hP : va_P D vwCl [(e0, .inl (cI, 45, .inl (fun i => jI (fe i)))), (q0, .inl (cJ, 16, .inr (.inl (fun i => jL (fq i))))), (v0, .inl (cJ, 16, .inr (.inl (fun i => jL (fv i))))), (u0, .inl (cJ, 16, .inr (.inl (fun i => jL (fu i))))), (w0, .inl (cJ, 60, .inr (.inl (fun i => vL ((va_up (va_up (va_up (va_up (pw fw (prd P (s5 fw))) (5 * (t + 1) + 0) ((pw fw (prd P (s5 fw))) 0)) (5 * (t + 1) + 1) ((pw fw (prd P (s5 fw))) 1)) (5 * (t + 1) + 2) ((pw fw (prd P (s5 fw))) 2)) (5 * (t + 1) + 3) ((pw fw (prd P (s5 fw))) 3)) i))))), (y0, .inl (cJ, 32, .inr (.inl (fun i => vL (fy i)))))] H := hP
        have hD : va_D A [(e0, .inl (cI, 45, .inl (fun i => jI (fe i)))), (q0, .inl (cJ, 16, .inr (.inl (fun i => jL (fq i))))), (v0, .inl (cJ, 16, .inr (.inl (fun i => jL (fv i))))), (u0, .inl (cJ, 16, .inr (.inl (fun i => jL (fu i))))), (w0, .inl (cJ, 60, .inr (.inl (fun i => vL ((va_up (va_up (va_up (va_up (pw fw (prd P (s5 fw))) (5 * (t + 1) + 0) ((pw fw (prd P (s5 fw))) 0)) (5 * (t + 1) + 1) ((pw fw (prd P (s5 fw))) 1)) (5 * (t + 1) + 2) ((pw fw (prd P (s5 fw))) 2)) (5 * (t + 1) + 3) ((pw fw (prd P (s5 fw))) 3)) i))))), (y0, .inl (cJ, 32, .inr (.inl (fun i => vL (fy i)))))] := hD
        refine lv_iinc (v := jI 4) (lv' := [(9, .int (jI 4)), (8, .int (jI ((t : Nat) : Int))), (0, .ref e0), (1, .ref q0), (2, .ref v0), (3, .ref u0), (4, .ref w0), (5, .ref y0), (6, .int (jI ((one : Nat) : Int))), (7, .int (jI (((15 * one) : Nat) : Int)))]) hx hb dL_goes_92 hl (k := 0) rfl (jI_add 3 1) (by decide) rfl (fun ls hl => ?_)
        refine lv_goto (tgt := 69) hx hb dL_goes_95 (by decide) ?_
        refine lv_iload hx hb dL_goes_69 (lv_at hl 0 rfl) ?_
        refine n_iconst hx hb dL_goes_71 ?_
        refine n_icmp_ge (tgt := 98) hx hb (by unfold r32; decide) (by unfold r32; decide) dL_goes_72 (by decide) (fun h72 => False.elim (by revert h72; decide)) (fun h72 => ?_)
        refine lv_aload hx hb dL_goes_75 (lv_at hl 6 rfl) ?_
        refine n_iconst hx hb dL_goes_77 ?_
        refine n_iconst hx hb dL_goes_78 ?_
        refine lv_iload hx hb dL_goes_79 (lv_at hl 1 rfl) ?_
        refine n_imul hx hb dL_goes_81 ?_
        refine n_iadd hx hb dL_goes_82 ?_
        refine lv_iload hx hb dL_goes_83 (lv_at hl 0 rfl) ?_
        refine n_iadd hx hb dL_goes_85 ?_
        refine lv_aload hx hb dL_goes_86 (lv_at hl 6 rfl) ?_
        refine lv_iload hx hb dL_goes_88 (lv_at hl 0 rfl) ?_
        refine n_laldv (i := 4) (v := (zv ((pw fw (prd P (s5 fw))) 4))) hx hb hK hP 4 1 rfl htJ rfl (Nat.le_of_ble_eq_true rfl) (Nat.le_of_ble_eq_true rfl) (congrArg zv ((up_o _ _ (by omega)).trans ((up_o _ _ (by omega)).trans ((up_o _ _ (by omega)).trans (up_o _ _ (by omega)))))) dL_goes_90 ?_
        refine n_zlast (i := (5 * (t + 1) + 4)) (x := ((pw fw (prd P (s5 fw))) 4)) hx hb hK hP hD hS 4 1 rfl htJ (by omega) (by omega) (Nat.le_of_ble_eq_true rfl) dL_goes_91 (fun H locs hP hD hS => ?_)
        have hP : va_P D vwCl [(e0, .inl (cI, 45, .inl (fun i => jI (fe i)))), (q0, .inl (cJ, 16, .inr (.inl (fun i => jL (fq i))))), (v0, .inl (cJ, 16, .inr (.inl (fun i => jL (fv i))))), (u0, .inl (cJ, 16, .inr (.inl (fun i => jL (fu i))))), (w0, .inl (cJ, 60, .inr (.inl (fun i => vL ((va_up (va_up (va_up (va_up (va_up (pw fw (prd P (s5 fw))) (5 * (t + 1) + 0) ((pw fw (prd P (s5 fw))) 0)) (5 * (t + 1) + 1) ((pw fw (prd P (s5 fw))) 1)) (5 * (t + 1) + 2) ((pw fw (prd P (s5 fw))) 2)) (5 * (t + 1) + 3) ((pw fw (prd P (s5 fw))) 3)) (5 * (t + 1) + 4) ((pw fw (prd P (s5 fw))) 4)) i))))), (y0, .inl (cJ, 32, .inr (.inl (fun i => vL (fy i)))))] H := hP
        have hD : va_D A [(e0, .inl (cI, 45, .inl (fun i => jI (fe i)))), (q0, .inl (cJ, 16, .inr (.inl (fun i => jL (fq i))))), (v0, .inl (cJ, 16, .inr (.inl (fun i => jL (fv i))))), (u0, .inl (cJ, 16, .inr (.inl (fun i => jL (fu i))))), (w0, .inl (cJ, 60, .inr (.inl (fun i => vL ((va_up (va_up (va_up (va_up (va_up (pw fw (prd P (s5 fw))) (5 * (t + 1) + 0) ((pw fw (prd P (s5 fw))) 0)) (5 * (t + 1) + 1) ((pw fw (prd P (s5 fw))) 1)) (5 * (t + 1) + 2) ((pw fw (prd P (s5 fw))) 2)) (5 * (t + 1) + 3) ((pw fw (prd P (s5 fw))) 3)) (5 * (t + 1) + 4) ((pw fw (prd P (s5 fw))) 4)) i))))), (y0, .inl (cJ, 32, .inr (.inl (fun i => vL (fy i)))))] := hD
        refine lv_iinc (v := jI 5) (lv' := [(9, .int (jI 5)), (8, .int (jI ((t : Nat) : Int))), (0, .ref e0), (1, .ref q0), (2, .ref v0), (3, .ref u0), (4, .ref w0), (5, .ref y0), (6, .int (jI ((one : Nat) : Int))), (7, .int (jI (((15 * one) : Nat) : Int)))]) hx hb dL_goes_92 hl (k := 0) rfl (jI_add 4 1) (by decide) rfl (fun ls hl => ?_)
        refine lv_goto (tgt := 69) hx hb dL_goes_95 (by decide) ?_
        refine lv_iload hx hb dL_goes_69 (lv_at hl 0 rfl) ?_
        refine n_iconst hx hb dL_goes_71 ?_
        refine n_icmp_ge (tgt := 98) hx hb (by unfold r32; decide) (by unfold r32; decide) dL_goes_72 (by decide) (fun h72 => ?_) (fun h72 => False.elim (by revert h72; decide))
        refine n_bipush hx hb dL_goes_98 (by decide) ?_
        refine lv_iload hx hb dL_goes_100 (lv_at hl 8 rfl) ?_
        refine n_imul hx hb dL_goes_102 ?_
        rw [hk0]
        refine lv_istore (lv' := [(9, .int (jI (((8 * one + 0) : Nat) : Int))), (8, .int (jI ((t : Nat) : Int))), (0, .ref e0), (1, .ref q0), (2, .ref v0), (3, .ref u0), (4, .ref w0), (5, .ref y0), (6, .int (jI ((one : Nat) : Int))), (7, .int (jI (((15 * one) : Nat) : Int)))]) hx hb dL_goes_103 hl (by decide) rfl (fun ls hl => ?_)
        refine inner (n + 1) 0 (put5at (pw fw (prd P (s5 fw))) (t + 1) (s5 (pw fw (prd P (s5 fw))))) fy H locs ls (by omega) (by omega) ?_ ?_ hah ?_ hout0 hP hD hS (lv_sub hl [0, 1, 2, 3, 4, 5, 6, 7, 8, 9] rfl)
        · intro v hv
          by_cases hvt : v = t
          · subst hvt
            exact hah
          · rw [s5at_ne _ (by omega), s5at_pw _ _ (by omega)]
            exact hra v (by omega)
        · intro v hv hv4
          rw [s5at_ne _ (by omega), s5at_pw _ _ (by omega)]
          exact hrb v hv hv4
        · rw [s5_far _ (by omega), s5at_put]; rfl
  refine n_bipush hx hb dL_goes_0 (by decide) ?_
  refine lv_iload hx hb dL_goes_2 (lv_at hl 6 rfl) ?_
  refine n_imul hx hb dL_goes_4 ?_
  rw [hat]
  refine lv_istore (lv' := [(7, .int (jI (((15 * one) : Nat) : Int))), (0, .ref e0), (1, .ref q0), (2, .ref v0), (3, .ref u0), (4, .ref w0), (5, .ref y0), (6, .int (jI ((one : Nat) : Int)))]) hx hb dL_goes_5 hl (by decide) rfl (fun ls hl => ?_)
  refine n_iconst hx hb dL_goes_7 ?_
  refine lv_istore (lv' := [(8, .int (jI 0)), (7, .int (jI (((15 * one) : Nat) : Int))), (0, .ref e0), (1, .ref q0), (2, .ref v0), (3, .ref u0), (4, .ref w0), (5, .ref y0), (6, .int (jI ((one : Nat) : Int)))]) hx hb dL_goes_8 hl (by decide) rfl (fun ls hl => ?_)
  refine lv_iload hx hb dL_goes_10 (lv_at hl 0 rfl) ?_
  refine n_iconst hx hb dL_goes_12 ?_
  refine n_icmp_ge (tgt := 38) hx hb (by unfold r32; decide) (by unfold r32; decide) dL_goes_13 (by decide) (fun h13 => False.elim (by revert h13; decide)) (fun h13 => ?_)
  refine lv_aload hx hb dL_goes_16 (lv_at hl 6 rfl) ?_
  refine lv_iload hx hb dL_goes_18 (lv_at hl 0 rfl) ?_
  refine lv_aload_n hx hb dL_goes_20 rfl (lv_at hl 2 rfl) ?_
  refine lv_iload hx hb dL_goes_21 (lv_at hl 1 rfl) ?_
  refine n_bipush hx hb dL_goes_23 (by decide) ?_
  refine n_iadd hx hb dL_goes_25 ?_
  refine lv_iload hx hb dL_goes_26 (lv_at hl 0 rfl) ?_
  refine n_iadd hx hb dL_goes_28 ?_
  refine n_ialdv (i := (((15 * one) + 7) + 0)) (v := (zv B.1)) hx hb hK hP 0 0 rfl htI (by omega) (by omega) (Nat.le_of_ble_eq_true rfl) hE7 dL_goes_29 ?_
  refine n_i2lZ hx hb dL_goes_30 ?_
  refine n_zlast (i := 0) (x := B.1) hx hb hK hP hD hS 4 1 rfl htJ rfl (Nat.le_of_ble_eq_true rfl) (Nat.le_of_ble_eq_true rfl) dL_goes_31 (fun H locs hP hD hS => ?_)
  have hP : va_P D vwCl [(e0, .inl (cI, 45, .inl (fun i => jI (fe i)))), (q0, .inl (cJ, 16, .inr (.inl (fun i => jL (fq i))))), (v0, .inl (cJ, 16, .inr (.inl (fun i => jL (fv i))))), (u0, .inl (cJ, 16, .inr (.inl (fun i => jL (fu i))))), (w0, .inl (cJ, 60, .inr (.inl (fun i => vL ((va_up fw 0 B.1) i))))), (y0, .inl (cJ, 32, .inr (.inl (fun i => vL (fy i)))))] H := hP
  have hD : va_D A [(e0, .inl (cI, 45, .inl (fun i => jI (fe i)))), (q0, .inl (cJ, 16, .inr (.inl (fun i => jL (fq i))))), (v0, .inl (cJ, 16, .inr (.inl (fun i => jL (fv i))))), (u0, .inl (cJ, 16, .inr (.inl (fun i => jL (fu i))))), (w0, .inl (cJ, 60, .inr (.inl (fun i => vL ((va_up fw 0 B.1) i))))), (y0, .inl (cJ, 32, .inr (.inl (fun i => vL (fy i)))))] := hD
  refine lv_iinc (v := jI 1) (lv' := [(8, .int (jI 1)), (7, .int (jI (((15 * one) : Nat) : Int))), (0, .ref e0), (1, .ref q0), (2, .ref v0), (3, .ref u0), (4, .ref w0), (5, .ref y0), (6, .int (jI ((one : Nat) : Int)))]) hx hb dL_goes_32 hl (k := 0) rfl (jI_add 0 1) (by decide) rfl (fun ls hl => ?_)
  refine lv_goto (tgt := 10) hx hb dL_goes_35 (by decide) ?_
  refine lv_iload hx hb dL_goes_10 (lv_at hl 0 rfl) ?_
  refine n_iconst hx hb dL_goes_12 ?_
  refine n_icmp_ge (tgt := 38) hx hb (by unfold r32; decide) (by unfold r32; decide) dL_goes_13 (by decide) (fun h13 => False.elim (by revert h13; decide)) (fun h13 => ?_)
  refine lv_aload hx hb dL_goes_16 (lv_at hl 6 rfl) ?_
  refine lv_iload hx hb dL_goes_18 (lv_at hl 0 rfl) ?_
  refine lv_aload_n hx hb dL_goes_20 rfl (lv_at hl 2 rfl) ?_
  refine lv_iload hx hb dL_goes_21 (lv_at hl 1 rfl) ?_
  refine n_bipush hx hb dL_goes_23 (by decide) ?_
  refine n_iadd hx hb dL_goes_25 ?_
  refine lv_iload hx hb dL_goes_26 (lv_at hl 0 rfl) ?_
  refine n_iadd hx hb dL_goes_28 ?_
  refine n_ialdv (i := (((15 * one) + 7) + 1)) (v := (zv B.2.1)) hx hb hK hP 0 0 rfl htI (by omega) (by omega) (Nat.le_of_ble_eq_true rfl) hE8 dL_goes_29 ?_
  refine n_i2lZ hx hb dL_goes_30 ?_
  refine n_zlast (i := 1) (x := B.2.1) hx hb hK hP hD hS 4 1 rfl htJ rfl (Nat.le_of_ble_eq_true rfl) (Nat.le_of_ble_eq_true rfl) dL_goes_31 (fun H locs hP hD hS => ?_)
  have hP : va_P D vwCl [(e0, .inl (cI, 45, .inl (fun i => jI (fe i)))), (q0, .inl (cJ, 16, .inr (.inl (fun i => jL (fq i))))), (v0, .inl (cJ, 16, .inr (.inl (fun i => jL (fv i))))), (u0, .inl (cJ, 16, .inr (.inl (fun i => jL (fu i))))), (w0, .inl (cJ, 60, .inr (.inl (fun i => vL ((va_up (va_up fw 0 B.1) 1 B.2.1) i))))), (y0, .inl (cJ, 32, .inr (.inl (fun i => vL (fy i)))))] H := hP
  have hD : va_D A [(e0, .inl (cI, 45, .inl (fun i => jI (fe i)))), (q0, .inl (cJ, 16, .inr (.inl (fun i => jL (fq i))))), (v0, .inl (cJ, 16, .inr (.inl (fun i => jL (fv i))))), (u0, .inl (cJ, 16, .inr (.inl (fun i => jL (fu i))))), (w0, .inl (cJ, 60, .inr (.inl (fun i => vL ((va_up (va_up fw 0 B.1) 1 B.2.1) i))))), (y0, .inl (cJ, 32, .inr (.inl (fun i => vL (fy i)))))] := hD
  refine lv_iinc (v := jI 2) (lv' := [(8, .int (jI 2)), (7, .int (jI (((15 * one) : Nat) : Int))), (0, .ref e0), (1, .ref q0), (2, .ref v0), (3, .ref u0), (4, .ref w0), (5, .ref y0), (6, .int (jI ((one : Nat) : Int)))]) hx hb dL_goes_32 hl (k := 0) rfl (jI_add 1 1) (by decide) rfl (fun ls hl => ?_)
  refine lv_goto (tgt := 10) hx hb dL_goes_35 (by decide) ?_
  refine lv_iload hx hb dL_goes_10 (lv_at hl 0 rfl) ?_
  refine n_iconst hx hb dL_goes_12 ?_
  refine n_icmp_ge (tgt := 38) hx hb (by unfold r32; decide) (by unfold r32; decide) dL_goes_13 (by decide) (fun h13 => False.elim (by revert h13; decide)) (fun h13 => ?_)
  refine lv_aload hx hb dL_goes_16 (lv_at hl 6 rfl) ?_
  refine lv_iload hx hb dL_goes_18 (lv_at hl 0 rfl) ?_
  refine lv_aload_n hx hb dL_goes_20 rfl (lv_at hl 2 rfl) ?_
  refine lv_iload hx hb dL_goes_21 (lv_at hl 1 rfl) ?_
  refine n_bipush hx hb dL_goes_23 (by decide) ?_
  refine n_iadd hx hb dL_goes_25 ?_
  refine lv_iload hx hb dL_goes_26 (lv_at hl 0 rfl) ?_
  refine n_iadd hx hb dL_goes_28 ?_
  refine n_ialdv (i := (((15 * one) + 7) + 2)) (v := (zv B.2.2.1)) hx hb hK hP 0 0 rfl htI (by omega) (by omega) (Nat.le_of_ble_eq_true rfl) hE9 dL_goes_29 ?_
  refine n_i2lZ hx hb dL_goes_30 ?_
  refine n_zlast (i := 2) (x := B.2.2.1) hx hb hK hP hD hS 4 1 rfl htJ rfl (Nat.le_of_ble_eq_true rfl) (Nat.le_of_ble_eq_true rfl) dL_goes_31 (fun H locs hP hD hS => ?_)
  have hP : va_P D vwCl [(e0, .inl (cI, 45, .inl (fun i => jI (fe i)))), (q0, .inl (cJ, 16, .inr (.inl (fun i => jL (fq i))))), (v0, .inl (cJ, 16, .inr (.inl (fun i => jL (fv i))))), (u0, .inl (cJ, 16, .inr (.inl (fun i => jL (fu i))))), (w0, .inl (cJ, 60, .inr (.inl (fun i => vL ((va_up (va_up (va_up fw 0 B.1) 1 B.2.1) 2 B.2.2.1) i))))), (y0, .inl (cJ, 32, .inr (.inl (fun i => vL (fy i)))))] H := hP
  have hD : va_D A [(e0, .inl (cI, 45, .inl (fun i => jI (fe i)))), (q0, .inl (cJ, 16, .inr (.inl (fun i => jL (fq i))))), (v0, .inl (cJ, 16, .inr (.inl (fun i => jL (fv i))))), (u0, .inl (cJ, 16, .inr (.inl (fun i => jL (fu i))))), (w0, .inl (cJ, 60, .inr (.inl (fun i => vL ((va_up (va_up (va_up fw 0 B.1) 1 B.2.1) 2 B.2.2.1) i))))), (y0, .inl (cJ, 32, .inr (.inl (fun i => vL (fy i)))))] := hD
  refine lv_iinc (v := jI 3) (lv' := [(8, .int (jI 3)), (7, .int (jI (((15 * one) : Nat) : Int))), (0, .ref e0), (1, .ref q0), (2, .ref v0), (3, .ref u0), (4, .ref w0), (5, .ref y0), (6, .int (jI ((one : Nat) : Int)))]) hx hb dL_goes_32 hl (k := 0) rfl (jI_add 2 1) (by decide) rfl (fun ls hl => ?_)
  refine lv_goto (tgt := 10) hx hb dL_goes_35 (by decide) ?_
  refine lv_iload hx hb dL_goes_10 (lv_at hl 0 rfl) ?_
  refine n_iconst hx hb dL_goes_12 ?_
  refine n_icmp_ge (tgt := 38) hx hb (by unfold r32; decide) (by unfold r32; decide) dL_goes_13 (by decide) (fun h13 => False.elim (by revert h13; decide)) (fun h13 => ?_)
  refine lv_aload hx hb dL_goes_16 (lv_at hl 6 rfl) ?_
  refine lv_iload hx hb dL_goes_18 (lv_at hl 0 rfl) ?_
  refine lv_aload_n hx hb dL_goes_20 rfl (lv_at hl 2 rfl) ?_
  refine lv_iload hx hb dL_goes_21 (lv_at hl 1 rfl) ?_
  refine n_bipush hx hb dL_goes_23 (by decide) ?_
  refine n_iadd hx hb dL_goes_25 ?_
  refine lv_iload hx hb dL_goes_26 (lv_at hl 0 rfl) ?_
  refine n_iadd hx hb dL_goes_28 ?_
  refine n_ialdv (i := (((15 * one) + 7) + 3)) (v := (zv B.2.2.2.1)) hx hb hK hP 0 0 rfl htI (by omega) (by omega) (Nat.le_of_ble_eq_true rfl) hE10 dL_goes_29 ?_
  refine n_i2lZ hx hb dL_goes_30 ?_
  refine n_zlast (i := 3) (x := B.2.2.2.1) hx hb hK hP hD hS 4 1 rfl htJ rfl (Nat.le_of_ble_eq_true rfl) (Nat.le_of_ble_eq_true rfl) dL_goes_31 (fun H locs hP hD hS => ?_)
  have hP : va_P D vwCl [(e0, .inl (cI, 45, .inl (fun i => jI (fe i)))), (q0, .inl (cJ, 16, .inr (.inl (fun i => jL (fq i))))), (v0, .inl (cJ, 16, .inr (.inl (fun i => jL (fv i))))), (u0, .inl (cJ, 16, .inr (.inl (fun i => jL (fu i))))), (w0, .inl (cJ, 60, .inr (.inl (fun i => vL ((va_up (va_up (va_up (va_up fw 0 B.1) 1 B.2.1) 2 B.2.2.1) 3 B.2.2.2.1) i))))), (y0, .inl (cJ, 32, .inr (.inl (fun i => vL (fy i)))))] H := hP
  have hD : va_D A [(e0, .inl (cI, 45, .inl (fun i => jI (fe i)))), (q0, .inl (cJ, 16, .inr (.inl (fun i => jL (fq i))))), (v0, .inl (cJ, 16, .inr (.inl (fun i => jL (fv i))))), (u0, .inl (cJ, 16, .inr (.inl (fun i => jL (fu i))))), (w0, .inl (cJ, 60, .inr (.inl (fun i => vL ((va_up (va_up (va_up (va_up fw 0 B.1) 1 B.2.1) 2 B.2.2.1) 3 B.2.2.2.1) i))))), (y0, .inl (cJ, 32, .inr (.inl (fun i => vL (fy i)))))] := hD
  refine lv_iinc (v := jI 4) (lv' := [(8, .int (jI 4)), (7, .int (jI (((15 * one) : Nat) : Int))), (0, .ref e0), (1, .ref q0), (2, .ref v0), (3, .ref u0), (4, .ref w0), (5, .ref y0), (6, .int (jI ((one : Nat) : Int)))]) hx hb dL_goes_32 hl (k := 0) rfl (jI_add 3 1) (by decide) rfl (fun ls hl => ?_)
  refine lv_goto (tgt := 10) hx hb dL_goes_35 (by decide) ?_
  refine lv_iload hx hb dL_goes_10 (lv_at hl 0 rfl) ?_
  refine n_iconst hx hb dL_goes_12 ?_
  refine n_icmp_ge (tgt := 38) hx hb (by unfold r32; decide) (by unfold r32; decide) dL_goes_13 (by decide) (fun h13 => False.elim (by revert h13; decide)) (fun h13 => ?_)
  refine lv_aload hx hb dL_goes_16 (lv_at hl 6 rfl) ?_
  refine lv_iload hx hb dL_goes_18 (lv_at hl 0 rfl) ?_
  refine lv_aload_n hx hb dL_goes_20 rfl (lv_at hl 2 rfl) ?_
  refine lv_iload hx hb dL_goes_21 (lv_at hl 1 rfl) ?_
  refine n_bipush hx hb dL_goes_23 (by decide) ?_
  refine n_iadd hx hb dL_goes_25 ?_
  refine lv_iload hx hb dL_goes_26 (lv_at hl 0 rfl) ?_
  refine n_iadd hx hb dL_goes_28 ?_
  refine n_ialdv (i := (((15 * one) + 7) + 4)) (v := (zv B.2.2.2.2)) hx hb hK hP 0 0 rfl htI (by omega) (by omega) (Nat.le_of_ble_eq_true rfl) hE11 dL_goes_29 ?_
  refine n_i2lZ hx hb dL_goes_30 ?_
  refine n_zlast (i := 4) (x := B.2.2.2.2) hx hb hK hP hD hS 4 1 rfl htJ rfl (Nat.le_of_ble_eq_true rfl) (Nat.le_of_ble_eq_true rfl) dL_goes_31 (fun H locs hP hD hS => ?_)
  have hP : va_P D vwCl [(e0, .inl (cI, 45, .inl (fun i => jI (fe i)))), (q0, .inl (cJ, 16, .inr (.inl (fun i => jL (fq i))))), (v0, .inl (cJ, 16, .inr (.inl (fun i => jL (fv i))))), (u0, .inl (cJ, 16, .inr (.inl (fun i => jL (fu i))))), (w0, .inl (cJ, 60, .inr (.inl (fun i => vL ((va_up (va_up (va_up (va_up (va_up fw 0 B.1) 1 B.2.1) 2 B.2.2.1) 3 B.2.2.2.1) 4 B.2.2.2.2) i))))), (y0, .inl (cJ, 32, .inr (.inl (fun i => vL (fy i)))))] H := hP
  have hD : va_D A [(e0, .inl (cI, 45, .inl (fun i => jI (fe i)))), (q0, .inl (cJ, 16, .inr (.inl (fun i => jL (fq i))))), (v0, .inl (cJ, 16, .inr (.inl (fun i => jL (fv i))))), (u0, .inl (cJ, 16, .inr (.inl (fun i => jL (fu i))))), (w0, .inl (cJ, 60, .inr (.inl (fun i => vL ((va_up (va_up (va_up (va_up (va_up fw 0 B.1) 1 B.2.1) 2 B.2.2.1) 3 B.2.2.2.1) 4 B.2.2.2.2) i))))), (y0, .inl (cJ, 32, .inr (.inl (fun i => vL (fy i)))))] := hD
  refine lv_iinc (v := jI 5) (lv' := [(8, .int (jI 5)), (7, .int (jI (((15 * one) : Nat) : Int))), (0, .ref e0), (1, .ref q0), (2, .ref v0), (3, .ref u0), (4, .ref w0), (5, .ref y0), (6, .int (jI ((one : Nat) : Int)))]) hx hb dL_goes_32 hl (k := 0) rfl (jI_add 4 1) (by decide) rfl (fun ls hl => ?_)
  refine lv_goto (tgt := 10) hx hb dL_goes_35 (by decide) ?_
  refine lv_iload hx hb dL_goes_10 (lv_at hl 0 rfl) ?_
  refine n_iconst hx hb dL_goes_12 ?_
  refine n_icmp_ge (tgt := 38) hx hb (by unfold r32; decide) (by unfold r32; decide) dL_goes_13 (by decide) (fun h13 => ?_) (fun h13 => False.elim (by revert h13; decide))
  refine n_iconst hx hb dL_goes_38 ?_
  refine lv_istore (lv' := [(8, .int (jI 0)), (7, .int (jI (((15 * one) : Nat) : Int))), (0, .ref e0), (1, .ref q0), (2, .ref v0), (3, .ref u0), (4, .ref w0), (5, .ref y0), (6, .int (jI ((one : Nat) : Int)))]) hx hb dL_goes_39 hl (by decide) rfl (fun ls hl => ?_)
  exact outer (T + 2) 0 (put5 fw B) fy H locs ls (by omega) (by omega) (Or.inl ⟨rfl, rfl⟩) (fun u hu => absurd hu (Nat.not_lt_zero u)) (fun u hu => absurd hu (Nat.not_lt_zero u)) (fun k _ _ h => absurd h (Nat.not_lt_zero _)) hP hD hS (lv_sub hl [0, 2, 3, 4, 5, 6, 7, 8, 1] rfl)
