/-! the estimator as a value: what all forms compute -/
abbrev S5 : Type := Zp × Zp × Zp × Zp × Zp
def s5 (g : Nat → Zp) : S5 := (g 0, g 1, g 2, g 3, g 4)
def s5at (g : Nat → Zp) (t : Nat) : S5 := (g (5 * t + 0), g (5 * t + 1), g (5 * t + 2), g (5 * t + 3), g (5 * t + 4))
def put5 (g : Nat → Zp) (s : S5) : Nat → Zp := va_up (va_up (va_up (va_up (va_up g 0 s.1) 1 s.2.1) 2 s.2.2.1) 3 s.2.2.2.1) 4 s.2.2.2.2
theorem s5_put5 (g : Nat → Zp) (s : S5) : s5 (put5 g s) = s := rfl
/-- predicting: P holds F00 F01 F10 F11 Q00 Q01 Q11 -/
def prd (P : Nat → Zp) (s : S5) : S5 :=
  ((P 0 * s.1 + P 1 * s.2.1), (P 2 * s.1 + P 3 * s.2.1),
   ((P 0 * s.2.2.1 + P 1 * s.2.2.2.1) * P 0 + (P 0 * s.2.2.2.1 + P 1 * s.2.2.2.2) * P 1 + P 4),
   ((P 0 * s.2.2.1 + P 1 * s.2.2.2.1) * P 2 + (P 0 * s.2.2.2.1 + P 1 * s.2.2.2.2) * P 3 + P 5),
   ((P 2 * s.2.2.1 + P 3 * s.2.2.2.1) * P 2 + (P 2 * s.2.2.2.1 + P 3 * s.2.2.2.2) * P 3 + P 6))
/-- a measurement m: its time, h, z, r, gate -/
def ph0 (m : Nat → Zp) (s : S5) : Zp := s.2.2.1 * m 1 + s.2.2.2.1 * m 2
def ph1 (m : Nat → Zp) (s : S5) : Zp := s.2.2.2.1 * m 1 + s.2.2.2.2 * m 2
def mS (m : Nat → Zp) (s : S5) : Zp := m 1 * ph0 m s + m 2 * ph1 m s + m 4
def mY (m : Nat → Zp) (s : S5) : Zp := m 3 - (m 1 * s.1 + m 2 * s.2.1)
def mG (m : Nat → Zp) (s : S5) : Zp := mY m s * mY m s * zinv (mS m s)
def mgt (m : Nat → Zp) (s : S5) : Bool := decide (zv (m 5) < zv (mG m s))
def cor (m : Nat → Zp) (s : S5) : S5 :=
  ((s.1 + ph0 m s * (mY m s * zinv (mS m s))), (s.2.1 + ph1 m s * (mY m s * zinv (mS m s))),
   (s.2.2.1 + ph0 m s * (0 - zinv (mS m s)) * ph0 m s), (s.2.2.2.1 + ph0 m s * (0 - zinv (mS m s)) * ph1 m s), (s.2.2.2.2 + ph1 m s * (0 - zinv (mS m s)) * ph1 m s))
def tk (m : Nat → Zp) (s : S5) : Option S5 := if mS m s = 0 then none else some (if mgt m s = true then s else cor m s)
def mst (M : Nat → Nat → Zp) (dr : Nat → Bool) (t k : Nat) (s : S5) : Option S5 := if (M k 0).val = t ∧ dr k = false then tk (M k) s else some s
def inn (M : Nat → Nat → Zp) (dr : Nat → Bool) (t : Nat) : Nat → S5 → Option S5
  | 0, s => some s
  | k + 1, s => (inn M dr t k s).bind (mst M dr t k)
def beh (P : Nat → Zp) (B : S5) (M : Nat → Nat → Zp) (dr : Nat → Bool) (n : Nat) : Nat → Option S5
  | 0 => inn M dr 0 n B
  | t + 1 => (beh P B M dr n t).bind (fun s => inn M dr (t + 1) n (prd P s))
def ahd (P : Nat → Zp) (B : S5) (M : Nat → Nat → Zp) (dr : Nat → Bool) (n : Nat) : Nat → Option S5
  | 0 => some B
  | t + 1 => (beh P B M dr n t).bind (fun s => some (prd P s))
theorem beh_eq (P : Nat → Zp) (B : S5) (M : Nat → Nat → Zp) (dr : Nat → Bool) (n : Nat) : ∀ t, beh P B M dr n t = (ahd P B M dr n t).bind (inn M dr t n)
  | 0 => rfl
  | t + 1 => by
    show (beh P B M dr n t).bind _ = ((beh P B M dr n t).bind _).bind _
    cases beh P B M dr n t <;> rfl
/-- ahead of measurement k at its time: the state that it is taken at -/
def bef (P : Nat → Zp) (B : S5) (M : Nat → Nat → Zp) (dr : Nat → Bool) (n k : Nat) : Option S5 := (ahd P B M dr n (M k 0).val).bind (inn M dr (M k 0).val k)
theorem inn_none {M : Nat → Nat → Zp} {dr : Nat → Bool} {t : Nat} {s : S5} {k : Nat} (h : inn M dr t k s = none) : ∀ j, inn M dr t (k + j) s = none
  | 0 => h
  | j + 1 => by
    show (inn M dr t (k + j) s).bind _ = none
    rw [inn_none h j]; rfl
theorem inn_some {M : Nat → Nat → Zp} {dr : Nat → Bool} {t : Nat} {s r : S5} {n k : Nat} (h : inn M dr t n s = some r) (hk : k ≤ n) : ∃ q, inn M dr t k s = some q := by
  cases hq : inn M dr t k s with
  | some q => exact ⟨q, rfl⟩
  | none =>
    have h2 := inn_none hq (n - k)
    rw [show k + (n - k) = n by omega, h] at h2
    cases h2
theorem beh_none {P : Nat → Zp} {B : S5} {M : Nat → Nat → Zp} {dr : Nat → Bool} {n t : Nat} (h : beh P B M dr n t = none) : ∀ j, beh P B M dr n (t + j) = none
  | 0 => h
  | j + 1 => by
    show (beh P B M dr n (t + j)).bind _ = none
    rw [beh_none h j]; rfl
theorem beh_some {P : Nat → Zp} {B : S5} {M : Nat → Nat → Zp} {dr : Nat → Bool} {n T t : Nat} {r : S5} (h : beh P B M dr n T = some r) (hk : t ≤ T) : ∃ q, beh P B M dr n t = some q := by
  cases hq : beh P B M dr n t with
  | some q => exact ⟨q, rfl⟩
  | none =>
    have h2 := beh_none hq (T - t)
    rw [show t + (T - t) = T by omega, h] at h2
    cases h2
/-- the reference's own shapes of the same numbers -/
theorem rY_eq (m : Nat → Zp) (s : S5) : m 3 - m 1 * s.1 - m 2 * s.2.1 = mY m s := by unfold mY; grind
theorem rcor_eq (m : Nat → Zp) (s : S5) (f : Zp) (hf : f = zinv (mS m s)) :
    ((s.1 + ph0 m s * f * mY m s), (s.2.1 + ph1 m s * f * mY m s), (s.2.2.1 - ph0 m s * f * ph0 m s), (s.2.2.2.1 - ph0 m s * f * ph1 m s), (s.2.2.2.2 - ph1 m s * f * ph1 m s)) = cor m s := by
  subst hf
  unfold cor
  refine Prod.ext ?_ (Prod.ext ?_ (Prod.ext ?_ (Prod.ext ?_ ?_)))
  · show s.1 + ph0 m s * zinv (mS m s) * mY m s = _; grind
  · show s.2.1 + ph1 m s * zinv (mS m s) * mY m s = _; grind
  · show s.2.2.1 - ph0 m s * zinv (mS m s) * ph0 m s = _; grind
  · show s.2.2.2.1 - ph0 m s * zinv (mS m s) * ph1 m s = _; grind
  · show s.2.2.2.2 - ph1 m s * zinv (mS m s) * ph1 m s = _; grind
