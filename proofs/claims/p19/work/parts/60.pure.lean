theorem inn_take {M : Nat → Nat → Zp} {dr : Nat → Bool} {t k : Nat} {x s : S5} (h : inn M dr t k x = some s) (h1 : (M k 0).val = t) (h2 : dr k = false) : inn M dr t (k + 1) x = tk (M k) s := by
  show (inn M dr t k x).bind _ = _
  rw [h]
  show mst M dr t k s = _
  unfold mst
  rw [if_pos ⟨h1, h2⟩]
theorem inn_skip {M : Nat → Nat → Zp} {dr : Nat → Bool} {t k : Nat} {x s : S5} (h : inn M dr t k x = some s) (h1 : ¬ ((M k 0).val = t ∧ dr k = false)) : inn M dr t (k + 1) x = some s := by
  show (inn M dr t k x).bind _ = _
  rw [h]
  show mst M dr t k s = _
  unfold mst
  rw [if_neg h1]
def det5 (s : S5) : Zp := s.2.2.1 * s.2.2.2.2 - s.2.2.2.1 * s.2.2.2.1
/-- P inverted, x as it is -/
def inv5 (s : S5) : S5 := (s.1, s.2.1, s.2.2.2.2 * zinv (det5 s), 0 - s.2.2.2.1 * zinv (det5 s), s.2.2.1 * zinv (det5 s))
/-- x becomes P times x -/
def tim5 (s : S5) : S5 := (s.2.2.1 * s.1 + s.2.2.2.1 * s.2.1, s.2.2.2.1 * s.1 + s.2.2.2.2 * s.2.1, s.2.2.1, s.2.2.2.1, s.2.2.2.2)
def comp5 (s : S5) : Nat → Zp
  | 0 => s.1
  | 1 => s.2.1
  | 2 => s.2.2.1
  | 3 => s.2.2.2.1
  | _ => s.2.2.2.2
/-- a measurement that would be: h, r -/
def mrow (h j r : Zp) : Nat → Zp := fun c => if c = 1 then h else if c = 2 then j else if c = 4 then r else 0
def gnR (h j r : Zp) (s : S5) (wh : Nat) : Int32 := vI ((if wh = 0 then ph0 (mrow h j r) s else ph1 (mrow h j r) s) * zinv (mS (mrow h j r) s))
/-- a measurement added to the information form -/
def inf1 (m : Nat → Zp) (s : S5) : S5 := (s.1 + m 1 * (m 3 * zinv (m 4)), s.2.1 + m 2 * (m 3 * zinv (m 4)), s.2.2.1 + m 1 * zinv (m 4) * m 1, s.2.2.2.1 + m 1 * zinv (m 4) * m 2, s.2.2.2.2 + m 2 * zinv (m 4) * m 2)
def sst (M : Nat → Nat → Zp) (dr gt : Nat → Bool) (t k : Nat) (s : S5) : Option S5 := if (M k 0).val = t ∧ dr k = false ∧ gt k = false then (if M k 4 = 0 then none else some (inf1 (M k) s)) else some s
def sinn (M : Nat → Nat → Zp) (dr gt : Nat → Bool) (t : Nat) : Nat → S5 → Option S5
  | 0, s => some s
  | k + 1, s => (sinn M dr gt t k s).bind (sst M dr gt t k)
/-- P inverted, and x times that; if it can be -/
def flip5 (s : S5) : Option S5 := if det5 s = 0 then none else some (tim5 (inv5 s))
def sprd (P : Nat → Zp) (s : S5) : Option S5 := (flip5 s).bind (fun x => flip5 (prd P x))
def secw (P : Nat → Zp) (B : S5) (M : Nat → Nat → Zp) (dr gt : Nat → Bool) (n : Nat) : Nat → Option S5
  | 0 => (flip5 B).bind (sinn M dr gt 0 n)
  | t + 1 => ((secw P B M dr gt n t).bind (sprd P)).bind (sinn M dr gt (t + 1) n)
def secd (P : Nat → Zp) (B : S5) (M : Nat → Nat → Zp) (dr gt : Nat → Bool) (n T : Nat) : Option S5 := (secw P B M dr gt n T).bind flip5
theorem sinn_none {M : Nat → Nat → Zp} {dr gt : Nat → Bool} {t : Nat} {s : S5} {k : Nat} (h : sinn M dr gt t k s = none) : ∀ j, sinn M dr gt t (k + j) s = none
  | 0 => h
  | j + 1 => by
    show (sinn M dr gt t (k + j) s).bind _ = none
    rw [sinn_none h j]; rfl
theorem secw_none {P : Nat → Zp} {B : S5} {M : Nat → Nat → Zp} {dr gt : Nat → Bool} {n t : Nat} (h : secw P B M dr gt n t = none) : ∀ j, secw P B M dr gt n (t + j) = none
  | 0 => h
  | j + 1 => by
    show ((secw P B M dr gt n (t + j)).bind _).bind _ = none
    rw [secw_none h j]; rfl
theorem secd_none {P : Nat → Zp} {B : S5} {M : Nat → Nat → Zp} {dr gt : Nat → Bool} {n t T : Nat} (h : secw P B M dr gt n t = none) (ht : t ≤ T) : secd P B M dr gt n T = none := by
  have h2 := secw_none h (T - t)
  rw [show t + (T - t) = T by omega] at h2
  show (secw P B M dr gt n T).bind _ = none
  rw [h2]; rfl
/-- one step of smoothing: a ahead of the later time, b behind this one's, x the smoothed state of the later one -/
def smx (P : Nat → Zp) (a b : S5) (x : Zp × Zp) : Zp × Zp :=
  let q := tim5 (inv5 (x.1 - a.1, x.2 - a.2.1, a.2.2))
  let u := P 0 * q.1 + P 2 * q.2.1
  let w := P 1 * q.1 + P 3 * q.2.1
  (b.2.2.1 * u + b.2.2.2.1 * w + b.1, b.2.2.2.1 * u + b.2.2.2.2 * w + b.2.1)
def smo (P : Nat → Zp) (B : S5) (M : Nat → Nat → Zp) (dr : Nat → Bool) (n T : Nat) : Nat → Option (Zp × Zp)
  | 0 => (beh P B M dr n T).bind (fun s => some (s.1, s.2.1))
  | i + 1 => (smo P B M dr n T i).bind (fun x => (ahd P B M dr n (T - i)).bind (fun a => (beh P B M dr n (T - i - 1)).bind (fun b => if det5 a = 0 then none else some (smx P a b x))))
theorem smo_none {P : Nat → Zp} {B : S5} {M : Nat → Nat → Zp} {dr : Nat → Bool} {n T i : Nat} (h : smo P B M dr n T i = none) : ∀ j, smo P B M dr n T (i + j) = none
  | 0 => h
  | j + 1 => by
    show (smo P B M dr n T (i + j)).bind _ = none
    rw [smo_none h j]; rfl
def itN {α : Type} (f : α → α) : Nat → α → α
  | 0, v => v
  | n + 1, v => f (itN f n v)
theorem itN_in {α : Type} (f : α → α) : ∀ (n : Nat) (v : α), itN f n (f v) = f (itN f n v)
  | 0, _ => rfl
  | n + 1, v => by
    show f (itN f n (f v)) = f (f (itN f n v))
    rw [itN_in f n v]
theorem itN_two {α : Type} {f g : α → α} (h : ∀ w, g w = f (f w)) : ∀ (n : Nat) (v : α), itN g n v = itN f (2 * n) v
  | 0, _ => rfl
  | n + 1, v => by
    show g (itN g n v) = itN f (2 * (n + 1)) v
    rw [itN_two h n v, h]
    rfl
