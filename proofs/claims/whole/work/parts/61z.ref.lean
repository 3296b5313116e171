/-! the reference: taking, by values -/
def put3 (g : Nat → Zp) (k : Nat) (x y z : Zp) : Nat → Zp := va_up (va_up (va_up g (3 * k) x) (3 * k + 1) y) (3 * k + 2) z

set_option maxRecDepth 100000 in
theorem c_X7_takes0' (l : Launch) (D : va_G) (tys : List (ClassId × FieldType)) {cI cJ cZ : ClassId} (htI : tys[0]? = some (cI, .int)) (htJ : tys[1]? = some (cJ, .long)) (htZ : tys[2]? = some (cZ, .boolean)) (m0 : Nat) (a : Nat → Nat) (ms es : Nat) (th : Int32) (gK : Nat → Zp) (gW : Nat → Zp) (gF : Nat → Zp) (gX : Nat → Bool) (ev kv : Nat) (q1 : ev < 6) (q2 : kv < 30) (h9 : mS (fun c => gK (6 * (30 * ev + kv) + c)) (s5 gW) = 0) : CtI l D tys yX7_takes wsX7_takes 1 23 [.ref m0, .int (jI ((ev : Nat) : Int)), .int (jI ((kv : Nat) : Int))] (jI (iB false)) [(m0, oR (jI ((ms : Nat) : Int)) (jI ((es : Nat) : Int)) th a), ((a 6), .inl (cI, 1080, .inl (fun i => vI (gK i)))), ((a 12), .inl (cJ, 5, .inr (.inl (fun i => vL (gW i))))), ((a 10), .inl (cJ, 90, .inr (.inl (fun i => vL (gF i))))), ((a 11), .inl (cZ, 30, .inl (fun i => jI (iB (gX i)))))] [(m0, oR (jI ((ms : Nat) : Int)) (jI ((es : Nat) : Int)) th a), ((a 6), .inl (cI, 1080, .inl (fun i => vI (gK i)))), ((a 12), .inl (cJ, 5, .inr (.inl (fun i => vL (gW i))))), ((a 10), .inl (cJ, 90, .inr (.inl (fun i => vL (gF i))))), ((a 11), .inl (cZ, 30, .inl (fun i => jI (iB (gX i)))))] := by
  refine c_X7_takes0 l D tys htI htJ htZ m0 a ms es th gK gW gF gX ev kv q1 q2 (gW 2 * gK (6 * (30 * ev + kv) + 1) + gW 3 * gK (6 * (30 * ev + kv) + 2)) (gW 3 * gK (6 * (30 * ev + kv) + 1) + gW 4 * gK (6 * (30 * ev + kv) + 2)) _ (mS (fun c => gK (6 * (30 * ev + kv) + c)) (s5 gW)) _ rfl rfl rfl ?_ rfl h9
  unfold mS ph0 ph1
  rfl

set_option maxRecDepth 100000 in
theorem c_X7_takesg' (l : Launch) (D : va_G) (tys : List (ClassId × FieldType)) {cI cJ cZ : ClassId} (htI : tys[0]? = some (cI, .int)) (htJ : tys[1]? = some (cJ, .long)) (htZ : tys[2]? = some (cZ, .boolean)) (m0 : Nat) (a : Nat → Nat) (ms es : Nat) (th : Int32) (gK : Nat → Zp) (gW : Nat → Zp) (gF : Nat → Zp) (gX : Nat → Bool) (ev kv : Nat) (q1 : ev < 6) (q2 : kv < 30) (h9 : ¬ mS (fun c => gK (6 * (30 * ev + kv) + c)) (s5 gW) = 0) (h8 : mgt (fun c => gK (6 * (30 * ev + kv) + c)) (s5 gW) = true) : CtI l D tys yX7_takes wsX7_takes 2 49 [.ref m0, .int (jI ((ev : Nat) : Int)), .int (jI ((kv : Nat) : Int))] (jI (iB true)) [(m0, oR (jI ((ms : Nat) : Int)) (jI ((es : Nat) : Int)) th a), ((a 6), .inl (cI, 1080, .inl (fun i => vI (gK i)))), ((a 12), .inl (cJ, 5, .inr (.inl (fun i => vL (gW i))))), ((a 10), .inl (cJ, 90, .inr (.inl (fun i => vL (gF i))))), ((a 11), .inl (cZ, 30, .inl (fun i => jI (iB (gX i)))))] [(m0, oR (jI ((ms : Nat) : Int)) (jI ((es : Nat) : Int)) th a), ((a 6), .inl (cI, 1080, .inl (fun i => vI (gK i)))), ((a 12), .inl (cJ, 5, .inr (.inl (fun i => vL (gW i))))), ((a 10), .inl (cJ, 90, .inr (.inl (fun i => vL ((put3 gF kv (mY (fun c => gK (6 * (30 * ev + kv) + c)) (s5 gW)) (mS (fun c => gK (6 * (30 * ev + kv) + c)) (s5 gW)) (mG (fun c => gK (6 * (30 * ev + kv) + c)) (s5 gW))) i))))), ((a 11), .inl (cZ, 30, .inl (fun i => jI (iB ((va_up gX kv true) i)))))] := by
  have eY := rY_eq (fun c => gK (6 * (30 * ev + kv) + c)) (s5 gW)
  have h8 := of_decide_eq_true h8
  have h := c_X7_takesg l D tys htI htJ htZ m0 a ms es th gK gW gF gX ev kv q1 q2 _ _ _ _ _ rfl rfl eY.symm rfl rfl h9 h8
  exact h

set_option maxRecDepth 100000 in
theorem c_X7_takesc' (l : Launch) (D : va_G) (tys : List (ClassId × FieldType)) {cI cJ cZ : ClassId} (htI : tys[0]? = some (cI, .int)) (htJ : tys[1]? = some (cJ, .long)) (htZ : tys[2]? = some (cZ, .boolean)) (m0 : Nat) (a : Nat → Nat) (ms es : Nat) (th : Int32) (gK : Nat → Zp) (gW : Nat → Zp) (gF : Nat → Zp) (gX : Nat → Bool) (ev kv : Nat) (q1 : ev < 6) (q2 : kv < 30) (h9 : ¬ mS (fun c => gK (6 * (30 * ev + kv) + c)) (s5 gW) = 0) (h8 : mgt (fun c => gK (6 * (30 * ev + kv) + c)) (s5 gW) = false) : CtI l D tys yX7_takes wsX7_takes 2 49 [.ref m0, .int (jI ((ev : Nat) : Int)), .int (jI ((kv : Nat) : Int))] (jI (iB true)) [(m0, oR (jI ((ms : Nat) : Int)) (jI ((es : Nat) : Int)) th a), ((a 6), .inl (cI, 1080, .inl (fun i => vI (gK i)))), ((a 12), .inl (cJ, 5, .inr (.inl (fun i => vL (gW i))))), ((a 10), .inl (cJ, 90, .inr (.inl (fun i => vL (gF i))))), ((a 11), .inl (cZ, 30, .inl (fun i => jI (iB (gX i)))))] [(m0, oR (jI ((ms : Nat) : Int)) (jI ((es : Nat) : Int)) th a), ((a 6), .inl (cI, 1080, .inl (fun i => vI (gK i)))), ((a 12), .inl (cJ, 5, .inr (.inl (fun i => vL ((put5 gW (cor (fun c => gK (6 * (30 * ev + kv) + c)) (s5 gW))) i))))), ((a 10), .inl (cJ, 90, .inr (.inl (fun i => vL ((put3 gF kv (mY (fun c => gK (6 * (30 * ev + kv) + c)) (s5 gW)) (mS (fun c => gK (6 * (30 * ev + kv) + c)) (s5 gW)) (mG (fun c => gK (6 * (30 * ev + kv) + c)) (s5 gW))) i))))), ((a 11), .inl (cZ, 30, .inl (fun i => jI (iB ((va_up gX kv false) i)))))] := by
  have eY := rY_eq (fun c => gK (6 * (30 * ev + kv) + c)) (s5 gW)
  have h8 := of_decide_eq_false h8
  have h := c_X7_takesc l D tys htI htJ htZ m0 a ms es th gK gW gF gX ev kv q1 q2 _ _ _ _ _ rfl rfl eY.symm rfl rfl h9 h8
  rw [← rcor_eq (fun c => gK (6 * (30 * ev + kv) + c)) (s5 gW) _ rfl]
  exact h

/-- what the reference holds but its models' entries, gates and rows of far: as goes(e) sees it -/
def refW (m0 : Nat) (a : Nat → Nat) (cI cJ cZ : ClassId) (ms es : Nat) (th : Int32) (gM gB : Nat → Zp) (gT gN : Nat → Nat) (gK : Nat → Zp) (gD : Nat → Bool) (gH gU gF : Nat → Zp) (gX : Nat → Bool) (gW : Nat → Zp) : va_W := [(m0, oR (jI ((ms : Nat) : Int)) (jI ((es : Nat) : Int)) th a), ((a 1), .inl (cI, 42, .inl (fun i => vI (gM i)))), ((a 2), .inl (cI, 30, .inl (fun i => vI (gB i)))), ((a 3), .inl (cI, 6, .inl (fun i => jI ((gT i : Nat) : Int)))), ((a 5), .inl (cI, 6, .inl (fun i => jI ((gN i : Nat) : Int)))), ((a 6), .inl (cI, 1080, .inl (fun i => vI (gK i)))), ((a 7), .inl (cZ, 180, .inl (fun i => jI (iB (gD i))))), ((a 8), .inl (cJ, 105, .inr (.inl (fun i => vL (gH i))))), ((a 9), .inl (cJ, 105, .inr (.inl (fun i => vL (gU i))))), ((a 10), .inl (cJ, 90, .inr (.inl (fun i => vL (gF i))))), ((a 11), .inl (cZ, 30, .inl (fun i => jI (iB (gX i))))), ((a 12), .inl (cJ, 5, .inr (.inl (fun i => vL (gW i)))))]
def put5at (g : Nat → Zp) (t : Nat) (s : S5) : Nat → Zp := va_up (va_up (va_up (va_up (va_up g (5 * t + 0) s.1) (5 * t + 1) s.2.1) (5 * t + 2) s.2.2.1) (5 * t + 3) s.2.2.2.1) (5 * t + 4) s.2.2.2.2
theorem s5at_put (g : Nat → Zp) (t : Nat) (s : S5) : s5at (put5at g t s) t = s := by
  simp [s5at, put5at, va_up]
theorem s5at_ne (g : Nat → Zp) {t u : Nat} (h : u ≠ t) (s : S5) : s5at (put5at g t s) u = s5at g u := by
  have key : ∀ i, i < 5 → put5at g t s (5 * u + i) = g (5 * u + i) := fun i hi => by
    unfold put5at va_up
    rw [if_neg (by omega), if_neg (by omega), if_neg (by omega), if_neg (by omega), if_neg (by omega)]
  unfold s5at
  rw [key 0 (by omega), key 1 (by omega), key 2 (by omega), key 3 (by omega), key 4 (by omega)]
/-- what came of measurement k, taken at the state q -/
def Out (M : Nat → Nat → Zp) (gF : Nat → Zp) (gX : Nat → Bool) (k : Nat) (q : S5) : Prop := gF (3 * k) = mY (M k) q ∧ gF (3 * k + 1) = mS (M k) q ∧ gF (3 * k + 2) = mG (M k) q ∧ gX k = mgt (M k) q
theorem Out.put (M : Nat → Nat → Zp) (gF : Nat → Zp) (gX : Nat → Bool) (k : Nat) (q : S5) {b : Bool} (h : mgt (M k) q = b) : Out M (put3 gF k (mY (M k) q) (mS (M k) q) (mG (M k) q)) (va_up gX k b) k q := by
  refine ⟨?_, ?_, ?_, ?_⟩
  · simp [put3, va_up]
  · simp [put3, va_up]
  · simp [put3, va_up]
  · simp [va_up, h]
theorem Out.keep {M : Nat → Nat → Zp} {gF : Nat → Zp} {gX : Nat → Bool} {k j : Nat} {q : S5} (h : Out M gF gX j q) (hj : j ≠ k) (x y z : Zp) (b : Bool) : Out M (put3 gF k x y z) (va_up gX k b) j q := by
  obtain ⟨h1, h2, h3, h4⟩ := h
  refine ⟨?_, ?_, ?_, ?_⟩
  · rw [← h1]; unfold put3 va_up; rw [if_neg (by omega), if_neg (by omega), if_neg (by omega)]
  · rw [← h2]; unfold put3 va_up; rw [if_neg (by omega), if_neg (by omega), if_neg (by omega)]
  · rw [← h3]; unfold put3 va_up; rw [if_neg (by omega), if_neg (by omega), if_neg (by omega)]
  · rw [← h4]; unfold va_up; rw [if_neg hj]
/-- the outputs of all measurements that p tells of -/
def Outs (P : Nat → Zp) (B : S5) (M : Nat → Nat → Zp) (dr : Nat → Bool) (n : Nat) (gF : Nat → Zp) (gX : Nat → Bool) (p : Nat → Prop) : Prop := ∀ k, k < n → dr k = false → p k → ∃ q, bef P B M dr n k = some q ∧ Out M gF gX k q
/-- the rows of the times ahead of t -/
def Rows (P : Nat → Zp) (B : S5) (M : Nat → Nat → Zp) (dr : Nat → Bool) (n : Nat) (gH gU : Nat → Zp) (t : Nat) : Prop := ∀ u, u < t → ahd P B M dr n u = some (s5at gH u) ∧ beh P B M dr n u = some (s5at gU u)
def goesPost (P : Nat → Zp) (B : S5) (M : Nat → Nat → Zp) (dr : Nat → Bool) (n T : Nat) (r : Int32) (gH gU gF : Nat → Zp) (gX : Nat → Bool) (gW : Nat → Zp) : Prop :=
  (beh P B M dr n T = none ∧ r = jI (iB false)) ∨ (r = jI (iB true) ∧ beh P B M dr n T = some (s5 gW) ∧ Rows P B M dr n gH gU (T + 1) ∧ Outs P B M dr n gF gX (fun k => (M k 0).val ≤ T))
theorem inn_take {M : Nat → Nat → Zp} {dr : Nat → Bool} {t k : Nat} {x s : S5} (h : inn M dr t k x = some s) (h1 : (M k 0).val = t) (h2 : dr k = false) : inn M dr t (k + 1) x = tk (M k) s := by
  show (inn M dr t k x).bind _ = _
  rw [h]
  show mst M dr t k s = _
  unfold mst
  rw [if_pos ⟨h1, h2⟩]
theorem inn_skip {M : Nat → Nat → Zp} {dr : Nat → Bool} {t k : Nat} {x s : S5} (h : inn M dr t k x = some s) (h1 : ¬ ((M k 0).val = t ∧ dr k = false)) : inn M dr t (k + 1) x = some s := by
  show (inn M dr t k x).bind _ = _
  rw [h]
  show mst M dr t k s = _
  unfold mst
  rw [if_neg h1]
