/-! the field of 10007 numbers; Java's ints and longs by whole numbers -/
abbrev Zp : Type := Fin 10007
def zv (z : Zp) : Int := (z.val : Int)
def zc (e : Int) : Zp := ⟨(e % 10007).toNat, by omega⟩
theorem zv_0 (z : Zp) : 0 ≤ zv z := by unfold zv; omega
theorem zv_le (z : Zp) : zv z ≤ 10006 := by
  have h := z.isLt
  unfold zv
  omega
theorem zv_zc (e : Int) : zv (zc e) = e % 10007 := by
  show ((e % 10007).toNat : Int) = e % 10007
  omega
theorem zv_inj {a b : Zp} (h : zv a = zv b) : a = b := Fin.ext (by unfold zv at h; omega)
theorem zv_iff {a b : Zp} : zv a = zv b ↔ a = b := ⟨zv_inj, fun h => by rw [h]⟩
theorem zc_zv (z : Zp) : zc (zv z) = z := zv_inj (by
  rw [zv_zc]
  have h1 := zv_0 z
  have h2 := zv_le z
  omega)
theorem zc_small {e : Int} (h0 : 0 ≤ e) (h1 : e ≤ 10006) : zv (zc e) = e := by rw [zv_zc]; omega
theorem zv_add (a b : Zp) : zv (a + b) = (zv a + zv b) % 10007 := by
  unfold zv
  rw [Fin.val_add]
  omega
theorem zv_mul (a b : Zp) : zv (a * b) = (zv a * zv b) % 10007 := by
  unfold zv
  rw [Fin.val_mul, Int.natCast_emod, Int.natCast_mul]
  rfl
theorem zc_add (a b : Int) : zc (a + b) = zc a + zc b := zv_inj (by
  rw [zv_add, zv_zc, zv_zc, zv_zc, ← Int.add_emod])
theorem zc_mul (a b : Int) : zc (a * b) = zc a * zc b := zv_inj (by
  rw [zv_mul, zv_zc, zv_zc, zv_zc, ← Int.mul_emod])
theorem zv_neg (a : Zp) : zv (-a) = (-(zv a)) % 10007 := by
  have h := a.isLt
  unfold zv
  rw [Fin.val_neg']
  omega
theorem zc_neg (a : Int) : zc (-a) = -(zc a) := zv_inj (by
  rw [zv_neg, zv_zc, zv_zc]
  omega)
theorem zv_sub (a b : Zp) : zv (a - b) = (zv a - zv b) % 10007 := by
  have h := a.isLt
  have h2 := b.isLt
  unfold zv
  rw [Fin.val_sub]
  omega
theorem zc_sub (a b : Int) : zc (a - b) = zc a - zc b := zv_inj (by
  rw [zv_sub, zv_zc, zv_zc, zv_zc]
  omega)
theorem zc_mod (a : Int) : zc (a % 10007) = zc a := zv_inj (by rw [zv_zc, zv_zc]; omega)
theorem zc_0 : zc 0 = 0 := by decide
theorem zc_1 : zc 1 = 1 := by decide
theorem zv_z0 : zv 0 = 0 := by decide
theorem zv_z1 : zv 1 = 1 := by decide
theorem zv_eq0 {z : Zp} : zv z = 0 ↔ z = 0 := by rw [← zv_z0]; exact zv_iff
/-- a number, the field's number that it stands for, and how large it is -/
def Rp (e : Int) (z : Zp) (M : Nat) : Prop := 0 ≤ e ∧ e ≤ (M : Int) ∧ zc e = z
def Ra (e : Int) (z : Zp) (M : Nat) : Prop := -(M : Int) ≤ e ∧ e ≤ (M : Int) ∧ zc e = z
theorem rp_v (z : Zp) : Rp (zv z) z 10006 := ⟨zv_0 z, zv_le z, zc_zv z⟩
theorem rp_a {e : Int} {z : Zp} {M : Nat} (h : Rp e z M) : Ra e z M := by
  obtain ⟨h1, h2, h3⟩ := h
  exact ⟨by omega, h2, h3⟩
theorem rp_add {a b : Int} {x y : Zp} {A B : Nat} (h : Rp a x A) (k : Rp b y B) : Rp (a + b) (x + y) (A + B) := by
  obtain ⟨h1, h2, h3⟩ := h
  obtain ⟨k1, k2, k3⟩ := k
  exact ⟨by omega, by omega, by rw [zc_add, h3, k3]⟩
theorem rp_mul {a b : Int} {x y : Zp} {A B : Nat} (h : Rp a x A) (k : Rp b y B) : Rp (a * b) (x * y) (A * B) := by
  obtain ⟨h1, h2, h3⟩ := h
  obtain ⟨k1, k2, k3⟩ := k
  refine ⟨Int.mul_nonneg h1 k1, ?_, by rw [zc_mul, h3, k3]⟩
  rw [Int.natCast_mul]
  exact Int.mul_le_mul h2 k2 k1 (by omega)
theorem rp_k {n : Nat} : Rp (n : Int) (zc n) n := ⟨by omega, by omega, rfl⟩
theorem ra_add {a b : Int} {x y : Zp} {A B : Nat} (h : Ra a x A) (k : Ra b y B) : Ra (a + b) (x + y) (A + B) := by
  obtain ⟨h1, h2, h3⟩ := h
  obtain ⟨k1, k2, k3⟩ := k
  exact ⟨by omega, by omega, by rw [zc_add, h3, k3]⟩
theorem ra_sub {a b : Int} {x y : Zp} {A B : Nat} (h : Ra a x A) (k : Ra b y B) : Ra (a - b) (x - y) (A + B) := by
  obtain ⟨h1, h2, h3⟩ := h
  obtain ⟨k1, k2, k3⟩ := k
  exact ⟨by omega, by omega, by rw [zc_sub, h3, k3]⟩
theorem ra_neg {a : Int} {x : Zp} {A : Nat} (h : Ra a x A) : Ra (-a) (-x) A := by
  obtain ⟨h1, h2, h3⟩ := h
  exact ⟨by omega, by omega, by rw [zc_neg, h3]⟩
theorem abs_mul {a b A B : Int} (h1 : -A ≤ a) (h2 : a ≤ A) (k1 : -B ≤ b) (k2 : b ≤ B) : -(A * B) ≤ a * b ∧ a * b ≤ A * B := by
  have hA : 0 ≤ A := by omega
  have hB : 0 ≤ B := by omega
  rcases Int.le_total 0 a with ha | ha <;> rcases Int.le_total 0 b with hb | hb
  · have p := Int.mul_le_mul h2 k2 hb hA
    have q := Int.mul_nonneg ha hb
    have r := Int.mul_nonneg hA hB
    omega
  · have p := Int.mul_le_mul h2 (show -b ≤ B by omega) (show 0 ≤ -b by omega) hA
    have q := Int.mul_nonneg ha (show 0 ≤ -b by omega)
    rw [Int.mul_neg] at p q
    have r := Int.mul_nonneg hA hB
    omega
  · have p := Int.mul_le_mul (show -a ≤ A by omega) k2 hb hA
    have q := Int.mul_nonneg (show 0 ≤ -a by omega) hb
    rw [Int.neg_mul] at p q
    have r := Int.mul_nonneg hA hB
    omega
  · have p := Int.mul_le_mul (show -a ≤ A by omega) (show -b ≤ B by omega) (show 0 ≤ -b by omega) hA
    have q := Int.mul_nonneg (show 0 ≤ -a by omega) (show 0 ≤ -b by omega)
    rw [Int.neg_mul_neg] at p q
    have r := Int.mul_nonneg hA hB
    omega
theorem ra_mul {a b : Int} {x y : Zp} {A B : Nat} (h : Ra a x A) (k : Ra b y B) : Ra (a * b) (x * y) (A * B) := by
  obtain ⟨h1, h2, h3⟩ := h
  obtain ⟨k1, k2, k3⟩ := k
  have q := abs_mul h1 h2 k1 k2
  refine ⟨?_, ?_, by rw [zc_mul, h3, k3]⟩
  · rw [Int.natCast_mul]; exact q.1
  · rw [Int.natCast_mul]; exact q.2
theorem rp_to {e : Int} {z w : Zp} {M : Nat} (h : Rp e z M) (q : z = w) : Rp e w M := q ▸ h
theorem ra_to {e : Int} {z w : Zp} {M : Nat} (h : Ra e z M) (q : z = w) : Ra e w M := q ▸ h
/-- ints and longs by whole numbers -/
def jI (e : Int) : Int32 := Int32.ofInt e
def jL (e : Int) : Int64 := Int64.ofInt e
abbrev vI (z : Zp) : Int32 := jI (zv z)
abbrev vL (z : Zp) : Int64 := jL (zv z)
def iB (b : Bool) : Int := if b then 1 else 0
theorem jI_to {e : Int} (h1 : -2147483648 ≤ e) (h2 : e < 2147483648) : (jI e).toInt = e := Int32.toInt_ofInt_of_le (by omega) (by omega)
theorem jL_to {e : Int} (h1 : -9223372036854775808 ≤ e) (h2 : e < 9223372036854775808) : (jL e).toInt = e := Int64.toInt_ofInt_of_le (by omega) (by omega)
theorem jI_of (x : Int32) : jI x.toInt = x := Int32.ofInt_toInt x
theorem jL_of (x : Int64) : jL x.toInt = x := Int64.ofInt_toInt x
theorem jI_ex (x : Int32) : ∃ e : Int, -2147483648 ≤ e ∧ e < 2147483648 ∧ x = jI e := ⟨x.toInt, by have := Int32.le_toInt x; omega, by have := Int32.toInt_lt x; omega, (jI_of x).symm⟩
theorem i32_eq {x y : Int32} (h : x.toInt = y.toInt) : x = y := Int32.toInt.inj h
theorem i64_eq {x y : Int64} (h : x.toInt = y.toInt) : x = y := Int64.toInt.inj h
theorem jI_add (a b : Int) : jI a + jI b = jI (a + b) := i32_eq (by
  unfold jI
  rw [Int32.toInt_add, Int32.toInt_ofInt, Int32.toInt_ofInt, Int32.toInt_ofInt]
  simp [Int32.size])
theorem jI_mul (a b : Int) : jI a * jI b = jI (a * b) := i32_eq (by
  unfold jI
  rw [Int32.toInt_mul, Int32.toInt_ofInt, Int32.toInt_ofInt, Int32.toInt_ofInt]
  simp [Int32.size])
theorem jI_sub (a b : Int) : jI a - jI b = jI (a - b) := i32_eq (by
  unfold jI
  rw [Int32.toInt_sub, Int32.toInt_ofInt, Int32.toInt_ofInt, Int32.toInt_ofInt]
  simp [Int32.size])
theorem jL_add (a b : Int) : jL a + jL b = jL (a + b) := i64_eq (by
  unfold jL
  rw [Int64.toInt_add, Int64.toInt_ofInt, Int64.toInt_ofInt, Int64.toInt_ofInt]
  simp [Int64.size])
theorem jL_mul (a b : Int) : jL a * jL b = jL (a * b) := i64_eq (by
  unfold jL
  rw [Int64.toInt_mul, Int64.toInt_ofInt, Int64.toInt_ofInt, Int64.toInt_ofInt]
  simp [Int64.size])
theorem jL_sub (a b : Int) : jL a - jL b = jL (a - b) := i64_eq (by
  unfold jL
  rw [Int64.toInt_sub, Int64.toInt_ofInt, Int64.toInt_ofInt, Int64.toInt_ofInt]
  simp [Int64.size])
theorem jL_neg (a : Int) : -jL a = jL (-a) := Int64.neg_ofInt
theorem jI_nat (n : Nat) : jI (n : Int) = nI n := Int32.ofInt_eq_ofNat
theorem jL_nat (n : Nat) : jL (n : Int) = lN n := Int64.ofInt_eq_ofNat
theorem jI_wide {e : Int} (h1 : -2147483648 ≤ e) (h2 : e < 2147483648) : (jI e).toInt64 = jL e := i64_eq (by
  rw [jL_to (by omega) (by omega), Int32.toInt_toInt64, jI_to h1 h2])
theorem jL_narrow (e : Int) : (jL e).toInt32 = jI e := Int64.toInt32_ofInt
theorem jI_inj {a b : Int} (a1 : -2147483648 ≤ a) (a2 : a < 2147483648) (b1 : -2147483648 ≤ b) (b2 : b < 2147483648) : jI a = jI b ↔ a = b :=
  ⟨fun h => by rw [← jI_to a1 a2, ← jI_to b1 b2, h], fun h => by rw [h]⟩
theorem jL_inj {a b : Int} (a1 : -9223372036854775808 ≤ a) (a2 : a < 9223372036854775808) (b1 : -9223372036854775808 ≤ b) (b2 : b < 9223372036854775808) : jL a = jL b ↔ a = b :=
  ⟨fun h => by rw [← jL_to a1 a2, ← jL_to b1 b2, h], fun h => by rw [h]⟩
theorem jI_lt {a b : Int} (a1 : -2147483648 ≤ a) (a2 : a < 2147483648) (b1 : -2147483648 ≤ b) (b2 : b < 2147483648) : jI a < jI b ↔ a < b := by
  rw [Int32.lt_iff_toInt_lt, jI_to a1 a2, jI_to b1 b2]
theorem jI_le {a b : Int} (a1 : -2147483648 ≤ a) (a2 : a < 2147483648) (b1 : -2147483648 ≤ b) (b2 : b < 2147483648) : jI a ≤ jI b ↔ a ≤ b := by
  rw [Int32.le_iff_toInt_le, jI_to a1 a2, jI_to b1 b2]
theorem jL_lt {a b : Int} (a1 : -9223372036854775808 ≤ a) (a2 : a < 9223372036854775808) (b1 : -9223372036854775808 ≤ b) (b2 : b < 9223372036854775808) : jL a < jL b ↔ a < b := by
  rw [Int64.lt_iff_toInt_lt, jL_to a1 a2, jL_to b1 b2]
theorem jI_0 : jI 0 = 0 := by decide
theorem jL_0 : jL 0 = 0 := by decide
theorem jI_P0 : ¬ jI 10007 = 0 := by decide
theorem jL_P0 : ¬ jL 10007 = 0 := by decide
theorem jI_rem {e : Int} (h1 : -2147483648 < e) (h2 : e < 2147483648) {d : Int} (d1 : 0 < d) (d2 : d < 2147483648) : jI e - jI e / jI d * jI d = jI (e.tmod d) := by
  have hd : (jI e / jI d) = jI (e.tdiv d) := i32_eq (by
    rw [Int32.toInt_div_of_ne_right _ _ (by
      intro q
      have q2 := congrArg Int32.toInt q
      rw [jI_to (by omega) (by omega)] at q2
      have q3 : (-1 : Int32).toInt = -1 := by decide
      omega), jI_to (by omega) h2, jI_to (by omega) d2]
    have a1 : e.tdiv d ≤ e.natAbs := by
      have := Int.natAbs_tdiv_le_natAbs e d
      omega
    have a2 : -(e.natAbs : Int) ≤ e.tdiv d := by
      have := Int.natAbs_tdiv_le_natAbs e d
      omega
    rw [jI_to (by omega) (by omega)])
  rw [hd, jI_mul, jI_sub]
  congr 1
  have := Int.mul_tdiv_add_tmod e d
  rw [Int.mul_comm]
  omega
theorem jL_rem {e : Int} (h1 : -9223372036854775808 < e) (h2 : e < 9223372036854775808) {d : Int} (d1 : 0 < d) (d2 : d < 9223372036854775808) : jL e - jL e / jL d * jL d = jL (e.tmod d) := by
  have hd : (jL e / jL d) = jL (e.tdiv d) := i64_eq (by
    rw [Int64.toInt_div_of_ne_right _ _ (by
      intro q
      have q2 := congrArg Int64.toInt q
      rw [jL_to (by omega) (by omega)] at q2
      have q3 : (-1 : Int64).toInt = -1 := by decide
      omega), jL_to (by omega) h2, jL_to (by omega) d2]
    have a1 : e.tdiv d ≤ e.natAbs := by
      have := Int.natAbs_tdiv_le_natAbs e d
      omega
    have a2 : -(e.natAbs : Int) ≤ e.tdiv d := by
      have := Int.natAbs_tdiv_le_natAbs e d
      omega
    rw [jL_to (by omega) (by omega)])
  rw [hd, jL_mul, jL_sub]
  congr 1
  have := Int.mul_tdiv_add_tmod e d
  rw [Int.mul_comm]
  omega
theorem jI_remZ {e : Int} {z : Zp} {M : Nat} (h : Rp e z M) (hM : M < 2147483648) : jI e - jI e / jI 10007 * jI 10007 = vI z := by
  obtain ⟨h1, h2, h3⟩ := h
  rw [jI_rem (by omega) (by omega) (by omega) (by omega), Int.tmod_eq_emod_of_nonneg h1, ← zv_zc, h3]
theorem jL_remZ {e : Int} {z : Zp} {M : Nat} (h : Rp e z M) (hM : M < 9223372036854775808) : jL e - jL e / jL 10007 * jL 10007 = vL z := by
  obtain ⟨h1, h2, h3⟩ := h
  rw [jL_rem (by omega) (by omega) (by omega) (by omega), Int.tmod_eq_emod_of_nonneg h1, ← zv_zc, h3]
theorem jI_in {n N : Nat} (h : n < N) (hN : N < 2 ^ 31) : vp_in (jI (n : Int)) N := by rw [jI_nat]; exact vp_in_nI h hN
theorem jI_cl {n : Nat} (h : n < 2 ^ 31) : (jI (n : Int)).toNatClampNeg = n := by rw [jI_nat]; exact nI_clamp h
