/-! rows and numbers for the law's own methods -/
theorem up_s {α : Type} (f : Nat → α) (k : Nat) (v : α) : va_up f k v k = v := by simp [va_up]
theorem up_o {α : Type} (f : Nat → α) {k j : Nat} (v : α) (h : j ≠ k) : va_up f k v j = f j := by simp [va_up, h]
theorem jL_div {e d : Int} (h1 : 0 ≤ e) (h2 : e < 9223372036854775808) (d1 : 0 < d) (d2 : d < 9223372036854775808) : jL e / jL d = jL (e / d) := i64_eq (by
  rw [Int64.toInt_div_of_ne_right _ _ (by
      intro q
      have q2 := congrArg Int64.toInt q
      rw [jL_to (by omega) (by omega)] at q2
      have q3 : (-1 : Int64).toInt = -1 := by decide
      omega), jL_to (by omega) h2, jL_to (by omega) d2, Int.tdiv_eq_ediv_of_nonneg h1]
  have a1 : e / d ≤ e := Int.ediv_le_self d h1
  have a2 : 0 ≤ e / d := Int.ediv_nonneg h1 (by omega)
  rw [jL_to (by omega) (by omega)])
theorem jL_ne0 {d : Int} (d1 : 0 < d) (d2 : d < 9223372036854775808) : ¬ jL d = 0 := fun q => by
  have q2 : jL d = jL 0 := q.trans jL_0.symm
  rw [jL_inj (by omega) (by omega) (by omega) (by omega)] at q2
  omega
theorem jL_shr {a : Int} (h0 : 0 ≤ a) (h1 : a < 4611686018427387904) : jL a >>> ((jI 32).toInt64 &&& 63) = jL (a / 4294967296) := by
  have hD : (((jI 32).toInt64 &&& 63).toBitVec.smod 64).toNat = 32 := by decide +kernel
  apply i64_eq
  have e : (jL a >>> ((jI 32).toInt64 &&& 63)).toInt = (jL a).toInt >>> 32 := by
    rw [← hD]
    exact BitVec.toInt_sshiftRight ..
  rw [e, Int.shiftRight_eq_div_pow, jL_to (by omega) (by omega), jL_to (by omega) (by omega)]
  rfl
theorem jL_shl {a : Int} (h0 : 0 ≤ a) : jL a <<< ((jI 32).toInt64 &&& 63) = jL (a * 4294967296) := by
  obtain ⟨n, rfl⟩ : ∃ n : Nat, a = (n : Int) := ⟨a.toNat, by omega⟩
  have e2 : ((n : Nat) : Int) * 4294967296 = ((n * 4294967296 : Nat) : Int) := by omega
  rw [e2, jL_nat, jL_nat]
  have hc : ((jI 32).toInt64 &&& 63) = lN 32 := by decide +kernel
  rw [hc]
  apply Int64.toBitVec_inj.mp
  have hs : (BitVec.ofNat 64 32).smod 64 = BitVec.ofNat 64 32 := by decide +kernel
  have t1 : (lN n).toBitVec = BitVec.ofNat 64 n := rfl
  have t2 : (lN 32).toBitVec = BitVec.ofNat 64 32 := rfl
  have t3 : (lN (n * 4294967296)).toBitVec = BitVec.ofNat 64 (n * 4294967296) := rfl
  rw [Int64.toBitVec_shiftLeft, t1, t2, t3, hs]
  apply BitVec.eq_of_toNat_eq
  rw [BitVec.shiftLeft_eq', BitVec.toNat_shiftLeft, BitVec.toNat_ofNat, BitVec.toNat_ofNat, BitVec.toNat_ofNat, Nat.mod_eq_of_lt (show 32 < 2 ^ 64 by omega), Nat.shiftLeft_eq]
  omega
theorem jI_low (x : Int32) : ∃ e : Int, x &&& jI 2147483647 = jI e ∧ 0 ≤ e ∧ e < 2147483648 := by
  refine ⟨(x &&& jI 2147483647).toInt, (jI_of _).symm, ?_, by have := Int32.toInt_lt (x &&& jI 2147483647); omega⟩
  have hm : (x &&& jI 2147483647).toBitVec.msb = false := by
    rw [Int32.toBitVec_and, BitVec.msb_and]
    have : (jI 2147483647).toBitVec.msb = false := by decide +kernel
    rw [this, Bool.and_false]
  exact BitVec.toInt_nonneg_of_msb_false hm
section LW
variable {p : Program} {l : Launch} {e : Env} {R : Room} {s : State} {m : MethodId} {args : Array Value} {below : List Frame} {meth : Method} {c : Code} {H : Heap} {locs : List Loc} {cells slots : Nat} {Q : State → Prop}
variable {cc : ByteArray} {pc : Nat} {ls : Array Slot} {rest : List Value} {D : va_G} {A : Nat → Prop} {tys : List (ClassId × FieldType)} {ws : va_W} {H0 : Heap} {a : Nat}
theorem n_ialdv (hexec : p.tables.exec = Jvm.exec) (hb : c.code = cc) (hK : KK D tys s) (hP : va_P D vwCl ws H) (q0 t0 : Nat) {cA : ClassId} {n : Nat} {f : Nat → Int} (ha : ws[q0]? = some (a, .inl (cA, n, .inl (fun i => jI (f i))))) (ht : tys[t0]? = some (cA, .int)) {z v : Int} {i : Nat} (hi : z = (i : Int)) (hin : i < n) (hn : n < 2147483648) (hv : f i = v) (hdg : decode cc pc = .ok (.iaload, 1))
    (kk : W p l e R s m args below meth c H locs cells slots Q (F0 m (pc + 1) ls (.int (jI v) :: rest))) : W p l e R s m args below meth c H locs cells slots Q (F0 m pc ls (.int (jI z) :: .ref a :: rest)) :=
  n_iald hexec hb hK hP q0 t0 ha ht hi hin hn hdg (by rw [hv]; exact kk)
theorem n_laldv (hexec : p.tables.exec = Jvm.exec) (hb : c.code = cc) (hK : KK D tys s) (hP : va_P D vwCl ws H) (q0 t0 : Nat) {cA : ClassId} {n : Nat} {f : Nat → Int} (ha : ws[q0]? = some (a, .inl (cA, n, .inr (.inl (fun i => jL (f i)))))) (ht : tys[t0]? = some (cA, .long)) {z v : Int} {i : Nat} (hi : z = (i : Int)) (hin : i < n) (hn : n < 2147483648) (hv : f i = v) (hdg : decode cc pc = .ok (.laload, 1))
    (kk : W p l e R s m args below meth c H locs cells slots Q (F0 m (pc + 1) ls (.long (jL v) :: rest))) : W p l e R s m args below meth c H locs cells slots Q (F0 m pc ls (.int (jI z) :: .ref a :: rest)) :=
  n_lald hexec hb hK hP q0 t0 ha ht hi hin hn hdg (by rw [hv]; exact kk)
theorem n_iremv (hexec : p.tables.exec = Jvm.exec) (hb : c.code = cc) {a d v : Int} (hdg : decode cc pc = .ok (.irem, 1)) (h1 : 0 ≤ a) (h2 : a < 2147483648) (d1 : 0 < d) (d2 : d < 2147483648) (hv : a % d = v) (k : W p l e R s m args below meth c H locs cells slots Q (F0 m (pc + 1) ls (.int (jI v) :: rest))) : W p l e R s m args below meth c H locs cells slots Q (F0 m pc ls (.int (jI d) :: .int (jI a) :: rest)) :=
  n_iremK hexec hb hdg (by omega) h2 d1 d2 (by rw [Int.tmod_eq_emod_of_nonneg h1, hv]; exact k)
theorem n_idivv (hexec : p.tables.exec = Jvm.exec) (hb : c.code = cc) {a d v : Int} (hdg : decode cc pc = .ok (.idiv, 1)) (h1 : 0 ≤ a) (h2 : a < 2147483648) (d1 : 0 < d) (d2 : d < 2147483648) (hv : a / d = v) (k : W p l e R s m args below meth c H locs cells slots Q (F0 m (pc + 1) ls (.int (jI v) :: rest))) : W p l e R s m args below meth c H locs cells slots Q (F0 m pc ls (.int (jI d) :: .int (jI a) :: rest)) :=
  n_idiv hexec hb hdg h1 h2 d1 d2 (by rw [hv]; exact k)
theorem n_lremv (hexec : p.tables.exec = Jvm.exec) (hb : c.code = cc) {a d v : Int} (hdg : decode cc pc = .ok (.lrem, 1)) (h1 : 0 ≤ a) (h2 : a < 9223372036854775808) (d1 : 0 < d) (d2 : d < 9223372036854775808) (hv : a % d = v) (k : W p l e R s m args below meth c H locs cells slots Q (F0 m (pc + 1) ls (.long (jL v) :: rest))) : W p l e R s m args below meth c H locs cells slots Q (F0 m pc ls (.long (jL d) :: .long (jL a) :: rest)) :=
  lv_lrem hexec hb hdg (jL_ne0 d1 d2) (by rw [jL_rem (by omega) h2 d1 d2, Int.tmod_eq_emod_of_nonneg h1, hv]; exact k)
theorem n_ldivv (hexec : p.tables.exec = Jvm.exec) (hb : c.code = cc) {a d v : Int} (hdg : decode cc pc = .ok (.ldiv, 1)) (h1 : 0 ≤ a) (h2 : a < 9223372036854775808) (d1 : 0 < d) (d2 : d < 9223372036854775808) (hv : a / d = v) (k : W p l e R s m args below meth c H locs cells slots Q (F0 m (pc + 1) ls (.long (jL v) :: rest))) : W p l e R s m args below meth c H locs cells slots Q (F0 m pc ls (.long (jL d) :: .long (jL a) :: rest)) :=
  lv_ldiv hexec hb hdg (jL_ne0 d1 d2) (by rw [jL_div h1 h2 d1 d2, hv]; exact k)
theorem n_lshrv (hexec : p.tables.exec = Jvm.exec) (hb : c.code = cc) {a v : Int} (hdg : decode cc pc = .ok (.lshr, 1)) (h1 : 0 ≤ a) (h2 : a < 4611686018427387904) (hv : a / 4294967296 = v) (k : W p l e R s m args below meth c H locs cells slots Q (F0 m (pc + 1) ls (.long (jL v) :: rest))) : W p l e R s m args below meth c H locs cells slots Q (F0 m pc ls (.int (jI 32) :: .long (jL a) :: rest)) :=
  lv_lshr hexec hb hdg (by rw [jL_shr h1 h2, hv]) k
theorem n_lshlv (hexec : p.tables.exec = Jvm.exec) (hb : c.code = cc) {a : Int} (hdg : decode cc pc = .ok (.lshl, 1)) (h1 : 0 ≤ a) (k : W p l e R s m args below meth c H locs cells slots Q (F0 m (pc + 1) ls (.long (jL (a * 4294967296)) :: rest))) : W p l e R s m args below meth c H locs cells slots Q (F0 m pc ls (.int (jI 32) :: .long (jL a) :: rest)) :=
  lv_lshl hexec hb hdg (jL_shl h1) k
theorem llt {x y : Int} (h : r64 x) (g : r64 y) : jL x < jL y ↔ x < y := by rw [Int64.lt_iff_toInt_lt, jL_to h.1 h.2, jL_to g.1 g.2]
theorem n_lif_lt (hexec : p.tables.exec = Jvm.exec) (hb : c.code = cc) {x y : Int} {off : Int} {tgt : Nat} (h : r64 x) (g : r64 y) (hdg : decode cc pc = .ok (.ifCond .lt off, 3)) (ht : (pc : Int) + off = (tgt : Int)) (kt : x < y → W p l e R s m args below meth c H locs cells slots Q (F0 m tgt ls rest)) (kf : ¬ x < y → W p l e R s m args below meth c H locs cells slots Q (F0 m (pc + 3) ls rest)) : W p l e R s m args below meth c H locs cells slots Q (F0 m pc ls (.int (lg_cmp (jL x) (jL y)) :: rest)) := lv_if_lt hexec hb hdg ht (fun q => kt ((llt h g).mp ((lg_cmp_lt _ _).mp q))) (fun q => kf (fun z => q ((lg_cmp_lt _ _).mpr ((llt h g).mpr z))))
end LW
/-! each number of the field but 0 has its inverse: by trying all -/
def ckF (n : Nat) : Bool := decide ((⟨n % 10007, Nat.mod_lt _ (by decide)⟩ : Zp) = 0) || decide ((⟨n % 10007, Nat.mod_lt _ (by decide)⟩ : Zp) * zinv ⟨n % 10007, Nat.mod_lt _ (by decide)⟩ = 1)
set_option maxRecDepth 20000 in
set_option maxHeartbeats 4000000 in
theorem ckF_0 : ∀ i, i < 10 → ∀ j, j < 100 → ckF (100 * (0 + i) + j) = true := by decide +kernel
set_option maxRecDepth 20000 in
set_option maxHeartbeats 4000000 in
theorem ckF_1 : ∀ i, i < 10 → ∀ j, j < 100 → ckF (100 * (10 + i) + j) = true := by decide +kernel
set_option maxRecDepth 20000 in
set_option maxHeartbeats 4000000 in
theorem ckF_2 : ∀ i, i < 10 → ∀ j, j < 100 → ckF (100 * (20 + i) + j) = true := by decide +kernel
set_option maxRecDepth 20000 in
set_option maxHeartbeats 4000000 in
theorem ckF_3 : ∀ i, i < 10 → ∀ j, j < 100 → ckF (100 * (30 + i) + j) = true := by decide +kernel
set_option maxRecDepth 20000 in
set_option maxHeartbeats 4000000 in
theorem ckF_4 : ∀ i, i < 10 → ∀ j, j < 100 → ckF (100 * (40 + i) + j) = true := by decide +kernel
set_option maxRecDepth 20000 in
set_option maxHeartbeats 4000000 in
theorem ckF_5 : ∀ i, i < 10 → ∀ j, j < 100 → ckF (100 * (50 + i) + j) = true := by decide +kernel
set_option maxRecDepth 20000 in
set_option maxHeartbeats 4000000 in
theorem ckF_6 : ∀ i, i < 10 → ∀ j, j < 100 → ckF (100 * (60 + i) + j) = true := by decide +kernel
set_option maxRecDepth 20000 in
set_option maxHeartbeats 4000000 in
theorem ckF_7 : ∀ i, i < 10 → ∀ j, j < 100 → ckF (100 * (70 + i) + j) = true := by decide +kernel
set_option maxRecDepth 20000 in
set_option maxHeartbeats 4000000 in
theorem ckF_8 : ∀ i, i < 10 → ∀ j, j < 100 → ckF (100 * (80 + i) + j) = true := by decide +kernel
set_option maxRecDepth 20000 in
set_option maxHeartbeats 4000000 in
theorem ckF_9 : ∀ i, i < 10 → ∀ j, j < 100 → ckF (100 * (90 + i) + j) = true := by decide +kernel
set_option maxRecDepth 20000 in
set_option maxHeartbeats 4000000 in
theorem ckF_10 : ∀ i, i < 1 → ∀ j, j < 100 → ckF (100 * (100 + i) + j) = true := by decide +kernel
theorem ckF_all {n : Nat} (h : n < 10007) : ckF n = true := by
  have key : ∀ i, i < 101 → ∀ j, j < 100 → ckF (100 * i + j) = true := by
    intro i hi j hj
    by_cases h0 : i < 10
    · have e := ckF_0 (i - 0) (by omega) j hj
      rw [show 0 + (i - 0) = i by omega] at e
      exact e
    by_cases h1 : i < 20
    · have e := ckF_1 (i - 10) (by omega) j hj
      rw [show 10 + (i - 10) = i by omega] at e
      exact e
    by_cases h2 : i < 30
    · have e := ckF_2 (i - 20) (by omega) j hj
      rw [show 20 + (i - 20) = i by omega] at e
      exact e
    by_cases h3 : i < 40
    · have e := ckF_3 (i - 30) (by omega) j hj
      rw [show 30 + (i - 30) = i by omega] at e
      exact e
    by_cases h4 : i < 50
    · have e := ckF_4 (i - 40) (by omega) j hj
      rw [show 40 + (i - 40) = i by omega] at e
      exact e
    by_cases h5 : i < 60
    · have e := ckF_5 (i - 50) (by omega) j hj
      rw [show 50 + (i - 50) = i by omega] at e
      exact e
    by_cases h6 : i < 70
    · have e := ckF_6 (i - 60) (by omega) j hj
      rw [show 60 + (i - 60) = i by omega] at e
      exact e
    by_cases h7 : i < 80
    · have e := ckF_7 (i - 70) (by omega) j hj
      rw [show 70 + (i - 70) = i by omega] at e
      exact e
    by_cases h8 : i < 90
    · have e := ckF_8 (i - 80) (by omega) j hj
      rw [show 80 + (i - 80) = i by omega] at e
      exact e
    by_cases h9 : i < 100
    · have e := ckF_9 (i - 90) (by omega) j hj
      rw [show 90 + (i - 90) = i by omega] at e
      exact e
    have e := ckF_10 (i - 100) (by omega) j hj
    rw [show 100 + (i - 100) = i by omega] at e
    exact e
  have e := key (n / 100) (by omega) (n % 100) (by omega)
  rw [show 100 * (n / 100) + n % 100 = n by omega] at e
  exact e
theorem z_inv {z : Zp} (h : z ≠ 0) : z * zinv z = 1 := by
  have e := ckF_all z.isLt
  have hz : (⟨z.val % 10007, Nat.mod_lt _ (by decide)⟩ : Zp) = z := Fin.ext (Nat.mod_eq_of_lt z.isLt)
  unfold ckF at e
  rw [hz] at e
  simp only [Bool.or_eq_true, decide_eq_true_eq] at e
  rcases e with e | e
  · exact absurd e h
  · exact e
theorem z_inv0 : zinv 0 = 0 := by decide +kernel
