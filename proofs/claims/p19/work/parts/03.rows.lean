/-! the words that nest mates need, the classes' tables: what stays the same -/
def nestWs : List (String × Nat × MethodName × String) := [("FieldFilter$Estimator", 11, ⟨"FieldFilter$Motion", "<init>", "()V"⟩, "FieldFilter"), ("FieldFilter$Motion", 11, ⟨"FieldFilter$Symmetric", "<init>", "()V"⟩, "FieldFilter"), ("FieldFilter$Estimator", 41, ⟨"FieldFilter$Measurement", "<init>", "()V"⟩, "FieldFilter"), ("FieldFilter$Measurement", 11, ⟨"FieldFilter$Column", "<init>", "()V"⟩, "FieldFilter"), ("FieldFilter$Estimator", 42, ⟨"FieldFilter$State", "<init>", "()V"⟩, "FieldFilter"), ("FieldFilter$State", 9, ⟨"FieldFilter$Column", "<init>", "()V"⟩, "FieldFilter"), ("FieldFilter$State", 18, ⟨"FieldFilter$Symmetric", "<init>", "()V"⟩, "FieldFilter"), ("FieldFilter$Measurement", 73, ⟨"FieldFilter", "less", "(II)I"⟩, "FieldFilter"), ("FieldFilter$Measurement", 80, ⟨"FieldFilter", "divide", "(II)I"⟩, "FieldFilter"), ("FieldFilter$Measurement", 93, ⟨"FieldFilter", "inverse", "(I)I"⟩, "FieldFilter"), ("FieldFilter$Symmetric", 25, ⟨"FieldFilter", "less", "(II)I"⟩, "FieldFilter"), ("FieldFilter", 128, ⟨"FieldFilter$Measurement", "<init>", "()V"⟩, "FieldFilter"), ("FieldFilter", 150, ⟨"FieldFilter$State", "<init>", "()V"⟩, "FieldFilter"), ("FieldFilter$Symmetric", 33, ⟨"FieldFilter", "inverse", "(I)I"⟩, "FieldFilter"), ("FieldFilter", 162, ⟨"FieldFilter$Column", "<init>", "()V"⟩, "FieldFilter"), ("FieldFilter$Estimator", 108, ⟨"FieldFilter$Symmetric", "<init>", "()V"⟩, "FieldFilter"), ("FieldFilter$Column", 22, ⟨"FieldFilter", "less", "(II)I"⟩, "FieldFilter"), ("FieldFilter", 176, ⟨"FieldFilter$Motion", "<init>", "()V"⟩, "FieldFilter")]
def KK (D : va_G) (tys : List (ClassId × FieldType)) (U : State) : Prop := va_K D vwCl tys U ∧ ∀ q ∈ nestWs, va_Nw (.methodLinkNest q.1 q.2.1 q.2.2.1 q.2.2.2) U
theorem KK.warm {D : va_G} {tys : List (ClassId × FieldType)} {s U : State} (h : KK D tys s) (hW : s.WarmedH U.vm) : KK D tys U :=
  ⟨va_K.moved hW.alike h.1, fun q hq => va_Nw.warmM hW (h.2 q hq)⟩
theorem KK.same {D : va_G} {tys : List (ClassId × FieldType)} {u U : State} (h : KK D tys u) (e : u.vm = U.vm) : KK D tys U :=
  ⟨va_K.moved (by rw [e]; exact Vm.Alike.refl _) h.1, fun q hq => va_Nw.same rfl e (h.2 q hq)⟩
section NR
variable {p : Program} {l : Launch} {e : Env} {R : Room} {s : State} {m : MethodId} {args : Array Value} {below : List Frame} {meth : Method} {c : Code} {H : Heap} {locs : List Loc} {cells slots : Nat} {Q : State → Prop}
variable {cc : ByteArray} {pc : Nat} {ls : Array Slot} {rest : List Value}
theorem n_iconst (hexec : p.tables.exec = Jvm.exec) (hb : c.code = cc) {n : Int} (hdg : decode cc pc = .ok (.iconst n, 1)) (k : W p l e R s m args below meth c H locs cells slots Q (F0 m (pc + 1) ls (.int (jI n) :: rest))) : W p l e R s m args below meth c H locs cells slots Q (F0 m pc ls rest) := lv_iconst (v := jI n) hexec hb hdg rfl k
theorem n_bipush (hexec : p.tables.exec = Jvm.exec) (hb : c.code = cc) {n : Int} (hdg : decode cc pc = .ok (.bipush n, 2)) (hv : (Int8.ofInt n).toInt32 = jI n) (k : W p l e R s m args below meth c H locs cells slots Q (F0 m (pc + 2) ls (.int (jI n) :: rest))) : W p l e R s m args below meth c H locs cells slots Q (F0 m pc ls rest) := lv_bipush (v := jI n) hexec hb hdg hv k
theorem n_sipush (hexec : p.tables.exec = Jvm.exec) (hb : c.code = cc) {n : Int} (hdg : decode cc pc = .ok (.sipush n, 3)) (hv : (Int16.ofInt n).toInt32 = jI n) (k : W p l e R s m args below meth c H locs cells slots Q (F0 m (pc + 3) ls (.int (jI n) :: rest))) : W p l e R s m args below meth c H locs cells slots Q (F0 m pc ls rest) := lv_sipush (v := jI n) hexec hb hdg hv k
theorem n_iadd (hexec : p.tables.exec = Jvm.exec) (hb : c.code = cc) {a b : Int} (hdg : decode cc pc = .ok (.iadd, 1)) (k : W p l e R s m args below meth c H locs cells slots Q (F0 m (pc + 1) ls (.int (jI (a + b)) :: rest))) : W p l e R s m args below meth c H locs cells slots Q (F0 m pc ls (.int (jI b) :: .int (jI a) :: rest)) := lv_iadd hexec hb hdg (by rw [jI_add]; exact k)
theorem n_isub (hexec : p.tables.exec = Jvm.exec) (hb : c.code = cc) {a b : Int} (hdg : decode cc pc = .ok (.isub, 1)) (k : W p l e R s m args below meth c H locs cells slots Q (F0 m (pc + 1) ls (.int (jI (a - b)) :: rest))) : W p l e R s m args below meth c H locs cells slots Q (F0 m pc ls (.int (jI b) :: .int (jI a) :: rest)) := lv_isub hexec hb hdg (by rw [jI_sub]; exact k)
theorem n_imul (hexec : p.tables.exec = Jvm.exec) (hb : c.code = cc) {a b : Int} (hdg : decode cc pc = .ok (.imul, 1)) (k : W p l e R s m args below meth c H locs cells slots Q (F0 m (pc + 1) ls (.int (jI (a * b)) :: rest))) : W p l e R s m args below meth c H locs cells slots Q (F0 m pc ls (.int (jI b) :: .int (jI a) :: rest)) := lv_imul hexec hb hdg (by rw [jI_mul]; exact k)
theorem n_irem (hexec : p.tables.exec = Jvm.exec) (hb : c.code = cc) {a : Int} {z : Zp} {M : Nat} (hdg : decode cc pc = .ok (.irem, 1)) (h : Rp a z M) (hM : M < 2147483648) (k : W p l e R s m args below meth c H locs cells slots Q (F0 m (pc + 1) ls (.int (vI z) :: rest))) : W p l e R s m args below meth c H locs cells slots Q (F0 m pc ls (.int (jI 10007) :: .int (jI a) :: rest)) := lv_irem hexec hb hdg jI_P0 (by rw [jI_remZ h hM]; exact k)
theorem n_iremK (hexec : p.tables.exec = Jvm.exec) (hb : c.code = cc) {a d : Int} (hdg : decode cc pc = .ok (.irem, 1)) (h1 : -2147483648 < a) (h2 : a < 2147483648) (d1 : 0 < d) (d2 : d < 2147483648) (k : W p l e R s m args below meth c H locs cells slots Q (F0 m (pc + 1) ls (.int (jI (a.tmod d)) :: rest))) : W p l e R s m args below meth c H locs cells slots Q (F0 m pc ls (.int (jI d) :: .int (jI a) :: rest)) := lv_irem hexec hb hdg (fun q => by
  have q2 : jI d = jI 0 := q.trans jI_0.symm
  rw [jI_inj (by omega) (by omega) (by omega) (by omega)] at q2
  omega) (by rw [jI_rem h1 h2 d1 d2]; exact k)
theorem jI_div {e d : Int} (h1 : 0 ≤ e) (h2 : e < 2147483648) (d1 : 0 < d) (d2 : d < 2147483648) : jI e / jI d = jI (e / d) := i32_eq (by
  rw [Int32.toInt_div_of_ne_right _ _ (by
      intro q
      have q2 := congrArg Int32.toInt q
      rw [jI_to (by omega) (by omega)] at q2
      have q3 : (-1 : Int32).toInt = -1 := by decide
      omega), jI_to (by omega) h2, jI_to (by omega) d2, Int.tdiv_eq_ediv_of_nonneg h1]
  have a1 : e / d ≤ e := Int.ediv_le_self d h1
  have a2 : 0 ≤ e / d := Int.ediv_nonneg h1 (by omega)
  rw [jI_to (by omega) (by omega)])
theorem n_idiv (hexec : p.tables.exec = Jvm.exec) (hb : c.code = cc) {a d : Int} (hdg : decode cc pc = .ok (.idiv, 1)) (h1 : 0 ≤ a) (h2 : a < 2147483648) (d1 : 0 < d) (d2 : d < 2147483648) (k : W p l e R s m args below meth c H locs cells slots Q (F0 m (pc + 1) ls (.int (jI (a / d)) :: rest))) : W p l e R s m args below meth c H locs cells slots Q (F0 m pc ls (.int (jI d) :: .int (jI a) :: rest)) := lv_idiv hexec hb hdg (fun q => by
  have q2 : jI d = jI 0 := q.trans jI_0.symm
  rw [jI_inj (by omega) (by omega) (by omega) (by omega)] at q2
  omega) (by rw [jI_div h1 h2 d1 d2]; exact k)
theorem n_ladd (hexec : p.tables.exec = Jvm.exec) (hb : c.code = cc) {a b : Int} (hdg : decode cc pc = .ok (.ladd, 1)) (k : W p l e R s m args below meth c H locs cells slots Q (F0 m (pc + 1) ls (.long (jL (a + b)) :: rest))) : W p l e R s m args below meth c H locs cells slots Q (F0 m pc ls (.long (jL b) :: .long (jL a) :: rest)) := lv_ladd hexec hb hdg (by rw [jL_add]; exact k)
theorem n_lsub (hexec : p.tables.exec = Jvm.exec) (hb : c.code = cc) {a b : Int} (hdg : decode cc pc = .ok (.lsub, 1)) (k : W p l e R s m args below meth c H locs cells slots Q (F0 m (pc + 1) ls (.long (jL (a - b)) :: rest))) : W p l e R s m args below meth c H locs cells slots Q (F0 m pc ls (.long (jL b) :: .long (jL a) :: rest)) := lv_lsub hexec hb hdg (by rw [jL_sub]; exact k)
theorem n_lmul (hexec : p.tables.exec = Jvm.exec) (hb : c.code = cc) {a b : Int} (hdg : decode cc pc = .ok (.lmul, 1)) (k : W p l e R s m args below meth c H locs cells slots Q (F0 m (pc + 1) ls (.long (jL (a * b)) :: rest))) : W p l e R s m args below meth c H locs cells slots Q (F0 m pc ls (.long (jL b) :: .long (jL a) :: rest)) := lv_lmul hexec hb hdg (by rw [jL_mul]; exact k)
theorem n_lneg (hexec : p.tables.exec = Jvm.exec) (hb : c.code = cc) {a : Int} (hdg : decode cc pc = .ok (.lneg, 1)) (k : W p l e R s m args below meth c H locs cells slots Q (F0 m (pc + 1) ls (.long (jL (-a)) :: rest))) : W p l e R s m args below meth c H locs cells slots Q (F0 m pc ls (.long (jL a) :: rest)) := lv_lneg hexec hb hdg (by rw [jL_neg]; exact k)
theorem n_lrem (hexec : p.tables.exec = Jvm.exec) (hb : c.code = cc) {a : Int} {z : Zp} {M : Nat} (hdg : decode cc pc = .ok (.lrem, 1)) (h : Rp a z M) (hM : M < 9223372036854775808) (k : W p l e R s m args below meth c H locs cells slots Q (F0 m (pc + 1) ls (.long (vL z) :: rest))) : W p l e R s m args below meth c H locs cells slots Q (F0 m pc ls (.long (jL 10007) :: .long (jL a) :: rest)) := lv_lrem hexec hb hdg jL_P0 (by rw [jL_remZ h hM]; exact k)
theorem n_lremK (hexec : p.tables.exec = Jvm.exec) (hb : c.code = cc) {a : Int} (hdg : decode cc pc = .ok (.lrem, 1)) (h1 : -9223372036854775808 < a) (h2 : a < 9223372036854775808) (k : W p l e R s m args below meth c H locs cells slots Q (F0 m (pc + 1) ls (.long (jL (a.tmod 10007)) :: rest))) : W p l e R s m args below meth c H locs cells slots Q (F0 m pc ls (.long (jL 10007) :: .long (jL a) :: rest)) := lv_lrem hexec hb hdg jL_P0 (by rw [jL_rem h1 h2 (by omega) (by omega)]; exact k)
theorem n_i2l (hexec : p.tables.exec = Jvm.exec) (hb : c.code = cc) {a : Int} (hdg : decode cc pc = .ok (.i2l, 1)) (h1 : -2147483648 ≤ a) (h2 : a < 2147483648) (k : W p l e R s m args below meth c H locs cells slots Q (F0 m (pc + 1) ls (.long (jL a) :: rest))) : W p l e R s m args below meth c H locs cells slots Q (F0 m pc ls (.int (jI a) :: rest)) := lv_i2l hexec hb hdg (jI_wide h1 h2) k
theorem n_i2lZ (hexec : p.tables.exec = Jvm.exec) (hb : c.code = cc) {z : Zp} (hdg : decode cc pc = .ok (.i2l, 1)) (k : W p l e R s m args below meth c H locs cells slots Q (F0 m (pc + 1) ls (.long (vL z) :: rest))) : W p l e R s m args below meth c H locs cells slots Q (F0 m pc ls (.int (vI z) :: rest)) := n_i2l hexec hb hdg (by have := zv_0 z; omega) (by have := zv_le z; omega) k
theorem n_l2i (hexec : p.tables.exec = Jvm.exec) (hb : c.code = cc) {a : Int} (hdg : decode cc pc = .ok (.l2i, 1)) (k : W p l e R s m args below meth c H locs cells slots Q (F0 m (pc + 1) ls (.int (jI a) :: rest))) : W p l e R s m args below meth c H locs cells slots Q (F0 m pc ls (.long (jL a) :: rest)) := lv_l2i hexec hb hdg (jL_narrow a) k
def r32 (a : Int) : Prop := -2147483648 ≤ a ∧ a < 2147483648
def r64 (a : Int) : Prop := -9223372036854775808 ≤ a ∧ a < 9223372036854775808
theorem r32_z (z : Zp) : r32 (zv z) := ⟨by have := zv_0 z; omega, by have := zv_le z; omega⟩
theorem r64_z (z : Zp) : r64 (zv z) := ⟨by have := zv_0 z; omega, by have := zv_le z; omega⟩
theorem c_eq0 {a : Int} (h : r32 a) : jI a = 0 ↔ a = 0 := by
  have q := jI_inj (a := a) (b := 0) h.1 h.2 (by omega) (by omega)
  rw [jI_0] at q
  exact q
theorem c_lt0 {a : Int} (h : r32 a) : jI a < 0 ↔ a < 0 := by
  have q := jI_lt (a := a) (b := 0) h.1 h.2 (by omega) (by omega)
  rw [jI_0] at q
  exact q
theorem c_le0 {a : Int} (h : r32 a) : jI a ≤ 0 ↔ a ≤ 0 := by
  have q := jI_le (a := a) (b := 0) h.1 h.2 (by omega) (by omega)
  rw [jI_0] at q
  exact q
theorem c_0le {a : Int} (h : r32 a) : 0 ≤ jI a ↔ 0 ≤ a := by
  have q := jI_le (a := 0) (b := a) (by omega) (by omega) h.1 h.2
  rw [jI_0] at q
  exact q
theorem c_0lt {a : Int} (h : r32 a) : 0 < jI a ↔ 0 < a := by
  have q := jI_lt (a := 0) (b := a) (by omega) (by omega) h.1 h.2
  rw [jI_0] at q
  exact q
theorem n_if_eq (hexec : p.tables.exec = Jvm.exec) (hb : c.code = cc) {a : Int} {off : Int} {tgt : Nat} (h : r32 a) (hdg : decode cc pc = .ok (.ifCond .eq off, 3)) (ht : (pc : Int) + off = (tgt : Int)) (kt : a = 0 → W p l e R s m args below meth c H locs cells slots Q (F0 m tgt ls rest)) (kf : ¬ a = 0 → W p l e R s m args below meth c H locs cells slots Q (F0 m (pc + 3) ls rest)) : W p l e R s m args below meth c H locs cells slots Q (F0 m pc ls (.int (jI a) :: rest)) := lv_if_eq hexec hb hdg ht (fun q => kt ((c_eq0 h).mp q)) (fun q => kf (fun z => q ((c_eq0 h).mpr z)))
theorem n_if_ne (hexec : p.tables.exec = Jvm.exec) (hb : c.code = cc) {a : Int} {off : Int} {tgt : Nat} (h : r32 a) (hdg : decode cc pc = .ok (.ifCond .ne off, 3)) (ht : (pc : Int) + off = (tgt : Int)) (kt : ¬ a = 0 → W p l e R s m args below meth c H locs cells slots Q (F0 m tgt ls rest)) (kf : a = 0 → W p l e R s m args below meth c H locs cells slots Q (F0 m (pc + 3) ls rest)) : W p l e R s m args below meth c H locs cells slots Q (F0 m pc ls (.int (jI a) :: rest)) := lv_if_ne hexec hb hdg ht (fun q => kt (fun z => q ((c_eq0 h).mpr z))) (fun q => kf ((c_eq0 h).mp q))
theorem n_if_lt (hexec : p.tables.exec = Jvm.exec) (hb : c.code = cc) {a : Int} {off : Int} {tgt : Nat} (h : r32 a) (hdg : decode cc pc = .ok (.ifCond .lt off, 3)) (ht : (pc : Int) + off = (tgt : Int)) (kt : a < 0 → W p l e R s m args below meth c H locs cells slots Q (F0 m tgt ls rest)) (kf : ¬ a < 0 → W p l e R s m args below meth c H locs cells slots Q (F0 m (pc + 3) ls rest)) : W p l e R s m args below meth c H locs cells slots Q (F0 m pc ls (.int (jI a) :: rest)) := lv_if_lt hexec hb hdg ht (fun q => kt ((c_lt0 h).mp q)) (fun q => kf (fun z => q ((c_lt0 h).mpr z)))
theorem n_if_ge (hexec : p.tables.exec = Jvm.exec) (hb : c.code = cc) {a : Int} {off : Int} {tgt : Nat} (h : r32 a) (hdg : decode cc pc = .ok (.ifCond .ge off, 3)) (ht : (pc : Int) + off = (tgt : Int)) (kt : 0 ≤ a → W p l e R s m args below meth c H locs cells slots Q (F0 m tgt ls rest)) (kf : ¬ 0 ≤ a → W p l e R s m args below meth c H locs cells slots Q (F0 m (pc + 3) ls rest)) : W p l e R s m args below meth c H locs cells slots Q (F0 m pc ls (.int (jI a) :: rest)) := lv_if_ge hexec hb hdg ht (fun q => kt ((c_0le h).mp q)) (fun q => kf (fun z => q ((c_0le h).mpr z)))
theorem n_if_gt (hexec : p.tables.exec = Jvm.exec) (hb : c.code = cc) {a : Int} {off : Int} {tgt : Nat} (h : r32 a) (hdg : decode cc pc = .ok (.ifCond .gt off, 3)) (ht : (pc : Int) + off = (tgt : Int)) (kt : 0 < a → W p l e R s m args below meth c H locs cells slots Q (F0 m tgt ls rest)) (kf : ¬ 0 < a → W p l e R s m args below meth c H locs cells slots Q (F0 m (pc + 3) ls rest)) : W p l e R s m args below meth c H locs cells slots Q (F0 m pc ls (.int (jI a) :: rest)) := lv_if_gt hexec hb hdg ht (fun q => kt ((c_0lt h).mp q)) (fun q => kf (fun z => q ((c_0lt h).mpr z)))
theorem n_if_le (hexec : p.tables.exec = Jvm.exec) (hb : c.code = cc) {a : Int} {off : Int} {tgt : Nat} (h : r32 a) (hdg : decode cc pc = .ok (.ifCond .le off, 3)) (ht : (pc : Int) + off = (tgt : Int)) (kt : a ≤ 0 → W p l e R s m args below meth c H locs cells slots Q (F0 m tgt ls rest)) (kf : ¬ a ≤ 0 → W p l e R s m args below meth c H locs cells slots Q (F0 m (pc + 3) ls rest)) : W p l e R s m args below meth c H locs cells slots Q (F0 m pc ls (.int (jI a) :: rest)) := lv_if_le hexec hb hdg ht (fun q => kt ((c_le0 h).mp q)) (fun q => kf (fun z => q ((c_le0 h).mpr z)))
theorem n_icmp_eq (hexec : p.tables.exec = Jvm.exec) (hb : c.code = cc) {a b : Int} {off : Int} {tgt : Nat} (h : r32 a) (g : r32 b) (hdg : decode cc pc = .ok (.if_icmp .eq off, 3)) (ht : (pc : Int) + off = (tgt : Int)) (kt : a = b → W p l e R s m args below meth c H locs cells slots Q (F0 m tgt ls rest)) (kf : ¬ a = b → W p l e R s m args below meth c H locs cells slots Q (F0 m (pc + 3) ls rest)) : W p l e R s m args below meth c H locs cells slots Q (F0 m pc ls (.int (jI b) :: .int (jI a) :: rest)) := lv_icmp_eq hexec hb hdg ht (fun q => kt ((jI_inj h.1 h.2 g.1 g.2).mp q)) (fun q => kf (fun z => q ((jI_inj h.1 h.2 g.1 g.2).mpr z)))
theorem n_icmp_ne (hexec : p.tables.exec = Jvm.exec) (hb : c.code = cc) {a b : Int} {off : Int} {tgt : Nat} (h : r32 a) (g : r32 b) (hdg : decode cc pc = .ok (.if_icmp .ne off, 3)) (ht : (pc : Int) + off = (tgt : Int)) (kt : ¬ a = b → W p l e R s m args below meth c H locs cells slots Q (F0 m tgt ls rest)) (kf : a = b → W p l e R s m args below meth c H locs cells slots Q (F0 m (pc + 3) ls rest)) : W p l e R s m args below meth c H locs cells slots Q (F0 m pc ls (.int (jI b) :: .int (jI a) :: rest)) := lv_icmp_ne hexec hb hdg ht (fun q => kt (fun z => q ((jI_inj h.1 h.2 g.1 g.2).mpr z))) (fun q => kf ((jI_inj h.1 h.2 g.1 g.2).mp q))
theorem n_icmp_lt (hexec : p.tables.exec = Jvm.exec) (hb : c.code = cc) {a b : Int} {off : Int} {tgt : Nat} (h : r32 a) (g : r32 b) (hdg : decode cc pc = .ok (.if_icmp .lt off, 3)) (ht : (pc : Int) + off = (tgt : Int)) (kt : a < b → W p l e R s m args below meth c H locs cells slots Q (F0 m tgt ls rest)) (kf : ¬ a < b → W p l e R s m args below meth c H locs cells slots Q (F0 m (pc + 3) ls rest)) : W p l e R s m args below meth c H locs cells slots Q (F0 m pc ls (.int (jI b) :: .int (jI a) :: rest)) := lv_icmp_lt hexec hb hdg ht (fun q => kt ((jI_lt h.1 h.2 g.1 g.2).mp q)) (fun q => kf (fun z => q ((jI_lt h.1 h.2 g.1 g.2).mpr z)))
theorem n_icmp_ge (hexec : p.tables.exec = Jvm.exec) (hb : c.code = cc) {a b : Int} {off : Int} {tgt : Nat} (h : r32 a) (g : r32 b) (hdg : decode cc pc = .ok (.if_icmp .ge off, 3)) (ht : (pc : Int) + off = (tgt : Int)) (kt : b ≤ a → W p l e R s m args below meth c H locs cells slots Q (F0 m tgt ls rest)) (kf : ¬ b ≤ a → W p l e R s m args below meth c H locs cells slots Q (F0 m (pc + 3) ls rest)) : W p l e R s m args below meth c H locs cells slots Q (F0 m pc ls (.int (jI b) :: .int (jI a) :: rest)) := lv_icmp_ge hexec hb hdg ht (fun q => kt ((jI_le g.1 g.2 h.1 h.2).mp q)) (fun q => kf (fun z => q ((jI_le g.1 g.2 h.1 h.2).mpr z)))
theorem n_icmp_gt (hexec : p.tables.exec = Jvm.exec) (hb : c.code = cc) {a b : Int} {off : Int} {tgt : Nat} (h : r32 a) (g : r32 b) (hdg : decode cc pc = .ok (.if_icmp .gt off, 3)) (ht : (pc : Int) + off = (tgt : Int)) (kt : b < a → W p l e R s m args below meth c H locs cells slots Q (F0 m tgt ls rest)) (kf : ¬ b < a → W p l e R s m args below meth c H locs cells slots Q (F0 m (pc + 3) ls rest)) : W p l e R s m args below meth c H locs cells slots Q (F0 m pc ls (.int (jI b) :: .int (jI a) :: rest)) := lv_icmp_gt hexec hb hdg ht (fun q => kt ((jI_lt g.1 g.2 h.1 h.2).mp q)) (fun q => kf (fun z => q ((jI_lt g.1 g.2 h.1 h.2).mpr z)))
theorem n_icmp_le (hexec : p.tables.exec = Jvm.exec) (hb : c.code = cc) {a b : Int} {off : Int} {tgt : Nat} (h : r32 a) (g : r32 b) (hdg : decode cc pc = .ok (.if_icmp .le off, 3)) (ht : (pc : Int) + off = (tgt : Int)) (kt : a ≤ b → W p l e R s m args below meth c H locs cells slots Q (F0 m tgt ls rest)) (kf : ¬ a ≤ b → W p l e R s m args below meth c H locs cells slots Q (F0 m (pc + 3) ls rest)) : W p l e R s m args below meth c H locs cells slots Q (F0 m pc ls (.int (jI b) :: .int (jI a) :: rest)) := lv_icmp_le hexec hb hdg ht (fun q => kt ((jI_le h.1 h.2 g.1 g.2).mp q)) (fun q => kf (fun z => q ((jI_le h.1 h.2 g.1 g.2).mpr z)))
end NR
theorem fit_iB (b : Bool) : fits .boolean (.int (jI (iB b))) = true := by cases b <;> rfl
theorem jI_odd {n : Nat} (h : n < 2147483648) : jI (n : Int) &&& jI 1 = jI ((n % 2 : Nat) : Int) := by
  rw [jI_nat, jI_nat]
  exact pk_andN (by omega) 1 (by decide)
theorem jI_half {n : Nat} (h : n < 2147483648) : jI (n : Int) >>> (jI 1 &&& 31) = jI ((n / 2 : Nat) : Int) := by
  rw [jI_nat, jI_nat]
  exact pk_shrN (by omega) _ 1 (by decide)
theorem jI_xor0 {e d : Int} (h1 : -2147483648 ≤ e) (h2 : e < 2147483648) (d1 : 0 ≤ d) (d2 : d < 2147483648) : 0 ≤ jI e ^^^ jI d ↔ 0 ≤ e := by
  have m1 : (jI e).toBitVec.msb = decide (e < 0) := by
    rw [BitVec.msb_eq_toInt]
    have q : (jI e).toBitVec.toInt = e := jI_to h1 h2
    rw [q]
  have m2 : (jI d).toBitVec.msb = decide (d < 0) := by
    rw [BitVec.msb_eq_toInt]
    have q : (jI d).toBitVec.toInt = d := jI_to (by omega) d2
    rw [q]
  have m3 : (jI e ^^^ jI d).toBitVec.msb = decide ((jI e ^^^ jI d).toInt < 0) := by
    rw [BitVec.msb_eq_toInt]
    rfl
  have m4 : (jI e ^^^ jI d).toBitVec.msb = ((jI e).toBitVec.msb ^^ (jI d).toBitVec.msb) := by
    rw [Int32.toBitVec_xor, BitVec.msb_xor]
  rw [Int32.le_iff_toInt_le, Int32.toInt_zero]
  rw [m3, m1, m2] at m4
  by_cases he : e < 0
  · simp [he, show ¬ d < 0 by omega] at m4
    omega
  · simp [he, show ¬ d < 0 by omega] at m4
    omega
