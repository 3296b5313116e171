/-! the reference: products and powers -/
/-- matrices of four rows by their sixteen numbers -/
def mulM (A B : Nat → Zp) (i : Nat) : Zp := 0 + A (4 * (i / 4) + 0) * B (4 * 0 + i % 4) + A (4 * (i / 4) + 1) * B (4 * 1 + i % 4) + A (4 * (i / 4) + 2) * B (4 * 2 + i % 4) + A (4 * (i / 4) + 3) * B (4 * 3 + i % 4)
abbrev V4 : Type := Zp × Zp × Zp × Zp
def act (A : Nat → Zp) (v : V4) : V4 := ((A 0 * v.1 + A 1 * v.2.1 + A 2 * v.2.2.1 + A 3 * v.2.2.2), (A 4 * v.1 + A 5 * v.2.1 + A 6 * v.2.2.1 + A 7 * v.2.2.2), (A 8 * v.1 + A 9 * v.2.1 + A 10 * v.2.2.1 + A 11 * v.2.2.2), (A 12 * v.1 + A 13 * v.2.1 + A 14 * v.2.2.1 + A 15 * v.2.2.2))
theorem act_mul {A B C : Nat → Zp} (h : ∀ i, i < 16 → C i = mulM A B i) (v : V4) : act C v = act A (act B v) := by
  have e : ∀ i, i < 16 → C i = mulM A B i := h
  unfold act
  rw [e 0 (by omega), e 1 (by omega), e 2 (by omega), e 3 (by omega), e 4 (by omega), e 5 (by omega), e 6 (by omega), e 7 (by omega), e 8 (by omega), e 9 (by omega), e 10 (by omega), e 11 (by omega), e 12 (by omega), e 13 (by omega), e 14 (by omega), e 15 (by omega)]
  refine Prod.ext ?_ (Prod.ext ?_ (Prod.ext ?_ ?_))
  · show (0 + A 0 * B 0 + A 1 * B 4 + A 2 * B 8 + A 3 * B 12) * v.1 + (0 + A 0 * B 1 + A 1 * B 5 + A 2 * B 9 + A 3 * B 13) * v.2.1 + (0 + A 0 * B 2 + A 1 * B 6 + A 2 * B 10 + A 3 * B 14) * v.2.2.1 + (0 + A 0 * B 3 + A 1 * B 7 + A 2 * B 11 + A 3 * B 15) * v.2.2.2 = _
    grind
  · show (0 + A 4 * B 0 + A 5 * B 4 + A 6 * B 8 + A 7 * B 12) * v.1 + (0 + A 4 * B 1 + A 5 * B 5 + A 6 * B 9 + A 7 * B 13) * v.2.1 + (0 + A 4 * B 2 + A 5 * B 6 + A 6 * B 10 + A 7 * B 14) * v.2.2.1 + (0 + A 4 * B 3 + A 5 * B 7 + A 6 * B 11 + A 7 * B 15) * v.2.2.2 = _
    grind
  · show (0 + A 8 * B 0 + A 9 * B 4 + A 10 * B 8 + A 11 * B 12) * v.1 + (0 + A 8 * B 1 + A 9 * B 5 + A 10 * B 9 + A 11 * B 13) * v.2.1 + (0 + A 8 * B 2 + A 9 * B 6 + A 10 * B 10 + A 11 * B 14) * v.2.2.1 + (0 + A 8 * B 3 + A 9 * B 7 + A 10 * B 11 + A 11 * B 15) * v.2.2.2 = _
    grind
  · show (0 + A 12 * B 0 + A 13 * B 4 + A 14 * B 8 + A 15 * B 12) * v.1 + (0 + A 12 * B 1 + A 13 * B 5 + A 14 * B 9 + A 15 * B 13) * v.2.1 + (0 + A 12 * B 2 + A 13 * B 6 + A 14 * B 10 + A 15 * B 14) * v.2.2.1 + (0 + A 12 * B 3 + A 13 * B 7 + A 14 * B 11 + A 15 * B 15) * v.2.2.2 = _
    grind
def itN {α : Type} (f : α → α) : Nat → α → α
  | 0, v => v
  | n + 1, v => f (itN f n v)
theorem itN_in {α : Type} (f : α → α) : ∀ (n : Nat) (v : α), itN f n (f v) = f (itN f n v)
  | 0, _ => rfl
  | n + 1, v => by
    show f (itN f n (f v)) = f (f (itN f n v))
    rw [itN_in f n v]
theorem itN_two {α : Type} {f g : α → α} (h : ∀ w, g w = f (f w)) : ∀ (n : Nat) (v : α), itN g n v = itN f (2 * n) v
  | 0, _ => rfl
  | n + 1, v => by
    show g (itN g n v) = itN f (2 * (n + 1)) v
    rw [itN_two h n v, h]
    rfl
theorem act_one {A : Nat → Zp} (h : ∀ i, i < 16 → A i = if i % 5 = 0 then 1 else 0) (v : V4) : act A v = v := by
  unfold act
  rw [h 0 (by omega), h 1 (by omega), h 2 (by omega), h 3 (by omega), h 4 (by omega), h 5 (by omega), h 6 (by omega), h 7 (by omega), h 8 (by omega), h 9 (by omega), h 10 (by omega), h 11 (by omega), h 12 (by omega), h 13 (by omega), h 14 (by omega), h 15 (by omega)]
  refine Prod.ext ?_ (Prod.ext ?_ (Prod.ext ?_ ?_))
  · show (1 : Zp) * v.1 + 0 * v.2.1 + 0 * v.2.2.1 + 0 * v.2.2.2 = v.1; grind
  · show (0 : Zp) * v.1 + 1 * v.2.1 + 0 * v.2.2.1 + 0 * v.2.2.2 = v.2.1; grind
  · show (0 : Zp) * v.1 + 0 * v.2.1 + 1 * v.2.2.1 + 0 * v.2.2.2 = v.2.2.1; grind
  · show (0 : Zp) * v.1 + 0 * v.2.1 + 0 * v.2.2.1 + 1 * v.2.2.2 = v.2.2.2; grind
theorem va_up_ne' {α : Type} (f : Nat → α) {i k : Nat} (v : α) (h : i ≠ k) : va_up f k v i = f i := by simp [va_up, h]

set_option maxHeartbeats 8000000 in
set_option maxRecDepth 100000 in
/--  -/
theorem c_X7_product (l : Launch) (D : va_G) (tys : List (ClassId × FieldType)) {cJ : ClassId} (htJ : tys[1]? = some (cJ, .long)) (m0 : Nat) (a : Nat → Nat) (ms es : Nat) (th : Int32) (q o : Nat) (g h gR : Nat → Zp) : CtF (S := (Nat → Zp) × (Nat → Zp)) l D tys yX7_product wsX7_product 1 23 [.ref m0, .ref q, .ref o] (fun (u : (Nat → Zp) × (Nat → Zp)) => ∀ i, i < 16 → u.2 i = mulM g h i) [(m0, oR (jI ((ms : Nat) : Int)) (jI ((es : Nat) : Int)) th a), ((a 16), .inl (cJ, 16, .inr (.inl (fun i => vL (gR i))))), (q, .inl (cJ, 16, .inr (.inl (fun i => vL (g i))))), (o, .inl (cJ, 16, .inr (.inl (fun i => vL (h i)))))] (fun u => [(m0, oR (jI ((ms : Nat) : Int)) (jI ((es : Nat) : Int)) th a), ((a 16), .inl (cJ, 16, .inr (.inl (fun i => vL (u.1 i))))), (q, .inl (cJ, 16, .inr (.inl (fun i => vL (u.2 i))))), (o, .inl (cJ, 16, .inr (.inl (fun i => vL (h i)))))]) := by
  refine CtF.of (cc := cX7_product) (maxL := 7) (by decide +kernel) rfl (fun _ => rfl) (Nat.le_of_ble_eq_true rfl) ?_
  intro p e s m below meth c A ls hcx hK hP hD hA hl
  obtain ⟨hx, hb, hr, hml, hown, hts, hlocks⟩ := hcx
  have hS : va_S A s.heap s.heap [] := va_S.rf
  have hown : s.vm.findClass RX7 = some m.cls := hown
  have hl : lv_has ls 7 [(0, .ref m0), (1, .ref q), (2, .ref o)] := hl
  have f60 := hts (.fieldLink RX7 60 "FieldFilterModel" "part" "[J") (by decide +kernel)
  have iX7 : ∀ w ∈ u_ws RX7 TX7 20, w ∈ wsX7_product := by decide +kernel
  have lp2 : ∀ (f k : Nat) (g1 gR1 : Nat → Zp) (H : Heap) (locs : List Loc) (ls : Array Slot), 16 - k < f → k ≤ 16 → (∀ i, i < 16 → gR1 i = mulM g h i) → (∀ i, i < k → g1 i = gR1 i) → va_P D vwCl [(m0, oR (jI ((ms : Nat) : Int)) (jI ((es : Nat) : Int)) th a), ((a 16), .inl (cJ, 16, .inr (.inl (fun i => vL (gR1 i))))), (q, .inl (cJ, 16, .inr (.inl (fun i => vL (g1 i))))), (o, .inl (cJ, 16, .inr (.inl (fun i => vL (h i)))))] H → va_D A [(m0, oR (jI ((ms : Nat) : Int)) (jI ((es : Nat) : Int)) th a), ((a 16), .inl (cJ, 16, .inr (.inl (fun i => vL (gR1 i))))), (q, .inl (cJ, 16, .inr (.inl (fun i => vL (g1 i))))), (o, .inl (cJ, 16, .inr (.inl (fun i => vL (h i)))))] → va_S A s.heap H locs → lv_has ls 7 [(3, .int (jI ((k : Nat) : Int))), (0, .ref m0), (1, .ref q), (2, .ref o)] → W p l e { frames := 1, cells := 0, slots := 0, locals := 23 } s m ([Value.ref m0, Value.ref q, Value.ref o] : List Value).toArray below meth c H locs 0 0 (MQ below (EF D A (fun (u : (Nat → Zp) × (Nat → Zp)) => ∀ i, i < 16 → u.2 i = mulM g h i) (fun u => [(m0, oR (jI ((ms : Nat) : Int)) (jI ((es : Nat) : Int)) th a), ((a 16), .inl (cJ, 16, .inr (.inl (fun i => vL (u.1 i))))), (q, .inl (cJ, 16, .inr (.inl (fun i => vL (u.2 i))))), (o, .inl (cJ, 16, .inr (.inl (fun i => vL (h i)))))])) ([Value.ref m0, Value.ref q, Value.ref o] : List Value).toArray s 0 0 A) (F0 m 71 ls []) := by
    intro f
    induction f with
    | zero => intro k g1 gR1 H locs ls hf; omega
    | succ f ih =>
      intro k g1 gR1 H locs ls hf hk hR hg hP hD hS hl
      by_cases h16 : k = 16
      · refine lv_iload_n hx hb dX7_product_71 rfl (lv_at hl 0 rfl) ?_
        refine n_bipush hx hb dX7_product_72 (by decide) ?_
        refine n_icmp_ge (tgt := 92) hx hb (by unfold r32; omega) (by unfold r32; decide) dX7_product_74 (by decide) (fun h74 => ?_) (fun h74 => False.elim (by omega))
        exact e_vret (gR1, g1) hx hb hr hlocks dX7_product_92 hP hS (fun i hi => by show g1 i = _; rw [hg i (by omega), hR i hi])
      · refine lv_iload_n hx hb dX7_product_71 rfl (lv_at hl 0 rfl) ?_
        refine n_bipush hx hb dX7_product_72 (by decide) ?_
        refine n_icmp_ge (tgt := 92) hx hb (by unfold r32; omega) (by unfold r32; decide) dX7_product_74 (by decide) (fun h74 => False.elim (by omega)) (fun h74 => ?_)
        refine lv_aload_n hx hb dX7_product_77 rfl (lv_at hl 2 rfl) ?_
        refine lv_iload_n hx hb dX7_product_78 rfl (lv_at hl 0 rfl) ?_
        refine lv_aload_n hx hb dX7_product_79 rfl (lv_at hl 1 rfl) ?_
        refine va_get (D := D) (ci := 7) (v := .ref (a 16)) (C := RX7) (T := TX7) (N := 20) hx hb hts iX7 hown hK.1 hP 0 rfl rfl 18 (by decide) f60 (fun _ h9 => h9) rfl dX7_product_80 ?_
        refine lv_iload_n hx hb dX7_product_83 rfl (lv_at hl 0 rfl) ?_
        refine n_lald (i := k) hx hb hK hP 1 1 rfl htJ rfl (by omega) (Nat.le_of_ble_eq_true rfl) dX7_product_84 ?_
        refine n_zlast (i := k) (x := (gR1 k)) hx hb hK hP hD hS 2 1 rfl htJ rfl (by omega) (Nat.le_of_ble_eq_true rfl) dX7_product_85 (fun H locs hP hD hS => ?_)
        have hP : va_P D vwCl [(m0, oR (jI ((ms : Nat) : Int)) (jI ((es : Nat) : Int)) th a), ((a 16), .inl (cJ, 16, .inr (.inl (fun i => vL (gR1 i))))), (q, .inl (cJ, 16, .inr (.inl (fun i => vL ((va_up g1 k (gR1 k)) i))))), (o, .inl (cJ, 16, .inr (.inl (fun i => vL (h i)))))] H := hP
        have hD : va_D A [(m0, oR (jI ((ms : Nat) : Int)) (jI ((es : Nat) : Int)) th a), ((a 16), .inl (cJ, 16, .inr (.inl (fun i => vL (gR1 i))))), (q, .inl (cJ, 16, .inr (.inl (fun i => vL ((va_up g1 k (gR1 k)) i))))), (o, .inl (cJ, 16, .inr (.inl (fun i => vL (h i)))))] := hD
        refine lv_iinc (v := jI ((k + 1 : Nat) : Int)) (lv' := [(3, .int (jI ((k + 1 : Nat) : Int))), (0, .ref m0), (1, .ref q), (2, .ref o)]) hx hb dX7_product_86 hl (k := 0) rfl (jI_inc k) (by decide) rfl (fun ls hl => ?_)
        refine lv_goto (tgt := 71) hx hb dX7_product_89 (by decide) ?_
        refine ih (k + 1) _ gR1 H locs ls (by omega) (by omega) hR ?_ hP hD hS (lv_sub hl [0, 1, 2, 3] rfl)
        intro i hi
        by_cases hik : i = k
        · rw [hik, va_up_s]
        · rw [va_up_ne' _ _ hik]; exact hg i (by omega)
  have lp1 : ∀ (f k : Nat) (gR1 : Nat → Zp) (H : Heap) (locs : List Loc) (ls : Array Slot), 16 - k < f → k ≤ 16 → (∀ i, i < k → gR1 i = mulM g h i) → va_P D vwCl [(m0, oR (jI ((ms : Nat) : Int)) (jI ((es : Nat) : Int)) th a), ((a 16), .inl (cJ, 16, .inr (.inl (fun i => vL (gR1 i))))), (q, .inl (cJ, 16, .inr (.inl (fun i => vL (g i))))), (o, .inl (cJ, 16, .inr (.inl (fun i => vL (h i)))))] H → va_D A [(m0, oR (jI ((ms : Nat) : Int)) (jI ((es : Nat) : Int)) th a), ((a 16), .inl (cJ, 16, .inr (.inl (fun i => vL (gR1 i))))), (q, .inl (cJ, 16, .inr (.inl (fun i => vL (g i))))), (o, .inl (cJ, 16, .inr (.inl (fun i => vL (h i)))))] → va_S A s.heap H locs → lv_has ls 7 [(3, .int (jI ((k : Nat) : Int))), (0, .ref m0), (1, .ref q), (2, .ref o)] → W p l e { frames := 1, cells := 0, slots := 0, locals := 23 } s m ([Value.ref m0, Value.ref q, Value.ref o] : List Value).toArray below meth c H locs 0 0 (MQ below (EF D A (fun (u : (Nat → Zp) × (Nat → Zp)) => ∀ i, i < 16 → u.2 i = mulM g h i) (fun u => [(m0, oR (jI ((ms : Nat) : Int)) (jI ((es : Nat) : Int)) th a), ((a 16), .inl (cJ, 16, .inr (.inl (fun i => vL (u.1 i))))), (q, .inl (cJ, 16, .inr (.inl (fun i => vL (u.2 i))))), (o, .inl (cJ, 16, .inr (.inl (fun i => vL (h i)))))])) ([Value.ref m0, Value.ref q, Value.ref o] : List Value).toArray s 0 0 A) (F0 m 2 ls []) := by
    intro f
    induction f with
    | zero => intro k gR1 H locs ls hf; omega
    | succ f ih =>
      intro k gR1 H locs ls hf hk hR hP hD hS hl
      by_cases h16 : k = 16
      · refine lv_iload_n hx hb dX7_product_2 rfl (lv_at hl 0 rfl) ?_
        refine n_bipush hx hb dX7_product_3 (by decide) ?_
        refine n_icmp_ge (tgt := 69) hx hb (by unfold r32; omega) (by unfold r32; decide) dX7_product_5 (by decide) (fun h5 => ?_) (fun h5 => False.elim (by omega))
        refine n_iconst hx hb dX7_product_69 ?_
        refine lv_istore_n (lv' := [(3, .int (jI 0)), (0, .ref m0), (1, .ref q), (2, .ref o)]) hx hb dX7_product_70 rfl hl (by decide) rfl (fun ls hl => ?_)
        exact lp2 17 0 g gR1 H locs ls (by omega) (by omega) (fun i hi => hR i (by omega)) (fun i hi => absurd hi (Nat.not_lt_zero i)) hP hD hS (lv_sub hl [0, 1, 2, 3] rfl)
      · refine lv_iload_n hx hb dX7_product_2 rfl (lv_at hl 0 rfl) ?_
        refine n_bipush hx hb dX7_product_3 (by decide) ?_
        refine n_icmp_ge (tgt := 69) hx hb (by unfold r32; omega) (by unfold r32; decide) dX7_product_5 (by decide) (fun h5 => False.elim (by omega)) (fun h5 => ?_)
        refine lv_lconst (v := jL 0) hx hb dX7_product_8 rfl ?_
        refine lv_lstore (lv' := [(4, .long (jL 0)), (3, .int (jI ((k : Nat) : Int))), (0, .ref m0), (1, .ref q), (2, .ref o)]) hx hb dX7_product_9 hl (by decide) rfl (fun ls hl => ?_)
        refine n_iconst hx hb dX7_product_11 ?_
        refine lv_istore (lv' := [(6, .int (jI 0)), (4, .long (jL 0)), (3, .int (jI ((k : Nat) : Int))), (0, .ref m0), (1, .ref q), (2, .ref o)]) hx hb dX7_product_12 hl (by decide) rfl (fun ls hl => ?_)
        refine lv_iload hx hb dX7_product_14 (lv_at hl 0 rfl) ?_
        refine n_iconst hx hb dX7_product_16 ?_
        refine n_icmp_ge (tgt := 52) hx hb (by unfold r32; decide) (by unfold r32; decide) dX7_product_17 (by decide) (fun h17 => False.elim (by revert h17; decide)) (fun h17 => ?_)
        refine lv_lload hx hb dX7_product_20 (lv_at hl 1 rfl) ?_
        refine lv_aload_n hx hb dX7_product_22 rfl (lv_at hl 4 rfl) ?_
        refine n_iconst hx hb dX7_product_23 ?_
        refine lv_iload_n hx hb dX7_product_24 rfl (lv_at hl 2 rfl) ?_
        refine n_iconst hx hb dX7_product_25 ?_
        refine n_idiv hx hb dX7_product_26 (by omega) (by omega) (by omega) (by omega) ?_
        rw [show ((k : Nat) : Int) / 4 = ((k / 4 : Nat) : Int) by omega]
        refine n_imul hx hb dX7_product_27 ?_
        refine lv_iload hx hb dX7_product_28 (lv_at hl 0 rfl) ?_
        refine n_iadd hx hb dX7_product_30 ?_
        refine n_lald (i := (4 * (k / 4) + 0)) hx hb hK hP 2 1 rfl htJ (by omega) (by omega) (Nat.le_of_ble_eq_true rfl) dX7_product_31 ?_
        refine lv_aload_n hx hb dX7_product_32 rfl (lv_at hl 5 rfl) ?_
        refine n_iconst hx hb dX7_product_33 ?_
        refine lv_iload hx hb dX7_product_34 (lv_at hl 0 rfl) ?_
        refine n_imul hx hb dX7_product_36 ?_
        refine lv_iload_n hx hb dX7_product_37 rfl (lv_at hl 2 rfl) ?_
        refine n_iconst hx hb dX7_product_38 ?_
        refine n_iremK hx hb dX7_product_39 (by omega) (by omega) (by omega) (by omega) ?_
        rw [show ((k : Nat) : Int).tmod 4 = ((k % 4 : Nat) : Int) by rw [Int.tmod_eq_emod_of_nonneg (by omega)]; omega]
        refine n_iadd hx hb dX7_product_40 ?_
        refine n_lald (i := (4 * 0 + k % 4)) hx hb hK hP 3 1 rfl htJ (by omega) (by omega) (Nat.le_of_ble_eq_true rfl) dX7_product_41 ?_
        refine n_lmul hx hb dX7_product_42 ?_
        refine n_ladd hx hb dX7_product_43 ?_
        refine lv_lstore (lv' := [(4, .long (jL (0 + (zv (g (4 * (k / 4) + 0)) * zv (h (4 * 0 + k % 4)))))), (6, .int (jI 0)), (3, .int (jI ((k : Nat) : Int))), (0, .ref m0), (1, .ref q), (2, .ref o)]) hx hb dX7_product_44 hl (by decide) rfl (fun ls hl => ?_)
        refine lv_iinc (v := jI 1) (lv' := [(6, .int (jI 1)), (4, .long (jL (0 + (zv (g (4 * (k / 4) + 0)) * zv (h (4 * 0 + k % 4)))))), (3, .int (jI ((k : Nat) : Int))), (0, .ref m0), (1, .ref q), (2, .ref o)]) hx hb dX7_product_46 hl (k := 1) rfl (jI_add 0 1) (by decide) rfl (fun ls hl => ?_)
        refine lv_goto (tgt := 14) hx hb dX7_product_49 (by decide) ?_
        refine lv_iload hx hb dX7_product_14 (lv_at hl 0 rfl) ?_
        refine n_iconst hx hb dX7_product_16 ?_
        refine n_icmp_ge (tgt := 52) hx hb (by unfold r32; decide) (by unfold r32; decide) dX7_product_17 (by decide) (fun h17 => False.elim (by revert h17; decide)) (fun h17 => ?_)
        refine lv_lload hx hb dX7_product_20 (lv_at hl 1 rfl) ?_
        refine lv_aload_n hx hb dX7_product_22 rfl (lv_at hl 4 rfl) ?_
        refine n_iconst hx hb dX7_product_23 ?_
        refine lv_iload_n hx hb dX7_product_24 rfl (lv_at hl 2 rfl) ?_
        refine n_iconst hx hb dX7_product_25 ?_
        refine n_idiv hx hb dX7_product_26 (by omega) (by omega) (by omega) (by omega) ?_
        rw [show ((k : Nat) : Int) / 4 = ((k / 4 : Nat) : Int) by omega]
        refine n_imul hx hb dX7_product_27 ?_
        refine lv_iload hx hb dX7_product_28 (lv_at hl 0 rfl) ?_
        refine n_iadd hx hb dX7_product_30 ?_
        refine n_lald (i := (4 * (k / 4) + 1)) hx hb hK hP 2 1 rfl htJ (by omega) (by omega) (Nat.le_of_ble_eq_true rfl) dX7_product_31 ?_
        refine lv_aload_n hx hb dX7_product_32 rfl (lv_at hl 5 rfl) ?_
        refine n_iconst hx hb dX7_product_33 ?_
        refine lv_iload hx hb dX7_product_34 (lv_at hl 0 rfl) ?_
        refine n_imul hx hb dX7_product_36 ?_
        refine lv_iload_n hx hb dX7_product_37 rfl (lv_at hl 2 rfl) ?_
        refine n_iconst hx hb dX7_product_38 ?_
        refine n_iremK hx hb dX7_product_39 (by omega) (by omega) (by omega) (by omega) ?_
        rw [show ((k : Nat) : Int).tmod 4 = ((k % 4 : Nat) : Int) by rw [Int.tmod_eq_emod_of_nonneg (by omega)]; omega]
        refine n_iadd hx hb dX7_product_40 ?_
        refine n_lald (i := (4 * 1 + k % 4)) hx hb hK hP 3 1 rfl htJ (by omega) (by omega) (Nat.le_of_ble_eq_true rfl) dX7_product_41 ?_
        refine n_lmul hx hb dX7_product_42 ?_
        refine n_ladd hx hb dX7_product_43 ?_
        refine lv_lstore (lv' := [(4, .long (jL ((0 + (zv (g (4 * (k / 4) + 0)) * zv (h (4 * 0 + k % 4)))) + (zv (g (4 * (k / 4) + 1)) * zv (h (4 * 1 + k % 4)))))), (6, .int (jI 1)), (3, .int (jI ((k : Nat) : Int))), (0, .ref m0), (1, .ref q), (2, .ref o)]) hx hb dX7_product_44 hl (by decide) rfl (fun ls hl => ?_)
        refine lv_iinc (v := jI 2) (lv' := [(6, .int (jI 2)), (4, .long (jL ((0 + (zv (g (4 * (k / 4) + 0)) * zv (h (4 * 0 + k % 4)))) + (zv (g (4 * (k / 4) + 1)) * zv (h (4 * 1 + k % 4)))))), (3, .int (jI ((k : Nat) : Int))), (0, .ref m0), (1, .ref q), (2, .ref o)]) hx hb dX7_product_46 hl (k := 1) rfl (jI_add 1 1) (by decide) rfl (fun ls hl => ?_)
        refine lv_goto (tgt := 14) hx hb dX7_product_49 (by decide) ?_
        refine lv_iload hx hb dX7_product_14 (lv_at hl 0 rfl) ?_
        refine n_iconst hx hb dX7_product_16 ?_
        refine n_icmp_ge (tgt := 52) hx hb (by unfold r32; decide) (by unfold r32; decide) dX7_product_17 (by decide) (fun h17 => False.elim (by revert h17; decide)) (fun h17 => ?_)
        refine lv_lload hx hb dX7_product_20 (lv_at hl 1 rfl) ?_
        refine lv_aload_n hx hb dX7_product_22 rfl (lv_at hl 4 rfl) ?_
        refine n_iconst hx hb dX7_product_23 ?_
        refine lv_iload_n hx hb dX7_product_24 rfl (lv_at hl 2 rfl) ?_
        refine n_iconst hx hb dX7_product_25 ?_
        refine n_idiv hx hb dX7_product_26 (by omega) (by omega) (by omega) (by omega) ?_
        rw [show ((k : Nat) : Int) / 4 = ((k / 4 : Nat) : Int) by omega]
        refine n_imul hx hb dX7_product_27 ?_
        refine lv_iload hx hb dX7_product_28 (lv_at hl 0 rfl) ?_
        refine n_iadd hx hb dX7_product_30 ?_
        refine n_lald (i := (4 * (k / 4) + 2)) hx hb hK hP 2 1 rfl htJ (by omega) (by omega) (Nat.le_of_ble_eq_true rfl) dX7_product_31 ?_
        refine lv_aload_n hx hb dX7_product_32 rfl (lv_at hl 5 rfl) ?_
        refine n_iconst hx hb dX7_product_33 ?_
        refine lv_iload hx hb dX7_product_34 (lv_at hl 0 rfl) ?_
        refine n_imul hx hb dX7_product_36 ?_
        refine lv_iload_n hx hb dX7_product_37 rfl (lv_at hl 2 rfl) ?_
        refine n_iconst hx hb dX7_product_38 ?_
        refine n_iremK hx hb dX7_product_39 (by omega) (by omega) (by omega) (by omega) ?_
        rw [show ((k : Nat) : Int).tmod 4 = ((k % 4 : Nat) : Int) by rw [Int.tmod_eq_emod_of_nonneg (by omega)]; omega]
        refine n_iadd hx hb dX7_product_40 ?_
        refine n_lald (i := (4 * 2 + k % 4)) hx hb hK hP 3 1 rfl htJ (by omega) (by omega) (Nat.le_of_ble_eq_true rfl) dX7_product_41 ?_
        refine n_lmul hx hb dX7_product_42 ?_
        refine n_ladd hx hb dX7_product_43 ?_
        refine lv_lstore (lv' := [(4, .long (jL (((0 + (zv (g (4 * (k / 4) + 0)) * zv (h (4 * 0 + k % 4)))) + (zv (g (4 * (k / 4) + 1)) * zv (h (4 * 1 + k % 4)))) + (zv (g (4 * (k / 4) + 2)) * zv (h (4 * 2 + k % 4)))))), (6, .int (jI 2)), (3, .int (jI ((k : Nat) : Int))), (0, .ref m0), (1, .ref q), (2, .ref o)]) hx hb dX7_product_44 hl (by decide) rfl (fun ls hl => ?_)
        refine lv_iinc (v := jI 3) (lv' := [(6, .int (jI 3)), (4, .long (jL (((0 + (zv (g (4 * (k / 4) + 0)) * zv (h (4 * 0 + k % 4)))) + (zv (g (4 * (k / 4) + 1)) * zv (h (4 * 1 + k % 4)))) + (zv (g (4 * (k / 4) + 2)) * zv (h (4 * 2 + k % 4)))))), (3, .int (jI ((k : Nat) : Int))), (0, .ref m0), (1, .ref q), (2, .ref o)]) hx hb dX7_product_46 hl (k := 1) rfl (jI_add 2 1) (by decide) rfl (fun ls hl => ?_)
        refine lv_goto (tgt := 14) hx hb dX7_product_49 (by decide) ?_
        refine lv_iload hx hb dX7_product_14 (lv_at hl 0 rfl) ?_
        refine n_iconst hx hb dX7_product_16 ?_
        refine n_icmp_ge (tgt := 52) hx hb (by unfold r32; decide) (by unfold r32; decide) dX7_product_17 (by decide) (fun h17 => False.elim (by revert h17; decide)) (fun h17 => ?_)
        refine lv_lload hx hb dX7_product_20 (lv_at hl 1 rfl) ?_
        refine lv_aload_n hx hb dX7_product_22 rfl (lv_at hl 4 rfl) ?_
        refine n_iconst hx hb dX7_product_23 ?_
        refine lv_iload_n hx hb dX7_product_24 rfl (lv_at hl 2 rfl) ?_
        refine n_iconst hx hb dX7_product_25 ?_
        refine n_idiv hx hb dX7_product_26 (by omega) (by omega) (by omega) (by omega) ?_
        rw [show ((k : Nat) : Int) / 4 = ((k / 4 : Nat) : Int) by omega]
        refine n_imul hx hb dX7_product_27 ?_
        refine lv_iload hx hb dX7_product_28 (lv_at hl 0 rfl) ?_
        refine n_iadd hx hb dX7_product_30 ?_
        refine n_lald (i := (4 * (k / 4) + 3)) hx hb hK hP 2 1 rfl htJ (by omega) (by omega) (Nat.le_of_ble_eq_true rfl) dX7_product_31 ?_
        refine lv_aload_n hx hb dX7_product_32 rfl (lv_at hl 5 rfl) ?_
        refine n_iconst hx hb dX7_product_33 ?_
        refine lv_iload hx hb dX7_product_34 (lv_at hl 0 rfl) ?_
        refine n_imul hx hb dX7_product_36 ?_
        refine lv_iload_n hx hb dX7_product_37 rfl (lv_at hl 2 rfl) ?_
        refine n_iconst hx hb dX7_product_38 ?_
        refine n_iremK hx hb dX7_product_39 (by omega) (by omega) (by omega) (by omega) ?_
        rw [show ((k : Nat) : Int).tmod 4 = ((k % 4 : Nat) : Int) by rw [Int.tmod_eq_emod_of_nonneg (by omega)]; omega]
        refine n_iadd hx hb dX7_product_40 ?_
        refine n_lald (i := (4 * 3 + k % 4)) hx hb hK hP 3 1 rfl htJ (by omega) (by omega) (Nat.le_of_ble_eq_true rfl) dX7_product_41 ?_
        refine n_lmul hx hb dX7_product_42 ?_
        refine n_ladd hx hb dX7_product_43 ?_
        refine lv_lstore (lv' := [(4, .long (jL ((((0 + (zv (g (4 * (k / 4) + 0)) * zv (h (4 * 0 + k % 4)))) + (zv (g (4 * (k / 4) + 1)) * zv (h (4 * 1 + k % 4)))) + (zv (g (4 * (k / 4) + 2)) * zv (h (4 * 2 + k % 4)))) + (zv (g (4 * (k / 4) + 3)) * zv (h (4 * 3 + k % 4)))))), (6, .int (jI 3)), (3, .int (jI ((k : Nat) : Int))), (0, .ref m0), (1, .ref q), (2, .ref o)]) hx hb dX7_product_44 hl (by decide) rfl (fun ls hl => ?_)
        refine lv_iinc (v := jI 4) (lv' := [(6, .int (jI 4)), (4, .long (jL ((((0 + (zv (g (4 * (k / 4) + 0)) * zv (h (4 * 0 + k % 4)))) + (zv (g (4 * (k / 4) + 1)) * zv (h (4 * 1 + k % 4)))) + (zv (g (4 * (k / 4) + 2)) * zv (h (4 * 2 + k % 4)))) + (zv (g (4 * (k / 4) + 3)) * zv (h (4 * 3 + k % 4)))))), (3, .int (jI ((k : Nat) : Int))), (0, .ref m0), (1, .ref q), (2, .ref o)]) hx hb dX7_product_46 hl (k := 1) rfl (jI_add 3 1) (by decide) rfl (fun ls hl => ?_)
        refine lv_goto (tgt := 14) hx hb dX7_product_49 (by decide) ?_
        refine lv_iload hx hb dX7_product_14 (lv_at hl 0 rfl) ?_
        refine n_iconst hx hb dX7_product_16 ?_
        refine n_icmp_ge (tgt := 52) hx hb (by unfold r32; decide) (by unfold r32; decide) dX7_product_17 (by decide) (fun h17 => ?_) (fun h17 => False.elim (by revert h17; decide))
        refine lv_aload_n hx hb dX7_product_52 rfl (lv_at hl 3 rfl) ?_
        refine va_get (D := D) (ci := 7) (v := .ref (a 16)) (C := RX7) (T := TX7) (N := 20) hx hb hts iX7 hown hK.1 hP 0 rfl rfl 18 (by decide) f60 (fun _ h9 => h9) rfl dX7_product_53 ?_
        refine lv_iload_n hx hb dX7_product_56 rfl (lv_at hl 2 rfl) ?_
        refine lv_lload hx hb dX7_product_57 (lv_at hl 1 rfl) ?_
        have ct59 := c_X7_by l D tys ((((0 + (zv (g (4 * (k / 4) + 0)) * zv (h (4 * 0 + k % 4)))) + (zv (g (4 * (k / 4) + 1)) * zv (h (4 * 1 + k % 4)))) + (zv (g (4 * (k / 4) + 2)) * zv (h (4 * 2 + k % 4)))) + (zv (g (4 * (k / 4) + 3)) * zv (h (4 * 3 + k % 4)))) _ _ (rp_a (rp_add (rp_add (rp_add (rp_add rp_0 (rp_mul (rp_v (g (4 * (k / 4) + 0))) (rp_v (h (4 * 0 + k % 4))))) (rp_mul (rp_v (g (4 * (k / 4) + 1))) (rp_v (h (4 * 1 + k % 4))))) (rp_mul (rp_v (g (4 * (k / 4) + 2))) (rp_v (h (4 * 2 + k % 4))))) (rp_mul (rp_v (g (4 * (k / 4) + 3))) (rp_v (h (4 * 3 + k % 4)))))) (Nat.le_of_ble_eq_true rfl)
        refine k_goL (va_runS (As := [.long (jL ((((0 + (zv (g (4 * (k / 4) + 0)) * zv (h (4 * 0 + k % 4)))) + (zv (g (4 * (k / 4) + 1)) * zv (h (4 * 1 + k % 4)))) + (zv (g (4 * (k / 4) + 2)) * zv (h (4 * 2 + k % 4)))) + (zv (g (4 * (k / 4) + 3)) * zv (h (4 * 3 + k % 4)))))]) (rest := [.int (jI ((k : Nat) : Int)), .ref (a 16)]) ⟨hx, hb, hml, hown, hts⟩ (ct59.2 _) (va_cwS 1 hts gX7_product_X7_by rfl rfl rfl (by decide +kernel) ⟨Nat.le_of_ble_eq_true rfl, Nat.le_of_ble_eq_true rfl⟩) (k_pre hK hP hD (is := []) rfl rfl) rfl rfl hl.1 rfl (lv_room (Nat.le_of_ble_eq_true rfl)) dX7_product_59 ⟨Nat.le_of_ble_eq_true rfl, Nat.le_of_ble_eq_true rfl⟩) ct59.1 hP hD hS hA [] rfl rfl (fun H locs hP hD hS => ?_)
        have hP : va_P D vwCl [(m0, oR (jI ((ms : Nat) : Int)) (jI ((es : Nat) : Int)) th a), ((a 16), .inl (cJ, 16, .inr (.inl (fun i => vL (gR1 i))))), (q, .inl (cJ, 16, .inr (.inl (fun i => vL (g i))))), (o, .inl (cJ, 16, .inr (.inl (fun i => vL (h i)))))] H := hP
        have hD : va_D A [(m0, oR (jI ((ms : Nat) : Int)) (jI ((es : Nat) : Int)) th a), ((a 16), .inl (cJ, 16, .inr (.inl (fun i => vL (gR1 i))))), (q, .inl (cJ, 16, .inr (.inl (fun i => vL (g i))))), (o, .inl (cJ, 16, .inr (.inl (fun i => vL (h i)))))] := hD
        refine n_zlast (i := k) (x := ((((0 + ((g (4 * (k / 4) + 0)) * (h (4 * 0 + k % 4)))) + ((g (4 * (k / 4) + 1)) * (h (4 * 1 + k % 4)))) + ((g (4 * (k / 4) + 2)) * (h (4 * 2 + k % 4)))) + ((g (4 * (k / 4) + 3)) * (h (4 * 3 + k % 4))))) hx hb hK hP hD hS 1 1 rfl htJ rfl (by omega) (Nat.le_of_ble_eq_true rfl) dX7_product_62 (fun H locs hP hD hS => ?_)
        have hP : va_P D vwCl [(m0, oR (jI ((ms : Nat) : Int)) (jI ((es : Nat) : Int)) th a), ((a 16), .inl (cJ, 16, .inr (.inl (fun i => vL ((va_up gR1 k ((((0 + ((g (4 * (k / 4) + 0)) * (h (4 * 0 + k % 4)))) + ((g (4 * (k / 4) + 1)) * (h (4 * 1 + k % 4)))) + ((g (4 * (k / 4) + 2)) * (h (4 * 2 + k % 4)))) + ((g (4 * (k / 4) + 3)) * (h (4 * 3 + k % 4))))) i))))), (q, .inl (cJ, 16, .inr (.inl (fun i => vL (g i))))), (o, .inl (cJ, 16, .inr (.inl (fun i => vL (h i)))))] H := hP
        have hD : va_D A [(m0, oR (jI ((ms : Nat) : Int)) (jI ((es : Nat) : Int)) th a), ((a 16), .inl (cJ, 16, .inr (.inl (fun i => vL ((va_up gR1 k ((((0 + ((g (4 * (k / 4) + 0)) * (h (4 * 0 + k % 4)))) + ((g (4 * (k / 4) + 1)) * (h (4 * 1 + k % 4)))) + ((g (4 * (k / 4) + 2)) * (h (4 * 2 + k % 4)))) + ((g (4 * (k / 4) + 3)) * (h (4 * 3 + k % 4))))) i))))), (q, .inl (cJ, 16, .inr (.inl (fun i => vL (g i))))), (o, .inl (cJ, 16, .inr (.inl (fun i => vL (h i)))))] := hD
        refine lv_iinc (v := jI ((k + 1 : Nat) : Int)) (lv' := [(3, .int (jI ((k + 1 : Nat) : Int))), (6, .int (jI 4)), (4, .long (jL ((((0 + (zv (g (4 * (k / 4) + 0)) * zv (h (4 * 0 + k % 4)))) + (zv (g (4 * (k / 4) + 1)) * zv (h (4 * 1 + k % 4)))) + (zv (g (4 * (k / 4) + 2)) * zv (h (4 * 2 + k % 4)))) + (zv (g (4 * (k / 4) + 3)) * zv (h (4 * 3 + k % 4)))))), (0, .ref m0), (1, .ref q), (2, .ref o)]) hx hb dX7_product_63 hl (k := 2) rfl (jI_inc k) (by decide) rfl (fun ls hl => ?_)
        refine lv_goto (tgt := 2) hx hb dX7_product_66 (by decide) ?_
        refine ih (k + 1) _ H locs ls (by omega) (by omega) ?_ hP hD hS (lv_sub hl [0, 3, 4, 5] rfl)
        intro i hi
        by_cases hik : i = k
        · rw [hik, va_up_s]; rfl
        · rw [va_up_ne' _ _ hik]; exact hR i (by omega)
  refine n_iconst hx hb dX7_product_0 ?_
  refine lv_istore_n (lv' := [(3, .int (jI 0)), (0, .ref m0), (1, .ref q), (2, .ref o)]) hx hb dX7_product_1 rfl hl (by decide) rfl (fun ls hl => ?_)
  exact lp1 17 0 gR s.heap [] ls (by omega) (by omega) (fun i hi => absurd hi (Nat.not_lt_zero i)) hP hD hS (lv_sub hl [0, 1, 2, 3] rfl)

set_option maxHeartbeats 8000000 in
set_option maxRecDepth 100000 in
/--  -/
theorem c_X7_producta (l : Launch) (D : va_G) (tys : List (ClassId × FieldType)) {cJ : ClassId} (htJ : tys[1]? = some (cJ, .long)) (m0 : Nat) (a : Nat → Nat) (ms es : Nat) (th : Int32) (q : Nat) (g gR : Nat → Zp) : CtF (S := (Nat → Zp) × (Nat → Zp)) l D tys yX7_product wsX7_product 1 23 [.ref m0, .ref q, .ref q] (fun (u : (Nat → Zp) × (Nat → Zp)) => ∀ i, i < 16 → u.2 i = mulM g g i) [(m0, oR (jI ((ms : Nat) : Int)) (jI ((es : Nat) : Int)) th a), ((a 16), .inl (cJ, 16, .inr (.inl (fun i => vL (gR i))))), (q, .inl (cJ, 16, .inr (.inl (fun i => vL (g i)))))] (fun u => [(m0, oR (jI ((ms : Nat) : Int)) (jI ((es : Nat) : Int)) th a), ((a 16), .inl (cJ, 16, .inr (.inl (fun i => vL (u.1 i))))), (q, .inl (cJ, 16, .inr (.inl (fun i => vL (u.2 i)))))]) := by
  refine CtF.of (cc := cX7_product) (maxL := 7) (by decide +kernel) rfl (fun _ => rfl) (Nat.le_of_ble_eq_true rfl) ?_
  intro p e s m below meth c A ls hcx hK hP hD hA hl
  obtain ⟨hx, hb, hr, hml, hown, hts, hlocks⟩ := hcx
  have hS : va_S A s.heap s.heap [] := va_S.rf
  have hown : s.vm.findClass RX7 = some m.cls := hown
  have hl : lv_has ls 7 [(0, .ref m0), (1, .ref q), (2, .ref q)] := hl
  have f60 := hts (.fieldLink RX7 60 "FieldFilterModel" "part" "[J") (by decide +kernel)
  have iX7 : ∀ w ∈ u_ws RX7 TX7 20, w ∈ wsX7_product := by decide +kernel
  have lp2 : ∀ (f k : Nat) (g1 gR1 : Nat → Zp) (H : Heap) (locs : List Loc) (ls : Array Slot), 16 - k < f → k ≤ 16 → (∀ i, i < 16 → gR1 i = mulM g g i) → (∀ i, i < k → g1 i = gR1 i) → va_P D vwCl [(m0, oR (jI ((ms : Nat) : Int)) (jI ((es : Nat) : Int)) th a), ((a 16), .inl (cJ, 16, .inr (.inl (fun i => vL (gR1 i))))), (q, .inl (cJ, 16, .inr (.inl (fun i => vL (g1 i)))))] H → va_D A [(m0, oR (jI ((ms : Nat) : Int)) (jI ((es : Nat) : Int)) th a), ((a 16), .inl (cJ, 16, .inr (.inl (fun i => vL (gR1 i))))), (q, .inl (cJ, 16, .inr (.inl (fun i => vL (g1 i)))))] → va_S A s.heap H locs → lv_has ls 7 [(3, .int (jI ((k : Nat) : Int))), (0, .ref m0), (1, .ref q), (2, .ref q)] → W p l e { frames := 1, cells := 0, slots := 0, locals := 23 } s m ([Value.ref m0, Value.ref q, Value.ref q] : List Value).toArray below meth c H locs 0 0 (MQ below (EF D A (fun (u : (Nat → Zp) × (Nat → Zp)) => ∀ i, i < 16 → u.2 i = mulM g g i) (fun u => [(m0, oR (jI ((ms : Nat) : Int)) (jI ((es : Nat) : Int)) th a), ((a 16), .inl (cJ, 16, .inr (.inl (fun i => vL (u.1 i))))), (q, .inl (cJ, 16, .inr (.inl (fun i => vL (u.2 i)))))])) ([Value.ref m0, Value.ref q, Value.ref q] : List Value).toArray s 0 0 A) (F0 m 71 ls []) := by
    intro f
    induction f with
    | zero => intro k g1 gR1 H locs ls hf; omega
    | succ f ih =>
      intro k g1 gR1 H locs ls hf hk hR hg hP hD hS hl
      by_cases h16 : k = 16
      · refine lv_iload_n hx hb dX7_product_71 rfl (lv_at hl 0 rfl) ?_
        refine n_bipush hx hb dX7_product_72 (by decide) ?_
        refine n_icmp_ge (tgt := 92) hx hb (by unfold r32; omega) (by unfold r32; decide) dX7_product_74 (by decide) (fun h74 => ?_) (fun h74 => False.elim (by omega))
        exact e_vret (gR1, g1) hx hb hr hlocks dX7_product_92 hP hS (fun i hi => by show g1 i = _; rw [hg i (by omega), hR i hi])
      · refine lv_iload_n hx hb dX7_product_71 rfl (lv_at hl 0 rfl) ?_
        refine n_bipush hx hb dX7_product_72 (by decide) ?_
        refine n_icmp_ge (tgt := 92) hx hb (by unfold r32; omega) (by unfold r32; decide) dX7_product_74 (by decide) (fun h74 => False.elim (by omega)) (fun h74 => ?_)
        refine lv_aload_n hx hb dX7_product_77 rfl (lv_at hl 2 rfl) ?_
        refine lv_iload_n hx hb dX7_product_78 rfl (lv_at hl 0 rfl) ?_
        refine lv_aload_n hx hb dX7_product_79 rfl (lv_at hl 1 rfl) ?_
        refine va_get (D := D) (ci := 7) (v := .ref (a 16)) (C := RX7) (T := TX7) (N := 20) hx hb hts iX7 hown hK.1 hP 0 rfl rfl 18 (by decide) f60 (fun _ h9 => h9) rfl dX7_product_80 ?_
        refine lv_iload_n hx hb dX7_product_83 rfl (lv_at hl 0 rfl) ?_
        refine n_lald (i := k) hx hb hK hP 1 1 rfl htJ rfl (by omega) (Nat.le_of_ble_eq_true rfl) dX7_product_84 ?_
        refine n_zlast (i := k) (x := (gR1 k)) hx hb hK hP hD hS 2 1 rfl htJ rfl (by omega) (Nat.le_of_ble_eq_true rfl) dX7_product_85 (fun H locs hP hD hS => ?_)
        have hP : va_P D vwCl [(m0, oR (jI ((ms : Nat) : Int)) (jI ((es : Nat) : Int)) th a), ((a 16), .inl (cJ, 16, .inr (.inl (fun i => vL (gR1 i))))), (q, .inl (cJ, 16, .inr (.inl (fun i => vL ((va_up g1 k (gR1 k)) i)))))] H := hP
        have hD : va_D A [(m0, oR (jI ((ms : Nat) : Int)) (jI ((es : Nat) : Int)) th a), ((a 16), .inl (cJ, 16, .inr (.inl (fun i => vL (gR1 i))))), (q, .inl (cJ, 16, .inr (.inl (fun i => vL ((va_up g1 k (gR1 k)) i)))))] := hD
        refine lv_iinc (v := jI ((k + 1 : Nat) : Int)) (lv' := [(3, .int (jI ((k + 1 : Nat) : Int))), (0, .ref m0), (1, .ref q), (2, .ref q)]) hx hb dX7_product_86 hl (k := 0) rfl (jI_inc k) (by decide) rfl (fun ls hl => ?_)
        refine lv_goto (tgt := 71) hx hb dX7_product_89 (by decide) ?_
        refine ih (k + 1) _ gR1 H locs ls (by omega) (by omega) hR ?_ hP hD hS (lv_sub hl [0, 1, 2, 3] rfl)
        intro i hi
        by_cases hik : i = k
        · rw [hik, va_up_s]
        · rw [va_up_ne' _ _ hik]; exact hg i (by omega)
  have lp1 : ∀ (f k : Nat) (gR1 : Nat → Zp) (H : Heap) (locs : List Loc) (ls : Array Slot), 16 - k < f → k ≤ 16 → (∀ i, i < k → gR1 i = mulM g g i) → va_P D vwCl [(m0, oR (jI ((ms : Nat) : Int)) (jI ((es : Nat) : Int)) th a), ((a 16), .inl (cJ, 16, .inr (.inl (fun i => vL (gR1 i))))), (q, .inl (cJ, 16, .inr (.inl (fun i => vL (g i)))))] H → va_D A [(m0, oR (jI ((ms : Nat) : Int)) (jI ((es : Nat) : Int)) th a), ((a 16), .inl (cJ, 16, .inr (.inl (fun i => vL (gR1 i))))), (q, .inl (cJ, 16, .inr (.inl (fun i => vL (g i)))))] → va_S A s.heap H locs → lv_has ls 7 [(3, .int (jI ((k : Nat) : Int))), (0, .ref m0), (1, .ref q), (2, .ref q)] → W p l e { frames := 1, cells := 0, slots := 0, locals := 23 } s m ([Value.ref m0, Value.ref q, Value.ref q] : List Value).toArray below meth c H locs 0 0 (MQ below (EF D A (fun (u : (Nat → Zp) × (Nat → Zp)) => ∀ i, i < 16 → u.2 i = mulM g g i) (fun u => [(m0, oR (jI ((ms : Nat) : Int)) (jI ((es : Nat) : Int)) th a), ((a 16), .inl (cJ, 16, .inr (.inl (fun i => vL (u.1 i))))), (q, .inl (cJ, 16, .inr (.inl (fun i => vL (u.2 i)))))])) ([Value.ref m0, Value.ref q, Value.ref q] : List Value).toArray s 0 0 A) (F0 m 2 ls []) := by
    intro f
    induction f with
    | zero => intro k gR1 H locs ls hf; omega
    | succ f ih =>
      intro k gR1 H locs ls hf hk hR hP hD hS hl
      by_cases h16 : k = 16
      · refine lv_iload_n hx hb dX7_product_2 rfl (lv_at hl 0 rfl) ?_
        refine n_bipush hx hb dX7_product_3 (by decide) ?_
        refine n_icmp_ge (tgt := 69) hx hb (by unfold r32; omega) (by unfold r32; decide) dX7_product_5 (by decide) (fun h5 => ?_) (fun h5 => False.elim (by omega))
        refine n_iconst hx hb dX7_product_69 ?_
        refine lv_istore_n (lv' := [(3, .int (jI 0)), (0, .ref m0), (1, .ref q), (2, .ref q)]) hx hb dX7_product_70 rfl hl (by decide) rfl (fun ls hl => ?_)
        exact lp2 17 0 g gR1 H locs ls (by omega) (by omega) (fun i hi => hR i (by omega)) (fun i hi => absurd hi (Nat.not_lt_zero i)) hP hD hS (lv_sub hl [0, 1, 2, 3] rfl)
      · refine lv_iload_n hx hb dX7_product_2 rfl (lv_at hl 0 rfl) ?_
        refine n_bipush hx hb dX7_product_3 (by decide) ?_
        refine n_icmp_ge (tgt := 69) hx hb (by unfold r32; omega) (by unfold r32; decide) dX7_product_5 (by decide) (fun h5 => False.elim (by omega)) (fun h5 => ?_)
        refine lv_lconst (v := jL 0) hx hb dX7_product_8 rfl ?_
        refine lv_lstore (lv' := [(4, .long (jL 0)), (3, .int (jI ((k : Nat) : Int))), (0, .ref m0), (1, .ref q), (2, .ref q)]) hx hb dX7_product_9 hl (by decide) rfl (fun ls hl => ?_)
        refine n_iconst hx hb dX7_product_11 ?_
        refine lv_istore (lv' := [(6, .int (jI 0)), (4, .long (jL 0)), (3, .int (jI ((k : Nat) : Int))), (0, .ref m0), (1, .ref q), (2, .ref q)]) hx hb dX7_product_12 hl (by decide) rfl (fun ls hl => ?_)
        refine lv_iload hx hb dX7_product_14 (lv_at hl 0 rfl) ?_
        refine n_iconst hx hb dX7_product_16 ?_
        refine n_icmp_ge (tgt := 52) hx hb (by unfold r32; decide) (by unfold r32; decide) dX7_product_17 (by decide) (fun h17 => False.elim (by revert h17; decide)) (fun h17 => ?_)
        refine lv_lload hx hb dX7_product_20 (lv_at hl 1 rfl) ?_
        refine lv_aload_n hx hb dX7_product_22 rfl (lv_at hl 4 rfl) ?_
        refine n_iconst hx hb dX7_product_23 ?_
        refine lv_iload_n hx hb dX7_product_24 rfl (lv_at hl 2 rfl) ?_
        refine n_iconst hx hb dX7_product_25 ?_
        refine n_idiv hx hb dX7_product_26 (by omega) (by omega) (by omega) (by omega) ?_
        rw [show ((k : Nat) : Int) / 4 = ((k / 4 : Nat) : Int) by omega]
        refine n_imul hx hb dX7_product_27 ?_
        refine lv_iload hx hb dX7_product_28 (lv_at hl 0 rfl) ?_
        refine n_iadd hx hb dX7_product_30 ?_
        refine n_lald (i := (4 * (k / 4) + 0)) hx hb hK hP 2 1 rfl htJ (by omega) (by omega) (Nat.le_of_ble_eq_true rfl) dX7_product_31 ?_
        refine lv_aload_n hx hb dX7_product_32 rfl (lv_at hl 5 rfl) ?_
        refine n_iconst hx hb dX7_product_33 ?_
        refine lv_iload hx hb dX7_product_34 (lv_at hl 0 rfl) ?_
        refine n_imul hx hb dX7_product_36 ?_
        refine lv_iload_n hx hb dX7_product_37 rfl (lv_at hl 2 rfl) ?_
        refine n_iconst hx hb dX7_product_38 ?_
        refine n_iremK hx hb dX7_product_39 (by omega) (by omega) (by omega) (by omega) ?_
        rw [show ((k : Nat) : Int).tmod 4 = ((k % 4 : Nat) : Int) by rw [Int.tmod_eq_emod_of_nonneg (by omega)]; omega]
        refine n_iadd hx hb dX7_product_40 ?_
        refine n_lald (i := (4 * 0 + k % 4)) hx hb hK hP 2 1 rfl htJ (by omega) (by omega) (Nat.le_of_ble_eq_true rfl) dX7_product_41 ?_
        refine n_lmul hx hb dX7_product_42 ?_
        refine n_ladd hx hb dX7_product_43 ?_
        refine lv_lstore (lv' := [(4, .long (jL (0 + (zv (g (4 * (k / 4) + 0)) * zv (g (4 * 0 + k % 4)))))), (6, .int (jI 0)), (3, .int (jI ((k : Nat) : Int))), (0, .ref m0), (1, .ref q), (2, .ref q)]) hx hb dX7_product_44 hl (by decide) rfl (fun ls hl => ?_)
        refine lv_iinc (v := jI 1) (lv' := [(6, .int (jI 1)), (4, .long (jL (0 + (zv (g (4 * (k / 4) + 0)) * zv (g (4 * 0 + k % 4)))))), (3, .int (jI ((k : Nat) : Int))), (0, .ref m0), (1, .ref q), (2, .ref q)]) hx hb dX7_product_46 hl (k := 1) rfl (jI_add 0 1) (by decide) rfl (fun ls hl => ?_)
        refine lv_goto (tgt := 14) hx hb dX7_product_49 (by decide) ?_
        refine lv_iload hx hb dX7_product_14 (lv_at hl 0 rfl) ?_
        refine n_iconst hx hb dX7_product_16 ?_
        refine n_icmp_ge (tgt := 52) hx hb (by unfold r32; decide) (by unfold r32; decide) dX7_product_17 (by decide) (fun h17 => False.elim (by revert h17; decide)) (fun h17 => ?_)
        refine lv_lload hx hb dX7_product_20 (lv_at hl 1 rfl) ?_
        refine lv_aload_n hx hb dX7_product_22 rfl (lv_at hl 4 rfl) ?_
        refine n_iconst hx hb dX7_product_23 ?_
        refine lv_iload_n hx hb dX7_product_24 rfl (lv_at hl 2 rfl) ?_
        refine n_iconst hx hb dX7_product_25 ?_
        refine n_idiv hx hb dX7_product_26 (by omega) (by omega) (by omega) (by omega) ?_
        rw [show ((k : Nat) : Int) / 4 = ((k / 4 : Nat) : Int) by omega]
        refine n_imul hx hb dX7_product_27 ?_
        refine lv_iload hx hb dX7_product_28 (lv_at hl 0 rfl) ?_
        refine n_iadd hx hb dX7_product_30 ?_
        refine n_lald (i := (4 * (k / 4) + 1)) hx hb hK hP 2 1 rfl htJ (by omega) (by omega) (Nat.le_of_ble_eq_true rfl) dX7_product_31 ?_
        refine lv_aload_n hx hb dX7_product_32 rfl (lv_at hl 5 rfl) ?_
        refine n_iconst hx hb dX7_product_33 ?_
        refine lv_iload hx hb dX7_product_34 (lv_at hl 0 rfl) ?_
        refine n_imul hx hb dX7_product_36 ?_
        refine lv_iload_n hx hb dX7_product_37 rfl (lv_at hl 2 rfl) ?_
        refine n_iconst hx hb dX7_product_38 ?_
        refine n_iremK hx hb dX7_product_39 (by omega) (by omega) (by omega) (by omega) ?_
        rw [show ((k : Nat) : Int).tmod 4 = ((k % 4 : Nat) : Int) by rw [Int.tmod_eq_emod_of_nonneg (by omega)]; omega]
        refine n_iadd hx hb dX7_product_40 ?_
        refine n_lald (i := (4 * 1 + k % 4)) hx hb hK hP 2 1 rfl htJ (by omega) (by omega) (Nat.le_of_ble_eq_true rfl) dX7_product_41 ?_
        refine n_lmul hx hb dX7_product_42 ?_
        refine n_ladd hx hb dX7_product_43 ?_
        refine lv_lstore (lv' := [(4, .long (jL ((0 + (zv (g (4 * (k / 4) + 0)) * zv (g (4 * 0 + k % 4)))) + (zv (g (4 * (k / 4) + 1)) * zv (g (4 * 1 + k % 4)))))), (6, .int (jI 1)), (3, .int (jI ((k : Nat) : Int))), (0, .ref m0), (1, .ref q), (2, .ref q)]) hx hb dX7_product_44 hl (by decide) rfl (fun ls hl => ?_)
        refine lv_iinc (v := jI 2) (lv' := [(6, .int (jI 2)), (4, .long (jL ((0 + (zv (g (4 * (k / 4) + 0)) * zv (g (4 * 0 + k % 4)))) + (zv (g (4 * (k / 4) + 1)) * zv (g (4 * 1 + k % 4)))))), (3, .int (jI ((k : Nat) : Int))), (0, .ref m0), (1, .ref q), (2, .ref q)]) hx hb dX7_product_46 hl (k := 1) rfl (jI_add 1 1) (by decide) rfl (fun ls hl => ?_)
        refine lv_goto (tgt := 14) hx hb dX7_product_49 (by decide) ?_
        refine lv_iload hx hb dX7_product_14 (lv_at hl 0 rfl) ?_
        refine n_iconst hx hb dX7_product_16 ?_
        refine n_icmp_ge (tgt := 52) hx hb (by unfold r32; decide) (by unfold r32; decide) dX7_product_17 (by decide) (fun h17 => False.elim (by revert h17; decide)) (fun h17 => ?_)
        refine lv_lload hx hb dX7_product_20 (lv_at hl 1 rfl) ?_
        refine lv_aload_n hx hb dX7_product_22 rfl (lv_at hl 4 rfl) ?_
        refine n_iconst hx hb dX7_product_23 ?_
        refine lv_iload_n hx hb dX7_product_24 rfl (lv_at hl 2 rfl) ?_
        refine n_iconst hx hb dX7_product_25 ?_
        refine n_idiv hx hb dX7_product_26 (by omega) (by omega) (by omega) (by omega) ?_
        rw [show ((k : Nat) : Int) / 4 = ((k / 4 : Nat) : Int) by omega]
        refine n_imul hx hb dX7_product_27 ?_
        refine lv_iload hx hb dX7_product_28 (lv_at hl 0 rfl) ?_
        refine n_iadd hx hb dX7_product_30 ?_
        refine n_lald (i := (4 * (k / 4) + 2)) hx hb hK hP 2 1 rfl htJ (by omega) (by omega) (Nat.le_of_ble_eq_true rfl) dX7_product_31 ?_
        refine lv_aload_n hx hb dX7_product_32 rfl (lv_at hl 5 rfl) ?_
        refine n_iconst hx hb dX7_product_33 ?_
        refine lv_iload hx hb dX7_product_34 (lv_at hl 0 rfl) ?_
        refine n_imul hx hb dX7_product_36 ?_
        refine lv_iload_n hx hb dX7_product_37 rfl (lv_at hl 2 rfl) ?_
        refine n_iconst hx hb dX7_product_38 ?_
        refine n_iremK hx hb dX7_product_39 (by omega) (by omega) (by omega) (by omega) ?_
        rw [show ((k : Nat) : Int).tmod 4 = ((k % 4 : Nat) : Int) by rw [Int.tmod_eq_emod_of_nonneg (by omega)]; omega]
        refine n_iadd hx hb dX7_product_40 ?_
        refine n_lald (i := (4 * 2 + k % 4)) hx hb hK hP 2 1 rfl htJ (by omega) (by omega) (Nat.le_of_ble_eq_true rfl) dX7_product_41 ?_
        refine n_lmul hx hb dX7_product_42 ?_
        refine n_ladd hx hb dX7_product_43 ?_
        refine lv_lstore (lv' := [(4, .long (jL (((0 + (zv (g (4 * (k / 4) + 0)) * zv (g (4 * 0 + k % 4)))) + (zv (g (4 * (k / 4) + 1)) * zv (g (4 * 1 + k % 4)))) + (zv (g (4 * (k / 4) + 2)) * zv (g (4 * 2 + k % 4)))))), (6, .int (jI 2)), (3, .int (jI ((k : Nat) : Int))), (0, .ref m0), (1, .ref q), (2, .ref q)]) hx hb dX7_product_44 hl (by decide) rfl (fun ls hl => ?_)
        refine lv_iinc (v := jI 3) (lv' := [(6, .int (jI 3)), (4, .long (jL (((0 + (zv (g (4 * (k / 4) + 0)) * zv (g (4 * 0 + k % 4)))) + (zv (g (4 * (k / 4) + 1)) * zv (g (4 * 1 + k % 4)))) + (zv (g (4 * (k / 4) + 2)) * zv (g (4 * 2 + k % 4)))))), (3, .int (jI ((k : Nat) : Int))), (0, .ref m0), (1, .ref q), (2, .ref q)]) hx hb dX7_product_46 hl (k := 1) rfl (jI_add 2 1) (by decide) rfl (fun ls hl => ?_)
        refine lv_goto (tgt := 14) hx hb dX7_product_49 (by decide) ?_
        refine lv_iload hx hb dX7_product_14 (lv_at hl 0 rfl) ?_
        refine n_iconst hx hb dX7_product_16 ?_
        refine n_icmp_ge (tgt := 52) hx hb (by unfold r32; decide) (by unfold r32; decide) dX7_product_17 (by decide) (fun h17 => False.elim (by revert h17; decide)) (fun h17 => ?_)
        refine lv_lload hx hb dX7_product_20 (lv_at hl 1 rfl) ?_
        refine lv_aload_n hx hb dX7_product_22 rfl (lv_at hl 4 rfl) ?_
        refine n_iconst hx hb dX7_product_23 ?_
        refine lv_iload_n hx hb dX7_product_24 rfl (lv_at hl 2 rfl) ?_
        refine n_iconst hx hb dX7_product_25 ?_
        refine n_idiv hx hb dX7_product_26 (by omega) (by omega) (by omega) (by omega) ?_
        rw [show ((k : Nat) : Int) / 4 = ((k / 4 : Nat) : Int) by omega]
        refine n_imul hx hb dX7_product_27 ?_
        refine lv_iload hx hb dX7_product_28 (lv_at hl 0 rfl) ?_
        refine n_iadd hx hb dX7_product_30 ?_
        refine n_lald (i := (4 * (k / 4) + 3)) hx hb hK hP 2 1 rfl htJ (by omega) (by omega) (Nat.le_of_ble_eq_true rfl) dX7_product_31 ?_
        refine lv_aload_n hx hb dX7_product_32 rfl (lv_at hl 5 rfl) ?_
        refine n_iconst hx hb dX7_product_33 ?_
        refine lv_iload hx hb dX7_product_34 (lv_at hl 0 rfl) ?_
        refine n_imul hx hb dX7_product_36 ?_
        refine lv_iload_n hx hb dX7_product_37 rfl (lv_at hl 2 rfl) ?_
        refine n_iconst hx hb dX7_product_38 ?_
        refine n_iremK hx hb dX7_product_39 (by omega) (by omega) (by omega) (by omega) ?_
        rw [show ((k : Nat) : Int).tmod 4 = ((k % 4 : Nat) : Int) by rw [Int.tmod_eq_emod_of_nonneg (by omega)]; omega]
        refine n_iadd hx hb dX7_product_40 ?_
        refine n_lald (i := (4 * 3 + k % 4)) hx hb hK hP 2 1 rfl htJ (by omega) (by omega) (Nat.le_of_ble_eq_true rfl) dX7_product_41 ?_
        refine n_lmul hx hb dX7_product_42 ?_
        refine n_ladd hx hb dX7_product_43 ?_
        refine lv_lstore (lv' := [(4, .long (jL ((((0 + (zv (g (4 * (k / 4) + 0)) * zv (g (4 * 0 + k % 4)))) + (zv (g (4 * (k / 4) + 1)) * zv (g (4 * 1 + k % 4)))) + (zv (g (4 * (k / 4) + 2)) * zv (g (4 * 2 + k % 4)))) + (zv (g (4 * (k / 4) + 3)) * zv (g (4 * 3 + k % 4)))))), (6, .int (jI 3)), (3, .int (jI ((k : Nat) : Int))), (0, .ref m0), (1, .ref q), (2, .ref q)]) hx hb dX7_product_44 hl (by decide) rfl (fun ls hl => ?_)
        refine lv_iinc (v := jI 4) (lv' := [(6, .int (jI 4)), (4, .long (jL ((((0 + (zv (g (4 * (k / 4) + 0)) * zv (g (4 * 0 + k % 4)))) + (zv (g (4 * (k / 4) + 1)) * zv (g (4 * 1 + k % 4)))) + (zv (g (4 * (k / 4) + 2)) * zv (g (4 * 2 + k % 4)))) + (zv (g (4 * (k / 4) + 3)) * zv (g (4 * 3 + k % 4)))))), (3, .int (jI ((k : Nat) : Int))), (0, .ref m0), (1, .ref q), (2, .ref q)]) hx hb dX7_product_46 hl (k := 1) rfl (jI_add 3 1) (by decide) rfl (fun ls hl => ?_)
        refine lv_goto (tgt := 14) hx hb dX7_product_49 (by decide) ?_
        refine lv_iload hx hb dX7_product_14 (lv_at hl 0 rfl) ?_
        refine n_iconst hx hb dX7_product_16 ?_
        refine n_icmp_ge (tgt := 52) hx hb (by unfold r32; decide) (by unfold r32; decide) dX7_product_17 (by decide) (fun h17 => ?_) (fun h17 => False.elim (by revert h17; decide))
        refine lv_aload_n hx hb dX7_product_52 rfl (lv_at hl 3 rfl) ?_
        refine va_get (D := D) (ci := 7) (v := .ref (a 16)) (C := RX7) (T := TX7) (N := 20) hx hb hts iX7 hown hK.1 hP 0 rfl rfl 18 (by decide) f60 (fun _ h9 => h9) rfl dX7_product_53 ?_
        refine lv_iload_n hx hb dX7_product_56 rfl (lv_at hl 2 rfl) ?_
        refine lv_lload hx hb dX7_product_57 (lv_at hl 1 rfl) ?_
        have ct59 := c_X7_by l D tys ((((0 + (zv (g (4 * (k / 4) + 0)) * zv (g (4 * 0 + k % 4)))) + (zv (g (4 * (k / 4) + 1)) * zv (g (4 * 1 + k % 4)))) + (zv (g (4 * (k / 4) + 2)) * zv (g (4 * 2 + k % 4)))) + (zv (g (4 * (k / 4) + 3)) * zv (g (4 * 3 + k % 4)))) _ _ (rp_a (rp_add (rp_add (rp_add (rp_add rp_0 (rp_mul (rp_v (g (4 * (k / 4) + 0))) (rp_v (g (4 * 0 + k % 4))))) (rp_mul (rp_v (g (4 * (k / 4) + 1))) (rp_v (g (4 * 1 + k % 4))))) (rp_mul (rp_v (g (4 * (k / 4) + 2))) (rp_v (g (4 * 2 + k % 4))))) (rp_mul (rp_v (g (4 * (k / 4) + 3))) (rp_v (g (4 * 3 + k % 4)))))) (Nat.le_of_ble_eq_true rfl)
        refine k_goL (va_runS (As := [.long (jL ((((0 + (zv (g (4 * (k / 4) + 0)) * zv (g (4 * 0 + k % 4)))) + (zv (g (4 * (k / 4) + 1)) * zv (g (4 * 1 + k % 4)))) + (zv (g (4 * (k / 4) + 2)) * zv (g (4 * 2 + k % 4)))) + (zv (g (4 * (k / 4) + 3)) * zv (g (4 * 3 + k % 4)))))]) (rest := [.int (jI ((k : Nat) : Int)), .ref (a 16)]) ⟨hx, hb, hml, hown, hts⟩ (ct59.2 _) (va_cwS 1 hts gX7_product_X7_by rfl rfl rfl (by decide +kernel) ⟨Nat.le_of_ble_eq_true rfl, Nat.le_of_ble_eq_true rfl⟩) (k_pre hK hP hD (is := []) rfl rfl) rfl rfl hl.1 rfl (lv_room (Nat.le_of_ble_eq_true rfl)) dX7_product_59 ⟨Nat.le_of_ble_eq_true rfl, Nat.le_of_ble_eq_true rfl⟩) ct59.1 hP hD hS hA [] rfl rfl (fun H locs hP hD hS => ?_)
        have hP : va_P D vwCl [(m0, oR (jI ((ms : Nat) : Int)) (jI ((es : Nat) : Int)) th a), ((a 16), .inl (cJ, 16, .inr (.inl (fun i => vL (gR1 i))))), (q, .inl (cJ, 16, .inr (.inl (fun i => vL (g i)))))] H := hP
        have hD : va_D A [(m0, oR (jI ((ms : Nat) : Int)) (jI ((es : Nat) : Int)) th a), ((a 16), .inl (cJ, 16, .inr (.inl (fun i => vL (gR1 i))))), (q, .inl (cJ, 16, .inr (.inl (fun i => vL (g i)))))] := hD
        refine n_zlast (i := k) (x := ((((0 + ((g (4 * (k / 4) + 0)) * (g (4 * 0 + k % 4)))) + ((g (4 * (k / 4) + 1)) * (g (4 * 1 + k % 4)))) + ((g (4 * (k / 4) + 2)) * (g (4 * 2 + k % 4)))) + ((g (4 * (k / 4) + 3)) * (g (4 * 3 + k % 4))))) hx hb hK hP hD hS 1 1 rfl htJ rfl (by omega) (Nat.le_of_ble_eq_true rfl) dX7_product_62 (fun H locs hP hD hS => ?_)
        have hP : va_P D vwCl [(m0, oR (jI ((ms : Nat) : Int)) (jI ((es : Nat) : Int)) th a), ((a 16), .inl (cJ, 16, .inr (.inl (fun i => vL ((va_up gR1 k ((((0 + ((g (4 * (k / 4) + 0)) * (g (4 * 0 + k % 4)))) + ((g (4 * (k / 4) + 1)) * (g (4 * 1 + k % 4)))) + ((g (4 * (k / 4) + 2)) * (g (4 * 2 + k % 4)))) + ((g (4 * (k / 4) + 3)) * (g (4 * 3 + k % 4))))) i))))), (q, .inl (cJ, 16, .inr (.inl (fun i => vL (g i)))))] H := hP
        have hD : va_D A [(m0, oR (jI ((ms : Nat) : Int)) (jI ((es : Nat) : Int)) th a), ((a 16), .inl (cJ, 16, .inr (.inl (fun i => vL ((va_up gR1 k ((((0 + ((g (4 * (k / 4) + 0)) * (g (4 * 0 + k % 4)))) + ((g (4 * (k / 4) + 1)) * (g (4 * 1 + k % 4)))) + ((g (4 * (k / 4) + 2)) * (g (4 * 2 + k % 4)))) + ((g (4 * (k / 4) + 3)) * (g (4 * 3 + k % 4))))) i))))), (q, .inl (cJ, 16, .inr (.inl (fun i => vL (g i)))))] := hD
        refine lv_iinc (v := jI ((k + 1 : Nat) : Int)) (lv' := [(3, .int (jI ((k + 1 : Nat) : Int))), (6, .int (jI 4)), (4, .long (jL ((((0 + (zv (g (4 * (k / 4) + 0)) * zv (g (4 * 0 + k % 4)))) + (zv (g (4 * (k / 4) + 1)) * zv (g (4 * 1 + k % 4)))) + (zv (g (4 * (k / 4) + 2)) * zv (g (4 * 2 + k % 4)))) + (zv (g (4 * (k / 4) + 3)) * zv (g (4 * 3 + k % 4)))))), (0, .ref m0), (1, .ref q), (2, .ref q)]) hx hb dX7_product_63 hl (k := 2) rfl (jI_inc k) (by decide) rfl (fun ls hl => ?_)
        refine lv_goto (tgt := 2) hx hb dX7_product_66 (by decide) ?_
        refine ih (k + 1) _ H locs ls (by omega) (by omega) ?_ hP hD hS (lv_sub hl [0, 3, 4, 5] rfl)
        intro i hi
        by_cases hik : i = k
        · rw [hik, va_up_s]; rfl
        · rw [va_up_ne' _ _ hik]; exact hR i (by omega)
  refine n_iconst hx hb dX7_product_0 ?_
  refine lv_istore_n (lv' := [(3, .int (jI 0)), (0, .ref m0), (1, .ref q), (2, .ref q)]) hx hb dX7_product_1 rfl hl (by decide) rfl (fun ls hl => ?_)
  exact lp1 17 0 gR s.heap [] ls (by omega) (by omega) (fun i hi => absurd hi (Nat.not_lt_zero i)) hP hD hS (lv_sub hl [0, 1, 2, 3] rfl)

set_option maxHeartbeats 8000000 in
set_option maxRecDepth 100000 in
/--  -/
theorem c_X7_raises (l : Launch) (D : va_G) (tys : List (ClassId × FieldType)) {cJ : ClassId} (htJ : tys[1]? = some (cJ, .long)) (m0 : Nat) (a : Nat → Nat) (ms es : Nat) (th : Int32) (times : Nat) (qt : times ≤ 1000000000) (gP gA gR : Nat → Zp) : CtF (S := (Nat → Zp) × (Nat → Zp) × (Nat → Zp)) l D tys yX7_raises wsX7_raises 2 49 [.ref m0, .int (jI ((times : Nat) : Int))] (fun (u : (Nat → Zp) × (Nat → Zp) × (Nat → Zp)) => ∀ v : V4, act u.2.1 v = itN (act gP) times v) [(m0, oR (jI ((ms : Nat) : Int)) (jI ((es : Nat) : Int)) th a), ((a 14), .inl (cJ, 16, .inr (.inl (fun i => vL (gP i))))), ((a 15), .inl (cJ, 16, .inr (.inl (fun i => vL (gA i))))), ((a 16), .inl (cJ, 16, .inr (.inl (fun i => vL (gR i)))))] (fun u => [(m0, oR (jI ((ms : Nat) : Int)) (jI ((es : Nat) : Int)) th a), ((a 14), .inl (cJ, 16, .inr (.inl (fun i => vL (u.1 i))))), ((a 15), .inl (cJ, 16, .inr (.inl (fun i => vL (u.2.1 i))))), ((a 16), .inl (cJ, 16, .inr (.inl (fun i => vL (u.2.2 i)))))]) := by
  refine CtF.of (cc := cX7_raises) (maxL := 3) (by decide +kernel) rfl (fun _ => rfl) (Nat.le_of_ble_eq_true rfl) ?_
  intro p e s m below meth c A ls hcx hK hP hD hA hl
  obtain ⟨hx, hb, hr, hml, hown, hts, hlocks⟩ := hcx
  have hS : va_S A s.heap s.heap [] := va_S.rf
  have hown : s.vm.findClass RX7 = some m.cls := hown
  have hl : lv_has ls 3 [(0, .ref m0), (1, .int (jI ((times : Nat) : Int)))] := hl
  have f57 := hts (.fieldLink RX7 57 "FieldFilterModel" "all" "[J") (by decide +kernel)
  have iX7 : ∀ w ∈ u_ws RX7 TX7 20, w ∈ wsX7_raises := by decide +kernel
  have f54 := hts (.fieldLink RX7 54 "FieldFilterModel" "power" "[J") (by decide +kernel)
  have lp2 : ∀ (f k : Nat) (gP1 gA1 gR1 : Nat → Zp) (H : Heap) (locs : List Loc) (ls : Array Slot), k < f → k ≤ times → (∀ v, act gA1 (itN (act gP1) k v) = itN (act gP) times v) → va_P D vwCl [(m0, oR (jI ((ms : Nat) : Int)) (jI ((es : Nat) : Int)) th a), ((a 14), .inl (cJ, 16, .inr (.inl (fun i => vL (gP1 i))))), ((a 15), .inl (cJ, 16, .inr (.inl (fun i => vL (gA1 i))))), ((a 16), .inl (cJ, 16, .inr (.inl (fun i => vL (gR1 i)))))] H → va_D A [(m0, oR (jI ((ms : Nat) : Int)) (jI ((es : Nat) : Int)) th a), ((a 14), .inl (cJ, 16, .inr (.inl (fun i => vL (gP1 i))))), ((a 15), .inl (cJ, 16, .inr (.inl (fun i => vL (gA1 i))))), ((a 16), .inl (cJ, 16, .inr (.inl (fun i => vL (gR1 i)))))] → va_S A s.heap H locs → lv_has ls 3 [(2, .int (jI ((k : Nat) : Int))), (0, .ref m0), (1, .int (jI ((times : Nat) : Int)))] → W p l e { frames := 2, cells := 0, slots := 0, locals := 49 } s m ([Value.ref m0, Value.int (jI ((times : Nat) : Int))] : List Value).toArray below meth c H locs 0 0 (MQ below (EF D A (fun (u : (Nat → Zp) × (Nat → Zp) × (Nat → Zp)) => ∀ v : V4, act u.2.1 v = itN (act gP) times v) (fun u => [(m0, oR (jI ((ms : Nat) : Int)) (jI ((es : Nat) : Int)) th a), ((a 14), .inl (cJ, 16, .inr (.inl (fun i => vL (u.1 i))))), ((a 15), .inl (cJ, 16, .inr (.inl (fun i => vL (u.2.1 i))))), ((a 16), .inl (cJ, 16, .inr (.inl (fun i => vL (u.2.2 i)))))])) ([Value.ref m0, Value.int (jI ((times : Nat) : Int))] : List Value).toArray s 0 0 A) (F0 m 33 ls []) := by
    intro f
    induction f with
    | zero => intro k gP1 gA1 gR1 H locs ls hf; omega
    | succ f ih =>
      intro k gP1 gA1 gR1 H locs ls hf hk hv hP hD hS hl
      by_cases h0 : k = 0
      · refine lv_iload_n hx hb dX7_raises_33 rfl (lv_at hl 0 rfl) ?_
        refine n_if_le (tgt := 75) hx hb (by unfold r32; omega) dX7_raises_34 (by decide) (fun h34 => ?_) (fun h34 => False.elim (by omega))
        exact e_vret (gP1, gA1, gR1) hx hb hr hlocks dX7_raises_75 hP hS (fun v => by have q := hv v; rw [h0] at q; exact q)
      by_cases ho : k % 2 = 1
      · refine lv_iload_n hx hb dX7_raises_33 rfl (lv_at hl 0 rfl) ?_
        refine n_if_le (tgt := 75) hx hb (by unfold r32; omega) dX7_raises_34 (by decide) (fun h34 => False.elim (by omega)) (fun h34 => ?_)
        refine lv_iload_n hx hb dX7_raises_37 rfl (lv_at hl 0 rfl) ?_
        refine n_iconst hx hb dX7_raises_38 ?_
        refine n_iremK hx hb dX7_raises_39 (by omega) (by omega) (by omega) (by omega) ?_
        rw [show ((k : Nat) : Int).tmod 2 = ((k % 2 : Nat) : Int) by rw [Int.tmod_eq_emod_of_nonneg (by omega)]; omega]
        refine n_iconst hx hb dX7_raises_40 ?_
        refine n_icmp_ne (tgt := 56) hx hb (by unfold r32; omega) (by unfold r32; omega) dX7_raises_41 (by decide) (fun h41 => False.elim (by omega)) (fun h41 => ?_)
        refine lv_aload_n hx hb dX7_raises_44 rfl (lv_at hl 1 rfl) ?_
        refine lv_aload_n hx hb dX7_raises_45 rfl (lv_at hl 1 rfl) ?_
        refine va_get (D := D) (ci := 7) (v := .ref (a 15)) (C := RX7) (T := TX7) (N := 20) hx hb hts iX7 hown hK.1 hP 0 rfl rfl 17 (by decide) f57 (fun _ h9 => h9) rfl dX7_raises_46 ?_
        refine lv_aload_n hx hb dX7_raises_49 rfl (lv_at hl 1 rfl) ?_
        refine va_get (D := D) (ci := 7) (v := .ref (a 14)) (C := RX7) (T := TX7) (N := 20) hx hb hts iX7 hown hK.1 hP 0 rfl rfl 16 (by decide) f54 (fun _ h9 => h9) rfl dX7_raises_50 ?_
        have ctp1 := c_X7_product l D tys htJ m0 a ms es th (a 15) (a 14) gA1 gP1 gR1
        refine k_goF (va_runV (As := [.ref (a 15), .ref (a 14)]) (rest := []) ⟨hx, hb, hml, hown, hts⟩ (ctp1.2 _) (cwV 2 hts gX7_raises_X7_product rfl rfl rfl (by decide +kernel) ⟨Nat.le_of_ble_eq_true rfl, Nat.le_of_ble_eq_true rfl⟩) ⟨(k_pre hK hP hD (is := [0, 3, 2, 1]) rfl rfl).1, va_recv hK.1 hP (ci := 7) (q0 := 0) rfl rfl, (k_pre hK hP hD (is := [0, 3, 2, 1]) rfl rfl).2⟩ rfl rfl hl.1 rfl (lv_room (Nat.le_of_ble_eq_true rfl)) dX7_raises_53 ⟨Nat.le_of_ble_eq_true rfl, Nat.le_of_ble_eq_true rfl⟩) ctp1.1 hP hD hS hA [0, 3, 2, 1] rfl rfl (fun u H locs hm1 hP hD hS => ?_)
        obtain ⟨gR2, gA2⟩ := u
        have hP : va_P D vwCl [(m0, oR (jI ((ms : Nat) : Int)) (jI ((es : Nat) : Int)) th a), ((a 14), .inl (cJ, 16, .inr (.inl (fun i => vL (gP1 i))))), ((a 15), .inl (cJ, 16, .inr (.inl (fun i => vL (gA2 i))))), ((a 16), .inl (cJ, 16, .inr (.inl (fun i => vL (gR2 i)))))] H := hP
        have hD : va_D A [(m0, oR (jI ((ms : Nat) : Int)) (jI ((es : Nat) : Int)) th a), ((a 14), .inl (cJ, 16, .inr (.inl (fun i => vL (gP1 i))))), ((a 15), .inl (cJ, 16, .inr (.inl (fun i => vL (gA2 i))))), ((a 16), .inl (cJ, 16, .inr (.inl (fun i => vL (gR2 i)))))] := hD
        refine lv_aload_n hx hb dX7_raises_56 rfl (lv_at hl 1 rfl) ?_
        refine lv_aload_n hx hb dX7_raises_57 rfl (lv_at hl 1 rfl) ?_
        refine va_get (D := D) (ci := 7) (v := .ref (a 14)) (C := RX7) (T := TX7) (N := 20) hx hb hts iX7 hown hK.1 hP 0 rfl rfl 16 (by decide) f54 (fun _ h9 => h9) rfl dX7_raises_58 ?_
        refine lv_aload_n hx hb dX7_raises_61 rfl (lv_at hl 1 rfl) ?_
        refine va_get (D := D) (ci := 7) (v := .ref (a 14)) (C := RX7) (T := TX7) (N := 20) hx hb hts iX7 hown hK.1 hP 0 rfl rfl 16 (by decide) f54 (fun _ h9 => h9) rfl dX7_raises_62 ?_
        have ctp2 := c_X7_producta l D tys htJ m0 a ms es th (a 14) gP1 gR2
        refine k_goF (va_runV (As := [.ref (a 14), .ref (a 14)]) (rest := []) ⟨hx, hb, hml, hown, hts⟩ (ctp2.2 _) (cwV 2 hts gX7_raises_X7_product rfl rfl rfl (by decide +kernel) ⟨Nat.le_of_ble_eq_true rfl, Nat.le_of_ble_eq_true rfl⟩) ⟨(k_pre hK hP hD (is := [0, 3, 1]) rfl rfl).1, va_recv hK.1 hP (ci := 7) (q0 := 0) rfl rfl, (k_pre hK hP hD (is := [0, 3, 1]) rfl rfl).2⟩ rfl rfl hl.1 rfl (lv_room (Nat.le_of_ble_eq_true rfl)) dX7_raises_65 ⟨Nat.le_of_ble_eq_true rfl, Nat.le_of_ble_eq_true rfl⟩) ctp2.1 hP hD hS hA [0, 3, 1] rfl rfl (fun u H locs hm2 hP hD hS => ?_)
        obtain ⟨gR3, gP2⟩ := u
        have hP : va_P D vwCl [(m0, oR (jI ((ms : Nat) : Int)) (jI ((es : Nat) : Int)) th a), ((a 14), .inl (cJ, 16, .inr (.inl (fun i => vL (gP2 i))))), ((a 15), .inl (cJ, 16, .inr (.inl (fun i => vL (gA2 i))))), ((a 16), .inl (cJ, 16, .inr (.inl (fun i => vL (gR3 i)))))] H := hP
        have hD : va_D A [(m0, oR (jI ((ms : Nat) : Int)) (jI ((es : Nat) : Int)) th a), ((a 14), .inl (cJ, 16, .inr (.inl (fun i => vL (gP2 i))))), ((a 15), .inl (cJ, 16, .inr (.inl (fun i => vL (gA2 i))))), ((a 16), .inl (cJ, 16, .inr (.inl (fun i => vL (gR3 i)))))] := hD
        refine lv_iload_n hx hb dX7_raises_68 rfl (lv_at hl 0 rfl) ?_
        refine n_iconst hx hb dX7_raises_69 ?_
        refine n_idiv hx hb dX7_raises_70 (by omega) (by omega) (by omega) (by omega) ?_
        rw [show ((k : Nat) : Int) / 2 = ((k / 2 : Nat) : Int) by omega]
        refine lv_istore_n (lv' := [(2, .int (jI ((k / 2 : Nat) : Int))), (0, .ref m0), (1, .int (jI ((times : Nat) : Int)))]) hx hb dX7_raises_71 rfl hl (by decide) rfl (fun ls hl => ?_)
        refine lv_goto (tgt := 33) hx hb dX7_raises_72 (by decide) ?_
        have hm2 : ∀ w, act gP2 w = act gP1 (act gP1 w) := act_mul hm2
        refine ih (k / 2) gP2 gA2 gR3 H locs ls (by omega) (by omega) ?_ hP hD hS (lv_sub hl [0, 1, 2] rfl)
        intro v
        rw [← hv v, itN_two hm2]
        have hm1 : ∀ w, act gA2 w = act gA1 (act gP1 w) := act_mul hm1
        rw [hm1]
        have hk2 : k = 2 * (k / 2) + 1 := by omega
        exact congrArg (act gA1) (show itN (act gP1) (2 * (k / 2) + 1) v = _ by rw [← hk2])
      · refine lv_iload_n hx hb dX7_raises_33 rfl (lv_at hl 0 rfl) ?_
        refine n_if_le (tgt := 75) hx hb (by unfold r32; omega) dX7_raises_34 (by decide) (fun h34 => False.elim (by omega)) (fun h34 => ?_)
        refine lv_iload_n hx hb dX7_raises_37 rfl (lv_at hl 0 rfl) ?_
        refine n_iconst hx hb dX7_raises_38 ?_
        refine n_iremK hx hb dX7_raises_39 (by omega) (by omega) (by omega) (by omega) ?_
        rw [show ((k : Nat) : Int).tmod 2 = ((k % 2 : Nat) : Int) by rw [Int.tmod_eq_emod_of_nonneg (by omega)]; omega]
        refine n_iconst hx hb dX7_raises_40 ?_
        refine n_icmp_ne (tgt := 56) hx hb (by unfold r32; omega) (by unfold r32; omega) dX7_raises_41 (by decide) (fun h41 => ?_) (fun h41 => False.elim (by omega))
        refine lv_aload_n hx hb dX7_raises_56 rfl (lv_at hl 1 rfl) ?_
        refine lv_aload_n hx hb dX7_raises_57 rfl (lv_at hl 1 rfl) ?_
        refine va_get (D := D) (ci := 7) (v := .ref (a 14)) (C := RX7) (T := TX7) (N := 20) hx hb hts iX7 hown hK.1 hP 0 rfl rfl 16 (by decide) f54 (fun _ h9 => h9) rfl dX7_raises_58 ?_
        refine lv_aload_n hx hb dX7_raises_61 rfl (lv_at hl 1 rfl) ?_
        refine va_get (D := D) (ci := 7) (v := .ref (a 14)) (C := RX7) (T := TX7) (N := 20) hx hb hts iX7 hown hK.1 hP 0 rfl rfl 16 (by decide) f54 (fun _ h9 => h9) rfl dX7_raises_62 ?_
        have ctp2 := c_X7_producta l D tys htJ m0 a ms es th (a 14) gP1 gR1
        refine k_goF (va_runV (As := [.ref (a 14), .ref (a 14)]) (rest := []) ⟨hx, hb, hml, hown, hts⟩ (ctp2.2 _) (cwV 2 hts gX7_raises_X7_product rfl rfl rfl (by decide +kernel) ⟨Nat.le_of_ble_eq_true rfl, Nat.le_of_ble_eq_true rfl⟩) ⟨(k_pre hK hP hD (is := [0, 3, 1]) rfl rfl).1, va_recv hK.1 hP (ci := 7) (q0 := 0) rfl rfl, (k_pre hK hP hD (is := [0, 3, 1]) rfl rfl).2⟩ rfl rfl hl.1 rfl (lv_room (Nat.le_of_ble_eq_true rfl)) dX7_raises_65 ⟨Nat.le_of_ble_eq_true rfl, Nat.le_of_ble_eq_true rfl⟩) ctp2.1 hP hD hS hA [0, 3, 1] rfl rfl (fun u H locs hm2 hP hD hS => ?_)
        obtain ⟨gR3, gP2⟩ := u
        have hP : va_P D vwCl [(m0, oR (jI ((ms : Nat) : Int)) (jI ((es : Nat) : Int)) th a), ((a 14), .inl (cJ, 16, .inr (.inl (fun i => vL (gP2 i))))), ((a 15), .inl (cJ, 16, .inr (.inl (fun i => vL (gA1 i))))), ((a 16), .inl (cJ, 16, .inr (.inl (fun i => vL (gR3 i)))))] H := hP
        have hD : va_D A [(m0, oR (jI ((ms : Nat) : Int)) (jI ((es : Nat) : Int)) th a), ((a 14), .inl (cJ, 16, .inr (.inl (fun i => vL (gP2 i))))), ((a 15), .inl (cJ, 16, .inr (.inl (fun i => vL (gA1 i))))), ((a 16), .inl (cJ, 16, .inr (.inl (fun i => vL (gR3 i)))))] := hD
        refine lv_iload_n hx hb dX7_raises_68 rfl (lv_at hl 0 rfl) ?_
        refine n_iconst hx hb dX7_raises_69 ?_
        refine n_idiv hx hb dX7_raises_70 (by omega) (by omega) (by omega) (by omega) ?_
        rw [show ((k : Nat) : Int) / 2 = ((k / 2 : Nat) : Int) by omega]
        refine lv_istore_n (lv' := [(2, .int (jI ((k / 2 : Nat) : Int))), (0, .ref m0), (1, .int (jI ((times : Nat) : Int)))]) hx hb dX7_raises_71 rfl hl (by decide) rfl (fun ls hl => ?_)
        refine lv_goto (tgt := 33) hx hb dX7_raises_72 (by decide) ?_
        have hm2 : ∀ w, act gP2 w = act gP1 (act gP1 w) := act_mul hm2
        refine ih (k / 2) gP2 gA1 gR3 H locs ls (by omega) (by omega) ?_ hP hD hS (lv_sub hl [0, 1, 2] rfl)
        intro v
        rw [← hv v, itN_two hm2]
        rw [show 2 * (k / 2) = k by omega]
  have lp1 : ∀ (f k : Nat) (gA1 : Nat → Zp) (H : Heap) (locs : List Loc) (ls : Array Slot), 16 - k < f → k ≤ 16 → (∀ i, i < k → gA1 i = if i % 5 = 0 then 1 else 0) → va_P D vwCl [(m0, oR (jI ((ms : Nat) : Int)) (jI ((es : Nat) : Int)) th a), ((a 14), .inl (cJ, 16, .inr (.inl (fun i => vL (gP i))))), ((a 15), .inl (cJ, 16, .inr (.inl (fun i => vL (gA1 i))))), ((a 16), .inl (cJ, 16, .inr (.inl (fun i => vL (gR i)))))] H → va_D A [(m0, oR (jI ((ms : Nat) : Int)) (jI ((es : Nat) : Int)) th a), ((a 14), .inl (cJ, 16, .inr (.inl (fun i => vL (gP i))))), ((a 15), .inl (cJ, 16, .inr (.inl (fun i => vL (gA1 i))))), ((a 16), .inl (cJ, 16, .inr (.inl (fun i => vL (gR i)))))] → va_S A s.heap H locs → lv_has ls 3 [(2, .int (jI ((k : Nat) : Int))), (0, .ref m0), (1, .int (jI ((times : Nat) : Int)))] → W p l e { frames := 2, cells := 0, slots := 0, locals := 49 } s m ([Value.ref m0, Value.int (jI ((times : Nat) : Int))] : List Value).toArray below meth c H locs 0 0 (MQ below (EF D A (fun (u : (Nat → Zp) × (Nat → Zp) × (Nat → Zp)) => ∀ v : V4, act u.2.1 v = itN (act gP) times v) (fun u => [(m0, oR (jI ((ms : Nat) : Int)) (jI ((es : Nat) : Int)) th a), ((a 14), .inl (cJ, 16, .inr (.inl (fun i => vL (u.1 i))))), ((a 15), .inl (cJ, 16, .inr (.inl (fun i => vL (u.2.1 i))))), ((a 16), .inl (cJ, 16, .inr (.inl (fun i => vL (u.2.2 i)))))])) ([Value.ref m0, Value.int (jI ((times : Nat) : Int))] : List Value).toArray s 0 0 A) (F0 m 2 ls []) := by
    intro f
    induction f with
    | zero => intro k gA1 H locs ls hf; omega
    | succ f ih =>
      intro k gA1 H locs ls hf hk hA1 hP hD hS hl
      by_cases h16 : k = 16
      · refine lv_iload_n hx hb dX7_raises_2 rfl (lv_at hl 0 rfl) ?_
        refine n_bipush hx hb dX7_raises_3 (by decide) ?_
        refine n_icmp_ge (tgt := 31) hx hb (by unfold r32; omega) (by unfold r32; decide) dX7_raises_5 (by decide) (fun h5 => ?_) (fun h5 => False.elim (by omega))
        refine lv_iload_n hx hb dX7_raises_31 rfl (lv_at hl 2 rfl) ?_
        refine lv_istore_n (lv' := [(2, .int (jI ((times : Nat) : Int))), (0, .ref m0), (1, .int (jI ((times : Nat) : Int)))]) hx hb dX7_raises_32 rfl hl (by decide) rfl (fun ls hl => ?_)
        exact lp2 (times + 1) times gP gA1 gR H locs ls (by omega) (by omega) (fun v => act_one (fun i hi => hA1 i (by omega)) _) hP hD hS (lv_sub hl [0, 1, 2] rfl)
      by_cases ho : k % 5 = 0
      · refine lv_iload_n hx hb dX7_raises_2 rfl (lv_at hl 0 rfl) ?_
        refine n_bipush hx hb dX7_raises_3 (by decide) ?_
        refine n_icmp_ge (tgt := 31) hx hb (by unfold r32; omega) (by unfold r32; decide) dX7_raises_5 (by decide) (fun h5 => False.elim (by omega)) (fun h5 => ?_)
        refine lv_aload_n hx hb dX7_raises_8 rfl (lv_at hl 1 rfl) ?_
        refine va_get (D := D) (ci := 7) (v := .ref (a 15)) (C := RX7) (T := TX7) (N := 20) hx hb hts iX7 hown hK.1 hP 0 rfl rfl 17 (by decide) f57 (fun _ h9 => h9) rfl dX7_raises_9 ?_
        refine lv_iload_n hx hb dX7_raises_12 rfl (lv_at hl 0 rfl) ?_
        refine lv_iload_n hx hb dX7_raises_13 rfl (lv_at hl 0 rfl) ?_
        refine n_iconst hx hb dX7_raises_14 ?_
        refine n_iremK hx hb dX7_raises_15 (by omega) (by omega) (by omega) (by omega) ?_
        rw [show ((k : Nat) : Int).tmod 5 = ((k % 5 : Nat) : Int) by rw [Int.tmod_eq_emod_of_nonneg (by omega)]; omega]
        refine n_if_ne (tgt := 23) hx hb (by unfold r32; omega) dX7_raises_16 (by decide) (fun h16 => False.elim (by omega)) (fun h16 => ?_)
        refine lv_lconst (v := jL 1) hx hb dX7_raises_19 rfl ?_
        refine lv_goto (tgt := 24) hx hb dX7_raises_20 (by decide) ?_
        refine n_zlast (i := k) (x := 1) hx hb hK hP hD hS 2 1 rfl htJ rfl (by omega) (Nat.le_of_ble_eq_true rfl) dX7_raises_24 (fun H locs hP hD hS => ?_)
        have hP : va_P D vwCl [(m0, oR (jI ((ms : Nat) : Int)) (jI ((es : Nat) : Int)) th a), ((a 14), .inl (cJ, 16, .inr (.inl (fun i => vL (gP i))))), ((a 15), .inl (cJ, 16, .inr (.inl (fun i => vL ((va_up gA1 k 1) i))))), ((a 16), .inl (cJ, 16, .inr (.inl (fun i => vL (gR i)))))] H := hP
        have hD : va_D A [(m0, oR (jI ((ms : Nat) : Int)) (jI ((es : Nat) : Int)) th a), ((a 14), .inl (cJ, 16, .inr (.inl (fun i => vL (gP i))))), ((a 15), .inl (cJ, 16, .inr (.inl (fun i => vL ((va_up gA1 k 1) i))))), ((a 16), .inl (cJ, 16, .inr (.inl (fun i => vL (gR i)))))] := hD
        refine lv_iinc (v := jI ((k + 1 : Nat) : Int)) (lv' := [(2, .int (jI ((k + 1 : Nat) : Int))), (0, .ref m0), (1, .int (jI ((times : Nat) : Int)))]) hx hb dX7_raises_25 hl (k := 0) rfl (jI_inc k) (by decide) rfl (fun ls hl => ?_)
        refine lv_goto (tgt := 2) hx hb dX7_raises_28 (by decide) ?_
        refine ih (k + 1) _ H locs ls (by omega) (by omega) ?_ hP hD hS (lv_sub hl [0, 1, 2] rfl)
        intro i hi
        by_cases hik : i = k
        · rw [hik, va_up_s, if_pos ho]
        · rw [va_up_ne' _ _ hik]; exact hA1 i (by omega)
      · refine lv_iload_n hx hb dX7_raises_2 rfl (lv_at hl 0 rfl) ?_
        refine n_bipush hx hb dX7_raises_3 (by decide) ?_
        refine n_icmp_ge (tgt := 31) hx hb (by unfold r32; omega) (by unfold r32; decide) dX7_raises_5 (by decide) (fun h5 => False.elim (by omega)) (fun h5 => ?_)
        refine lv_aload_n hx hb dX7_raises_8 rfl (lv_at hl 1 rfl) ?_
        refine va_get (D := D) (ci := 7) (v := .ref (a 15)) (C := RX7) (T := TX7) (N := 20) hx hb hts iX7 hown hK.1 hP 0 rfl rfl 17 (by decide) f57 (fun _ h9 => h9) rfl dX7_raises_9 ?_
        refine lv_iload_n hx hb dX7_raises_12 rfl (lv_at hl 0 rfl) ?_
        refine lv_iload_n hx hb dX7_raises_13 rfl (lv_at hl 0 rfl) ?_
        refine n_iconst hx hb dX7_raises_14 ?_
        refine n_iremK hx hb dX7_raises_15 (by omega) (by omega) (by omega) (by omega) ?_
        rw [show ((k : Nat) : Int).tmod 5 = ((k % 5 : Nat) : Int) by rw [Int.tmod_eq_emod_of_nonneg (by omega)]; omega]
        refine n_if_ne (tgt := 23) hx hb (by unfold r32; omega) dX7_raises_16 (by decide) (fun h16 => ?_) (fun h16 => False.elim (by omega))
        refine lv_lconst (v := jL 0) hx hb dX7_raises_23 rfl ?_
        refine n_zlast (i := k) (x := 0) hx hb hK hP hD hS 2 1 rfl htJ rfl (by omega) (Nat.le_of_ble_eq_true rfl) dX7_raises_24 (fun H locs hP hD hS => ?_)
        have hP : va_P D vwCl [(m0, oR (jI ((ms : Nat) : Int)) (jI ((es : Nat) : Int)) th a), ((a 14), .inl (cJ, 16, .inr (.inl (fun i => vL (gP i))))), ((a 15), .inl (cJ, 16, .inr (.inl (fun i => vL ((va_up gA1 k 0) i))))), ((a 16), .inl (cJ, 16, .inr (.inl (fun i => vL (gR i)))))] H := hP
        have hD : va_D A [(m0, oR (jI ((ms : Nat) : Int)) (jI ((es : Nat) : Int)) th a), ((a 14), .inl (cJ, 16, .inr (.inl (fun i => vL (gP i))))), ((a 15), .inl (cJ, 16, .inr (.inl (fun i => vL ((va_up gA1 k 0) i))))), ((a 16), .inl (cJ, 16, .inr (.inl (fun i => vL (gR i)))))] := hD
        refine lv_iinc (v := jI ((k + 1 : Nat) : Int)) (lv' := [(2, .int (jI ((k + 1 : Nat) : Int))), (0, .ref m0), (1, .int (jI ((times : Nat) : Int)))]) hx hb dX7_raises_25 hl (k := 0) rfl (jI_inc k) (by decide) rfl (fun ls hl => ?_)
        refine lv_goto (tgt := 2) hx hb dX7_raises_28 (by decide) ?_
        refine ih (k + 1) _ H locs ls (by omega) (by omega) ?_ hP hD hS (lv_sub hl [0, 1, 2] rfl)
        intro i hi
        by_cases hik : i = k
        · rw [hik, va_up_s, if_neg ho]
        · rw [va_up_ne' _ _ hik]; exact hA1 i (by omega)
  refine n_iconst hx hb dX7_raises_0 ?_
  refine lv_istore_n (lv' := [(2, .int (jI 0)), (0, .ref m0), (1, .int (jI ((times : Nat) : Int)))]) hx hb dX7_raises_1 rfl hl (by decide) rfl (fun ls hl => ?_)
  exact lp1 17 0 gA s.heap [] ls (by omega) (by omega) (fun i hi => absurd hi (Nat.not_lt_zero i)) hP hD hS (lv_sub hl [0, 1, 2] rfl)
