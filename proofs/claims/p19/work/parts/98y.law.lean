/-! the law: by, over, predicts -/
set_option maxHeartbeats 4000000 in
set_option maxRecDepth 100000 in
/--  -/
theorem c_L_by (l : Launch) (D : va_G) (tys : List (ClassId × FieldType)) (x : Int) (z : Zp) (M : Nat) (h : Ra x z M) (hM : M < 9223372036854775808) : CtL l D tys yL_by wsL_by 0 0 [.long (jL x)] (vL z) [] [] := by
  refine CtL.of (cc := cL_by) (maxL := 2) (by decide +kernel) rfl rfl (Nat.le_of_ble_eq_true rfl) ?_
  intro p e s m below meth c A ls hcx hK hP hD hA hl
  obtain ⟨hx, hb, hr, hml, hown, hts, hlocks⟩ := hcx
  have hS : va_S A s.heap s.heap [] := va_S.rf
  have hown : s.vm.findClass RL = some m.cls := hown
  have hl : lv_has ls 2 [(0, .long (jL x))] := hl
  obtain ⟨g1, g2, hz0⟩ := h
  have hz : zv z = x % 10007 := by rw [← hz0, zv_zc]
  have zx : vL z = jL (zv z) := rfl
  have tm := Int.mul_tdiv_add_tmod x 10007
  have t1 : x.tmod 10007 < 10007 := Int.tmod_lt_of_pos x (by omega)
  have t2 : -10007 < x.tmod 10007 := by
    have q := Int.tmod_lt_of_pos (-x) (b := 10007) (by omega)
    rw [Int.neg_tmod] at q
    omega
  have k74 : (Cond.constantLong RL 74 (jL 10007)).before _ s = true := hts (.constantLong RL 74 (10007)) (by decide +kernel)
  refine lv_lload_n hx hb dL_by_0 rfl (lv_at hl 0 rfl) ?_
  refine lv_ldc2 (v := jL 10007) hx hb hown k74 dL_by_1 ?_
  refine n_lremK hx hb dL_by_4 (by omega) (by omega) ?_
  refine lv_lconst (v := jL 0) hx hb dL_by_5 rfl ?_
  refine W.lcmp hx hb dL_by_6 ?_
  by_cases q0 : 0 ≤ x.tmod 10007
  · refine lv_if_ge (tgt := 22) hx hb dL_by_7 (by decide) (fun h9 => ?_) (fun h9 => absurd ((lg_cmp_ge _ _).mpr (by rw [Int64.le_iff_toInt_le, jL_to (by omega) (by omega), jL_to (by omega) (by omega)]; exact q0)) h9)
    refine lv_lload_n hx hb dL_by_22 rfl (lv_at hl 0 rfl) ?_
    refine lv_ldc2 (v := jL 10007) hx hb hown k74 dL_by_23 ?_
    refine n_lremK hx hb dL_by_26 (by omega) (by omega) ?_
    exact k_lret hx hb hr hlocks dL_by_27 hP hS (by rw [zx, hz]; congr 1; omega)
  · refine lv_if_ge (tgt := 22) hx hb dL_by_7 (by decide) (fun h9 => absurd (by have h8 := (lg_cmp_ge _ _).mp h9; rw [Int64.le_iff_toInt_le, jL_to (by omega) (by omega), jL_to (by omega) (by omega)] at h8; exact h8) q0) (fun h9 => ?_)
    refine lv_lload_n hx hb dL_by_10 rfl (lv_at hl 0 rfl) ?_
    refine lv_ldc2 (v := jL 10007) hx hb hown k74 dL_by_11 ?_
    refine n_lremK hx hb dL_by_14 (by omega) (by omega) ?_
    refine lv_ldc2 (v := jL 10007) hx hb hown k74 dL_by_15 ?_
    refine n_ladd hx hb dL_by_18 ?_
    refine lv_goto (tgt := 27) hx hb dL_by_19 (by decide) ?_
    exact k_lret hx hb hr hlocks dL_by_27 hP hS (by rw [zx, hz]; congr 1; omega)

/-! dividing with rests -/
theorem gc_0 : ∀ i, i < 101 → ∀ j, j < 100 → 100 * i + j = 0 ∨ 10007 ≤ 100 * i + j ∨ Nat.gcd 10007 (100 * i + j) = 1 := by decide +kernel
theorem gc_all {n : Nat} (h : n < 10007) (h0 : n ≠ 0) : Nat.gcd 10007 n = 1 := by
  have e := gc_0 (n / 100) (by omega) (n % 100) (by omega)
  rw [show 100 * (n / 100) + n % 100 = n by omega] at e
  omega
/-- what holds all along the dividing -/
def EUI (z : Zp) (a b : Nat) (f g : Int) : Prop := 0 < a ∧ a ≤ 10007 ∧ b ≤ 10007 ∧ zc (a : Int) = zc f * z ∧ zc (b : Int) = zc g * z ∧ a * g.natAbs + b * f.natAbs ≤ 10007 ∧ f.natAbs ≤ 10007 ∧ ((z = 0 ∧ f = 0 ∧ b = 0) ∨ Nat.gcd a b = 1)
theorem EUI.first (z : Zp) : EUI z 10007 z.val 0 1 := by
  have hz := z.isLt
  refine ⟨by omega, by omega, by omega, ?_, ?_, (by show 10007 * 1 + z.val * 0 ≤ 10007; omega), by decide, ?_⟩
  · rw [zc_0, Fin.zero_mul]; decide
  · rw [zc_1, Fin.one_mul]; exact zc_zv z
  · by_cases h : z.val = 0
    · exact Or.inl ⟨Fin.ext h, rfl, h⟩
    · exact Or.inr (gc_all hz h)
theorem EUI.last {z : Zp} {a : Nat} {f g : Int} (h : EUI z a 0 f g) : zc f = zinv z ∧ Ra f (zc f) 10007 := by
  obtain ⟨h1, h2, h3, h4, h5, h6, h7, h8⟩ := h
  refine ⟨?_, by omega, by omega, rfl⟩
  rcases h8 with ⟨r1, r2, -⟩ | h8
  · rw [r2, r1, zc_0, z_inv0]
  · rw [Nat.gcd_zero_right] at h8
    subst h8
    have e1 : (1 : Zp) = zc f * z := by rw [← h4]; exact zc_1.symm
    have hz : z ≠ 0 := fun q => by rw [q, Fin.mul_zero] at e1; exact absurd e1 (by decide)
    have e2 := z_inv hz
    have e3 : zc f = zc f * (z * zinv z) := by rw [e2, Fin.mul_one]
    have e4 : zc f * (z * zinv z) = (zc f * z) * zinv z := by grind
    rw [e3, e4, ← e1, Fin.one_mul]
theorem EUI.step {z : Zp} {a b : Nat} {f g : Int} (h : EUI z a b f g) (hb : 0 < b) : EUI z b (a % b) g (f - ((a / b : Nat) : Int) * g) := by
  obtain ⟨h1, h2, h3, h4, h5, h6, h7, h8⟩ := h
  have hm := Nat.mod_lt a hb
  have hd := Nat.div_add_mod a b
  have hg : g.natAbs ≤ 10007 := by
    have : 1 * g.natAbs ≤ a * g.natAbs := Nat.mul_le_mul_right _ h1
    omega
  refine ⟨hb, h3, by omega, h5, ?_, ?_, hg, ?_⟩
  · have e : ((a % b : Nat) : Int) = (a : Int) - ((a / b : Nat) : Int) * (b : Int) := by
      have e1 : ((b * (a / b) + a % b : Nat) : Int) = (a : Int) := by rw [hd]
      rw [Int.natCast_add, Int.natCast_mul] at e1
      rw [← e1, Int.mul_comm]
      omega
    rw [e, zc_sub, zc_mul, zc_sub, zc_mul, h4, h5]
    grind
  · have k1 : (f - ((a / b : Nat) : Int) * g).natAbs ≤ f.natAbs + (a / b) * g.natAbs := by
      have k2 := Int.natAbs_sub_le f (((a / b : Nat) : Int) * g)
      rw [Int.natAbs_mul, Int.natAbs_natCast] at k2
      exact k2
    have k3 := Nat.mul_le_mul_left b k1
    have k4 : b * (f.natAbs + a / b * g.natAbs) + a % b * g.natAbs = b * f.natAbs + (b * (a / b) + a % b) * g.natAbs := by
      rw [Nat.mul_add, Nat.add_mul, Nat.mul_assoc, Nat.add_assoc]
    rw [hd] at k4
    omega
  · rcases h8 with ⟨-, -, h8⟩ | h8
    · omega
    · refine Or.inr ?_
      rw [Nat.gcd_comm, ← Nat.gcd_rec, Nat.gcd_comm]
      exact h8

set_option maxHeartbeats 4000000 in
set_option maxRecDepth 100000 in
/--  -/
theorem c_L_over (l : Launch) (D : va_G) (tys : List (ClassId × FieldType)) (x : Int) (z : Zp) (M : Nat) (h : Ra x z M) (hM : M < 9223372036854775808) : CtL l D tys yL_over wsL_over 1 21 [.long (jL x)] (vL (zinv z)) [] [] := by
  refine CtL.of (cc := cL_over) (maxL := 16) (by decide +kernel) rfl rfl (Nat.le_of_ble_eq_true rfl) ?_
  intro p e s m below meth c A ls hcx hK hP hD hA hl
  obtain ⟨hx, hb, hr, hml, hown, hts, hlocks⟩ := hcx
  have hS : va_S A s.heap s.heap [] := va_S.rf
  have hown : s.vm.findClass RL = some m.cls := hown
  have hl : lv_has ls 16 [(0, .long (jL x))] := hl
  have k74 : (Cond.constantLong RL 74 (jL 10007)).before _ s = true := hts (.constantLong RL 74 (10007)) (by decide +kernel)
  have loop : ∀ (n a b : Nat) (f g : Int) (ls : Array Slot) (H : Heap) (locs : List Loc), va_P D vwCl [] H → va_D A [] → va_S A s.heap H locs → b < n → EUI z a b f g → lv_has ls 16 [(2, .long (jL ((a : Nat) : Int))), (4, .long (jL ((b : Nat) : Int))), (6, .long (jL f)), (8, .long (jL g))] → W p l e { frames := 1, cells := 0, slots := 0, locals := 21 } s m ([Value.long (jL x)] : List Value).toArray below meth c H locs 0 0 (MQ below (EL D A (vL (zinv z)) []) ([Value.long (jL x)] : List Value).toArray s 0 0 A) (F0 m 16 ls []) := by
    intro n
    induction n with
    | zero => intro a b f g ls H locs hP hD hS hn; omega
    | succ n ih =>
      intro a b f g ls H locs hP hD hS hn hE hl
      by_cases hb0 : b = 0
      · subst hb0
        obtain ⟨hF, hR⟩ := hE.last
        refine lv_lload hx hb dL_over_16 (lv_at hl 1 rfl) ?_
        refine lv_lconst (v := jL 0) hx hb dL_over_18 rfl ?_
        refine W.lcmp hx hb dL_over_19 ?_
        refine n_lif_le (tgt := 66) hx hb (by unfold r64; omega) (by unfold r64; omega) dL_over_20 (by decide) (fun h20 => ?_) (fun h20 => False.elim (h20 (by omega)))
        refine lv_lload hx hb dL_over_66 (lv_at hl 2 rfl) ?_
        have ct68 := c_L_by l D tys f _ _ hR (Nat.le_of_ble_eq_true rfl)
        refine k_goL (va_runS (As := [.long (jL f)]) (rest := []) ⟨hx, hb, hml, hown, hts⟩ (ct68.2 _) (va_cwS 1 hts gL_over_L_by rfl rfl rfl (by decide +kernel) ⟨Nat.le_of_ble_eq_true rfl, Nat.le_of_ble_eq_true rfl⟩) (k_pre hK hP hD (is := []) rfl rfl) rfl rfl hl.1 rfl (lv_room (Nat.le_of_ble_eq_true rfl)) dL_over_68 ⟨Nat.le_of_ble_eq_true rfl, Nat.le_of_ble_eq_true rfl⟩) ct68.1 hP hD hS hA [] rfl rfl (fun H locs hP hD hS => ?_)
        have hP : va_P D vwCl [] H := hP
        have hD : va_D A [] := hD
        exact k_lret hx hb hr hlocks dL_over_71 hP hS (congrArg (fun q => vL q) hF)
      · have hE2 := hE.step (Nat.pos_of_ne_zero hb0)
        have hbd := hE.2.2.1
        have had := hE.2.1
        have hdm := Nat.mod_lt a (Nat.pos_of_ne_zero hb0)
        have hrest : ((a : Nat) : Int) - ((a / b : Nat) : Int) * ((b : Nat) : Int) = ((a % b : Nat) : Int) := by
          have hd := Nat.div_add_mod a b
          have e1 : ((b * (a / b) + a % b : Nat) : Int) = (a : Int) := by rw [hd]
          rw [Int.natCast_add, Int.natCast_mul] at e1
          rw [← e1, Int.mul_comm]
          omega
        refine lv_lload hx hb dL_over_16 (lv_at hl 1 rfl) ?_
        refine lv_lconst (v := jL 0) hx hb dL_over_18 rfl ?_
        refine W.lcmp hx hb dL_over_19 ?_
        refine n_lif_le (tgt := 66) hx hb (by unfold r64; omega) (by unfold r64; omega) dL_over_20 (by decide) (fun h20 => False.elim (by omega)) (fun h20 => ?_)
        refine lv_lload_n hx hb dL_over_23 rfl (lv_at hl 0 rfl) ?_
        refine lv_lload hx hb dL_over_24 (lv_at hl 1 rfl) ?_
        refine n_ldivv (v := (((a / b) : Nat) : Int)) hx hb dL_over_26 (by omega) (by omega) (by omega) (by omega) (Int.natCast_ediv a b).symm ?_
        refine lv_lstore (lv' := [(10, .long (jL (((a / b) : Nat) : Int))), (2, .long (jL ((a : Nat) : Int))), (4, .long (jL ((b : Nat) : Int))), (6, .long (jL f)), (8, .long (jL g))]) hx hb dL_over_27 hl (by decide) rfl (fun ls hl => ?_)
        refine lv_lload_n hx hb dL_over_29 rfl (lv_at hl 1 rfl) ?_
        refine lv_lload hx hb dL_over_30 (lv_at hl 0 rfl) ?_
        refine lv_lload hx hb dL_over_32 (lv_at hl 2 rfl) ?_
        refine n_lmul hx hb dL_over_34 ?_
        refine n_lsub hx hb dL_over_35 ?_
        rw [hrest]
        refine lv_lstore (lv' := [(12, .long (jL (((a % b) : Nat) : Int))), (10, .long (jL (((a / b) : Nat) : Int))), (2, .long (jL ((a : Nat) : Int))), (4, .long (jL ((b : Nat) : Int))), (6, .long (jL f)), (8, .long (jL g))]) hx hb dL_over_36 hl (by decide) rfl (fun ls hl => ?_)
        refine lv_lload hx hb dL_over_38 (lv_at hl 4 rfl) ?_
        refine lv_lload hx hb dL_over_40 (lv_at hl 1 rfl) ?_
        refine lv_lload hx hb dL_over_42 (lv_at hl 5 rfl) ?_
        refine n_lmul hx hb dL_over_44 ?_
        refine n_lsub hx hb dL_over_45 ?_
        refine lv_lstore (lv' := [(14, .long (jL (f - ((((a / b) : Nat) : Int) * g)))), (12, .long (jL (((a % b) : Nat) : Int))), (10, .long (jL (((a / b) : Nat) : Int))), (2, .long (jL ((a : Nat) : Int))), (4, .long (jL ((b : Nat) : Int))), (6, .long (jL f)), (8, .long (jL g))]) hx hb dL_over_46 hl (by decide) rfl (fun ls hl => ?_)
        refine lv_lload hx hb dL_over_48 (lv_at hl 4 rfl) ?_
        refine lv_lstore_n (lv' := [(2, .long (jL ((b : Nat) : Int))), (14, .long (jL (f - ((((a / b) : Nat) : Int) * g)))), (12, .long (jL (((a % b) : Nat) : Int))), (10, .long (jL (((a / b) : Nat) : Int))), (4, .long (jL ((b : Nat) : Int))), (6, .long (jL f)), (8, .long (jL g))]) hx hb dL_over_50 rfl hl (by decide) rfl (fun ls hl => ?_)
        refine lv_lload hx hb dL_over_51 (lv_at hl 2 rfl) ?_
        refine lv_lstore (lv' := [(4, .long (jL (((a % b) : Nat) : Int))), (2, .long (jL ((b : Nat) : Int))), (14, .long (jL (f - ((((a / b) : Nat) : Int) * g)))), (12, .long (jL (((a % b) : Nat) : Int))), (10, .long (jL (((a / b) : Nat) : Int))), (6, .long (jL f)), (8, .long (jL g))]) hx hb dL_over_53 hl (by decide) rfl (fun ls hl => ?_)
        refine lv_lload hx hb dL_over_55 (lv_at hl 6 rfl) ?_
        refine lv_lstore (lv' := [(6, .long (jL g)), (4, .long (jL (((a % b) : Nat) : Int))), (2, .long (jL ((b : Nat) : Int))), (14, .long (jL (f - ((((a / b) : Nat) : Int) * g)))), (12, .long (jL (((a % b) : Nat) : Int))), (10, .long (jL (((a / b) : Nat) : Int))), (8, .long (jL g))]) hx hb dL_over_57 hl (by decide) rfl (fun ls hl => ?_)
        refine lv_lload hx hb dL_over_59 (lv_at hl 3 rfl) ?_
        refine lv_lstore (lv' := [(8, .long (jL (f - ((((a / b) : Nat) : Int) * g)))), (6, .long (jL g)), (4, .long (jL (((a % b) : Nat) : Int))), (2, .long (jL ((b : Nat) : Int))), (14, .long (jL (f - ((((a / b) : Nat) : Int) * g)))), (12, .long (jL (((a % b) : Nat) : Int))), (10, .long (jL (((a / b) : Nat) : Int)))]) hx hb dL_over_61 hl (by decide) rfl (fun ls hl => ?_)
        refine lv_goto (tgt := 16) hx hb dL_over_63 (by decide) ?_
        exact ih b (a % b) g (f - ((a / b : Nat) : Int) * g) ls H locs hP hD hS (by omega) hE2 (lv_sub hl [3, 2, 1, 0] rfl)
  refine lv_ldc2 (v := jL 10007) hx hb hown k74 dL_over_0 ?_
  refine lv_lstore_n (lv' := [(2, .long (jL 10007)), (0, .long (jL x))]) hx hb dL_over_3 rfl hl (by decide) rfl (fun ls hl => ?_)
  refine lv_lload_n hx hb dL_over_4 rfl (lv_at hl 1 rfl) ?_
  have ct5 := c_L_by l D tys x _ _ h hM
  refine k_goL (va_runS (As := [.long (jL x)]) (rest := []) ⟨hx, hb, hml, hown, hts⟩ (ct5.2 _) (va_cwS 1 hts gL_over_L_by rfl rfl rfl (by decide +kernel) ⟨Nat.le_of_ble_eq_true rfl, Nat.le_of_ble_eq_true rfl⟩) (k_pre hK hP hD (is := []) rfl rfl) rfl rfl hl.1 rfl (lv_room (Nat.le_of_ble_eq_true rfl)) dL_over_5 ⟨Nat.le_of_ble_eq_true rfl, Nat.le_of_ble_eq_true rfl⟩) ct5.1 hP hD hS hA [] rfl rfl (fun H locs hP hD hS => ?_)
  have hP : va_P D vwCl [] H := hP
  have hD : va_D A [] := hD
  refine lv_lstore (lv' := [(4, .long (vL z)), (2, .long (jL 10007)), (0, .long (jL x))]) hx hb dL_over_8 hl (by decide) rfl (fun ls hl => ?_)
  refine lv_lconst (v := jL 0) hx hb dL_over_10 rfl ?_
  refine lv_lstore (lv' := [(6, .long (jL 0)), (4, .long (vL z)), (2, .long (jL 10007)), (0, .long (jL x))]) hx hb dL_over_11 hl (by decide) rfl (fun ls hl => ?_)
  refine lv_lconst (v := jL 1) hx hb dL_over_13 rfl ?_
  refine lv_lstore (lv' := [(8, .long (jL 1)), (6, .long (jL 0)), (4, .long (vL z)), (2, .long (jL 10007)), (0, .long (jL x))]) hx hb dL_over_14 hl (by decide) rfl (fun ls hl => ?_)
  exact loop 10008 10007 z.val 0 1 ls H locs hP hD hS (by have := z.isLt; omega) (EUI.first z) (lv_sub hl [3, 2, 1, 0] rfl)

/-- five numbers laid as predicts lays them -/
def pw (g : Nat → Zp) (s : S5) : Nat → Zp := va_up (va_up (va_up (va_up (va_up g 1 s.2.1) 0 s.1) 2 s.2.2.1) 3 s.2.2.2.1) 4 s.2.2.2.2
theorem s5_pw (g : Nat → Zp) (s : S5) : s5 (pw g s) = s := rfl
theorem pw_o (g : Nat → Zp) (s : S5) {i : Nat} (h : 5 ≤ i) : pw g s i = g i := by
  unfold pw
  rw [up_o _ _ (by omega), up_o _ _ (by omega), up_o _ _ (by omega), up_o _ _ (by omega), up_o _ _ (by omega)]

set_option maxHeartbeats 4000000 in
set_option maxRecDepth 100000 in
/--  -/
theorem c_L_predicts (l : Launch) (D : va_G) (tys : List (ClassId × FieldType)) {cI cJ : ClassId} (htI : tys[0]? = some (cI, .int)) (htJ : tys[1]? = some (cJ, .long)) (e0 w0 a : Nat) (fe : Nat → Int) (fw P : Nat → Zp) (qa : a + 7 ≤ 45) (hE : ∀ i, i < 7 → fe (a + i) = zv (P i)) : CtV l D tys yL_predicts wsL_predicts 1 21 [.ref e0, .int (jI ((a : Nat) : Int)), .ref w0] [(e0, .inl (cI, 45, .inl (fun i => jI (fe i)))), (w0, .inl (cJ, 60, .inr (.inl (fun i => vL (fw i)))))] [(e0, .inl (cI, 45, .inl (fun i => jI (fe i)))), (w0, .inl (cJ, 60, .inr (.inl (fun i => vL ((pw fw (prd P (s5 fw))) i)))))] := by
  refine CtV.of (cc := cL_predicts) (maxL := 11) (by decide +kernel) rfl rfl (Nat.le_of_ble_eq_true rfl) ?_
  intro p e s m below meth c A ls hcx hK hP hD hA hl
  obtain ⟨hx, hb, hr, hml, hown, hts, hlocks⟩ := hcx
  have hS : va_S A s.heap s.heap [] := va_S.rf
  have hown : s.vm.findClass RL = some m.cls := hown
  have hl : lv_has ls 11 [(0, .ref e0), (1, .int (jI ((a : Nat) : Int))), (2, .ref w0)] := hl
  have hE0 : fe (a) = zv (P 0) := hE 0 (by omega)
  have hE1 : fe (a + 1) = zv (P 1) := hE 1 (by omega)
  have hE2 : fe (a + 2) = zv (P 2) := hE 2 (by omega)
  have hE3 : fe (a + 3) = zv (P 3) := hE 3 (by omega)
  have hE4 : fe (a + 4) = zv (P 4) := hE 4 (by omega)
  have hE5 : fe (a + 5) = zv (P 5) := hE 5 (by omega)
  have hE6 : fe (a + 6) = zv (P 6) := hE 6 (by omega)
  refine lv_aload_n hx hb dL_predicts_0 rfl (lv_at hl 0 rfl) ?_
  refine lv_iload_n hx hb dL_predicts_1 rfl (lv_at hl 1 rfl) ?_
  refine n_ialdv (i := a) (v := (zv (P 0))) hx hb hK hP 0 0 rfl htI (by omega) (by omega) (Nat.le_of_ble_eq_true rfl) hE0 dL_predicts_2 ?_
  refine n_i2lZ hx hb dL_predicts_3 ?_
  refine lv_aload_n hx hb dL_predicts_4 rfl (lv_at hl 2 rfl) ?_
  refine n_iconst hx hb dL_predicts_5 ?_
  refine n_lald (i := 0) hx hb hK hP 1 1 rfl htJ rfl (Nat.le_of_ble_eq_true rfl) (Nat.le_of_ble_eq_true rfl) dL_predicts_6 ?_
  refine n_lmul hx hb dL_predicts_7 ?_
  refine lv_aload_n hx hb dL_predicts_8 rfl (lv_at hl 0 rfl) ?_
  refine lv_iload_n hx hb dL_predicts_9 rfl (lv_at hl 1 rfl) ?_
  refine n_iconst hx hb dL_predicts_10 ?_
  refine n_iadd hx hb dL_predicts_11 ?_
  refine n_ialdv (i := (a + 1)) (v := (zv (P 1))) hx hb hK hP 0 0 rfl htI (by omega) (by omega) (Nat.le_of_ble_eq_true rfl) hE1 dL_predicts_12 ?_
  refine n_i2lZ hx hb dL_predicts_13 ?_
  refine lv_aload_n hx hb dL_predicts_14 rfl (lv_at hl 2 rfl) ?_
  refine n_iconst hx hb dL_predicts_15 ?_
  refine n_lald (i := 1) hx hb hK hP 1 1 rfl htJ rfl (Nat.le_of_ble_eq_true rfl) (Nat.le_of_ble_eq_true rfl) dL_predicts_16 ?_
  refine n_lmul hx hb dL_predicts_17 ?_
  refine n_ladd hx hb dL_predicts_18 ?_
  have ct19 := c_L_by l D tys ((zv (P 0) * zv (fw 0)) + (zv (P 1) * zv (fw 1))) _ _ (rp_a (rp_add (rp_mul (rp_v (P 0)) (rp_v (fw 0))) (rp_mul (rp_v (P 1)) (rp_v (fw 1))))) (Nat.le_of_ble_eq_true rfl)
  refine k_goL (va_runS (As := [.long (jL ((zv (P 0) * zv (fw 0)) + (zv (P 1) * zv (fw 1))))]) (rest := []) ⟨hx, hb, hml, hown, hts⟩ (ct19.2 _) (va_cwS 1 hts gL_predicts_L_by rfl rfl rfl (by decide +kernel) ⟨Nat.le_of_ble_eq_true rfl, Nat.le_of_ble_eq_true rfl⟩) (k_pre hK hP hD (is := []) rfl rfl) rfl rfl hl.1 rfl (lv_room (Nat.le_of_ble_eq_true rfl)) dL_predicts_19 ⟨Nat.le_of_ble_eq_true rfl, Nat.le_of_ble_eq_true rfl⟩) ct19.1 hP hD hS hA [] rfl rfl (fun H locs hP hD hS => ?_)
  have hP : va_P D vwCl [(e0, .inl (cI, 45, .inl (fun i => jI (fe i)))), (w0, .inl (cJ, 60, .inr (.inl (fun i => vL (fw i)))))] H := hP
  have hD : va_D A [(e0, .inl (cI, 45, .inl (fun i => jI (fe i)))), (w0, .inl (cJ, 60, .inr (.inl (fun i => vL (fw i)))))] := hD
  refine lv_lstore_n (lv' := [(3, .long (vL (((P 0) * (fw 0)) + ((P 1) * (fw 1))))), (0, .ref e0), (1, .int (jI ((a : Nat) : Int))), (2, .ref w0)]) hx hb dL_predicts_22 rfl hl (by decide) rfl (fun ls hl => ?_)
  refine lv_aload_n hx hb dL_predicts_23 rfl (lv_at hl 3 rfl) ?_
  refine n_iconst hx hb dL_predicts_24 ?_
  refine lv_aload_n hx hb dL_predicts_25 rfl (lv_at hl 1 rfl) ?_
  refine lv_iload_n hx hb dL_predicts_26 rfl (lv_at hl 2 rfl) ?_
  refine n_iconst hx hb dL_predicts_27 ?_
  refine n_iadd hx hb dL_predicts_28 ?_
  refine n_ialdv (i := (a + 2)) (v := (zv (P 2))) hx hb hK hP 0 0 rfl htI (by omega) (by omega) (Nat.le_of_ble_eq_true rfl) hE2 dL_predicts_29 ?_
  refine n_i2lZ hx hb dL_predicts_30 ?_
  refine lv_aload_n hx hb dL_predicts_31 rfl (lv_at hl 3 rfl) ?_
  refine n_iconst hx hb dL_predicts_32 ?_
  refine n_lald (i := 0) hx hb hK hP 1 1 rfl htJ rfl (Nat.le_of_ble_eq_true rfl) (Nat.le_of_ble_eq_true rfl) dL_predicts_33 ?_
  refine n_lmul hx hb dL_predicts_34 ?_
  refine lv_aload_n hx hb dL_predicts_35 rfl (lv_at hl 1 rfl) ?_
  refine lv_iload_n hx hb dL_predicts_36 rfl (lv_at hl 2 rfl) ?_
  refine n_iconst hx hb dL_predicts_37 ?_
  refine n_iadd hx hb dL_predicts_38 ?_
  refine n_ialdv (i := (a + 3)) (v := (zv (P 3))) hx hb hK hP 0 0 rfl htI (by omega) (by omega) (Nat.le_of_ble_eq_true rfl) hE3 dL_predicts_39 ?_
  refine n_i2lZ hx hb dL_predicts_40 ?_
  refine lv_aload_n hx hb dL_predicts_41 rfl (lv_at hl 3 rfl) ?_
  refine n_iconst hx hb dL_predicts_42 ?_
  refine n_lald (i := 1) hx hb hK hP 1 1 rfl htJ rfl (Nat.le_of_ble_eq_true rfl) (Nat.le_of_ble_eq_true rfl) dL_predicts_43 ?_
  refine n_lmul hx hb dL_predicts_44 ?_
  refine n_ladd hx hb dL_predicts_45 ?_
  have ct46 := c_L_by l D tys ((zv (P 2) * zv (fw 0)) + (zv (P 3) * zv (fw 1))) _ _ (rp_a (rp_add (rp_mul (rp_v (P 2)) (rp_v (fw 0))) (rp_mul (rp_v (P 3)) (rp_v (fw 1))))) (Nat.le_of_ble_eq_true rfl)
  refine k_goL (va_runS (As := [.long (jL ((zv (P 2) * zv (fw 0)) + (zv (P 3) * zv (fw 1))))]) (rest := [.int (jI 1), .ref w0]) ⟨hx, hb, hml, hown, hts⟩ (ct46.2 _) (va_cwS 1 hts gL_predicts_L_by rfl rfl rfl (by decide +kernel) ⟨Nat.le_of_ble_eq_true rfl, Nat.le_of_ble_eq_true rfl⟩) (k_pre hK hP hD (is := []) rfl rfl) rfl rfl hl.1 rfl (lv_room (Nat.le_of_ble_eq_true rfl)) dL_predicts_46 ⟨Nat.le_of_ble_eq_true rfl, Nat.le_of_ble_eq_true rfl⟩) ct46.1 hP hD hS hA [] rfl rfl (fun H locs hP hD hS => ?_)
  have hP : va_P D vwCl [(e0, .inl (cI, 45, .inl (fun i => jI (fe i)))), (w0, .inl (cJ, 60, .inr (.inl (fun i => vL (fw i)))))] H := hP
  have hD : va_D A [(e0, .inl (cI, 45, .inl (fun i => jI (fe i)))), (w0, .inl (cJ, 60, .inr (.inl (fun i => vL (fw i)))))] := hD
  refine n_zlast (i := 1) (x := (((P 2) * (fw 0)) + ((P 3) * (fw 1)))) hx hb hK hP hD hS 1 1 rfl htJ rfl (Nat.le_of_ble_eq_true rfl) (Nat.le_of_ble_eq_true rfl) dL_predicts_49 (fun H locs hP hD hS => ?_)
  have hP : va_P D vwCl [(e0, .inl (cI, 45, .inl (fun i => jI (fe i)))), (w0, .inl (cJ, 60, .inr (.inl (fun i => vL ((va_up fw 1 (((P 2) * (fw 0)) + ((P 3) * (fw 1)))) i)))))] H := hP
  have hD : va_D A [(e0, .inl (cI, 45, .inl (fun i => jI (fe i)))), (w0, .inl (cJ, 60, .inr (.inl (fun i => vL ((va_up fw 1 (((P 2) * (fw 0)) + ((P 3) * (fw 1)))) i)))))] := hD
  refine lv_aload_n hx hb dL_predicts_50 rfl (lv_at hl 3 rfl) ?_
  refine n_iconst hx hb dL_predicts_51 ?_
  refine lv_lload_n hx hb dL_predicts_52 rfl (lv_at hl 0 rfl) ?_
  refine n_zlast (i := 0) (x := (((P 0) * (fw 0)) + ((P 1) * (fw 1)))) hx hb hK hP hD hS 1 1 rfl htJ rfl (Nat.le_of_ble_eq_true rfl) (Nat.le_of_ble_eq_true rfl) dL_predicts_53 (fun H locs hP hD hS => ?_)
  have hP : va_P D vwCl [(e0, .inl (cI, 45, .inl (fun i => jI (fe i)))), (w0, .inl (cJ, 60, .inr (.inl (fun i => vL ((va_up (va_up fw 1 (((P 2) * (fw 0)) + ((P 3) * (fw 1)))) 0 (((P 0) * (fw 0)) + ((P 1) * (fw 1)))) i)))))] H := hP
  have hD : va_D A [(e0, .inl (cI, 45, .inl (fun i => jI (fe i)))), (w0, .inl (cJ, 60, .inr (.inl (fun i => vL ((va_up (va_up fw 1 (((P 2) * (fw 0)) + ((P 3) * (fw 1)))) 0 (((P 0) * (fw 0)) + ((P 1) * (fw 1)))) i)))))] := hD
  refine lv_aload_n hx hb dL_predicts_54 rfl (lv_at hl 3 rfl) ?_
  refine n_iconst hx hb dL_predicts_55 ?_
  refine n_laldv (i := 2) (v := (zv (fw 2))) hx hb hK hP 1 1 rfl htJ rfl (Nat.le_of_ble_eq_true rfl) (Nat.le_of_ble_eq_true rfl) (congrArg zv ((up_o _ _ (by omega)).trans (up_o _ _ (by omega)))) dL_predicts_56 ?_
  refine lv_lstore (lv' := [(5, .long (vL (fw 2))), (3, .long (vL (((P 0) * (fw 0)) + ((P 1) * (fw 1))))), (0, .ref e0), (1, .int (jI ((a : Nat) : Int))), (2, .ref w0)]) hx hb dL_predicts_57 hl (by decide) rfl (fun ls hl => ?_)
  refine lv_aload_n hx hb dL_predicts_59 rfl (lv_at hl 4 rfl) ?_
  refine n_iconst hx hb dL_predicts_60 ?_
  refine n_laldv (i := 3) (v := (zv (fw 3))) hx hb hK hP 1 1 rfl htJ rfl (Nat.le_of_ble_eq_true rfl) (Nat.le_of_ble_eq_true rfl) (congrArg zv ((up_o _ _ (by omega)).trans (up_o _ _ (by omega)))) dL_predicts_61 ?_
  refine lv_lstore (lv' := [(7, .long (vL (fw 3))), (5, .long (vL (fw 2))), (3, .long (vL (((P 0) * (fw 0)) + ((P 1) * (fw 1))))), (0, .ref e0), (1, .int (jI ((a : Nat) : Int))), (2, .ref w0)]) hx hb dL_predicts_62 hl (by decide) rfl (fun ls hl => ?_)
  refine lv_aload_n hx hb dL_predicts_64 rfl (lv_at hl 5 rfl) ?_
  refine n_iconst hx hb dL_predicts_65 ?_
  refine n_laldv (i := 4) (v := (zv (fw 4))) hx hb hK hP 1 1 rfl htJ rfl (Nat.le_of_ble_eq_true rfl) (Nat.le_of_ble_eq_true rfl) (congrArg zv ((up_o _ _ (by omega)).trans (up_o _ _ (by omega)))) dL_predicts_66 ?_
  refine lv_lstore (lv' := [(9, .long (vL (fw 4))), (7, .long (vL (fw 3))), (5, .long (vL (fw 2))), (3, .long (vL (((P 0) * (fw 0)) + ((P 1) * (fw 1))))), (0, .ref e0), (1, .int (jI ((a : Nat) : Int))), (2, .ref w0)]) hx hb dL_predicts_67 hl (by decide) rfl (fun ls hl => ?_)
  refine lv_aload_n hx hb dL_predicts_69 rfl (lv_at hl 6 rfl) ?_
  refine n_iconst hx hb dL_predicts_70 ?_
  refine lv_aload_n hx hb dL_predicts_71 rfl (lv_at hl 4 rfl) ?_
  refine lv_iload_n hx hb dL_predicts_72 rfl (lv_at hl 5 rfl) ?_
  refine n_ialdv (i := a) (v := (zv (P 0))) hx hb hK hP 0 0 rfl htI (by omega) (by omega) (Nat.le_of_ble_eq_true rfl) hE0 dL_predicts_73 ?_
  refine n_i2lZ hx hb dL_predicts_74 ?_
  refine lv_lload hx hb dL_predicts_75 (lv_at hl 2 rfl) ?_
  refine n_lmul hx hb dL_predicts_77 ?_
  refine lv_aload_n hx hb dL_predicts_78 rfl (lv_at hl 4 rfl) ?_
  refine lv_iload_n hx hb dL_predicts_79 rfl (lv_at hl 5 rfl) ?_
  refine n_iconst hx hb dL_predicts_80 ?_
  refine n_iadd hx hb dL_predicts_81 ?_
  refine n_ialdv (i := (a + 1)) (v := (zv (P 1))) hx hb hK hP 0 0 rfl htI (by omega) (by omega) (Nat.le_of_ble_eq_true rfl) hE1 dL_predicts_82 ?_
  refine n_i2lZ hx hb dL_predicts_83 ?_
  refine lv_lload hx hb dL_predicts_84 (lv_at hl 1 rfl) ?_
  refine n_lmul hx hb dL_predicts_86 ?_
  refine n_ladd hx hb dL_predicts_87 ?_
  have ct88 := c_L_by l D tys ((zv (P 0) * zv (fw 2)) + (zv (P 1) * zv (fw 3))) _ _ (rp_a (rp_add (rp_mul (rp_v (P 0)) (rp_v (fw 2))) (rp_mul (rp_v (P 1)) (rp_v (fw 3))))) (Nat.le_of_ble_eq_true rfl)
  refine k_goL (va_runS (As := [.long (jL ((zv (P 0) * zv (fw 2)) + (zv (P 1) * zv (fw 3))))]) (rest := [.int (jI 2), .ref w0]) ⟨hx, hb, hml, hown, hts⟩ (ct88.2 _) (va_cwS 1 hts gL_predicts_L_by rfl rfl rfl (by decide +kernel) ⟨Nat.le_of_ble_eq_true rfl, Nat.le_of_ble_eq_true rfl⟩) (k_pre hK hP hD (is := []) rfl rfl) rfl rfl hl.1 rfl (lv_room (Nat.le_of_ble_eq_true rfl)) dL_predicts_88 ⟨Nat.le_of_ble_eq_true rfl, Nat.le_of_ble_eq_true rfl⟩) ct88.1 hP hD hS hA [] rfl rfl (fun H locs hP hD hS => ?_)
  have hP : va_P D vwCl [(e0, .inl (cI, 45, .inl (fun i => jI (fe i)))), (w0, .inl (cJ, 60, .inr (.inl (fun i => vL ((va_up (va_up fw 1 (((P 2) * (fw 0)) + ((P 3) * (fw 1)))) 0 (((P 0) * (fw 0)) + ((P 1) * (fw 1)))) i)))))] H := hP
  have hD : va_D A [(e0, .inl (cI, 45, .inl (fun i => jI (fe i)))), (w0, .inl (cJ, 60, .inr (.inl (fun i => vL ((va_up (va_up fw 1 (((P 2) * (fw 0)) + ((P 3) * (fw 1)))) 0 (((P 0) * (fw 0)) + ((P 1) * (fw 1)))) i)))))] := hD
  refine lv_aload_n hx hb dL_predicts_91 rfl (lv_at hl 4 rfl) ?_
  refine lv_iload_n hx hb dL_predicts_92 rfl (lv_at hl 5 rfl) ?_
  refine n_ialdv (i := a) (v := (zv (P 0))) hx hb hK hP 0 0 rfl htI (by omega) (by omega) (Nat.le_of_ble_eq_true rfl) hE0 dL_predicts_93 ?_
  refine n_i2lZ hx hb dL_predicts_94 ?_
  refine n_lmul hx hb dL_predicts_95 ?_
  refine lv_aload_n hx hb dL_predicts_96 rfl (lv_at hl 4 rfl) ?_
  refine lv_iload_n hx hb dL_predicts_97 rfl (lv_at hl 5 rfl) ?_
  refine n_ialdv (i := a) (v := (zv (P 0))) hx hb hK hP 0 0 rfl htI (by omega) (by omega) (Nat.le_of_ble_eq_true rfl) hE0 dL_predicts_98 ?_
  refine n_i2lZ hx hb dL_predicts_99 ?_
  refine lv_lload hx hb dL_predicts_100 (lv_at hl 1 rfl) ?_
  refine n_lmul hx hb dL_predicts_102 ?_
  refine lv_aload_n hx hb dL_predicts_103 rfl (lv_at hl 4 rfl) ?_
  refine lv_iload_n hx hb dL_predicts_104 rfl (lv_at hl 5 rfl) ?_
  refine n_iconst hx hb dL_predicts_105 ?_
  refine n_iadd hx hb dL_predicts_106 ?_
  refine n_ialdv (i := (a + 1)) (v := (zv (P 1))) hx hb hK hP 0 0 rfl htI (by omega) (by omega) (Nat.le_of_ble_eq_true rfl) hE1 dL_predicts_107 ?_
  refine n_i2lZ hx hb dL_predicts_108 ?_
  refine lv_lload hx hb dL_predicts_109 (lv_at hl 0 rfl) ?_
  refine n_lmul hx hb dL_predicts_111 ?_
  refine n_ladd hx hb dL_predicts_112 ?_
  have ct113 := c_L_by l D tys ((zv (P 0) * zv (fw 3)) + (zv (P 1) * zv (fw 4))) _ _ (rp_a (rp_add (rp_mul (rp_v (P 0)) (rp_v (fw 3))) (rp_mul (rp_v (P 1)) (rp_v (fw 4))))) (Nat.le_of_ble_eq_true rfl)
  refine k_goL (va_runS (As := [.long (jL ((zv (P 0) * zv (fw 3)) + (zv (P 1) * zv (fw 4))))]) (rest := [.long (jL (zv (((P 0) * (fw 2)) + ((P 1) * (fw 3))) * zv (P 0))), .int (jI 2), .ref w0]) ⟨hx, hb, hml, hown, hts⟩ (ct113.2 _) (va_cwS 1 hts gL_predicts_L_by rfl rfl rfl (by decide +kernel) ⟨Nat.le_of_ble_eq_true rfl, Nat.le_of_ble_eq_true rfl⟩) (k_pre hK hP hD (is := []) rfl rfl) rfl rfl hl.1 rfl (lv_room (Nat.le_of_ble_eq_true rfl)) dL_predicts_113 ⟨Nat.le_of_ble_eq_true rfl, Nat.le_of_ble_eq_true rfl⟩) ct113.1 hP hD hS hA [] rfl rfl (fun H locs hP hD hS => ?_)
  have hP : va_P D vwCl [(e0, .inl (cI, 45, .inl (fun i => jI (fe i)))), (w0, .inl (cJ, 60, .inr (.inl (fun i => vL ((va_up (va_up fw 1 (((P 2) * (fw 0)) + ((P 3) * (fw 1)))) 0 (((P 0) * (fw 0)) + ((P 1) * (fw 1)))) i)))))] H := hP
  have hD : va_D A [(e0, .inl (cI, 45, .inl (fun i => jI (fe i)))), (w0, .inl (cJ, 60, .inr (.inl (fun i => vL ((va_up (va_up fw 1 (((P 2) * (fw 0)) + ((P 3) * (fw 1)))) 0 (((P 0) * (fw 0)) + ((P 1) * (fw 1)))) i)))))] := hD
  refine lv_aload_n hx hb dL_predicts_116 rfl (lv_at hl 4 rfl) ?_
  refine lv_iload_n hx hb dL_predicts_117 rfl (lv_at hl 5 rfl) ?_
  refine n_iconst hx hb dL_predicts_118 ?_
  refine n_iadd hx hb dL_predicts_119 ?_
  refine n_ialdv (i := (a + 1)) (v := (zv (P 1))) hx hb hK hP 0 0 rfl htI (by omega) (by omega) (Nat.le_of_ble_eq_true rfl) hE1 dL_predicts_120 ?_
  refine n_i2lZ hx hb dL_predicts_121 ?_
  refine n_lmul hx hb dL_predicts_122 ?_
  refine n_ladd hx hb dL_predicts_123 ?_
  refine lv_aload_n hx hb dL_predicts_124 rfl (lv_at hl 4 rfl) ?_
  refine lv_iload_n hx hb dL_predicts_125 rfl (lv_at hl 5 rfl) ?_
  refine n_iconst hx hb dL_predicts_126 ?_
  refine n_iadd hx hb dL_predicts_127 ?_
  refine n_ialdv (i := (a + 4)) (v := (zv (P 4))) hx hb hK hP 0 0 rfl htI (by omega) (by omega) (Nat.le_of_ble_eq_true rfl) hE4 dL_predicts_128 ?_
  refine n_i2lZ hx hb dL_predicts_129 ?_
  refine n_ladd hx hb dL_predicts_130 ?_
  have ct131 := c_L_by l D tys (((zv (((P 0) * (fw 2)) + ((P 1) * (fw 3))) * zv (P 0)) + (zv (((P 0) * (fw 3)) + ((P 1) * (fw 4))) * zv (P 1))) + zv (P 4)) _ _ (rp_a (rp_add (rp_add (rp_mul (rp_v (((P 0) * (fw 2)) + ((P 1) * (fw 3)))) (rp_v (P 0))) (rp_mul (rp_v (((P 0) * (fw 3)) + ((P 1) * (fw 4)))) (rp_v (P 1)))) (rp_v (P 4)))) (Nat.le_of_ble_eq_true rfl)
  refine k_goL (va_runS (As := [.long (jL (((zv (((P 0) * (fw 2)) + ((P 1) * (fw 3))) * zv (P 0)) + (zv (((P 0) * (fw 3)) + ((P 1) * (fw 4))) * zv (P 1))) + zv (P 4)))]) (rest := [.int (jI 2), .ref w0]) ⟨hx, hb, hml, hown, hts⟩ (ct131.2 _) (va_cwS 1 hts gL_predicts_L_by rfl rfl rfl (by decide +kernel) ⟨Nat.le_of_ble_eq_true rfl, Nat.le_of_ble_eq_true rfl⟩) (k_pre hK hP hD (is := []) rfl rfl) rfl rfl hl.1 rfl (lv_room (Nat.le_of_ble_eq_true rfl)) dL_predicts_131 ⟨Nat.le_of_ble_eq_true rfl, Nat.le_of_ble_eq_true rfl⟩) ct131.1 hP hD hS hA [] rfl rfl (fun H locs hP hD hS => ?_)
  have hP : va_P D vwCl [(e0, .inl (cI, 45, .inl (fun i => jI (fe i)))), (w0, .inl (cJ, 60, .inr (.inl (fun i => vL ((va_up (va_up fw 1 (((P 2) * (fw 0)) + ((P 3) * (fw 1)))) 0 (((P 0) * (fw 0)) + ((P 1) * (fw 1)))) i)))))] H := hP
  have hD : va_D A [(e0, .inl (cI, 45, .inl (fun i => jI (fe i)))), (w0, .inl (cJ, 60, .inr (.inl (fun i => vL ((va_up (va_up fw 1 (((P 2) * (fw 0)) + ((P 3) * (fw 1)))) 0 (((P 0) * (fw 0)) + ((P 1) * (fw 1)))) i)))))] := hD
  refine n_zlast (i := 2) (x := ((((((P 0) * (fw 2)) + ((P 1) * (fw 3))) * (P 0)) + ((((P 0) * (fw 3)) + ((P 1) * (fw 4))) * (P 1))) + (P 4))) hx hb hK hP hD hS 1 1 rfl htJ rfl (Nat.le_of_ble_eq_true rfl) (Nat.le_of_ble_eq_true rfl) dL_predicts_134 (fun H locs hP hD hS => ?_)
  have hP : va_P D vwCl [(e0, .inl (cI, 45, .inl (fun i => jI (fe i)))), (w0, .inl (cJ, 60, .inr (.inl (fun i => vL ((va_up (va_up (va_up fw 1 (((P 2) * (fw 0)) + ((P 3) * (fw 1)))) 0 (((P 0) * (fw 0)) + ((P 1) * (fw 1)))) 2 ((((((P 0) * (fw 2)) + ((P 1) * (fw 3))) * (P 0)) + ((((P 0) * (fw 3)) + ((P 1) * (fw 4))) * (P 1))) + (P 4))) i)))))] H := hP
  have hD : va_D A [(e0, .inl (cI, 45, .inl (fun i => jI (fe i)))), (w0, .inl (cJ, 60, .inr (.inl (fun i => vL ((va_up (va_up (va_up fw 1 (((P 2) * (fw 0)) + ((P 3) * (fw 1)))) 0 (((P 0) * (fw 0)) + ((P 1) * (fw 1)))) 2 ((((((P 0) * (fw 2)) + ((P 1) * (fw 3))) * (P 0)) + ((((P 0) * (fw 3)) + ((P 1) * (fw 4))) * (P 1))) + (P 4))) i)))))] := hD
  refine lv_aload_n hx hb dL_predicts_135 rfl (lv_at hl 6 rfl) ?_
  refine n_iconst hx hb dL_predicts_136 ?_
  refine lv_aload_n hx hb dL_predicts_137 rfl (lv_at hl 4 rfl) ?_
  refine lv_iload_n hx hb dL_predicts_138 rfl (lv_at hl 5 rfl) ?_
  refine n_ialdv (i := a) (v := (zv (P 0))) hx hb hK hP 0 0 rfl htI (by omega) (by omega) (Nat.le_of_ble_eq_true rfl) hE0 dL_predicts_139 ?_
  refine n_i2lZ hx hb dL_predicts_140 ?_
  refine lv_lload hx hb dL_predicts_141 (lv_at hl 2 rfl) ?_
  refine n_lmul hx hb dL_predicts_143 ?_
  refine lv_aload_n hx hb dL_predicts_144 rfl (lv_at hl 4 rfl) ?_
  refine lv_iload_n hx hb dL_predicts_145 rfl (lv_at hl 5 rfl) ?_
  refine n_iconst hx hb dL_predicts_146 ?_
  refine n_iadd hx hb dL_predicts_147 ?_
  refine n_ialdv (i := (a + 1)) (v := (zv (P 1))) hx hb hK hP 0 0 rfl htI (by omega) (by omega) (Nat.le_of_ble_eq_true rfl) hE1 dL_predicts_148 ?_
  refine n_i2lZ hx hb dL_predicts_149 ?_
  refine lv_lload hx hb dL_predicts_150 (lv_at hl 1 rfl) ?_
  refine n_lmul hx hb dL_predicts_152 ?_
  refine n_ladd hx hb dL_predicts_153 ?_
  have ct154 := c_L_by l D tys ((zv (P 0) * zv (fw 2)) + (zv (P 1) * zv (fw 3))) _ _ (rp_a (rp_add (rp_mul (rp_v (P 0)) (rp_v (fw 2))) (rp_mul (rp_v (P 1)) (rp_v (fw 3))))) (Nat.le_of_ble_eq_true rfl)
  refine k_goL (va_runS (As := [.long (jL ((zv (P 0) * zv (fw 2)) + (zv (P 1) * zv (fw 3))))]) (rest := [.int (jI 3), .ref w0]) ⟨hx, hb, hml, hown, hts⟩ (ct154.2 _) (va_cwS 1 hts gL_predicts_L_by rfl rfl rfl (by decide +kernel) ⟨Nat.le_of_ble_eq_true rfl, Nat.le_of_ble_eq_true rfl⟩) (k_pre hK hP hD (is := []) rfl rfl) rfl rfl hl.1 rfl (lv_room (Nat.le_of_ble_eq_true rfl)) dL_predicts_154 ⟨Nat.le_of_ble_eq_true rfl, Nat.le_of_ble_eq_true rfl⟩) ct154.1 hP hD hS hA [] rfl rfl (fun H locs hP hD hS => ?_)
  have hP : va_P D vwCl [(e0, .inl (cI, 45, .inl (fun i => jI (fe i)))), (w0, .inl (cJ, 60, .inr (.inl (fun i => vL ((va_up (va_up (va_up fw 1 (((P 2) * (fw 0)) + ((P 3) * (fw 1)))) 0 (((P 0) * (fw 0)) + ((P 1) * (fw 1)))) 2 ((((((P 0) * (fw 2)) + ((P 1) * (fw 3))) * (P 0)) + ((((P 0) * (fw 3)) + ((P 1) * (fw 4))) * (P 1))) + (P 4))) i)))))] H := hP
  have hD : va_D A [(e0, .inl (cI, 45, .inl (fun i => jI (fe i)))), (w0, .inl (cJ, 60, .inr (.inl (fun i => vL ((va_up (va_up (va_up fw 1 (((P 2) * (fw 0)) + ((P 3) * (fw 1)))) 0 (((P 0) * (fw 0)) + ((P 1) * (fw 1)))) 2 ((((((P 0) * (fw 2)) + ((P 1) * (fw 3))) * (P 0)) + ((((P 0) * (fw 3)) + ((P 1) * (fw 4))) * (P 1))) + (P 4))) i)))))] := hD
  refine lv_aload_n hx hb dL_predicts_157 rfl (lv_at hl 4 rfl) ?_
  refine lv_iload_n hx hb dL_predicts_158 rfl (lv_at hl 5 rfl) ?_
  refine n_iconst hx hb dL_predicts_159 ?_
  refine n_iadd hx hb dL_predicts_160 ?_
  refine n_ialdv (i := (a + 2)) (v := (zv (P 2))) hx hb hK hP 0 0 rfl htI (by omega) (by omega) (Nat.le_of_ble_eq_true rfl) hE2 dL_predicts_161 ?_
  refine n_i2lZ hx hb dL_predicts_162 ?_
  refine n_lmul hx hb dL_predicts_163 ?_
  refine lv_aload_n hx hb dL_predicts_164 rfl (lv_at hl 4 rfl) ?_
  refine lv_iload_n hx hb dL_predicts_165 rfl (lv_at hl 5 rfl) ?_
  refine n_ialdv (i := a) (v := (zv (P 0))) hx hb hK hP 0 0 rfl htI (by omega) (by omega) (Nat.le_of_ble_eq_true rfl) hE0 dL_predicts_166 ?_
  refine n_i2lZ hx hb dL_predicts_167 ?_
  refine lv_lload hx hb dL_predicts_168 (lv_at hl 1 rfl) ?_
  refine n_lmul hx hb dL_predicts_170 ?_
  refine lv_aload_n hx hb dL_predicts_171 rfl (lv_at hl 4 rfl) ?_
  refine lv_iload_n hx hb dL_predicts_172 rfl (lv_at hl 5 rfl) ?_
  refine n_iconst hx hb dL_predicts_173 ?_
  refine n_iadd hx hb dL_predicts_174 ?_
  refine n_ialdv (i := (a + 1)) (v := (zv (P 1))) hx hb hK hP 0 0 rfl htI (by omega) (by omega) (Nat.le_of_ble_eq_true rfl) hE1 dL_predicts_175 ?_
  refine n_i2lZ hx hb dL_predicts_176 ?_
  refine lv_lload hx hb dL_predicts_177 (lv_at hl 0 rfl) ?_
  refine n_lmul hx hb dL_predicts_179 ?_
  refine n_ladd hx hb dL_predicts_180 ?_
  have ct181 := c_L_by l D tys ((zv (P 0) * zv (fw 3)) + (zv (P 1) * zv (fw 4))) _ _ (rp_a (rp_add (rp_mul (rp_v (P 0)) (rp_v (fw 3))) (rp_mul (rp_v (P 1)) (rp_v (fw 4))))) (Nat.le_of_ble_eq_true rfl)
  refine k_goL (va_runS (As := [.long (jL ((zv (P 0) * zv (fw 3)) + (zv (P 1) * zv (fw 4))))]) (rest := [.long (jL (zv (((P 0) * (fw 2)) + ((P 1) * (fw 3))) * zv (P 2))), .int (jI 3), .ref w0]) ⟨hx, hb, hml, hown, hts⟩ (ct181.2 _) (va_cwS 1 hts gL_predicts_L_by rfl rfl rfl (by decide +kernel) ⟨Nat.le_of_ble_eq_true rfl, Nat.le_of_ble_eq_true rfl⟩) (k_pre hK hP hD (is := []) rfl rfl) rfl rfl hl.1 rfl (lv_room (Nat.le_of_ble_eq_true rfl)) dL_predicts_181 ⟨Nat.le_of_ble_eq_true rfl, Nat.le_of_ble_eq_true rfl⟩) ct181.1 hP hD hS hA [] rfl rfl (fun H locs hP hD hS => ?_)
  have hP : va_P D vwCl [(e0, .inl (cI, 45, .inl (fun i => jI (fe i)))), (w0, .inl (cJ, 60, .inr (.inl (fun i => vL ((va_up (va_up (va_up fw 1 (((P 2) * (fw 0)) + ((P 3) * (fw 1)))) 0 (((P 0) * (fw 0)) + ((P 1) * (fw 1)))) 2 ((((((P 0) * (fw 2)) + ((P 1) * (fw 3))) * (P 0)) + ((((P 0) * (fw 3)) + ((P 1) * (fw 4))) * (P 1))) + (P 4))) i)))))] H := hP
  have hD : va_D A [(e0, .inl (cI, 45, .inl (fun i => jI (fe i)))), (w0, .inl (cJ, 60, .inr (.inl (fun i => vL ((va_up (va_up (va_up fw 1 (((P 2) * (fw 0)) + ((P 3) * (fw 1)))) 0 (((P 0) * (fw 0)) + ((P 1) * (fw 1)))) 2 ((((((P 0) * (fw 2)) + ((P 1) * (fw 3))) * (P 0)) + ((((P 0) * (fw 3)) + ((P 1) * (fw 4))) * (P 1))) + (P 4))) i)))))] := hD
  refine lv_aload_n hx hb dL_predicts_184 rfl (lv_at hl 4 rfl) ?_
  refine lv_iload_n hx hb dL_predicts_185 rfl (lv_at hl 5 rfl) ?_
  refine n_iconst hx hb dL_predicts_186 ?_
  refine n_iadd hx hb dL_predicts_187 ?_
  refine n_ialdv (i := (a + 3)) (v := (zv (P 3))) hx hb hK hP 0 0 rfl htI (by omega) (by omega) (Nat.le_of_ble_eq_true rfl) hE3 dL_predicts_188 ?_
  refine n_i2lZ hx hb dL_predicts_189 ?_
  refine n_lmul hx hb dL_predicts_190 ?_
  refine n_ladd hx hb dL_predicts_191 ?_
  refine lv_aload_n hx hb dL_predicts_192 rfl (lv_at hl 4 rfl) ?_
  refine lv_iload_n hx hb dL_predicts_193 rfl (lv_at hl 5 rfl) ?_
  refine n_iconst hx hb dL_predicts_194 ?_
  refine n_iadd hx hb dL_predicts_195 ?_
  refine n_ialdv (i := (a + 5)) (v := (zv (P 5))) hx hb hK hP 0 0 rfl htI (by omega) (by omega) (Nat.le_of_ble_eq_true rfl) hE5 dL_predicts_196 ?_
  refine n_i2lZ hx hb dL_predicts_197 ?_
  refine n_ladd hx hb dL_predicts_198 ?_
  have ct199 := c_L_by l D tys (((zv (((P 0) * (fw 2)) + ((P 1) * (fw 3))) * zv (P 2)) + (zv (((P 0) * (fw 3)) + ((P 1) * (fw 4))) * zv (P 3))) + zv (P 5)) _ _ (rp_a (rp_add (rp_add (rp_mul (rp_v (((P 0) * (fw 2)) + ((P 1) * (fw 3)))) (rp_v (P 2))) (rp_mul (rp_v (((P 0) * (fw 3)) + ((P 1) * (fw 4)))) (rp_v (P 3)))) (rp_v (P 5)))) (Nat.le_of_ble_eq_true rfl)
  refine k_goL (va_runS (As := [.long (jL (((zv (((P 0) * (fw 2)) + ((P 1) * (fw 3))) * zv (P 2)) + (zv (((P 0) * (fw 3)) + ((P 1) * (fw 4))) * zv (P 3))) + zv (P 5)))]) (rest := [.int (jI 3), .ref w0]) ⟨hx, hb, hml, hown, hts⟩ (ct199.2 _) (va_cwS 1 hts gL_predicts_L_by rfl rfl rfl (by decide +kernel) ⟨Nat.le_of_ble_eq_true rfl, Nat.le_of_ble_eq_true rfl⟩) (k_pre hK hP hD (is := []) rfl rfl) rfl rfl hl.1 rfl (lv_room (Nat.le_of_ble_eq_true rfl)) dL_predicts_199 ⟨Nat.le_of_ble_eq_true rfl, Nat.le_of_ble_eq_true rfl⟩) ct199.1 hP hD hS hA [] rfl rfl (fun H locs hP hD hS => ?_)
  have hP : va_P D vwCl [(e0, .inl (cI, 45, .inl (fun i => jI (fe i)))), (w0, .inl (cJ, 60, .inr (.inl (fun i => vL ((va_up (va_up (va_up fw 1 (((P 2) * (fw 0)) + ((P 3) * (fw 1)))) 0 (((P 0) * (fw 0)) + ((P 1) * (fw 1)))) 2 ((((((P 0) * (fw 2)) + ((P 1) * (fw 3))) * (P 0)) + ((((P 0) * (fw 3)) + ((P 1) * (fw 4))) * (P 1))) + (P 4))) i)))))] H := hP
  have hD : va_D A [(e0, .inl (cI, 45, .inl (fun i => jI (fe i)))), (w0, .inl (cJ, 60, .inr (.inl (fun i => vL ((va_up (va_up (va_up fw 1 (((P 2) * (fw 0)) + ((P 3) * (fw 1)))) 0 (((P 0) * (fw 0)) + ((P 1) * (fw 1)))) 2 ((((((P 0) * (fw 2)) + ((P 1) * (fw 3))) * (P 0)) + ((((P 0) * (fw 3)) + ((P 1) * (fw 4))) * (P 1))) + (P 4))) i)))))] := hD
  refine n_zlast (i := 3) (x := ((((((P 0) * (fw 2)) + ((P 1) * (fw 3))) * (P 2)) + ((((P 0) * (fw 3)) + ((P 1) * (fw 4))) * (P 3))) + (P 5))) hx hb hK hP hD hS 1 1 rfl htJ rfl (Nat.le_of_ble_eq_true rfl) (Nat.le_of_ble_eq_true rfl) dL_predicts_202 (fun H locs hP hD hS => ?_)
  have hP : va_P D vwCl [(e0, .inl (cI, 45, .inl (fun i => jI (fe i)))), (w0, .inl (cJ, 60, .inr (.inl (fun i => vL ((va_up (va_up (va_up (va_up fw 1 (((P 2) * (fw 0)) + ((P 3) * (fw 1)))) 0 (((P 0) * (fw 0)) + ((P 1) * (fw 1)))) 2 ((((((P 0) * (fw 2)) + ((P 1) * (fw 3))) * (P 0)) + ((((P 0) * (fw 3)) + ((P 1) * (fw 4))) * (P 1))) + (P 4))) 3 ((((((P 0) * (fw 2)) + ((P 1) * (fw 3))) * (P 2)) + ((((P 0) * (fw 3)) + ((P 1) * (fw 4))) * (P 3))) + (P 5))) i)))))] H := hP
  have hD : va_D A [(e0, .inl (cI, 45, .inl (fun i => jI (fe i)))), (w0, .inl (cJ, 60, .inr (.inl (fun i => vL ((va_up (va_up (va_up (va_up fw 1 (((P 2) * (fw 0)) + ((P 3) * (fw 1)))) 0 (((P 0) * (fw 0)) + ((P 1) * (fw 1)))) 2 ((((((P 0) * (fw 2)) + ((P 1) * (fw 3))) * (P 0)) + ((((P 0) * (fw 3)) + ((P 1) * (fw 4))) * (P 1))) + (P 4))) 3 ((((((P 0) * (fw 2)) + ((P 1) * (fw 3))) * (P 2)) + ((((P 0) * (fw 3)) + ((P 1) * (fw 4))) * (P 3))) + (P 5))) i)))))] := hD
  refine lv_aload_n hx hb dL_predicts_203 rfl (lv_at hl 6 rfl) ?_
  refine n_iconst hx hb dL_predicts_204 ?_
  refine lv_aload_n hx hb dL_predicts_205 rfl (lv_at hl 4 rfl) ?_
  refine lv_iload_n hx hb dL_predicts_206 rfl (lv_at hl 5 rfl) ?_
  refine n_iconst hx hb dL_predicts_207 ?_
  refine n_iadd hx hb dL_predicts_208 ?_
  refine n_ialdv (i := (a + 2)) (v := (zv (P 2))) hx hb hK hP 0 0 rfl htI (by omega) (by omega) (Nat.le_of_ble_eq_true rfl) hE2 dL_predicts_209 ?_
  refine n_i2lZ hx hb dL_predicts_210 ?_
  refine lv_lload hx hb dL_predicts_211 (lv_at hl 2 rfl) ?_
  refine n_lmul hx hb dL_predicts_213 ?_
  refine lv_aload_n hx hb dL_predicts_214 rfl (lv_at hl 4 rfl) ?_
  refine lv_iload_n hx hb dL_predicts_215 rfl (lv_at hl 5 rfl) ?_
  refine n_iconst hx hb dL_predicts_216 ?_
  refine n_iadd hx hb dL_predicts_217 ?_
  refine n_ialdv (i := (a + 3)) (v := (zv (P 3))) hx hb hK hP 0 0 rfl htI (by omega) (by omega) (Nat.le_of_ble_eq_true rfl) hE3 dL_predicts_218 ?_
  refine n_i2lZ hx hb dL_predicts_219 ?_
  refine lv_lload hx hb dL_predicts_220 (lv_at hl 1 rfl) ?_
  refine n_lmul hx hb dL_predicts_222 ?_
  refine n_ladd hx hb dL_predicts_223 ?_
  have ct224 := c_L_by l D tys ((zv (P 2) * zv (fw 2)) + (zv (P 3) * zv (fw 3))) _ _ (rp_a (rp_add (rp_mul (rp_v (P 2)) (rp_v (fw 2))) (rp_mul (rp_v (P 3)) (rp_v (fw 3))))) (Nat.le_of_ble_eq_true rfl)
  refine k_goL (va_runS (As := [.long (jL ((zv (P 2) * zv (fw 2)) + (zv (P 3) * zv (fw 3))))]) (rest := [.int (jI 4), .ref w0]) ⟨hx, hb, hml, hown, hts⟩ (ct224.2 _) (va_cwS 1 hts gL_predicts_L_by rfl rfl rfl (by decide +kernel) ⟨Nat.le_of_ble_eq_true rfl, Nat.le_of_ble_eq_true rfl⟩) (k_pre hK hP hD (is := []) rfl rfl) rfl rfl hl.1 rfl (lv_room (Nat.le_of_ble_eq_true rfl)) dL_predicts_224 ⟨Nat.le_of_ble_eq_true rfl, Nat.le_of_ble_eq_true rfl⟩) ct224.1 hP hD hS hA [] rfl rfl (fun H locs hP hD hS => ?_)
  have hP : va_P D vwCl [(e0, .inl (cI, 45, .inl (fun i => jI (fe i)))), (w0, .inl (cJ, 60, .inr (.inl (fun i => vL ((va_up (va_up (va_up (va_up fw 1 (((P 2) * (fw 0)) + ((P 3) * (fw 1)))) 0 (((P 0) * (fw 0)) + ((P 1) * (fw 1)))) 2 ((((((P 0) * (fw 2)) + ((P 1) * (fw 3))) * (P 0)) + ((((P 0) * (fw 3)) + ((P 1) * (fw 4))) * (P 1))) + (P 4))) 3 ((((((P 0) * (fw 2)) + ((P 1) * (fw 3))) * (P 2)) + ((((P 0) * (fw 3)) + ((P 1) * (fw 4))) * (P 3))) + (P 5))) i)))))] H := hP
  have hD : va_D A [(e0, .inl (cI, 45, .inl (fun i => jI (fe i)))), (w0, .inl (cJ, 60, .inr (.inl (fun i => vL ((va_up (va_up (va_up (va_up fw 1 (((P 2) * (fw 0)) + ((P 3) * (fw 1)))) 0 (((P 0) * (fw 0)) + ((P 1) * (fw 1)))) 2 ((((((P 0) * (fw 2)) + ((P 1) * (fw 3))) * (P 0)) + ((((P 0) * (fw 3)) + ((P 1) * (fw 4))) * (P 1))) + (P 4))) 3 ((((((P 0) * (fw 2)) + ((P 1) * (fw 3))) * (P 2)) + ((((P 0) * (fw 3)) + ((P 1) * (fw 4))) * (P 3))) + (P 5))) i)))))] := hD
  refine lv_aload_n hx hb dL_predicts_227 rfl (lv_at hl 4 rfl) ?_
  refine lv_iload_n hx hb dL_predicts_228 rfl (lv_at hl 5 rfl) ?_
  refine n_iconst hx hb dL_predicts_229 ?_
  refine n_iadd hx hb dL_predicts_230 ?_
  refine n_ialdv (i := (a + 2)) (v := (zv (P 2))) hx hb hK hP 0 0 rfl htI (by omega) (by omega) (Nat.le_of_ble_eq_true rfl) hE2 dL_predicts_231 ?_
  refine n_i2lZ hx hb dL_predicts_232 ?_
  refine n_lmul hx hb dL_predicts_233 ?_
  refine lv_aload_n hx hb dL_predicts_234 rfl (lv_at hl 4 rfl) ?_
  refine lv_iload_n hx hb dL_predicts_235 rfl (lv_at hl 5 rfl) ?_
  refine n_iconst hx hb dL_predicts_236 ?_
  refine n_iadd hx hb dL_predicts_237 ?_
  refine n_ialdv (i := (a + 2)) (v := (zv (P 2))) hx hb hK hP 0 0 rfl htI (by omega) (by omega) (Nat.le_of_ble_eq_true rfl) hE2 dL_predicts_238 ?_
  refine n_i2lZ hx hb dL_predicts_239 ?_
  refine lv_lload hx hb dL_predicts_240 (lv_at hl 1 rfl) ?_
  refine n_lmul hx hb dL_predicts_242 ?_
  refine lv_aload_n hx hb dL_predicts_243 rfl (lv_at hl 4 rfl) ?_
  refine lv_iload_n hx hb dL_predicts_244 rfl (lv_at hl 5 rfl) ?_
  refine n_iconst hx hb dL_predicts_245 ?_
  refine n_iadd hx hb dL_predicts_246 ?_
  refine n_ialdv (i := (a + 3)) (v := (zv (P 3))) hx hb hK hP 0 0 rfl htI (by omega) (by omega) (Nat.le_of_ble_eq_true rfl) hE3 dL_predicts_247 ?_
  refine n_i2lZ hx hb dL_predicts_248 ?_
  refine lv_lload hx hb dL_predicts_249 (lv_at hl 0 rfl) ?_
  refine n_lmul hx hb dL_predicts_251 ?_
  refine n_ladd hx hb dL_predicts_252 ?_
  have ct253 := c_L_by l D tys ((zv (P 2) * zv (fw 3)) + (zv (P 3) * zv (fw 4))) _ _ (rp_a (rp_add (rp_mul (rp_v (P 2)) (rp_v (fw 3))) (rp_mul (rp_v (P 3)) (rp_v (fw 4))))) (Nat.le_of_ble_eq_true rfl)
  refine k_goL (va_runS (As := [.long (jL ((zv (P 2) * zv (fw 3)) + (zv (P 3) * zv (fw 4))))]) (rest := [.long (jL (zv (((P 2) * (fw 2)) + ((P 3) * (fw 3))) * zv (P 2))), .int (jI 4), .ref w0]) ⟨hx, hb, hml, hown, hts⟩ (ct253.2 _) (va_cwS 1 hts gL_predicts_L_by rfl rfl rfl (by decide +kernel) ⟨Nat.le_of_ble_eq_true rfl, Nat.le_of_ble_eq_true rfl⟩) (k_pre hK hP hD (is := []) rfl rfl) rfl rfl hl.1 rfl (lv_room (Nat.le_of_ble_eq_true rfl)) dL_predicts_253 ⟨Nat.le_of_ble_eq_true rfl, Nat.le_of_ble_eq_true rfl⟩) ct253.1 hP hD hS hA [] rfl rfl (fun H locs hP hD hS => ?_)
  have hP : va_P D vwCl [(e0, .inl (cI, 45, .inl (fun i => jI (fe i)))), (w0, .inl (cJ, 60, .inr (.inl (fun i => vL ((va_up (va_up (va_up (va_up fw 1 (((P 2) * (fw 0)) + ((P 3) * (fw 1)))) 0 (((P 0) * (fw 0)) + ((P 1) * (fw 1)))) 2 ((((((P 0) * (fw 2)) + ((P 1) * (fw 3))) * (P 0)) + ((((P 0) * (fw 3)) + ((P 1) * (fw 4))) * (P 1))) + (P 4))) 3 ((((((P 0) * (fw 2)) + ((P 1) * (fw 3))) * (P 2)) + ((((P 0) * (fw 3)) + ((P 1) * (fw 4))) * (P 3))) + (P 5))) i)))))] H := hP
  have hD : va_D A [(e0, .inl (cI, 45, .inl (fun i => jI (fe i)))), (w0, .inl (cJ, 60, .inr (.inl (fun i => vL ((va_up (va_up (va_up (va_up fw 1 (((P 2) * (fw 0)) + ((P 3) * (fw 1)))) 0 (((P 0) * (fw 0)) + ((P 1) * (fw 1)))) 2 ((((((P 0) * (fw 2)) + ((P 1) * (fw 3))) * (P 0)) + ((((P 0) * (fw 3)) + ((P 1) * (fw 4))) * (P 1))) + (P 4))) 3 ((((((P 0) * (fw 2)) + ((P 1) * (fw 3))) * (P 2)) + ((((P 0) * (fw 3)) + ((P 1) * (fw 4))) * (P 3))) + (P 5))) i)))))] := hD
  refine lv_aload_n hx hb dL_predicts_256 rfl (lv_at hl 4 rfl) ?_
  refine lv_iload_n hx hb dL_predicts_257 rfl (lv_at hl 5 rfl) ?_
  refine n_iconst hx hb dL_predicts_258 ?_
  refine n_iadd hx hb dL_predicts_259 ?_
  refine n_ialdv (i := (a + 3)) (v := (zv (P 3))) hx hb hK hP 0 0 rfl htI (by omega) (by omega) (Nat.le_of_ble_eq_true rfl) hE3 dL_predicts_260 ?_
  refine n_i2lZ hx hb dL_predicts_261 ?_
  refine n_lmul hx hb dL_predicts_262 ?_
  refine n_ladd hx hb dL_predicts_263 ?_
  refine lv_aload_n hx hb dL_predicts_264 rfl (lv_at hl 4 rfl) ?_
  refine lv_iload_n hx hb dL_predicts_265 rfl (lv_at hl 5 rfl) ?_
  refine n_bipush hx hb dL_predicts_266 (by decide) ?_
  refine n_iadd hx hb dL_predicts_268 ?_
  refine n_ialdv (i := (a + 6)) (v := (zv (P 6))) hx hb hK hP 0 0 rfl htI (by omega) (by omega) (Nat.le_of_ble_eq_true rfl) hE6 dL_predicts_269 ?_
  refine n_i2lZ hx hb dL_predicts_270 ?_
  refine n_ladd hx hb dL_predicts_271 ?_
  have ct272 := c_L_by l D tys (((zv (((P 2) * (fw 2)) + ((P 3) * (fw 3))) * zv (P 2)) + (zv (((P 2) * (fw 3)) + ((P 3) * (fw 4))) * zv (P 3))) + zv (P 6)) _ _ (rp_a (rp_add (rp_add (rp_mul (rp_v (((P 2) * (fw 2)) + ((P 3) * (fw 3)))) (rp_v (P 2))) (rp_mul (rp_v (((P 2) * (fw 3)) + ((P 3) * (fw 4)))) (rp_v (P 3)))) (rp_v (P 6)))) (Nat.le_of_ble_eq_true rfl)
  refine k_goL (va_runS (As := [.long (jL (((zv (((P 2) * (fw 2)) + ((P 3) * (fw 3))) * zv (P 2)) + (zv (((P 2) * (fw 3)) + ((P 3) * (fw 4))) * zv (P 3))) + zv (P 6)))]) (rest := [.int (jI 4), .ref w0]) ⟨hx, hb, hml, hown, hts⟩ (ct272.2 _) (va_cwS 1 hts gL_predicts_L_by rfl rfl rfl (by decide +kernel) ⟨Nat.le_of_ble_eq_true rfl, Nat.le_of_ble_eq_true rfl⟩) (k_pre hK hP hD (is := []) rfl rfl) rfl rfl hl.1 rfl (lv_room (Nat.le_of_ble_eq_true rfl)) dL_predicts_272 ⟨Nat.le_of_ble_eq_true rfl, Nat.le_of_ble_eq_true rfl⟩) ct272.1 hP hD hS hA [] rfl rfl (fun H locs hP hD hS => ?_)
  have hP : va_P D vwCl [(e0, .inl (cI, 45, .inl (fun i => jI (fe i)))), (w0, .inl (cJ, 60, .inr (.inl (fun i => vL ((va_up (va_up (va_up (va_up fw 1 (((P 2) * (fw 0)) + ((P 3) * (fw 1)))) 0 (((P 0) * (fw 0)) + ((P 1) * (fw 1)))) 2 ((((((P 0) * (fw 2)) + ((P 1) * (fw 3))) * (P 0)) + ((((P 0) * (fw 3)) + ((P 1) * (fw 4))) * (P 1))) + (P 4))) 3 ((((((P 0) * (fw 2)) + ((P 1) * (fw 3))) * (P 2)) + ((((P 0) * (fw 3)) + ((P 1) * (fw 4))) * (P 3))) + (P 5))) i)))))] H := hP
  have hD : va_D A [(e0, .inl (cI, 45, .inl (fun i => jI (fe i)))), (w0, .inl (cJ, 60, .inr (.inl (fun i => vL ((va_up (va_up (va_up (va_up fw 1 (((P 2) * (fw 0)) + ((P 3) * (fw 1)))) 0 (((P 0) * (fw 0)) + ((P 1) * (fw 1)))) 2 ((((((P 0) * (fw 2)) + ((P 1) * (fw 3))) * (P 0)) + ((((P 0) * (fw 3)) + ((P 1) * (fw 4))) * (P 1))) + (P 4))) 3 ((((((P 0) * (fw 2)) + ((P 1) * (fw 3))) * (P 2)) + ((((P 0) * (fw 3)) + ((P 1) * (fw 4))) * (P 3))) + (P 5))) i)))))] := hD
  refine n_zlast (i := 4) (x := ((((((P 2) * (fw 2)) + ((P 3) * (fw 3))) * (P 2)) + ((((P 2) * (fw 3)) + ((P 3) * (fw 4))) * (P 3))) + (P 6))) hx hb hK hP hD hS 1 1 rfl htJ rfl (Nat.le_of_ble_eq_true rfl) (Nat.le_of_ble_eq_true rfl) dL_predicts_275 (fun H locs hP hD hS => ?_)
  have hP : va_P D vwCl [(e0, .inl (cI, 45, .inl (fun i => jI (fe i)))), (w0, .inl (cJ, 60, .inr (.inl (fun i => vL ((va_up (va_up (va_up (va_up (va_up fw 1 (((P 2) * (fw 0)) + ((P 3) * (fw 1)))) 0 (((P 0) * (fw 0)) + ((P 1) * (fw 1)))) 2 ((((((P 0) * (fw 2)) + ((P 1) * (fw 3))) * (P 0)) + ((((P 0) * (fw 3)) + ((P 1) * (fw 4))) * (P 1))) + (P 4))) 3 ((((((P 0) * (fw 2)) + ((P 1) * (fw 3))) * (P 2)) + ((((P 0) * (fw 3)) + ((P 1) * (fw 4))) * (P 3))) + (P 5))) 4 ((((((P 2) * (fw 2)) + ((P 3) * (fw 3))) * (P 2)) + ((((P 2) * (fw 3)) + ((P 3) * (fw 4))) * (P 3))) + (P 6))) i)))))] H := hP
  have hD : va_D A [(e0, .inl (cI, 45, .inl (fun i => jI (fe i)))), (w0, .inl (cJ, 60, .inr (.inl (fun i => vL ((va_up (va_up (va_up (va_up (va_up fw 1 (((P 2) * (fw 0)) + ((P 3) * (fw 1)))) 0 (((P 0) * (fw 0)) + ((P 1) * (fw 1)))) 2 ((((((P 0) * (fw 2)) + ((P 1) * (fw 3))) * (P 0)) + ((((P 0) * (fw 3)) + ((P 1) * (fw 4))) * (P 1))) + (P 4))) 3 ((((((P 0) * (fw 2)) + ((P 1) * (fw 3))) * (P 2)) + ((((P 0) * (fw 3)) + ((P 1) * (fw 4))) * (P 3))) + (P 5))) 4 ((((((P 2) * (fw 2)) + ((P 3) * (fw 3))) * (P 2)) + ((((P 2) * (fw 3)) + ((P 3) * (fw 4))) * (P 3))) + (P 6))) i)))))] := hD
  exact k_vret hx hb hr hlocks dL_predicts_276 hP hS
