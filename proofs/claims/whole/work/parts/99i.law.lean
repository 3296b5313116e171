/-! the law's own methods -/
set_option maxHeartbeats 8000000 in
set_option maxRecDepth 100000 in
/--  -/
theorem w_model (l : Launch) (D : va_G) (tys : List (ClassId × FieldType)) {cI cJ cE cG cM cS : ClassId} (htJ : tys[1]? = some (cJ, .long)) (x0 q0 q1 : Nat) (qr : Nat → Nat) (ms es : Nat) (gE gM gB : Nat → Zp) (gT : Nat → Nat) (gG : Nat → Zp) (gN : Nat → Nat) (gK : Nat → Zp) (gD : Nat → Bool) (κ : Nat → EG) (g2 : SG) (k : Nat) (v : Int32) (hC : CDo l D tys cI cE cG cM cS x0 q0 q1 qr xcm yX6_model wsX6_model [] (ms, es, gE, gM, gB, gT, gG, gN, gK, gD) κ g2 k v) (o0 : Nat) (q : Nat → Int) : CtW (S := (Nat → EG) × (Nat → Int)) l D tys yL_model wsL_model 10 200 228 867 [.ref x0, .ref o0] (fun (r : Int32) (u : (Nat → EG) × (Nat → Int)) => r = jI ((k : Nat) : Int) ∧ INV g2 u.1 ∧ (k = 0 → jI (u.2 0) = v ∧ r32 (u.2 0))) (xOut cJ o0 q :: (CW cI cE cG cM cS x0 q0 q1 qr (ms, es, gE, gM, gB, gT, gG, gN, gK, gD) κ)) (fun u => xOut cJ o0 u.2 :: (CW cI cE cG cM cS x0 q0 q1 qr g2 u.1)) := by
  refine CtW.of (cc := cL_model) (maxL := 3) (hh := [(0, 8, 11, 13)]) (by decide +kernel) rfl (Nat.le_of_ble_eq_true rfl) ?_
  intro p e s m below meth c A ls hcx htab hK hX hZ hN hP hD hA hl
  obtain ⟨hx, hb, hr, hml, hown, hts, hlocks⟩ := hcx
  have hS : va_S A s.heap s.heap [] := va_S.rf
  have hown : s.vm.findClass RL = some m.cls := hown
  have hl : lv_has ls 3 [(0, .ref x0), (1, .ref o0)] := hl
  refine lv_aload_n hx hb dL_model_0 rfl (lv_at hl 1 rfl) ?_
  refine n_iconst hx hb dL_model_1 ?_
  refine lv_aload_n hx hb dL_model_2 rfl (lv_at hl 0 rfl) ?_
  sorry
