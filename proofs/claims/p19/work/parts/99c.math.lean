/-! the second way, by information alone, comes to the same -/
/-- f is the information form of s -/
def IR (s f : S5) : Prop := s.2.2.1 * f.2.2.1 + s.2.2.2.1 * f.2.2.2.1 - 1 = 0 ∧ s.2.2.1 * f.2.2.2.1 + s.2.2.2.1 * f.2.2.2.2 = 0 ∧ s.2.2.2.1 * f.2.2.1 + s.2.2.2.2 * f.2.2.2.1 = 0 ∧ s.2.2.2.1 * f.2.2.2.1 + s.2.2.2.2 * f.2.2.2.2 - 1 = 0 ∧ f.1 - (f.2.2.1 * s.1 + f.2.2.2.1 * s.2.1) = 0 ∧ f.2.1 - (f.2.2.2.1 * s.1 + f.2.2.2.2 * s.2.1) = 0
theorem z_sub {a b : Zp} (h : a - b = 0) : a = b := by grind
theorem z_one : (1 : Zp) ≠ 0 := by decide
theorem rg_1 (p0 p1 p2 i : Zp) : p0 * (p2 * i) + p1 * (0 - p1 * i) - 1 = (p0 * p2 - p1 * p1) * i - 1 := by grind
theorem rg_2 (p0 p1 i : Zp) : p0 * (0 - p1 * i) + p1 * (p0 * i) = 0 := by grind
theorem rg_3 (p1 p2 i : Zp) : p1 * (p2 * i) + p2 * (0 - p1 * i) = 0 := by grind
theorem rg_4 (p0 p1 p2 i : Zp) : p1 * (0 - p1 * i) + p2 * (p0 * i) - 1 = (p0 * p2 - p1 * p1) * i - 1 := by grind
theorem rg_50 (D y i : Zp) : D * y * i = D * i * y := by grind
theorem rg_5 {D y i : Zp} (e : D * i = 1) : D * y * i = y := by rw [rg_50, e, Fin.one_mul]
theorem rg_6 (p i : Zp) : 0 - p * i = (-p) * i := by grind
theorem z_s0 (a : Zp) : a - a = 0 := by grind
theorem ir_of {s f : S5} (h : flip5 s = some f) : IR s f := by
  obtain ⟨x0, x1, p0, p1, p2⟩ := s
  unfold flip5 at h
  by_cases hd : det5 (x0, x1, p0, p1, p2) = 0
  · rw [if_pos hd] at h; cases h
  · rw [if_neg hd] at h
    have e := z_inv hd
    have h := Option.some.inj h
    subst h
    have hdd : det5 (x0, x1, p0, p1, p2) = p0 * p2 - p1 * p1 := rfl
    unfold IR tim5 inv5
    rw [hdd] at e ⊢
    generalize zinv (p0 * p2 - p1 * p1) = i at e ⊢
    refine ⟨?_, ?_, ?_, ?_, ?_, ?_⟩
    · show p0 * (p2 * i) + p1 * (0 - p1 * i) - 1 = 0
      rw [rg_1, e]; exact z_s0 1
    · exact rg_2 p0 p1 i
    · exact rg_3 p1 p2 i
    · show p1 * (0 - p1 * i) + p2 * (p0 * i) - 1 = 0
      rw [rg_4, e]; exact z_s0 1
    · exact z_s0 _
    · exact z_s0 _
theorem ir_to {s f : S5} (h : IR s f) : flip5 s = some f := by
  obtain ⟨x0, x1, p0, p1, p2⟩ := s
  obtain ⟨f0, f1, y0, y1, y2⟩ := f
  obtain ⟨h1, h2, h3, h4, h5, h6⟩ := h
  have h1 : p0 * y0 + p1 * y1 - 1 = 0 := h1
  have h2 : p0 * y1 + p1 * y2 = 0 := h2
  have h3 : p1 * y0 + p2 * y1 = 0 := h3
  have h4 : p1 * y1 + p2 * y2 - 1 = 0 := h4
  have h5 : f0 - (y0 * x0 + y1 * x1) = 0 := h5
  have h6 : f1 - (y1 * x0 + y2 * x1) = 0 := h6
  have hdd : det5 (x0, x1, p0, p1, p2) = p0 * p2 - p1 * p1 := rfl
  have d0 : (p0 * p2 - p1 * p1) * y0 - p2 = p2 * (p0 * y0 + p1 * y1 - 1) - p1 * (p1 * y0 + p2 * y1) := by clear h1 h2 h3 h4 h5 h6 hdd; grind
  have d1 : (p0 * p2 - p1 * p1) * y1 + p1 = p0 * (p1 * y0 + p2 * y1) - p1 * (p0 * y0 + p1 * y1 - 1) := by clear h1 h2 h3 h4 h5 h6 hdd d0; grind
  have d2 : (p0 * p2 - p1 * p1) * y2 - p0 = p0 * (p1 * y1 + p2 * y2 - 1) - p1 * (p0 * y1 + p1 * y2) := by clear h1 h2 h3 h4 h5 h6 hdd d0 d1; grind
  have d3 : (p0 * p2 - p1 * p1) * (y0 * y2 - y1 * y1) - 1 = (p0 * y0 + p1 * y1 - 1) * (p1 * y1 + p2 * y2) + (p1 * y1 + p2 * y2 - 1) - (p0 * y1 + p1 * y2) * (p1 * y0 + p2 * y1) := by clear h1 h2 h3 h4 h5 h6 hdd d0 d1 d2; grind
  rw [h1, h3] at d0 d1
  rw [h4, h2] at d2
  rw [h1, h4, h2] at d3
  have e0 : (p0 * p2 - p1 * p1) * y0 = p2 := by clear h1 h2 h3 h4 h5 h6 hdd d1 d2 d3; grind
  have e1 : (p0 * p2 - p1 * p1) * y1 = -p1 := by clear h1 h2 h3 h4 h5 h6 hdd d0 d2 d3; grind
  have e2 : (p0 * p2 - p1 * p1) * y2 = p0 := by clear h1 h2 h3 h4 h5 h6 hdd d0 d1 d3; grind
  have e3 : (p0 * p2 - p1 * p1) * (y0 * y2 - y1 * y1) = 1 := by clear h1 h2 h3 h4 h5 h6 hdd d0 d1 d2; grind
  have hd : ¬ p0 * p2 - p1 * p1 = 0 := fun q => by rw [q, Fin.zero_mul] at e3; exact absurd e3.symm z_one
  have ei := z_inv hd
  unfold flip5 tim5 inv5
  rw [hdd, if_neg hd]
  generalize zinv (p0 * p2 - p1 * p1) = i at ei ⊢
  have k0 : p2 * i = y0 := by rw [← e0]; exact rg_5 ei
  have k1 : 0 - p1 * i = y1 := by rw [rg_6, ← e1]; exact rg_5 ei
  have k2 : p0 * i = y2 := by
    have : p0 * i = (p0 * p2 - p1 * p1) * y2 * i := by rw [e2]
    rw [this]; exact rg_5 ei
  show some ((p2 * i * x0 + (0 - p1 * i) * x1, (0 - p1 * i) * x0 + p0 * i * x1, p2 * i, 0 - p1 * i, p0 * i) : S5) = some ((f0, f1, y0, y1, y2) : S5)
  rw [k0, k1, k2, z_sub h5, z_sub h6]
theorem ir_symm {s f : S5} (h : IR s f) : IR f s := by
  obtain ⟨x0, x1, p0, p1, p2⟩ := s
  obtain ⟨f0, f1, y0, y1, y2⟩ := f
  obtain ⟨h1, h2, h3, h4, h5, h6⟩ := h
  have h1 : p0 * y0 + p1 * y1 - 1 = 0 := h1
  have h2 : p0 * y1 + p1 * y2 = 0 := h2
  have h3 : p1 * y0 + p2 * y1 = 0 := h3
  have h4 : p1 * y1 + p2 * y2 - 1 = 0 := h4
  have h5 : f0 - (y0 * x0 + y1 * x1) = 0 := h5
  have h6 : f1 - (y1 * x0 + y2 * x1) = 0 := h6
  refine ⟨?_, ?_, ?_, ?_, ?_, ?_⟩
  · show y0 * p0 + y1 * p1 - 1 = 0
    rw [Fin.mul_comm y0, Fin.mul_comm y1]; exact h1
  · show y0 * p1 + y1 * p2 = 0
    rw [Fin.mul_comm y0, Fin.mul_comm y1]; exact h3
  · show y1 * p0 + y2 * p1 = 0
    rw [Fin.mul_comm y1, Fin.mul_comm y2]; exact h2
  · show y1 * p1 + y2 * p2 - 1 = 0
    rw [Fin.mul_comm y1, Fin.mul_comm y2]; exact h4
  · show x0 - (p0 * f0 + p1 * f1) = 0
    rw [z_sub h5, z_sub h6]
    have e : x0 - (p0 * (y0 * x0 + y1 * x1) + p1 * (y1 * x0 + y2 * x1)) = -((p0 * y0 + p1 * y1 - 1) * x0) - (p0 * y1 + p1 * y2) * x1 := by clear h1 h2 h3 h4 h5 h6; grind
    rw [e, h1, h2]; clear e h1 h2 h3 h4 h5 h6; grind
  · show x1 - (p1 * f0 + p2 * f1) = 0
    rw [z_sub h5, z_sub h6]
    have e : x1 - (p1 * (y0 * x0 + y1 * x1) + p2 * (y1 * x0 + y2 * x1)) = -((p1 * y1 + p2 * y2 - 1) * x1) - (p1 * y0 + p2 * y1) * x0 := by clear h1 h2 h3 h4 h5 h6; grind
    rw [e, h3, h4]; clear e h1 h2 h3 h4 h5 h6; grind
section ALG
variable {p0 p1 p2 y0 y1 y2 h j r i q c d S x0 x1 f0 f1 z : Zp}
theorem al_k1 (Hc : c - (p0 * h + p1 * j) = 0) (Hd : d - (p1 * h + p2 * j) = 0) (H1 : p0 * y0 + p1 * y1 - 1 = 0) (H3 : p1 * y0 + p2 * y1 = 0) : c * y0 + d * y1 - h = 0 := by
  have e : c * y0 + d * y1 - h = (c - (p0 * h + p1 * j)) * y0 + (d - (p1 * h + p2 * j)) * y1 + h * (p0 * y0 + p1 * y1 - 1) + j * (p1 * y0 + p2 * y1) := by clear Hc Hd H1 H3; grind
  rw [e, Hc, Hd, H1, H3]; clear e Hc Hd H1 H3; grind
theorem al_k2 (Hc : c - (p0 * h + p1 * j) = 0) (Hd : d - (p1 * h + p2 * j) = 0) (H2 : p0 * y1 + p1 * y2 = 0) (H4 : p1 * y1 + p2 * y2 - 1 = 0) : c * y1 + d * y2 - j = 0 := by
  have e : c * y1 + d * y2 - j = (c - (p0 * h + p1 * j)) * y1 + (d - (p1 * h + p2 * j)) * y2 + h * (p0 * y1 + p1 * y2) + j * (p1 * y1 + p2 * y2 - 1) := by clear Hc Hd H2 H4; grind
  rw [e, Hc, Hd, H2, H4]; clear e Hc Hd H2 H4; grind
theorem al_1 (Hc : c - (p0 * h + p1 * j) = 0) (HS : S - (h * c + j * d + r) = 0) (Hi : S * i - 1 = 0) (Hq : r * q - 1 = 0) (H1 : p0 * y0 + p1 * y1 - 1 = 0) (K1 : c * y0 + d * y1 - h = 0) : (p0 + c * (0 - i) * c) * (y0 + h * q * h) + (p1 + c * (0 - i) * d) * (y1 + h * q * j) - 1 = 0 := by
  have e : (p0 + c * (0 - i) * c) * (y0 + h * q * h) + (p1 + c * (0 - i) * d) * (y1 + h * q * j) - 1 = (p0 * y0 + p1 * y1 - 1) - q * h * (c - (p0 * h + p1 * j)) - c * i * (c * y0 + d * y1 - h) + c * i * q * h * (S - (h * c + j * d + r)) - q * h * c * (S * i - 1) + c * i * h * (r * q - 1) := by clear Hc HS Hi Hq H1 K1; grind
  rw [e, Hc, HS, Hi, Hq, H1, K1]; clear e Hc HS Hi Hq H1 K1; grind
theorem al_2 (Hc : c - (p0 * h + p1 * j) = 0) (HS : S - (h * c + j * d + r) = 0) (Hi : S * i - 1 = 0) (Hq : r * q - 1 = 0) (H2 : p0 * y1 + p1 * y2 = 0) (K2 : c * y1 + d * y2 - j = 0) : (p0 + c * (0 - i) * c) * (y1 + h * q * j) + (p1 + c * (0 - i) * d) * (y2 + j * q * j) = 0 := by
  have e : (p0 + c * (0 - i) * c) * (y1 + h * q * j) + (p1 + c * (0 - i) * d) * (y2 + j * q * j) = (p0 * y1 + p1 * y2) - q * j * (c - (p0 * h + p1 * j)) - c * i * (c * y1 + d * y2 - j) + c * i * q * j * (S - (h * c + j * d + r)) - q * j * c * (S * i - 1) + c * i * j * (r * q - 1) := by clear Hc HS Hi Hq H2 K2; grind
  rw [e, Hc, HS, Hi, Hq, H2, K2]; clear e Hc HS Hi Hq H2 K2; grind
theorem al_3 (Hd : d - (p1 * h + p2 * j) = 0) (HS : S - (h * c + j * d + r) = 0) (Hi : S * i - 1 = 0) (Hq : r * q - 1 = 0) (H3 : p1 * y0 + p2 * y1 = 0) (K1 : c * y0 + d * y1 - h = 0) : (p1 + c * (0 - i) * d) * (y0 + h * q * h) + (p2 + d * (0 - i) * d) * (y1 + h * q * j) = 0 := by
  have e : (p1 + c * (0 - i) * d) * (y0 + h * q * h) + (p2 + d * (0 - i) * d) * (y1 + h * q * j) = (p1 * y0 + p2 * y1) - q * h * (d - (p1 * h + p2 * j)) - d * i * (c * y0 + d * y1 - h) + d * i * q * h * (S - (h * c + j * d + r)) - q * h * d * (S * i - 1) + d * i * h * (r * q - 1) := by clear Hd HS Hi Hq H3 K1; grind
  rw [e, Hd, HS, Hi, Hq, H3, K1]; clear e Hd HS Hi Hq H3 K1; grind
theorem al_4 (Hd : d - (p1 * h + p2 * j) = 0) (HS : S - (h * c + j * d + r) = 0) (Hi : S * i - 1 = 0) (Hq : r * q - 1 = 0) (H4 : p1 * y1 + p2 * y2 - 1 = 0) (K2 : c * y1 + d * y2 - j = 0) : (p1 + c * (0 - i) * d) * (y1 + h * q * j) + (p2 + d * (0 - i) * d) * (y2 + j * q * j) - 1 = 0 := by
  have e : (p1 + c * (0 - i) * d) * (y1 + h * q * j) + (p2 + d * (0 - i) * d) * (y2 + j * q * j) - 1 = (p1 * y1 + p2 * y2 - 1) - q * j * (d - (p1 * h + p2 * j)) - d * i * (c * y1 + d * y2 - j) + d * i * q * j * (S - (h * c + j * d + r)) - q * j * d * (S * i - 1) + d * i * j * (r * q - 1) := by clear Hd HS Hi Hq H4 K2; grind
  rw [e, Hd, HS, Hi, Hq, H4, K2]; clear e Hd HS Hi Hq H4 K2; grind
theorem al_5 {v : Zp} (Hv : v - (z - (h * x0 + j * x1)) = 0) (HS : S - (h * c + j * d + r) = 0) (Hi : S * i - 1 = 0) (Hq : r * q - 1 = 0) (K1 : c * y0 + d * y1 - h = 0) (F : f0 - (y0 * x0 + y1 * x1) = 0) : (f0 + h * (z * q)) - ((y0 + h * q * h) * (x0 + c * (v * i)) + (y1 + h * q * j) * (x1 + d * (v * i))) = 0 := by
  have e : (f0 + h * (z * q)) - ((y0 + h * q * h) * (x0 + c * (v * i)) + (y1 + h * q * j) * (x1 + d * (v * i))) = (f0 - (y0 * x0 + y1 * x1)) - v * i * (c * y0 + d * y1 - h) + h * q * v * i * (S - (h * c + j * d + r)) + v * i * h * (r * q - 1) - h * q * v * (S * i - 1) - h * q * (v - (z - (h * x0 + j * x1))) := by clear Hv HS Hi Hq K1 F; grind
  rw [e, Hv, HS, Hi, Hq, K1, F]; clear e Hv HS Hi Hq K1 F; grind
theorem al_6 {v : Zp} (Hv : v - (z - (h * x0 + j * x1)) = 0) (HS : S - (h * c + j * d + r) = 0) (Hi : S * i - 1 = 0) (Hq : r * q - 1 = 0) (K2 : c * y1 + d * y2 - j = 0) (F : f1 - (y1 * x0 + y2 * x1) = 0) : (f1 + j * (z * q)) - ((y1 + h * q * j) * (x0 + c * (v * i)) + (y2 + j * q * j) * (x1 + d * (v * i))) = 0 := by
  have e : (f1 + j * (z * q)) - ((y1 + h * q * j) * (x0 + c * (v * i)) + (y2 + j * q * j) * (x1 + d * (v * i))) = (f1 - (y1 * x0 + y2 * x1)) - v * i * (c * y1 + d * y2 - j) + j * q * v * i * (S - (h * c + j * d + r)) + v * i * j * (r * q - 1) - j * q * v * (S * i - 1) - j * q * (v - (z - (h * x0 + j * x1))) := by clear Hv HS Hi Hq K2 F; grind
  rw [e, Hv, HS, Hi, Hq, K2, F]; clear e Hv HS Hi Hq K2 F; grind
end ALG
/-- a measurement in both forms -/
theorem ir_cor {s f : S5} {m : Nat → Zp} (h : IR s f) (hS : ¬ mS m s = 0) (hr : ¬ m 4 = 0) : IR (cor m s) (inf1 m f) := by
  obtain ⟨x0, x1, p0, p1, p2⟩ := s
  obtain ⟨f0, f1, y0, y1, y2⟩ := f
  obtain ⟨h1, h2, h3, h4, h5, h6⟩ := h
  have h1 : p0 * y0 + p1 * y1 - 1 = 0 := h1
  have h2 : p0 * y1 + p1 * y2 = 0 := h2
  have h3 : p1 * y0 + p2 * y1 = 0 := h3
  have h4 : p1 * y1 + p2 * y2 - 1 = 0 := h4
  have h5 : f0 - (y0 * x0 + y1 * x1) = 0 := h5
  have h6 : f1 - (y1 * x0 + y2 * x1) = 0 := h6
  have Hi : mS m (x0, x1, p0, p1, p2) * zinv (mS m (x0, x1, p0, p1, p2)) - 1 = 0 := by rw [z_inv hS]; exact z_s0 1
  have Hq : m 4 * zinv (m 4) - 1 = 0 := by rw [z_inv hr]; exact z_s0 1
  have Hc : ph0 m (x0, x1, p0, p1, p2) - (p0 * m 1 + p1 * m 2) = 0 := z_s0 _
  have Hd : ph1 m (x0, x1, p0, p1, p2) - (p1 * m 1 + p2 * m 2) = 0 := z_s0 _
  have HS : mS m (x0, x1, p0, p1, p2) - (m 1 * ph0 m (x0, x1, p0, p1, p2) + m 2 * ph1 m (x0, x1, p0, p1, p2) + m 4) = 0 := z_s0 _
  have Hv : mY m (x0, x1, p0, p1, p2) - (m 3 - (m 1 * x0 + m 2 * x1)) = 0 := z_s0 _
  have K1 := al_k1 Hc Hd h1 h3
  have K2 := al_k2 Hc Hd h2 h4
  exact ⟨al_1 Hc HS Hi Hq h1 K1, al_2 Hc HS Hi Hq h2 K2, al_3 Hd HS Hi Hq h3 K1, al_4 Hd HS Hi Hq h4 K2, al_5 Hv HS Hi Hq K1 h5, al_6 Hv HS Hi Hq K2 h6⟩
theorem ir_inn {M : Nat → Nat → Zp} {dr gt : Nat → Bool} {t : Nat} {s0 f0 : S5} (h0 : IR s0 f0) : ∀ (k : Nat) (s f : S5), inn M dr t k s0 = some s → sinn M dr gt t k f0 = some f → (∀ j, j < k → (M j 0).val = t → dr j = false → ∀ q, inn M dr t j s0 = some q → gt j = mgt (M j) q) → IR s f
  | 0, s, f, hs, hf, _ => by
    have hs : some s0 = some s := hs
    have hf : some f0 = some f := hf
    cases hs
    cases hf
    exact h0
  | k + 1, s, f, hs, hf, hg => by
    have hs : (inn M dr t k s0).bind (mst M dr t k) = some s := hs
    have hf : (sinn M dr gt t k f0).bind (sst M dr gt t k) = some f := hf
    cases es : inn M dr t k s0 with
    | none => rw [es] at hs; cases hs
    | some s1 =>
      cases ef : sinn M dr gt t k f0 with
      | none => rw [ef] at hf; cases hf
      | some f1 =>
        rw [es] at hs
        rw [ef] at hf
        have hs : mst M dr t k s1 = some s := hs
        have hf : sst M dr gt t k f1 = some f := hf
        have ih := ir_inn h0 k s1 f1 es ef (fun j hj => hg j (by omega))
        unfold mst at hs
        unfold sst at hf
        by_cases c1 : (M k 0).val = t ∧ dr k = false
        · have hgk := hg k (by omega) c1.1 c1.2 s1 es
          rw [if_pos c1] at hs
          unfold tk at hs
          by_cases c2 : mS (M k) s1 = 0
          · rw [if_pos c2] at hs; cases hs
          · rw [if_neg c2] at hs
            by_cases c3 : mgt (M k) s1 = true
            · rw [if_pos c3] at hs
              rw [if_neg (fun z => by rw [hgk, c3] at z; exact absurd z.2.2 (by decide))] at hf
              cases hs
              cases hf
              exact ih
            · rw [if_neg c3] at hs
              have c4 : gt k = false := by rw [hgk]; simpa using c3
              rw [if_pos ⟨c1.1, c1.2, c4⟩] at hf
              by_cases c5 : M k 4 = 0
              · rw [if_pos c5] at hf; cases hf
              · rw [if_neg c5] at hf
                cases hs
                cases hf
                exact ir_cor ih c2 c5
        · rw [if_neg c1] at hs
          rw [if_neg (fun z => c1 ⟨z.1, z.2.1⟩)] at hf
          cases hs
          cases hf
          exact ih
theorem ir_way {P : Nat → Zp} {B : S5} {M : Nat → Nat → Zp} {dr gt : Nat → Bool} {n T : Nat} {r : S5} (hb : beh P B M dr n T = some r) (hg : ∀ k, k < n → dr k = false → gt k = gtM P B M dr n k) : ∀ (t : Nat) (s f : S5), t ≤ T → beh P B M dr n t = some s → secw P B M dr gt n t = some f → IR s f
  | 0, s, f, _, hs, hf => by
    have hf : (flip5 B).bind (sinn M dr gt 0 n) = some f := hf
    have hs : inn M dr 0 n B = some s := hs
    cases e : flip5 B with
    | none => rw [e] at hf; cases hf
    | some f0 =>
      rw [e] at hf
      refine ir_inn (ir_of e) n s f hs hf (fun j hj h1 h2 q hq => ?_)
      rw [hg j hj h2]
      unfold gtM bef
      rw [h1]
      show (match (some B).bind (inn M dr 0 j) with | some q => mgt (M j) q | none => false) = _
      show (match inn M dr 0 j B with | some q => mgt (M j) q | none => false) = _
      rw [hq]
  | t + 1, s, f, ht, hs, hf => by
    have hf : ((secw P B M dr gt n t).bind (sprd P)).bind (sinn M dr gt (t + 1) n) = some f := hf
    have hs : (beh P B M dr n t).bind (fun s => inn M dr (t + 1) n (prd P s)) = some s := hs
    cases e1 : secw P B M dr gt n t with
    | none => rw [e1] at hf; cases hf
    | some f1 =>
      cases e2 : beh P B M dr n t with
      | none => rw [e2] at hs; cases hs
      | some s1 =>
        have ih := ir_way hb hg t s1 f1 (by omega) e2 e1
        rw [e1] at hf
        rw [e2] at hs
        have hs : inn M dr (t + 1) n (prd P s1) = some s := hs
        have hf : (sprd P f1).bind (sinn M dr gt (t + 1) n) = some f := hf
        unfold sprd at hf
        rw [ir_to (ir_symm ih)] at hf
        have hf : (flip5 (prd P s1)).bind (sinn M dr gt (t + 1) n) = some f := hf
        cases e : flip5 (prd P s1) with
        | none => rw [e] at hf; cases hf
        | some f0 =>
          rw [e] at hf
          refine ir_inn (ir_of e) n s f hs hf (fun j hj h1 h2 q hq => ?_)
          rw [hg j hj h2]
          unfold gtM bef
          rw [h1]
          have ea : ahd P B M dr n (t + 1) = some (prd P s1) := by
            show (beh P B M dr n t).bind _ = _
            rw [e2]; rfl
          rw [ea]
          show (match inn M dr (t + 1) j (prd P s1) with | some q => mgt (M j) q | none => false) = _
          rw [hq]
/-- the second way finds what the first one found -/
theorem secd_ok {P : Nat → Zp} {B : S5} {M : Nat → Nat → Zp} {dr gt : Nat → Bool} {n T : Nat} {r q : S5} (hb : beh P B M dr n T = some r) (hg : ∀ k, k < n → dr k = false → gt k = gtM P B M dr n k) (h : secd P B M dr gt n T = some q) : q = r := by
  have h : (secw P B M dr gt n T).bind flip5 = some q := h
  cases e : secw P B M dr gt n T with
  | none => rw [e] at h; cases h
  | some f =>
    rw [e] at h
    have h : flip5 f = some q := h
    rw [ir_to (ir_symm (ir_way hb hg T r f (Nat.le_refl _) hb e))] at h
    exact (Option.some.inj h).symm
