/-! calls over a list in front, of methods that may throw or make cells; what the model depends on -/
section KB
variable {p : Program} {l : Launch} {e : Env} {R : Room} {s : State} {m : MethodId} {args : Array Value} {below : List Frame} {meth : Method} {c : Code} {H : Heap} {locs : List Loc} {cells slots : Nat} {Q : State → Prop}
variable {cc : ByteArray} {pc : Nat} {ls : Array Slot} {rest st0 : List Value} {D : va_G} {A : Nat → Prop} {tys : List (ClassId × FieldType)} {wr wc : va_W} {H0 : Heap} {a : Nat}
theorem a_free (hD : va_D A (wc ++ wr)) (hS : va_S A H0 H locs) (hA : ∀ q, H0.size ≤ q → A q) : ∀ q, va_A wc H.size q → A q := va_free hD hS hA (List.range wc.length) (rng_map wc wr)
theorem a_preO {As : List Value} (hK : KK D tys s) (hO : AOs s) (hP : va_P D vwCl (wc ++ wr) H) (hD : va_D A (wc ++ wr)) : PreS s H (va_Pc As (WO D tys H.size wc)) As := n_pre hK hO hP hD (rng_map wc wr) (nd_of _ List.nodup_range)
theorem b_pre {As : List Value} (hK : KK D tys s) (hX : XK s) (hZ : XZ A s s.heap) (hP : va_P D vwCl (wc ++ wr) H) (hD : va_D A (wc ++ wr)) (hS : va_S A s.heap H locs) (hA : ∀ q, s.heap.size ≤ q → A q) : PreS s H (va_Pc As (WX D tys H.size wc)) As := x_pre hK hX hZ hP hD hS hA (rng_map wc wr) (nd_of _ List.nodup_range)
theorem a_goNI {S : Type} {post : Int32 → S → Prop} {w1 nw : S → va_W} {mc ms : Nat} {v : Array Value} (hr : va_Run p l e R s m args below meth c H locs cells slots mc ms (F0 m pc ls st0) rest (ENI D (va_A wc H.size) post w1 nw v) (va_A wc H.size)) (hP : va_P D vwCl (wc ++ wr) H) (hD : va_D A (wc ++ wr)) (hS : va_S A H0 H locs) (hA : ∀ q, H0.size ≤ q → A q)
    (kk : ∀ (r : Int32) (u : S) (H1 : Heap) (locs1 : List Loc), post r u → va_P D vwCl (nw u ++ w1 u ++ wr) H1 → va_D A (nw u ++ w1 u ++ wr) → va_S A H0 H1 locs1 → W p l e R s m args below meth c H1 locs1 (cells + mc) (slots + ms) Q (F0 m (pc + 3) ls (.int r :: rest))) : W p l e R s m args below meth c H locs cells slots Q (F0 m pc ls st0) := by
  have hF := a_free hD hS hA
  refine va_calli hr hS (fun q _ h => hF q h) hF (fun r u t H1 locs1 ht hvm hw hB hz1 hk1 hS1 => ?_)
  have hB1 : va_P D vwCl (nw u ++ w1 u) H1 := ht ▸ hB.1
  obtain ⟨g1, g2⟩ := fr_join hP hD hk1 hF hB1 hB.2
  exact kk r u H1 locs1 hw g1 g2 hS1
theorem a_goN {S : Type} {post : S → Prop} {w1 nw : S → va_W} {mc ms : Nat} {v : Array Value} (hr : va_Run p l e R s m args below meth c H locs cells slots mc ms (F0 m pc ls st0) rest (EN D (va_A wc H.size) post w1 nw v) (va_A wc H.size)) (hP : va_P D vwCl (wc ++ wr) H) (hD : va_D A (wc ++ wr)) (hS : va_S A H0 H locs) (hA : ∀ q, H0.size ≤ q → A q)
    (kk : ∀ (u : S) (H1 : Heap) (locs1 : List Loc), post u → va_P D vwCl (nw u ++ w1 u ++ wr) H1 → va_D A (nw u ++ w1 u ++ wr) → va_S A H0 H1 locs1 → W p l e R s m args below meth c H1 locs1 (cells + mc) (slots + ms) Q (F0 m (pc + 3) ls rest)) : W p l e R s m args below meth c H locs cells slots Q (F0 m pc ls st0) := by
  have hF := a_free hD hS hA
  refine va_callv hr hS (fun q _ h => hF q h) hF (fun u t H1 locs1 ht hvm hw hB hz1 hk1 hS1 => ?_)
  have hB1 : va_P D vwCl (nw u ++ w1 u) H1 := ht ▸ hB.1
  obtain ⟨g1, g2⟩ := fr_join hP hD hk1 hF hB1 hB.2
  exact kk u H1 locs1 hw g1 g2 hS1
theorem b_goI {S SX : Type} {post : Int32 → S → Prop} {w1 nw : S → va_W} {px : String → SX → Prop} {wx : SX → va_W} {mc ms : Nat} {v : Array Value} (hr : vx_Run p l e R s m args below meth c H locs cells slots mc ms (F0 m pc ls st0) rest (ENI D (va_A wc H.size) post w1 nw v) (EX D (va_A wc H.size) px wx) (va_A wc H.size)) (hP : va_P D vwCl (wc ++ wr) H) (hD : va_D A (wc ++ wr)) (hS : va_S A H0 H locs) (hA : ∀ q, H0.size ≤ q → A q)
    (kx : ∀ (E : String) (ce : Cell) (q9 : Addr) (u : SX) (H1 : Heap) (locs1 : List Loc), px E u → va_P D vwCl (wx u ++ wr) H1 → va_D A (wx u ++ wr) → va_S A H0 H1 locs1 → H1[q9]? = some ce → ce.vm = .none → s.vm.findClass E = some ce.cls → vx_W p l e R s m args below meth c H1 locs1 (cells + mc) (slots + ms) Q (F0 m pc ls rest) q9)
    (kk : ∀ (r : Int32) (u : S) (H1 : Heap) (locs1 : List Loc), post r u → va_P D vwCl (nw u ++ w1 u ++ wr) H1 → va_D A (nw u ++ w1 u ++ wr) → va_S A H0 H1 locs1 → W p l e R s m args below meth c H1 locs1 (cells + mc) (slots + ms) Q (F0 m (pc + 3) ls (.int r :: rest))) : W p l e R s m args below meth c H locs cells slots Q (F0 m pc ls st0) := by
  have hF := a_free hD hS hA
  refine vx_calli hr hS (fun q _ h => hF q h) hF (fun q _ h => hF q h) (fun E ce q9 u t H1 locs1 ht hvm _ hB hz1 hk1 hS1 h7 h8 h9 => ?_) (fun r u t H1 locs1 ht hvm hw hB hz1 hk1 hS1 => ?_)
  · have hB1 : va_P D vwCl (wx u) H1 := ht ▸ hB.2.1
    obtain ⟨g1, g2⟩ := fr_join hP hD hk1 hF hB1 hB.2.2
    exact kx E ce q9 u H1 locs1 hB.1 g1 g2 hS1 h7 h8 h9
  · have hB1 : va_P D vwCl (nw u ++ w1 u) H1 := ht ▸ hB.1
    obtain ⟨g1, g2⟩ := fr_join hP hD hk1 hF hB1 hB.2
    exact kk r u H1 locs1 hw g1 g2 hS1
theorem b_goV {S SX : Type} {post : S → Prop} {w1 nw : S → va_W} {px : String → SX → Prop} {wx : SX → va_W} {mc ms : Nat} {v : Array Value} (hr : vx_Run p l e R s m args below meth c H locs cells slots mc ms (F0 m pc ls st0) rest (EN D (va_A wc H.size) post w1 nw v) (EX D (va_A wc H.size) px wx) (va_A wc H.size)) (hP : va_P D vwCl (wc ++ wr) H) (hD : va_D A (wc ++ wr)) (hS : va_S A H0 H locs) (hA : ∀ q, H0.size ≤ q → A q)
    (kx : ∀ (E : String) (ce : Cell) (q9 : Addr) (u : SX) (H1 : Heap) (locs1 : List Loc), px E u → va_P D vwCl (wx u ++ wr) H1 → va_D A (wx u ++ wr) → va_S A H0 H1 locs1 → H1[q9]? = some ce → ce.vm = .none → s.vm.findClass E = some ce.cls → vx_W p l e R s m args below meth c H1 locs1 (cells + mc) (slots + ms) Q (F0 m pc ls rest) q9)
    (kk : ∀ (u : S) (H1 : Heap) (locs1 : List Loc), post u → va_P D vwCl (nw u ++ w1 u ++ wr) H1 → va_D A (nw u ++ w1 u ++ wr) → va_S A H0 H1 locs1 → W p l e R s m args below meth c H1 locs1 (cells + mc) (slots + ms) Q (F0 m (pc + 3) ls rest)) : W p l e R s m args below meth c H locs cells slots Q (F0 m pc ls st0) := by
  have hF := a_free hD hS hA
  refine vx_callv hr hS (fun q _ h => hF q h) hF (fun q _ h => hF q h) (fun E ce q9 u t H1 locs1 ht hvm _ hB hz1 hk1 hS1 h7 h8 h9 => ?_) (fun u t H1 locs1 ht hvm hw hB hz1 hk1 hS1 => ?_)
  · have hB1 : va_P D vwCl (wx u) H1 := ht ▸ hB.2.1
    obtain ⟨g1, g2⟩ := fr_join hP hD hk1 hF hB1 hB.2.2
    exact kx E ce q9 u H1 locs1 hB.1 g1 g2 hS1 h7 h8 h9
  · have hB1 : va_P D vwCl (nw u ++ w1 u) H1 := ht ▸ hB.1
    obtain ⟨g1, g2⟩ := fr_join hP hD hk1 hF hB1 hB.2
    exact kk u H1 locs1 hw g1 g2 hS1
end KB
section CG
variable {P P' : Nat → Zp} {B : S5} {M M' Y Y' : Nat → Nat → Zp} {dr dr' gt gt' : Nat → Bool} {n : Nat} {sp sb sp' sb' : Nat → S5}
theorem prd_c (h : ∀ i, i < 7 → P i = P' i) (s : S5) : prd P s = prd P' s := by
  unfold prd
  rw [h 0 (by omega), h 1 (by omega), h 2 (by omega), h 3 (by omega), h 4 (by omega), h 5 (by omega), h 6 (by omega)]
theorem m_c {m m' : Nat → Zp} (h : ∀ i, i < 6 → m i = m' i) (s : S5) : mS m s = mS m' s ∧ mY m s = mY m' s ∧ mG m s = mG m' s ∧ mgt m s = mgt m' s ∧ cor m s = cor m' s := by
  have e1 : mS m s = mS m' s := by
    unfold mS ph0 ph1
    rw [h 1 (by omega), h 2 (by omega), h 4 (by omega)]
  have e2 : mY m s = mY m' s := by
    unfold mY
    rw [h 1 (by omega), h 2 (by omega), h 3 (by omega)]
  have e3 : mG m s = mG m' s := by
    unfold mG
    rw [e1, e2]
  refine ⟨e1, e2, e3, ?_, ?_⟩
  · unfold mgt
    rw [e3, h 5 (by omega)]
  · unfold cor
    rw [e1, e2]
    unfold ph0 ph1
    rw [h 1 (by omega), h 2 (by omega)]
theorem tk_c {m m' : Nat → Zp} (h : ∀ i, i < 6 → m i = m' i) (s : S5) : tk m s = tk m' s := by
  obtain ⟨e1, e2, e3, e4, e5⟩ := m_c h s
  unfold tk
  rw [e1, e4, e5]
theorem inn_c {t : Nat} : ∀ {k : Nat} {s : S5}, (∀ j, j < k → ∀ i, i < 6 → M j i = M' j i) → (∀ j, j < k → dr j = dr' j) → inn M dr t k s = inn M' dr' t k s
  | 0, _, _, _ => rfl
  | k + 1, s, hM, hd => by
    show (inn M dr t k s).bind _ = (inn M' dr' t k s).bind _
    rw [inn_c (fun j hj => hM j (by omega)) (fun j hj => hd j (by omega))]
    congr 1
    funext x
    unfold mst
    rw [hM k (by omega) 0 (by omega), hd k (by omega), tk_c (hM k (by omega))]
theorem beh_c (hp : ∀ i, i < 7 → P i = P' i) (hM : ∀ j, j < n → ∀ i, i < 6 → M j i = M' j i) (hd : ∀ j, j < n → dr j = dr' j) : ∀ t, beh P B M dr n t = beh P' B M' dr' n t
  | 0 => inn_c hM hd
  | t + 1 => by
    show (beh P B M dr n t).bind _ = (beh P' B M' dr' n t).bind _
    rw [beh_c hp hM hd t]
    congr 1
    funext x
    rw [prd_c hp, inn_c hM hd]
theorem ahd_c (hp : ∀ i, i < 7 → P i = P' i) (hM : ∀ j, j < n → ∀ i, i < 6 → M j i = M' j i) (hd : ∀ j, j < n → dr j = dr' j) : ∀ t, ahd P B M dr n t = ahd P' B M' dr' n t
  | 0 => rfl
  | t + 1 => by
    show (beh P B M dr n t).bind _ = (beh P' B M' dr' n t).bind _
    rw [beh_c hp hM hd t]
    congr 1
    funext x
    rw [prd_c hp]
theorem bef_c (hp : ∀ i, i < 7 → P i = P' i) (hM : ∀ j, j < n → ∀ i, i < 6 → M j i = M' j i) (hd : ∀ j, j < n → dr j = dr' j) {k : Nat} (hk : k < n) : bef P B M dr n k = bef P' B M' dr' n k := by
  unfold bef
  rw [hM k hk 0 (by omega), ahd_c hp hM hd]
  congr 1
  funext x
  exact inn_c (fun j hj => hM j (by omega)) (fun j hj => hd j (by omega))
theorem SEtl.cg {t : Nat} (h : SEtl P B M dr n t Y gt sp sb) (hp : ∀ i, i < 7 → P i = P' i) (hM : ∀ j, j < n → ∀ i, i < 6 → M j i = M' j i) (hd : ∀ j, j < n → dr j = dr' j) : SEtl P' B M' dr' n t Y gt sp sb := by
  refine ⟨fun u hu => by rw [← ahd_c hp hM hd, ← beh_c hp hM hd]; exact h.1 u hu, fun k hk hdk ht => ?_⟩
  obtain ⟨q, h1, h2, h3, h4, h5⟩ := h.2 k hk (by rw [hd k hk]; exact hdk) (by rw [hM k hk 0 (by omega)]; exact ht)
  obtain ⟨e1, e2, e3, e4, e5⟩ := m_c (hM k hk) q
  exact ⟨q, by rw [← bef_c hp hM hd hk]; exact h1, by rw [← e2]; exact h2, by rw [← e1]; exact h3, by rw [← e3]; exact h4, by rw [← e4]; exact h5⟩
theorem SEtl.zero (h1 : sp 0 = B) (h2 : sb 0 = B) : SEtl P B M dr 0 1 Y gt sp sb :=
  ⟨fun u hu => by
    have e : u = 0 := by omega
    subst e
    rw [h1, h2]
    exact ⟨rfl, rfl⟩, fun k hk => absurd hk (Nat.not_lt_zero k)⟩
theorem eGrp_c {ad : Nat → Nat} (hM : ∀ j, j < 30 → ∀ i, i < 6 → M j i = M' j i) (hd : ∀ j, j < 30 → dr j = dr' j) (i : Nat) : eGrp ad M Y dr gt sp sb i = eGrp ad M' Y dr' gt sp sb i := by
  unfold eGrp
  by_cases h : i < 30
  · rw [if_pos h, if_pos h]
    unfold mGrp
    rw [hM i h 0 (by omega), hM i h 1 (by omega), hM i h 2 (by omega), hM i h 3 (by omega), hM i h 4 (by omega), hM i h 5 (by omega), hd i h]
  · rw [if_neg h, if_neg h]
theorem estL_c {cM cS : ClassId} {ad : Nat → Nat} {T : Nat} {th : Zp} (hp : ∀ i, i < 7 → P i = P' i) (hM : ∀ j, j < 30 → ∀ i, i < 6 → M j i = M' j i) (hd : ∀ j, j < 30 → dr j = dr' j) : estL cM cS ad n T th P M Y dr gt sp sb = estL cM cS ad n T th P' M' Y dr' gt sp sb := by
  unfold estL
  have e : eGrp ad M Y dr gt sp sb = eGrp ad M' Y dr' gt sp sb := funext (eGrp_c hM hd)
  rw [e]
  unfold eHd eMot eQ
  rw [hp 0 (by omega), hp 1 (by omega), hp 2 (by omega), hp 3 (by omega), hp 4 (by omega), hp 5 (by omega), hp 6 (by omega)]
end CG
/-- a measurement's six numbers, and the measurements with a new one -/
def m6 (t h j z r q : Zp) : Nat → Zp
  | 0 => t
  | 1 => h
  | 2 => j
  | 3 => z
  | 4 => r
  | _ => q
def mUp (M : Nat → Nat → Zp) (n : Nat) (m : Nat → Zp) : Nat → Nat → Zp := fun k => if k = n then m else M k
theorem mUp_n (M : Nat → Nat → Zp) (n : Nat) (m : Nat → Zp) : mUp M n m n = m := if_pos rfl
theorem mUp_o (M : Nat → Nat → Zp) {n k : Nat} (m : Nat → Zp) (h : k ≠ n) : mUp M n m k = M k := if_neg h
