/-! calls over a list that stands in front -/
theorem nd_of : ∀ l : List Nat, l.Nodup → va_nd l = true
  | [], _ => rfl
  | i :: is, h => by
    have h1 := List.nodup_cons.mp h
    have h2 := nd_of is h1.2
    simp [va_nd, h1.1, h2]
theorem rng_map (wc wr : va_W) : (List.range wc.length).map (fun i => (wc ++ wr)[i]?) = wc.map some := by
  apply List.ext_getElem?
  intro i
  by_cases h : i < wc.length
  · simp [h, List.getElem?_append_left h]
  · simp [h]
theorem rng_set : ∀ (w1 wc pre wr : va_W), w1.length = wc.length → setW (pre ++ (wc ++ wr)) (List.range' pre.length wc.length) w1 = pre ++ (w1 ++ wr)
  | [], [], pre, wr, _ => rfl
  | [], _ :: _, _, _, h => by simp at h
  | _ :: _, [], _, _, h => by simp at h
  | q :: w1, x :: wc, pre, wr, h => by
    have ih := rng_set w1 wc (pre ++ [q]) wr (by simpa using h)
    show setW ((pre ++ (x :: wc ++ wr)).set pre.length q) (List.range' (pre.length + 1) wc.length) w1 = _
    rw [show (pre ++ (x :: wc ++ wr)).set pre.length q = (pre ++ [q]) ++ (wc ++ wr) by simp]
    rw [show pre.length + 1 = (pre ++ [q]).length by simp, ih]
    simp
theorem rng_set0 {w1 wc wr : va_W} (h : w1.map (fun q => q.1) = wc.map (fun q => q.1)) : setW (wc ++ wr) (List.range wc.length) w1 = w1 ++ wr := by
  have hl : w1.length = wc.length := by
    have := congrArg List.length h
    simpa using this
  have := rng_set w1 wc [] wr hl
  rw [List.range_eq_range']
  exact this
section KA
variable {p : Program} {l : Launch} {e : Env} {R : Room} {s : State} {m : MethodId} {args : Array Value} {below : List Frame} {meth : Method} {c : Code} {H : Heap} {locs : List Loc} {cells slots : Nat} {Q : State → Prop}
variable {cc : ByteArray} {pc : Nat} {ls : Array Slot} {rest st0 : List Value} {D : va_G} {A : Nat → Prop} {tys : List (ClassId × FieldType)} {wr wc : va_W} {H0 : Heap} {a : Nat}
theorem a_pre {As : List Value} (hK : KK D tys s) (hP : va_P D vwCl (wc ++ wr) H) (hD : va_D A (wc ++ wr)) : PreS s H (va_Pc As (WP D tys H.size wc)) As := k_pre hK hP hD (rng_map wc wr) (nd_of _ List.nodup_range)
theorem a_goE {S : Type} {post : Int32 → S → Prop} {w1 : S → va_W} {mc ms : Nat} {v : Array Value} (hr : va_Run p l e R s m args below meth c H locs cells slots mc ms (F0 m pc ls st0) rest (EE D (va_A wc H.size) post w1 v) (va_A wc H.size)) (hf : ∀ u, (w1 u).map (fun q => q.1) = wc.map (fun q => q.1)) (hP : va_P D vwCl (wc ++ wr) H) (hD : va_D A (wc ++ wr)) (hS : va_S A H0 H locs) (hA : ∀ q, H0.size ≤ q → A q)
    (kk : ∀ (r : Int32) (u : S) (H1 : Heap) (locs1 : List Loc), post r u → va_P D vwCl (w1 u ++ wr) H1 → va_D A (w1 u ++ wr) → va_S A H0 H1 locs1 → W p l e R s m args below meth c H1 locs1 (cells + mc) (slots + ms) Q (F0 m (pc + 3) ls (.int r :: rest))) : W p l e R s m args below meth c H locs cells slots Q (F0 m pc ls st0) :=
  k_goE hr hf hP hD hS hA (List.range wc.length) (rng_map wc wr) (nd_of _ List.nodup_range) (fun r u H1 locs1 h1 h2 h3 h4 => kk r u H1 locs1 h1 (by rw [← rng_set0 (hf u)]; exact h2) (by rw [← rng_set0 (hf u)]; exact h3) h4)
theorem a_goF {S : Type} {post : S → Prop} {w1 : S → va_W} {mc ms : Nat} {v : Array Value} (hr : va_Run p l e R s m args below meth c H locs cells slots mc ms (F0 m pc ls st0) rest (EF D (va_A wc H.size) post w1 v) (va_A wc H.size)) (hf : ∀ u, (w1 u).map (fun q => q.1) = wc.map (fun q => q.1)) (hP : va_P D vwCl (wc ++ wr) H) (hD : va_D A (wc ++ wr)) (hS : va_S A H0 H locs) (hA : ∀ q, H0.size ≤ q → A q)
    (kk : ∀ (u : S) (H1 : Heap) (locs1 : List Loc), post u → va_P D vwCl (w1 u ++ wr) H1 → va_D A (w1 u ++ wr) → va_S A H0 H1 locs1 → W p l e R s m args below meth c H1 locs1 (cells + mc) (slots + ms) Q (F0 m (pc + 3) ls rest)) : W p l e R s m args below meth c H locs cells slots Q (F0 m pc ls st0) :=
  k_goF hr hf hP hD hS hA (List.range wc.length) (rng_map wc wr) (nd_of _ List.nodup_range) (fun u H1 locs1 h1 h2 h3 h4 => kk u H1 locs1 h1 (by rw [← rng_set0 (hf u)]; exact h2) (by rw [← rng_set0 (hf u)]; exact h3) h4)
end KA
