/-! worlds as bags: places do not matter; groups of cells; rows for new cells in front -/
theorem va_P_mem {D : va_G} {cl : List vw_C} {ws : va_W} {H : Heap} : va_P D cl ws H ↔ ∀ q ∈ ws, va_at D cl q H := by
  constructor
  · intro h q hq
    obtain ⟨k, hk⟩ := List.getElem?_of_mem hq
    exact h k q hk
  · intro h k q hk
    exact h q (List.mem_of_getElem? hk)
theorem va_D_mem {A : Nat → Prop} {ws : va_W} : va_D A ws ↔ (ws.map (fun q => q.1)).Nodup ∧ ∀ q ∈ ws, A q.1 := by
  constructor
  · intro h
    refine ⟨?_, fun q hq => ?_⟩
    · unfold List.Nodup
      rw [List.pairwise_iff_getElem]
      intro i j hi hj hij he
      have hi' : i < ws.length := by simpa using hi
      have hj' : j < ws.length := by simpa using hj
      have e : (ws[i]).1 = (ws[j]).1 := by simpa using he
      have := h.1 i j ws[i] ws[j] (List.getElem?_eq_getElem hi') (List.getElem?_eq_getElem hj') e
      omega
    · obtain ⟨k, hk⟩ := List.getElem?_of_mem hq
      exact h.2 k q hk
  · intro h
    refine ⟨fun i j x y hi hj e => ?_, fun k q hk => h.2 q (List.mem_of_getElem? hk)⟩
    have hn := h.1
    unfold List.Nodup at hn
    rw [List.pairwise_iff_getElem] at hn
    obtain ⟨hi1, hi2⟩ := List.getElem?_eq_some_iff.mp hi
    obtain ⟨hj1, hj2⟩ := List.getElem?_eq_some_iff.mp hj
    rcases Nat.lt_trichotomy i j with z | z | z
    · exact (hn i j (by simpa using hi1) (by simpa using hj1) z (by rw [List.getElem_map, List.getElem_map, hi2, hj2]; exact e)).elim
    · exact z
    · exact (hn j i (by simpa using hj1) (by simpa using hi1) z (by rw [List.getElem_map, List.getElem_map, hi2, hj2]; exact e.symm)).elim
theorem va_P.perm {D : va_G} {cl : List vw_C} {ws ws' : va_W} {H : Heap} (h : va_P D cl ws H) (e : ws.Perm ws') : va_P D cl ws' H := va_P_mem.mpr fun q hq => va_P_mem.mp h q (e.mem_iff.mpr hq)
theorem va_D.perm {A : Nat → Prop} {ws ws' : va_W} (h : va_D A ws) (e : ws.Perm ws') : va_D A ws' := by
  rw [va_D_mem] at h ⊢
  exact ⟨(e.map _).nodup_iff.mp h.1, fun q hq => h.2 q (e.mem_iff.mpr hq)⟩
theorem va_P.left {D : va_G} {cl : List vw_C} {w1 w2 : va_W} {H : Heap} (h : va_P D cl (w1 ++ w2) H) : va_P D cl w1 H := va_P_mem.mpr fun q hq => va_P_mem.mp h q (List.mem_append_left _ hq)
theorem va_P.right {D : va_G} {cl : List vw_C} {w1 w2 : va_W} {H : Heap} (h : va_P D cl (w1 ++ w2) H) : va_P D cl w2 H := va_P_mem.mpr fun q hq => va_P_mem.mp h q (List.mem_append_right _ hq)
theorem va_D.left {A : Nat → Prop} {w1 w2 : va_W} (h : va_D A (w1 ++ w2)) : va_D A w1 := by
  rw [va_D_mem] at h ⊢
  refine ⟨?_, fun q hq => h.2 q (List.mem_append_left _ hq)⟩
  have := h.1
  rw [List.map_append] at this
  exact (List.nodup_append.mp this).1
theorem va_D.right {A : Nat → Prop} {w1 w2 : va_W} (h : va_D A (w1 ++ w2)) : va_D A w2 := by
  rw [va_D_mem] at h ⊢
  refine ⟨?_, fun q hq => h.2 q (List.mem_append_right _ hq)⟩
  have := h.1
  rw [List.map_append] at this
  exact (List.nodup_append.mp this).2.1
/-- the numbers below n that are not among ks -/
def restI (n : Nat) (ks : List Nat) : List Nat := (List.range n).filter (fun i => !ks.contains i)
theorem pick_perm {n : Nat} {ks : List Nat} (hn : ks.Nodup) (hk : ∀ k ∈ ks, k < n) : (List.range n).Perm (ks ++ restI n ks) := by
  refine (List.perm_ext_iff_of_nodup List.nodup_range ?_).mpr ?_
  · rw [List.nodup_append]
    refine ⟨hn, List.Pairwise.filter _ List.nodup_range, ?_⟩
    intro x hx y hy e
    subst e
    unfold restI at hy
    simp at hy
    exact hy.2 hx
  · intro x
    unfold restI
    simp only [List.mem_range, List.mem_append, List.mem_filter]
    constructor
    · intro h
      by_cases hx : x ∈ ks
      · exact Or.inl hx
      · exact Or.inr ⟨h, by simp [hx]⟩
    · intro h
      rcases h with h | h
      · exact hk x h
      · exact h.1
theorem flat_pick {n : Nat} {ks : List Nat} (G : Nat → va_W) (hn : ks.Nodup) (hk : ∀ k ∈ ks, k < n) : ((List.range n).flatMap G).Perm (ks.flatMap G ++ (restI n ks).flatMap G) := by
  rw [← List.flatMap_append]
  exact (pick_perm hn hk).flatMap_right G
theorem rest_same {n : Nat} {ks : List Nat} {G G' : Nat → va_W} (h : ∀ i, i < n → i ∉ ks → G' i = G i) : (restI n ks).flatMap G' = (restI n ks).flatMap G := by
  have key : ∀ l : List Nat, (∀ i ∈ l, G' i = G i) → l.flatMap G' = l.flatMap G := by
    intro l
    induction l with
    | nil => intro _; rfl
    | cons x xs ih =>
      intro hl
      rw [List.flatMap_cons, List.flatMap_cons, hl x List.mem_cons_self, ih (fun i hi => hl i (List.mem_cons_of_mem _ hi))]
  refine key _ (fun i hi => ?_)
  unfold restI at hi
  simp at hi
  exact h i hi.1 hi.2
