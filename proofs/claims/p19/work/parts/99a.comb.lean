/-! both sides side by side: rooms made wider; the whole of each side; an estimator in the whole -/
/-- what is told of a measurement m that was taken at q -/
def omR (m : Nat → Zp) (q : S5) (wh : Nat) : Int32 := if wh = 1 then vI (mY m q) else if wh = 2 then vI (mS m q) else if wh = 3 then vI (mG m q) else jI (iB (mgt m q))
def omA (tm : Zp) (dr : Bool) (m : Nat → Zp) (b : Option S5) (wh : Nat) : Int32 := if wh = 0 then vI tm else if dr = true then jI (-1) else match b with
  | some q => omR m q wh
  | none => 0
theorem sinn_congr {M : Nat → Nat → Zp} {dr gt gt' : Nat → Bool} {t : Nat} : ∀ {n : Nat} {s : S5}, (∀ k, k < n → dr k = false → gt k = gt' k) → sinn M dr gt t n s = sinn M dr gt' t n s
  | 0, _, _ => rfl
  | n + 1, s, h => by
    show (sinn M dr gt t n s).bind _ = (sinn M dr gt' t n s).bind _
    rw [sinn_congr (fun k hk hd => h k (by omega) hd)]
    congr 1
    funext x
    unfold sst
    by_cases hd : dr n = false
    · rw [h n (by omega) hd]
    · simp [hd]
theorem secw_congr {P : Nat → Zp} {B : S5} {M : Nat → Nat → Zp} {dr gt gt' : Nat → Bool} {n : Nat} (h : ∀ k, k < n → dr k = false → gt k = gt' k) : ∀ t, secw P B M dr gt n t = secw P B M dr gt' n t
  | 0 => by
    show (flip5 B).bind _ = (flip5 B).bind _
    congr 1
    funext x
    exact sinn_congr h
  | t + 1 => by
    show ((secw P B M dr gt n t).bind _).bind _ = ((secw P B M dr gt' n t).bind _).bind _
    rw [secw_congr h t]
    congr 1
    funext x
    exact sinn_congr h
theorem secd_congr {P : Nat → Zp} {B : S5} {M : Nat → Nat → Zp} {dr gt gt' : Nat → Bool} {n : Nat} (h : ∀ k, k < n → dr k = false → gt k = gt' k) (T : Nat) : secd P B M dr gt n T = secd P B M dr gt' n T := by
  unfold secd
  rw [secw_congr h T]
def put7 (g : Nat → Zp) (b : Nat) (f : Nat → Zp) : Nat → Zp := va_up (va_up (va_up (va_up (va_up (va_up (va_up g (b + 0) (f 0)) (b + 1) (f 1)) (b + 2) (f 2)) (b + 3) (f 3)) (b + 4) (f 4)) (b + 5) (f 5)) (b + 6) (f 6)
def putB (g : Nat → Zp) (b : Nat) (x0 x1 p0 p1 p2 : Zp) : Nat → Zp := va_up (va_up (va_up (va_up (va_up g b x0) (b + 1) x1) (b + 2) p0) (b + 3) p1) (b + 4) p2
theorem metF_wide {l : Launch} {x : MethodName} {ts : List Cond} {r r' : Room} {P : Array Value → State → Prop} {K : Program → Env → List Frame → State → Array Value → Prop} {Q : Array Value → State → Outcome → State → Prop} (h : MetFree l x (headSpec ts r) P K Q) (h1 : r.frames ≤ r'.frames) (h2 : r.cells ≤ r'.cells) (h3 : r.slots ≤ r'.slots) (h4 : r.locals ≤ r'.locals) : MetFree l x (headSpec ts r') P K Q := by
  intro p e ha hc hk s m args below hf happ hp hK
  refine h p e ha hc hk s m args below hf ?_ hp hK
  obtain ⟨a1, a2, a3, a4, a5, a6, a7, a8⟩ := (Spec.appliesLoose_iff hf).mp happ
  refine (Spec.appliesLoose_iff hf).mpr ⟨a1, a2, a3, a4, a5, a6, ?_, a8⟩
  have a7' : s.hasRoom e.platform r' = true := a7
  show s.hasRoom e.platform r = true
  unfold State.hasRoom at a7' ⊢
  simp only [Bool.and_eq_true, decide_eq_true_eq] at a7' ⊢
  obtain ⟨⟨⟨⟨b1, b2, b3, b4, b5, b6⟩, b7⟩, b8⟩, b9⟩ := a7'
  exact ⟨⟨⟨⟨by omega, by omega, by omega, by omega, by omega, b6⟩, by omega⟩, by omega⟩, b9⟩
theorem sbn_mono {s s' : State} {locs : List Loc} {c n c' n' : Nat} (h : s.sameButNew s' locs c n) (hc : c ≤ c') (hn : n ≤ n') : s.sameButNew s' locs c' n' := by
  obtain ⟨a1, a2, a3, a4, a5, a6⟩ := h
  exact ⟨a1, a2, by omega, a4, by omega, a6⟩
theorem CtE.wide {S : Type} {l : Launch} {D : va_G} {tys : List (ClassId × FieldType)} {y : MethodName} {w : List Cond} {fr lo fr' lo' : Nat} {As : List Value} {post : Int32 → S → Prop} {wc : va_W} {w1 : S → va_W} (h : CtE l D tys y w fr lo As post wc w1) (h1 : fr ≤ fr') (h2 : lo ≤ lo') : CtE l D tys y w fr' lo' As post wc w1 := ⟨h.1, fun sz => metF_wide (h.2 sz) h1 (Nat.le_refl 0) (Nat.le_refl 0) h2⟩
theorem CtF.wide {S : Type} {l : Launch} {D : va_G} {tys : List (ClassId × FieldType)} {y : MethodName} {w : List Cond} {fr lo fr' lo' : Nat} {As : List Value} {post : S → Prop} {wc : va_W} {w1 : S → va_W} (h : CtF l D tys y w fr lo As post wc w1) (h1 : fr ≤ fr') (h2 : lo ≤ lo') : CtF l D tys y w fr' lo' As post wc w1 := ⟨h.1, fun sz => metF_wide (h.2 sz) h1 (Nat.le_refl 0) (Nat.le_refl 0) h2⟩
theorem CtG.wide {SX : Type} {l : Launch} {D : va_G} {tys : List (ClassId × FieldType)} {y : MethodName} {w : List Cond} {fr lo mc ms fr' lo' mc' ms' : Nat} {As : List Value} {wc : va_W} {Qc : (Nat → Prop) → Array Value → State → Outcome → State → Prop} {px : String → SX → Prop} {wx : SX → va_W} (h : CtG l D tys y w fr lo mc ms As wc Qc px wx) (h1 : fr ≤ fr') (h2 : lo ≤ lo') (h3 : mc ≤ mc') (h4 : ms ≤ ms') : CtG l D tys y w fr' lo' mc' ms' As wc Qc px wx := by
  intro sz
  refine metF_mono (metF_wide (h sz) h1 h3 h4 h2) (fun _ _ z => z) ?_
  intro a st o t _ hq
  rcases hq with ⟨hq, L, ⟨g1, g2, g3⟩, hL⟩ | ⟨q, ho, E, ce, L, hX, g1, g2, g3, g4, g5, hL⟩
  · exact Or.inl ⟨hq, L, ⟨g1, g2, sbn_mono g3 h3 h4⟩, hL⟩
  · exact Or.inr ⟨q, ho, E, ce, L, hX, g1, g2, g3, g4, sbn_mono g5 h3 h4, hL⟩
/-! cells at places, without naming the others -/
theorem pl_rest {ws wc : va_W} (is ir : List Nat) (h1 : is.map (fun i => ws[i]?) = wc.map some) (h : (List.range ws.length).Perm (is ++ ir)) : ws.Perm (wc ++ ir.filterMap (fun i => ws[i]?)) := by
  have e1 : (List.range ws.length).filterMap (fun i => ws[i]?) = ws := by
    have e0 : (List.range ws.length).map (fun i => ws[i]?) = ws.map some := by
      apply List.ext_getElem?
      intro i
      by_cases hi : i < ws.length
      · simp [hi]
      · simp [hi]
    have := congrArg (List.filterMap id) e0
    simpa [List.filterMap_map, Function.comp_def] using this
  have e2 : is.filterMap (fun i => ws[i]?) = wc := by
    have := congrArg (List.filterMap id) h1
    simpa [List.filterMap_map, Function.comp_def] using this
  have e3 := h.filterMap (fun i => ws[i]?)
  rw [List.filterMap_append, e1, e2] at e3
  exact e3
theorem CtE.pl {S S' : Type} {l : Launch} {D : va_G} {tys : List (ClassId × FieldType)} {y : MethodName} {w : List Cond} {fr lo fr' lo' : Nat} {As : List Value} {wc ws : va_W} {post : Int32 → S → Prop} {w1 : S → va_W} {post' : Int32 → S' → Prop} {w1' : S' → va_W} (h : CtE l D tys y w fr lo As post wc w1) (hfr : fr ≤ fr') (hlo : lo ≤ lo') (is ir : List Nat) (h1 : is.map (fun i => ws[i]?) = wc.map some) (hp : (List.range ws.length).Perm (is ++ ir)) (hw : ∀ u, (w1' u).map (fun q => q.1) = ws.map (fun q => q.1)) (hr : ∀ r u, post r u → ∃ u', post' r u' ∧ is.map (fun i => (w1' u')[i]?) = (w1 u).map some ∧ ir.filterMap (fun i => (w1' u')[i]?) = ir.filterMap (fun i => ws[i]?)) : CtE l D tys y w fr' lo' As post' ws w1' := by
  refine CtE.to (wr := ir.filterMap (fun i => ws[i]?)) hw (h.wide hfr hlo) (pl_rest is ir h1 hp) ?_
  intro r u hpu
  obtain ⟨u', g1, g2, g3⟩ := hr r u hpu
  refine ⟨u', g1, ?_⟩
  have hl : (w1' u').length = ws.length := by
    have := congrArg List.length (hw u')
    simpa using this
  have := pl_rest (ws := w1' u') is ir g2 (by rw [hl]; exact hp)
  rw [g3] at this
  exact this.symm
theorem CtF.pl {S S' : Type} {l : Launch} {D : va_G} {tys : List (ClassId × FieldType)} {y : MethodName} {w : List Cond} {fr lo fr' lo' : Nat} {As : List Value} {wc ws : va_W} {post : S → Prop} {w1 : S → va_W} {post' : S' → Prop} {w1' : S' → va_W} (h : CtF l D tys y w fr lo As post wc w1) (hfr : fr ≤ fr') (hlo : lo ≤ lo') (is ir : List Nat) (h1 : is.map (fun i => ws[i]?) = wc.map some) (hp : (List.range ws.length).Perm (is ++ ir)) (hw : ∀ u, (w1' u).map (fun q => q.1) = ws.map (fun q => q.1)) (hr : ∀ u, post u → ∃ u', post' u' ∧ is.map (fun i => (w1' u')[i]?) = (w1 u).map some ∧ ir.filterMap (fun i => (w1' u')[i]?) = ir.filterMap (fun i => ws[i]?)) : CtF l D tys y w fr' lo' As post' ws w1' := by
  refine CtF.to (wr := ir.filterMap (fun i => ws[i]?)) hw (h.wide hfr hlo) (pl_rest is ir h1 hp) ?_
  intro u hpu
  obtain ⟨u', g1, g2, g3⟩ := hr u hpu
  refine ⟨u', g1, ?_⟩
  have hl : (w1' u').length = ws.length := by
    have := congrArg List.length (hw u')
    simpa using this
  have := pl_rest (ws := w1' u') is ir g2 (by rw [hl]; exact hp)
  rw [g3] at this
  exact this.symm
/-! what both sides know: models, estimators, entries, models of estimators, beginnings, times, gates, numbers told, what was told, dropped -/
abbrev SG : Type := Nat × Nat × (Nat → Zp) × (Nat → Zp) × (Nat → Zp) × (Nat → Nat) × (Nat → Zp) × (Nat → Nat) × (Nat → Zp) × (Nat → Bool)
/-- what an estimator has besides: its addresses, what measurements came to, gated, predicted, behind -/
abbrev EG : Type := (Nat → Nat) × (Nat → Nat → Zp) × (Nat → Bool) × (Nat → S5) × (Nat → S5)
def sW (cM cS : ClassId) (gM gG gK : Nat → Zp) (gT gN : Nat → Nat) (gD : Nat → Bool) (κ : Nat → EG) (e : Nat) : va_W := estL cM cS (κ e).1 (gN e) (gT e) (gG e) (fun i => gM (7 * e + i)) (fun k c => gK (6 * (30 * e + k) + c)) (κ e).2.1 (fun k => gD (30 * e + k)) (κ e).2.2.1 (κ e).2.2.2.1 (κ e).2.2.2.2
def xO (x0 q0 q1 ms es : Nat) : Nat × va_E := (x0, .inr (6, [.ref q0, .int (jI ((ms : Nat) : Int)), .ref q1, .int (jI ((es : Nat) : Int))]))
def fE (es : Nat) (κ : Nat → EG) : Nat → Option Nat := fun i => if i < es then some ((κ i).1 0) else none
def fG (qr : Nat → Nat) : Nat → Option Nat := fun i => some (qr i)
def xE (cE : ClassId) (q1 : Nat) (f : Nat → Option Nat) : Nat × va_E := (q1, .inl (cE, 6, .inr (.inr (.inr (.inr f)))))
def rowF (gE : Nat → Zp) (j : Nat) : Nat → Zp := fun i => if i < 7 then gE (7 * j + i) else 0
def xR (cI : ClassId) (qr : Nat → Nat) (gE : Nat → Zp) (j : Nat) : va_W := [((qr j), .inl (cI, 7, .inl (fun i => vI (rowF gE j i))))]
def CW (cI cE cG cM cS : ClassId) (x0 q0 q1 : Nat) (qr : Nat → Nat) : SG → (Nat → EG) → va_W
  | (ms, es, gE, gM, gB, gT, gG, gN, gK, gD), κ => xO x0 q0 q1 ms es :: xE cG q0 (fG qr) :: xE cE q1 (fE es κ) :: ((List.range 6).flatMap (xR cI qr gE) ++ (List.range es).flatMap (sW cM cS gM gG gK gT gN gD κ))
/-- one estimator, as both sides know it -/
def IE (gM gB gK : Nat → Zp) (gT gN : Nat → Nat) (gD : Nat → Bool) (u : EG) (e : Nat) : Prop := SEtl (fun i => gM (7 * e + i)) (s5at gB e) (fun k c => gK (6 * (30 * e + k) + c)) (fun k => gD (30 * e + k)) (gN e) (gT e + 1) u.2.1 u.2.2.1 u.2.2.2.1 u.2.2.2.2 ∧ u.2.2.2.1 0 = s5at gB e ∧ gN e ≤ 30 ∧ gT e ≤ 20 ∧ ∀ k, k < gN e → (gK (6 * (30 * e + k) + 0)).val ≤ gT e
def IO (gK : Nat → Zp) (gT gN : Nat → Nat) (gD : Nat → Bool) (e : Nat) : Prop := gN e = 0 ∧ gT e = 0 ∧ (∀ k, k < 30 → ∀ i, i < 6 → gK (6 * (30 * e + k) + i) = 0) ∧ ∀ k, k < 30 → gD (30 * e + k) = false
def INV : SG → (Nat → EG) → Prop
  | (ms, es, gE, gM, gB, gT, gG, gN, gK, gD), κ => ms ≤ 6 ∧ es ≤ 6 ∧ (∀ e, e < es → IE gM gB gK gT gN gD (κ e) e) ∧ ∀ e, es ≤ e → e < 6 → IO gK gT gN gD e
def CDo (l : Launch) (D : va_G) (tys : List (ClassId × FieldType)) (cI cE cG cM cS : ClassId) (x0 q0 q1 : Nat) (qr : Nat → Nat) (xc : Nat → Option String) (y : MethodName) (w : List Cond) (As : List Value) (g : SG) (κ : Nat → EG) (g' : SG) (k : Nat) (v : Int32) (mc ms : Nat) : Prop := CtG (SX := Nat → EG) l D tys y w 9 160 mc ms (.ref x0 :: As) (CW cI cE cG cM cS x0 q0 q1 qr g κ) (fun A => ENI (S := Nat → EG) D A (fun r κ' => k = 0 ∧ r = v ∧ INV g' κ') (fun κ' => CW cI cE cG cM cS x0 q0 q1 qr g' κ') (fun _ => [])) (fun E κ' => xc k = some E ∧ INV g' κ') (fun κ' => CW cI cE cG cM cS x0 q0 q1 qr g' κ')
def CDv (l : Launch) (D : va_G) (tys : List (ClassId × FieldType)) (cI cE cG cM cS : ClassId) (x0 q0 q1 : Nat) (qr : Nat → Nat) (xc : Nat → Option String) (y : MethodName) (w : List Cond) (As : List Value) (g : SG) (κ : Nat → EG) (g' : SG) (k : Nat) (mc ms : Nat) : Prop := CtG (SX := Nat → EG) l D tys y w 9 160 mc ms (.ref x0 :: As) (CW cI cE cG cM cS x0 q0 q1 qr g κ) (fun A => EN (S := Nat → EG) D A (fun κ' => k = 0 ∧ INV g' κ') (fun κ' => CW cI cE cG cM cS x0 q0 q1 qr g' κ') (fun _ => [])) (fun E κ' => xc k = some E ∧ INV g' κ') (fun κ' => CW cI cE cG cM cS x0 q0 q1 qr g' κ')
/-- its exceptions, by their order -/
def xc3 : Nat → Option String
  | 1 => some xIOB
  | 2 => some xIAE
  | 3 => some xISE
  | _ => none
def xc2 : Nat → Option String
  | 1 => some xIOB
  | 2 => some xIAE
  | _ => none
def xcp : Nat → Option String
  | 1 => some xIOB
  | 2 => some xISE
  | _ => none
def xcm : Nat → Option String
  | 1 => some xISE
  | _ => none
section CDO
variable {l : Launch} {D : va_G} {tys : List (ClassId × FieldType)} {cI cE cG cM cS : ClassId} {x0 q0 q1 : Nat} {qr : Nat → Nat} {xc : Nat → Option String} {y : MethodName} {w : List Cond} {As : List Value} {g g' : SG} {κ : Nat → EG} {fr lo mc ms mc' ms' : Nat} {wc wr : va_W}
/-- refused, and nothing has changed -/
theorem cd_ref {k : Nat} {v : Int32} {E0 : String} {w1 : Unit → va_W} (h : CtG (SX := Unit) l D tys y w fr lo mc ms (.ref x0 :: As) wc (fun A => ENI (S := Unit) D A (fun _ _ => False) w1 (fun _ => [])) (fun E _ => E = E0) (fun _ => wc)) (e : (CW cI cE cG cM cS x0 q0 q1 qr g κ).Perm (wc ++ wr)) (hk : xc k = some E0) (hI : INV g κ) (h1 : fr ≤ 9) (h2 : lo ≤ 160) (h3 : mc ≤ mc') (h4 : ms ≤ ms') : CDo l D tys cI cE cG cM cS x0 q0 q1 qr xc y w As g κ g k v mc' ms' :=
  CtG.to (h.wide h1 h2 h3 h4) e (fun _ _ z => z.elim) (fun E _ z => ⟨κ, ⟨by rw [z]; exact hk, hI⟩, e.symm⟩)
theorem cd_refv {k : Nat} {E0 : String} {w1 : Unit → va_W} (h : CtG (SX := Unit) l D tys y w fr lo mc ms (.ref x0 :: As) wc (fun A => EN (S := Unit) D A (fun _ => False) w1 (fun _ => [])) (fun E _ => E = E0) (fun _ => wc)) (e : (CW cI cE cG cM cS x0 q0 q1 qr g κ).Perm (wc ++ wr)) (hk : xc k = some E0) (hI : INV g κ) (h1 : fr ≤ 9) (h2 : lo ≤ 160) (h3 : mc ≤ mc') (h4 : ms ≤ ms') : CDv l D tys cI cE cG cM cS x0 q0 q1 qr xc y w As g κ g k mc' ms' :=
  CtG.toV (h.wide h1 h2 h3 h4) e (fun _ z => z.elim) (fun E _ z => ⟨κ, ⟨by rw [z]; exact hk, hI⟩, e.symm⟩)
/-- asked -/
theorem cd_ask {v v' : Int32} {wx : Unit → va_W} (h : CtG (SX := Unit) l D tys y w fr lo mc ms (.ref x0 :: As) wc (fun A => ENI (S := Unit) D A (fun r _ => r = v) (fun _ => wc) (fun _ => [])) (fun _ _ => False) wx) (e : (CW cI cE cG cM cS x0 q0 q1 qr g κ).Perm (wc ++ wr)) (hv : v = v') (hI : INV g κ) (h1 : fr ≤ 9) (h2 : lo ≤ 160) (h3 : mc ≤ mc') (h4 : ms ≤ ms') : CDo l D tys cI cE cG cM cS x0 q0 q1 qr xc y w As g κ g 0 v' mc' ms' :=
  CtG.to (h.wide h1 h2 h3 h4) e (fun r _ z => ⟨κ, ⟨rfl, by rw [z, hv], hI⟩, e.symm⟩) (fun _ _ z => z.elim)
end CDO
section CW1
variable {cI cE cG cM cS : ClassId} {x0 q0 q1 : Nat} {qr : Nat → Nat} {ms es : Nat} {gE gM gB gG gK gG' gK' : Nat → Zp} {gT gN gT' gN' : Nat → Nat} {gD gD' : Nat → Bool} {κ κ' : Nat → EG} {ev : Nat}
/-- the whole of the class, but for its object and its estimators -/
def wrX (cI cG cM cS : ClassId) (q0 : Nat) (qr : Nat → Nat) (es : Nat) (gE gM gG gK : Nat → Zp) (gT gN : Nat → Nat) (gD : Nat → Bool) (κ : Nat → EG) : va_W := xE cG q0 (fG qr) :: ((List.range 6).flatMap (xR cI qr gE) ++ (List.range es).flatMap (sW cM cS gM gG gK gT gN gD κ))
/-- .. and but for an estimator -/
def wrE (cI cG cM cS : ClassId) (q0 : Nat) (qr : Nat → Nat) (es : Nat) (gE gM gG gK : Nat → Zp) (gT gN : Nat → Nat) (gD : Nat → Bool) (κ : Nat → EG) (ev : Nat) : va_W := xE cG q0 (fG qr) :: ((List.range 6).flatMap (xR cI qr gE) ++ (restI es [ev]).flatMap (sW cM cS gM gG gK gT gN gD κ))
/-- .. and but for its models -/
def wrG (cI cE cM cS : ClassId) (q1 : Nat) (qr : Nat → Nat) (es : Nat) (gE gM gG gK : Nat → Zp) (gT gN : Nat → Nat) (gD : Nat → Bool) (κ : Nat → EG) : va_W := xE cE q1 (fE es κ) :: ((List.range 6).flatMap (xR cI qr gE) ++ (List.range es).flatMap (sW cM cS gM gG gK gT gN gD κ))
theorem cw_x : (CW cI cE cG cM cS x0 q0 q1 qr (ms, es, gE, gM, gB, gT, gG, gN, gK, gD) κ).Perm ([xO x0 q0 q1 ms es, xE cE q1 (fE es κ)] ++ wrX cI cG cM cS q0 qr es gE gM gG gK gT gN gD κ) := List.Perm.cons _ (List.Perm.swap _ _ _)
theorem cw_g : (CW cI cE cG cM cS x0 q0 q1 qr (ms, es, gE, gM, gB, gT, gG, gN, gK, gD) κ).Perm ([xO x0 q0 q1 ms es, xE cG q0 (fG qr)] ++ wrG cI cE cM cS q1 qr es gE gM gG gK gT gN gD κ) := List.Perm.refl _
theorem cw_es (hev : ev < es) : (CW cI cE cG cM cS x0 q0 q1 qr (ms, es, gE, gM, gB, gT, gG, gN, gK, gD) κ).Perm ((xO x0 q0 q1 ms es :: xE cE q1 (fE es κ) :: sW cM cS gM gG gK gT gN gD κ ev) ++ wrE cI cG cM cS q0 qr es gE gM gG gK gT gN gD κ ev) := by
  have e := flat_pick (n := es) (ks := [ev]) (sW cM cS gM gG gK gT gN gD κ) (by simp) (fun k h => by simp at h; omega)
  rw [List.flatMap_cons, List.flatMap_nil, List.append_nil] at e
  refine List.Perm.cons _ ((List.Perm.swap _ _ _).trans (List.Perm.cons _ ?_))
  refine ((e.append_left ((List.range 6).flatMap (xR cI qr gE))).cons (xE cG q0 (fG qr))).trans ?_
  exact List.perm_append_comm_assoc (xE cG q0 (fG qr) :: (List.range 6).flatMap (xR cI qr gE)) _ _
theorem sW_c {e : Nat} (hG : gG' e = gG e) (hT : gT' e = gT e) (hN : gN' e = gN e) (hK : ∀ k, k < 30 → ∀ i, i < 6 → gK' (6 * (30 * e + k) + i) = gK (6 * (30 * e + k) + i)) (hD : ∀ k, k < 30 → gD' (30 * e + k) = gD (30 * e + k)) (hκ : κ' e = κ e) : sW cM cS gM gG' gK' gT' gN' gD' κ' e = sW cM cS gM gG gK gT gN gD κ e := by
  unfold sW
  rw [hG, hT, hN, hκ]
  exact estL_c (fun _ _ => rfl) hK hD
theorem IE_c {gM' gB' : Nat → Zp} {u : EG} {e : Nat} (hM : ∀ i, i < 7 → gM' (7 * e + i) = gM (7 * e + i)) (hB : s5at gB' e = s5at gB e) (hT : gT' e = gT e) (hN : gN' e = gN e) (hK : ∀ k, k < 30 → ∀ i, i < 6 → gK' (6 * (30 * e + k) + i) = gK (6 * (30 * e + k) + i)) (hD : ∀ k, k < 30 → gD' (30 * e + k) = gD (30 * e + k)) (h : IE gM gB gK gT gN gD u e) : IE gM' gB' gK' gT' gN' gD' u e := by
  obtain ⟨h1, h2, h3, h4, h5⟩ := h
  refine ⟨?_, by rw [hB]; exact h2, by rw [hN]; exact h3, by rw [hT]; exact h4, fun k hk => ?_⟩
  · rw [hB, hT, hN]
    exact h1.cg (fun i hi => (hM i hi).symm) (fun j hj i hi => (hK j (by omega) i hi).symm) (fun j hj => (hD j (by omega)).symm)
  · rw [hN] at hk
    rw [hK k (by omega) 0 (by omega), hT]
    exact h5 k hk
theorem fE_up {u : EG} (h : u.1 = (κ ev).1) : fE es (va_up κ ev u) = fE es κ := by
  funext i
  unfold fE
  by_cases hi : i = ev
  · subst hi
    rw [up_s, h]
  · rw [up_o _ _ hi]
/-- an estimator laid back -/
theorem cw_put {u : EG} (hev : ev < es) (hu : u.1 = (κ ev).1) (hs : ∀ e, e < es → e ≠ ev → sW cM cS gM gG' gK' gT' gN' gD' (va_up κ ev u) e = sW cM cS gM gG gK gT gN gD κ e) : ((xO x0 q0 q1 ms es :: xE cE q1 (fE es κ) :: sW cM cS gM gG' gK' gT' gN' gD' (va_up κ ev u) ev) ++ wrE cI cG cM cS q0 qr es gE gM gG gK gT gN gD κ ev).Perm (CW cI cE cG cM cS x0 q0 q1 qr (ms, es, gE, gM, gB, gT', gG', gN', gK', gD') (va_up κ ev u)) := by
  have e := cw_es (cI := cI) (cE := cE) (cG := cG) (cM := cM) (cS := cS) (x0 := x0) (q0 := q0) (q1 := q1) (qr := qr) (ms := ms) (gE := gE) (gM := gM) (gB := gB) (gT := gT') (gG := gG') (gN := gN') (gK := gK') (gD := gD') (κ := va_up κ ev u) hev
  rw [fE_up hu] at e
  have e2 : wrE cI cG cM cS q0 qr es gE gM gG' gK' gT' gN' gD' (va_up κ ev u) ev = wrE cI cG cM cS q0 qr es gE gM gG gK gT gN gD κ ev := by
    unfold wrE
    rw [rest_same (fun i hi hn => hs i hi (by simpa using hn))]
  rw [e2] at e
  exact e.symm
theorem inv_put {u : EG} (hev : ev < es) (h : INV (ms, es, gE, gM, gB, gT, gG, gN, gK, gD) κ) (hT : ∀ e, e ≠ ev → gT' e = gT e) (hN : ∀ e, e ≠ ev → gN' e = gN e) (hK : ∀ e, e ≠ ev → ∀ k, k < 30 → ∀ i, i < 6 → gK' (6 * (30 * e + k) + i) = gK (6 * (30 * e + k) + i)) (hD : ∀ e, e ≠ ev → ∀ k, k < 30 → gD' (30 * e + k) = gD (30 * e + k)) (hE : IE gM gB gK' gT' gN' gD' u ev) : INV (ms, es, gE, gM, gB, gT', gG', gN', gK', gD') (va_up κ ev u) := by
  obtain ⟨h1, h2, h3, h4⟩ := h
  refine ⟨h1, h2, fun e he => ?_, fun e he he6 => ?_⟩
  · by_cases hc : e = ev
    · subst hc
      rw [up_s]
      exact hE
    · rw [up_o _ _ hc]
      exact IE_c (fun _ _ => rfl) rfl (hT e hc) (hN e hc) (hK e hc) (hD e hc) (h3 e he)
  · have hc : e ≠ ev := by omega
    obtain ⟨g1, g2, g3, g4⟩ := h4 e he he6
    exact ⟨by rw [hN e hc]; exact g1, by rw [hT e hc]; exact g2, fun k hk i hi => by rw [hK e hc k hk i hi]; exact g3 k hk i hi, fun k hk => by rw [hD e hc k hk]; exact g4 k hk⟩
/-- a model's row -/
def wrR (cI cE cM cS : ClassId) (q1 : Nat) (qr : Nat → Nat) (es : Nat) (gE gM gG gK : Nat → Zp) (gT gN : Nat → Nat) (gD : Nat → Bool) (κ : Nat → EG) (j : Nat) : va_W := xE cE q1 (fE es κ) :: ((restI 6 [j]).flatMap (xR cI qr gE) ++ (List.range es).flatMap (sW cM cS gM gG gK gT gN gD κ))
theorem cw_row {j : Nat} (hj : j < 6) : (CW cI cE cG cM cS x0 q0 q1 qr (ms, es, gE, gM, gB, gT, gG, gN, gK, gD) κ).Perm ([xO x0 q0 q1 ms es, xE cG q0 (fG qr), ((qr j), .inl (cI, 7, .inl (fun i => vI (rowF gE j i))))] ++ wrR cI cE cM cS q1 qr es gE gM gG gK gT gN gD κ j) := by
  have e := flat_pick (n := 6) (ks := [j]) (xR cI qr gE) (by simp) (fun k h => by simp at h; omega)
  rw [List.flatMap_cons, List.flatMap_nil, List.append_nil] at e
  refine List.Perm.cons _ (List.Perm.cons _ ?_)
  refine ((e.append_right ((List.range es).flatMap (sW cM cS gM gG gK gT gN gD κ))).cons (xE cE q1 (fE es κ))).trans ?_
  exact List.Perm.swap _ _ _
theorem rows_put {gE' : Nat → Zp} {j : Nat} (h : ∀ i, i < 6 → i ≠ j → rowF gE' i = rowF gE i) : (restI 6 [j]).flatMap (xR cI qr gE') = (restI 6 [j]).flatMap (xR cI qr gE) := rest_same (fun i hi hn => by
  unfold xR
  rw [h i hi (by simpa using hn)])
theorem cw_rput {gE' : Nat → Zp} {j ms' : Nat} {f : Nat → Zp} (hj : j < 6) (hf : f = rowF gE' j) (h : ∀ i, i < 6 → i ≠ j → rowF gE' i = rowF gE i) : ([xO x0 q0 q1 ms' es, xE cG q0 (fG qr), ((qr j), .inl (cI, 7, .inl (fun i => vI (f i))))] ++ wrR cI cE cM cS q1 qr es gE gM gG gK gT gN gD κ j).Perm (CW cI cE cG cM cS x0 q0 q1 qr (ms', es, gE', gM, gB, gT, gG, gN, gK, gD) κ) := by
  subst hf
  have e := cw_row (cI := cI) (cE := cE) (cG := cG) (cM := cM) (cS := cS) (x0 := x0) (q0 := q0) (q1 := q1) (qr := qr) (ms := ms') (es := es) (gE := gE') (gM := gM) (gB := gB) (gT := gT) (gG := gG) (gN := gN) (gK := gK) (gD := gD) (κ := κ) hj
  have e2 : wrR cI cE cM cS q1 qr es gE' gM gG gK gT gN gD κ j = wrR cI cE cM cS q1 qr es gE gM gG gK gT gN gD κ j := by
    unfold wrR
    rw [rows_put h]
  rw [e2] at e
  exact e.symm
theorem cw_put2 {u : EG} {L : va_W} (hev : ev < es) (hu : u.1 = (κ ev).1) (he : sW cM cS gM gG' gK' gT' gN' gD' (va_up κ ev u) ev = L) (hs : ∀ e, e < es → e ≠ ev → sW cM cS gM gG' gK' gT' gN' gD' (va_up κ ev u) e = sW cM cS gM gG gK gT gN gD κ e) : ((xO x0 q0 q1 ms es :: xE cE q1 (fE es κ) :: L) ++ wrE cI cG cM cS q0 qr es gE gM gG gK gT gN gD κ ev).Perm (CW cI cE cG cM cS x0 q0 q1 qr (ms, es, gE, gM, gB, gT', gG', gN', gK', gD') (va_up κ ev u)) := by
  subst he
  exact cw_put hev hu hs
end CW1
theorem told_n {gK : Nat → Zp} {row : Nat} {t h j z r q : Zp} : ∀ {i : Nat}, i < 6 → told6 gK row t h j z r q (row + i) = m6 t h j z r q i
  | 0, _ => by unfold told6; rw [up_o _ _ (by omega), up_o _ _ (by omega), up_o _ _ (by omega), up_o _ _ (by omega), up_o _ _ (by omega)]; exact up_s _ _ _
  | 1, _ => by unfold told6; rw [up_o _ _ (by omega), up_o _ _ (by omega), up_o _ _ (by omega), up_o _ _ (by omega)]; exact up_s _ _ _
  | 2, _ => by unfold told6; rw [up_o _ _ (by omega), up_o _ _ (by omega), up_o _ _ (by omega)]; exact up_s _ _ _
  | 3, _ => by unfold told6; rw [up_o _ _ (by omega), up_o _ _ (by omega)]; exact up_s _ _ _
  | 4, _ => by unfold told6; rw [up_o _ _ (by omega)]; exact up_s _ _ _
  | 5, _ => by unfold told6; exact up_s _ _ _
theorem told_o {gK : Nat → Zp} {row : Nat} {t h j z r q : Zp} {x : Nat} (hx : x < row ∨ row + 6 ≤ x) : told6 gK row t h j z r q x = gK x := by
  unfold told6
  rw [up_o _ _ (by omega), up_o _ _ (by omega), up_o _ _ (by omega), up_o _ _ (by omega), up_o _ _ (by omega), up_o _ _ (by omega)]
theorem told_m {gK : Nat → Zp} {ev n : Nat} {t h j z r q : Zp} (k : Nat) {i : Nat} (hi : i < 6) : mUp (fun k c => gK (6 * (30 * ev + k) + c)) n (m6 t h j z r q) k i = told6 gK (6 * (30 * ev + n)) t h j z r q (6 * (30 * ev + k) + i) := by
  by_cases hk : k = n
  · subst hk
    rw [mUp_n, told_n hi]
  · rw [mUp_o _ _ hk, told_o (by omega)]
theorem drop_m {gD : Nat → Bool} {ev kv : Nat} {b : Bool} (k : Nat) : va_up gD (30 * ev + kv) b (30 * ev + k) = va_up (fun k => gD (30 * ev + k)) kv b k := by
  by_cases hk : k = kv
  · subst hk
    rw [up_s, up_s]
  · rw [up_o _ _ hk, up_o _ _ (by omega)]
/-! both sides, call by call: what is asked -/
theorem in_nat {n : Nat} {v : Int} (h : inB 0 ((n : Nat) : Int) v = true) : ∃ k : Nat, v = ((k : Nat) : Int) ∧ k ≤ n := by
  obtain ⟨h1, h2⟩ := inB_iff.mp h
  exact ⟨v.toNat, by omega, by omega⟩
theorem in_nat1 {n : Nat} {v : Int} (h : inB 0 (((n : Nat) : Int) - 1) v = true) : ∃ k : Nat, v = ((k : Nat) : Int) ∧ k < n := by
  obtain ⟨h1, h2⟩ := inB_iff.mp h
  exact ⟨v.toNat, by omega, by omega⟩
theorem in_zp {v : Int} (h : inB 0 10006 v = true) : ∃ z : Zp, v = zv z := by
  obtain ⟨h1, h2⟩ := inB_iff.mp h
  exact ⟨zc v, by rw [zv_zc]; omega⟩
theorem cw_eo {cI cE cG cM cS : ClassId} {x0 q0 q1 : Nat} {qr : Nat → Nat} {ms es : Nat} {gE gM gB gG gK : Nat → Zp} {gT gN : Nat → Nat} {gD : Nat → Bool} {κ : Nat → EG} {ev : Nat} (hev : ev < es) : (CW cI cE cG cM cS x0 q0 q1 qr (ms, es, gE, gM, gB, gT, gG, gN, gK, gD) κ).Perm ([xO x0 q0 q1 ms es, xE cE q1 (fE es κ), eObj (κ ev).1 (gN ev) (gT ev) (gG ev)] ++ ((sW cM cS gM gG gK gT gN gD κ ev).tail ++ wrE cI cG cM cS q0 qr es gE gM gG gK gT gN gD κ ev)) := cw_es hev
theorem ca_gt {P : Nat → Zp} {B : S5} {M : Nat → Nat → Zp} {dr : Nat → Bool} {n T : Nat} {Y : Nat → Nat → Zp} {gt : Nat → Bool} {sp sb : Nat → S5} (h : SEtl P B M dr n (T + 1) Y gt sp sb) (ht : ∀ k, k < n → (M k 0).val ≤ T) : ∀ k, k < n → dr k = false → gt k = gtM P B M dr n k := by
  intro k hk hd
  obtain ⟨q, h1, h2, h3, h4, h5⟩ := h.2 k hk hd (by have := ht k hk; omega)
  unfold gtM
  rw [h1]
  exact h5

/-! both sides, call by call: what changes an estimator -/
theorem in_zpT {n : Nat} {v : Int} (h : inB 0 ((n : Nat) : Int) v = true) (hn : n ≤ 20) : ∃ z : Zp, v = zv z ∧ zv z ≤ ((n : Nat) : Int) := by
  obtain ⟨h1, h2⟩ := inB_iff.mp h
  have e : zv (zc v) = v := by rw [zv_zc]; omega
  exact ⟨zc v, e.symm, by rw [e]; exact h2⟩
theorem drop_m2 {gD : Nat → Bool} {ev kv : Nat} {b b' : Bool} (k : Nat) : va_up (va_up gD (30 * ev + kv) b) (30 * ev + kv) b' (30 * ev + k) = va_up (fun k => gD (30 * ev + k)) kv b' k := by
  by_cases hk : k = kv
  · subst hk
    rw [up_s, up_s]
  · rw [up_o _ _ hk, up_o _ _ (by omega), up_o _ _ (by omega)]
theorem drop_m3 {gD : Nat → Bool} {ev kv : Nat} {b : Bool} (h : gD (30 * ev + kv) = false) (k : Nat) : va_up (va_up gD (30 * ev + kv) b) (30 * ev + kv) false (30 * ev + k) = gD (30 * ev + k) := by
  by_cases hk : k = kv
  · subst hk
    rw [up_s, h]
  · rw [up_o _ _ (by omega), up_o _ _ (by omega)]

/-! both sides, call by call: models, and what begins -/
section RW1
variable {cI cE cG cM cS : ClassId} {gE gM gM' gB gG gK gG' gK' : Nat → Zp} {gT gN gT' gN' : Nat → Nat} {gD gD' : Nat → Bool} {κ κ' : Nat → EG}
theorem row_up {j w : Nat} {v : Zp} (hw : w < 7) : va_up (rowF gE j) w v = rowF (va_up gE (7 * j + w) v) j := by
  funext i
  by_cases hi : i = w
  · subst hi
    rw [up_s]
    unfold rowF
    rw [if_pos hw, up_s]
  · rw [up_o _ _ hi]
    unfold rowF
    by_cases h7 : i < 7
    · rw [if_pos h7, if_pos h7, up_o _ _ (by omega)]
    · rw [if_neg h7, if_neg h7]
theorem row_o {i j w : Nat} {v : Zp} (hw : w < 7) (hij : i ≠ j) : rowF (va_up gE (7 * j + w) v) i = rowF gE i := by
  funext x
  unfold rowF
  by_cases h7 : x < 7
  · rw [if_pos h7, if_pos h7, up_o _ _ (by omega)]
  · rw [if_neg h7, if_neg h7]
theorem put7_n {b : Nat} {f : Nat → Zp} : ∀ {i : Nat}, i < 7 → put7 gM b f (b + i) = f i
  | 0, _ => by unfold put7; rw [up_o _ _ (by omega), up_o _ _ (by omega), up_o _ _ (by omega), up_o _ _ (by omega), up_o _ _ (by omega), up_o _ _ (by omega), up_s]
  | 1, _ => by unfold put7; rw [up_o _ _ (by omega), up_o _ _ (by omega), up_o _ _ (by omega), up_o _ _ (by omega), up_o _ _ (by omega), up_s]
  | 2, _ => by unfold put7; rw [up_o _ _ (by omega), up_o _ _ (by omega), up_o _ _ (by omega), up_o _ _ (by omega), up_s]
  | 3, _ => by unfold put7; rw [up_o _ _ (by omega), up_o _ _ (by omega), up_o _ _ (by omega), up_s]
  | 4, _ => by unfold put7; rw [up_o _ _ (by omega), up_o _ _ (by omega), up_s]
  | 5, _ => by unfold put7; rw [up_o _ _ (by omega), up_s]
  | 6, _ => by unfold put7; rw [up_s]
theorem put7_o {b : Nat} {f : Nat → Zp} {x : Nat} (hx : x < b ∨ b + 7 ≤ x) : put7 gM b f x = gM x := by
  unfold put7
  rw [up_o _ _ (by omega), up_o _ _ (by omega), up_o _ _ (by omega), up_o _ _ (by omega), up_o _ _ (by omega), up_o _ _ (by omega), up_o _ _ (by omega)]
theorem putB_n {e : Nat} {b1 b2 b3 b4 b5 : Zp} : s5at (putB gB (5 * e) b1 b2 b3 b4 b5) e = (b1, b2, b3, b4, b5) := by
  unfold s5at putB
  rw [up_o _ _ (show 5 * e + 0 ≠ 5 * e + 4 by omega), up_o _ _ (show 5 * e + 0 ≠ 5 * e + 3 by omega), up_o _ _ (show 5 * e + 0 ≠ 5 * e + 2 by omega), up_o _ _ (show 5 * e + 0 ≠ 5 * e + 1 by omega), show 5 * e + 0 = 5 * e from rfl, up_s, up_o _ _ (show 5 * e + 1 ≠ 5 * e + 4 by omega), up_o _ _ (show 5 * e + 1 ≠ 5 * e + 3 by omega), up_o _ _ (show 5 * e + 1 ≠ 5 * e + 2 by omega), up_s, up_o _ _ (show 5 * e + 2 ≠ 5 * e + 4 by omega), up_o _ _ (show 5 * e + 2 ≠ 5 * e + 3 by omega), up_s, up_o _ _ (show 5 * e + 3 ≠ 5 * e + 4 by omega), up_s, up_s]
theorem putB_x {e x : Nat} {b1 b2 b3 b4 b5 : Zp} (hx : x < 5 * e ∨ 5 * e + 5 ≤ x) : putB gB (5 * e) b1 b2 b3 b4 b5 x = gB x := by
  unfold putB
  rw [up_o _ _ (by omega), up_o _ _ (by omega), up_o _ _ (by omega), up_o _ _ (by omega), up_o _ _ (by omega)]
theorem putB_o {e i : Nat} {b1 b2 b3 b4 b5 : Zp} (h : i ≠ e) : s5at (putB gB (5 * e) b1 b2 b3 b4 b5) i = s5at gB i := by
  unfold s5at
  rw [putB_x (by omega), putB_x (by omega), putB_x (by omega), putB_x (by omega), putB_x (by omega)]
theorem sW_m {e : Nat} (hM : ∀ i, i < 7 → gM' (7 * e + i) = gM (7 * e + i)) (hG : gG' e = gG e) (hκ : κ' e = κ e) : sW cM cS gM' gG' gK gT gN gD κ' e = sW cM cS gM gG gK gT gN gD κ e := by
  unfold sW
  rw [hG, hκ]
  exact estL_c hM (fun _ _ _ _ => rfl) (fun _ _ => rfl)
theorem fE_new {es : Nat} {u : EG} : fE (es + 1) (va_up κ es u) = va_up (fE es κ) es (some (u.1 0)) := by
  funext i
  by_cases hi : i = es
  · subst hi
    rw [up_s]
    unfold fE
    rw [if_pos (Nat.lt_succ_self _), up_s]
  · rw [up_o _ _ hi]
    unfold fE
    rw [up_o _ _ hi]
    by_cases h : i < es
    · rw [if_pos h, if_pos (by omega)]
    · rw [if_neg h, if_neg (by omega)]
theorem perm_new {X G R E : Nat × va_E} {L rest ests rows : va_W} (e : rows.Perm (R :: rest)) : ((L ++ [X, G, R, E]) ++ (rest ++ ests)).Perm (X :: G :: E :: (rows ++ (ests ++ L))) := by
  rw [List.append_assoc]
  refine List.perm_append_comm.trans ?_
  show (X :: G :: R :: E :: ((rest ++ ests) ++ L)).Perm _
  refine List.Perm.cons _ (List.Perm.cons _ ((List.Perm.swap _ _ _).trans (List.Perm.cons _ ?_)))
  rw [List.append_assoc]
  exact (e.append_right (ests ++ L)).symm
end RW1

