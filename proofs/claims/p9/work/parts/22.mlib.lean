/-! the reference: what holds of its state between the calls -/
def mC (x : Int32) : Prop := x = (-1) ∨ ∃ j : Nat, j ≤ 700 ∧ x = nI j
def mB (n : Nat) (x : Int32) : Prop := x = (-1) ∨ ∃ j : Nat, j < n ∧ x = nI j
def mM (x : Int32) : Prop := x = (-1) ∨ ∃ j : Nat, j ≤ 3 ∧ x = nI j
/-- d moves, from the i-th on, go one behind another on the level L -/
def mch (mv : Nat → Int32) (L : Nat) : Nat → Nat → (Nat → Int32) → Prop
  | _, 0, _ => True
  | i, d + 1, f => ∃ a b v : Nat, mv i = nI (100 * a + b) ∧ a < 96 ∧ b < 96 ∧ a / 24 = L ∧ b / 24 = L ∧ a ≠ b ∧ f a = nI v ∧ 1 ≤ v ∧ v ≤ 700 ∧ mch mv L (i + 1) d (upd (upd f b (nI v)) a 0)
/-- j moves of the plan, done one behind another, lead from f0 to f -/
def mdo (pl : Nat → Int32) (L : Nat) (f0 : Nat → Int32) : Nat → (Nat → Int32) → Prop
  | 0, f => f = f0
  | j + 1, f => ∃ (h : Nat → Int32) (a b v : Nat), mdo pl L f0 j h ∧ pl j = nI (100 * a + b) ∧ a < 96 ∧ b < 96 ∧ a / 24 = L ∧ b / 24 = L ∧ a ≠ b ∧ h a = nI v ∧ 1 ≤ v ∧ v ≤ 700 ∧ h b = 0 ∧ f = upd (upd h b (nI v)) a 0
theorem mdo.upd {pl : Nat → Int32} {L : Nat} {f0 : Nat → Int32} {k : Nat} {x : Int32} : ∀ (j : Nat) (f : Nat → Int32), j ≤ k → mdo pl L f0 j f → mdo (upd pl k x) L f0 j f
  | 0, _, _, h => h
  | j + 1, f, hk, ⟨h, a, b, v, h1, h2, h3⟩ => ⟨h, a, b, v, mdo.upd j h (by omega) h1, by rw [pk_un (by omega)]; exact h2, h3⟩
theorem mdo.ch {pl : Nat → Int32} {L : Nat} {f0 : Nat → Int32} : ∀ (j d : Nat) (f : Nat → Int32), mdo pl L f0 j f → mch pl L j d f → mch pl L 0 (j + d) f0
  | 0, d, f, h, hc => by cases h; rw [Nat.zero_add]; exact hc
  | j + 1, d, f, ⟨h, a, b, v, h1, h2, h3, h4, h5, h6, h7, h8, h9, h10, _, h12⟩, hc => by
    have := mdo.ch j (d + 1) h h1 ⟨a, b, v, h2, h3, h4, h5, h6, h7, h8, h9, h10, by rw [← h12]; exact hc⟩
    rw [show j + 1 + d = j + (d + 1) by omega]; exact this
theorem mdo.all {pl : Nat → Int32} {L j : Nat} {f0 f : Nat → Int32} (h : mdo pl L f0 j f) : mch pl L 0 j f0 := mdo.ch j 0 f h trivial
/-- undone, the cells are as before -/
theorem mundo {h : Nat → Int32} {a b v : Nat} (hab : a ≠ b) (ha : h a = nI v) (hb : h b = 0) : upd (upd (upd (upd h b (nI v)) a 0) a (nI v)) b 0 = h := by
  funext i
  unfold upd
  by_cases h1 : i = b
  · subst h1; rw [if_pos rfl, hb]
  · rw [if_neg h1]
    by_cases h2 : i = a
    · subst h2; rw [if_pos rfl, ha]
    · rw [if_neg h2, if_neg h2, if_neg h1]
theorem mback {h : Nat → Int32} {a : Nat} {x v : Int32} (ha : h a = v) : upd (upd h a x) a v = h := by
  funext i
  unfold upd
  by_cases h2 : i = a
  · subst h2; rw [if_pos rfl, ha]
  · rw [if_neg h2, if_neg h2]
theorem mch.congr {mv : Nat → Int32} {L : Nat} : ∀ (d i : Nat) (f f' : Nat → Int32), (∀ q, q / 24 = L → f q = f' q) → mch mv L i d f → mch mv L i d f'
  | 0, _, _, _, _, _ => trivial
  | d + 1, i, f, f', he, ⟨a, b, v, h1, h2, h3, h4, h5, h6, h7, h8, h9, h10⟩ => by
    refine ⟨a, b, v, h1, h2, h3, h4, h5, h6, (he a h4).symm.trans h7, h8, h9, mch.congr d (i + 1) _ _ ?_ h10⟩
    intro q hq
    unfold upd
    rw [he q hq]
theorem mch.moves {mv mv' : Nat → Int32} {L : Nat} : ∀ (d i : Nat) (f : Nat → Int32), (∀ q, i ≤ q → q < i + d → mv q = mv' q) → mch mv L i d f → mch mv' L i d f
  | 0, _, _, _, _ => trivial
  | d + 1, i, f, he, ⟨a, b, v, h1, h2, h3, h4, h5, h6, h7, h8, h9, h10⟩ => ⟨a, b, v, (he i (Nat.le_refl _) (by omega)).symm.trans h1, h2, h3, h4, h5, h6, h7, h8, h9, mch.moves d (i + 1) _ (fun q h1 h2 => he q (by omega) (by omega)) h10⟩
/-- a bay whose car came, and whose door is not shut: an order of its own will come -/
def mK (w y d : Nat → Int32) (b : Nat) : Prop := ∃ j : Nat, j < 700 ∧ y b = nI j ∧ w j = 1 ∧ ¬ d b = 0
def mP (w y oc : Nat → Int32) (n z g b : Nat) : Prop := ∃ j : Nat, j < 700 ∧ y b = nI j ∧ w j = 1 ∧ (∀ k, k < n → ¬ oc k = nI j) ∧ (z = 1 → g ≠ j)
def MI (nc n z g zf sp : Nat) (mm : Int32) (w p f d y oc ob mv : Nat → Int32) : Prop := (nc ≤ 700) ∧ (∀ i, sC (p i)) ∧ (∀ i, mC (f i)) ∧ (∀ i, mB nc (y i)) ∧ (∀ i, sB (ob i)) ∧ (∀ k, k < n → ∃ j : Nat, j < nc ∧ oc k = nI j) ∧ (∃ r0 r1 : Nat, n + z + r0 + r1 ≤ 24 ∧ (mK w y d 0 → 1 ≤ r0) ∧ (mK w y d 1 → 1 ≤ r1)) ∧ (∀ b j : Nat, b < 2 → j < 700 → y b = nI j → w j = 1 → ¬ d b = 0 → (∀ k, k < n → ¬ oc k = nI j) ∧ (z = 1 → g ≠ j)) ∧ (∀ j : Nat, j < 700 → y 0 = nI j → y 1 = nI j → ¬ w j = 1) ∧ (z ≤ 1) ∧ (zf ≤ 1) ∧ (g < 700) ∧ (z = 1 → g < nc) ∧ (mM mm) ∧ (z = 1 → zf = 1 → ∀ m q : Nat, m ≤ 3 → mm = nI m → q < 96 → p g = nI q → mch mv (q / 24) (sp - 1) (m - (sp - 1)) f)
theorem MI.hnc {nc n z g zf sp : Nat} {mm : Int32} {w p f d y oc ob mv : Nat → Int32} (h : MI nc n z g zf sp mm w p f d y oc ob mv) : nc ≤ 700 := h.1
theorem MI.hp {nc n z g zf sp : Nat} {mm : Int32} {w p f d y oc ob mv : Nat → Int32} (h : MI nc n z g zf sp mm w p f d y oc ob mv) : ∀ i, sC (p i) := h.2.1
theorem MI.hf {nc n z g zf sp : Nat} {mm : Int32} {w p f d y oc ob mv : Nat → Int32} (h : MI nc n z g zf sp mm w p f d y oc ob mv) : ∀ i, mC (f i) := h.2.2.1
theorem MI.hy {nc n z g zf sp : Nat} {mm : Int32} {w p f d y oc ob mv : Nat → Int32} (h : MI nc n z g zf sp mm w p f d y oc ob mv) : ∀ i, mB nc (y i) := h.2.2.2.1
theorem MI.hob {nc n z g zf sp : Nat} {mm : Int32} {w p f d y oc ob mv : Nat → Int32} (h : MI nc n z g zf sp mm w p f d y oc ob mv) : ∀ i, sB (ob i) := h.2.2.2.2.1
theorem MI.hoc {nc n z g zf sp : Nat} {mm : Int32} {w p f d y oc ob mv : Nat → Int32} (h : MI nc n z g zf sp mm w p f d y oc ob mv) : ∀ k, k < n → ∃ j : Nat, j < nc ∧ oc k = nI j := h.2.2.2.2.2.1
theorem MI.hr {nc n z g zf sp : Nat} {mm : Int32} {w p f d y oc ob mv : Nat → Int32} (h : MI nc n z g zf sp mm w p f d y oc ob mv) : ∃ r0 r1 : Nat, n + z + r0 + r1 ≤ 24 ∧ (mK w y d 0 → 1 ≤ r0) ∧ (mK w y d 1 → 1 ≤ r1) := h.2.2.2.2.2.2.1
theorem MI.h8 {nc n z g zf sp : Nat} {mm : Int32} {w p f d y oc ob mv : Nat → Int32} (h : MI nc n z g zf sp mm w p f d y oc ob mv) : ∀ b j : Nat, b < 2 → j < 700 → y b = nI j → w j = 1 → ¬ d b = 0 → (∀ k, k < n → ¬ oc k = nI j) ∧ (z = 1 → g ≠ j) := h.2.2.2.2.2.2.2.1
theorem MI.h9 {nc n z g zf sp : Nat} {mm : Int32} {w p f d y oc ob mv : Nat → Int32} (h : MI nc n z g zf sp mm w p f d y oc ob mv) : ∀ j : Nat, j < 700 → y 0 = nI j → y 1 = nI j → ¬ w j = 1 := h.2.2.2.2.2.2.2.2.1
theorem MI.hz {nc n z g zf sp : Nat} {mm : Int32} {w p f d y oc ob mv : Nat → Int32} (h : MI nc n z g zf sp mm w p f d y oc ob mv) : z ≤ 1 := h.2.2.2.2.2.2.2.2.2.1
theorem MI.hzf {nc n z g zf sp : Nat} {mm : Int32} {w p f d y oc ob mv : Nat → Int32} (h : MI nc n z g zf sp mm w p f d y oc ob mv) : zf ≤ 1 := h.2.2.2.2.2.2.2.2.2.2.1
theorem MI.hg {nc n z g zf sp : Nat} {mm : Int32} {w p f d y oc ob mv : Nat → Int32} (h : MI nc n z g zf sp mm w p f d y oc ob mv) : g < 700 := h.2.2.2.2.2.2.2.2.2.2.2.1
theorem MI.hgc {nc n z g zf sp : Nat} {mm : Int32} {w p f d y oc ob mv : Nat → Int32} (h : MI nc n z g zf sp mm w p f d y oc ob mv) : z = 1 → g < nc := h.2.2.2.2.2.2.2.2.2.2.2.2.1
theorem MI.hmm {nc n z g zf sp : Nat} {mm : Int32} {w p f d y oc ob mv : Nat → Int32} (h : MI nc n z g zf sp mm w p f d y oc ob mv) : mM mm := h.2.2.2.2.2.2.2.2.2.2.2.2.2.1
theorem MI.hch {nc n z g zf sp : Nat} {mm : Int32} {w p f d y oc ob mv : Nat → Int32} (h : MI nc n z g zf sp mm w p f d y oc ob mv) : z = 1 → zf = 1 → ∀ m q : Nat, m ≤ 3 → mm = nI m → q < 96 → p g = nI q → mch mv (q / 24) (sp - 1) (m - (sp - 1)) f := h.2.2.2.2.2.2.2.2.2.2.2.2.2.2
theorem MI.mk {nc n z g zf sp : Nat} {mm : Int32} {w p f d y oc ob mv : Nat → Int32} (hnc : nc ≤ 700) (hp : ∀ i, sC (p i)) (hf : ∀ i, mC (f i)) (hy : ∀ i, mB nc (y i)) (hob : ∀ i, sB (ob i)) (hoc : ∀ k, k < n → ∃ j : Nat, j < nc ∧ oc k = nI j) (hr : ∃ r0 r1 : Nat, n + z + r0 + r1 ≤ 24 ∧ (mK w y d 0 → 1 ≤ r0) ∧ (mK w y d 1 → 1 ≤ r1)) (h8 : ∀ b j : Nat, b < 2 → j < 700 → y b = nI j → w j = 1 → ¬ d b = 0 → (∀ k, k < n → ¬ oc k = nI j) ∧ (z = 1 → g ≠ j)) (h9 : ∀ j : Nat, j < 700 → y 0 = nI j → y 1 = nI j → ¬ w j = 1) (hz : z ≤ 1) (hzf : zf ≤ 1) (hg : g < 700) (hgc : z = 1 → g < nc) (hmm : mM mm) (hch : z = 1 → zf = 1 → ∀ m q : Nat, m ≤ 3 → mm = nI m → q < 96 → p g = nI q → mch mv (q / 24) (sp - 1) (m - (sp - 1)) f) : MI nc n z g zf sp mm w p f d y oc ob mv := ⟨hnc, hp, hf, hy, hob, hoc, hr, h8, h9, hz, hzf, hg, hgc, hmm, hch⟩
section MIs
variable {nc n z g zf sp : Nat} {mm : Int32} {w p f d y oc ob mv : Nat → Int32}
theorem MI.n24 (h : MI nc n z g zf sp mm w p f d y oc ob mv) : n ≤ 24 := by
  obtain ⟨r0, r1, h1, _⟩ := h.hr
  omega
/-- fewer bays whose car came -/
theorem MI.shrink {w' y' d' : Nat → Int32} (h : MI nc n z g zf sp mm w p f d y oc ob mv) (hy : ∀ i, mB nc (y' i)) (hs : ∀ b j : Nat, b < 2 → j < 700 → y' b = nI j → w' j = 1 → ¬ d' b = 0 → y b = nI j ∧ w j = 1 ∧ ¬ d b = 0) (hn : ∀ j : Nat, j < 700 → y' 0 = nI j → y' 1 = nI j → ¬ w' j = 1) : MI nc n z g zf sp mm w' p f d' y' oc ob mv := by
  obtain ⟨r0, r1, a1, a2, a3⟩ := h.hr
  refine (MI.mk (hnc := h.hnc) (hp := h.hp) (hf := h.hf) (hy := hy) (hob := h.hob) (hoc := h.hoc) (hr := ⟨r0, r1, a1, fun ⟨j, b1, b2, b3, b4⟩ => a2 ⟨j, b1, hs 0 j (by omega) b1 b2 b3 b4⟩, fun ⟨j, b1, b2, b3, b4⟩ => a3 ⟨j, b1, hs 1 j (by omega) b1 b2 b3 b4⟩⟩) ?_ (h9 := hn) (hz := h.hz) (hzf := h.hzf) (hg := h.hg) (hgc := h.hgc) (hmm := h.hmm) (hch := h.hch))
  intro b j hb hj e1 e2 e3
  obtain ⟨c1, c2, c3⟩ := hs b j hb hj e1 e2 e3
  exact h.h8 b j hb hj c1 c2 c3
/-- a door that moves, or gets shut -/
theorem MI.door {d' : Nat → Int32} (h : MI nc n z g zf sp mm w p f d y oc ob mv) (hd : ∀ b, ¬ d' b = 0 → ¬ d b = 0) : MI nc n z g zf sp mm w p f d' y oc ob mv := h.shrink h.hy (fun b _ _ _ e1 e2 e3 => ⟨e1, e2, hd b e3⟩) h.h9
theorem MI.door1 {b : Nat} {x : Int32} (h : MI nc n z g zf sp mm w p f d y oc ob mv) (hd : ¬ d b = 0) : MI nc n z g zf sp mm w p f (upd d b x) y oc ob mv := h.door (fun i hi => by
  by_cases e : i = b
  · rw [e]; exact hd
  · rw [pk_un e] at hi; exact hi)
theorem MI.door0 {b : Nat} (h : MI nc n z g zf sp mm w p f d y oc ob mv) : MI nc n z g zf sp mm w p f (upd d b 0) y oc ob mv := h.door (fun i hi => by
  by_cases e : i = b
  · rw [e, pk_us] at hi; exact absurd rfl hi
  · rw [pk_un e] at hi; exact hi)
/-- where of a car, no longer BAY -/
theorem MI.whereTo {k : Nat} {x : Int32} (h : MI nc n z g zf sp mm w p f d y oc ob mv) (hx : ¬ x = 1) : MI nc n z g zf sp mm (upd w k x) p f d y oc ob mv := by
  have hw : ∀ j : Nat, upd w k x j = 1 → w j = 1 := fun j e => by
    by_cases q : j = k
    · rw [q, pk_us] at e; exact absurd e hx
    · rw [pk_un q] at e; exact e
  exact h.shrink h.hy (fun b j _ _ e1 e2 e3 => ⟨e1, hw j e2, e3⟩) (fun j hj e1 e2 e3 => h.h9 j hj e1 e2 (hw j e3))
/-- a bay is cleared: its door may do what it likes -/
theorem MI.clear {b : Nat} {d' : Nat → Int32} (h : MI nc n z g zf sp mm w p f d y oc ob mv) (hd : ∀ i, i ≠ b → d' i = d i) : MI nc n z g zf sp mm w p f d' (upd y b (-1)) oc ob mv := by
  have hm : ∀ j : Nat, j < 700 → ¬ ((-1) : Int32) = nI j := fun j hj e => pt_nIm (k := j) (by omega) e.symm
  refine h.shrink (fun i => s_upd h.hy (Or.inl rfl) i) ?_ ?_
  · intro b' j _ hj e1 e2 e3
    by_cases q : b' = b
    · rw [q, pk_us] at e1; exact absurd e1 (hm j hj)
    · rw [pk_un q] at e1; rw [hd b' q] at e3; exact ⟨e1, e2, e3⟩
  · intro j hj e1 e2
    by_cases q : (0 : Nat) = b
    · rw [← q, pk_us] at e1; exact absurd e1 (hm j hj)
    · rw [pk_un q] at e1
      by_cases q1 : (1 : Nat) = b
      · rw [← q1, pk_us] at e2; exact absurd e2 (hm j hj)
      · rw [pk_un q1] at e2; exact h.h9 j hj e1 e2
/-- a car comes into a bay that is not one that came -/
theorem MI.fetched {b k : Nat} {d' : Nat → Int32} (h : MI nc n z g zf sp mm w p f d y oc ob mv) (hk : k < nc) (hw : ¬ w k = 1) (hd : ∀ i, i ≠ b → d' i = d i) : MI nc n z g zf sp mm w p f d' (upd y b (nI k)) oc ob mv := by
  have h7 := h.hnc
  have hm : ∀ j : Nat, j < 700 → nI k = nI j → w j = 1 → False := fun j hj e e2 => hw (by rw [(nI_eq (by omega) (by omega)).mp e]; exact e2)
  refine h.shrink (fun i => s_upd h.hy (Or.inr ⟨k, hk, rfl⟩) i) ?_ ?_
  · intro b' j _ hj e1 e2 e3
    by_cases q : b' = b
    · rw [q, pk_us] at e1; exact absurd e2 (fun e => hm j hj e1 e)
    · rw [pk_un q] at e1; rw [hd b' q] at e3; exact ⟨e1, e2, e3⟩
  · intro j hj e1 e2
    by_cases q : (0 : Nat) = b
    · rw [← q, pk_us] at e1; exact fun e => hm j hj e1 e
    · rw [pk_un q] at e1
      by_cases q1 : (1 : Nat) = b
      · rw [← q1, pk_us] at e2; exact fun e => hm j hj e2 e
      · rw [pk_un q1] at e2; exact h.h9 j hj e1 e2
/-- cells, places and the step change, the chain is shown anew -/
theorem MI.cells {f' p' : Nat → Int32} {sp' : Nat} (h : MI nc n z g zf sp mm w p f d y oc ob mv) (hf : ∀ i, mC (f' i)) (hp : ∀ i, sC (p' i)) (hc : z = 1 → zf = 1 → ∀ m q : Nat, m ≤ 3 → mm = nI m → q < 96 → p' g = nI q → mch mv (q / 24) (sp' - 1) (m - (sp' - 1)) f') : MI nc n z g zf sp' mm w p' f' d y oc ob mv := (MI.mk (hnc := h.hnc) (hp := hp) (hf := hf) (hy := h.hy) (hob := h.hob) (hoc := h.hoc) (hr := h.hr) (h8 := h.h8) (h9 := h.h9) (hz := h.hz) (hzf := h.hzf) (hg := h.hg) (hgc := h.hgc) (hmm := h.hmm) (hch := hc))
/-- nothing is being done any more -/
theorem MI.idle {zf' sp' : Nat} {mm' : Int32} {mv' : Nat → Int32} {g' : Nat} (h : MI nc n z g zf sp mm w p f d y oc ob mv) (h1 : zf' ≤ 1) (h2 : mM mm') (h3 : g' < 700) : MI nc n 0 g' zf' sp' mm' w p f d y oc ob mv' := by
  obtain ⟨r0, r1, a1, a2⟩ := h.hr
  exact (MI.mk (hnc := h.hnc) (hp := h.hp) (hf := h.hf) (hy := h.hy) (hob := h.hob) (hoc := h.hoc) (hr := ⟨r0, r1, by omega, a2⟩) (h8 := fun b j b1 b2 b3 b4 b5 => ⟨(h.h8 b j b1 b2 b3 b4 b5).1, fun q => absurd q (by decide)⟩) (h9 := h.h9) (hz := by omega) (hzf := h1) (hg := h3) (hgc := fun q => absurd q (by decide)) (hmm := h2) (hch := fun q => absurd q (by decide)))
/-- a car comes: counted says that there is room -/
theorem MI.arrive {b c0 : Nat} {f' : Nat → Int32} {e0 e1 : Nat} (h : MI nc n z g zf sp mm w p f d y oc ob mv) (hb : b < 2) (hyb : y b = (-1)) (h7 : nc < 700) (hc0 : c0 < 96) (he : n + z + e0 + e1 ≤ 23) (h0 : mP w y oc n z g 0 → 1 ≤ e0) (h1 : mP w y oc n z g 1 → 1 ≤ e1)
    (hl : z = 1 → zf = 1 → ∀ q : Nat, q < 96 → p g = nI q → ¬ c0 / 24 = q / 24) (hf : ∀ i, mC (f' i)) (hff : ∀ i, ¬ i / 24 = c0 / 24 → f' i = f i) : MI (nc + 1) n z g zf sp mm (upd w nc 1) (upd p nc (nI c0)) f' d (upd y b (nI nc)) oc ob mv := by
  have hm : ∀ j : Nat, j < 700 → ¬ ((-1) : Int32) = nI j := fun j hj e => pt_nIm (k := j) (by omega) e.symm
  have inj : ∀ i j : Nat, i < 701 → j < 701 → nI i = nI j → i = j := fun i j hi hj e => (nI_eq (by omega) (by omega)).mp e
  have hyl : ∀ i j : Nat, j < 700 → y i = nI j → j < nc := fun i j hj e => by
    rcases h.hy i with q | ⟨j', q1, q2⟩
    · rw [q] at e; exact absurd e (hm j hj)
    · rw [q2] at e; cases inj j' j (by omega) (by omega) e; exact q1
  have hpg : z = 1 → upd p nc (nI c0) g = p g := fun q => pk_un (by have := h.hgc q; omega)
  have key : ∀ b', b' < 2 → b' ≠ b → mK (upd w nc 1) (upd y b (nI nc)) d b' → mP w y oc n z g b' := fun b' hb' hne ⟨j, j1, j2, j3, j4⟩ => by
    rw [pk_un hne] at j2
    have := hyl b' j j1 j2
    rw [pk_un (by omega)] at j3
    exact ⟨j, j1, j2, j3, h.h8 b' j hb' j1 j2 j3 j4⟩
  refine (MI.mk (hnc := by omega) (hp := fun i => s_upd h.hp ⟨c0, hc0, rfl⟩ i) (hf := hf) ?_ (hob := h.hob) ?_ ?_ ?_ ?_ (hz := h.hz) (hzf := h.hzf) (hg := h.hg) (hgc := fun q => by have := h.hgc q; omega) (hmm := h.hmm) ?_)
  · refine fun i => s_upd (P := mB (nc + 1)) ?_ (Or.inr ⟨nc, by omega, rfl⟩) i
    intro i
    rcases h.hy i with q | ⟨j, q1, q2⟩
    · exact Or.inl q
    · exact Or.inr ⟨j, by omega, q2⟩
  · intro k hk
    obtain ⟨j, q1, q2⟩ := h.hoc k hk
    exact ⟨j, by omega, q2⟩
  · rcases (show b = 0 ∨ b = 1 by omega) with rfl | rfl
    · exact ⟨1, e1, by
        have : ¬ mP w y oc n z g 0 ∨ 1 ≤ e0 := by
          by_cases q : mP w y oc n z g 0
          · exact Or.inr (h0 q)
          · exact Or.inl q
        omega, fun _ => Nat.le_refl _, fun q => h1 (key 1 (by omega) (by omega) q)⟩
    · exact ⟨e0, 1, by omega, fun q => h0 (key 0 (by omega) (by omega) q), fun _ => Nat.le_refl _⟩
  · intro b' j hb' hj j2 j3 j4
    by_cases q : b' = b
    · rw [q, pk_us] at j2
      cases inj nc j (by omega) (by omega) j2
      refine ⟨fun k hk e => ?_, fun z1 e => ?_⟩
      · obtain ⟨j', q1, q2⟩ := h.hoc k hk
        rw [q2] at e
        have := inj j' nc (by omega) (by omega) e
        omega
      · have := h.hgc z1; omega
    · rw [pk_un q] at j2
      have := hyl b' j hj j2
      rw [pk_un (by omega)] at j3
      exact h.h8 b' j hb' hj j2 j3 j4
  · intro j hj j1 j2 j3
    by_cases q : (0 : Nat) = b
    · rw [← q, pk_us] at j1
      rw [pk_un (by omega)] at j2
      cases inj nc j (by omega) (by omega) j1
      have := hyl 1 nc hj j2
      omega
    · rw [pk_un q] at j1
      by_cases q1 : (1 : Nat) = b
      · rw [← q1, pk_us] at j2
        cases inj nc j (by omega) (by omega) j2
        have := hyl 0 nc hj j1
        omega
      · omega
  · intro z1 f1 m q hm3 hmm hq hpq
    rw [hpg z1] at hpq
    exact mch.congr _ _ f f' (fun i hi => (hff i (by rw [hi]; exact fun e => hl z1 f1 q hq hpq e.symm)).symm) (h.hch z1 f1 m q hm3 hmm hq hpq)
/-- an order more, of a car that did not come just now -/
theorem MI.leave {k : Nat} {x : Int32} {e0 e1 : Nat} (h : MI nc n z g zf sp mm w p f d y oc ob mv) (hk : k < nc) (hw : ¬ w k = 1) (hx : sB x) (he : n + z + e0 + e1 ≤ 23) (h0 : mP w y oc n z g 0 → 1 ≤ e0) (h1 : mP w y oc n z g 1 → 1 ≤ e1) : MI nc (n + 1) z g zf sp mm w p f d y (upd oc n (nI k)) (upd ob n x) mv := by
  have h7 := h.hnc
  refine (MI.mk (hnc := h.hnc) (hp := h.hp) (hf := h.hf) (hy := h.hy) (hob := fun i => s_upd h.hob hx i) ?_ (hr := ⟨e0, e1, by omega, fun ⟨j, j1, j2, j3, j4⟩ => h0 ⟨j, j1, j2, j3, h.h8 0 j (by omega) j1 j2 j3 j4⟩, fun ⟨j, j1, j2, j3, j4⟩ => h1 ⟨j, j1, j2, j3, h.h8 1 j (by omega) j1 j2 j3 j4⟩⟩) ?_ (h9 := h.h9) (hz := h.hz) (hzf := h.hzf) (hg := h.hg) (hgc := h.hgc) (hmm := h.hmm) (hch := h.hch))
  · intro i hi
    by_cases q : i = n
    · rw [q, pk_us]; exact ⟨k, hk, rfl⟩
    · rw [pk_un q]; exact h.hoc i (by omega)
  · intro b j hb hj j1 j2 j3
    refine ⟨fun i hi e => ?_, (h.h8 b j hb hj j1 j2 j3).2⟩
    by_cases q : i = n
    · rw [q, pk_us] at e
      exact hw (by rw [(nI_eq (by omega) (by omega)).mp e]; exact j2)
    · rw [pk_un q] at e
      exact (h.h8 b j hb hj j1 j2 j3).1 i (by omega) e
/-- a door got shut before a car that came: its order is made -/
theorem MI.stored {b j : Nat} {x : Int32} (h : MI nc n z g zf sp mm w p f d y oc ob mv) (hb : b < 2) (hj : j < nc) (hyb : y b = nI j) (hw : w j = 1) (hd : ¬ d b = 0) (hx : sB x) : MI nc (n + 1) z g zf sp mm w p f (upd d b 0) y (upd oc n (nI j)) (upd ob n x) mv ∧ n < 24 := by
  have h7 := h.hnc
  obtain ⟨r0, r1, a1, a2, a3⟩ := h.hr
  have inj : ∀ i j : Nat, i < 701 → j < 701 → nI i = nI j → i = j := fun i j hi hj e => (nI_eq (by omega) (by omega)).mp e
  have hdn : ∀ b', ¬ upd d b 0 b' = 0 → b' ≠ b ∧ ¬ d b' = 0 := fun b' e => by
    by_cases q : b' = b
    · rw [q, pk_us] at e; exact absurd rfl e
    · rw [pk_un q] at e; exact ⟨q, e⟩
  have hkb : mK w y d b := ⟨j, by omega, hyb, hw, hd⟩
  have hR : ∃ r0 r1 : Nat, n + 1 + z + r0 + r1 ≤ 24 ∧ (mK w y (upd d b 0) 0 → 1 ≤ r0) ∧ (mK w y (upd d b 0) 1 → 1 ≤ r1) := by
    rcases (show b = 0 ∨ b = 1 by omega) with rfl | rfl
    · have := a2 hkb
      exact ⟨0, r1, by omega, fun ⟨j', _, _, _, j4⟩ => absurd rfl (hdn 0 j4).1, fun ⟨j', j1, j2, j3, j4⟩ => a3 ⟨j', j1, j2, j3, (hdn 1 j4).2⟩⟩
    · have := a3 hkb
      exact ⟨r0, 0, by omega, fun ⟨j', j1, j2, j3, j4⟩ => a2 ⟨j', j1, j2, j3, (hdn 0 j4).2⟩, fun ⟨j', _, _, _, j4⟩ => absurd rfl (hdn 1 j4).1⟩
  refine ⟨(MI.mk (hnc := h.hnc) (hp := h.hp) (hf := h.hf) (hy := h.hy) (hob := fun i => s_upd h.hob hx i) ?_ (hr := hR) ?_ (h9 := h.h9) (hz := h.hz) (hzf := h.hzf) (hg := h.hg) (hgc := h.hgc) (hmm := h.hmm) (hch := h.hch)), ?_⟩
  · intro i hi
    by_cases q : i = n
    · rw [q, pk_us]; exact ⟨j, hj, rfl⟩
    · rw [pk_un q]; exact h.hoc i (by omega)
  · intro b' j' hb' hj' j1 j2 j3
    obtain ⟨ne, j3⟩ := hdn b' j3
    refine ⟨fun i hi e => ?_, (h.h8 b' j' hb' hj' j1 j2 j3).2⟩
    by_cases q : i = n
    · rw [q, pk_us] at e
      cases inj j j' (by omega) (by omega) e
      rcases (show b = 0 ∧ b' = 1 ∨ b = 1 ∧ b' = 0 by omega) with ⟨rfl, rfl⟩ | ⟨rfl, rfl⟩
      · exact h.h9 j (by omega) hyb j1 hw
      · exact h.h9 j (by omega) j1 hyb hw
    · rw [pk_un q] at e
      exact (h.h8 b' j' hb' hj' j1 j2 j3).1 i (by omega) e
  · obtain ⟨q0, q1, q2, _⟩ := hR
    omega
/-- an order begins -/
theorem MI.begin {k : Nat} {oc' ob' mv' : Nat → Int32} {g' zf' : Nat} {mm' : Int32} (h : MI nc n 0 g zf sp mm w p f d y oc ob mv) (hk : k < n) (hg : g' < nc) (hgo : oc k = nI g') (ho : ∀ i, i < n - 1 → ∃ i', i' < n ∧ oc' i = oc i') (hb : ∀ i, sB (ob' i)) (hz : zf' ≤ 1) (hm : mM mm')
    (hc : zf' = 1 → ∀ m q : Nat, m ≤ 3 → mm' = nI m → q < 96 → p g' = nI q → mch mv' (q / 24) 0 m f) : MI nc (n - 1) 1 g' zf' 0 mm' w p f d y oc' ob' mv' := by
  have h7 := h.hnc
  obtain ⟨r0, r1, a1, a2⟩ := h.hr
  refine (MI.mk (hnc := h.hnc) (hp := h.hp) (hf := h.hf) (hy := h.hy) (hob := hb) ?_ (hr := ⟨r0, r1, by omega, a2⟩) ?_ (h9 := h.h9) (hz := Nat.le_refl _) (hzf := hz) (hg := by omega) (hgc := fun _ => hg) (hmm := hm) (hch := fun _ q1 m q q2 q3 q4 q5 => hc q1 m q q2 q3 q4 q5))
  · intro i hi
    obtain ⟨i', q1, q2⟩ := ho i hi
    rw [q2]; exact h.hoc i' q1
  · intro b j hb hj j1 j2 j3
    obtain ⟨q1, _⟩ := h.h8 b j hb hj j1 j2 j3
    refine ⟨fun i hi e => ?_, fun _ e => ?_⟩
    · obtain ⟨i', q2, q3⟩ := ho i hi
      rw [q3] at e; exact q1 i' q2 e
    · exact q1 k hk (by rw [hgo, e])
end MIs
theorem mP_n {w y oc : Nat → Int32} {n z g b : Nat} (h : (-1) = y b) : ¬ mP w y oc n z g b := fun ⟨j, h1, h2, _⟩ => pt_nIm (k := j) (by omega) (h.trans h2).symm
theorem mP_w {w y oc : Nat → Int32} {n z g b j : Nat} (h : nI j = y b) (hj : j < 700) (hw : ¬ w j = 1) : ¬ mP w y oc n z g b := fun ⟨i, h1, h2, h3, _⟩ => hw (by rw [(nI_eq (by omega) (by omega)).mp (h.trans h2)]; exact h3)
theorem mP_o {w y oc : Nat → Int32} {n z g b j k : Nat} (h : nI j = y b) (hk : k < n) (ho : oc k = nI j) : ¬ mP w y oc n z g b := fun ⟨_, _, h2, _, h4, _⟩ => h4 k hk (ho.trans (h.trans h2))
theorem mP_g {w y oc : Nat → Int32} {n z g b j : Nat} (h : nI j = y b) (hj : j < 700) (hz : z = 1) (hg : g = j) : ¬ mP w y oc n z g b := fun ⟨i, h1, h2, _, _, h5⟩ => h5 hz (by rw [hg, (nI_eq (by omega) (by omega)).mp (h.trans h2)])
set_option maxHeartbeats 4000000 in
set_option maxRecDepth 100000 in
theorem m_thrown (l : Launch) (dC : Nat → ClassId) (dI : Nat → Nat → Nat) (mo m4 m5 m6 m7 m8 m9 m10 m11 m12 m16 m17 m18 m27 m29 m30 m31 : Nat) (th tm pw rn tg lf mm fo : Int32) (sr nc no bz dg db df sp : Nat) : Met l yX8_thrown wsX8_thrown ({ frames := 0, cells := 0, slots := 0, locals := 0 }) (va_Pc [.ref mo] (pt_B (dC, dI) [(mo, .inr (6, [.int th, .int tm, .int (nI sr), .int (nI nc), .ref m4, .ref m5, .ref m6, .ref m7, .ref m8, .ref m9, .ref m10, .ref m11, .ref m12, .int pw, .int rn, .int (nI no), .ref m16, .ref m17, .ref m18, .int (nI bz), .int (nI dg), .int (nI db), .int (nI df), .int (nI sp), .int tg, .int lf, .int mm, .ref m27, .int fo, .ref m29, .ref m30, .ref m31]))] [])) (vp_Si (fun r : Int32 => r = th)) 0 0 (fun _ => False) := by
  refine Met.ofW (cc := cX8_thrown) (maxL := 1) (ret := (some .int)) (by decide) rfl ?_
  intro p e s m args below meth c s₁ B hml hv
  obtain ⟨rfl, hP, hK, hN⟩ := hv
  have hx := B.exec
  have hb := B.bytes
  have hr := B.returns
  have hts := atoms_spec (ws := wsX8_thrown) B.pre
  have hown : s.vm.findClass RX8 = some m.cls := findClass_of_methodNamed B.named
  have hlocks := B.notSynchronized
  have iX8 : ∀ w ∈ wsX80, w ∈ wsX8_thrown := by decide +kernel
  have hP : va_P (dC, dI) vwCl [(mo, .inr (6, [.int th, .int tm, .int (nI sr), .int (nI nc), .ref m4, .ref m5, .ref m6, .ref m7, .ref m8, .ref m9, .ref m10, .ref m11, .ref m12, .int pw, .int rn, .int (nI no), .ref m16, .ref m17, .ref m18, .int (nI bz), .int (nI dg), .int (nI db), .int (nI df), .int (nI sp), .int tg, .int lf, .int mm, .ref m27, .int fo, .ref m29, .ref m30, .ref m31]))] s.heap := hP
  have hK : va_K (dC, dI) vwCl [] s := hK
  have hl := lv_entry ([.ref mo]) (n := 1) (Nat.le_of_ble_eq_true rfl)
  rw [lg_entry_eq]
  generalize (lg_sl ([.ref mo]) ++ List.replicate (1 - (lg_sl ([.ref mo])).length) Slot.unset).toArray = ls at hl ⊢
  have hl : lv_has ls 1 [(0, .ref mo)] := hl
  refine lv_aload_n hx hb dX8_thrown_0 rfl (lv_at hl 0 rfl) ?_
  refine va_get (D := (dC, dI)) (ci := 6) (v := .int th) (C := RX8) (T := TX8) (N := 32) hx hb hts iX8 hown hK hP 0 rfl rfl 0 (by decide) (hts (.fieldLink RX8 63 "ParkTowerModel" "thrown" "I") (by decide +kernel)) (fun _ h9 => h9) rfl dX8_thrown_1 ?_
  exact W.iret (v := th) hx hb hr (fun t ht hW => ⟨th, rfl, rfl, ht⟩) (fun q h => by cases h) dX8_thrown_4
set_option maxHeartbeats 4000000 in
set_option maxRecDepth 100000 in
theorem m_in (l : Launch) (dC : Nat → ClassId) (dI : Nat → Nat → Nat) (x lo hi : Int32) : Met l yX8_in wsX8_in ({ frames := 0, cells := 0, slots := 0, locals := 0 }) (va_Pc [.int x, .int lo, .int hi] (pt_B (dC, dI) [] [])) (vp_Si (fun r : Int32 => r = (if ¬ x < lo ∧ ¬ hi < x then 1 else 0))) 0 0 (fun _ => False) := by
  refine Met.ofW (cc := cX8_in) (maxL := 3) (ret := (some .boolean)) (by decide) rfl ?_
  intro p e s m args below meth c s₁ B hml hv
  obtain ⟨rfl, hP, hK, hN⟩ := hv
  have hx := B.exec
  have hb := B.bytes
  have hr := B.returns
  have hts := atoms_spec (ws := wsX8_in) B.pre
  have hown : s.vm.findClass RX8 = some m.cls := findClass_of_methodNamed B.named
  have hlocks := B.notSynchronized
  have hP : va_P (dC, dI) vwCl [] s.heap := hP
  have hK : va_K (dC, dI) vwCl [] s := hK
  have hl := lv_entry ([.int x, .int lo, .int hi]) (n := 3) (Nat.le_of_ble_eq_true rfl)
  rw [lg_entry_eq]
  generalize (lg_sl ([.int x, .int lo, .int hi]) ++ List.replicate (3 - (lg_sl ([.int x, .int lo, .int hi])).length) Slot.unset).toArray = ls at hl ⊢
  have hl : lv_has ls 3 [(0, .int x), (1, .int lo), (2, .int hi)] := hl
  refine lv_iload_n hx hb dX8_in_0 rfl (lv_at hl 0 rfl) ?_
  refine lv_iload_n hx hb dX8_in_1 rfl (lv_at hl 1 rfl) ?_
  refine lv_icmp_lt (tgt := 14) hx hb dX8_in_2 (by decide) (fun c_1 => ?_) (fun c_1 => ?_)
  · have c_1 : (x < lo) := c_1
    refine lv_iconst (v := 0) hx hb dX8_in_14 (by decide) ?_
    exact W.zret (v := 0) (ty := .boolean) hx hb hr rfl (fun t ht hW => ⟨0, rfl, (if_neg (fun q => by first | exact absurd (by assumption) q.1 | exact absurd (by assumption) q.2)).symm, ht⟩) (fun q h => by cases h) dX8_in_15
  · have c_1 : ¬ (x < lo) := c_1
    refine lv_iload_n hx hb dX8_in_5 rfl (lv_at hl 0 rfl) ?_
    refine lv_iload_n hx hb dX8_in_6 rfl (lv_at hl 2 rfl) ?_
    refine lv_icmp_gt (tgt := 14) hx hb dX8_in_7 (by decide) (fun c_2 => ?_) (fun c_2 => ?_)
    · have c_2 : (hi < x) := c_2
      refine lv_iconst (v := 0) hx hb dX8_in_14 (by decide) ?_
      exact W.zret (v := 0) (ty := .boolean) hx hb hr rfl (fun t ht hW => ⟨0, rfl, (if_neg (fun q => by first | exact absurd (by assumption) q.1 | exact absurd (by assumption) q.2)).symm, ht⟩) (fun q h => by cases h) dX8_in_15
    · have c_2 : ¬ (hi < x) := c_2
      refine lv_iconst (v := 1) hx hb dX8_in_10 (by decide) ?_
      refine lv_goto (tgt := 15) hx hb dX8_in_11 (by decide) ?_
      exact W.zret (v := 1) (ty := .boolean) hx hb hr rfl (fun t ht hW => ⟨1, rfl, (if_pos ⟨by assumption, by assumption⟩).symm, ht⟩) (fun q h => by cases h) dX8_in_15
set_option maxHeartbeats 4000000 in
set_option maxRecDepth 100000 in
theorem m_level (l : Launch) (dC : Nat → ClassId) (dI : Nat → Nat → Nat) (k : Nat) (hk : k < 96) : Met l yX8_level wsX8_level ({ frames := 0, cells := 0, slots := 0, locals := 0 }) (va_Pc [.int (nI k)] (pt_B (dC, dI) [] [])) (vp_Si (fun r : Int32 => r = nI (k / 24))) 0 0 (fun _ => False) := by
  refine Met.ofW (cc := cX8_level) (maxL := 1) (ret := (some .int)) (by decide) rfl ?_
  intro p e s m args below meth c s₁ B hml hv
  obtain ⟨rfl, hP, hK, hN⟩ := hv
  have hx := B.exec
  have hb := B.bytes
  have hr := B.returns
  have hts := atoms_spec (ws := wsX8_level) B.pre
  have hown : s.vm.findClass RX8 = some m.cls := findClass_of_methodNamed B.named
  have hlocks := B.notSynchronized
  have hP : va_P (dC, dI) vwCl [] s.heap := hP
  have hK : va_K (dC, dI) vwCl [] s := hK
  have hl := lv_entry ([.int (nI k)]) (n := 1) (Nat.le_of_ble_eq_true rfl)
  rw [lg_entry_eq]
  generalize (lg_sl ([.int (nI k)]) ++ List.replicate (1 - (lg_sl ([.int (nI k)])).length) Slot.unset).toArray = ls at hl ⊢
  have hl : lv_has ls 1 [(0, .int (nI k))] := hl
  refine lv_iload_n hx hb dX8_level_0 rfl (lv_at hl 0 rfl) ?_
  refine lv_bipush (v := 24) hx hb dX8_level_1 (by decide) ?_
  refine lv_idiv hx hb dX8_level_3 (by decide) ?_
  refine pt_topi (nI (k / 24)) (pk_div (a := k) (d := 24) (by omega) (by omega) (by omega)) ?_
  exact W.iret (v := nI (k / 24)) hx hb hr (fun t ht hW => ⟨nI (k / 24), rfl, rfl, ht⟩) (fun q h => by cases h) dX8_level_4
set_option maxHeartbeats 4000000 in
set_option maxRecDepth 100000 in
theorem m_depth (l : Launch) (dC : Nat → ClassId) (dI : Nat → Nat → Nat) (k : Nat) (hk : k < 96) : Met l yX8_depth wsX8_depth ({ frames := 0, cells := 0, slots := 0, locals := 0 }) (va_Pc [.int (nI k)] (pt_B (dC, dI) [] [])) (vp_Si (fun r : Int32 => r = nI (k % 2))) 0 0 (fun _ => False) := by
  refine Met.ofW (cc := cX8_depth) (maxL := 1) (ret := (some .int)) (by decide) rfl ?_
  intro p e s m args below meth c s₁ B hml hv
  obtain ⟨rfl, hP, hK, hN⟩ := hv
  have hx := B.exec
  have hb := B.bytes
  have hr := B.returns
  have hts := atoms_spec (ws := wsX8_depth) B.pre
  have hown : s.vm.findClass RX8 = some m.cls := findClass_of_methodNamed B.named
  have hlocks := B.notSynchronized
  have hP : va_P (dC, dI) vwCl [] s.heap := hP
  have hK : va_K (dC, dI) vwCl [] s := hK
  have hl := lv_entry ([.int (nI k)]) (n := 1) (Nat.le_of_ble_eq_true rfl)
  rw [lg_entry_eq]
  generalize (lg_sl ([.int (nI k)]) ++ List.replicate (1 - (lg_sl ([.int (nI k)])).length) Slot.unset).toArray = ls at hl ⊢
  have hl : lv_has ls 1 [(0, .int (nI k))] := hl
  refine lv_iload_n hx hb dX8_depth_0 rfl (lv_at hl 0 rfl) ?_
  refine lv_iconst (v := 2) hx hb dX8_depth_1 (by decide) ?_
  refine lv_irem hx hb dX8_depth_2 (by decide) ?_
  refine pt_topi (nI (k % 2)) (pk_rem (a := k) (d := 2) (by omega) (by omega) (by omega)) ?_
  exact W.iret (v := nI (k % 2)) hx hb hr (fun t ht hW => ⟨nI (k % 2), rfl, rfl, ht⟩) (fun q h => by cases h) dX8_depth_3
set_option maxHeartbeats 4000000 in
set_option maxRecDepth 100000 in
theorem m_depthX (l : Launch) (dC : Nat → ClassId) (dI : Nat → Nat → Nat) (x : Int32) : Met l yX8_depth wsX8_depth ({ frames := 0, cells := 0, slots := 0, locals := 0 }) (va_Pc [.int x] (pt_B (dC, dI) [] [])) (vp_Si (fun r : Int32 => True)) 0 0 (fun _ => False) := by
  refine Met.ofW (cc := cX8_depth) (maxL := 1) (ret := (some .int)) (by decide) rfl ?_
  intro p e s m args below meth c s₁ B hml hv
  obtain ⟨rfl, hP, hK, hN⟩ := hv
  have hx := B.exec
  have hb := B.bytes
  have hr := B.returns
  have hts := atoms_spec (ws := wsX8_depth) B.pre
  have hown : s.vm.findClass RX8 = some m.cls := findClass_of_methodNamed B.named
  have hlocks := B.notSynchronized
  have hP : va_P (dC, dI) vwCl [] s.heap := hP
  have hK : va_K (dC, dI) vwCl [] s := hK
  have hl := lv_entry ([.int x]) (n := 1) (Nat.le_of_ble_eq_true rfl)
  rw [lg_entry_eq]
  generalize (lg_sl ([.int x]) ++ List.replicate (1 - (lg_sl ([.int x])).length) Slot.unset).toArray = ls at hl ⊢
  have hl : lv_has ls 1 [(0, .int x)] := hl
  refine lv_iload_n hx hb dX8_depth_0 rfl (lv_at hl 0 rfl) ?_
  refine lv_iconst (v := 2) hx hb dX8_depth_1 (by decide) ?_
  refine lv_irem hx hb dX8_depth_2 (by decide) ?_
  refine lv_topi (fun z_1 ez_1 => ?_)
  exact W.iret (v := z_1) hx hb hr (fun t ht hW => ⟨z_1, rfl, trivial, ht⟩) (fun q h => by cases h) dX8_depth_3
set_option maxHeartbeats 4000000 in
set_option maxRecDepth 100000 in
theorem m_reach (l : Launch) (dC : Nat → ClassId) (dI : Nat → Nat → Nat) (x : Int32) : Met l yX8_reach wsX8_reach ({ frames := 1, cells := 0, slots := 0, locals := 20 }) (va_Pc [.int x] (pt_B (dC, dI) [] [])) (vp_Si (fun r : Int32 => True)) 0 0 (fun _ => False) := by
  refine Met.ofW (cc := cX8_reach) (maxL := 1) (ret := (some .int)) (by decide) rfl ?_
  intro p e s m args below meth c s₁ B hml hv
  obtain ⟨rfl, hP, hK, hN⟩ := hv
  have hx := B.exec
  have hb := B.bytes
  have hr := B.returns
  have hts := atoms_spec (ws := wsX8_reach) B.pre
  have hown : s.vm.findClass RX8 = some m.cls := findClass_of_methodNamed B.named
  have hlocks := B.notSynchronized
  have hP : va_P (dC, dI) vwCl [] s.heap := hP
  have hK : va_K (dC, dI) vwCl [] s := hK
  have hl := lv_entry ([.int x]) (n := 1) (Nat.le_of_ble_eq_true rfl)
  rw [lg_entry_eq]
  generalize (lg_sl ([.int x]) ++ List.replicate (1 - (lg_sl ([.int x])).length) Slot.unset).toArray = ls at hl ⊢
  have hl : lv_has ls 1 [(0, .int x)] := hl
  refine lv_iconst (v := 2) hx hb dX8_reach_0 (by decide) ?_
  refine lv_iload_n hx hb dX8_reach_1 rfl (lv_at hl 0 rfl) ?_
  refine lv_bipush (v := 12) hx hb dX8_reach_2 (by decide) ?_
  refine lv_irem hx hb dX8_reach_4 (by decide) ?_
  refine lv_topi (fun z_1 ez_1 => ?_)
  refine lv_iconst (v := 2) hx hb dX8_reach_5 (by decide) ?_
  refine lv_idiv hx hb dX8_reach_6 (by decide) ?_
  refine lv_topi (fun z_2 ez_2 => ?_)
  refine lv_iconst (v := 1) hx hb dX8_reach_7 (by decide) ?_
  refine lv_iadd hx hb dX8_reach_8 ?_
  refine lv_topi (fun z_3 ez_3 => ?_)
  refine lv_imul hx hb dX8_reach_9 ?_
  refine lv_topi (fun z_4 ez_4 => ?_)
  refine lv_iconst (v := 2) hx hb dX8_reach_10 (by decide) ?_
  refine lv_iadd hx hb dX8_reach_11 ?_
  refine lv_topi (fun z_5 ez_5 => ?_)
  refine lv_iload_n hx hb dX8_reach_12 rfl (lv_at hl 0 rfl) ?_
  refine pt_cSi (va_runS (As := [.int x]) (rest := [.int z_5]) ⟨hx, hb, hml, hown, hts⟩ (m_depthX l dC dI x) (cwS 1 hts gX8_reach_X8_depth rfl rfl rfl (by decide +kernel) ⟨Nat.le_of_ble_eq_true rfl, Nat.le_of_ble_eq_true rfl⟩) ⟨pt_blind, pt_pre (w := []) (tys := []) (hP.sub [] rfl) (hK.sub [] rfl) hN⟩ rfl rfl hl.1 rfl (lv_room (Nat.le_of_ble_eq_true rfl)) dX8_reach_13 ⟨Nat.le_of_ble_eq_true rfl, Nat.le_of_ble_eq_true rfl⟩) (fun r_6 hr_6 => ?_)
  refine lv_iadd hx hb dX8_reach_16 ?_
  refine lv_topi (fun z_7 ez_7 => ?_)
  exact W.iret (v := z_7) hx hb hr (fun t ht hW => ⟨z_7, rfl, trivial, ht⟩) (fun q h => by cases h) dX8_reach_17
set_option maxHeartbeats 4000000 in
set_option maxRecDepth 100000 in
theorem m_away (l : Launch) (dC : Nat → ClassId) (dI : Nat → Nat → Nat) (x y : Int32) : Met l yX8_away wsX8_away ({ frames := 0, cells := 0, slots := 0, locals := 0 }) (va_Pc [.int x, .int y] (pt_B (dC, dI) [] [])) (vp_Si (fun r : Int32 => True)) 0 0 (fun _ => False) := by
  refine Met.ofW (cc := cX8_away) (maxL := 2) (ret := (some .int)) (by decide) rfl ?_
  intro p e s m args below meth c s₁ B hml hv
  obtain ⟨rfl, hP, hK, hN⟩ := hv
  have hx := B.exec
  have hb := B.bytes
  have hr := B.returns
  have hts := atoms_spec (ws := wsX8_away) B.pre
  have hown : s.vm.findClass RX8 = some m.cls := findClass_of_methodNamed B.named
  have hlocks := B.notSynchronized
  have hP : va_P (dC, dI) vwCl [] s.heap := hP
  have hK : va_K (dC, dI) vwCl [] s := hK
  have hl := lv_entry ([.int x, .int y]) (n := 2) (Nat.le_of_ble_eq_true rfl)
  rw [lg_entry_eq]
  generalize (lg_sl ([.int x, .int y]) ++ List.replicate (2 - (lg_sl ([.int x, .int y])).length) Slot.unset).toArray = ls at hl ⊢
  have hl : lv_has ls 2 [(0, .int x), (1, .int y)] := hl
  refine lv_iconst (v := 3) hx hb dX8_away_0 (by decide) ?_
  refine lv_iload_n hx hb dX8_away_1 rfl (lv_at hl 0 rfl) ?_
  refine lv_iload_n hx hb dX8_away_2 rfl (lv_at hl 1 rfl) ?_
  refine lv_icmp_le (tgt := 12) hx hb dX8_away_3 (by decide) (fun c_1 => ?_) (fun c_1 => ?_)
  · have c_1 : (x ≤ y) := c_1
    refine lv_iload_n hx hb dX8_away_12 rfl (lv_at hl 1 rfl) ?_
    refine lv_iload_n hx hb dX8_away_13 rfl (lv_at hl 0 rfl) ?_
    refine lv_isub hx hb dX8_away_14 ?_
    refine lv_topi (fun z_2 ez_2 => ?_)
    refine lv_imul hx hb dX8_away_15 ?_
    refine lv_topi (fun z_3 ez_3 => ?_)
    exact W.iret (v := z_3) hx hb hr (fun t ht hW => ⟨z_3, rfl, trivial, ht⟩) (fun q h => by cases h) dX8_away_16
  · have c_1 : ¬ (x ≤ y) := c_1
    refine lv_iload_n hx hb dX8_away_6 rfl (lv_at hl 0 rfl) ?_
    refine lv_iload_n hx hb dX8_away_7 rfl (lv_at hl 1 rfl) ?_
    refine lv_isub hx hb dX8_away_8 ?_
    refine lv_topi (fun z_4 ez_4 => ?_)
    refine lv_goto (tgt := 15) hx hb dX8_away_9 (by decide) ?_
    refine lv_imul hx hb dX8_away_15 ?_
    refine lv_topi (fun z_5 ez_5 => ?_)
    exact W.iret (v := z_5) hx hb hr (fun t ht hW => ⟨z_5, rfl, trivial, ht⟩) (fun q h => by cases h) dX8_away_16
set_option maxHeartbeats 4000000 in
set_option maxRecDepth 100000 in
theorem m_digit (l : Launch) (dC : Nat → ClassId) (dI : Nat → Nat → Nat) (x : Int32) : Met l yX8_digit wsX8_digit ({ frames := 0, cells := 0, slots := 0, locals := 0 }) (va_Pc [.int x] (pt_B (dC, dI) [] [])) (vp_Si (fun r : Int32 => True)) 0 0 (fun _ => False) := by
  refine Met.ofW (cc := cX8_digit) (maxL := 2) (ret := (some .int)) (by decide) rfl ?_
  intro p e s m args below meth c s₁ B hml hv
  obtain ⟨rfl, hP, hK, hN⟩ := hv
  have hx := B.exec
  have hb := B.bytes
  have hr := B.returns
  have hts := atoms_spec (ws := wsX8_digit) B.pre
  have hown : s.vm.findClass RX8 = some m.cls := findClass_of_methodNamed B.named
  have hlocks := B.notSynchronized
  have hP : va_P (dC, dI) vwCl [] s.heap := hP
  have hK : va_K (dC, dI) vwCl [] s := hK
  have hl := lv_entry ([.int x]) (n := 2) (Nat.le_of_ble_eq_true rfl)
  rw [lg_entry_eq]
  generalize (lg_sl ([.int x]) ++ List.replicate (2 - (lg_sl ([.int x])).length) Slot.unset).toArray = ls at hl ⊢
  have hl : lv_has ls 2 [(0, .int x)] := hl
  refine lv_iconst (v := 5) hx hb dX8_digit_0 (by decide) ?_
  refine lv_iload_n hx hb dX8_digit_1 rfl (lv_at hl 0 rfl) ?_
  refine lv_sipush (v := 1000) hx hb dX8_digit_2 (by decide) ?_
  refine lv_idiv hx hb dX8_digit_5 (by decide) ?_
  refine lv_topi (fun z_1 ez_1 => ?_)
  refine lv_imul hx hb dX8_digit_6 ?_
  refine lv_topi (fun z_2 ez_2 => ?_)
  refine lv_iconst (v := 4) hx hb dX8_digit_7 (by decide) ?_
  refine lv_iload_n hx hb dX8_digit_8 rfl (lv_at hl 0 rfl) ?_
  refine lv_bipush (v := 100) hx hb dX8_digit_9 (by decide) ?_
  refine lv_idiv hx hb dX8_digit_11 (by decide) ?_
  refine lv_topi (fun z_3 ez_3 => ?_)
  refine lv_bipush (v := 10) hx hb dX8_digit_12 (by decide) ?_
  refine lv_irem hx hb dX8_digit_14 (by decide) ?_
  refine lv_topi (fun z_4 ez_4 => ?_)
  refine lv_imul hx hb dX8_digit_15 ?_
  refine lv_topi (fun z_5 ez_5 => ?_)
  refine lv_iadd hx hb dX8_digit_16 ?_
  refine lv_topi (fun z_6 ez_6 => ?_)
  refine lv_iconst (v := 3) hx hb dX8_digit_17 (by decide) ?_
  refine lv_iload_n hx hb dX8_digit_18 rfl (lv_at hl 0 rfl) ?_
  refine lv_bipush (v := 10) hx hb dX8_digit_19 (by decide) ?_
  refine lv_idiv hx hb dX8_digit_21 (by decide) ?_
  refine lv_topi (fun z_7 ez_7 => ?_)
  refine lv_bipush (v := 10) hx hb dX8_digit_22 (by decide) ?_
  refine lv_irem hx hb dX8_digit_24 (by decide) ?_
  refine lv_topi (fun z_8 ez_8 => ?_)
  refine lv_imul hx hb dX8_digit_25 ?_
  refine lv_topi (fun z_9 ez_9 => ?_)
  refine lv_iadd hx hb dX8_digit_26 ?_
  refine lv_topi (fun z_10 ez_10 => ?_)
  refine lv_iconst (v := 2) hx hb dX8_digit_27 (by decide) ?_
  refine lv_iload_n hx hb dX8_digit_28 rfl (lv_at hl 0 rfl) ?_
  refine lv_bipush (v := 10) hx hb dX8_digit_29 (by decide) ?_
  refine lv_irem hx hb dX8_digit_31 (by decide) ?_
  refine lv_topi (fun z_11 ez_11 => ?_)
  refine lv_imul hx hb dX8_digit_32 ?_
  refine lv_topi (fun z_12 ez_12 => ?_)
  refine lv_iadd hx hb dX8_digit_33 ?_
  refine lv_topi (fun z_13 ez_13 => ?_)
  refine lv_istore_n (lv' := [(1, .int z_13), (0, .int x)]) hx hb dX8_digit_34 rfl hl (by decide) rfl (fun ls hl => ?_)
  refine lv_bipush (v := 11) hx hb dX8_digit_35 (by decide) ?_
  refine lv_iload_n hx hb dX8_digit_37 rfl (lv_at hl 0 rfl) ?_
  refine lv_bipush (v := 11) hx hb dX8_digit_38 (by decide) ?_
  refine lv_irem hx hb dX8_digit_40 (by decide) ?_
  refine lv_topi (fun z_14 ez_14 => ?_)
  refine lv_isub hx hb dX8_digit_41 ?_
  refine lv_topi (fun z_15 ez_15 => ?_)
  refine lv_bipush (v := 11) hx hb dX8_digit_42 (by decide) ?_
  refine lv_irem hx hb dX8_digit_44 (by decide) ?_
  refine lv_topi (fun z_16 ez_16 => ?_)
  exact W.iret (v := z_16) hx hb hr (fun t ht hW => ⟨z_16, rfl, trivial, ht⟩) (fun q h => by cases h) dX8_digit_45
set_option maxHeartbeats 4000000 in
set_option maxRecDepth 100000 in
theorem m_fits (l : Launch) (dC : Nat → ClassId) (dI : Nat → Nat → Nat) (k : Nat) (x y v : Int32) (hk : k < 4) : Met l yX8_fits wsX8_fits ({ frames := 0, cells := 0, slots := 0, locals := 0 }) (va_Pc [.int (nI k), .int x, .int y, .int v] (pt_B (dC, dI) [] [])) (vp_Si (fun r : Int32 => r = 0 ∨ r = 1)) 0 0 (fun _ => False) := by
  refine Met.ofW (cc := cX8_fits) (maxL := 4) (ret := (some .boolean)) (by decide) rfl ?_
  intro p e s m args below meth c s₁ B hml hv
  obtain ⟨rfl, hP, hK, hN⟩ := hv
  have hx := B.exec
  have hb := B.bytes
  have hr := B.returns
  have hts := atoms_spec (ws := wsX8_fits) B.pre
  have hown : s.vm.findClass RX8 = some m.cls := findClass_of_methodNamed B.named
  have hlocks := B.notSynchronized
  have hP : va_P (dC, dI) vwCl [] s.heap := hP
  have hK : va_K (dC, dI) vwCl [] s := hK
  have hl := lv_entry ([.int (nI k), .int x, .int y, .int v]) (n := 4) (Nat.le_of_ble_eq_true rfl)
  rw [lg_entry_eq]
  generalize (lg_sl ([.int (nI k), .int x, .int y, .int v]) ++ List.replicate (4 - (lg_sl ([.int (nI k), .int x, .int y, .int v])).length) Slot.unset).toArray = ls at hl ⊢
  have hl : lv_has ls 4 [(0, .int (nI k)), (1, .int x), (2, .int y), (3, .int v)] := hl
  refine lv_iload_n hx hb dX8_fits_0 rfl (lv_at hl 1 rfl) ?_
  refine lv_sipush (v := 520) hx hb dX8_fits_1 (by decide) ?_
  refine lv_icmp_gt (tgt := 48) hx hb dX8_fits_4 (by decide) (fun c_1 => ?_) (fun c_1 => ?_)
  · have c_1 : (520 < x) := c_1
    refine lv_iconst (v := 0) hx hb dX8_fits_48 (by decide) ?_
    exact W.zret (v := 0) (ty := .boolean) hx hb hr rfl (fun t ht hW => ⟨0, rfl, Or.inl rfl, ht⟩) (fun q h => by cases h) dX8_fits_49
  · have c_1 : ¬ (520 < x) := c_1
    refine lv_iload_n hx hb dX8_fits_7 rfl (lv_at hl 2 rfl) ?_
    refine lv_iload_n hx hb dX8_fits_8 rfl (lv_at hl 0 rfl) ?_
    refine lv_iconst (v := 2) hx hb dX8_fits_9 (by decide) ?_
    refine lv_icmp_ge (tgt := 19) hx hb dX8_fits_10 (by decide) (fun c_2 => ?_) (fun c_2 => ?_)
    · have c_2 : 2 ≤ k := (nI_leI (a := 2) (b := k) (by omega) (by omega)).mp c_2
      refine lv_sipush (v := 210) hx hb dX8_fits_19 (by decide) ?_
      refine lv_icmp_gt (tgt := 48) hx hb dX8_fits_22 (by decide) (fun c_3 => ?_) (fun c_3 => ?_)
      · have c_3 : (210 < y) := c_3
        refine lv_iconst (v := 0) hx hb dX8_fits_48 (by decide) ?_
        exact W.zret (v := 0) (ty := .boolean) hx hb hr rfl (fun t ht hW => ⟨0, rfl, Or.inl rfl, ht⟩) (fun q h => by cases h) dX8_fits_49
      · have c_3 : ¬ (210 < y) := c_3
        refine lv_iload_n hx hb dX8_fits_25 rfl (lv_at hl 3 rfl) ?_
        refine lv_iload_n hx hb dX8_fits_26 rfl (lv_at hl 0 rfl) ?_
        refine lv_iconst (v := 2) hx hb dX8_fits_27 (by decide) ?_
        refine lv_irem hx hb dX8_fits_28 (by decide) ?_
        refine pt_topi (nI (k % 2)) (pk_rem (a := k) (d := 2) (by omega) (by omega) (by omega)) ?_
        refine lv_if_ne (tgt := 38) hx hb dX8_fits_29 (by decide) (fun c_4 => ?_) (fun c_4 => ?_)
        · have c_4 : ¬ (k % 2 = 0) := fun q_ => c_4 ((nI_eq (a := k % 2) (b := 0) (by omega) (by omega)).mpr q_)
          refine lv_sipush (v := 3000) hx hb dX8_fits_38 (by decide) ?_
          refine lv_icmp_gt (tgt := 48) hx hb dX8_fits_41 (by decide) (fun c_5 => ?_) (fun c_5 => ?_)
          · have c_5 : (3000 < v) := c_5
            refine lv_iconst (v := 0) hx hb dX8_fits_48 (by decide) ?_
            exact W.zret (v := 0) (ty := .boolean) hx hb hr rfl (fun t ht hW => ⟨0, rfl, Or.inl rfl, ht⟩) (fun q h => by cases h) dX8_fits_49
          · have c_5 : ¬ (3000 < v) := c_5
            refine lv_iconst (v := 1) hx hb dX8_fits_44 (by decide) ?_
            refine lv_goto (tgt := 49) hx hb dX8_fits_45 (by decide) ?_
            exact W.zret (v := 1) (ty := .boolean) hx hb hr rfl (fun t ht hW => ⟨1, rfl, Or.inr rfl, ht⟩) (fun q h => by cases h) dX8_fits_49
        · have c_4 : k % 2 = 0 := (nI_eq (a := k % 2) (b := 0) (by omega) (by omega)).mp c_4
          refine lv_sipush (v := 2000) hx hb dX8_fits_32 (by decide) ?_
          refine lv_goto (tgt := 41) hx hb dX8_fits_35 (by decide) ?_
          refine lv_icmp_gt (tgt := 48) hx hb dX8_fits_41 (by decide) (fun c_6 => ?_) (fun c_6 => ?_)
          · have c_6 : (2000 < v) := c_6
            refine lv_iconst (v := 0) hx hb dX8_fits_48 (by decide) ?_
            exact W.zret (v := 0) (ty := .boolean) hx hb hr rfl (fun t ht hW => ⟨0, rfl, Or.inl rfl, ht⟩) (fun q h => by cases h) dX8_fits_49
          · have c_6 : ¬ (2000 < v) := c_6
            refine lv_iconst (v := 1) hx hb dX8_fits_44 (by decide) ?_
            refine lv_goto (tgt := 49) hx hb dX8_fits_45 (by decide) ?_
            exact W.zret (v := 1) (ty := .boolean) hx hb hr rfl (fun t ht hW => ⟨1, rfl, Or.inr rfl, ht⟩) (fun q h => by cases h) dX8_fits_49
    · have c_2 : ¬ (2 ≤ k) := fun q_ => c_2 ((nI_leI (a := 2) (b := k) (by omega) (by omega)).mpr q_)
      refine lv_sipush (v := 160) hx hb dX8_fits_13 (by decide) ?_
      refine lv_goto (tgt := 22) hx hb dX8_fits_16 (by decide) ?_
      refine lv_icmp_gt (tgt := 48) hx hb dX8_fits_22 (by decide) (fun c_7 => ?_) (fun c_7 => ?_)
      · have c_7 : (160 < y) := c_7
        refine lv_iconst (v := 0) hx hb dX8_fits_48 (by decide) ?_
        exact W.zret (v := 0) (ty := .boolean) hx hb hr rfl (fun t ht hW => ⟨0, rfl, Or.inl rfl, ht⟩) (fun q h => by cases h) dX8_fits_49
      · have c_7 : ¬ (160 < y) := c_7
        refine lv_iload_n hx hb dX8_fits_25 rfl (lv_at hl 3 rfl) ?_
        refine lv_iload_n hx hb dX8_fits_26 rfl (lv_at hl 0 rfl) ?_
        refine lv_iconst (v := 2) hx hb dX8_fits_27 (by decide) ?_
        refine lv_irem hx hb dX8_fits_28 (by decide) ?_
        refine pt_topi (nI (k % 2)) (pk_rem (a := k) (d := 2) (by omega) (by omega) (by omega)) ?_
        refine lv_if_ne (tgt := 38) hx hb dX8_fits_29 (by decide) (fun c_8 => ?_) (fun c_8 => ?_)
        · have c_8 : ¬ (k % 2 = 0) := fun q_ => c_8 ((nI_eq (a := k % 2) (b := 0) (by omega) (by omega)).mpr q_)
          refine lv_sipush (v := 3000) hx hb dX8_fits_38 (by decide) ?_
          refine lv_icmp_gt (tgt := 48) hx hb dX8_fits_41 (by decide) (fun c_9 => ?_) (fun c_9 => ?_)
          · have c_9 : (3000 < v) := c_9
            refine lv_iconst (v := 0) hx hb dX8_fits_48 (by decide) ?_
            exact W.zret (v := 0) (ty := .boolean) hx hb hr rfl (fun t ht hW => ⟨0, rfl, Or.inl rfl, ht⟩) (fun q h => by cases h) dX8_fits_49
          · have c_9 : ¬ (3000 < v) := c_9
            refine lv_iconst (v := 1) hx hb dX8_fits_44 (by decide) ?_
            refine lv_goto (tgt := 49) hx hb dX8_fits_45 (by decide) ?_
            exact W.zret (v := 1) (ty := .boolean) hx hb hr rfl (fun t ht hW => ⟨1, rfl, Or.inr rfl, ht⟩) (fun q h => by cases h) dX8_fits_49
        · have c_8 : k % 2 = 0 := (nI_eq (a := k % 2) (b := 0) (by omega) (by omega)).mp c_8
          refine lv_sipush (v := 2000) hx hb dX8_fits_32 (by decide) ?_
          refine lv_goto (tgt := 41) hx hb dX8_fits_35 (by decide) ?_
          refine lv_icmp_gt (tgt := 48) hx hb dX8_fits_41 (by decide) (fun c_10 => ?_) (fun c_10 => ?_)
          · have c_10 : (2000 < v) := c_10
            refine lv_iconst (v := 0) hx hb dX8_fits_48 (by decide) ?_
            exact W.zret (v := 0) (ty := .boolean) hx hb hr rfl (fun t ht hW => ⟨0, rfl, Or.inl rfl, ht⟩) (fun q h => by cases h) dX8_fits_49
          · have c_10 : ¬ (2000 < v) := c_10
            refine lv_iconst (v := 1) hx hb dX8_fits_44 (by decide) ?_
            refine lv_goto (tgt := 49) hx hb dX8_fits_45 (by decide) ?_
            exact W.zret (v := 1) (ty := .boolean) hx hb hr rfl (fun t ht hW => ⟨1, rfl, Or.inr rfl, ht⟩) (fun q h => by cases h) dX8_fits_49
set_option maxHeartbeats 4000000 in
set_option maxRecDepth 100000 in
theorem m_isReached (l : Launch) (dC : Nat → ClassId) (dI : Nat → Nat → Nat) (mo m4 m5 m6 m7 m8 m9 m10 m11 m12 m16 m17 m18 m27 m29 m30 m31 : Nat) (th tm pw rn tg lf mm fo : Int32) (sr nc no bz dg db df sp : Nat) (y7 : ClassId) (f7 : Nat → Int32) (k : Nat) (hk : k < 96) : Met l yX8_isReached wsX8_isReached ({ frames := 1, cells := 0, slots := 0, locals := 20 }) (va_Pc [.ref mo, .int (nI k)] (pt_B (dC, dI) [(mo, .inr (6, [.int th, .int tm, .int (nI sr), .int (nI nc), .ref m4, .ref m5, .ref m6, .ref m7, .ref m8, .ref m9, .ref m10, .ref m11, .ref m12, .int pw, .int rn, .int (nI no), .ref m16, .ref m17, .ref m18, .int (nI bz), .int (nI dg), .int (nI db), .int (nI df), .int (nI sp), .int tg, .int lf, .int mm, .ref m27, .int fo, .ref m29, .ref m30, .ref m31])), (m7, .inl (y7, 96, .inl f7))] [(y7, .int)])) (vp_Si (fun r : Int32 => r = 0 ∨ r = 1)) 0 0 (fun _ => False) := by
  refine Met.ofW (cc := cX8_isReached) (maxL := 2) (ret := (some .boolean)) (by decide) rfl ?_
  intro p e s m args below meth c s₁ B hml hv
  obtain ⟨rfl, hP, hK, hN⟩ := hv
  have hx := B.exec
  have hb := B.bytes
  have hr := B.returns
  have hts := atoms_spec (ws := wsX8_isReached) B.pre
  have hown : s.vm.findClass RX8 = some m.cls := findClass_of_methodNamed B.named
  have hlocks := B.notSynchronized
  have iX8 : ∀ w ∈ wsX80, w ∈ wsX8_isReached := by decide +kernel
  have hP : va_P (dC, dI) vwCl [(mo, .inr (6, [.int th, .int tm, .int (nI sr), .int (nI nc), .ref m4, .ref m5, .ref m6, .ref m7, .ref m8, .ref m9, .ref m10, .ref m11, .ref m12, .int pw, .int rn, .int (nI no), .ref m16, .ref m17, .ref m18, .int (nI bz), .int (nI dg), .int (nI db), .int (nI df), .int (nI sp), .int tg, .int lf, .int mm, .ref m27, .int fo, .ref m29, .ref m30, .ref m31])), (m7, .inl (y7, 96, .inl f7))] s.heap := hP
  have hK : va_K (dC, dI) vwCl [(y7, .int)] s := hK
  have hl := lv_entry ([.ref mo, .int (nI k)]) (n := 2) (Nat.le_of_ble_eq_true rfl)
  rw [lg_entry_eq]
  generalize (lg_sl ([.ref mo, .int (nI k)]) ++ List.replicate (2 - (lg_sl ([.ref mo, .int (nI k)])).length) Slot.unset).toArray = ls at hl ⊢
  have hl : lv_has ls 2 [(0, .ref mo), (1, .int (nI k))] := hl
  refine lv_iload_n hx hb dX8_isReached_0 rfl (lv_at hl 1 rfl) ?_
  refine pt_cSi (va_runS (As := [.int (nI k)]) (rest := []) ⟨hx, hb, hml, hown, hts⟩ (m_depth l dC dI k (by omega)) (cwS 1 hts gX8_isReached_X8_depth rfl rfl rfl (by decide +kernel) ⟨Nat.le_of_ble_eq_true rfl, Nat.le_of_ble_eq_true rfl⟩) ⟨pt_blind, pt_pre (w := []) (tys := []) (hP.sub [] rfl) (hK.sub [] rfl) hN⟩ rfl rfl hl.1 rfl (lv_room (Nat.le_of_ble_eq_true rfl)) dX8_isReached_1 ⟨Nat.le_of_ble_eq_true rfl, Nat.le_of_ble_eq_true rfl⟩) (fun r_1 hr_1 => ?_)
  obtain rfl : r_1 = nI (k % 2) := hr_1
  refine lv_if_eq (tgt := 18) hx hb dX8_isReached_4 (by decide) (fun c_2 => ?_) (fun c_2 => ?_)
  · have c_2 : k % 2 = 0 := (nI_eq (a := k % 2) (b := 0) (by omega) (by omega)).mp c_2
    refine lv_iconst (v := 1) hx hb dX8_isReached_18 (by decide) ?_
    refine lv_goto (tgt := 23) hx hb dX8_isReached_19 (by decide) ?_
    exact W.zret (v := 1) (ty := .boolean) hx hb hr rfl (fun t ht hW => ⟨1, rfl, Or.inr rfl, ht⟩) (fun q h => by cases h) dX8_isReached_23
  · have c_2 : ¬ (k % 2 = 0) := fun q_ => c_2 ((nI_eq (a := k % 2) (b := 0) (by omega) (by omega)).mpr q_)
    refine lv_aload_n hx hb dX8_isReached_7 rfl (lv_at hl 0 rfl) ?_
    refine va_get (D := (dC, dI)) (ci := 6) (v := .ref m7) (C := RX8) (T := TX8) (N := 32) hx hb hts iX8 hown hK hP 0 rfl rfl 7 (by decide) (hts (.fieldLink RX8 19 "ParkTowerModel" "cell" "[I") (by decide +kernel)) (fun _ h9 => h9) rfl dX8_isReached_8 ?_
    refine lv_iload_n hx hb dX8_isReached_11 rfl (lv_at hl 1 rfl) ?_
    refine lv_iconst (v := 1) hx hb dX8_isReached_12 (by decide) ?_
    refine lv_isub hx hb dX8_isReached_13 ?_
    refine pt_topi (nI (k - 1)) (pk_sub (a := k) (b := 1) (by omega)) ?_
    refine va_iald hx hb hK hP 1 0 rfl rfl (vp_in_nI (n := k - 1) (by omega) (by decide)) dX8_isReached_14 ?_
    refine lv_topi (fun a_3 ea_3 => ?_)
    rw [nI_clamp (n := k - 1) (by omega)] at ea_3
    refine lv_if_gt (tgt := 22) hx hb dX8_isReached_15 (by decide) (fun c_4 => ?_) (fun c_4 => ?_)
    · have c_4 : (0 < a_3) := c_4
      refine lv_iconst (v := 0) hx hb dX8_isReached_22 (by decide) ?_
      exact W.zret (v := 0) (ty := .boolean) hx hb hr rfl (fun t ht hW => ⟨0, rfl, Or.inl rfl, ht⟩) (fun q h => by cases h) dX8_isReached_23
    · have c_4 : ¬ (0 < a_3) := c_4
      refine lv_iconst (v := 1) hx hb dX8_isReached_18 (by decide) ?_
      refine lv_goto (tgt := 23) hx hb dX8_isReached_19 (by decide) ?_
      exact W.zret (v := 1) (ty := .boolean) hx hb hr rfl (fun t ht hW => ⟨1, rfl, Or.inr rfl, ht⟩) (fun q h => by cases h) dX8_isReached_23
set_option maxHeartbeats 4000000 in
set_option maxRecDepth 100000 in
theorem m_freeOn (l : Launch) (dC : Nat → ClassId) (dI : Nat → Nat → Nat) (mo m4 m5 m6 m7 m8 m9 m10 m11 m12 m16 m17 m18 m27 m29 m30 m31 : Nat) (th tm pw rn tg lf mm fo : Int32) (sr nc no bz dg db df sp : Nat) (y7 : ClassId) (f7 : Nat → Int32) (L : Nat) (hL : L < 4) : Met l yX8_freeOn wsX8_freeOn ({ frames := 0, cells := 0, slots := 0, locals := 0 }) (va_Pc [.ref mo, .int (nI L)] (pt_B (dC, dI) [(mo, .inr (6, [.int th, .int tm, .int (nI sr), .int (nI nc), .ref m4, .ref m5, .ref m6, .ref m7, .ref m8, .ref m9, .ref m10, .ref m11, .ref m12, .int pw, .int rn, .int (nI no), .ref m16, .ref m17, .ref m18, .int (nI bz), .int (nI dg), .int (nI db), .int (nI df), .int (nI sp), .int tg, .int lf, .int mm, .ref m27, .int fo, .ref m29, .ref m30, .ref m31])), (m7, .inl (y7, 96, .inl f7))] [(y7, .int)])) (vp_Si (fun r : Int32 => True)) 0 0 (fun _ => False) := by
  refine Met.ofW (cc := cX8_freeOn) (maxL := 4) (ret := (some .int)) (by decide) rfl ?_
  intro p e s m args below meth c s₁ B hml hv
  obtain ⟨rfl, hP, hK, hN⟩ := hv
  have hx := B.exec
  have hb := B.bytes
  have hr := B.returns
  have hts := atoms_spec (ws := wsX8_freeOn) B.pre
  have hown : s.vm.findClass RX8 = some m.cls := findClass_of_methodNamed B.named
  have hlocks := B.notSynchronized
  have iX8 : ∀ w ∈ wsX80, w ∈ wsX8_freeOn := by decide +kernel
  have hP : va_P (dC, dI) vwCl [(mo, .inr (6, [.int th, .int tm, .int (nI sr), .int (nI nc), .ref m4, .ref m5, .ref m6, .ref m7, .ref m8, .ref m9, .ref m10, .ref m11, .ref m12, .int pw, .int rn, .int (nI no), .ref m16, .ref m17, .ref m18, .int (nI bz), .int (nI dg), .int (nI db), .int (nI df), .int (nI sp), .int tg, .int lf, .int mm, .ref m27, .int fo, .ref m29, .ref m30, .ref m31])), (m7, .inl (y7, 96, .inl f7))] s.heap := hP
  have hK : va_K (dC, dI) vwCl [(y7, .int)] s := hK
  have hl := lv_entry ([.ref mo, .int (nI L)]) (n := 4) (Nat.le_of_ble_eq_true rfl)
  rw [lg_entry_eq]
  generalize (lg_sl ([.ref mo, .int (nI L)]) ++ List.replicate (4 - (lg_sl ([.ref mo, .int (nI L)])).length) Slot.unset).toArray = ls at hl ⊢
  have hl : lv_has ls 4 [(0, .ref mo), (1, .int (nI L))] := hl
  refine lv_iconst (v := 0) hx hb dX8_freeOn_0 (by decide) ?_
  refine lv_istore_n (lv' := [(2, .int 0), (0, .ref mo), (1, .int (nI L))]) hx hb dX8_freeOn_1 rfl hl (by decide) rfl (fun ls hl => ?_)
  refine lv_bipush (v := 24) hx hb dX8_freeOn_2 (by decide) ?_
  refine lv_iload_n hx hb dX8_freeOn_4 rfl (lv_at hl 2 rfl) ?_
  refine lv_imul hx hb dX8_freeOn_5 ?_
  refine pt_topi (nI (24 * L)) (pk_mul 24 L) ?_
  refine lv_istore_n (lv' := [(3, .int (nI (24 * L))), (2, .int 0), (0, .ref mo), (1, .int (nI L))]) hx hb dX8_freeOn_6 rfl hl (by decide) rfl (fun ls hl => ?_)
  refine pt_loop 24 (fun k ls => ∃ (q : Int32), lv_has ls 4 [(3, .int (nI (24 * L + k))), (2, .int q), (0, .ref mo), (1, .int (nI L))]) (fun ls hI => ?_) (fun k ls hk hI ih => ?_) (⟨_, lv_sub hl [0, 1, 2, 3] rfl⟩)
  · obtain ⟨q, hl⟩ := hI
    have hl : lv_has ls 4 [(3, .int (nI (24 * L + 24))), (2, .int q), (0, .ref mo), (1, .int (nI L))] := hl
    refine lv_iload_n hx hb dX8_freeOn_7 rfl (lv_at hl 0 rfl) ?_
    refine lv_bipush (v := 24) hx hb dX8_freeOn_8 (by decide) ?_
    refine lv_iload_n hx hb dX8_freeOn_10 rfl (lv_at hl 3 rfl) ?_
    refine lv_imul hx hb dX8_freeOn_11 ?_
    refine pt_topi (nI (24 * L)) (pk_mul 24 L) ?_
    refine lv_bipush (v := 24) hx hb dX8_freeOn_12 (by decide) ?_
    refine lv_iadd hx hb dX8_freeOn_14 ?_
    refine pt_topi (nI (24 * L + 24)) (nI_add (24 * L) 24) ?_
    refine lv_icmp_ge (tgt := 41) hx hb dX8_freeOn_15 (by decide) (fun c_1 => ?_) (fun c_1 => ?_)
    · have c_1 : 24 * L + 24 ≤ 24 * L + 24 := (nI_leI (a := 24 * L + 24) (b := 24 * L + 24) (by omega) (by omega)).mp c_1
      refine lv_iload_n hx hb dX8_freeOn_41 rfl (lv_at hl 1 rfl) ?_
      exact W.iret (v := q) hx hb hr (fun t ht hW => ⟨q, rfl, trivial, ht⟩) (fun q h => by cases h) dX8_freeOn_42
    · have c_1 : ¬ (24 * L + 24 ≤ 24 * L + 24) := fun q_ => c_1 ((nI_leI (a := 24 * L + 24) (b := 24 * L + 24) (by omega) (by omega)).mpr q_)
      exact (by omega : False).elim
  · obtain ⟨q, hl⟩ := hI
    have hl : lv_has ls 4 [(3, .int (nI (24 * L + k))), (2, .int q), (0, .ref mo), (1, .int (nI L))] := hl
    refine lv_iload_n hx hb dX8_freeOn_7 rfl (lv_at hl 0 rfl) ?_
    refine lv_bipush (v := 24) hx hb dX8_freeOn_8 (by decide) ?_
    refine lv_iload_n hx hb dX8_freeOn_10 rfl (lv_at hl 3 rfl) ?_
    refine lv_imul hx hb dX8_freeOn_11 ?_
    refine pt_topi (nI (24 * L)) (pk_mul 24 L) ?_
    refine lv_bipush (v := 24) hx hb dX8_freeOn_12 (by decide) ?_
    refine lv_iadd hx hb dX8_freeOn_14 ?_
    refine pt_topi (nI (24 * L + 24)) (nI_add (24 * L) 24) ?_
    refine lv_icmp_ge (tgt := 41) hx hb dX8_freeOn_15 (by decide) (fun c_2 => ?_) (fun c_2 => ?_)
    · have c_2 : 24 * L + 24 ≤ 24 * L + k := (nI_leI (a := 24 * L + 24) (b := 24 * L + k) (by omega) (by omega)).mp c_2
      exact (by omega : False).elim
    · have c_2 : ¬ (24 * L + 24 ≤ 24 * L + k) := fun q_ => c_2 ((nI_leI (a := 24 * L + 24) (b := 24 * L + k) (by omega) (by omega)).mpr q_)
      refine lv_aload_n hx hb dX8_freeOn_18 rfl (lv_at hl 2 rfl) ?_
      refine va_get (D := (dC, dI)) (ci := 6) (v := .ref m7) (C := RX8) (T := TX8) (N := 32) hx hb hts iX8 hown hK hP 0 rfl rfl 7 (by decide) (hts (.fieldLink RX8 19 "ParkTowerModel" "cell" "[I") (by decide +kernel)) (fun _ h9 => h9) rfl dX8_freeOn_19 ?_
      refine lv_iload_n hx hb dX8_freeOn_22 rfl (lv_at hl 0 rfl) ?_
      refine va_iald hx hb hK hP 1 0 rfl rfl (vp_in_nI (n := 24 * L + k) (by omega) (by decide)) dX8_freeOn_23 ?_
      refine lv_topi (fun a_3 ea_3 => ?_)
      rw [nI_clamp (n := 24 * L + k) (by omega)] at ea_3
      refine lv_if_ne (tgt := 33) hx hb dX8_freeOn_24 (by decide) (fun c_4 => ?_) (fun c_4 => ?_)
      · have c_4 : ¬ (a_3 = 0) := c_4
        refine lv_iload_n hx hb dX8_freeOn_33 rfl (lv_at hl 1 rfl) ?_
        refine lv_istore_n (lv' := [(2, .int q), (3, .int (nI (24 * L + k))), (0, .ref mo), (1, .int (nI L))]) hx hb dX8_freeOn_34 rfl hl (by decide) rfl (fun ls hl => ?_)
        refine lv_iinc (v := nI (24 * L + k + 1)) (lv' := [(3, .int (nI (24 * L + k + 1))), (2, .int q), (0, .ref mo), (1, .int (nI L))]) hx hb dX8_freeOn_35 hl (k := 1) rfl (nI_add (24 * L + k) 1) (by decide) rfl (fun ls hl => ?_)
        refine lv_goto (tgt := 7) hx hb dX8_freeOn_38 (by decide) ?_
        exact ih ls (⟨_, lv_sub hl [0, 1, 2, 3] rfl⟩)
      · have c_4 : (a_3 = 0) := c_4
        refine lv_iload_n hx hb dX8_freeOn_27 rfl (lv_at hl 1 rfl) ?_
        refine lv_iconst (v := 1) hx hb dX8_freeOn_28 (by decide) ?_
        refine lv_iadd hx hb dX8_freeOn_29 ?_
        refine lv_topi (fun z_5 ez_5 => ?_)
        refine lv_goto (tgt := 34) hx hb dX8_freeOn_30 (by decide) ?_
        refine lv_istore_n (lv' := [(2, .int z_5), (3, .int (nI (24 * L + k))), (0, .ref mo), (1, .int (nI L))]) hx hb dX8_freeOn_34 rfl hl (by decide) rfl (fun ls hl => ?_)
        refine lv_iinc (v := nI (24 * L + k + 1)) (lv' := [(3, .int (nI (24 * L + k + 1))), (2, .int z_5), (0, .ref mo), (1, .int (nI L))]) hx hb dX8_freeOn_35 hl (k := 1) rfl (nI_add (24 * L + k) 1) (by decide) rfl (fun ls hl => ?_)
        refine lv_goto (tgt := 7) hx hb dX8_freeOn_38 (by decide) ?_
        exact ih ls (⟨_, lv_sub hl [0, 1, 2, 3] rfl⟩)
set_option maxHeartbeats 4000000 in
set_option maxRecDepth 100000 in
theorem m_carOf (l : Launch) (dC : Nat → ClassId) (dI : Nat → Nat → Nat) (mo m4 m5 m6 m7 m8 m9 m10 m11 m12 m16 m17 m18 m27 m29 m30 m31 : Nat) (th tm pw rn tg lf mm fo : Int32) (sr nc no bz dg db df sp : Nat) (y4 : ClassId) (f4 : Nat → Int32) (x : Int32) (hnc : nc ≤ 700) : Met l yX8_carOf wsX8_carOf ({ frames := 0, cells := 0, slots := 0, locals := 0 }) (va_Pc [.ref mo, .int x] (pt_B (dC, dI) [(mo, .inr (6, [.int th, .int tm, .int (nI sr), .int (nI nc), .ref m4, .ref m5, .ref m6, .ref m7, .ref m8, .ref m9, .ref m10, .ref m11, .ref m12, .int pw, .int rn, .int (nI no), .ref m16, .ref m17, .ref m18, .int (nI bz), .int (nI dg), .int (nI db), .int (nI df), .int (nI sp), .int tg, .int lf, .int mm, .ref m27, .int fo, .ref m29, .ref m30, .ref m31])), (m4, .inl (y4, 700, .inl f4))] [(y4, .int)])) (vp_Si (fun r : Int32 => r = (-1) ∨ ∃ j : Nat, j < nc ∧ r = nI j)) 0 0 (fun _ => False) := by
  refine Met.ofW (cc := cX8_carOf) (maxL := 3) (ret := (some .int)) (by decide) rfl ?_
  intro p e s m args below meth c s₁ B hml hv
  obtain ⟨rfl, hP, hK, hN⟩ := hv
  have hx := B.exec
  have hb := B.bytes
  have hr := B.returns
  have hts := atoms_spec (ws := wsX8_carOf) B.pre
  have hown : s.vm.findClass RX8 = some m.cls := findClass_of_methodNamed B.named
  have hlocks := B.notSynchronized
  have iX8 : ∀ w ∈ wsX80, w ∈ wsX8_carOf := by decide +kernel
  have hP : va_P (dC, dI) vwCl [(mo, .inr (6, [.int th, .int tm, .int (nI sr), .int (nI nc), .ref m4, .ref m5, .ref m6, .ref m7, .ref m8, .ref m9, .ref m10, .ref m11, .ref m12, .int pw, .int rn, .int (nI no), .ref m16, .ref m17, .ref m18, .int (nI bz), .int (nI dg), .int (nI db), .int (nI df), .int (nI sp), .int tg, .int lf, .int mm, .ref m27, .int fo, .ref m29, .ref m30, .ref m31])), (m4, .inl (y4, 700, .inl f4))] s.heap := hP
  have hK : va_K (dC, dI) vwCl [(y4, .int)] s := hK
  have hl := lv_entry ([.ref mo, .int x]) (n := 3) (Nat.le_of_ble_eq_true rfl)
  rw [lg_entry_eq]
  generalize (lg_sl ([.ref mo, .int x]) ++ List.replicate (3 - (lg_sl ([.ref mo, .int x])).length) Slot.unset).toArray = ls at hl ⊢
  have hl : lv_has ls 3 [(0, .ref mo), (1, .int x)] := hl
  refine lv_iconst (v := 0) hx hb dX8_carOf_0 (by decide) ?_
  refine lv_istore_n (lv' := [(2, .int 0), (0, .ref mo), (1, .int x)]) hx hb dX8_carOf_1 rfl hl (by decide) rfl (fun ls hl => ?_)
  refine pt_loop nc (fun k ls => lv_has ls 3 [(2, .int (nI k)), (0, .ref mo), (1, .int x)]) (fun ls hI => ?_) (fun k ls hk hI ih => ?_) (lv_sub hl [0, 1, 2] rfl)
  · have hl := hI
    have hl : lv_has ls 3 [(2, .int (nI nc)), (0, .ref mo), (1, .int x)] := hl
    refine lv_iload_n hx hb dX8_carOf_2 rfl (lv_at hl 0 rfl) ?_
    refine lv_aload_n hx hb dX8_carOf_3 rfl (lv_at hl 1 rfl) ?_
    refine va_get (D := (dC, dI)) (ci := 6) (v := .int (nI nc)) (C := RX8) (T := TX8) (N := 32) hx hb hts iX8 hown hK hP 0 rfl rfl 3 (by decide) (hts (.fieldLink RX8 90 "ParkTowerModel" "cars" "I") (by decide +kernel)) (fun _ h9 => h9) rfl dX8_carOf_4 ?_
    refine lv_icmp_ge (tgt := 28) hx hb dX8_carOf_7 (by decide) (fun c_1 => ?_) (fun c_1 => ?_)
    · have c_1 : nc ≤ nc := (nI_leI (a := nc) (b := nc) (by omega) (by omega)).mp c_1
      refine lv_iconst (v := (-1)) hx hb dX8_carOf_28 (by decide) ?_
      exact W.iret (v := (-1)) hx hb hr (fun t ht hW => ⟨(-1), rfl, Or.inl rfl, ht⟩) (fun q h => by cases h) dX8_carOf_29
    · have c_1 : ¬ (nc ≤ nc) := fun q_ => c_1 ((nI_leI (a := nc) (b := nc) (by omega) (by omega)).mpr q_)
      exact (by omega : False).elim
  · have hl := hI
    have hl : lv_has ls 3 [(2, .int (nI k)), (0, .ref mo), (1, .int x)] := hl
    refine lv_iload_n hx hb dX8_carOf_2 rfl (lv_at hl 0 rfl) ?_
    refine lv_aload_n hx hb dX8_carOf_3 rfl (lv_at hl 1 rfl) ?_
    refine va_get (D := (dC, dI)) (ci := 6) (v := .int (nI nc)) (C := RX8) (T := TX8) (N := 32) hx hb hts iX8 hown hK hP 0 rfl rfl 3 (by decide) (hts (.fieldLink RX8 90 "ParkTowerModel" "cars" "I") (by decide +kernel)) (fun _ h9 => h9) rfl dX8_carOf_4 ?_
    refine lv_icmp_ge (tgt := 28) hx hb dX8_carOf_7 (by decide) (fun c_2 => ?_) (fun c_2 => ?_)
    · have c_2 : nc ≤ k := (nI_leI (a := nc) (b := k) (by omega) (by omega)).mp c_2
      refine lv_iconst (v := (-1)) hx hb dX8_carOf_28 (by decide) ?_
      exact W.iret (v := (-1)) hx hb hr (fun t ht hW => ⟨(-1), rfl, Or.inl rfl, ht⟩) (fun q h => by cases h) dX8_carOf_29
    · have c_2 : ¬ (nc ≤ k) := fun q_ => c_2 ((nI_leI (a := nc) (b := k) (by omega) (by omega)).mpr q_)
      refine lv_aload_n hx hb dX8_carOf_10 rfl (lv_at hl 1 rfl) ?_
      refine va_get (D := (dC, dI)) (ci := 6) (v := .ref m4) (C := RX8) (T := TX8) (N := 32) hx hb hts iX8 hown hK hP 0 rfl rfl 4 (by decide) (hts (.fieldLink RX8 7 "ParkTowerModel" "ticket" "[I") (by decide +kernel)) (fun _ h9 => h9) rfl dX8_carOf_11 ?_
      refine lv_iload_n hx hb dX8_carOf_14 rfl (lv_at hl 0 rfl) ?_
      refine va_iald hx hb hK hP 1 0 rfl rfl (vp_in_nI (n := k) (by omega) (by decide)) dX8_carOf_15 ?_
      refine lv_topi (fun a_3 ea_3 => ?_)
      rw [nI_clamp (n := k) (by omega)] at ea_3
      refine lv_iload_n hx hb dX8_carOf_16 rfl (lv_at hl 2 rfl) ?_
      refine lv_icmp_ne (tgt := 22) hx hb dX8_carOf_17 (by decide) (fun c_4 => ?_) (fun c_4 => ?_)
      · have c_4 : ¬ (a_3 = x) := c_4
        refine lv_iinc (v := nI (k + 1)) (lv' := [(2, .int (nI (k + 1))), (0, .ref mo), (1, .int x)]) hx hb dX8_carOf_22 hl (k := 0) rfl (nI_add k 1) (by decide) rfl (fun ls hl => ?_)
        refine lv_goto (tgt := 2) hx hb dX8_carOf_25 (by decide) ?_
        exact ih ls (lv_sub hl [0, 1, 2] rfl)
      · have c_4 : (a_3 = x) := c_4
        refine lv_iload_n hx hb dX8_carOf_20 rfl (lv_at hl 0 rfl) ?_
        exact W.iret (v := nI k) hx hb hr (fun t ht hW => ⟨nI k, rfl, Or.inr ⟨k, by omega, rfl⟩, ht⟩) (fun q h => by cases h) dX8_carOf_21
set_option maxHeartbeats 4000000 in
set_option maxRecDepth 100000 in
theorem m_find (l : Launch) (dC : Nat → ClassId) (dI : Nat → Nat → Nat) (mo m4 m5 m6 m7 m8 m9 m10 m11 m12 m16 m17 m18 m27 m29 m30 m31 : Nat) (th tm pw rn tg lf mm fo : Int32) (sr nc no bz dg db df sp : Nat) (y6 y7 y12 : ClassId) (f6 f7 f12 : Nat → Int32) (x y v : Int32) (hbz : bz ≤ 1) (hdf : df ≤ 1) (hdg : dg < 700) (hp : ∀ i, sC (f6 i)) : Met l yX8_find wsX8_find ({ frames := 1, cells := 0, slots := 0, locals := 23 }) (va_Pc [.ref mo, .int x, .int y, .int v] (pt_B (dC, dI) [(mo, .inr (6, [.int th, .int tm, .int (nI sr), .int (nI nc), .ref m4, .ref m5, .ref m6, .ref m7, .ref m8, .ref m9, .ref m10, .ref m11, .ref m12, .int pw, .int rn, .int (nI no), .ref m16, .ref m17, .ref m18, .int (nI bz), .int (nI dg), .int (nI db), .int (nI df), .int (nI sp), .int tg, .int lf, .int mm, .ref m27, .int fo, .ref m29, .ref m30, .ref m31])), (m6, .inl (y6, 700, .inl f6)), (m7, .inl (y7, 96, .inl f7)), (m12, .inl (y12, 4, .inl f12))] [(y6, .int), (y7, .int), (y12, .boolean)])) (vp_Si (fun r : Int32 => r = (-1) ∨ ∃ j : Nat, j < 96 ∧ r = nI j ∧ (bz = 1 → df = 1 → ∀ q : Nat, q < 96 → f6 dg = nI q → ¬ j / 24 = q / 24))) 0 0 (fun _ => False) := by
  refine Met.ofW (cc := cX8_find) (maxL := 9) (ret := (some .int)) (by decide) rfl ?_
  intro p e s m args below meth c s₁ B hml hv
  obtain ⟨rfl, hP, hK, hN⟩ := hv
  have hx := B.exec
  have hb := B.bytes
  have hr := B.returns
  have hts := atoms_spec (ws := wsX8_find) B.pre
  have hown : s.vm.findClass RX8 = some m.cls := findClass_of_methodNamed B.named
  have hlocks := B.notSynchronized
  have iX8 : ∀ w ∈ wsX80, w ∈ wsX8_find := by decide +kernel
  have hP : va_P (dC, dI) vwCl [(mo, .inr (6, [.int th, .int tm, .int (nI sr), .int (nI nc), .ref m4, .ref m5, .ref m6, .ref m7, .ref m8, .ref m9, .ref m10, .ref m11, .ref m12, .int pw, .int rn, .int (nI no), .ref m16, .ref m17, .ref m18, .int (nI bz), .int (nI dg), .int (nI db), .int (nI df), .int (nI sp), .int tg, .int lf, .int mm, .ref m27, .int fo, .ref m29, .ref m30, .ref m31])), (m6, .inl (y6, 700, .inl f6)), (m7, .inl (y7, 96, .inl f7)), (m12, .inl (y12, 4, .inl f12))] s.heap := hP
  have hK : va_K (dC, dI) vwCl [(y6, .int), (y7, .int), (y12, .boolean)] s := hK
  have hl := lv_entry ([.ref mo, .int x, .int y, .int v]) (n := 9) (Nat.le_of_ble_eq_true rfl)
  rw [lg_entry_eq]
  generalize (lg_sl ([.ref mo, .int x, .int y, .int v]) ++ List.replicate (9 - (lg_sl ([.ref mo, .int x, .int y, .int v])).length) Slot.unset).toArray = ls at hl ⊢
  have hl : lv_has ls 9 [(0, .ref mo), (1, .int x), (2, .int y), (3, .int v)] := hl
  refine lv_iconst (v := 0) hx hb dX8_find_0 (by decide) ?_
  refine lv_istore (lv' := [(4, .int 0), (0, .ref mo), (1, .int x), (2, .int y), (3, .int v)]) hx hb dX8_find_1 hl (by decide) rfl (fun ls hl => ?_)
  refine pt_loop 4 (fun L ls => lv_has ls 9 [(4, .int (nI L)), (0, .ref mo), (1, .int x), (2, .int y), (3, .int v)]) (fun ls hI => ?_) (fun L ls hk hI ih => ?_) (lv_sub hl [0, 1, 2, 3, 4] rfl)
  · have hl := hI
    have hl : lv_has ls 9 [(4, .int 4), (0, .ref mo), (1, .int x), (2, .int y), (3, .int v)] := hl
    refine lv_iload hx hb dX8_find_3 (lv_at hl 0 rfl) ?_
    refine lv_iconst (v := 4) hx hb dX8_find_5 (by decide) ?_
    refine lv_icmp_ge (tgt := 200) hx hb dX8_find_6 (by decide) (fun _ => ?_) (fun c => absurd (by decide) c)
    refine lv_iconst (v := (-1)) hx hb dX8_find_200 (by decide) ?_
    exact W.iret (v := (-1)) hx hb hr (fun t ht hW => ⟨(-1), rfl, Or.inl rfl, ht⟩) (fun q h => by cases h) dX8_find_201
  · have hl := hI
    have hl : lv_has ls 9 [(4, .int (nI L)), (0, .ref mo), (1, .int x), (2, .int y), (3, .int v)] := hl
    refine lv_iload hx hb dX8_find_3 (lv_at hl 0 rfl) ?_
    refine lv_iconst (v := 4) hx hb dX8_find_5 (by decide) ?_
    refine lv_icmp_ge (tgt := 200) hx hb dX8_find_6 (by decide) (fun c_1 => ?_) (fun c_1 => ?_)
    · have c_1 : 4 ≤ L := (nI_leI (a := 4) (b := L) (by omega) (by omega)).mp c_1
      exact (by omega : False).elim
    · have c_1 : ¬ (4 ≤ L) := fun q_ => c_1 ((nI_leI (a := 4) (b := L) (by omega) (by omega)).mpr q_)
      refine lv_aload_n hx hb dX8_find_9 rfl (lv_at hl 1 rfl) ?_
      refine va_get (D := (dC, dI)) (ci := 6) (v := .int (nI bz)) (C := RX8) (T := TX8) (N := 32) hx hb hts iX8 hown hK hP 0 rfl rfl 19 (by decide) (hts (.fieldLink RX8 71 "ParkTowerModel" "busy" "Z") (by decide +kernel)) (fun _ h9 => h9) rfl dX8_find_10 ?_
      refine lv_if_eq (tgt := 44) hx hb dX8_find_13 (by decide) (fun c_2 => ?_) (fun c_2 => ?_)
      · have c_2 : bz = 0 := (nI_eq (a := bz) (b := 0) (by omega) (by omega)).mp c_2
        refine lv_iconst (v := 0) hx hb dX8_find_44 (by decide) ?_
        refine lv_istore (lv' := [(5, .int 0), (4, .int (nI L)), (0, .ref mo), (1, .int x), (2, .int y), (3, .int v)]) hx hb dX8_find_45 hl (by decide) rfl (fun ls hl => ?_)
        refine lv_iload hx hb dX8_find_47 (lv_at hl 1 rfl) ?_
        refine lv_iload_n hx hb dX8_find_49 rfl (lv_at hl 3 rfl) ?_
        refine lv_iload_n hx hb dX8_find_50 rfl (lv_at hl 4 rfl) ?_
        refine lv_iload_n hx hb dX8_find_51 rfl (lv_at hl 5 rfl) ?_
        refine pt_cSi (va_runS (As := [.int (nI L), .int x, .int y, .int v]) (rest := []) ⟨hx, hb, hml, hown, hts⟩ (m_fits l dC dI L x y v (by omega)) (cwS 4 hts gX8_find_X8_fits rfl rfl rfl (by decide +kernel) ⟨Nat.le_of_ble_eq_true rfl, Nat.le_of_ble_eq_true rfl⟩) ⟨pt_blind, pt_pre (w := []) (tys := []) (hP.sub [] rfl) (hK.sub [] rfl) hN⟩ rfl rfl hl.1 rfl (lv_room (Nat.le_of_ble_eq_true rfl)) dX8_find_52 ⟨Nat.le_of_ble_eq_true rfl, Nat.le_of_ble_eq_true rfl⟩) (fun r_3 hr_3 => ?_)
        rcases hr_3 with rfl | rfl
        · skip
          refine lv_if_eq (tgt := 194) hx hb dX8_find_55 (by decide) (fun _ => ?_) (fun c => absurd (by decide) c)
          refine lv_iinc (v := nI (L + 1)) (lv' := [(4, .int (nI (L + 1))), (5, .int 0), (0, .ref mo), (1, .int x), (2, .int y), (3, .int v)]) hx hb dX8_find_194 hl (k := 1) rfl (nI_add L 1) (by decide) rfl (fun ls hl => ?_)
          refine lv_goto (tgt := 3) hx hb dX8_find_197 (by decide) ?_
          exact ih ls (lv_sub hl [0, 2, 3, 4, 5] rfl)
        · skip
          refine lv_if_eq (tgt := 194) hx hb dX8_find_55 (by decide) (fun c => absurd c (by decide)) (fun _ => ?_)
          refine lv_aload_n hx hb dX8_find_58 rfl (lv_at hl 2 rfl) ?_
          refine va_get (D := (dC, dI)) (ci := 6) (v := .ref m12) (C := RX8) (T := TX8) (N := 32) hx hb hts iX8 hown hK hP 0 rfl rfl 12 (by decide) (hts (.fieldLink RX8 35 "ParkTowerModel" "jammed" "[Z") (by decide +kernel)) (fun _ h9 => h9) rfl dX8_find_59 ?_
          refine lv_iload hx hb dX8_find_62 (lv_at hl 1 rfl) ?_
          refine va_zald hx hb hK hP 3 2 rfl rfl (vp_in_nI (n := L) (by omega) (by decide)) dX8_find_64 ?_
          refine lv_topi (fun a_4 ea_4 => ?_)
          rw [nI_clamp (n := L) (by omega)] at ea_4
          refine lv_if_ne (tgt := 194) hx hb dX8_find_65 (by decide) (fun c_5 => ?_) (fun c_5 => ?_)
          · have c_5 : ¬ (a_4 = 0) := c_5
            refine lv_iinc (v := nI (L + 1)) (lv' := [(4, .int (nI (L + 1))), (5, .int 0), (0, .ref mo), (1, .int x), (2, .int y), (3, .int v)]) hx hb dX8_find_194 hl (k := 1) rfl (nI_add L 1) (by decide) rfl (fun ls hl => ?_)
            refine lv_goto (tgt := 3) hx hb dX8_find_197 (by decide) ?_
            exact ih ls (lv_sub hl [0, 2, 3, 4, 5] rfl)
          · have c_5 : (a_4 = 0) := c_5
            refine lv_iload hx hb dX8_find_68 (lv_at hl 0 rfl) ?_
            refine lv_if_ne (tgt := 194) hx hb dX8_find_70 (by decide) (fun c => absurd (by decide) c) (fun _ => ?_)
            refine lv_aload_n hx hb dX8_find_73 rfl (lv_at hl 2 rfl) ?_
            refine lv_iload hx hb dX8_find_74 (lv_at hl 1 rfl) ?_
            refine pt_cSi (va_runV (As := [.int (nI L)]) (rest := []) ⟨hx, hb, hml, hown, hts⟩ (m_freeOn l dC dI mo m4 m5 m6 m7 m8 m9 m10 m11 m12 m16 m17 m18 m27 m29 m30 m31 th tm pw rn tg lf mm fo sr nc no bz dg db df sp y7 f7 L (by omega)) (cwV 1 hts gX8_find_X8_freeOn rfl rfl rfl (by decide +kernel) ⟨Nat.le_of_ble_eq_true rfl, Nat.le_of_ble_eq_true rfl⟩) ⟨pt_blind, va_recv hK hP (ci := 6) (q0 := 0) rfl rfl, pt_pre (w := [(mo, .inr (6, [.int th, .int tm, .int (nI sr), .int (nI nc), .ref m4, .ref m5, .ref m6, .ref m7, .ref m8, .ref m9, .ref m10, .ref m11, .ref m12, .int pw, .int rn, .int (nI no), .ref m16, .ref m17, .ref m18, .int (nI bz), .int (nI dg), .int (nI db), .int (nI df), .int (nI sp), .int tg, .int lf, .int mm, .ref m27, .int fo, .ref m29, .ref m30, .ref m31])), (m7, .inl (y7, 96, .inl f7))]) (tys := [(y7, .int)]) (hP.sub [0, 2] rfl) (hK.sub [1] rfl) hN⟩ rfl rfl hl.1 rfl (lv_room (Nat.le_of_ble_eq_true rfl)) dX8_find_76 ⟨Nat.le_of_ble_eq_true rfl, Nat.le_of_ble_eq_true rfl⟩) (fun r_6 hr_6 => ?_)
            refine lv_iconst (v := 2) hx hb dX8_find_79 (by decide) ?_
            refine lv_icmp_ge (tgt := 86) hx hb dX8_find_80 (by decide) (fun c_7 => ?_) (fun c_7 => ?_)
            · have c_7 : (2 ≤ r_6) := c_7
              refine lv_iconst (v := 0) hx hb dX8_find_86 (by decide) ?_
              refine lv_istore (lv' := [(6, .int 0), (5, .int 0), (4, .int (nI L)), (0, .ref mo), (1, .int x), (2, .int y), (3, .int v)]) hx hb dX8_find_87 hl (by decide) rfl (fun ls hl => ?_)
              refine pt_loop 24 (fun kk ls => lv_has ls 9 [(6, .int (nI kk)), (5, .int 0), (4, .int (nI L)), (0, .ref mo), (1, .int x), (2, .int y), (3, .int v)]) (fun ls hI => ?_) (fun kk ls hk hI ih => ?_) (lv_sub hl [0, 1, 2, 3, 4, 5, 6] rfl)
              · have hl := hI
                have hl : lv_has ls 9 [(6, .int 24), (5, .int 0), (4, .int (nI L)), (0, .ref mo), (1, .int x), (2, .int y), (3, .int v)] := hl
                refine lv_iload hx hb dX8_find_89 (lv_at hl 0 rfl) ?_
                refine lv_bipush (v := 24) hx hb dX8_find_91 (by decide) ?_
                refine lv_icmp_ge (tgt := 194) hx hb dX8_find_93 (by decide) (fun _ => ?_) (fun c => absurd (by decide) c)
                refine lv_iinc (v := nI (L + 1)) (lv' := [(4, .int (nI (L + 1))), (6, .int 24), (5, .int 0), (0, .ref mo), (1, .int x), (2, .int y), (3, .int v)]) hx hb dX8_find_194 hl (k := 2) rfl (nI_add L 1) (by decide) rfl (fun ls hl => ?_)
                refine lv_goto (tgt := 3) hx hb dX8_find_197 (by decide) ?_
                exact ih ls (lv_sub hl [0, 3, 4, 5, 6] rfl)
              · have hl := hI
                have hl : lv_has ls 9 [(6, .int (nI kk)), (5, .int 0), (4, .int (nI L)), (0, .ref mo), (1, .int x), (2, .int y), (3, .int v)] := hl
                refine lv_iload hx hb dX8_find_89 (lv_at hl 0 rfl) ?_
                refine lv_bipush (v := 24) hx hb dX8_find_91 (by decide) ?_
                refine lv_icmp_ge (tgt := 194) hx hb dX8_find_93 (by decide) (fun c_8 => ?_) (fun c_8 => ?_)
                · have c_8 : 24 ≤ kk := (nI_leI (a := 24) (b := kk) (by omega) (by omega)).mp c_8
                  exact (by omega : False).elim
                · have c_8 : ¬ (24 ≤ kk) := fun q_ => c_8 ((nI_leI (a := 24) (b := kk) (by omega) (by omega)).mpr q_)
                  refine lv_bipush (v := 24) hx hb dX8_find_96 (by decide) ?_
                  refine lv_iload hx hb dX8_find_98 (lv_at hl 2 rfl) ?_
                  refine lv_imul hx hb dX8_find_100 ?_
                  refine pt_topi (nI (24 * L)) (pk_mul 24 L) ?_
                  refine lv_bipush (v := 12) hx hb dX8_find_101 (by decide) ?_
                  refine lv_iload hx hb dX8_find_103 (lv_at hl 0 rfl) ?_
                  refine lv_iconst (v := 2) hx hb dX8_find_105 (by decide) ?_
                  refine lv_idiv hx hb dX8_find_106 (by decide) ?_
                  refine pt_topi (nI (kk / 2)) (pk_div (a := kk) (d := 2) (by omega) (by omega) (by omega)) ?_
                  refine lv_iconst (v := 2) hx hb dX8_find_107 (by decide) ?_
                  refine lv_irem hx hb dX8_find_108 (by decide) ?_
                  refine pt_topi (nI ((kk / 2) % 2)) (pk_rem (a := kk / 2) (d := 2) (by omega) (by omega) (by omega)) ?_
                  refine lv_imul hx hb dX8_find_109 ?_
                  refine pt_topi (nI (12 * ((kk / 2) % 2))) (pk_mul 12 ((kk / 2) % 2)) ?_
                  refine lv_iadd hx hb dX8_find_110 ?_
                  refine pt_topi (nI (24 * L + (12 * ((kk / 2) % 2)))) (nI_add (24 * L) (12 * ((kk / 2) % 2))) ?_
                  refine lv_iconst (v := 2) hx hb dX8_find_111 (by decide) ?_
                  refine lv_iload hx hb dX8_find_112 (lv_at hl 0 rfl) ?_
                  refine lv_iconst (v := 4) hx hb dX8_find_114 (by decide) ?_
                  refine lv_idiv hx hb dX8_find_115 (by decide) ?_
                  refine pt_topi (nI (kk / 4)) (pk_div (a := kk) (d := 4) (by omega) (by omega) (by omega)) ?_
                  refine lv_imul hx hb dX8_find_116 ?_
                  refine pt_topi (nI (2 * (kk / 4))) (pk_mul 2 (kk / 4)) ?_
                  refine lv_iadd hx hb dX8_find_117 ?_
                  refine pt_topi (nI (24 * L + (12 * ((kk / 2) % 2)) + (2 * (kk / 4)))) (nI_add (24 * L + (12 * ((kk / 2) % 2))) (2 * (kk / 4))) ?_
                  refine lv_iconst (v := 1) hx hb dX8_find_118 (by decide) ?_
                  refine lv_iadd hx hb dX8_find_119 ?_
                  refine pt_topi (nI (24 * L + (12 * ((kk / 2) % 2)) + (2 * (kk / 4)) + 1)) (nI_add (24 * L + (12 * ((kk / 2) % 2)) + (2 * (kk / 4))) 1) ?_
                  refine lv_iload hx hb dX8_find_120 (lv_at hl 0 rfl) ?_
                  refine lv_iconst (v := 2) hx hb dX8_find_122 (by decide) ?_
                  refine lv_irem hx hb dX8_find_123 (by decide) ?_
                  refine pt_topi (nI (kk % 2)) (pk_rem (a := kk) (d := 2) (by omega) (by omega) (by omega)) ?_
                  refine lv_isub hx hb dX8_find_124 ?_
                  refine pt_topi (nI (24 * L + (12 * ((kk / 2) % 2)) + (2 * (kk / 4)) + 1 - (kk % 2))) (pk_sub (a := 24 * L + (12 * ((kk / 2) % 2)) + (2 * (kk / 4)) + 1) (b := kk % 2) (by omega)) ?_
                  refine lv_istore (lv' := [(7, .int (nI (24 * L + (12 * ((kk / 2) % 2)) + (2 * (kk / 4)) + 1 - (kk % 2)))), (6, .int (nI kk)), (5, .int 0), (4, .int (nI L)), (0, .ref mo), (1, .int x), (2, .int y), (3, .int v)]) hx hb dX8_find_125 hl (by decide) rfl (fun ls hl => ?_)
                  refine lv_aload_n hx hb dX8_find_127 rfl (lv_at hl 4 rfl) ?_
                  refine va_get (D := (dC, dI)) (ci := 6) (v := .ref m7) (C := RX8) (T := TX8) (N := 32) hx hb hts iX8 hown hK hP 0 rfl rfl 7 (by decide) (hts (.fieldLink RX8 19 "ParkTowerModel" "cell" "[I") (by decide +kernel)) (fun _ h9 => h9) rfl dX8_find_128 ?_
                  refine lv_iload hx hb dX8_find_131 (lv_at hl 0 rfl) ?_
                  refine va_iald hx hb hK hP 2 1 rfl rfl (vp_in_nI (n := 24 * L + (12 * ((kk / 2) % 2)) + (2 * (kk / 4)) + 1 - (kk % 2)) (by omega) (by decide)) dX8_find_133 ?_
                  refine lv_topi (fun a_9 ea_9 => ?_)
                  rw [nI_clamp (n := 24 * L + (12 * ((kk / 2) % 2)) + (2 * (kk / 4)) + 1 - (kk % 2)) (by omega)] at ea_9
                  refine lv_if_ne (tgt := 177) hx hb dX8_find_134 (by decide) (fun c_10 => ?_) (fun c_10 => ?_)
                  · have c_10 : ¬ (a_9 = 0) := c_10
                    refine lv_iconst (v := 0) hx hb dX8_find_177 (by decide) ?_
                    refine lv_istore (lv' := [(8, .int 0), (7, .int (nI (24 * L + (12 * ((kk / 2) % 2)) + (2 * (kk / 4)) + 1 - (kk % 2)))), (6, .int (nI kk)), (5, .int 0), (4, .int (nI L)), (0, .ref mo), (1, .int x), (2, .int y), (3, .int v)]) hx hb dX8_find_178 hl (by decide) rfl (fun ls hl => ?_)
                    refine lv_iload hx hb dX8_find_180 (lv_at hl 0 rfl) ?_
                    refine lv_if_eq (tgt := 188) hx hb dX8_find_182 (by decide) (fun _ => ?_) (fun c => absurd (by decide) c)
                    refine lv_iinc (v := nI (kk + 1)) (lv' := [(6, .int (nI (kk + 1))), (8, .int 0), (7, .int (nI (24 * L + (12 * ((kk / 2) % 2)) + (2 * (kk / 4)) + 1 - (kk % 2)))), (5, .int 0), (4, .int (nI L)), (0, .ref mo), (1, .int x), (2, .int y), (3, .int v)]) hx hb dX8_find_188 hl (k := 2) rfl (nI_add kk 1) (by decide) rfl (fun ls hl => ?_)
                    refine lv_goto (tgt := 89) hx hb dX8_find_191 (by decide) ?_
                    exact ih ls (lv_sub hl [0, 3, 4, 5, 6, 7, 8] rfl)
                  · have c_10 : (a_9 = 0) := c_10
                    refine lv_iload hx hb dX8_find_137 (lv_at hl 0 rfl) ?_
                    refine pt_cSi (va_runS (As := [.int (nI (24 * L + (12 * ((kk / 2) % 2)) + (2 * (kk / 4)) + 1 - (kk % 2)))]) (rest := []) ⟨hx, hb, hml, hown, hts⟩ (m_depth l dC dI (24 * L + (12 * ((kk / 2) % 2)) + (2 * (kk / 4)) + 1 - (kk % 2)) (by omega)) (cwS 1 hts gX8_find_X8_depth rfl rfl rfl (by decide +kernel) ⟨Nat.le_of_ble_eq_true rfl, Nat.le_of_ble_eq_true rfl⟩) ⟨pt_blind, pt_pre (w := []) (tys := []) (hP.sub [] rfl) (hK.sub [] rfl) hN⟩ rfl rfl hl.1 rfl (lv_room (Nat.le_of_ble_eq_true rfl)) dX8_find_139 ⟨Nat.le_of_ble_eq_true rfl, Nat.le_of_ble_eq_true rfl⟩) (fun r_11 hr_11 => ?_)
                    obtain rfl : r_11 = nI ((24 * L + (12 * ((kk / 2) % 2)) + (2 * (kk / 4)) + 1 - (kk % 2)) % 2) := hr_11
                    refine lv_iconst (v := 1) hx hb dX8_find_142 (by decide) ?_
                    refine lv_icmp_ne (tgt := 161) hx hb dX8_find_143 (by decide) (fun c_12 => ?_) (fun c_12 => ?_)
                    · have c_12 : ¬ ((24 * L + (12 * ((kk / 2) % 2)) + (2 * (kk / 4)) + 1 - (kk % 2)) % 2 = 1) := fun q_ => c_12 ((nI_eq (a := (24 * L + (12 * ((kk / 2) % 2)) + (2 * (kk / 4)) + 1 - (kk % 2)) % 2) (b := 1) (by omega) (by omega)).mpr q_)
                      refine lv_aload_n hx hb dX8_find_161 rfl (lv_at hl 4 rfl) ?_
                      refine va_get (D := (dC, dI)) (ci := 6) (v := .ref m7) (C := RX8) (T := TX8) (N := 32) hx hb hts iX8 hown hK hP 0 rfl rfl 7 (by decide) (hts (.fieldLink RX8 19 "ParkTowerModel" "cell" "[I") (by decide +kernel)) (fun _ h9 => h9) rfl dX8_find_162 ?_
                      refine lv_iload hx hb dX8_find_165 (lv_at hl 0 rfl) ?_
                      refine lv_iconst (v := 1) hx hb dX8_find_167 (by decide) ?_
                      refine lv_iadd hx hb dX8_find_168 ?_
                      refine pt_topi (nI (24 * L + (12 * ((kk / 2) % 2)) + (2 * (kk / 4)) + 1 - (kk % 2) + 1)) (nI_add (24 * L + (12 * ((kk / 2) % 2)) + (2 * (kk / 4)) + 1 - (kk % 2)) 1) ?_
                      refine va_iald hx hb hK hP 2 1 rfl rfl (vp_in_nI (n := 24 * L + (12 * ((kk / 2) % 2)) + (2 * (kk / 4)) + 1 - (kk % 2) + 1) (by omega) (by decide)) dX8_find_169 ?_
                      refine lv_topi (fun a_13 ea_13 => ?_)
                      rw [nI_clamp (n := 24 * L + (12 * ((kk / 2) % 2)) + (2 * (kk / 4)) + 1 - (kk % 2) + 1) (by omega)] at ea_13
                      refine lv_if_le (tgt := 177) hx hb dX8_find_170 (by decide) (fun c_14 => ?_) (fun c_14 => ?_)
                      · have c_14 : (a_13 ≤ 0) := c_14
                        refine lv_iconst (v := 0) hx hb dX8_find_177 (by decide) ?_
                        refine lv_istore (lv' := [(8, .int 0), (7, .int (nI (24 * L + (12 * ((kk / 2) % 2)) + (2 * (kk / 4)) + 1 - (kk % 2)))), (6, .int (nI kk)), (5, .int 0), (4, .int (nI L)), (0, .ref mo), (1, .int x), (2, .int y), (3, .int v)]) hx hb dX8_find_178 hl (by decide) rfl (fun ls hl => ?_)
                        refine lv_iload hx hb dX8_find_180 (lv_at hl 0 rfl) ?_
                        refine lv_if_eq (tgt := 188) hx hb dX8_find_182 (by decide) (fun _ => ?_) (fun c => absurd (by decide) c)
                        refine lv_iinc (v := nI (kk + 1)) (lv' := [(6, .int (nI (kk + 1))), (8, .int 0), (7, .int (nI (24 * L + (12 * ((kk / 2) % 2)) + (2 * (kk / 4)) + 1 - (kk % 2)))), (5, .int 0), (4, .int (nI L)), (0, .ref mo), (1, .int x), (2, .int y), (3, .int v)]) hx hb dX8_find_188 hl (k := 2) rfl (nI_add kk 1) (by decide) rfl (fun ls hl => ?_)
                        refine lv_goto (tgt := 89) hx hb dX8_find_191 (by decide) ?_
                        exact ih ls (lv_sub hl [0, 3, 4, 5, 6, 7, 8] rfl)
                      · have c_14 : ¬ (a_13 ≤ 0) := c_14
                        refine lv_iconst (v := 1) hx hb dX8_find_173 (by decide) ?_
                        refine lv_goto (tgt := 178) hx hb dX8_find_174 (by decide) ?_
                        refine lv_istore (lv' := [(8, .int 1), (7, .int (nI (24 * L + (12 * ((kk / 2) % 2)) + (2 * (kk / 4)) + 1 - (kk % 2)))), (6, .int (nI kk)), (5, .int 0), (4, .int (nI L)), (0, .ref mo), (1, .int x), (2, .int y), (3, .int v)]) hx hb dX8_find_178 hl (by decide) rfl (fun ls hl => ?_)
                        refine lv_iload hx hb dX8_find_180 (lv_at hl 0 rfl) ?_
                        refine lv_if_eq (tgt := 188) hx hb dX8_find_182 (by decide) (fun c => absurd c (by decide)) (fun _ => ?_)
                        refine lv_iload hx hb dX8_find_185 (lv_at hl 1 rfl) ?_
                        exact W.iret (v := nI (24 * L + (12 * ((kk / 2) % 2)) + (2 * (kk / 4)) + 1 - (kk % 2))) hx hb hr (fun t ht hW => ⟨nI (24 * L + (12 * ((kk / 2) % 2)) + (2 * (kk / 4)) + 1 - (kk % 2)), rfl, Or.inr ⟨24 * L + (12 * ((kk / 2) % 2)) + (2 * (kk / 4)) + 1 - (kk % 2), by omega, rfl, fun z1 z2 q hq e9 => by first | omega⟩, ht⟩) (fun q h => by cases h) dX8_find_187
                    · have c_12 : (24 * L + (12 * ((kk / 2) % 2)) + (2 * (kk / 4)) + 1 - (kk % 2)) % 2 = 1 := (nI_eq (a := (24 * L + (12 * ((kk / 2) % 2)) + (2 * (kk / 4)) + 1 - (kk % 2)) % 2) (b := 1) (by omega) (by omega)).mp c_12
                      refine lv_aload_n hx hb dX8_find_146 rfl (lv_at hl 4 rfl) ?_
                      refine va_get (D := (dC, dI)) (ci := 6) (v := .ref m7) (C := RX8) (T := TX8) (N := 32) hx hb hts iX8 hown hK hP 0 rfl rfl 7 (by decide) (hts (.fieldLink RX8 19 "ParkTowerModel" "cell" "[I") (by decide +kernel)) (fun _ h9 => h9) rfl dX8_find_147 ?_
                      refine lv_iload hx hb dX8_find_150 (lv_at hl 0 rfl) ?_
                      refine lv_iconst (v := 1) hx hb dX8_find_152 (by decide) ?_
                      refine lv_isub hx hb dX8_find_153 ?_
                      refine pt_topi (nI (24 * L + (12 * ((kk / 2) % 2)) + (2 * (kk / 4)) + 1 - (kk % 2) - 1)) (pk_sub (a := 24 * L + (12 * ((kk / 2) % 2)) + (2 * (kk / 4)) + 1 - (kk % 2)) (b := 1) (by omega)) ?_
                      refine va_iald hx hb hK hP 2 1 rfl rfl (vp_in_nI (n := 24 * L + (12 * ((kk / 2) % 2)) + (2 * (kk / 4)) + 1 - (kk % 2) - 1) (by omega) (by decide)) dX8_find_154 ?_
                      refine lv_topi (fun a_15 ea_15 => ?_)
                      rw [nI_clamp (n := 24 * L + (12 * ((kk / 2) % 2)) + (2 * (kk / 4)) + 1 - (kk % 2) - 1) (by omega)] at ea_15
                      refine lv_if_ne (tgt := 177) hx hb dX8_find_155 (by decide) (fun c_16 => ?_) (fun c_16 => ?_)
                      · have c_16 : ¬ (a_15 = 0) := c_16
                        refine lv_iconst (v := 0) hx hb dX8_find_177 (by decide) ?_
                        refine lv_istore (lv' := [(8, .int 0), (7, .int (nI (24 * L + (12 * ((kk / 2) % 2)) + (2 * (kk / 4)) + 1 - (kk % 2)))), (6, .int (nI kk)), (5, .int 0), (4, .int (nI L)), (0, .ref mo), (1, .int x), (2, .int y), (3, .int v)]) hx hb dX8_find_178 hl (by decide) rfl (fun ls hl => ?_)
                        refine lv_iload hx hb dX8_find_180 (lv_at hl 0 rfl) ?_
                        refine lv_if_eq (tgt := 188) hx hb dX8_find_182 (by decide) (fun _ => ?_) (fun c => absurd (by decide) c)
                        refine lv_iinc (v := nI (kk + 1)) (lv' := [(6, .int (nI (kk + 1))), (8, .int 0), (7, .int (nI (24 * L + (12 * ((kk / 2) % 2)) + (2 * (kk / 4)) + 1 - (kk % 2)))), (5, .int 0), (4, .int (nI L)), (0, .ref mo), (1, .int x), (2, .int y), (3, .int v)]) hx hb dX8_find_188 hl (k := 2) rfl (nI_add kk 1) (by decide) rfl (fun ls hl => ?_)
                        refine lv_goto (tgt := 89) hx hb dX8_find_191 (by decide) ?_
                        exact ih ls (lv_sub hl [0, 3, 4, 5, 6, 7, 8] rfl)
                      · have c_16 : (a_15 = 0) := c_16
                        refine lv_goto (tgt := 173) hx hb dX8_find_158 (by decide) ?_
                        refine lv_iconst (v := 1) hx hb dX8_find_173 (by decide) ?_
                        refine lv_goto (tgt := 178) hx hb dX8_find_174 (by decide) ?_
                        refine lv_istore (lv' := [(8, .int 1), (7, .int (nI (24 * L + (12 * ((kk / 2) % 2)) + (2 * (kk / 4)) + 1 - (kk % 2)))), (6, .int (nI kk)), (5, .int 0), (4, .int (nI L)), (0, .ref mo), (1, .int x), (2, .int y), (3, .int v)]) hx hb dX8_find_178 hl (by decide) rfl (fun ls hl => ?_)
                        refine lv_iload hx hb dX8_find_180 (lv_at hl 0 rfl) ?_
                        refine lv_if_eq (tgt := 188) hx hb dX8_find_182 (by decide) (fun c => absurd c (by decide)) (fun _ => ?_)
                        refine lv_iload hx hb dX8_find_185 (lv_at hl 1 rfl) ?_
                        exact W.iret (v := nI (24 * L + (12 * ((kk / 2) % 2)) + (2 * (kk / 4)) + 1 - (kk % 2))) hx hb hr (fun t ht hW => ⟨nI (24 * L + (12 * ((kk / 2) % 2)) + (2 * (kk / 4)) + 1 - (kk % 2)), rfl, Or.inr ⟨24 * L + (12 * ((kk / 2) % 2)) + (2 * (kk / 4)) + 1 - (kk % 2), by omega, rfl, fun z1 z2 q hq e9 => by first | omega⟩, ht⟩) (fun q h => by cases h) dX8_find_187
            · have c_7 : ¬ (2 ≤ r_6) := c_7
              refine lv_goto (tgt := 194) hx hb dX8_find_83 (by decide) ?_
              refine lv_iinc (v := nI (L + 1)) (lv' := [(4, .int (nI (L + 1))), (5, .int 0), (0, .ref mo), (1, .int x), (2, .int y), (3, .int v)]) hx hb dX8_find_194 hl (k := 1) rfl (nI_add L 1) (by decide) rfl (fun ls hl => ?_)
              refine lv_goto (tgt := 3) hx hb dX8_find_197 (by decide) ?_
              exact ih ls (lv_sub hl [0, 2, 3, 4, 5] rfl)
      · have c_2 : ¬ (bz = 0) := fun q_ => c_2 ((nI_eq (a := bz) (b := 0) (by omega) (by omega)).mpr q_)
        refine lv_aload_n hx hb dX8_find_16 rfl (lv_at hl 1 rfl) ?_
        refine va_get (D := (dC, dI)) (ci := 6) (v := .int (nI df)) (C := RX8) (T := TX8) (N := 32) hx hb hts iX8 hown hK hP 0 rfl rfl 22 (by decide) (hts (.fieldLink RX8 74 "ParkTowerModel" "doingFetch" "Z") (by decide +kernel)) (fun _ h9 => h9) rfl dX8_find_17 ?_
        refine lv_if_eq (tgt := 44) hx hb dX8_find_20 (by decide) (fun c_17 => ?_) (fun c_17 => ?_)
        · have c_17 : df = 0 := (nI_eq (a := df) (b := 0) (by omega) (by omega)).mp c_17
          refine lv_iconst (v := 0) hx hb dX8_find_44 (by decide) ?_
          refine lv_istore (lv' := [(5, .int 0), (4, .int (nI L)), (0, .ref mo), (1, .int x), (2, .int y), (3, .int v)]) hx hb dX8_find_45 hl (by decide) rfl (fun ls hl => ?_)
          refine lv_iload hx hb dX8_find_47 (lv_at hl 1 rfl) ?_
          refine lv_iload_n hx hb dX8_find_49 rfl (lv_at hl 3 rfl) ?_
          refine lv_iload_n hx hb dX8_find_50 rfl (lv_at hl 4 rfl) ?_
          refine lv_iload_n hx hb dX8_find_51 rfl (lv_at hl 5 rfl) ?_
          refine pt_cSi (va_runS (As := [.int (nI L), .int x, .int y, .int v]) (rest := []) ⟨hx, hb, hml, hown, hts⟩ (m_fits l dC dI L x y v (by omega)) (cwS 4 hts gX8_find_X8_fits rfl rfl rfl (by decide +kernel) ⟨Nat.le_of_ble_eq_true rfl, Nat.le_of_ble_eq_true rfl⟩) ⟨pt_blind, pt_pre (w := []) (tys := []) (hP.sub [] rfl) (hK.sub [] rfl) hN⟩ rfl rfl hl.1 rfl (lv_room (Nat.le_of_ble_eq_true rfl)) dX8_find_52 ⟨Nat.le_of_ble_eq_true rfl, Nat.le_of_ble_eq_true rfl⟩) (fun r_18 hr_18 => ?_)
          rcases hr_18 with rfl | rfl
          · skip
            refine lv_if_eq (tgt := 194) hx hb dX8_find_55 (by decide) (fun _ => ?_) (fun c => absurd (by decide) c)
            refine lv_iinc (v := nI (L + 1)) (lv' := [(4, .int (nI (L + 1))), (5, .int 0), (0, .ref mo), (1, .int x), (2, .int y), (3, .int v)]) hx hb dX8_find_194 hl (k := 1) rfl (nI_add L 1) (by decide) rfl (fun ls hl => ?_)
            refine lv_goto (tgt := 3) hx hb dX8_find_197 (by decide) ?_
            exact ih ls (lv_sub hl [0, 2, 3, 4, 5] rfl)
          · skip
            refine lv_if_eq (tgt := 194) hx hb dX8_find_55 (by decide) (fun c => absurd c (by decide)) (fun _ => ?_)
            refine lv_aload_n hx hb dX8_find_58 rfl (lv_at hl 2 rfl) ?_
            refine va_get (D := (dC, dI)) (ci := 6) (v := .ref m12) (C := RX8) (T := TX8) (N := 32) hx hb hts iX8 hown hK hP 0 rfl rfl 12 (by decide) (hts (.fieldLink RX8 35 "ParkTowerModel" "jammed" "[Z") (by decide +kernel)) (fun _ h9 => h9) rfl dX8_find_59 ?_
            refine lv_iload hx hb dX8_find_62 (lv_at hl 1 rfl) ?_
            refine va_zald hx hb hK hP 3 2 rfl rfl (vp_in_nI (n := L) (by omega) (by decide)) dX8_find_64 ?_
            refine lv_topi (fun a_19 ea_19 => ?_)
            rw [nI_clamp (n := L) (by omega)] at ea_19
            refine lv_if_ne (tgt := 194) hx hb dX8_find_65 (by decide) (fun c_20 => ?_) (fun c_20 => ?_)
            · have c_20 : ¬ (a_19 = 0) := c_20
              refine lv_iinc (v := nI (L + 1)) (lv' := [(4, .int (nI (L + 1))), (5, .int 0), (0, .ref mo), (1, .int x), (2, .int y), (3, .int v)]) hx hb dX8_find_194 hl (k := 1) rfl (nI_add L 1) (by decide) rfl (fun ls hl => ?_)
              refine lv_goto (tgt := 3) hx hb dX8_find_197 (by decide) ?_
              exact ih ls (lv_sub hl [0, 2, 3, 4, 5] rfl)
            · have c_20 : (a_19 = 0) := c_20
              refine lv_iload hx hb dX8_find_68 (lv_at hl 0 rfl) ?_
              refine lv_if_ne (tgt := 194) hx hb dX8_find_70 (by decide) (fun c => absurd (by decide) c) (fun _ => ?_)
              refine lv_aload_n hx hb dX8_find_73 rfl (lv_at hl 2 rfl) ?_
              refine lv_iload hx hb dX8_find_74 (lv_at hl 1 rfl) ?_
              refine pt_cSi (va_runV (As := [.int (nI L)]) (rest := []) ⟨hx, hb, hml, hown, hts⟩ (m_freeOn l dC dI mo m4 m5 m6 m7 m8 m9 m10 m11 m12 m16 m17 m18 m27 m29 m30 m31 th tm pw rn tg lf mm fo sr nc no bz dg db df sp y7 f7 L (by omega)) (cwV 1 hts gX8_find_X8_freeOn rfl rfl rfl (by decide +kernel) ⟨Nat.le_of_ble_eq_true rfl, Nat.le_of_ble_eq_true rfl⟩) ⟨pt_blind, va_recv hK hP (ci := 6) (q0 := 0) rfl rfl, pt_pre (w := [(mo, .inr (6, [.int th, .int tm, .int (nI sr), .int (nI nc), .ref m4, .ref m5, .ref m6, .ref m7, .ref m8, .ref m9, .ref m10, .ref m11, .ref m12, .int pw, .int rn, .int (nI no), .ref m16, .ref m17, .ref m18, .int (nI bz), .int (nI dg), .int (nI db), .int (nI df), .int (nI sp), .int tg, .int lf, .int mm, .ref m27, .int fo, .ref m29, .ref m30, .ref m31])), (m7, .inl (y7, 96, .inl f7))]) (tys := [(y7, .int)]) (hP.sub [0, 2] rfl) (hK.sub [1] rfl) hN⟩ rfl rfl hl.1 rfl (lv_room (Nat.le_of_ble_eq_true rfl)) dX8_find_76 ⟨Nat.le_of_ble_eq_true rfl, Nat.le_of_ble_eq_true rfl⟩) (fun r_21 hr_21 => ?_)
              refine lv_iconst (v := 2) hx hb dX8_find_79 (by decide) ?_
              refine lv_icmp_ge (tgt := 86) hx hb dX8_find_80 (by decide) (fun c_22 => ?_) (fun c_22 => ?_)
              · have c_22 : (2 ≤ r_21) := c_22
                refine lv_iconst (v := 0) hx hb dX8_find_86 (by decide) ?_
                refine lv_istore (lv' := [(6, .int 0), (5, .int 0), (4, .int (nI L)), (0, .ref mo), (1, .int x), (2, .int y), (3, .int v)]) hx hb dX8_find_87 hl (by decide) rfl (fun ls hl => ?_)
                refine pt_loop 24 (fun kk ls => lv_has ls 9 [(6, .int (nI kk)), (5, .int 0), (4, .int (nI L)), (0, .ref mo), (1, .int x), (2, .int y), (3, .int v)]) (fun ls hI => ?_) (fun kk ls hk hI ih => ?_) (lv_sub hl [0, 1, 2, 3, 4, 5, 6] rfl)
                · have hl := hI
                  have hl : lv_has ls 9 [(6, .int 24), (5, .int 0), (4, .int (nI L)), (0, .ref mo), (1, .int x), (2, .int y), (3, .int v)] := hl
                  refine lv_iload hx hb dX8_find_89 (lv_at hl 0 rfl) ?_
                  refine lv_bipush (v := 24) hx hb dX8_find_91 (by decide) ?_
                  refine lv_icmp_ge (tgt := 194) hx hb dX8_find_93 (by decide) (fun _ => ?_) (fun c => absurd (by decide) c)
                  refine lv_iinc (v := nI (L + 1)) (lv' := [(4, .int (nI (L + 1))), (6, .int 24), (5, .int 0), (0, .ref mo), (1, .int x), (2, .int y), (3, .int v)]) hx hb dX8_find_194 hl (k := 2) rfl (nI_add L 1) (by decide) rfl (fun ls hl => ?_)
                  refine lv_goto (tgt := 3) hx hb dX8_find_197 (by decide) ?_
                  exact ih ls (lv_sub hl [0, 3, 4, 5, 6] rfl)
                · have hl := hI
                  have hl : lv_has ls 9 [(6, .int (nI kk)), (5, .int 0), (4, .int (nI L)), (0, .ref mo), (1, .int x), (2, .int y), (3, .int v)] := hl
                  refine lv_iload hx hb dX8_find_89 (lv_at hl 0 rfl) ?_
                  refine lv_bipush (v := 24) hx hb dX8_find_91 (by decide) ?_
                  refine lv_icmp_ge (tgt := 194) hx hb dX8_find_93 (by decide) (fun c_23 => ?_) (fun c_23 => ?_)
                  · have c_23 : 24 ≤ kk := (nI_leI (a := 24) (b := kk) (by omega) (by omega)).mp c_23
                    exact (by omega : False).elim
                  · have c_23 : ¬ (24 ≤ kk) := fun q_ => c_23 ((nI_leI (a := 24) (b := kk) (by omega) (by omega)).mpr q_)
                    refine lv_bipush (v := 24) hx hb dX8_find_96 (by decide) ?_
                    refine lv_iload hx hb dX8_find_98 (lv_at hl 2 rfl) ?_
                    refine lv_imul hx hb dX8_find_100 ?_
                    refine pt_topi (nI (24 * L)) (pk_mul 24 L) ?_
                    refine lv_bipush (v := 12) hx hb dX8_find_101 (by decide) ?_
                    refine lv_iload hx hb dX8_find_103 (lv_at hl 0 rfl) ?_
                    refine lv_iconst (v := 2) hx hb dX8_find_105 (by decide) ?_
                    refine lv_idiv hx hb dX8_find_106 (by decide) ?_
                    refine pt_topi (nI (kk / 2)) (pk_div (a := kk) (d := 2) (by omega) (by omega) (by omega)) ?_
                    refine lv_iconst (v := 2) hx hb dX8_find_107 (by decide) ?_
                    refine lv_irem hx hb dX8_find_108 (by decide) ?_
                    refine pt_topi (nI ((kk / 2) % 2)) (pk_rem (a := kk / 2) (d := 2) (by omega) (by omega) (by omega)) ?_
                    refine lv_imul hx hb dX8_find_109 ?_
                    refine pt_topi (nI (12 * ((kk / 2) % 2))) (pk_mul 12 ((kk / 2) % 2)) ?_
                    refine lv_iadd hx hb dX8_find_110 ?_
                    refine pt_topi (nI (24 * L + (12 * ((kk / 2) % 2)))) (nI_add (24 * L) (12 * ((kk / 2) % 2))) ?_
                    refine lv_iconst (v := 2) hx hb dX8_find_111 (by decide) ?_
                    refine lv_iload hx hb dX8_find_112 (lv_at hl 0 rfl) ?_
                    refine lv_iconst (v := 4) hx hb dX8_find_114 (by decide) ?_
                    refine lv_idiv hx hb dX8_find_115 (by decide) ?_
                    refine pt_topi (nI (kk / 4)) (pk_div (a := kk) (d := 4) (by omega) (by omega) (by omega)) ?_
                    refine lv_imul hx hb dX8_find_116 ?_
                    refine pt_topi (nI (2 * (kk / 4))) (pk_mul 2 (kk / 4)) ?_
                    refine lv_iadd hx hb dX8_find_117 ?_
                    refine pt_topi (nI (24 * L + (12 * ((kk / 2) % 2)) + (2 * (kk / 4)))) (nI_add (24 * L + (12 * ((kk / 2) % 2))) (2 * (kk / 4))) ?_
                    refine lv_iconst (v := 1) hx hb dX8_find_118 (by decide) ?_
                    refine lv_iadd hx hb dX8_find_119 ?_
                    refine pt_topi (nI (24 * L + (12 * ((kk / 2) % 2)) + (2 * (kk / 4)) + 1)) (nI_add (24 * L + (12 * ((kk / 2) % 2)) + (2 * (kk / 4))) 1) ?_
                    refine lv_iload hx hb dX8_find_120 (lv_at hl 0 rfl) ?_
                    refine lv_iconst (v := 2) hx hb dX8_find_122 (by decide) ?_
                    refine lv_irem hx hb dX8_find_123 (by decide) ?_
                    refine pt_topi (nI (kk % 2)) (pk_rem (a := kk) (d := 2) (by omega) (by omega) (by omega)) ?_
                    refine lv_isub hx hb dX8_find_124 ?_
                    refine pt_topi (nI (24 * L + (12 * ((kk / 2) % 2)) + (2 * (kk / 4)) + 1 - (kk % 2))) (pk_sub (a := 24 * L + (12 * ((kk / 2) % 2)) + (2 * (kk / 4)) + 1) (b := kk % 2) (by omega)) ?_
                    refine lv_istore (lv' := [(7, .int (nI (24 * L + (12 * ((kk / 2) % 2)) + (2 * (kk / 4)) + 1 - (kk % 2)))), (6, .int (nI kk)), (5, .int 0), (4, .int (nI L)), (0, .ref mo), (1, .int x), (2, .int y), (3, .int v)]) hx hb dX8_find_125 hl (by decide) rfl (fun ls hl => ?_)
                    refine lv_aload_n hx hb dX8_find_127 rfl (lv_at hl 4 rfl) ?_
                    refine va_get (D := (dC, dI)) (ci := 6) (v := .ref m7) (C := RX8) (T := TX8) (N := 32) hx hb hts iX8 hown hK hP 0 rfl rfl 7 (by decide) (hts (.fieldLink RX8 19 "ParkTowerModel" "cell" "[I") (by decide +kernel)) (fun _ h9 => h9) rfl dX8_find_128 ?_
                    refine lv_iload hx hb dX8_find_131 (lv_at hl 0 rfl) ?_
                    refine va_iald hx hb hK hP 2 1 rfl rfl (vp_in_nI (n := 24 * L + (12 * ((kk / 2) % 2)) + (2 * (kk / 4)) + 1 - (kk % 2)) (by omega) (by decide)) dX8_find_133 ?_
                    refine lv_topi (fun a_24 ea_24 => ?_)
                    rw [nI_clamp (n := 24 * L + (12 * ((kk / 2) % 2)) + (2 * (kk / 4)) + 1 - (kk % 2)) (by omega)] at ea_24
                    refine lv_if_ne (tgt := 177) hx hb dX8_find_134 (by decide) (fun c_25 => ?_) (fun c_25 => ?_)
                    · have c_25 : ¬ (a_24 = 0) := c_25
                      refine lv_iconst (v := 0) hx hb dX8_find_177 (by decide) ?_
                      refine lv_istore (lv' := [(8, .int 0), (7, .int (nI (24 * L + (12 * ((kk / 2) % 2)) + (2 * (kk / 4)) + 1 - (kk % 2)))), (6, .int (nI kk)), (5, .int 0), (4, .int (nI L)), (0, .ref mo), (1, .int x), (2, .int y), (3, .int v)]) hx hb dX8_find_178 hl (by decide) rfl (fun ls hl => ?_)
                      refine lv_iload hx hb dX8_find_180 (lv_at hl 0 rfl) ?_
                      refine lv_if_eq (tgt := 188) hx hb dX8_find_182 (by decide) (fun _ => ?_) (fun c => absurd (by decide) c)
                      refine lv_iinc (v := nI (kk + 1)) (lv' := [(6, .int (nI (kk + 1))), (8, .int 0), (7, .int (nI (24 * L + (12 * ((kk / 2) % 2)) + (2 * (kk / 4)) + 1 - (kk % 2)))), (5, .int 0), (4, .int (nI L)), (0, .ref mo), (1, .int x), (2, .int y), (3, .int v)]) hx hb dX8_find_188 hl (k := 2) rfl (nI_add kk 1) (by decide) rfl (fun ls hl => ?_)
                      refine lv_goto (tgt := 89) hx hb dX8_find_191 (by decide) ?_
                      exact ih ls (lv_sub hl [0, 3, 4, 5, 6, 7, 8] rfl)
                    · have c_25 : (a_24 = 0) := c_25
                      refine lv_iload hx hb dX8_find_137 (lv_at hl 0 rfl) ?_
                      refine pt_cSi (va_runS (As := [.int (nI (24 * L + (12 * ((kk / 2) % 2)) + (2 * (kk / 4)) + 1 - (kk % 2)))]) (rest := []) ⟨hx, hb, hml, hown, hts⟩ (m_depth l dC dI (24 * L + (12 * ((kk / 2) % 2)) + (2 * (kk / 4)) + 1 - (kk % 2)) (by omega)) (cwS 1 hts gX8_find_X8_depth rfl rfl rfl (by decide +kernel) ⟨Nat.le_of_ble_eq_true rfl, Nat.le_of_ble_eq_true rfl⟩) ⟨pt_blind, pt_pre (w := []) (tys := []) (hP.sub [] rfl) (hK.sub [] rfl) hN⟩ rfl rfl hl.1 rfl (lv_room (Nat.le_of_ble_eq_true rfl)) dX8_find_139 ⟨Nat.le_of_ble_eq_true rfl, Nat.le_of_ble_eq_true rfl⟩) (fun r_26 hr_26 => ?_)
                      obtain rfl : r_26 = nI ((24 * L + (12 * ((kk / 2) % 2)) + (2 * (kk / 4)) + 1 - (kk % 2)) % 2) := hr_26
                      refine lv_iconst (v := 1) hx hb dX8_find_142 (by decide) ?_
                      refine lv_icmp_ne (tgt := 161) hx hb dX8_find_143 (by decide) (fun c_27 => ?_) (fun c_27 => ?_)
                      · have c_27 : ¬ ((24 * L + (12 * ((kk / 2) % 2)) + (2 * (kk / 4)) + 1 - (kk % 2)) % 2 = 1) := fun q_ => c_27 ((nI_eq (a := (24 * L + (12 * ((kk / 2) % 2)) + (2 * (kk / 4)) + 1 - (kk % 2)) % 2) (b := 1) (by omega) (by omega)).mpr q_)
                        refine lv_aload_n hx hb dX8_find_161 rfl (lv_at hl 4 rfl) ?_
                        refine va_get (D := (dC, dI)) (ci := 6) (v := .ref m7) (C := RX8) (T := TX8) (N := 32) hx hb hts iX8 hown hK hP 0 rfl rfl 7 (by decide) (hts (.fieldLink RX8 19 "ParkTowerModel" "cell" "[I") (by decide +kernel)) (fun _ h9 => h9) rfl dX8_find_162 ?_
                        refine lv_iload hx hb dX8_find_165 (lv_at hl 0 rfl) ?_
                        refine lv_iconst (v := 1) hx hb dX8_find_167 (by decide) ?_
                        refine lv_iadd hx hb dX8_find_168 ?_
                        refine pt_topi (nI (24 * L + (12 * ((kk / 2) % 2)) + (2 * (kk / 4)) + 1 - (kk % 2) + 1)) (nI_add (24 * L + (12 * ((kk / 2) % 2)) + (2 * (kk / 4)) + 1 - (kk % 2)) 1) ?_
                        refine va_iald hx hb hK hP 2 1 rfl rfl (vp_in_nI (n := 24 * L + (12 * ((kk / 2) % 2)) + (2 * (kk / 4)) + 1 - (kk % 2) + 1) (by omega) (by decide)) dX8_find_169 ?_
                        refine lv_topi (fun a_28 ea_28 => ?_)
                        rw [nI_clamp (n := 24 * L + (12 * ((kk / 2) % 2)) + (2 * (kk / 4)) + 1 - (kk % 2) + 1) (by omega)] at ea_28
                        refine lv_if_le (tgt := 177) hx hb dX8_find_170 (by decide) (fun c_29 => ?_) (fun c_29 => ?_)
                        · have c_29 : (a_28 ≤ 0) := c_29
                          refine lv_iconst (v := 0) hx hb dX8_find_177 (by decide) ?_
                          refine lv_istore (lv' := [(8, .int 0), (7, .int (nI (24 * L + (12 * ((kk / 2) % 2)) + (2 * (kk / 4)) + 1 - (kk % 2)))), (6, .int (nI kk)), (5, .int 0), (4, .int (nI L)), (0, .ref mo), (1, .int x), (2, .int y), (3, .int v)]) hx hb dX8_find_178 hl (by decide) rfl (fun ls hl => ?_)
                          refine lv_iload hx hb dX8_find_180 (lv_at hl 0 rfl) ?_
                          refine lv_if_eq (tgt := 188) hx hb dX8_find_182 (by decide) (fun _ => ?_) (fun c => absurd (by decide) c)
                          refine lv_iinc (v := nI (kk + 1)) (lv' := [(6, .int (nI (kk + 1))), (8, .int 0), (7, .int (nI (24 * L + (12 * ((kk / 2) % 2)) + (2 * (kk / 4)) + 1 - (kk % 2)))), (5, .int 0), (4, .int (nI L)), (0, .ref mo), (1, .int x), (2, .int y), (3, .int v)]) hx hb dX8_find_188 hl (k := 2) rfl (nI_add kk 1) (by decide) rfl (fun ls hl => ?_)
                          refine lv_goto (tgt := 89) hx hb dX8_find_191 (by decide) ?_
                          exact ih ls (lv_sub hl [0, 3, 4, 5, 6, 7, 8] rfl)
                        · have c_29 : ¬ (a_28 ≤ 0) := c_29
                          refine lv_iconst (v := 1) hx hb dX8_find_173 (by decide) ?_
                          refine lv_goto (tgt := 178) hx hb dX8_find_174 (by decide) ?_
                          refine lv_istore (lv' := [(8, .int 1), (7, .int (nI (24 * L + (12 * ((kk / 2) % 2)) + (2 * (kk / 4)) + 1 - (kk % 2)))), (6, .int (nI kk)), (5, .int 0), (4, .int (nI L)), (0, .ref mo), (1, .int x), (2, .int y), (3, .int v)]) hx hb dX8_find_178 hl (by decide) rfl (fun ls hl => ?_)
                          refine lv_iload hx hb dX8_find_180 (lv_at hl 0 rfl) ?_
                          refine lv_if_eq (tgt := 188) hx hb dX8_find_182 (by decide) (fun c => absurd c (by decide)) (fun _ => ?_)
                          refine lv_iload hx hb dX8_find_185 (lv_at hl 1 rfl) ?_
                          exact W.iret (v := nI (24 * L + (12 * ((kk / 2) % 2)) + (2 * (kk / 4)) + 1 - (kk % 2))) hx hb hr (fun t ht hW => ⟨nI (24 * L + (12 * ((kk / 2) % 2)) + (2 * (kk / 4)) + 1 - (kk % 2)), rfl, Or.inr ⟨24 * L + (12 * ((kk / 2) % 2)) + (2 * (kk / 4)) + 1 - (kk % 2), by omega, rfl, fun z1 z2 q hq e9 => by first | omega⟩, ht⟩) (fun q h => by cases h) dX8_find_187
                      · have c_27 : (24 * L + (12 * ((kk / 2) % 2)) + (2 * (kk / 4)) + 1 - (kk % 2)) % 2 = 1 := (nI_eq (a := (24 * L + (12 * ((kk / 2) % 2)) + (2 * (kk / 4)) + 1 - (kk % 2)) % 2) (b := 1) (by omega) (by omega)).mp c_27
                        refine lv_aload_n hx hb dX8_find_146 rfl (lv_at hl 4 rfl) ?_
                        refine va_get (D := (dC, dI)) (ci := 6) (v := .ref m7) (C := RX8) (T := TX8) (N := 32) hx hb hts iX8 hown hK hP 0 rfl rfl 7 (by decide) (hts (.fieldLink RX8 19 "ParkTowerModel" "cell" "[I") (by decide +kernel)) (fun _ h9 => h9) rfl dX8_find_147 ?_
                        refine lv_iload hx hb dX8_find_150 (lv_at hl 0 rfl) ?_
                        refine lv_iconst (v := 1) hx hb dX8_find_152 (by decide) ?_
                        refine lv_isub hx hb dX8_find_153 ?_
                        refine pt_topi (nI (24 * L + (12 * ((kk / 2) % 2)) + (2 * (kk / 4)) + 1 - (kk % 2) - 1)) (pk_sub (a := 24 * L + (12 * ((kk / 2) % 2)) + (2 * (kk / 4)) + 1 - (kk % 2)) (b := 1) (by omega)) ?_
                        refine va_iald hx hb hK hP 2 1 rfl rfl (vp_in_nI (n := 24 * L + (12 * ((kk / 2) % 2)) + (2 * (kk / 4)) + 1 - (kk % 2) - 1) (by omega) (by decide)) dX8_find_154 ?_
                        refine lv_topi (fun a_30 ea_30 => ?_)
                        rw [nI_clamp (n := 24 * L + (12 * ((kk / 2) % 2)) + (2 * (kk / 4)) + 1 - (kk % 2) - 1) (by omega)] at ea_30
                        refine lv_if_ne (tgt := 177) hx hb dX8_find_155 (by decide) (fun c_31 => ?_) (fun c_31 => ?_)
                        · have c_31 : ¬ (a_30 = 0) := c_31
                          refine lv_iconst (v := 0) hx hb dX8_find_177 (by decide) ?_
                          refine lv_istore (lv' := [(8, .int 0), (7, .int (nI (24 * L + (12 * ((kk / 2) % 2)) + (2 * (kk / 4)) + 1 - (kk % 2)))), (6, .int (nI kk)), (5, .int 0), (4, .int (nI L)), (0, .ref mo), (1, .int x), (2, .int y), (3, .int v)]) hx hb dX8_find_178 hl (by decide) rfl (fun ls hl => ?_)
                          refine lv_iload hx hb dX8_find_180 (lv_at hl 0 rfl) ?_
                          refine lv_if_eq (tgt := 188) hx hb dX8_find_182 (by decide) (fun _ => ?_) (fun c => absurd (by decide) c)
                          refine lv_iinc (v := nI (kk + 1)) (lv' := [(6, .int (nI (kk + 1))), (8, .int 0), (7, .int (nI (24 * L + (12 * ((kk / 2) % 2)) + (2 * (kk / 4)) + 1 - (kk % 2)))), (5, .int 0), (4, .int (nI L)), (0, .ref mo), (1, .int x), (2, .int y), (3, .int v)]) hx hb dX8_find_188 hl (k := 2) rfl (nI_add kk 1) (by decide) rfl (fun ls hl => ?_)
                          refine lv_goto (tgt := 89) hx hb dX8_find_191 (by decide) ?_
                          exact ih ls (lv_sub hl [0, 3, 4, 5, 6, 7, 8] rfl)
                        · have c_31 : (a_30 = 0) := c_31
                          refine lv_goto (tgt := 173) hx hb dX8_find_158 (by decide) ?_
                          refine lv_iconst (v := 1) hx hb dX8_find_173 (by decide) ?_
                          refine lv_goto (tgt := 178) hx hb dX8_find_174 (by decide) ?_
                          refine lv_istore (lv' := [(8, .int 1), (7, .int (nI (24 * L + (12 * ((kk / 2) % 2)) + (2 * (kk / 4)) + 1 - (kk % 2)))), (6, .int (nI kk)), (5, .int 0), (4, .int (nI L)), (0, .ref mo), (1, .int x), (2, .int y), (3, .int v)]) hx hb dX8_find_178 hl (by decide) rfl (fun ls hl => ?_)
                          refine lv_iload hx hb dX8_find_180 (lv_at hl 0 rfl) ?_
                          refine lv_if_eq (tgt := 188) hx hb dX8_find_182 (by decide) (fun c => absurd c (by decide)) (fun _ => ?_)
                          refine lv_iload hx hb dX8_find_185 (lv_at hl 1 rfl) ?_
                          exact W.iret (v := nI (24 * L + (12 * ((kk / 2) % 2)) + (2 * (kk / 4)) + 1 - (kk % 2))) hx hb hr (fun t ht hW => ⟨nI (24 * L + (12 * ((kk / 2) % 2)) + (2 * (kk / 4)) + 1 - (kk % 2)), rfl, Or.inr ⟨24 * L + (12 * ((kk / 2) % 2)) + (2 * (kk / 4)) + 1 - (kk % 2), by omega, rfl, fun z1 z2 q hq e9 => by first | omega⟩, ht⟩) (fun q h => by cases h) dX8_find_187
              · have c_22 : ¬ (2 ≤ r_21) := c_22
                refine lv_goto (tgt := 194) hx hb dX8_find_83 (by decide) ?_
                refine lv_iinc (v := nI (L + 1)) (lv' := [(4, .int (nI (L + 1))), (5, .int 0), (0, .ref mo), (1, .int x), (2, .int y), (3, .int v)]) hx hb dX8_find_194 hl (k := 1) rfl (nI_add L 1) (by decide) rfl (fun ls hl => ?_)
                refine lv_goto (tgt := 3) hx hb dX8_find_197 (by decide) ?_
                exact ih ls (lv_sub hl [0, 2, 3, 4, 5] rfl)
        · have c_17 : ¬ (df = 0) := fun q_ => c_17 ((nI_eq (a := df) (b := 0) (by omega) (by omega)).mpr q_)
          refine lv_aload_n hx hb dX8_find_23 rfl (lv_at hl 1 rfl) ?_
          refine va_get (D := (dC, dI)) (ci := 6) (v := .ref m6) (C := RX8) (T := TX8) (N := 32) hx hb hts iX8 hown hK hP 0 rfl rfl 6 (by decide) (hts (.fieldLink RX8 16 "ParkTowerModel" "place" "[I") (by decide +kernel)) (fun _ h9 => h9) rfl dX8_find_24 ?_
          refine lv_aload_n hx hb dX8_find_27 rfl (lv_at hl 1 rfl) ?_
          refine va_get (D := (dC, dI)) (ci := 6) (v := .int (nI dg)) (C := RX8) (T := TX8) (N := 32) hx hb hts iX8 hown hK hP 0 rfl rfl 20 (by decide) (hts (.fieldLink RX8 77 "ParkTowerModel" "doing" "I") (by decide +kernel)) (fun _ h9 => h9) rfl dX8_find_28 ?_
          refine va_iald hx hb hK hP 1 0 rfl rfl (vp_in_nI (n := dg) (by omega) (by decide)) dX8_find_31 ?_
          refine lv_topi (fun a_32 ea_32 => ?_)
          rw [nI_clamp (n := dg) (by omega)] at ea_32
          obtain ⟨j_32, hj_32, rfl⟩ := (show sC a_32 by rw [ea_32]; exact hp _)
          refine pt_cSi (va_runS (As := [.int (nI j_32)]) (rest := []) ⟨hx, hb, hml, hown, hts⟩ (m_level l dC dI j_32 (by omega)) (cwS 1 hts gX8_find_X8_level rfl rfl rfl (by decide +kernel) ⟨Nat.le_of_ble_eq_true rfl, Nat.le_of_ble_eq_true rfl⟩) ⟨pt_blind, pt_pre (w := []) (tys := []) (hP.sub [] rfl) (hK.sub [] rfl) hN⟩ rfl rfl hl.1 rfl (lv_room (Nat.le_of_ble_eq_true rfl)) dX8_find_32 ⟨Nat.le_of_ble_eq_true rfl, Nat.le_of_ble_eq_true rfl⟩) (fun r_33 hr_33 => ?_)
          obtain rfl : r_33 = nI (j_32 / 24) := hr_33
          refine lv_iload hx hb dX8_find_35 (lv_at hl 0 rfl) ?_
          refine lv_icmp_ne (tgt := 44) hx hb dX8_find_37 (by decide) (fun c_34 => ?_) (fun c_34 => ?_)
          · have c_34 : ¬ (j_32 / 24 = L) := fun q_ => c_34 ((nI_eq (a := j_32 / 24) (b := L) (by omega) (by omega)).mpr q_)
            refine lv_iconst (v := 0) hx hb dX8_find_44 (by decide) ?_
            refine lv_istore (lv' := [(5, .int 0), (4, .int (nI L)), (0, .ref mo), (1, .int x), (2, .int y), (3, .int v)]) hx hb dX8_find_45 hl (by decide) rfl (fun ls hl => ?_)
            refine lv_iload hx hb dX8_find_47 (lv_at hl 1 rfl) ?_
            refine lv_iload_n hx hb dX8_find_49 rfl (lv_at hl 3 rfl) ?_
            refine lv_iload_n hx hb dX8_find_50 rfl (lv_at hl 4 rfl) ?_
            refine lv_iload_n hx hb dX8_find_51 rfl (lv_at hl 5 rfl) ?_
            refine pt_cSi (va_runS (As := [.int (nI L), .int x, .int y, .int v]) (rest := []) ⟨hx, hb, hml, hown, hts⟩ (m_fits l dC dI L x y v (by omega)) (cwS 4 hts gX8_find_X8_fits rfl rfl rfl (by decide +kernel) ⟨Nat.le_of_ble_eq_true rfl, Nat.le_of_ble_eq_true rfl⟩) ⟨pt_blind, pt_pre (w := []) (tys := []) (hP.sub [] rfl) (hK.sub [] rfl) hN⟩ rfl rfl hl.1 rfl (lv_room (Nat.le_of_ble_eq_true rfl)) dX8_find_52 ⟨Nat.le_of_ble_eq_true rfl, Nat.le_of_ble_eq_true rfl⟩) (fun r_35 hr_35 => ?_)
            rcases hr_35 with rfl | rfl
            · skip
              refine lv_if_eq (tgt := 194) hx hb dX8_find_55 (by decide) (fun _ => ?_) (fun c => absurd (by decide) c)
              refine lv_iinc (v := nI (L + 1)) (lv' := [(4, .int (nI (L + 1))), (5, .int 0), (0, .ref mo), (1, .int x), (2, .int y), (3, .int v)]) hx hb dX8_find_194 hl (k := 1) rfl (nI_add L 1) (by decide) rfl (fun ls hl => ?_)
              refine lv_goto (tgt := 3) hx hb dX8_find_197 (by decide) ?_
              exact ih ls (lv_sub hl [0, 2, 3, 4, 5] rfl)
            · skip
              refine lv_if_eq (tgt := 194) hx hb dX8_find_55 (by decide) (fun c => absurd c (by decide)) (fun _ => ?_)
              refine lv_aload_n hx hb dX8_find_58 rfl (lv_at hl 2 rfl) ?_
              refine va_get (D := (dC, dI)) (ci := 6) (v := .ref m12) (C := RX8) (T := TX8) (N := 32) hx hb hts iX8 hown hK hP 0 rfl rfl 12 (by decide) (hts (.fieldLink RX8 35 "ParkTowerModel" "jammed" "[Z") (by decide +kernel)) (fun _ h9 => h9) rfl dX8_find_59 ?_
              refine lv_iload hx hb dX8_find_62 (lv_at hl 1 rfl) ?_
              refine va_zald hx hb hK hP 3 2 rfl rfl (vp_in_nI (n := L) (by omega) (by decide)) dX8_find_64 ?_
              refine lv_topi (fun a_36 ea_36 => ?_)
              rw [nI_clamp (n := L) (by omega)] at ea_36
              refine lv_if_ne (tgt := 194) hx hb dX8_find_65 (by decide) (fun c_37 => ?_) (fun c_37 => ?_)
              · have c_37 : ¬ (a_36 = 0) := c_37
                refine lv_iinc (v := nI (L + 1)) (lv' := [(4, .int (nI (L + 1))), (5, .int 0), (0, .ref mo), (1, .int x), (2, .int y), (3, .int v)]) hx hb dX8_find_194 hl (k := 1) rfl (nI_add L 1) (by decide) rfl (fun ls hl => ?_)
                refine lv_goto (tgt := 3) hx hb dX8_find_197 (by decide) ?_
                exact ih ls (lv_sub hl [0, 2, 3, 4, 5] rfl)
              · have c_37 : (a_36 = 0) := c_37
                refine lv_iload hx hb dX8_find_68 (lv_at hl 0 rfl) ?_
                refine lv_if_ne (tgt := 194) hx hb dX8_find_70 (by decide) (fun c => absurd (by decide) c) (fun _ => ?_)
                refine lv_aload_n hx hb dX8_find_73 rfl (lv_at hl 2 rfl) ?_
                refine lv_iload hx hb dX8_find_74 (lv_at hl 1 rfl) ?_
                refine pt_cSi (va_runV (As := [.int (nI L)]) (rest := []) ⟨hx, hb, hml, hown, hts⟩ (m_freeOn l dC dI mo m4 m5 m6 m7 m8 m9 m10 m11 m12 m16 m17 m18 m27 m29 m30 m31 th tm pw rn tg lf mm fo sr nc no bz dg db df sp y7 f7 L (by omega)) (cwV 1 hts gX8_find_X8_freeOn rfl rfl rfl (by decide +kernel) ⟨Nat.le_of_ble_eq_true rfl, Nat.le_of_ble_eq_true rfl⟩) ⟨pt_blind, va_recv hK hP (ci := 6) (q0 := 0) rfl rfl, pt_pre (w := [(mo, .inr (6, [.int th, .int tm, .int (nI sr), .int (nI nc), .ref m4, .ref m5, .ref m6, .ref m7, .ref m8, .ref m9, .ref m10, .ref m11, .ref m12, .int pw, .int rn, .int (nI no), .ref m16, .ref m17, .ref m18, .int (nI bz), .int (nI dg), .int (nI db), .int (nI df), .int (nI sp), .int tg, .int lf, .int mm, .ref m27, .int fo, .ref m29, .ref m30, .ref m31])), (m7, .inl (y7, 96, .inl f7))]) (tys := [(y7, .int)]) (hP.sub [0, 2] rfl) (hK.sub [1] rfl) hN⟩ rfl rfl hl.1 rfl (lv_room (Nat.le_of_ble_eq_true rfl)) dX8_find_76 ⟨Nat.le_of_ble_eq_true rfl, Nat.le_of_ble_eq_true rfl⟩) (fun r_38 hr_38 => ?_)
                refine lv_iconst (v := 2) hx hb dX8_find_79 (by decide) ?_
                refine lv_icmp_ge (tgt := 86) hx hb dX8_find_80 (by decide) (fun c_39 => ?_) (fun c_39 => ?_)
                · have c_39 : (2 ≤ r_38) := c_39
                  refine lv_iconst (v := 0) hx hb dX8_find_86 (by decide) ?_
                  refine lv_istore (lv' := [(6, .int 0), (5, .int 0), (4, .int (nI L)), (0, .ref mo), (1, .int x), (2, .int y), (3, .int v)]) hx hb dX8_find_87 hl (by decide) rfl (fun ls hl => ?_)
                  refine pt_loop 24 (fun kk ls => lv_has ls 9 [(6, .int (nI kk)), (5, .int 0), (4, .int (nI L)), (0, .ref mo), (1, .int x), (2, .int y), (3, .int v)]) (fun ls hI => ?_) (fun kk ls hk hI ih => ?_) (lv_sub hl [0, 1, 2, 3, 4, 5, 6] rfl)
                  · have hl := hI
                    have hl : lv_has ls 9 [(6, .int 24), (5, .int 0), (4, .int (nI L)), (0, .ref mo), (1, .int x), (2, .int y), (3, .int v)] := hl
                    refine lv_iload hx hb dX8_find_89 (lv_at hl 0 rfl) ?_
                    refine lv_bipush (v := 24) hx hb dX8_find_91 (by decide) ?_
                    refine lv_icmp_ge (tgt := 194) hx hb dX8_find_93 (by decide) (fun _ => ?_) (fun c => absurd (by decide) c)
                    refine lv_iinc (v := nI (L + 1)) (lv' := [(4, .int (nI (L + 1))), (6, .int 24), (5, .int 0), (0, .ref mo), (1, .int x), (2, .int y), (3, .int v)]) hx hb dX8_find_194 hl (k := 2) rfl (nI_add L 1) (by decide) rfl (fun ls hl => ?_)
                    refine lv_goto (tgt := 3) hx hb dX8_find_197 (by decide) ?_
                    exact ih ls (lv_sub hl [0, 3, 4, 5, 6] rfl)
                  · have hl := hI
                    have hl : lv_has ls 9 [(6, .int (nI kk)), (5, .int 0), (4, .int (nI L)), (0, .ref mo), (1, .int x), (2, .int y), (3, .int v)] := hl
                    refine lv_iload hx hb dX8_find_89 (lv_at hl 0 rfl) ?_
                    refine lv_bipush (v := 24) hx hb dX8_find_91 (by decide) ?_
                    refine lv_icmp_ge (tgt := 194) hx hb dX8_find_93 (by decide) (fun c_40 => ?_) (fun c_40 => ?_)
                    · have c_40 : 24 ≤ kk := (nI_leI (a := 24) (b := kk) (by omega) (by omega)).mp c_40
                      exact (by omega : False).elim
                    · have c_40 : ¬ (24 ≤ kk) := fun q_ => c_40 ((nI_leI (a := 24) (b := kk) (by omega) (by omega)).mpr q_)
                      refine lv_bipush (v := 24) hx hb dX8_find_96 (by decide) ?_
                      refine lv_iload hx hb dX8_find_98 (lv_at hl 2 rfl) ?_
                      refine lv_imul hx hb dX8_find_100 ?_
                      refine pt_topi (nI (24 * L)) (pk_mul 24 L) ?_
                      refine lv_bipush (v := 12) hx hb dX8_find_101 (by decide) ?_
                      refine lv_iload hx hb dX8_find_103 (lv_at hl 0 rfl) ?_
                      refine lv_iconst (v := 2) hx hb dX8_find_105 (by decide) ?_
                      refine lv_idiv hx hb dX8_find_106 (by decide) ?_
                      refine pt_topi (nI (kk / 2)) (pk_div (a := kk) (d := 2) (by omega) (by omega) (by omega)) ?_
                      refine lv_iconst (v := 2) hx hb dX8_find_107 (by decide) ?_
                      refine lv_irem hx hb dX8_find_108 (by decide) ?_
                      refine pt_topi (nI ((kk / 2) % 2)) (pk_rem (a := kk / 2) (d := 2) (by omega) (by omega) (by omega)) ?_
                      refine lv_imul hx hb dX8_find_109 ?_
                      refine pt_topi (nI (12 * ((kk / 2) % 2))) (pk_mul 12 ((kk / 2) % 2)) ?_
                      refine lv_iadd hx hb dX8_find_110 ?_
                      refine pt_topi (nI (24 * L + (12 * ((kk / 2) % 2)))) (nI_add (24 * L) (12 * ((kk / 2) % 2))) ?_
                      refine lv_iconst (v := 2) hx hb dX8_find_111 (by decide) ?_
                      refine lv_iload hx hb dX8_find_112 (lv_at hl 0 rfl) ?_
                      refine lv_iconst (v := 4) hx hb dX8_find_114 (by decide) ?_
                      refine lv_idiv hx hb dX8_find_115 (by decide) ?_
                      refine pt_topi (nI (kk / 4)) (pk_div (a := kk) (d := 4) (by omega) (by omega) (by omega)) ?_
                      refine lv_imul hx hb dX8_find_116 ?_
                      refine pt_topi (nI (2 * (kk / 4))) (pk_mul 2 (kk / 4)) ?_
                      refine lv_iadd hx hb dX8_find_117 ?_
                      refine pt_topi (nI (24 * L + (12 * ((kk / 2) % 2)) + (2 * (kk / 4)))) (nI_add (24 * L + (12 * ((kk / 2) % 2))) (2 * (kk / 4))) ?_
                      refine lv_iconst (v := 1) hx hb dX8_find_118 (by decide) ?_
                      refine lv_iadd hx hb dX8_find_119 ?_
                      refine pt_topi (nI (24 * L + (12 * ((kk / 2) % 2)) + (2 * (kk / 4)) + 1)) (nI_add (24 * L + (12 * ((kk / 2) % 2)) + (2 * (kk / 4))) 1) ?_
                      refine lv_iload hx hb dX8_find_120 (lv_at hl 0 rfl) ?_
                      refine lv_iconst (v := 2) hx hb dX8_find_122 (by decide) ?_
                      refine lv_irem hx hb dX8_find_123 (by decide) ?_
                      refine pt_topi (nI (kk % 2)) (pk_rem (a := kk) (d := 2) (by omega) (by omega) (by omega)) ?_
                      refine lv_isub hx hb dX8_find_124 ?_
                      refine pt_topi (nI (24 * L + (12 * ((kk / 2) % 2)) + (2 * (kk / 4)) + 1 - (kk % 2))) (pk_sub (a := 24 * L + (12 * ((kk / 2) % 2)) + (2 * (kk / 4)) + 1) (b := kk % 2) (by omega)) ?_
                      refine lv_istore (lv' := [(7, .int (nI (24 * L + (12 * ((kk / 2) % 2)) + (2 * (kk / 4)) + 1 - (kk % 2)))), (6, .int (nI kk)), (5, .int 0), (4, .int (nI L)), (0, .ref mo), (1, .int x), (2, .int y), (3, .int v)]) hx hb dX8_find_125 hl (by decide) rfl (fun ls hl => ?_)
                      refine lv_aload_n hx hb dX8_find_127 rfl (lv_at hl 4 rfl) ?_
                      refine va_get (D := (dC, dI)) (ci := 6) (v := .ref m7) (C := RX8) (T := TX8) (N := 32) hx hb hts iX8 hown hK hP 0 rfl rfl 7 (by decide) (hts (.fieldLink RX8 19 "ParkTowerModel" "cell" "[I") (by decide +kernel)) (fun _ h9 => h9) rfl dX8_find_128 ?_
                      refine lv_iload hx hb dX8_find_131 (lv_at hl 0 rfl) ?_
                      refine va_iald hx hb hK hP 2 1 rfl rfl (vp_in_nI (n := 24 * L + (12 * ((kk / 2) % 2)) + (2 * (kk / 4)) + 1 - (kk % 2)) (by omega) (by decide)) dX8_find_133 ?_
                      refine lv_topi (fun a_41 ea_41 => ?_)
                      rw [nI_clamp (n := 24 * L + (12 * ((kk / 2) % 2)) + (2 * (kk / 4)) + 1 - (kk % 2)) (by omega)] at ea_41
                      refine lv_if_ne (tgt := 177) hx hb dX8_find_134 (by decide) (fun c_42 => ?_) (fun c_42 => ?_)
                      · have c_42 : ¬ (a_41 = 0) := c_42
                        refine lv_iconst (v := 0) hx hb dX8_find_177 (by decide) ?_
                        refine lv_istore (lv' := [(8, .int 0), (7, .int (nI (24 * L + (12 * ((kk / 2) % 2)) + (2 * (kk / 4)) + 1 - (kk % 2)))), (6, .int (nI kk)), (5, .int 0), (4, .int (nI L)), (0, .ref mo), (1, .int x), (2, .int y), (3, .int v)]) hx hb dX8_find_178 hl (by decide) rfl (fun ls hl => ?_)
                        refine lv_iload hx hb dX8_find_180 (lv_at hl 0 rfl) ?_
                        refine lv_if_eq (tgt := 188) hx hb dX8_find_182 (by decide) (fun _ => ?_) (fun c => absurd (by decide) c)
                        refine lv_iinc (v := nI (kk + 1)) (lv' := [(6, .int (nI (kk + 1))), (8, .int 0), (7, .int (nI (24 * L + (12 * ((kk / 2) % 2)) + (2 * (kk / 4)) + 1 - (kk % 2)))), (5, .int 0), (4, .int (nI L)), (0, .ref mo), (1, .int x), (2, .int y), (3, .int v)]) hx hb dX8_find_188 hl (k := 2) rfl (nI_add kk 1) (by decide) rfl (fun ls hl => ?_)
                        refine lv_goto (tgt := 89) hx hb dX8_find_191 (by decide) ?_
                        exact ih ls (lv_sub hl [0, 3, 4, 5, 6, 7, 8] rfl)
                      · have c_42 : (a_41 = 0) := c_42
                        refine lv_iload hx hb dX8_find_137 (lv_at hl 0 rfl) ?_
                        refine pt_cSi (va_runS (As := [.int (nI (24 * L + (12 * ((kk / 2) % 2)) + (2 * (kk / 4)) + 1 - (kk % 2)))]) (rest := []) ⟨hx, hb, hml, hown, hts⟩ (m_depth l dC dI (24 * L + (12 * ((kk / 2) % 2)) + (2 * (kk / 4)) + 1 - (kk % 2)) (by omega)) (cwS 1 hts gX8_find_X8_depth rfl rfl rfl (by decide +kernel) ⟨Nat.le_of_ble_eq_true rfl, Nat.le_of_ble_eq_true rfl⟩) ⟨pt_blind, pt_pre (w := []) (tys := []) (hP.sub [] rfl) (hK.sub [] rfl) hN⟩ rfl rfl hl.1 rfl (lv_room (Nat.le_of_ble_eq_true rfl)) dX8_find_139 ⟨Nat.le_of_ble_eq_true rfl, Nat.le_of_ble_eq_true rfl⟩) (fun r_43 hr_43 => ?_)
                        obtain rfl : r_43 = nI ((24 * L + (12 * ((kk / 2) % 2)) + (2 * (kk / 4)) + 1 - (kk % 2)) % 2) := hr_43
                        refine lv_iconst (v := 1) hx hb dX8_find_142 (by decide) ?_
                        refine lv_icmp_ne (tgt := 161) hx hb dX8_find_143 (by decide) (fun c_44 => ?_) (fun c_44 => ?_)
                        · have c_44 : ¬ ((24 * L + (12 * ((kk / 2) % 2)) + (2 * (kk / 4)) + 1 - (kk % 2)) % 2 = 1) := fun q_ => c_44 ((nI_eq (a := (24 * L + (12 * ((kk / 2) % 2)) + (2 * (kk / 4)) + 1 - (kk % 2)) % 2) (b := 1) (by omega) (by omega)).mpr q_)
                          refine lv_aload_n hx hb dX8_find_161 rfl (lv_at hl 4 rfl) ?_
                          refine va_get (D := (dC, dI)) (ci := 6) (v := .ref m7) (C := RX8) (T := TX8) (N := 32) hx hb hts iX8 hown hK hP 0 rfl rfl 7 (by decide) (hts (.fieldLink RX8 19 "ParkTowerModel" "cell" "[I") (by decide +kernel)) (fun _ h9 => h9) rfl dX8_find_162 ?_
                          refine lv_iload hx hb dX8_find_165 (lv_at hl 0 rfl) ?_
                          refine lv_iconst (v := 1) hx hb dX8_find_167 (by decide) ?_
                          refine lv_iadd hx hb dX8_find_168 ?_
                          refine pt_topi (nI (24 * L + (12 * ((kk / 2) % 2)) + (2 * (kk / 4)) + 1 - (kk % 2) + 1)) (nI_add (24 * L + (12 * ((kk / 2) % 2)) + (2 * (kk / 4)) + 1 - (kk % 2)) 1) ?_
                          refine va_iald hx hb hK hP 2 1 rfl rfl (vp_in_nI (n := 24 * L + (12 * ((kk / 2) % 2)) + (2 * (kk / 4)) + 1 - (kk % 2) + 1) (by omega) (by decide)) dX8_find_169 ?_
                          refine lv_topi (fun a_45 ea_45 => ?_)
                          rw [nI_clamp (n := 24 * L + (12 * ((kk / 2) % 2)) + (2 * (kk / 4)) + 1 - (kk % 2) + 1) (by omega)] at ea_45
                          refine lv_if_le (tgt := 177) hx hb dX8_find_170 (by decide) (fun c_46 => ?_) (fun c_46 => ?_)
                          · have c_46 : (a_45 ≤ 0) := c_46
                            refine lv_iconst (v := 0) hx hb dX8_find_177 (by decide) ?_
                            refine lv_istore (lv' := [(8, .int 0), (7, .int (nI (24 * L + (12 * ((kk / 2) % 2)) + (2 * (kk / 4)) + 1 - (kk % 2)))), (6, .int (nI kk)), (5, .int 0), (4, .int (nI L)), (0, .ref mo), (1, .int x), (2, .int y), (3, .int v)]) hx hb dX8_find_178 hl (by decide) rfl (fun ls hl => ?_)
                            refine lv_iload hx hb dX8_find_180 (lv_at hl 0 rfl) ?_
                            refine lv_if_eq (tgt := 188) hx hb dX8_find_182 (by decide) (fun _ => ?_) (fun c => absurd (by decide) c)
                            refine lv_iinc (v := nI (kk + 1)) (lv' := [(6, .int (nI (kk + 1))), (8, .int 0), (7, .int (nI (24 * L + (12 * ((kk / 2) % 2)) + (2 * (kk / 4)) + 1 - (kk % 2)))), (5, .int 0), (4, .int (nI L)), (0, .ref mo), (1, .int x), (2, .int y), (3, .int v)]) hx hb dX8_find_188 hl (k := 2) rfl (nI_add kk 1) (by decide) rfl (fun ls hl => ?_)
                            refine lv_goto (tgt := 89) hx hb dX8_find_191 (by decide) ?_
                            exact ih ls (lv_sub hl [0, 3, 4, 5, 6, 7, 8] rfl)
                          · have c_46 : ¬ (a_45 ≤ 0) := c_46
                            refine lv_iconst (v := 1) hx hb dX8_find_173 (by decide) ?_
                            refine lv_goto (tgt := 178) hx hb dX8_find_174 (by decide) ?_
                            refine lv_istore (lv' := [(8, .int 1), (7, .int (nI (24 * L + (12 * ((kk / 2) % 2)) + (2 * (kk / 4)) + 1 - (kk % 2)))), (6, .int (nI kk)), (5, .int 0), (4, .int (nI L)), (0, .ref mo), (1, .int x), (2, .int y), (3, .int v)]) hx hb dX8_find_178 hl (by decide) rfl (fun ls hl => ?_)
                            refine lv_iload hx hb dX8_find_180 (lv_at hl 0 rfl) ?_
                            refine lv_if_eq (tgt := 188) hx hb dX8_find_182 (by decide) (fun c => absurd c (by decide)) (fun _ => ?_)
                            refine lv_iload hx hb dX8_find_185 (lv_at hl 1 rfl) ?_
                            exact W.iret (v := nI (24 * L + (12 * ((kk / 2) % 2)) + (2 * (kk / 4)) + 1 - (kk % 2))) hx hb hr (fun t ht hW => ⟨nI (24 * L + (12 * ((kk / 2) % 2)) + (2 * (kk / 4)) + 1 - (kk % 2)), rfl, Or.inr ⟨24 * L + (12 * ((kk / 2) % 2)) + (2 * (kk / 4)) + 1 - (kk % 2), by omega, rfl, fun z1 z2 q hq e9 => by first | omega | (have e8 := (nI_eq (a := j_32) (b := q) (by omega) (by omega)).mp (ea_32.trans e9); omega)⟩, ht⟩) (fun q h => by cases h) dX8_find_187
                        · have c_44 : (24 * L + (12 * ((kk / 2) % 2)) + (2 * (kk / 4)) + 1 - (kk % 2)) % 2 = 1 := (nI_eq (a := (24 * L + (12 * ((kk / 2) % 2)) + (2 * (kk / 4)) + 1 - (kk % 2)) % 2) (b := 1) (by omega) (by omega)).mp c_44
                          refine lv_aload_n hx hb dX8_find_146 rfl (lv_at hl 4 rfl) ?_
                          refine va_get (D := (dC, dI)) (ci := 6) (v := .ref m7) (C := RX8) (T := TX8) (N := 32) hx hb hts iX8 hown hK hP 0 rfl rfl 7 (by decide) (hts (.fieldLink RX8 19 "ParkTowerModel" "cell" "[I") (by decide +kernel)) (fun _ h9 => h9) rfl dX8_find_147 ?_
                          refine lv_iload hx hb dX8_find_150 (lv_at hl 0 rfl) ?_
                          refine lv_iconst (v := 1) hx hb dX8_find_152 (by decide) ?_
                          refine lv_isub hx hb dX8_find_153 ?_
                          refine pt_topi (nI (24 * L + (12 * ((kk / 2) % 2)) + (2 * (kk / 4)) + 1 - (kk % 2) - 1)) (pk_sub (a := 24 * L + (12 * ((kk / 2) % 2)) + (2 * (kk / 4)) + 1 - (kk % 2)) (b := 1) (by omega)) ?_
                          refine va_iald hx hb hK hP 2 1 rfl rfl (vp_in_nI (n := 24 * L + (12 * ((kk / 2) % 2)) + (2 * (kk / 4)) + 1 - (kk % 2) - 1) (by omega) (by decide)) dX8_find_154 ?_
                          refine lv_topi (fun a_47 ea_47 => ?_)
                          rw [nI_clamp (n := 24 * L + (12 * ((kk / 2) % 2)) + (2 * (kk / 4)) + 1 - (kk % 2) - 1) (by omega)] at ea_47
                          refine lv_if_ne (tgt := 177) hx hb dX8_find_155 (by decide) (fun c_48 => ?_) (fun c_48 => ?_)
                          · have c_48 : ¬ (a_47 = 0) := c_48
                            refine lv_iconst (v := 0) hx hb dX8_find_177 (by decide) ?_
                            refine lv_istore (lv' := [(8, .int 0), (7, .int (nI (24 * L + (12 * ((kk / 2) % 2)) + (2 * (kk / 4)) + 1 - (kk % 2)))), (6, .int (nI kk)), (5, .int 0), (4, .int (nI L)), (0, .ref mo), (1, .int x), (2, .int y), (3, .int v)]) hx hb dX8_find_178 hl (by decide) rfl (fun ls hl => ?_)
                            refine lv_iload hx hb dX8_find_180 (lv_at hl 0 rfl) ?_
                            refine lv_if_eq (tgt := 188) hx hb dX8_find_182 (by decide) (fun _ => ?_) (fun c => absurd (by decide) c)
                            refine lv_iinc (v := nI (kk + 1)) (lv' := [(6, .int (nI (kk + 1))), (8, .int 0), (7, .int (nI (24 * L + (12 * ((kk / 2) % 2)) + (2 * (kk / 4)) + 1 - (kk % 2)))), (5, .int 0), (4, .int (nI L)), (0, .ref mo), (1, .int x), (2, .int y), (3, .int v)]) hx hb dX8_find_188 hl (k := 2) rfl (nI_add kk 1) (by decide) rfl (fun ls hl => ?_)
                            refine lv_goto (tgt := 89) hx hb dX8_find_191 (by decide) ?_
                            exact ih ls (lv_sub hl [0, 3, 4, 5, 6, 7, 8] rfl)
                          · have c_48 : (a_47 = 0) := c_48
                            refine lv_goto (tgt := 173) hx hb dX8_find_158 (by decide) ?_
                            refine lv_iconst (v := 1) hx hb dX8_find_173 (by decide) ?_
                            refine lv_goto (tgt := 178) hx hb dX8_find_174 (by decide) ?_
                            refine lv_istore (lv' := [(8, .int 1), (7, .int (nI (24 * L + (12 * ((kk / 2) % 2)) + (2 * (kk / 4)) + 1 - (kk % 2)))), (6, .int (nI kk)), (5, .int 0), (4, .int (nI L)), (0, .ref mo), (1, .int x), (2, .int y), (3, .int v)]) hx hb dX8_find_178 hl (by decide) rfl (fun ls hl => ?_)
                            refine lv_iload hx hb dX8_find_180 (lv_at hl 0 rfl) ?_
                            refine lv_if_eq (tgt := 188) hx hb dX8_find_182 (by decide) (fun c => absurd c (by decide)) (fun _ => ?_)
                            refine lv_iload hx hb dX8_find_185 (lv_at hl 1 rfl) ?_
                            exact W.iret (v := nI (24 * L + (12 * ((kk / 2) % 2)) + (2 * (kk / 4)) + 1 - (kk % 2))) hx hb hr (fun t ht hW => ⟨nI (24 * L + (12 * ((kk / 2) % 2)) + (2 * (kk / 4)) + 1 - (kk % 2)), rfl, Or.inr ⟨24 * L + (12 * ((kk / 2) % 2)) + (2 * (kk / 4)) + 1 - (kk % 2), by omega, rfl, fun z1 z2 q hq e9 => by first | omega | (have e8 := (nI_eq (a := j_32) (b := q) (by omega) (by omega)).mp (ea_32.trans e9); omega)⟩, ht⟩) (fun q h => by cases h) dX8_find_187
                · have c_39 : ¬ (2 ≤ r_38) := c_39
                  refine lv_goto (tgt := 194) hx hb dX8_find_83 (by decide) ?_
                  refine lv_iinc (v := nI (L + 1)) (lv' := [(4, .int (nI (L + 1))), (5, .int 0), (0, .ref mo), (1, .int x), (2, .int y), (3, .int v)]) hx hb dX8_find_194 hl (k := 1) rfl (nI_add L 1) (by decide) rfl (fun ls hl => ?_)
                  refine lv_goto (tgt := 3) hx hb dX8_find_197 (by decide) ?_
                  exact ih ls (lv_sub hl [0, 2, 3, 4, 5] rfl)
          · have c_34 : j_32 / 24 = L := (nI_eq (a := j_32 / 24) (b := L) (by omega) (by omega)).mp c_34
            refine lv_iconst (v := 1) hx hb dX8_find_40 (by decide) ?_
            refine lv_goto (tgt := 45) hx hb dX8_find_41 (by decide) ?_
            refine lv_istore (lv' := [(5, .int 1), (4, .int (nI L)), (0, .ref mo), (1, .int x), (2, .int y), (3, .int v)]) hx hb dX8_find_45 hl (by decide) rfl (fun ls hl => ?_)
            refine lv_iload hx hb dX8_find_47 (lv_at hl 1 rfl) ?_
            refine lv_iload_n hx hb dX8_find_49 rfl (lv_at hl 3 rfl) ?_
            refine lv_iload_n hx hb dX8_find_50 rfl (lv_at hl 4 rfl) ?_
            refine lv_iload_n hx hb dX8_find_51 rfl (lv_at hl 5 rfl) ?_
            refine pt_cSi (va_runS (As := [.int (nI L), .int x, .int y, .int v]) (rest := []) ⟨hx, hb, hml, hown, hts⟩ (m_fits l dC dI L x y v (by omega)) (cwS 4 hts gX8_find_X8_fits rfl rfl rfl (by decide +kernel) ⟨Nat.le_of_ble_eq_true rfl, Nat.le_of_ble_eq_true rfl⟩) ⟨pt_blind, pt_pre (w := []) (tys := []) (hP.sub [] rfl) (hK.sub [] rfl) hN⟩ rfl rfl hl.1 rfl (lv_room (Nat.le_of_ble_eq_true rfl)) dX8_find_52 ⟨Nat.le_of_ble_eq_true rfl, Nat.le_of_ble_eq_true rfl⟩) (fun r_49 hr_49 => ?_)
            rcases hr_49 with rfl | rfl
            · skip
              refine lv_if_eq (tgt := 194) hx hb dX8_find_55 (by decide) (fun _ => ?_) (fun c => absurd (by decide) c)
              refine lv_iinc (v := nI (L + 1)) (lv' := [(4, .int (nI (L + 1))), (5, .int 1), (0, .ref mo), (1, .int x), (2, .int y), (3, .int v)]) hx hb dX8_find_194 hl (k := 1) rfl (nI_add L 1) (by decide) rfl (fun ls hl => ?_)
              refine lv_goto (tgt := 3) hx hb dX8_find_197 (by decide) ?_
              exact ih ls (lv_sub hl [0, 2, 3, 4, 5] rfl)
            · skip
              refine lv_if_eq (tgt := 194) hx hb dX8_find_55 (by decide) (fun c => absurd c (by decide)) (fun _ => ?_)
              refine lv_aload_n hx hb dX8_find_58 rfl (lv_at hl 2 rfl) ?_
              refine va_get (D := (dC, dI)) (ci := 6) (v := .ref m12) (C := RX8) (T := TX8) (N := 32) hx hb hts iX8 hown hK hP 0 rfl rfl 12 (by decide) (hts (.fieldLink RX8 35 "ParkTowerModel" "jammed" "[Z") (by decide +kernel)) (fun _ h9 => h9) rfl dX8_find_59 ?_
              refine lv_iload hx hb dX8_find_62 (lv_at hl 1 rfl) ?_
              refine va_zald hx hb hK hP 3 2 rfl rfl (vp_in_nI (n := L) (by omega) (by decide)) dX8_find_64 ?_
              refine lv_topi (fun a_50 ea_50 => ?_)
              rw [nI_clamp (n := L) (by omega)] at ea_50
              refine lv_if_ne (tgt := 194) hx hb dX8_find_65 (by decide) (fun c_51 => ?_) (fun c_51 => ?_)
              · have c_51 : ¬ (a_50 = 0) := c_51
                refine lv_iinc (v := nI (L + 1)) (lv' := [(4, .int (nI (L + 1))), (5, .int 1), (0, .ref mo), (1, .int x), (2, .int y), (3, .int v)]) hx hb dX8_find_194 hl (k := 1) rfl (nI_add L 1) (by decide) rfl (fun ls hl => ?_)
                refine lv_goto (tgt := 3) hx hb dX8_find_197 (by decide) ?_
                exact ih ls (lv_sub hl [0, 2, 3, 4, 5] rfl)
              · have c_51 : (a_50 = 0) := c_51
                refine lv_iload hx hb dX8_find_68 (lv_at hl 0 rfl) ?_
                refine lv_if_ne (tgt := 194) hx hb dX8_find_70 (by decide) (fun _ => ?_) (fun c => absurd c (by decide))
                refine lv_iinc (v := nI (L + 1)) (lv' := [(4, .int (nI (L + 1))), (5, .int 1), (0, .ref mo), (1, .int x), (2, .int y), (3, .int v)]) hx hb dX8_find_194 hl (k := 1) rfl (nI_add L 1) (by decide) rfl (fun ls hl => ?_)
                refine lv_goto (tgt := 3) hx hb dX8_find_197 (by decide) ?_
                exact ih ls (lv_sub hl [0, 2, 3, 4, 5] rfl)
set_option maxHeartbeats 4000000 in
set_option maxRecDepth 100000 in
theorem m_counted (l : Launch) (dC : Nat → ClassId) (dI : Nat → Nat → Nat) (mo m4 m5 m6 m7 m8 m9 m10 m11 m12 m16 m17 m18 m27 m29 m30 m31 : Nat) (th tm pw rn tg lf mm fo : Int32) (sr nc no bz dg db df sp : Nat) (y5 y11 y16 : ClassId) (f5 f11 f16 : Nat → Int32)  (hbz : bz ≤ 1) (hdg : dg < 700) (hno : no ≤ 24) (hnc : nc ≤ 700) (hy : ∀ i, mB nc (f11 i)) : Met l yX8_counted wsX8_counted ({ frames := 0, cells := 0, slots := 0, locals := 0 }) (va_Pc [.ref mo] (pt_B (dC, dI) [(mo, .inr (6, [.int th, .int tm, .int (nI sr), .int (nI nc), .ref m4, .ref m5, .ref m6, .ref m7, .ref m8, .ref m9, .ref m10, .ref m11, .ref m12, .int pw, .int rn, .int (nI no), .ref m16, .ref m17, .ref m18, .int (nI bz), .int (nI dg), .int (nI db), .int (nI df), .int (nI sp), .int tg, .int lf, .int mm, .ref m27, .int fo, .ref m29, .ref m30, .ref m31])), (m5, .inl (y5, 700, .inl f5)), (m11, .inl (y11, 2, .inl f11)), (m16, .inl (y16, 24, .inl f16))] [(y5, .int), (y11, .int), (y16, .int)])) (vp_Si (fun r : Int32 => ∃ e0 e1 : Nat, r = nI (no + bz + e0 + e1) ∧ e0 ≤ 1 ∧ e1 ≤ 1 ∧ (mP f5 f11 f16 no bz dg 0 → 1 ≤ e0) ∧ (mP f5 f11 f16 no bz dg 1 → 1 ≤ e1))) 0 0 (fun _ => False) := by
  refine Met.ofW (cc := cX8_counted) (maxL := 5) (ret := (some .int)) (by decide) rfl ?_
  intro p e s m args below meth c s₁ B hml hv
  obtain ⟨rfl, hP, hK, hN⟩ := hv
  have hx := B.exec
  have hb := B.bytes
  have hr := B.returns
  have hts := atoms_spec (ws := wsX8_counted) B.pre
  have hown : s.vm.findClass RX8 = some m.cls := findClass_of_methodNamed B.named
  have hlocks := B.notSynchronized
  have iX8 : ∀ w ∈ wsX80, w ∈ wsX8_counted := by decide +kernel
  have hP : va_P (dC, dI) vwCl [(mo, .inr (6, [.int th, .int tm, .int (nI sr), .int (nI nc), .ref m4, .ref m5, .ref m6, .ref m7, .ref m8, .ref m9, .ref m10, .ref m11, .ref m12, .int pw, .int rn, .int (nI no), .ref m16, .ref m17, .ref m18, .int (nI bz), .int (nI dg), .int (nI db), .int (nI df), .int (nI sp), .int tg, .int lf, .int mm, .ref m27, .int fo, .ref m29, .ref m30, .ref m31])), (m5, .inl (y5, 700, .inl f5)), (m11, .inl (y11, 2, .inl f11)), (m16, .inl (y16, 24, .inl f16))] s.heap := hP
  have hK : va_K (dC, dI) vwCl [(y5, .int), (y11, .int), (y16, .int)] s := hK
  have hl := lv_entry ([.ref mo]) (n := 5) (Nat.le_of_ble_eq_true rfl)
  rw [lg_entry_eq]
  generalize (lg_sl ([.ref mo]) ++ List.replicate (5 - (lg_sl ([.ref mo])).length) Slot.unset).toArray = ls at hl ⊢
  have hl : lv_has ls 5 [(0, .ref mo)] := hl
  rcases (show bz = 0 ∨ bz = 1 by omega) with rfl | rfl
  · skip
    refine lv_aload_n hx hb dX8_counted_0 rfl (lv_at hl 0 rfl) ?_
    refine va_get (D := (dC, dI)) (ci := 6) (v := .int (nI no)) (C := RX8) (T := TX8) (N := 32) hx hb hts iX8 hown hK hP 0 rfl rfl 15 (by decide) (hts (.fieldLink RX8 93 "ParkTowerModel" "orders" "I") (by decide +kernel)) (fun _ h9 => h9) rfl dX8_counted_1 ?_
    refine lv_aload_n hx hb dX8_counted_4 rfl (lv_at hl 0 rfl) ?_
    refine va_get (D := (dC, dI)) (ci := 6) (v := .int 0) (C := RX8) (T := TX8) (N := 32) hx hb hts iX8 hown hK hP 0 rfl rfl 19 (by decide) (hts (.fieldLink RX8 71 "ParkTowerModel" "busy" "Z") (by decide +kernel)) (fun _ h9 => h9) rfl dX8_counted_5 ?_
    refine lv_if_eq (tgt := 15) hx hb dX8_counted_8 (by decide) (fun _ => ?_) (fun c => absurd (by decide) c)
    refine lv_iconst (v := 0) hx hb dX8_counted_15 (by decide) ?_
    refine lv_iadd hx hb dX8_counted_16 ?_
    refine pt_topi (nI (no + 0)) (nI_add no 0) ?_
    refine lv_istore_n (lv' := [(1, .int (nI (no + 0))), (0, .ref mo)]) hx hb dX8_counted_17 rfl hl (by decide) rfl (fun ls hl => ?_)
    refine lv_iconst (v := 0) hx hb dX8_counted_18 (by decide) ?_
    refine lv_istore_n (lv' := [(2, .int 0), (1, .int (nI (no + 0))), (0, .ref mo)]) hx hb dX8_counted_19 rfl hl (by decide) rfl (fun ls hl => ?_)
    refine pt_loop 2 (fun b ls => ∃ (e0 e1 : Nat), e0 ≤ 1 ∧ e1 ≤ 1 ∧ (b ≤ 0 → e0 = 0) ∧ (b ≤ 1 → e1 = 0) ∧ (1 ≤ b → mP f5 f11 f16 no 0 dg 0 → 1 ≤ e0) ∧ (2 ≤ b → mP f5 f11 f16 no 0 dg 1 → 1 ≤ e1) ∧ lv_has ls 5 [(2, .int (nI b)), (1, .int (nI (no + 0 + e0 + e1))), (0, .ref mo)]) (fun ls hI => ?_) (fun b ls hk hI ih_20 => ?_) ⟨0, 0, by omega, by omega, fun _ => rfl, fun _ => rfl, fun q => absurd q (by omega), fun q => absurd q (by omega), lv_sub hl [0, 1, 2] rfl⟩
    · obtain ⟨e0, e1, g1, g2, g3, g4, g5, g6, hl⟩ := hI
      have hl : lv_has ls 5 [(2, .int 2), (1, .int (nI (no + 0 + e0 + e1))), (0, .ref mo)] := hl
      have g1 : e0 ≤ 1 := g1
      have g2 : e1 ≤ 1 := g2
      have g3 : (2 ≤ 0 → e0 = 0) := g3
      have g4 : (2 ≤ 1 → e1 = 0) := g4
      have g5 : (1 ≤ 2 → mP f5 f11 f16 no 0 dg 0 → 1 ≤ e0) := g5
      have g6 : (2 ≤ 2 → mP f5 f11 f16 no 0 dg 1 → 1 ≤ e1) := g6
      refine lv_iload_n hx hb dX8_counted_20 rfl (lv_at hl 0 rfl) ?_
      refine lv_iconst (v := 2) hx hb dX8_counted_21 (by decide) ?_
      refine lv_icmp_ge (tgt := 137) hx hb dX8_counted_22 (by decide) (fun _ => ?_) (fun c => absurd (by decide) c)
      refine lv_iload_n hx hb dX8_counted_137 rfl (lv_at hl 1 rfl) ?_
      exact W.iret (v := nI (no + 0 + e0 + e1)) hx hb hr (fun t ht hW => ⟨nI (no + 0 + e0 + e1), rfl, ⟨e0, e1, rfl, g1, g2, g5 (by omega), g6 (by omega)⟩, ht⟩) (fun q h => by cases h) dX8_counted_138
    · obtain ⟨e0, e1, g1, g2, g3, g4, g5, g6, hl⟩ := hI
      have hl : lv_has ls 5 [(2, .int (nI b)), (1, .int (nI (no + 0 + e0 + e1))), (0, .ref mo)] := hl
      have g1 : e0 ≤ 1 := g1
      have g2 : e1 ≤ 1 := g2
      have g3 : (b ≤ 0 → e0 = 0) := g3
      have g4 : (b ≤ 1 → e1 = 0) := g4
      have g5 : (1 ≤ b → mP f5 f11 f16 no 0 dg 0 → 1 ≤ e0) := g5
      have g6 : (2 ≤ b → mP f5 f11 f16 no 0 dg 1 → 1 ≤ e1) := g6
      rcases (show b = 0 ∨ b = 1 by omega) with rfl | rfl
      · skip
        obtain rfl := g3 (by omega)
        obtain rfl := g4 (by omega)
        have hl : lv_has ls 5 [(2, .int 0), (1, .int (nI (no + 0 + 0 + 0))), (0, .ref mo)] := hl
        refine lv_iload_n hx hb dX8_counted_20 rfl (lv_at hl 0 rfl) ?_
        refine lv_iconst (v := 2) hx hb dX8_counted_21 (by decide) ?_
        refine lv_icmp_ge (tgt := 137) hx hb dX8_counted_22 (by decide) (fun c => absurd c (by decide)) (fun _ => ?_)
        refine lv_aload_n hx hb dX8_counted_25 rfl (lv_at hl 2 rfl) ?_
        refine va_get (D := (dC, dI)) (ci := 6) (v := .ref m11) (C := RX8) (T := TX8) (N := 32) hx hb hts iX8 hown hK hP 0 rfl rfl 11 (by decide) (hts (.fieldLink RX8 32 "ParkTowerModel" "bay" "[I") (by decide +kernel)) (fun _ h9 => h9) rfl dX8_counted_26 ?_
        refine lv_iload_n hx hb dX8_counted_29 rfl (lv_at hl 0 rfl) ?_
        refine va_iald hx hb hK hP 2 1 rfl rfl (vp_in_iff.mpr (by decide)) dX8_counted_30 ?_
        refine lv_topi (fun a_1 ea_1 => ?_)
        have ea_1 : a_1 = f11 0 := ea_1
        rcases (show mB nc a_1 by rw [ea_1]; exact hy _) with rfl | ⟨j_1, hj_1, rfl⟩
        · skip
          refine lv_if_lt (tgt := 53) hx hb dX8_counted_31 (by decide) (fun _ => ?_) (fun c => absurd (by decide) c)
          refine lv_iconst (v := 0) hx hb dX8_counted_53 (by decide) ?_
          refine lv_istore_n (lv' := [(3, .int 0), (2, .int 0), (1, .int (nI (no + 0 + 0 + 0))), (0, .ref mo)]) hx hb dX8_counted_54 rfl hl (by decide) rfl (fun ls hl => ?_)
          refine lv_iconst (v := 0) hx hb dX8_counted_55 (by decide) ?_
          refine lv_istore (lv' := [(4, .int 0), (3, .int 0), (2, .int 0), (1, .int (nI (no + 0 + 0 + 0))), (0, .ref mo)]) hx hb dX8_counted_56 hl (by decide) rfl (fun ls hl => ?_)
          refine pt_loop no (fun kk ls => ∃ (cm : Int32), (cm = 1 ∨ (cm = 0 ∧ ¬ mP f5 f11 f16 no 0 dg 0)) ∧ lv_has ls 5 [(4, .int (nI kk)), (3, .int cm), (2, .int 0), (1, .int (nI (no + 0 + 0 + 0))), (0, .ref mo)]) (fun ls hI => ?_) (fun kk ls hk hI ih_58 => ?_) ⟨0, Or.inr ⟨rfl, mP_n ea_1⟩, lv_sub hl [0, 1, 2, 3, 4] rfl⟩
          · obtain ⟨cm, hcm, hl⟩ := hI
            have hl : lv_has ls 5 [(4, .int (nI no)), (3, .int cm), (2, .int 0), (1, .int (nI (no + 0 + 0 + 0))), (0, .ref mo)] := hl
            have hcm : (cm = 1 ∨ (cm = 0 ∧ ¬ mP f5 f11 f16 no 0 dg 0)) := hcm
            rcases hcm with rfl | ⟨rfl, hmp⟩
            · skip
              have hl : lv_has ls 5 [(4, .int (nI no)), (3, .int 1), (2, .int 0), (1, .int (nI (no + 0 + 0 + 0))), (0, .ref mo)] := hl
              refine lv_iload hx hb dX8_counted_58 (lv_at hl 0 rfl) ?_
              refine lv_aload_n hx hb dX8_counted_60 rfl (lv_at hl 4 rfl) ?_
              refine va_get (D := (dC, dI)) (ci := 6) (v := .int (nI no)) (C := RX8) (T := TX8) (N := 32) hx hb hts iX8 hown hK hP 0 rfl rfl 15 (by decide) (hts (.fieldLink RX8 93 "ParkTowerModel" "orders" "I") (by decide +kernel)) (fun _ h9 => h9) rfl dX8_counted_61 ?_
              refine lv_icmp_ge (tgt := 99) hx hb dX8_counted_64 (by decide) (fun c_2 => ?_) (fun c_2 => ?_)
              · have c_2 : no ≤ no := (nI_leI (a := no) (b := no) (by omega) (by omega)).mp c_2
                refine lv_iload_n hx hb dX8_counted_99 rfl (lv_at hl 1 rfl) ?_
                refine lv_if_eq (tgt := 129) hx hb dX8_counted_100 (by decide) (fun c => absurd c (by decide)) (fun _ => ?_)
                refine lv_aload_n hx hb dX8_counted_103 rfl (lv_at hl 4 rfl) ?_
                refine va_get (D := (dC, dI)) (ci := 6) (v := .int 0) (C := RX8) (T := TX8) (N := 32) hx hb hts iX8 hown hK hP 0 rfl rfl 19 (by decide) (hts (.fieldLink RX8 71 "ParkTowerModel" "busy" "Z") (by decide +kernel)) (fun _ h9 => h9) rfl dX8_counted_104 ?_
                refine lv_if_eq (tgt := 123) hx hb dX8_counted_107 (by decide) (fun _ => ?_) (fun c => absurd (by decide) c)
                refine lv_iload_n hx hb dX8_counted_123 rfl (lv_at hl 3 rfl) ?_
                refine lv_iconst (v := 1) hx hb dX8_counted_124 (by decide) ?_
                refine lv_iadd hx hb dX8_counted_125 ?_
                refine pt_topi (nI (no + 0 + 0 + 0 + 1)) (nI_add (no + 0 + 0 + 0) 1) ?_
                refine lv_goto (tgt := 130) hx hb dX8_counted_126 (by decide) ?_
                refine lv_istore_n (lv' := [(1, .int (nI (no + 0 + 0 + 0 + 1))), (4, .int (nI no)), (3, .int 1), (2, .int 0), (0, .ref mo)]) hx hb dX8_counted_130 rfl hl (by decide) rfl (fun ls hl => ?_)
                refine lv_iinc (v := 1) (lv' := [(2, .int 1), (1, .int (nI (no + 0 + 0 + 0 + 1))), (4, .int (nI no)), (3, .int 1), (0, .ref mo)]) hx hb dX8_counted_131 hl (k := 3) rfl (by decide) (by decide) rfl (fun ls hl => ?_)
                refine lv_goto (tgt := 20) hx hb dX8_counted_134 (by decide) ?_
                exact ih_20 ls ⟨(0 + 1), 0, by omega, by omega, fun q => absurd q (by omega), fun _ => rfl, fun _ q => (by omega), fun q => absurd q (by omega), lv_sub hl [0, 1, 4] rfl⟩
              · have c_2 : ¬ (no ≤ no) := fun q_ => c_2 ((nI_leI (a := no) (b := no) (by omega) (by omega)).mpr q_)
                exact (by omega : False).elim
            · skip
              have hl : lv_has ls 5 [(4, .int (nI no)), (3, .int 0), (2, .int 0), (1, .int (nI (no + 0 + 0 + 0))), (0, .ref mo)] := hl
              refine lv_iload hx hb dX8_counted_58 (lv_at hl 0 rfl) ?_
              refine lv_aload_n hx hb dX8_counted_60 rfl (lv_at hl 4 rfl) ?_
              refine va_get (D := (dC, dI)) (ci := 6) (v := .int (nI no)) (C := RX8) (T := TX8) (N := 32) hx hb hts iX8 hown hK hP 0 rfl rfl 15 (by decide) (hts (.fieldLink RX8 93 "ParkTowerModel" "orders" "I") (by decide +kernel)) (fun _ h9 => h9) rfl dX8_counted_61 ?_
              refine lv_icmp_ge (tgt := 99) hx hb dX8_counted_64 (by decide) (fun c_3 => ?_) (fun c_3 => ?_)
              · have c_3 : no ≤ no := (nI_leI (a := no) (b := no) (by omega) (by omega)).mp c_3
                refine lv_iload_n hx hb dX8_counted_99 rfl (lv_at hl 1 rfl) ?_
                refine lv_if_eq (tgt := 129) hx hb dX8_counted_100 (by decide) (fun _ => ?_) (fun c => absurd (by decide) c)
                refine lv_iload_n hx hb dX8_counted_129 rfl (lv_at hl 3 rfl) ?_
                refine lv_istore_n (lv' := [(1, .int (nI (no + 0 + 0 + 0))), (4, .int (nI no)), (3, .int 0), (2, .int 0), (0, .ref mo)]) hx hb dX8_counted_130 rfl hl (by decide) rfl (fun ls hl => ?_)
                refine lv_iinc (v := 1) (lv' := [(2, .int 1), (1, .int (nI (no + 0 + 0 + 0))), (4, .int (nI no)), (3, .int 0), (0, .ref mo)]) hx hb dX8_counted_131 hl (k := 3) rfl (by decide) (by decide) rfl (fun ls hl => ?_)
                refine lv_goto (tgt := 20) hx hb dX8_counted_134 (by decide) ?_
                exact ih_20 ls ⟨(0 + 0), 0, by omega, by omega, fun q => absurd q (by omega), fun _ => rfl, fun _ q => absurd q hmp, fun q => absurd q (by omega), lv_sub hl [0, 1, 4] rfl⟩
              · have c_3 : ¬ (no ≤ no) := fun q_ => c_3 ((nI_leI (a := no) (b := no) (by omega) (by omega)).mpr q_)
                exact (by omega : False).elim
          · obtain ⟨cm, hcm, hl⟩ := hI
            have hl : lv_has ls 5 [(4, .int (nI kk)), (3, .int cm), (2, .int 0), (1, .int (nI (no + 0 + 0 + 0))), (0, .ref mo)] := hl
            have hcm : (cm = 1 ∨ (cm = 0 ∧ ¬ mP f5 f11 f16 no 0 dg 0)) := hcm
            rcases hcm with rfl | ⟨rfl, hmp⟩
            · skip
              have hl : lv_has ls 5 [(4, .int (nI kk)), (3, .int 1), (2, .int 0), (1, .int (nI (no + 0 + 0 + 0))), (0, .ref mo)] := hl
              refine lv_iload hx hb dX8_counted_58 (lv_at hl 0 rfl) ?_
              refine lv_aload_n hx hb dX8_counted_60 rfl (lv_at hl 4 rfl) ?_
              refine va_get (D := (dC, dI)) (ci := 6) (v := .int (nI no)) (C := RX8) (T := TX8) (N := 32) hx hb hts iX8 hown hK hP 0 rfl rfl 15 (by decide) (hts (.fieldLink RX8 93 "ParkTowerModel" "orders" "I") (by decide +kernel)) (fun _ h9 => h9) rfl dX8_counted_61 ?_
              refine lv_icmp_ge (tgt := 99) hx hb dX8_counted_64 (by decide) (fun c_4 => ?_) (fun c_4 => ?_)
              · have c_4 : no ≤ kk := (nI_leI (a := no) (b := kk) (by omega) (by omega)).mp c_4
                exact (by omega : False).elim
              · have c_4 : ¬ (no ≤ kk) := fun q_ => c_4 ((nI_leI (a := no) (b := kk) (by omega) (by omega)).mpr q_)
                refine lv_iload_n hx hb dX8_counted_67 rfl (lv_at hl 1 rfl) ?_
                refine lv_if_eq (tgt := 91) hx hb dX8_counted_68 (by decide) (fun c => absurd c (by decide)) (fun _ => ?_)
                refine lv_aload_n hx hb dX8_counted_71 rfl (lv_at hl 4 rfl) ?_
                refine va_get (D := (dC, dI)) (ci := 6) (v := .ref m16) (C := RX8) (T := TX8) (N := 32) hx hb hts iX8 hown hK hP 0 rfl rfl 16 (by decide) (hts (.fieldLink RX8 42 "ParkTowerModel" "orderCar" "[I") (by decide +kernel)) (fun _ h9 => h9) rfl dX8_counted_72 ?_
                refine lv_iload hx hb dX8_counted_75 (lv_at hl 0 rfl) ?_
                refine va_iald hx hb hK hP 3 2 rfl rfl (vp_in_nI (n := kk) (by omega) (by decide)) dX8_counted_77 ?_
                refine lv_topi (fun a_5 ea_5 => ?_)
                rw [nI_clamp (n := kk) (by omega)] at ea_5
                refine lv_aload_n hx hb dX8_counted_78 rfl (lv_at hl 4 rfl) ?_
                refine va_get (D := (dC, dI)) (ci := 6) (v := .ref m11) (C := RX8) (T := TX8) (N := 32) hx hb hts iX8 hown hK hP 0 rfl rfl 11 (by decide) (hts (.fieldLink RX8 32 "ParkTowerModel" "bay" "[I") (by decide +kernel)) (fun _ h9 => h9) rfl dX8_counted_79 ?_
                refine lv_iload_n hx hb dX8_counted_82 rfl (lv_at hl 2 rfl) ?_
                refine va_iald hx hb hK hP 2 1 rfl rfl (vp_in_iff.mpr (by decide)) dX8_counted_83 ?_
                refine pt_topi (-1) (show f11 0 = _ from ea_1.symm) ?_
                refine lv_icmp_eq (tgt := 91) hx hb dX8_counted_84 (by decide) (fun c_6 => ?_) (fun c_6 => ?_)
                · have c_6 : (a_5 = (-1)) := c_6
                  refine lv_iconst (v := 0) hx hb dX8_counted_91 (by decide) ?_
                  refine lv_istore_n (lv' := [(3, .int 0), (4, .int (nI kk)), (2, .int 0), (1, .int (nI (no + 0 + 0 + 0))), (0, .ref mo)]) hx hb dX8_counted_92 rfl hl (by decide) rfl (fun ls hl => ?_)
                  refine lv_iinc (v := nI (kk + 1)) (lv' := [(4, .int (nI (kk + 1))), (3, .int 0), (2, .int 0), (1, .int (nI (no + 0 + 0 + 0))), (0, .ref mo)]) hx hb dX8_counted_93 hl (k := 1) rfl (nI_add kk 1) (by decide) rfl (fun ls hl => ?_)
                  refine lv_goto (tgt := 58) hx hb dX8_counted_96 (by decide) ?_
                  exact ih_58 ls ⟨0, Or.inr ⟨rfl, mP_n ea_1⟩, lv_sub hl [0, 1, 2, 3, 4] rfl⟩
                · have c_6 : ¬ (a_5 = (-1)) := c_6
                  refine lv_iconst (v := 1) hx hb dX8_counted_87 (by decide) ?_
                  refine lv_goto (tgt := 92) hx hb dX8_counted_88 (by decide) ?_
                  refine lv_istore_n (lv' := [(3, .int 1), (4, .int (nI kk)), (2, .int 0), (1, .int (nI (no + 0 + 0 + 0))), (0, .ref mo)]) hx hb dX8_counted_92 rfl hl (by decide) rfl (fun ls hl => ?_)
                  refine lv_iinc (v := nI (kk + 1)) (lv' := [(4, .int (nI (kk + 1))), (3, .int 1), (2, .int 0), (1, .int (nI (no + 0 + 0 + 0))), (0, .ref mo)]) hx hb dX8_counted_93 hl (k := 1) rfl (nI_add kk 1) (by decide) rfl (fun ls hl => ?_)
                  refine lv_goto (tgt := 58) hx hb dX8_counted_96 (by decide) ?_
                  exact ih_58 ls ⟨1, Or.inl rfl, lv_sub hl [0, 1, 2, 3, 4] rfl⟩
            · skip
              have hl : lv_has ls 5 [(4, .int (nI kk)), (3, .int 0), (2, .int 0), (1, .int (nI (no + 0 + 0 + 0))), (0, .ref mo)] := hl
              refine lv_iload hx hb dX8_counted_58 (lv_at hl 0 rfl) ?_
              refine lv_aload_n hx hb dX8_counted_60 rfl (lv_at hl 4 rfl) ?_
              refine va_get (D := (dC, dI)) (ci := 6) (v := .int (nI no)) (C := RX8) (T := TX8) (N := 32) hx hb hts iX8 hown hK hP 0 rfl rfl 15 (by decide) (hts (.fieldLink RX8 93 "ParkTowerModel" "orders" "I") (by decide +kernel)) (fun _ h9 => h9) rfl dX8_counted_61 ?_
              refine lv_icmp_ge (tgt := 99) hx hb dX8_counted_64 (by decide) (fun c_7 => ?_) (fun c_7 => ?_)
              · have c_7 : no ≤ kk := (nI_leI (a := no) (b := kk) (by omega) (by omega)).mp c_7
                exact (by omega : False).elim
              · have c_7 : ¬ (no ≤ kk) := fun q_ => c_7 ((nI_leI (a := no) (b := kk) (by omega) (by omega)).mpr q_)
                refine lv_iload_n hx hb dX8_counted_67 rfl (lv_at hl 1 rfl) ?_
                refine lv_if_eq (tgt := 91) hx hb dX8_counted_68 (by decide) (fun _ => ?_) (fun c => absurd (by decide) c)
                refine lv_iconst (v := 0) hx hb dX8_counted_91 (by decide) ?_
                refine lv_istore_n (lv' := [(3, .int 0), (4, .int (nI kk)), (2, .int 0), (1, .int (nI (no + 0 + 0 + 0))), (0, .ref mo)]) hx hb dX8_counted_92 rfl hl (by decide) rfl (fun ls hl => ?_)
                refine lv_iinc (v := nI (kk + 1)) (lv' := [(4, .int (nI (kk + 1))), (3, .int 0), (2, .int 0), (1, .int (nI (no + 0 + 0 + 0))), (0, .ref mo)]) hx hb dX8_counted_93 hl (k := 1) rfl (nI_add kk 1) (by decide) rfl (fun ls hl => ?_)
                refine lv_goto (tgt := 58) hx hb dX8_counted_96 (by decide) ?_
                exact ih_58 ls ⟨0, Or.inr ⟨rfl, hmp⟩, lv_sub hl [0, 1, 2, 3, 4] rfl⟩
        · skip
          refine lv_if_lt (tgt := 53) hx hb dX8_counted_31 (by decide) (fun c_8 => ?_) (fun c_8 => ?_)
          · have c_8 : j_1 < 0 := (nI_ltI (a := j_1) (b := 0) (by omega) (by omega)).mp c_8
            exact (by omega : False).elim
          · have c_8 : ¬ (j_1 < 0) := fun q_ => c_8 ((nI_ltI (a := j_1) (b := 0) (by omega) (by omega)).mpr q_)
            refine lv_aload_n hx hb dX8_counted_34 rfl (lv_at hl 2 rfl) ?_
            refine va_get (D := (dC, dI)) (ci := 6) (v := .ref m5) (C := RX8) (T := TX8) (N := 32) hx hb hts iX8 hown hK hP 0 rfl rfl 5 (by decide) (hts (.fieldLink RX8 13 "ParkTowerModel" "where" "[I") (by decide +kernel)) (fun _ h9 => h9) rfl dX8_counted_35 ?_
            refine lv_aload_n hx hb dX8_counted_38 rfl (lv_at hl 2 rfl) ?_
            refine va_get (D := (dC, dI)) (ci := 6) (v := .ref m11) (C := RX8) (T := TX8) (N := 32) hx hb hts iX8 hown hK hP 0 rfl rfl 11 (by decide) (hts (.fieldLink RX8 32 "ParkTowerModel" "bay" "[I") (by decide +kernel)) (fun _ h9 => h9) rfl dX8_counted_39 ?_
            refine lv_iload_n hx hb dX8_counted_42 rfl (lv_at hl 0 rfl) ?_
            refine va_iald hx hb hK hP 2 1 rfl rfl (vp_in_iff.mpr (by decide)) dX8_counted_43 ?_
            refine pt_topi (nI j_1) (show f11 0 = _ from ea_1.symm) ?_
            refine va_iald hx hb hK hP 1 0 rfl rfl (vp_in_nI (n := j_1) (by omega) (by decide)) dX8_counted_44 ?_
            refine lv_topi (fun a_9 ea_9 => ?_)
            rw [nI_clamp (n := j_1) (by omega)] at ea_9
            refine lv_iconst (v := 1) hx hb dX8_counted_45 (by decide) ?_
            refine lv_icmp_ne (tgt := 53) hx hb dX8_counted_46 (by decide) (fun c_10 => ?_) (fun c_10 => ?_)
            · have c_10 : ¬ (a_9 = 1) := c_10
              refine lv_iconst (v := 0) hx hb dX8_counted_53 (by decide) ?_
              refine lv_istore_n (lv' := [(3, .int 0), (2, .int 0), (1, .int (nI (no + 0 + 0 + 0))), (0, .ref mo)]) hx hb dX8_counted_54 rfl hl (by decide) rfl (fun ls hl => ?_)
              refine lv_iconst (v := 0) hx hb dX8_counted_55 (by decide) ?_
              refine lv_istore (lv' := [(4, .int 0), (3, .int 0), (2, .int 0), (1, .int (nI (no + 0 + 0 + 0))), (0, .ref mo)]) hx hb dX8_counted_56 hl (by decide) rfl (fun ls hl => ?_)
              refine pt_loop no (fun kk ls => ∃ (cm : Int32), (cm = 1 ∨ (cm = 0 ∧ ¬ mP f5 f11 f16 no 0 dg 0)) ∧ lv_has ls 5 [(4, .int (nI kk)), (3, .int cm), (2, .int 0), (1, .int (nI (no + 0 + 0 + 0))), (0, .ref mo)]) (fun ls hI => ?_) (fun kk ls hk hI ih_58 => ?_) ⟨0, Or.inr ⟨rfl, mP_w ea_1 (by omega) (fun q9 => absurd (ea_9.trans q9) (by assumption))⟩, lv_sub hl [0, 1, 2, 3, 4] rfl⟩
              · obtain ⟨cm, hcm, hl⟩ := hI
                have hl : lv_has ls 5 [(4, .int (nI no)), (3, .int cm), (2, .int 0), (1, .int (nI (no + 0 + 0 + 0))), (0, .ref mo)] := hl
                have hcm : (cm = 1 ∨ (cm = 0 ∧ ¬ mP f5 f11 f16 no 0 dg 0)) := hcm
                rcases hcm with rfl | ⟨rfl, hmp⟩
                · skip
                  have hl : lv_has ls 5 [(4, .int (nI no)), (3, .int 1), (2, .int 0), (1, .int (nI (no + 0 + 0 + 0))), (0, .ref mo)] := hl
                  refine lv_iload hx hb dX8_counted_58 (lv_at hl 0 rfl) ?_
                  refine lv_aload_n hx hb dX8_counted_60 rfl (lv_at hl 4 rfl) ?_
                  refine va_get (D := (dC, dI)) (ci := 6) (v := .int (nI no)) (C := RX8) (T := TX8) (N := 32) hx hb hts iX8 hown hK hP 0 rfl rfl 15 (by decide) (hts (.fieldLink RX8 93 "ParkTowerModel" "orders" "I") (by decide +kernel)) (fun _ h9 => h9) rfl dX8_counted_61 ?_
                  refine lv_icmp_ge (tgt := 99) hx hb dX8_counted_64 (by decide) (fun c_11 => ?_) (fun c_11 => ?_)
                  · have c_11 : no ≤ no := (nI_leI (a := no) (b := no) (by omega) (by omega)).mp c_11
                    refine lv_iload_n hx hb dX8_counted_99 rfl (lv_at hl 1 rfl) ?_
                    refine lv_if_eq (tgt := 129) hx hb dX8_counted_100 (by decide) (fun c => absurd c (by decide)) (fun _ => ?_)
                    refine lv_aload_n hx hb dX8_counted_103 rfl (lv_at hl 4 rfl) ?_
                    refine va_get (D := (dC, dI)) (ci := 6) (v := .int 0) (C := RX8) (T := TX8) (N := 32) hx hb hts iX8 hown hK hP 0 rfl rfl 19 (by decide) (hts (.fieldLink RX8 71 "ParkTowerModel" "busy" "Z") (by decide +kernel)) (fun _ h9 => h9) rfl dX8_counted_104 ?_
                    refine lv_if_eq (tgt := 123) hx hb dX8_counted_107 (by decide) (fun _ => ?_) (fun c => absurd (by decide) c)
                    refine lv_iload_n hx hb dX8_counted_123 rfl (lv_at hl 3 rfl) ?_
                    refine lv_iconst (v := 1) hx hb dX8_counted_124 (by decide) ?_
                    refine lv_iadd hx hb dX8_counted_125 ?_
                    refine pt_topi (nI (no + 0 + 0 + 0 + 1)) (nI_add (no + 0 + 0 + 0) 1) ?_
                    refine lv_goto (tgt := 130) hx hb dX8_counted_126 (by decide) ?_
                    refine lv_istore_n (lv' := [(1, .int (nI (no + 0 + 0 + 0 + 1))), (4, .int (nI no)), (3, .int 1), (2, .int 0), (0, .ref mo)]) hx hb dX8_counted_130 rfl hl (by decide) rfl (fun ls hl => ?_)
                    refine lv_iinc (v := 1) (lv' := [(2, .int 1), (1, .int (nI (no + 0 + 0 + 0 + 1))), (4, .int (nI no)), (3, .int 1), (0, .ref mo)]) hx hb dX8_counted_131 hl (k := 3) rfl (by decide) (by decide) rfl (fun ls hl => ?_)
                    refine lv_goto (tgt := 20) hx hb dX8_counted_134 (by decide) ?_
                    exact ih_20 ls ⟨(0 + 1), 0, by omega, by omega, fun q => absurd q (by omega), fun _ => rfl, fun _ q => (by omega), fun q => absurd q (by omega), lv_sub hl [0, 1, 4] rfl⟩
                  · have c_11 : ¬ (no ≤ no) := fun q_ => c_11 ((nI_leI (a := no) (b := no) (by omega) (by omega)).mpr q_)
                    exact (by omega : False).elim
                · skip
                  have hl : lv_has ls 5 [(4, .int (nI no)), (3, .int 0), (2, .int 0), (1, .int (nI (no + 0 + 0 + 0))), (0, .ref mo)] := hl
                  refine lv_iload hx hb dX8_counted_58 (lv_at hl 0 rfl) ?_
                  refine lv_aload_n hx hb dX8_counted_60 rfl (lv_at hl 4 rfl) ?_
                  refine va_get (D := (dC, dI)) (ci := 6) (v := .int (nI no)) (C := RX8) (T := TX8) (N := 32) hx hb hts iX8 hown hK hP 0 rfl rfl 15 (by decide) (hts (.fieldLink RX8 93 "ParkTowerModel" "orders" "I") (by decide +kernel)) (fun _ h9 => h9) rfl dX8_counted_61 ?_
                  refine lv_icmp_ge (tgt := 99) hx hb dX8_counted_64 (by decide) (fun c_12 => ?_) (fun c_12 => ?_)
                  · have c_12 : no ≤ no := (nI_leI (a := no) (b := no) (by omega) (by omega)).mp c_12
                    refine lv_iload_n hx hb dX8_counted_99 rfl (lv_at hl 1 rfl) ?_
                    refine lv_if_eq (tgt := 129) hx hb dX8_counted_100 (by decide) (fun _ => ?_) (fun c => absurd (by decide) c)
                    refine lv_iload_n hx hb dX8_counted_129 rfl (lv_at hl 3 rfl) ?_
                    refine lv_istore_n (lv' := [(1, .int (nI (no + 0 + 0 + 0))), (4, .int (nI no)), (3, .int 0), (2, .int 0), (0, .ref mo)]) hx hb dX8_counted_130 rfl hl (by decide) rfl (fun ls hl => ?_)
                    refine lv_iinc (v := 1) (lv' := [(2, .int 1), (1, .int (nI (no + 0 + 0 + 0))), (4, .int (nI no)), (3, .int 0), (0, .ref mo)]) hx hb dX8_counted_131 hl (k := 3) rfl (by decide) (by decide) rfl (fun ls hl => ?_)
                    refine lv_goto (tgt := 20) hx hb dX8_counted_134 (by decide) ?_
                    exact ih_20 ls ⟨(0 + 0), 0, by omega, by omega, fun q => absurd q (by omega), fun _ => rfl, fun _ q => absurd q hmp, fun q => absurd q (by omega), lv_sub hl [0, 1, 4] rfl⟩
                  · have c_12 : ¬ (no ≤ no) := fun q_ => c_12 ((nI_leI (a := no) (b := no) (by omega) (by omega)).mpr q_)
                    exact (by omega : False).elim
              · obtain ⟨cm, hcm, hl⟩ := hI
                have hl : lv_has ls 5 [(4, .int (nI kk)), (3, .int cm), (2, .int 0), (1, .int (nI (no + 0 + 0 + 0))), (0, .ref mo)] := hl
                have hcm : (cm = 1 ∨ (cm = 0 ∧ ¬ mP f5 f11 f16 no 0 dg 0)) := hcm
                rcases hcm with rfl | ⟨rfl, hmp⟩
                · skip
                  have hl : lv_has ls 5 [(4, .int (nI kk)), (3, .int 1), (2, .int 0), (1, .int (nI (no + 0 + 0 + 0))), (0, .ref mo)] := hl
                  refine lv_iload hx hb dX8_counted_58 (lv_at hl 0 rfl) ?_
                  refine lv_aload_n hx hb dX8_counted_60 rfl (lv_at hl 4 rfl) ?_
                  refine va_get (D := (dC, dI)) (ci := 6) (v := .int (nI no)) (C := RX8) (T := TX8) (N := 32) hx hb hts iX8 hown hK hP 0 rfl rfl 15 (by decide) (hts (.fieldLink RX8 93 "ParkTowerModel" "orders" "I") (by decide +kernel)) (fun _ h9 => h9) rfl dX8_counted_61 ?_
                  refine lv_icmp_ge (tgt := 99) hx hb dX8_counted_64 (by decide) (fun c_13 => ?_) (fun c_13 => ?_)
                  · have c_13 : no ≤ kk := (nI_leI (a := no) (b := kk) (by omega) (by omega)).mp c_13
                    exact (by omega : False).elim
                  · have c_13 : ¬ (no ≤ kk) := fun q_ => c_13 ((nI_leI (a := no) (b := kk) (by omega) (by omega)).mpr q_)
                    refine lv_iload_n hx hb dX8_counted_67 rfl (lv_at hl 1 rfl) ?_
                    refine lv_if_eq (tgt := 91) hx hb dX8_counted_68 (by decide) (fun c => absurd c (by decide)) (fun _ => ?_)
                    refine lv_aload_n hx hb dX8_counted_71 rfl (lv_at hl 4 rfl) ?_
                    refine va_get (D := (dC, dI)) (ci := 6) (v := .ref m16) (C := RX8) (T := TX8) (N := 32) hx hb hts iX8 hown hK hP 0 rfl rfl 16 (by decide) (hts (.fieldLink RX8 42 "ParkTowerModel" "orderCar" "[I") (by decide +kernel)) (fun _ h9 => h9) rfl dX8_counted_72 ?_
                    refine lv_iload hx hb dX8_counted_75 (lv_at hl 0 rfl) ?_
                    refine va_iald hx hb hK hP 3 2 rfl rfl (vp_in_nI (n := kk) (by omega) (by decide)) dX8_counted_77 ?_
                    refine lv_topi (fun a_14 ea_14 => ?_)
                    rw [nI_clamp (n := kk) (by omega)] at ea_14
                    refine lv_aload_n hx hb dX8_counted_78 rfl (lv_at hl 4 rfl) ?_
                    refine va_get (D := (dC, dI)) (ci := 6) (v := .ref m11) (C := RX8) (T := TX8) (N := 32) hx hb hts iX8 hown hK hP 0 rfl rfl 11 (by decide) (hts (.fieldLink RX8 32 "ParkTowerModel" "bay" "[I") (by decide +kernel)) (fun _ h9 => h9) rfl dX8_counted_79 ?_
                    refine lv_iload_n hx hb dX8_counted_82 rfl (lv_at hl 2 rfl) ?_
                    refine va_iald hx hb hK hP 2 1 rfl rfl (vp_in_iff.mpr (by decide)) dX8_counted_83 ?_
                    refine pt_topi (nI j_1) (show f11 0 = _ from ea_1.symm) ?_
                    refine lv_icmp_eq (tgt := 91) hx hb dX8_counted_84 (by decide) (fun c_15 => ?_) (fun c_15 => ?_)
                    · have c_15 : (a_14 = (nI j_1)) := c_15
                      refine lv_iconst (v := 0) hx hb dX8_counted_91 (by decide) ?_
                      refine lv_istore_n (lv' := [(3, .int 0), (4, .int (nI kk)), (2, .int 0), (1, .int (nI (no + 0 + 0 + 0))), (0, .ref mo)]) hx hb dX8_counted_92 rfl hl (by decide) rfl (fun ls hl => ?_)
                      refine lv_iinc (v := nI (kk + 1)) (lv' := [(4, .int (nI (kk + 1))), (3, .int 0), (2, .int 0), (1, .int (nI (no + 0 + 0 + 0))), (0, .ref mo)]) hx hb dX8_counted_93 hl (k := 1) rfl (nI_add kk 1) (by decide) rfl (fun ls hl => ?_)
                      refine lv_goto (tgt := 58) hx hb dX8_counted_96 (by decide) ?_
                      exact ih_58 ls ⟨0, Or.inr ⟨rfl, mP_o ea_1 hk (ea_14.symm.trans (by assumption))⟩, lv_sub hl [0, 1, 2, 3, 4] rfl⟩
                    · have c_15 : ¬ (a_14 = (nI j_1)) := c_15
                      refine lv_iconst (v := 1) hx hb dX8_counted_87 (by decide) ?_
                      refine lv_goto (tgt := 92) hx hb dX8_counted_88 (by decide) ?_
                      refine lv_istore_n (lv' := [(3, .int 1), (4, .int (nI kk)), (2, .int 0), (1, .int (nI (no + 0 + 0 + 0))), (0, .ref mo)]) hx hb dX8_counted_92 rfl hl (by decide) rfl (fun ls hl => ?_)
                      refine lv_iinc (v := nI (kk + 1)) (lv' := [(4, .int (nI (kk + 1))), (3, .int 1), (2, .int 0), (1, .int (nI (no + 0 + 0 + 0))), (0, .ref mo)]) hx hb dX8_counted_93 hl (k := 1) rfl (nI_add kk 1) (by decide) rfl (fun ls hl => ?_)
                      refine lv_goto (tgt := 58) hx hb dX8_counted_96 (by decide) ?_
                      exact ih_58 ls ⟨1, Or.inl rfl, lv_sub hl [0, 1, 2, 3, 4] rfl⟩
                · skip
                  have hl : lv_has ls 5 [(4, .int (nI kk)), (3, .int 0), (2, .int 0), (1, .int (nI (no + 0 + 0 + 0))), (0, .ref mo)] := hl
                  refine lv_iload hx hb dX8_counted_58 (lv_at hl 0 rfl) ?_
                  refine lv_aload_n hx hb dX8_counted_60 rfl (lv_at hl 4 rfl) ?_
                  refine va_get (D := (dC, dI)) (ci := 6) (v := .int (nI no)) (C := RX8) (T := TX8) (N := 32) hx hb hts iX8 hown hK hP 0 rfl rfl 15 (by decide) (hts (.fieldLink RX8 93 "ParkTowerModel" "orders" "I") (by decide +kernel)) (fun _ h9 => h9) rfl dX8_counted_61 ?_
                  refine lv_icmp_ge (tgt := 99) hx hb dX8_counted_64 (by decide) (fun c_16 => ?_) (fun c_16 => ?_)
                  · have c_16 : no ≤ kk := (nI_leI (a := no) (b := kk) (by omega) (by omega)).mp c_16
                    exact (by omega : False).elim
                  · have c_16 : ¬ (no ≤ kk) := fun q_ => c_16 ((nI_leI (a := no) (b := kk) (by omega) (by omega)).mpr q_)
                    refine lv_iload_n hx hb dX8_counted_67 rfl (lv_at hl 1 rfl) ?_
                    refine lv_if_eq (tgt := 91) hx hb dX8_counted_68 (by decide) (fun _ => ?_) (fun c => absurd (by decide) c)
                    refine lv_iconst (v := 0) hx hb dX8_counted_91 (by decide) ?_
                    refine lv_istore_n (lv' := [(3, .int 0), (4, .int (nI kk)), (2, .int 0), (1, .int (nI (no + 0 + 0 + 0))), (0, .ref mo)]) hx hb dX8_counted_92 rfl hl (by decide) rfl (fun ls hl => ?_)
                    refine lv_iinc (v := nI (kk + 1)) (lv' := [(4, .int (nI (kk + 1))), (3, .int 0), (2, .int 0), (1, .int (nI (no + 0 + 0 + 0))), (0, .ref mo)]) hx hb dX8_counted_93 hl (k := 1) rfl (nI_add kk 1) (by decide) rfl (fun ls hl => ?_)
                    refine lv_goto (tgt := 58) hx hb dX8_counted_96 (by decide) ?_
                    exact ih_58 ls ⟨0, Or.inr ⟨rfl, hmp⟩, lv_sub hl [0, 1, 2, 3, 4] rfl⟩
            · have c_10 : (a_9 = 1) := c_10
              refine lv_iconst (v := 1) hx hb dX8_counted_49 (by decide) ?_
              refine lv_goto (tgt := 54) hx hb dX8_counted_50 (by decide) ?_
              refine lv_istore_n (lv' := [(3, .int 1), (2, .int 0), (1, .int (nI (no + 0 + 0 + 0))), (0, .ref mo)]) hx hb dX8_counted_54 rfl hl (by decide) rfl (fun ls hl => ?_)
              refine lv_iconst (v := 0) hx hb dX8_counted_55 (by decide) ?_
              refine lv_istore (lv' := [(4, .int 0), (3, .int 1), (2, .int 0), (1, .int (nI (no + 0 + 0 + 0))), (0, .ref mo)]) hx hb dX8_counted_56 hl (by decide) rfl (fun ls hl => ?_)
              refine pt_loop no (fun kk ls => ∃ (cm : Int32), (cm = 1 ∨ (cm = 0 ∧ ¬ mP f5 f11 f16 no 0 dg 0)) ∧ lv_has ls 5 [(4, .int (nI kk)), (3, .int cm), (2, .int 0), (1, .int (nI (no + 0 + 0 + 0))), (0, .ref mo)]) (fun ls hI => ?_) (fun kk ls hk hI ih_58 => ?_) ⟨1, Or.inl rfl, lv_sub hl [0, 1, 2, 3, 4] rfl⟩
              · obtain ⟨cm, hcm, hl⟩ := hI
                have hl : lv_has ls 5 [(4, .int (nI no)), (3, .int cm), (2, .int 0), (1, .int (nI (no + 0 + 0 + 0))), (0, .ref mo)] := hl
                have hcm : (cm = 1 ∨ (cm = 0 ∧ ¬ mP f5 f11 f16 no 0 dg 0)) := hcm
                rcases hcm with rfl | ⟨rfl, hmp⟩
                · skip
                  have hl : lv_has ls 5 [(4, .int (nI no)), (3, .int 1), (2, .int 0), (1, .int (nI (no + 0 + 0 + 0))), (0, .ref mo)] := hl
                  refine lv_iload hx hb dX8_counted_58 (lv_at hl 0 rfl) ?_
                  refine lv_aload_n hx hb dX8_counted_60 rfl (lv_at hl 4 rfl) ?_
                  refine va_get (D := (dC, dI)) (ci := 6) (v := .int (nI no)) (C := RX8) (T := TX8) (N := 32) hx hb hts iX8 hown hK hP 0 rfl rfl 15 (by decide) (hts (.fieldLink RX8 93 "ParkTowerModel" "orders" "I") (by decide +kernel)) (fun _ h9 => h9) rfl dX8_counted_61 ?_
                  refine lv_icmp_ge (tgt := 99) hx hb dX8_counted_64 (by decide) (fun c_17 => ?_) (fun c_17 => ?_)
                  · have c_17 : no ≤ no := (nI_leI (a := no) (b := no) (by omega) (by omega)).mp c_17
                    refine lv_iload_n hx hb dX8_counted_99 rfl (lv_at hl 1 rfl) ?_
                    refine lv_if_eq (tgt := 129) hx hb dX8_counted_100 (by decide) (fun c => absurd c (by decide)) (fun _ => ?_)
                    refine lv_aload_n hx hb dX8_counted_103 rfl (lv_at hl 4 rfl) ?_
                    refine va_get (D := (dC, dI)) (ci := 6) (v := .int 0) (C := RX8) (T := TX8) (N := 32) hx hb hts iX8 hown hK hP 0 rfl rfl 19 (by decide) (hts (.fieldLink RX8 71 "ParkTowerModel" "busy" "Z") (by decide +kernel)) (fun _ h9 => h9) rfl dX8_counted_104 ?_
                    refine lv_if_eq (tgt := 123) hx hb dX8_counted_107 (by decide) (fun _ => ?_) (fun c => absurd (by decide) c)
                    refine lv_iload_n hx hb dX8_counted_123 rfl (lv_at hl 3 rfl) ?_
                    refine lv_iconst (v := 1) hx hb dX8_counted_124 (by decide) ?_
                    refine lv_iadd hx hb dX8_counted_125 ?_
                    refine pt_topi (nI (no + 0 + 0 + 0 + 1)) (nI_add (no + 0 + 0 + 0) 1) ?_
                    refine lv_goto (tgt := 130) hx hb dX8_counted_126 (by decide) ?_
                    refine lv_istore_n (lv' := [(1, .int (nI (no + 0 + 0 + 0 + 1))), (4, .int (nI no)), (3, .int 1), (2, .int 0), (0, .ref mo)]) hx hb dX8_counted_130 rfl hl (by decide) rfl (fun ls hl => ?_)
                    refine lv_iinc (v := 1) (lv' := [(2, .int 1), (1, .int (nI (no + 0 + 0 + 0 + 1))), (4, .int (nI no)), (3, .int 1), (0, .ref mo)]) hx hb dX8_counted_131 hl (k := 3) rfl (by decide) (by decide) rfl (fun ls hl => ?_)
                    refine lv_goto (tgt := 20) hx hb dX8_counted_134 (by decide) ?_
                    exact ih_20 ls ⟨(0 + 1), 0, by omega, by omega, fun q => absurd q (by omega), fun _ => rfl, fun _ q => (by omega), fun q => absurd q (by omega), lv_sub hl [0, 1, 4] rfl⟩
                  · have c_17 : ¬ (no ≤ no) := fun q_ => c_17 ((nI_leI (a := no) (b := no) (by omega) (by omega)).mpr q_)
                    exact (by omega : False).elim
                · skip
                  have hl : lv_has ls 5 [(4, .int (nI no)), (3, .int 0), (2, .int 0), (1, .int (nI (no + 0 + 0 + 0))), (0, .ref mo)] := hl
                  refine lv_iload hx hb dX8_counted_58 (lv_at hl 0 rfl) ?_
                  refine lv_aload_n hx hb dX8_counted_60 rfl (lv_at hl 4 rfl) ?_
                  refine va_get (D := (dC, dI)) (ci := 6) (v := .int (nI no)) (C := RX8) (T := TX8) (N := 32) hx hb hts iX8 hown hK hP 0 rfl rfl 15 (by decide) (hts (.fieldLink RX8 93 "ParkTowerModel" "orders" "I") (by decide +kernel)) (fun _ h9 => h9) rfl dX8_counted_61 ?_
                  refine lv_icmp_ge (tgt := 99) hx hb dX8_counted_64 (by decide) (fun c_18 => ?_) (fun c_18 => ?_)
                  · have c_18 : no ≤ no := (nI_leI (a := no) (b := no) (by omega) (by omega)).mp c_18
                    refine lv_iload_n hx hb dX8_counted_99 rfl (lv_at hl 1 rfl) ?_
                    refine lv_if_eq (tgt := 129) hx hb dX8_counted_100 (by decide) (fun _ => ?_) (fun c => absurd (by decide) c)
                    refine lv_iload_n hx hb dX8_counted_129 rfl (lv_at hl 3 rfl) ?_
                    refine lv_istore_n (lv' := [(1, .int (nI (no + 0 + 0 + 0))), (4, .int (nI no)), (3, .int 0), (2, .int 0), (0, .ref mo)]) hx hb dX8_counted_130 rfl hl (by decide) rfl (fun ls hl => ?_)
                    refine lv_iinc (v := 1) (lv' := [(2, .int 1), (1, .int (nI (no + 0 + 0 + 0))), (4, .int (nI no)), (3, .int 0), (0, .ref mo)]) hx hb dX8_counted_131 hl (k := 3) rfl (by decide) (by decide) rfl (fun ls hl => ?_)
                    refine lv_goto (tgt := 20) hx hb dX8_counted_134 (by decide) ?_
                    exact ih_20 ls ⟨(0 + 0), 0, by omega, by omega, fun q => absurd q (by omega), fun _ => rfl, fun _ q => absurd q hmp, fun q => absurd q (by omega), lv_sub hl [0, 1, 4] rfl⟩
                  · have c_18 : ¬ (no ≤ no) := fun q_ => c_18 ((nI_leI (a := no) (b := no) (by omega) (by omega)).mpr q_)
                    exact (by omega : False).elim
              · obtain ⟨cm, hcm, hl⟩ := hI
                have hl : lv_has ls 5 [(4, .int (nI kk)), (3, .int cm), (2, .int 0), (1, .int (nI (no + 0 + 0 + 0))), (0, .ref mo)] := hl
                have hcm : (cm = 1 ∨ (cm = 0 ∧ ¬ mP f5 f11 f16 no 0 dg 0)) := hcm
                rcases hcm with rfl | ⟨rfl, hmp⟩
                · skip
                  have hl : lv_has ls 5 [(4, .int (nI kk)), (3, .int 1), (2, .int 0), (1, .int (nI (no + 0 + 0 + 0))), (0, .ref mo)] := hl
                  refine lv_iload hx hb dX8_counted_58 (lv_at hl 0 rfl) ?_
                  refine lv_aload_n hx hb dX8_counted_60 rfl (lv_at hl 4 rfl) ?_
                  refine va_get (D := (dC, dI)) (ci := 6) (v := .int (nI no)) (C := RX8) (T := TX8) (N := 32) hx hb hts iX8 hown hK hP 0 rfl rfl 15 (by decide) (hts (.fieldLink RX8 93 "ParkTowerModel" "orders" "I") (by decide +kernel)) (fun _ h9 => h9) rfl dX8_counted_61 ?_
                  refine lv_icmp_ge (tgt := 99) hx hb dX8_counted_64 (by decide) (fun c_19 => ?_) (fun c_19 => ?_)
                  · have c_19 : no ≤ kk := (nI_leI (a := no) (b := kk) (by omega) (by omega)).mp c_19
                    exact (by omega : False).elim
                  · have c_19 : ¬ (no ≤ kk) := fun q_ => c_19 ((nI_leI (a := no) (b := kk) (by omega) (by omega)).mpr q_)
                    refine lv_iload_n hx hb dX8_counted_67 rfl (lv_at hl 1 rfl) ?_
                    refine lv_if_eq (tgt := 91) hx hb dX8_counted_68 (by decide) (fun c => absurd c (by decide)) (fun _ => ?_)
                    refine lv_aload_n hx hb dX8_counted_71 rfl (lv_at hl 4 rfl) ?_
                    refine va_get (D := (dC, dI)) (ci := 6) (v := .ref m16) (C := RX8) (T := TX8) (N := 32) hx hb hts iX8 hown hK hP 0 rfl rfl 16 (by decide) (hts (.fieldLink RX8 42 "ParkTowerModel" "orderCar" "[I") (by decide +kernel)) (fun _ h9 => h9) rfl dX8_counted_72 ?_
                    refine lv_iload hx hb dX8_counted_75 (lv_at hl 0 rfl) ?_
                    refine va_iald hx hb hK hP 3 2 rfl rfl (vp_in_nI (n := kk) (by omega) (by decide)) dX8_counted_77 ?_
                    refine lv_topi (fun a_20 ea_20 => ?_)
                    rw [nI_clamp (n := kk) (by omega)] at ea_20
                    refine lv_aload_n hx hb dX8_counted_78 rfl (lv_at hl 4 rfl) ?_
                    refine va_get (D := (dC, dI)) (ci := 6) (v := .ref m11) (C := RX8) (T := TX8) (N := 32) hx hb hts iX8 hown hK hP 0 rfl rfl 11 (by decide) (hts (.fieldLink RX8 32 "ParkTowerModel" "bay" "[I") (by decide +kernel)) (fun _ h9 => h9) rfl dX8_counted_79 ?_
                    refine lv_iload_n hx hb dX8_counted_82 rfl (lv_at hl 2 rfl) ?_
                    refine va_iald hx hb hK hP 2 1 rfl rfl (vp_in_iff.mpr (by decide)) dX8_counted_83 ?_
                    refine pt_topi (nI j_1) (show f11 0 = _ from ea_1.symm) ?_
                    refine lv_icmp_eq (tgt := 91) hx hb dX8_counted_84 (by decide) (fun c_21 => ?_) (fun c_21 => ?_)
                    · have c_21 : (a_20 = (nI j_1)) := c_21
                      refine lv_iconst (v := 0) hx hb dX8_counted_91 (by decide) ?_
                      refine lv_istore_n (lv' := [(3, .int 0), (4, .int (nI kk)), (2, .int 0), (1, .int (nI (no + 0 + 0 + 0))), (0, .ref mo)]) hx hb dX8_counted_92 rfl hl (by decide) rfl (fun ls hl => ?_)
                      refine lv_iinc (v := nI (kk + 1)) (lv' := [(4, .int (nI (kk + 1))), (3, .int 0), (2, .int 0), (1, .int (nI (no + 0 + 0 + 0))), (0, .ref mo)]) hx hb dX8_counted_93 hl (k := 1) rfl (nI_add kk 1) (by decide) rfl (fun ls hl => ?_)
                      refine lv_goto (tgt := 58) hx hb dX8_counted_96 (by decide) ?_
                      exact ih_58 ls ⟨0, Or.inr ⟨rfl, mP_o ea_1 hk (ea_20.symm.trans (by assumption))⟩, lv_sub hl [0, 1, 2, 3, 4] rfl⟩
                    · have c_21 : ¬ (a_20 = (nI j_1)) := c_21
                      refine lv_iconst (v := 1) hx hb dX8_counted_87 (by decide) ?_
                      refine lv_goto (tgt := 92) hx hb dX8_counted_88 (by decide) ?_
                      refine lv_istore_n (lv' := [(3, .int 1), (4, .int (nI kk)), (2, .int 0), (1, .int (nI (no + 0 + 0 + 0))), (0, .ref mo)]) hx hb dX8_counted_92 rfl hl (by decide) rfl (fun ls hl => ?_)
                      refine lv_iinc (v := nI (kk + 1)) (lv' := [(4, .int (nI (kk + 1))), (3, .int 1), (2, .int 0), (1, .int (nI (no + 0 + 0 + 0))), (0, .ref mo)]) hx hb dX8_counted_93 hl (k := 1) rfl (nI_add kk 1) (by decide) rfl (fun ls hl => ?_)
                      refine lv_goto (tgt := 58) hx hb dX8_counted_96 (by decide) ?_
                      exact ih_58 ls ⟨1, Or.inl rfl, lv_sub hl [0, 1, 2, 3, 4] rfl⟩
                · skip
                  have hl : lv_has ls 5 [(4, .int (nI kk)), (3, .int 0), (2, .int 0), (1, .int (nI (no + 0 + 0 + 0))), (0, .ref mo)] := hl
                  refine lv_iload hx hb dX8_counted_58 (lv_at hl 0 rfl) ?_
                  refine lv_aload_n hx hb dX8_counted_60 rfl (lv_at hl 4 rfl) ?_
                  refine va_get (D := (dC, dI)) (ci := 6) (v := .int (nI no)) (C := RX8) (T := TX8) (N := 32) hx hb hts iX8 hown hK hP 0 rfl rfl 15 (by decide) (hts (.fieldLink RX8 93 "ParkTowerModel" "orders" "I") (by decide +kernel)) (fun _ h9 => h9) rfl dX8_counted_61 ?_
                  refine lv_icmp_ge (tgt := 99) hx hb dX8_counted_64 (by decide) (fun c_22 => ?_) (fun c_22 => ?_)
                  · have c_22 : no ≤ kk := (nI_leI (a := no) (b := kk) (by omega) (by omega)).mp c_22
                    exact (by omega : False).elim
                  · have c_22 : ¬ (no ≤ kk) := fun q_ => c_22 ((nI_leI (a := no) (b := kk) (by omega) (by omega)).mpr q_)
                    refine lv_iload_n hx hb dX8_counted_67 rfl (lv_at hl 1 rfl) ?_
                    refine lv_if_eq (tgt := 91) hx hb dX8_counted_68 (by decide) (fun _ => ?_) (fun c => absurd (by decide) c)
                    refine lv_iconst (v := 0) hx hb dX8_counted_91 (by decide) ?_
                    refine lv_istore_n (lv' := [(3, .int 0), (4, .int (nI kk)), (2, .int 0), (1, .int (nI (no + 0 + 0 + 0))), (0, .ref mo)]) hx hb dX8_counted_92 rfl hl (by decide) rfl (fun ls hl => ?_)
                    refine lv_iinc (v := nI (kk + 1)) (lv' := [(4, .int (nI (kk + 1))), (3, .int 0), (2, .int 0), (1, .int (nI (no + 0 + 0 + 0))), (0, .ref mo)]) hx hb dX8_counted_93 hl (k := 1) rfl (nI_add kk 1) (by decide) rfl (fun ls hl => ?_)
                    refine lv_goto (tgt := 58) hx hb dX8_counted_96 (by decide) ?_
                    exact ih_58 ls ⟨0, Or.inr ⟨rfl, hmp⟩, lv_sub hl [0, 1, 2, 3, 4] rfl⟩
      · skip
        obtain rfl := g4 (by omega)
        have hl : lv_has ls 5 [(2, .int 1), (1, .int (nI (no + 0 + e0 + 0))), (0, .ref mo)] := hl
        refine lv_iload_n hx hb dX8_counted_20 rfl (lv_at hl 0 rfl) ?_
        refine lv_iconst (v := 2) hx hb dX8_counted_21 (by decide) ?_
        refine lv_icmp_ge (tgt := 137) hx hb dX8_counted_22 (by decide) (fun c => absurd c (by decide)) (fun _ => ?_)
        refine lv_aload_n hx hb dX8_counted_25 rfl (lv_at hl 2 rfl) ?_
        refine va_get (D := (dC, dI)) (ci := 6) (v := .ref m11) (C := RX8) (T := TX8) (N := 32) hx hb hts iX8 hown hK hP 0 rfl rfl 11 (by decide) (hts (.fieldLink RX8 32 "ParkTowerModel" "bay" "[I") (by decide +kernel)) (fun _ h9 => h9) rfl dX8_counted_26 ?_
        refine lv_iload_n hx hb dX8_counted_29 rfl (lv_at hl 0 rfl) ?_
        refine va_iald hx hb hK hP 2 1 rfl rfl (vp_in_iff.mpr (by decide)) dX8_counted_30 ?_
        refine lv_topi (fun a_23 ea_23 => ?_)
        have ea_23 : a_23 = f11 1 := ea_23
        rcases (show mB nc a_23 by rw [ea_23]; exact hy _) with rfl | ⟨j_23, hj_23, rfl⟩
        · skip
          refine lv_if_lt (tgt := 53) hx hb dX8_counted_31 (by decide) (fun _ => ?_) (fun c => absurd (by decide) c)
          refine lv_iconst (v := 0) hx hb dX8_counted_53 (by decide) ?_
          refine lv_istore_n (lv' := [(3, .int 0), (2, .int 1), (1, .int (nI (no + 0 + e0 + 0))), (0, .ref mo)]) hx hb dX8_counted_54 rfl hl (by decide) rfl (fun ls hl => ?_)
          refine lv_iconst (v := 0) hx hb dX8_counted_55 (by decide) ?_
          refine lv_istore (lv' := [(4, .int 0), (3, .int 0), (2, .int 1), (1, .int (nI (no + 0 + e0 + 0))), (0, .ref mo)]) hx hb dX8_counted_56 hl (by decide) rfl (fun ls hl => ?_)
          refine pt_loop no (fun kk ls => ∃ (cm : Int32), (cm = 1 ∨ (cm = 0 ∧ ¬ mP f5 f11 f16 no 0 dg 1)) ∧ lv_has ls 5 [(4, .int (nI kk)), (3, .int cm), (2, .int 1), (1, .int (nI (no + 0 + e0 + 0))), (0, .ref mo)]) (fun ls hI => ?_) (fun kk ls hk hI ih_58 => ?_) ⟨0, Or.inr ⟨rfl, mP_n ea_23⟩, lv_sub hl [0, 1, 2, 3, 4] rfl⟩
          · obtain ⟨cm, hcm, hl⟩ := hI
            have hl : lv_has ls 5 [(4, .int (nI no)), (3, .int cm), (2, .int 1), (1, .int (nI (no + 0 + e0 + 0))), (0, .ref mo)] := hl
            have hcm : (cm = 1 ∨ (cm = 0 ∧ ¬ mP f5 f11 f16 no 0 dg 1)) := hcm
            rcases hcm with rfl | ⟨rfl, hmp⟩
            · skip
              have hl : lv_has ls 5 [(4, .int (nI no)), (3, .int 1), (2, .int 1), (1, .int (nI (no + 0 + e0 + 0))), (0, .ref mo)] := hl
              refine lv_iload hx hb dX8_counted_58 (lv_at hl 0 rfl) ?_
              refine lv_aload_n hx hb dX8_counted_60 rfl (lv_at hl 4 rfl) ?_
              refine va_get (D := (dC, dI)) (ci := 6) (v := .int (nI no)) (C := RX8) (T := TX8) (N := 32) hx hb hts iX8 hown hK hP 0 rfl rfl 15 (by decide) (hts (.fieldLink RX8 93 "ParkTowerModel" "orders" "I") (by decide +kernel)) (fun _ h9 => h9) rfl dX8_counted_61 ?_
              refine lv_icmp_ge (tgt := 99) hx hb dX8_counted_64 (by decide) (fun c_24 => ?_) (fun c_24 => ?_)
              · have c_24 : no ≤ no := (nI_leI (a := no) (b := no) (by omega) (by omega)).mp c_24
                refine lv_iload_n hx hb dX8_counted_99 rfl (lv_at hl 1 rfl) ?_
                refine lv_if_eq (tgt := 129) hx hb dX8_counted_100 (by decide) (fun c => absurd c (by decide)) (fun _ => ?_)
                refine lv_aload_n hx hb dX8_counted_103 rfl (lv_at hl 4 rfl) ?_
                refine va_get (D := (dC, dI)) (ci := 6) (v := .int 0) (C := RX8) (T := TX8) (N := 32) hx hb hts iX8 hown hK hP 0 rfl rfl 19 (by decide) (hts (.fieldLink RX8 71 "ParkTowerModel" "busy" "Z") (by decide +kernel)) (fun _ h9 => h9) rfl dX8_counted_104 ?_
                refine lv_if_eq (tgt := 123) hx hb dX8_counted_107 (by decide) (fun _ => ?_) (fun c => absurd (by decide) c)
                refine lv_iload_n hx hb dX8_counted_123 rfl (lv_at hl 3 rfl) ?_
                refine lv_iconst (v := 1) hx hb dX8_counted_124 (by decide) ?_
                refine lv_iadd hx hb dX8_counted_125 ?_
                refine pt_topi (nI (no + 0 + e0 + 0 + 1)) (nI_add (no + 0 + e0 + 0) 1) ?_
                refine lv_goto (tgt := 130) hx hb dX8_counted_126 (by decide) ?_
                refine lv_istore_n (lv' := [(1, .int (nI (no + 0 + e0 + 0 + 1))), (4, .int (nI no)), (3, .int 1), (2, .int 1), (0, .ref mo)]) hx hb dX8_counted_130 rfl hl (by decide) rfl (fun ls hl => ?_)
                refine lv_iinc (v := 2) (lv' := [(2, .int 2), (1, .int (nI (no + 0 + e0 + 0 + 1))), (4, .int (nI no)), (3, .int 1), (0, .ref mo)]) hx hb dX8_counted_131 hl (k := 3) rfl (by decide) (by decide) rfl (fun ls hl => ?_)
                refine lv_goto (tgt := 20) hx hb dX8_counted_134 (by decide) ?_
                exact ih_20 ls ⟨e0, (0 + 1), by omega, by omega, fun q => absurd q (by omega), fun q => absurd q (by omega), fun _ => g5 (by omega), fun _ q => (by omega), lv_sub hl [0, 1, 4] rfl⟩
              · have c_24 : ¬ (no ≤ no) := fun q_ => c_24 ((nI_leI (a := no) (b := no) (by omega) (by omega)).mpr q_)
                exact (by omega : False).elim
            · skip
              have hl : lv_has ls 5 [(4, .int (nI no)), (3, .int 0), (2, .int 1), (1, .int (nI (no + 0 + e0 + 0))), (0, .ref mo)] := hl
              refine lv_iload hx hb dX8_counted_58 (lv_at hl 0 rfl) ?_
              refine lv_aload_n hx hb dX8_counted_60 rfl (lv_at hl 4 rfl) ?_
              refine va_get (D := (dC, dI)) (ci := 6) (v := .int (nI no)) (C := RX8) (T := TX8) (N := 32) hx hb hts iX8 hown hK hP 0 rfl rfl 15 (by decide) (hts (.fieldLink RX8 93 "ParkTowerModel" "orders" "I") (by decide +kernel)) (fun _ h9 => h9) rfl dX8_counted_61 ?_
              refine lv_icmp_ge (tgt := 99) hx hb dX8_counted_64 (by decide) (fun c_25 => ?_) (fun c_25 => ?_)
              · have c_25 : no ≤ no := (nI_leI (a := no) (b := no) (by omega) (by omega)).mp c_25
                refine lv_iload_n hx hb dX8_counted_99 rfl (lv_at hl 1 rfl) ?_
                refine lv_if_eq (tgt := 129) hx hb dX8_counted_100 (by decide) (fun _ => ?_) (fun c => absurd (by decide) c)
                refine lv_iload_n hx hb dX8_counted_129 rfl (lv_at hl 3 rfl) ?_
                refine lv_istore_n (lv' := [(1, .int (nI (no + 0 + e0 + 0))), (4, .int (nI no)), (3, .int 0), (2, .int 1), (0, .ref mo)]) hx hb dX8_counted_130 rfl hl (by decide) rfl (fun ls hl => ?_)
                refine lv_iinc (v := 2) (lv' := [(2, .int 2), (1, .int (nI (no + 0 + e0 + 0))), (4, .int (nI no)), (3, .int 0), (0, .ref mo)]) hx hb dX8_counted_131 hl (k := 3) rfl (by decide) (by decide) rfl (fun ls hl => ?_)
                refine lv_goto (tgt := 20) hx hb dX8_counted_134 (by decide) ?_
                exact ih_20 ls ⟨e0, (0 + 0), by omega, by omega, fun q => absurd q (by omega), fun q => absurd q (by omega), fun _ => g5 (by omega), fun _ q => absurd q hmp, lv_sub hl [0, 1, 4] rfl⟩
              · have c_25 : ¬ (no ≤ no) := fun q_ => c_25 ((nI_leI (a := no) (b := no) (by omega) (by omega)).mpr q_)
                exact (by omega : False).elim
          · obtain ⟨cm, hcm, hl⟩ := hI
            have hl : lv_has ls 5 [(4, .int (nI kk)), (3, .int cm), (2, .int 1), (1, .int (nI (no + 0 + e0 + 0))), (0, .ref mo)] := hl
            have hcm : (cm = 1 ∨ (cm = 0 ∧ ¬ mP f5 f11 f16 no 0 dg 1)) := hcm
            rcases hcm with rfl | ⟨rfl, hmp⟩
            · skip
              have hl : lv_has ls 5 [(4, .int (nI kk)), (3, .int 1), (2, .int 1), (1, .int (nI (no + 0 + e0 + 0))), (0, .ref mo)] := hl
              refine lv_iload hx hb dX8_counted_58 (lv_at hl 0 rfl) ?_
              refine lv_aload_n hx hb dX8_counted_60 rfl (lv_at hl 4 rfl) ?_
              refine va_get (D := (dC, dI)) (ci := 6) (v := .int (nI no)) (C := RX8) (T := TX8) (N := 32) hx hb hts iX8 hown hK hP 0 rfl rfl 15 (by decide) (hts (.fieldLink RX8 93 "ParkTowerModel" "orders" "I") (by decide +kernel)) (fun _ h9 => h9) rfl dX8_counted_61 ?_
              refine lv_icmp_ge (tgt := 99) hx hb dX8_counted_64 (by decide) (fun c_26 => ?_) (fun c_26 => ?_)
              · have c_26 : no ≤ kk := (nI_leI (a := no) (b := kk) (by omega) (by omega)).mp c_26
                exact (by omega : False).elim
              · have c_26 : ¬ (no ≤ kk) := fun q_ => c_26 ((nI_leI (a := no) (b := kk) (by omega) (by omega)).mpr q_)
                refine lv_iload_n hx hb dX8_counted_67 rfl (lv_at hl 1 rfl) ?_
                refine lv_if_eq (tgt := 91) hx hb dX8_counted_68 (by decide) (fun c => absurd c (by decide)) (fun _ => ?_)
                refine lv_aload_n hx hb dX8_counted_71 rfl (lv_at hl 4 rfl) ?_
                refine va_get (D := (dC, dI)) (ci := 6) (v := .ref m16) (C := RX8) (T := TX8) (N := 32) hx hb hts iX8 hown hK hP 0 rfl rfl 16 (by decide) (hts (.fieldLink RX8 42 "ParkTowerModel" "orderCar" "[I") (by decide +kernel)) (fun _ h9 => h9) rfl dX8_counted_72 ?_
                refine lv_iload hx hb dX8_counted_75 (lv_at hl 0 rfl) ?_
                refine va_iald hx hb hK hP 3 2 rfl rfl (vp_in_nI (n := kk) (by omega) (by decide)) dX8_counted_77 ?_
                refine lv_topi (fun a_27 ea_27 => ?_)
                rw [nI_clamp (n := kk) (by omega)] at ea_27
                refine lv_aload_n hx hb dX8_counted_78 rfl (lv_at hl 4 rfl) ?_
                refine va_get (D := (dC, dI)) (ci := 6) (v := .ref m11) (C := RX8) (T := TX8) (N := 32) hx hb hts iX8 hown hK hP 0 rfl rfl 11 (by decide) (hts (.fieldLink RX8 32 "ParkTowerModel" "bay" "[I") (by decide +kernel)) (fun _ h9 => h9) rfl dX8_counted_79 ?_
                refine lv_iload_n hx hb dX8_counted_82 rfl (lv_at hl 2 rfl) ?_
                refine va_iald hx hb hK hP 2 1 rfl rfl (vp_in_iff.mpr (by decide)) dX8_counted_83 ?_
                refine pt_topi (-1) (show f11 1 = _ from ea_23.symm) ?_
                refine lv_icmp_eq (tgt := 91) hx hb dX8_counted_84 (by decide) (fun c_28 => ?_) (fun c_28 => ?_)
                · have c_28 : (a_27 = (-1)) := c_28
                  refine lv_iconst (v := 0) hx hb dX8_counted_91 (by decide) ?_
                  refine lv_istore_n (lv' := [(3, .int 0), (4, .int (nI kk)), (2, .int 1), (1, .int (nI (no + 0 + e0 + 0))), (0, .ref mo)]) hx hb dX8_counted_92 rfl hl (by decide) rfl (fun ls hl => ?_)
                  refine lv_iinc (v := nI (kk + 1)) (lv' := [(4, .int (nI (kk + 1))), (3, .int 0), (2, .int 1), (1, .int (nI (no + 0 + e0 + 0))), (0, .ref mo)]) hx hb dX8_counted_93 hl (k := 1) rfl (nI_add kk 1) (by decide) rfl (fun ls hl => ?_)
                  refine lv_goto (tgt := 58) hx hb dX8_counted_96 (by decide) ?_
                  exact ih_58 ls ⟨0, Or.inr ⟨rfl, mP_n ea_23⟩, lv_sub hl [0, 1, 2, 3, 4] rfl⟩
                · have c_28 : ¬ (a_27 = (-1)) := c_28
                  refine lv_iconst (v := 1) hx hb dX8_counted_87 (by decide) ?_
                  refine lv_goto (tgt := 92) hx hb dX8_counted_88 (by decide) ?_
                  refine lv_istore_n (lv' := [(3, .int 1), (4, .int (nI kk)), (2, .int 1), (1, .int (nI (no + 0 + e0 + 0))), (0, .ref mo)]) hx hb dX8_counted_92 rfl hl (by decide) rfl (fun ls hl => ?_)
                  refine lv_iinc (v := nI (kk + 1)) (lv' := [(4, .int (nI (kk + 1))), (3, .int 1), (2, .int 1), (1, .int (nI (no + 0 + e0 + 0))), (0, .ref mo)]) hx hb dX8_counted_93 hl (k := 1) rfl (nI_add kk 1) (by decide) rfl (fun ls hl => ?_)
                  refine lv_goto (tgt := 58) hx hb dX8_counted_96 (by decide) ?_
                  exact ih_58 ls ⟨1, Or.inl rfl, lv_sub hl [0, 1, 2, 3, 4] rfl⟩
            · skip
              have hl : lv_has ls 5 [(4, .int (nI kk)), (3, .int 0), (2, .int 1), (1, .int (nI (no + 0 + e0 + 0))), (0, .ref mo)] := hl
              refine lv_iload hx hb dX8_counted_58 (lv_at hl 0 rfl) ?_
              refine lv_aload_n hx hb dX8_counted_60 rfl (lv_at hl 4 rfl) ?_
              refine va_get (D := (dC, dI)) (ci := 6) (v := .int (nI no)) (C := RX8) (T := TX8) (N := 32) hx hb hts iX8 hown hK hP 0 rfl rfl 15 (by decide) (hts (.fieldLink RX8 93 "ParkTowerModel" "orders" "I") (by decide +kernel)) (fun _ h9 => h9) rfl dX8_counted_61 ?_
              refine lv_icmp_ge (tgt := 99) hx hb dX8_counted_64 (by decide) (fun c_29 => ?_) (fun c_29 => ?_)
              · have c_29 : no ≤ kk := (nI_leI (a := no) (b := kk) (by omega) (by omega)).mp c_29
                exact (by omega : False).elim
              · have c_29 : ¬ (no ≤ kk) := fun q_ => c_29 ((nI_leI (a := no) (b := kk) (by omega) (by omega)).mpr q_)
                refine lv_iload_n hx hb dX8_counted_67 rfl (lv_at hl 1 rfl) ?_
                refine lv_if_eq (tgt := 91) hx hb dX8_counted_68 (by decide) (fun _ => ?_) (fun c => absurd (by decide) c)
                refine lv_iconst (v := 0) hx hb dX8_counted_91 (by decide) ?_
                refine lv_istore_n (lv' := [(3, .int 0), (4, .int (nI kk)), (2, .int 1), (1, .int (nI (no + 0 + e0 + 0))), (0, .ref mo)]) hx hb dX8_counted_92 rfl hl (by decide) rfl (fun ls hl => ?_)
                refine lv_iinc (v := nI (kk + 1)) (lv' := [(4, .int (nI (kk + 1))), (3, .int 0), (2, .int 1), (1, .int (nI (no + 0 + e0 + 0))), (0, .ref mo)]) hx hb dX8_counted_93 hl (k := 1) rfl (nI_add kk 1) (by decide) rfl (fun ls hl => ?_)
                refine lv_goto (tgt := 58) hx hb dX8_counted_96 (by decide) ?_
                exact ih_58 ls ⟨0, Or.inr ⟨rfl, hmp⟩, lv_sub hl [0, 1, 2, 3, 4] rfl⟩
        · skip
          refine lv_if_lt (tgt := 53) hx hb dX8_counted_31 (by decide) (fun c_30 => ?_) (fun c_30 => ?_)
          · have c_30 : j_23 < 0 := (nI_ltI (a := j_23) (b := 0) (by omega) (by omega)).mp c_30
            exact (by omega : False).elim
          · have c_30 : ¬ (j_23 < 0) := fun q_ => c_30 ((nI_ltI (a := j_23) (b := 0) (by omega) (by omega)).mpr q_)
            refine lv_aload_n hx hb dX8_counted_34 rfl (lv_at hl 2 rfl) ?_
            refine va_get (D := (dC, dI)) (ci := 6) (v := .ref m5) (C := RX8) (T := TX8) (N := 32) hx hb hts iX8 hown hK hP 0 rfl rfl 5 (by decide) (hts (.fieldLink RX8 13 "ParkTowerModel" "where" "[I") (by decide +kernel)) (fun _ h9 => h9) rfl dX8_counted_35 ?_
            refine lv_aload_n hx hb dX8_counted_38 rfl (lv_at hl 2 rfl) ?_
            refine va_get (D := (dC, dI)) (ci := 6) (v := .ref m11) (C := RX8) (T := TX8) (N := 32) hx hb hts iX8 hown hK hP 0 rfl rfl 11 (by decide) (hts (.fieldLink RX8 32 "ParkTowerModel" "bay" "[I") (by decide +kernel)) (fun _ h9 => h9) rfl dX8_counted_39 ?_
            refine lv_iload_n hx hb dX8_counted_42 rfl (lv_at hl 0 rfl) ?_
            refine va_iald hx hb hK hP 2 1 rfl rfl (vp_in_iff.mpr (by decide)) dX8_counted_43 ?_
            refine pt_topi (nI j_23) (show f11 1 = _ from ea_23.symm) ?_
            refine va_iald hx hb hK hP 1 0 rfl rfl (vp_in_nI (n := j_23) (by omega) (by decide)) dX8_counted_44 ?_
            refine lv_topi (fun a_31 ea_31 => ?_)
            rw [nI_clamp (n := j_23) (by omega)] at ea_31
            refine lv_iconst (v := 1) hx hb dX8_counted_45 (by decide) ?_
            refine lv_icmp_ne (tgt := 53) hx hb dX8_counted_46 (by decide) (fun c_32 => ?_) (fun c_32 => ?_)
            · have c_32 : ¬ (a_31 = 1) := c_32
              refine lv_iconst (v := 0) hx hb dX8_counted_53 (by decide) ?_
              refine lv_istore_n (lv' := [(3, .int 0), (2, .int 1), (1, .int (nI (no + 0 + e0 + 0))), (0, .ref mo)]) hx hb dX8_counted_54 rfl hl (by decide) rfl (fun ls hl => ?_)
              refine lv_iconst (v := 0) hx hb dX8_counted_55 (by decide) ?_
              refine lv_istore (lv' := [(4, .int 0), (3, .int 0), (2, .int 1), (1, .int (nI (no + 0 + e0 + 0))), (0, .ref mo)]) hx hb dX8_counted_56 hl (by decide) rfl (fun ls hl => ?_)
              refine pt_loop no (fun kk ls => ∃ (cm : Int32), (cm = 1 ∨ (cm = 0 ∧ ¬ mP f5 f11 f16 no 0 dg 1)) ∧ lv_has ls 5 [(4, .int (nI kk)), (3, .int cm), (2, .int 1), (1, .int (nI (no + 0 + e0 + 0))), (0, .ref mo)]) (fun ls hI => ?_) (fun kk ls hk hI ih_58 => ?_) ⟨0, Or.inr ⟨rfl, mP_w ea_23 (by omega) (fun q9 => absurd (ea_31.trans q9) (by assumption))⟩, lv_sub hl [0, 1, 2, 3, 4] rfl⟩
              · obtain ⟨cm, hcm, hl⟩ := hI
                have hl : lv_has ls 5 [(4, .int (nI no)), (3, .int cm), (2, .int 1), (1, .int (nI (no + 0 + e0 + 0))), (0, .ref mo)] := hl
                have hcm : (cm = 1 ∨ (cm = 0 ∧ ¬ mP f5 f11 f16 no 0 dg 1)) := hcm
                rcases hcm with rfl | ⟨rfl, hmp⟩
                · skip
                  have hl : lv_has ls 5 [(4, .int (nI no)), (3, .int 1), (2, .int 1), (1, .int (nI (no + 0 + e0 + 0))), (0, .ref mo)] := hl
                  refine lv_iload hx hb dX8_counted_58 (lv_at hl 0 rfl) ?_
                  refine lv_aload_n hx hb dX8_counted_60 rfl (lv_at hl 4 rfl) ?_
                  refine va_get (D := (dC, dI)) (ci := 6) (v := .int (nI no)) (C := RX8) (T := TX8) (N := 32) hx hb hts iX8 hown hK hP 0 rfl rfl 15 (by decide) (hts (.fieldLink RX8 93 "ParkTowerModel" "orders" "I") (by decide +kernel)) (fun _ h9 => h9) rfl dX8_counted_61 ?_
                  refine lv_icmp_ge (tgt := 99) hx hb dX8_counted_64 (by decide) (fun c_33 => ?_) (fun c_33 => ?_)
                  · have c_33 : no ≤ no := (nI_leI (a := no) (b := no) (by omega) (by omega)).mp c_33
                    refine lv_iload_n hx hb dX8_counted_99 rfl (lv_at hl 1 rfl) ?_
                    refine lv_if_eq (tgt := 129) hx hb dX8_counted_100 (by decide) (fun c => absurd c (by decide)) (fun _ => ?_)
                    refine lv_aload_n hx hb dX8_counted_103 rfl (lv_at hl 4 rfl) ?_
                    refine va_get (D := (dC, dI)) (ci := 6) (v := .int 0) (C := RX8) (T := TX8) (N := 32) hx hb hts iX8 hown hK hP 0 rfl rfl 19 (by decide) (hts (.fieldLink RX8 71 "ParkTowerModel" "busy" "Z") (by decide +kernel)) (fun _ h9 => h9) rfl dX8_counted_104 ?_
                    refine lv_if_eq (tgt := 123) hx hb dX8_counted_107 (by decide) (fun _ => ?_) (fun c => absurd (by decide) c)
                    refine lv_iload_n hx hb dX8_counted_123 rfl (lv_at hl 3 rfl) ?_
                    refine lv_iconst (v := 1) hx hb dX8_counted_124 (by decide) ?_
                    refine lv_iadd hx hb dX8_counted_125 ?_
                    refine pt_topi (nI (no + 0 + e0 + 0 + 1)) (nI_add (no + 0 + e0 + 0) 1) ?_
                    refine lv_goto (tgt := 130) hx hb dX8_counted_126 (by decide) ?_
                    refine lv_istore_n (lv' := [(1, .int (nI (no + 0 + e0 + 0 + 1))), (4, .int (nI no)), (3, .int 1), (2, .int 1), (0, .ref mo)]) hx hb dX8_counted_130 rfl hl (by decide) rfl (fun ls hl => ?_)
                    refine lv_iinc (v := 2) (lv' := [(2, .int 2), (1, .int (nI (no + 0 + e0 + 0 + 1))), (4, .int (nI no)), (3, .int 1), (0, .ref mo)]) hx hb dX8_counted_131 hl (k := 3) rfl (by decide) (by decide) rfl (fun ls hl => ?_)
                    refine lv_goto (tgt := 20) hx hb dX8_counted_134 (by decide) ?_
                    exact ih_20 ls ⟨e0, (0 + 1), by omega, by omega, fun q => absurd q (by omega), fun q => absurd q (by omega), fun _ => g5 (by omega), fun _ q => (by omega), lv_sub hl [0, 1, 4] rfl⟩
                  · have c_33 : ¬ (no ≤ no) := fun q_ => c_33 ((nI_leI (a := no) (b := no) (by omega) (by omega)).mpr q_)
                    exact (by omega : False).elim
                · skip
                  have hl : lv_has ls 5 [(4, .int (nI no)), (3, .int 0), (2, .int 1), (1, .int (nI (no + 0 + e0 + 0))), (0, .ref mo)] := hl
                  refine lv_iload hx hb dX8_counted_58 (lv_at hl 0 rfl) ?_
                  refine lv_aload_n hx hb dX8_counted_60 rfl (lv_at hl 4 rfl) ?_
                  refine va_get (D := (dC, dI)) (ci := 6) (v := .int (nI no)) (C := RX8) (T := TX8) (N := 32) hx hb hts iX8 hown hK hP 0 rfl rfl 15 (by decide) (hts (.fieldLink RX8 93 "ParkTowerModel" "orders" "I") (by decide +kernel)) (fun _ h9 => h9) rfl dX8_counted_61 ?_
                  refine lv_icmp_ge (tgt := 99) hx hb dX8_counted_64 (by decide) (fun c_34 => ?_) (fun c_34 => ?_)
                  · have c_34 : no ≤ no := (nI_leI (a := no) (b := no) (by omega) (by omega)).mp c_34
                    refine lv_iload_n hx hb dX8_counted_99 rfl (lv_at hl 1 rfl) ?_
                    refine lv_if_eq (tgt := 129) hx hb dX8_counted_100 (by decide) (fun _ => ?_) (fun c => absurd (by decide) c)
                    refine lv_iload_n hx hb dX8_counted_129 rfl (lv_at hl 3 rfl) ?_
                    refine lv_istore_n (lv' := [(1, .int (nI (no + 0 + e0 + 0))), (4, .int (nI no)), (3, .int 0), (2, .int 1), (0, .ref mo)]) hx hb dX8_counted_130 rfl hl (by decide) rfl (fun ls hl => ?_)
                    refine lv_iinc (v := 2) (lv' := [(2, .int 2), (1, .int (nI (no + 0 + e0 + 0))), (4, .int (nI no)), (3, .int 0), (0, .ref mo)]) hx hb dX8_counted_131 hl (k := 3) rfl (by decide) (by decide) rfl (fun ls hl => ?_)
                    refine lv_goto (tgt := 20) hx hb dX8_counted_134 (by decide) ?_
                    exact ih_20 ls ⟨e0, (0 + 0), by omega, by omega, fun q => absurd q (by omega), fun q => absurd q (by omega), fun _ => g5 (by omega), fun _ q => absurd q hmp, lv_sub hl [0, 1, 4] rfl⟩
                  · have c_34 : ¬ (no ≤ no) := fun q_ => c_34 ((nI_leI (a := no) (b := no) (by omega) (by omega)).mpr q_)
                    exact (by omega : False).elim
              · obtain ⟨cm, hcm, hl⟩ := hI
                have hl : lv_has ls 5 [(4, .int (nI kk)), (3, .int cm), (2, .int 1), (1, .int (nI (no + 0 + e0 + 0))), (0, .ref mo)] := hl
                have hcm : (cm = 1 ∨ (cm = 0 ∧ ¬ mP f5 f11 f16 no 0 dg 1)) := hcm
                rcases hcm with rfl | ⟨rfl, hmp⟩
                · skip
                  have hl : lv_has ls 5 [(4, .int (nI kk)), (3, .int 1), (2, .int 1), (1, .int (nI (no + 0 + e0 + 0))), (0, .ref mo)] := hl
                  refine lv_iload hx hb dX8_counted_58 (lv_at hl 0 rfl) ?_
                  refine lv_aload_n hx hb dX8_counted_60 rfl (lv_at hl 4 rfl) ?_
                  refine va_get (D := (dC, dI)) (ci := 6) (v := .int (nI no)) (C := RX8) (T := TX8) (N := 32) hx hb hts iX8 hown hK hP 0 rfl rfl 15 (by decide) (hts (.fieldLink RX8 93 "ParkTowerModel" "orders" "I") (by decide +kernel)) (fun _ h9 => h9) rfl dX8_counted_61 ?_
                  refine lv_icmp_ge (tgt := 99) hx hb dX8_counted_64 (by decide) (fun c_35 => ?_) (fun c_35 => ?_)
                  · have c_35 : no ≤ kk := (nI_leI (a := no) (b := kk) (by omega) (by omega)).mp c_35
                    exact (by omega : False).elim
                  · have c_35 : ¬ (no ≤ kk) := fun q_ => c_35 ((nI_leI (a := no) (b := kk) (by omega) (by omega)).mpr q_)
                    refine lv_iload_n hx hb dX8_counted_67 rfl (lv_at hl 1 rfl) ?_
                    refine lv_if_eq (tgt := 91) hx hb dX8_counted_68 (by decide) (fun c => absurd c (by decide)) (fun _ => ?_)
                    refine lv_aload_n hx hb dX8_counted_71 rfl (lv_at hl 4 rfl) ?_
                    refine va_get (D := (dC, dI)) (ci := 6) (v := .ref m16) (C := RX8) (T := TX8) (N := 32) hx hb hts iX8 hown hK hP 0 rfl rfl 16 (by decide) (hts (.fieldLink RX8 42 "ParkTowerModel" "orderCar" "[I") (by decide +kernel)) (fun _ h9 => h9) rfl dX8_counted_72 ?_
                    refine lv_iload hx hb dX8_counted_75 (lv_at hl 0 rfl) ?_
                    refine va_iald hx hb hK hP 3 2 rfl rfl (vp_in_nI (n := kk) (by omega) (by decide)) dX8_counted_77 ?_
                    refine lv_topi (fun a_36 ea_36 => ?_)
                    rw [nI_clamp (n := kk) (by omega)] at ea_36
                    refine lv_aload_n hx hb dX8_counted_78 rfl (lv_at hl 4 rfl) ?_
                    refine va_get (D := (dC, dI)) (ci := 6) (v := .ref m11) (C := RX8) (T := TX8) (N := 32) hx hb hts iX8 hown hK hP 0 rfl rfl 11 (by decide) (hts (.fieldLink RX8 32 "ParkTowerModel" "bay" "[I") (by decide +kernel)) (fun _ h9 => h9) rfl dX8_counted_79 ?_
                    refine lv_iload_n hx hb dX8_counted_82 rfl (lv_at hl 2 rfl) ?_
                    refine va_iald hx hb hK hP 2 1 rfl rfl (vp_in_iff.mpr (by decide)) dX8_counted_83 ?_
                    refine pt_topi (nI j_23) (show f11 1 = _ from ea_23.symm) ?_
                    refine lv_icmp_eq (tgt := 91) hx hb dX8_counted_84 (by decide) (fun c_37 => ?_) (fun c_37 => ?_)
                    · have c_37 : (a_36 = (nI j_23)) := c_37
                      refine lv_iconst (v := 0) hx hb dX8_counted_91 (by decide) ?_
                      refine lv_istore_n (lv' := [(3, .int 0), (4, .int (nI kk)), (2, .int 1), (1, .int (nI (no + 0 + e0 + 0))), (0, .ref mo)]) hx hb dX8_counted_92 rfl hl (by decide) rfl (fun ls hl => ?_)
                      refine lv_iinc (v := nI (kk + 1)) (lv' := [(4, .int (nI (kk + 1))), (3, .int 0), (2, .int 1), (1, .int (nI (no + 0 + e0 + 0))), (0, .ref mo)]) hx hb dX8_counted_93 hl (k := 1) rfl (nI_add kk 1) (by decide) rfl (fun ls hl => ?_)
                      refine lv_goto (tgt := 58) hx hb dX8_counted_96 (by decide) ?_
                      exact ih_58 ls ⟨0, Or.inr ⟨rfl, mP_o ea_23 hk (ea_36.symm.trans (by assumption))⟩, lv_sub hl [0, 1, 2, 3, 4] rfl⟩
                    · have c_37 : ¬ (a_36 = (nI j_23)) := c_37
                      refine lv_iconst (v := 1) hx hb dX8_counted_87 (by decide) ?_
                      refine lv_goto (tgt := 92) hx hb dX8_counted_88 (by decide) ?_
                      refine lv_istore_n (lv' := [(3, .int 1), (4, .int (nI kk)), (2, .int 1), (1, .int (nI (no + 0 + e0 + 0))), (0, .ref mo)]) hx hb dX8_counted_92 rfl hl (by decide) rfl (fun ls hl => ?_)
                      refine lv_iinc (v := nI (kk + 1)) (lv' := [(4, .int (nI (kk + 1))), (3, .int 1), (2, .int 1), (1, .int (nI (no + 0 + e0 + 0))), (0, .ref mo)]) hx hb dX8_counted_93 hl (k := 1) rfl (nI_add kk 1) (by decide) rfl (fun ls hl => ?_)
                      refine lv_goto (tgt := 58) hx hb dX8_counted_96 (by decide) ?_
                      exact ih_58 ls ⟨1, Or.inl rfl, lv_sub hl [0, 1, 2, 3, 4] rfl⟩
                · skip
                  have hl : lv_has ls 5 [(4, .int (nI kk)), (3, .int 0), (2, .int 1), (1, .int (nI (no + 0 + e0 + 0))), (0, .ref mo)] := hl
                  refine lv_iload hx hb dX8_counted_58 (lv_at hl 0 rfl) ?_
                  refine lv_aload_n hx hb dX8_counted_60 rfl (lv_at hl 4 rfl) ?_
                  refine va_get (D := (dC, dI)) (ci := 6) (v := .int (nI no)) (C := RX8) (T := TX8) (N := 32) hx hb hts iX8 hown hK hP 0 rfl rfl 15 (by decide) (hts (.fieldLink RX8 93 "ParkTowerModel" "orders" "I") (by decide +kernel)) (fun _ h9 => h9) rfl dX8_counted_61 ?_
                  refine lv_icmp_ge (tgt := 99) hx hb dX8_counted_64 (by decide) (fun c_38 => ?_) (fun c_38 => ?_)
                  · have c_38 : no ≤ kk := (nI_leI (a := no) (b := kk) (by omega) (by omega)).mp c_38
                    exact (by omega : False).elim
                  · have c_38 : ¬ (no ≤ kk) := fun q_ => c_38 ((nI_leI (a := no) (b := kk) (by omega) (by omega)).mpr q_)
                    refine lv_iload_n hx hb dX8_counted_67 rfl (lv_at hl 1 rfl) ?_
                    refine lv_if_eq (tgt := 91) hx hb dX8_counted_68 (by decide) (fun _ => ?_) (fun c => absurd (by decide) c)
                    refine lv_iconst (v := 0) hx hb dX8_counted_91 (by decide) ?_
                    refine lv_istore_n (lv' := [(3, .int 0), (4, .int (nI kk)), (2, .int 1), (1, .int (nI (no + 0 + e0 + 0))), (0, .ref mo)]) hx hb dX8_counted_92 rfl hl (by decide) rfl (fun ls hl => ?_)
                    refine lv_iinc (v := nI (kk + 1)) (lv' := [(4, .int (nI (kk + 1))), (3, .int 0), (2, .int 1), (1, .int (nI (no + 0 + e0 + 0))), (0, .ref mo)]) hx hb dX8_counted_93 hl (k := 1) rfl (nI_add kk 1) (by decide) rfl (fun ls hl => ?_)
                    refine lv_goto (tgt := 58) hx hb dX8_counted_96 (by decide) ?_
                    exact ih_58 ls ⟨0, Or.inr ⟨rfl, hmp⟩, lv_sub hl [0, 1, 2, 3, 4] rfl⟩
            · have c_32 : (a_31 = 1) := c_32
              refine lv_iconst (v := 1) hx hb dX8_counted_49 (by decide) ?_
              refine lv_goto (tgt := 54) hx hb dX8_counted_50 (by decide) ?_
              refine lv_istore_n (lv' := [(3, .int 1), (2, .int 1), (1, .int (nI (no + 0 + e0 + 0))), (0, .ref mo)]) hx hb dX8_counted_54 rfl hl (by decide) rfl (fun ls hl => ?_)
              refine lv_iconst (v := 0) hx hb dX8_counted_55 (by decide) ?_
              refine lv_istore (lv' := [(4, .int 0), (3, .int 1), (2, .int 1), (1, .int (nI (no + 0 + e0 + 0))), (0, .ref mo)]) hx hb dX8_counted_56 hl (by decide) rfl (fun ls hl => ?_)
              refine pt_loop no (fun kk ls => ∃ (cm : Int32), (cm = 1 ∨ (cm = 0 ∧ ¬ mP f5 f11 f16 no 0 dg 1)) ∧ lv_has ls 5 [(4, .int (nI kk)), (3, .int cm), (2, .int 1), (1, .int (nI (no + 0 + e0 + 0))), (0, .ref mo)]) (fun ls hI => ?_) (fun kk ls hk hI ih_58 => ?_) ⟨1, Or.inl rfl, lv_sub hl [0, 1, 2, 3, 4] rfl⟩
              · obtain ⟨cm, hcm, hl⟩ := hI
                have hl : lv_has ls 5 [(4, .int (nI no)), (3, .int cm), (2, .int 1), (1, .int (nI (no + 0 + e0 + 0))), (0, .ref mo)] := hl
                have hcm : (cm = 1 ∨ (cm = 0 ∧ ¬ mP f5 f11 f16 no 0 dg 1)) := hcm
                rcases hcm with rfl | ⟨rfl, hmp⟩
                · skip
                  have hl : lv_has ls 5 [(4, .int (nI no)), (3, .int 1), (2, .int 1), (1, .int (nI (no + 0 + e0 + 0))), (0, .ref mo)] := hl
                  refine lv_iload hx hb dX8_counted_58 (lv_at hl 0 rfl) ?_
                  refine lv_aload_n hx hb dX8_counted_60 rfl (lv_at hl 4 rfl) ?_
                  refine va_get (D := (dC, dI)) (ci := 6) (v := .int (nI no)) (C := RX8) (T := TX8) (N := 32) hx hb hts iX8 hown hK hP 0 rfl rfl 15 (by decide) (hts (.fieldLink RX8 93 "ParkTowerModel" "orders" "I") (by decide +kernel)) (fun _ h9 => h9) rfl dX8_counted_61 ?_
                  refine lv_icmp_ge (tgt := 99) hx hb dX8_counted_64 (by decide) (fun c_39 => ?_) (fun c_39 => ?_)
                  · have c_39 : no ≤ no := (nI_leI (a := no) (b := no) (by omega) (by omega)).mp c_39
                    refine lv_iload_n hx hb dX8_counted_99 rfl (lv_at hl 1 rfl) ?_
                    refine lv_if_eq (tgt := 129) hx hb dX8_counted_100 (by decide) (fun c => absurd c (by decide)) (fun _ => ?_)
                    refine lv_aload_n hx hb dX8_counted_103 rfl (lv_at hl 4 rfl) ?_
                    refine va_get (D := (dC, dI)) (ci := 6) (v := .int 0) (C := RX8) (T := TX8) (N := 32) hx hb hts iX8 hown hK hP 0 rfl rfl 19 (by decide) (hts (.fieldLink RX8 71 "ParkTowerModel" "busy" "Z") (by decide +kernel)) (fun _ h9 => h9) rfl dX8_counted_104 ?_
                    refine lv_if_eq (tgt := 123) hx hb dX8_counted_107 (by decide) (fun _ => ?_) (fun c => absurd (by decide) c)
                    refine lv_iload_n hx hb dX8_counted_123 rfl (lv_at hl 3 rfl) ?_
                    refine lv_iconst (v := 1) hx hb dX8_counted_124 (by decide) ?_
                    refine lv_iadd hx hb dX8_counted_125 ?_
                    refine pt_topi (nI (no + 0 + e0 + 0 + 1)) (nI_add (no + 0 + e0 + 0) 1) ?_
                    refine lv_goto (tgt := 130) hx hb dX8_counted_126 (by decide) ?_
                    refine lv_istore_n (lv' := [(1, .int (nI (no + 0 + e0 + 0 + 1))), (4, .int (nI no)), (3, .int 1), (2, .int 1), (0, .ref mo)]) hx hb dX8_counted_130 rfl hl (by decide) rfl (fun ls hl => ?_)
                    refine lv_iinc (v := 2) (lv' := [(2, .int 2), (1, .int (nI (no + 0 + e0 + 0 + 1))), (4, .int (nI no)), (3, .int 1), (0, .ref mo)]) hx hb dX8_counted_131 hl (k := 3) rfl (by decide) (by decide) rfl (fun ls hl => ?_)
                    refine lv_goto (tgt := 20) hx hb dX8_counted_134 (by decide) ?_
                    exact ih_20 ls ⟨e0, (0 + 1), by omega, by omega, fun q => absurd q (by omega), fun q => absurd q (by omega), fun _ => g5 (by omega), fun _ q => (by omega), lv_sub hl [0, 1, 4] rfl⟩
                  · have c_39 : ¬ (no ≤ no) := fun q_ => c_39 ((nI_leI (a := no) (b := no) (by omega) (by omega)).mpr q_)
                    exact (by omega : False).elim
                · skip
                  have hl : lv_has ls 5 [(4, .int (nI no)), (3, .int 0), (2, .int 1), (1, .int (nI (no + 0 + e0 + 0))), (0, .ref mo)] := hl
                  refine lv_iload hx hb dX8_counted_58 (lv_at hl 0 rfl) ?_
                  refine lv_aload_n hx hb dX8_counted_60 rfl (lv_at hl 4 rfl) ?_
                  refine va_get (D := (dC, dI)) (ci := 6) (v := .int (nI no)) (C := RX8) (T := TX8) (N := 32) hx hb hts iX8 hown hK hP 0 rfl rfl 15 (by decide) (hts (.fieldLink RX8 93 "ParkTowerModel" "orders" "I") (by decide +kernel)) (fun _ h9 => h9) rfl dX8_counted_61 ?_
                  refine lv_icmp_ge (tgt := 99) hx hb dX8_counted_64 (by decide) (fun c_40 => ?_) (fun c_40 => ?_)
                  · have c_40 : no ≤ no := (nI_leI (a := no) (b := no) (by omega) (by omega)).mp c_40
                    refine lv_iload_n hx hb dX8_counted_99 rfl (lv_at hl 1 rfl) ?_
                    refine lv_if_eq (tgt := 129) hx hb dX8_counted_100 (by decide) (fun _ => ?_) (fun c => absurd (by decide) c)
                    refine lv_iload_n hx hb dX8_counted_129 rfl (lv_at hl 3 rfl) ?_
                    refine lv_istore_n (lv' := [(1, .int (nI (no + 0 + e0 + 0))), (4, .int (nI no)), (3, .int 0), (2, .int 1), (0, .ref mo)]) hx hb dX8_counted_130 rfl hl (by decide) rfl (fun ls hl => ?_)
                    refine lv_iinc (v := 2) (lv' := [(2, .int 2), (1, .int (nI (no + 0 + e0 + 0))), (4, .int (nI no)), (3, .int 0), (0, .ref mo)]) hx hb dX8_counted_131 hl (k := 3) rfl (by decide) (by decide) rfl (fun ls hl => ?_)
                    refine lv_goto (tgt := 20) hx hb dX8_counted_134 (by decide) ?_
                    exact ih_20 ls ⟨e0, (0 + 0), by omega, by omega, fun q => absurd q (by omega), fun q => absurd q (by omega), fun _ => g5 (by omega), fun _ q => absurd q hmp, lv_sub hl [0, 1, 4] rfl⟩
                  · have c_40 : ¬ (no ≤ no) := fun q_ => c_40 ((nI_leI (a := no) (b := no) (by omega) (by omega)).mpr q_)
                    exact (by omega : False).elim
              · obtain ⟨cm, hcm, hl⟩ := hI
                have hl : lv_has ls 5 [(4, .int (nI kk)), (3, .int cm), (2, .int 1), (1, .int (nI (no + 0 + e0 + 0))), (0, .ref mo)] := hl
                have hcm : (cm = 1 ∨ (cm = 0 ∧ ¬ mP f5 f11 f16 no 0 dg 1)) := hcm
                rcases hcm with rfl | ⟨rfl, hmp⟩
                · skip
                  have hl : lv_has ls 5 [(4, .int (nI kk)), (3, .int 1), (2, .int 1), (1, .int (nI (no + 0 + e0 + 0))), (0, .ref mo)] := hl
                  refine lv_iload hx hb dX8_counted_58 (lv_at hl 0 rfl) ?_
                  refine lv_aload_n hx hb dX8_counted_60 rfl (lv_at hl 4 rfl) ?_
                  refine va_get (D := (dC, dI)) (ci := 6) (v := .int (nI no)) (C := RX8) (T := TX8) (N := 32) hx hb hts iX8 hown hK hP 0 rfl rfl 15 (by decide) (hts (.fieldLink RX8 93 "ParkTowerModel" "orders" "I") (by decide +kernel)) (fun _ h9 => h9) rfl dX8_counted_61 ?_
                  refine lv_icmp_ge (tgt := 99) hx hb dX8_counted_64 (by decide) (fun c_41 => ?_) (fun c_41 => ?_)
                  · have c_41 : no ≤ kk := (nI_leI (a := no) (b := kk) (by omega) (by omega)).mp c_41
                    exact (by omega : False).elim
                  · have c_41 : ¬ (no ≤ kk) := fun q_ => c_41 ((nI_leI (a := no) (b := kk) (by omega) (by omega)).mpr q_)
                    refine lv_iload_n hx hb dX8_counted_67 rfl (lv_at hl 1 rfl) ?_
                    refine lv_if_eq (tgt := 91) hx hb dX8_counted_68 (by decide) (fun c => absurd c (by decide)) (fun _ => ?_)
                    refine lv_aload_n hx hb dX8_counted_71 rfl (lv_at hl 4 rfl) ?_
                    refine va_get (D := (dC, dI)) (ci := 6) (v := .ref m16) (C := RX8) (T := TX8) (N := 32) hx hb hts iX8 hown hK hP 0 rfl rfl 16 (by decide) (hts (.fieldLink RX8 42 "ParkTowerModel" "orderCar" "[I") (by decide +kernel)) (fun _ h9 => h9) rfl dX8_counted_72 ?_
                    refine lv_iload hx hb dX8_counted_75 (lv_at hl 0 rfl) ?_
                    refine va_iald hx hb hK hP 3 2 rfl rfl (vp_in_nI (n := kk) (by omega) (by decide)) dX8_counted_77 ?_
                    refine lv_topi (fun a_42 ea_42 => ?_)
                    rw [nI_clamp (n := kk) (by omega)] at ea_42
                    refine lv_aload_n hx hb dX8_counted_78 rfl (lv_at hl 4 rfl) ?_
                    refine va_get (D := (dC, dI)) (ci := 6) (v := .ref m11) (C := RX8) (T := TX8) (N := 32) hx hb hts iX8 hown hK hP 0 rfl rfl 11 (by decide) (hts (.fieldLink RX8 32 "ParkTowerModel" "bay" "[I") (by decide +kernel)) (fun _ h9 => h9) rfl dX8_counted_79 ?_
                    refine lv_iload_n hx hb dX8_counted_82 rfl (lv_at hl 2 rfl) ?_
                    refine va_iald hx hb hK hP 2 1 rfl rfl (vp_in_iff.mpr (by decide)) dX8_counted_83 ?_
                    refine pt_topi (nI j_23) (show f11 1 = _ from ea_23.symm) ?_
                    refine lv_icmp_eq (tgt := 91) hx hb dX8_counted_84 (by decide) (fun c_43 => ?_) (fun c_43 => ?_)
                    · have c_43 : (a_42 = (nI j_23)) := c_43
                      refine lv_iconst (v := 0) hx hb dX8_counted_91 (by decide) ?_
                      refine lv_istore_n (lv' := [(3, .int 0), (4, .int (nI kk)), (2, .int 1), (1, .int (nI (no + 0 + e0 + 0))), (0, .ref mo)]) hx hb dX8_counted_92 rfl hl (by decide) rfl (fun ls hl => ?_)
                      refine lv_iinc (v := nI (kk + 1)) (lv' := [(4, .int (nI (kk + 1))), (3, .int 0), (2, .int 1), (1, .int (nI (no + 0 + e0 + 0))), (0, .ref mo)]) hx hb dX8_counted_93 hl (k := 1) rfl (nI_add kk 1) (by decide) rfl (fun ls hl => ?_)
                      refine lv_goto (tgt := 58) hx hb dX8_counted_96 (by decide) ?_
                      exact ih_58 ls ⟨0, Or.inr ⟨rfl, mP_o ea_23 hk (ea_42.symm.trans (by assumption))⟩, lv_sub hl [0, 1, 2, 3, 4] rfl⟩
                    · have c_43 : ¬ (a_42 = (nI j_23)) := c_43
                      refine lv_iconst (v := 1) hx hb dX8_counted_87 (by decide) ?_
                      refine lv_goto (tgt := 92) hx hb dX8_counted_88 (by decide) ?_
                      refine lv_istore_n (lv' := [(3, .int 1), (4, .int (nI kk)), (2, .int 1), (1, .int (nI (no + 0 + e0 + 0))), (0, .ref mo)]) hx hb dX8_counted_92 rfl hl (by decide) rfl (fun ls hl => ?_)
                      refine lv_iinc (v := nI (kk + 1)) (lv' := [(4, .int (nI (kk + 1))), (3, .int 1), (2, .int 1), (1, .int (nI (no + 0 + e0 + 0))), (0, .ref mo)]) hx hb dX8_counted_93 hl (k := 1) rfl (nI_add kk 1) (by decide) rfl (fun ls hl => ?_)
                      refine lv_goto (tgt := 58) hx hb dX8_counted_96 (by decide) ?_
                      exact ih_58 ls ⟨1, Or.inl rfl, lv_sub hl [0, 1, 2, 3, 4] rfl⟩
                · skip
                  have hl : lv_has ls 5 [(4, .int (nI kk)), (3, .int 0), (2, .int 1), (1, .int (nI (no + 0 + e0 + 0))), (0, .ref mo)] := hl
                  refine lv_iload hx hb dX8_counted_58 (lv_at hl 0 rfl) ?_
                  refine lv_aload_n hx hb dX8_counted_60 rfl (lv_at hl 4 rfl) ?_
                  refine va_get (D := (dC, dI)) (ci := 6) (v := .int (nI no)) (C := RX8) (T := TX8) (N := 32) hx hb hts iX8 hown hK hP 0 rfl rfl 15 (by decide) (hts (.fieldLink RX8 93 "ParkTowerModel" "orders" "I") (by decide +kernel)) (fun _ h9 => h9) rfl dX8_counted_61 ?_
                  refine lv_icmp_ge (tgt := 99) hx hb dX8_counted_64 (by decide) (fun c_44 => ?_) (fun c_44 => ?_)
                  · have c_44 : no ≤ kk := (nI_leI (a := no) (b := kk) (by omega) (by omega)).mp c_44
                    exact (by omega : False).elim
                  · have c_44 : ¬ (no ≤ kk) := fun q_ => c_44 ((nI_leI (a := no) (b := kk) (by omega) (by omega)).mpr q_)
                    refine lv_iload_n hx hb dX8_counted_67 rfl (lv_at hl 1 rfl) ?_
                    refine lv_if_eq (tgt := 91) hx hb dX8_counted_68 (by decide) (fun _ => ?_) (fun c => absurd (by decide) c)
                    refine lv_iconst (v := 0) hx hb dX8_counted_91 (by decide) ?_
                    refine lv_istore_n (lv' := [(3, .int 0), (4, .int (nI kk)), (2, .int 1), (1, .int (nI (no + 0 + e0 + 0))), (0, .ref mo)]) hx hb dX8_counted_92 rfl hl (by decide) rfl (fun ls hl => ?_)
                    refine lv_iinc (v := nI (kk + 1)) (lv' := [(4, .int (nI (kk + 1))), (3, .int 0), (2, .int 1), (1, .int (nI (no + 0 + e0 + 0))), (0, .ref mo)]) hx hb dX8_counted_93 hl (k := 1) rfl (nI_add kk 1) (by decide) rfl (fun ls hl => ?_)
                    refine lv_goto (tgt := 58) hx hb dX8_counted_96 (by decide) ?_
                    exact ih_58 ls ⟨0, Or.inr ⟨rfl, hmp⟩, lv_sub hl [0, 1, 2, 3, 4] rfl⟩
  · skip
    refine lv_aload_n hx hb dX8_counted_0 rfl (lv_at hl 0 rfl) ?_
    refine va_get (D := (dC, dI)) (ci := 6) (v := .int (nI no)) (C := RX8) (T := TX8) (N := 32) hx hb hts iX8 hown hK hP 0 rfl rfl 15 (by decide) (hts (.fieldLink RX8 93 "ParkTowerModel" "orders" "I") (by decide +kernel)) (fun _ h9 => h9) rfl dX8_counted_1 ?_
    refine lv_aload_n hx hb dX8_counted_4 rfl (lv_at hl 0 rfl) ?_
    refine va_get (D := (dC, dI)) (ci := 6) (v := .int 1) (C := RX8) (T := TX8) (N := 32) hx hb hts iX8 hown hK hP 0 rfl rfl 19 (by decide) (hts (.fieldLink RX8 71 "ParkTowerModel" "busy" "Z") (by decide +kernel)) (fun _ h9 => h9) rfl dX8_counted_5 ?_
    refine lv_if_eq (tgt := 15) hx hb dX8_counted_8 (by decide) (fun c => absurd c (by decide)) (fun _ => ?_)
    refine lv_iconst (v := 1) hx hb dX8_counted_11 (by decide) ?_
    refine lv_goto (tgt := 16) hx hb dX8_counted_12 (by decide) ?_
    refine lv_iadd hx hb dX8_counted_16 ?_
    refine pt_topi (nI (no + 1)) (nI_add no 1) ?_
    refine lv_istore_n (lv' := [(1, .int (nI (no + 1))), (0, .ref mo)]) hx hb dX8_counted_17 rfl hl (by decide) rfl (fun ls hl => ?_)
    refine lv_iconst (v := 0) hx hb dX8_counted_18 (by decide) ?_
    refine lv_istore_n (lv' := [(2, .int 0), (1, .int (nI (no + 1))), (0, .ref mo)]) hx hb dX8_counted_19 rfl hl (by decide) rfl (fun ls hl => ?_)
    refine pt_loop 2 (fun b ls => ∃ (e0 e1 : Nat), e0 ≤ 1 ∧ e1 ≤ 1 ∧ (b ≤ 0 → e0 = 0) ∧ (b ≤ 1 → e1 = 0) ∧ (1 ≤ b → mP f5 f11 f16 no 1 dg 0 → 1 ≤ e0) ∧ (2 ≤ b → mP f5 f11 f16 no 1 dg 1 → 1 ≤ e1) ∧ lv_has ls 5 [(2, .int (nI b)), (1, .int (nI (no + 1 + e0 + e1))), (0, .ref mo)]) (fun ls hI => ?_) (fun b ls hk hI ih_20 => ?_) ⟨0, 0, by omega, by omega, fun _ => rfl, fun _ => rfl, fun q => absurd q (by omega), fun q => absurd q (by omega), lv_sub hl [0, 1, 2] rfl⟩
    · obtain ⟨e0, e1, g1, g2, g3, g4, g5, g6, hl⟩ := hI
      have hl : lv_has ls 5 [(2, .int 2), (1, .int (nI (no + 1 + e0 + e1))), (0, .ref mo)] := hl
      have g1 : e0 ≤ 1 := g1
      have g2 : e1 ≤ 1 := g2
      have g3 : (2 ≤ 0 → e0 = 0) := g3
      have g4 : (2 ≤ 1 → e1 = 0) := g4
      have g5 : (1 ≤ 2 → mP f5 f11 f16 no 1 dg 0 → 1 ≤ e0) := g5
      have g6 : (2 ≤ 2 → mP f5 f11 f16 no 1 dg 1 → 1 ≤ e1) := g6
      refine lv_iload_n hx hb dX8_counted_20 rfl (lv_at hl 0 rfl) ?_
      refine lv_iconst (v := 2) hx hb dX8_counted_21 (by decide) ?_
      refine lv_icmp_ge (tgt := 137) hx hb dX8_counted_22 (by decide) (fun _ => ?_) (fun c => absurd (by decide) c)
      refine lv_iload_n hx hb dX8_counted_137 rfl (lv_at hl 1 rfl) ?_
      exact W.iret (v := nI (no + 1 + e0 + e1)) hx hb hr (fun t ht hW => ⟨nI (no + 1 + e0 + e1), rfl, ⟨e0, e1, rfl, g1, g2, g5 (by omega), g6 (by omega)⟩, ht⟩) (fun q h => by cases h) dX8_counted_138
    · obtain ⟨e0, e1, g1, g2, g3, g4, g5, g6, hl⟩ := hI
      have hl : lv_has ls 5 [(2, .int (nI b)), (1, .int (nI (no + 1 + e0 + e1))), (0, .ref mo)] := hl
      have g1 : e0 ≤ 1 := g1
      have g2 : e1 ≤ 1 := g2
      have g3 : (b ≤ 0 → e0 = 0) := g3
      have g4 : (b ≤ 1 → e1 = 0) := g4
      have g5 : (1 ≤ b → mP f5 f11 f16 no 1 dg 0 → 1 ≤ e0) := g5
      have g6 : (2 ≤ b → mP f5 f11 f16 no 1 dg 1 → 1 ≤ e1) := g6
      rcases (show b = 0 ∨ b = 1 by omega) with rfl | rfl
      · skip
        obtain rfl := g3 (by omega)
        obtain rfl := g4 (by omega)
        have hl : lv_has ls 5 [(2, .int 0), (1, .int (nI (no + 1 + 0 + 0))), (0, .ref mo)] := hl
        refine lv_iload_n hx hb dX8_counted_20 rfl (lv_at hl 0 rfl) ?_
        refine lv_iconst (v := 2) hx hb dX8_counted_21 (by decide) ?_
        refine lv_icmp_ge (tgt := 137) hx hb dX8_counted_22 (by decide) (fun c => absurd c (by decide)) (fun _ => ?_)
        refine lv_aload_n hx hb dX8_counted_25 rfl (lv_at hl 2 rfl) ?_
        refine va_get (D := (dC, dI)) (ci := 6) (v := .ref m11) (C := RX8) (T := TX8) (N := 32) hx hb hts iX8 hown hK hP 0 rfl rfl 11 (by decide) (hts (.fieldLink RX8 32 "ParkTowerModel" "bay" "[I") (by decide +kernel)) (fun _ h9 => h9) rfl dX8_counted_26 ?_
        refine lv_iload_n hx hb dX8_counted_29 rfl (lv_at hl 0 rfl) ?_
        refine va_iald hx hb hK hP 2 1 rfl rfl (vp_in_iff.mpr (by decide)) dX8_counted_30 ?_
        refine lv_topi (fun a_45 ea_45 => ?_)
        have ea_45 : a_45 = f11 0 := ea_45
        rcases (show mB nc a_45 by rw [ea_45]; exact hy _) with rfl | ⟨j_45, hj_45, rfl⟩
        · skip
          refine lv_if_lt (tgt := 53) hx hb dX8_counted_31 (by decide) (fun _ => ?_) (fun c => absurd (by decide) c)
          refine lv_iconst (v := 0) hx hb dX8_counted_53 (by decide) ?_
          refine lv_istore_n (lv' := [(3, .int 0), (2, .int 0), (1, .int (nI (no + 1 + 0 + 0))), (0, .ref mo)]) hx hb dX8_counted_54 rfl hl (by decide) rfl (fun ls hl => ?_)
          refine lv_iconst (v := 0) hx hb dX8_counted_55 (by decide) ?_
          refine lv_istore (lv' := [(4, .int 0), (3, .int 0), (2, .int 0), (1, .int (nI (no + 1 + 0 + 0))), (0, .ref mo)]) hx hb dX8_counted_56 hl (by decide) rfl (fun ls hl => ?_)
          refine pt_loop no (fun kk ls => ∃ (cm : Int32), (cm = 1 ∨ (cm = 0 ∧ ¬ mP f5 f11 f16 no 1 dg 0)) ∧ lv_has ls 5 [(4, .int (nI kk)), (3, .int cm), (2, .int 0), (1, .int (nI (no + 1 + 0 + 0))), (0, .ref mo)]) (fun ls hI => ?_) (fun kk ls hk hI ih_58 => ?_) ⟨0, Or.inr ⟨rfl, mP_n ea_45⟩, lv_sub hl [0, 1, 2, 3, 4] rfl⟩
          · obtain ⟨cm, hcm, hl⟩ := hI
            have hl : lv_has ls 5 [(4, .int (nI no)), (3, .int cm), (2, .int 0), (1, .int (nI (no + 1 + 0 + 0))), (0, .ref mo)] := hl
            have hcm : (cm = 1 ∨ (cm = 0 ∧ ¬ mP f5 f11 f16 no 1 dg 0)) := hcm
            rcases hcm with rfl | ⟨rfl, hmp⟩
            · skip
              have hl : lv_has ls 5 [(4, .int (nI no)), (3, .int 1), (2, .int 0), (1, .int (nI (no + 1 + 0 + 0))), (0, .ref mo)] := hl
              refine lv_iload hx hb dX8_counted_58 (lv_at hl 0 rfl) ?_
              refine lv_aload_n hx hb dX8_counted_60 rfl (lv_at hl 4 rfl) ?_
              refine va_get (D := (dC, dI)) (ci := 6) (v := .int (nI no)) (C := RX8) (T := TX8) (N := 32) hx hb hts iX8 hown hK hP 0 rfl rfl 15 (by decide) (hts (.fieldLink RX8 93 "ParkTowerModel" "orders" "I") (by decide +kernel)) (fun _ h9 => h9) rfl dX8_counted_61 ?_
              refine lv_icmp_ge (tgt := 99) hx hb dX8_counted_64 (by decide) (fun c_46 => ?_) (fun c_46 => ?_)
              · have c_46 : no ≤ no := (nI_leI (a := no) (b := no) (by omega) (by omega)).mp c_46
                refine lv_iload_n hx hb dX8_counted_99 rfl (lv_at hl 1 rfl) ?_
                refine lv_if_eq (tgt := 129) hx hb dX8_counted_100 (by decide) (fun c => absurd c (by decide)) (fun _ => ?_)
                refine lv_aload_n hx hb dX8_counted_103 rfl (lv_at hl 4 rfl) ?_
                refine va_get (D := (dC, dI)) (ci := 6) (v := .int 1) (C := RX8) (T := TX8) (N := 32) hx hb hts iX8 hown hK hP 0 rfl rfl 19 (by decide) (hts (.fieldLink RX8 71 "ParkTowerModel" "busy" "Z") (by decide +kernel)) (fun _ h9 => h9) rfl dX8_counted_104 ?_
                refine lv_if_eq (tgt := 123) hx hb dX8_counted_107 (by decide) (fun c => absurd c (by decide)) (fun _ => ?_)
                refine lv_aload_n hx hb dX8_counted_110 rfl (lv_at hl 4 rfl) ?_
                refine va_get (D := (dC, dI)) (ci := 6) (v := .int (nI dg)) (C := RX8) (T := TX8) (N := 32) hx hb hts iX8 hown hK hP 0 rfl rfl 20 (by decide) (hts (.fieldLink RX8 77 "ParkTowerModel" "doing" "I") (by decide +kernel)) (fun _ h9 => h9) rfl dX8_counted_111 ?_
                refine lv_aload_n hx hb dX8_counted_114 rfl (lv_at hl 4 rfl) ?_
                refine va_get (D := (dC, dI)) (ci := 6) (v := .ref m11) (C := RX8) (T := TX8) (N := 32) hx hb hts iX8 hown hK hP 0 rfl rfl 11 (by decide) (hts (.fieldLink RX8 32 "ParkTowerModel" "bay" "[I") (by decide +kernel)) (fun _ h9 => h9) rfl dX8_counted_115 ?_
                refine lv_iload_n hx hb dX8_counted_118 rfl (lv_at hl 2 rfl) ?_
                refine va_iald hx hb hK hP 2 1 rfl rfl (vp_in_iff.mpr (by decide)) dX8_counted_119 ?_
                refine pt_topi (-1) (show f11 0 = _ from ea_45.symm) ?_
                refine lv_icmp_eq (tgt := 129) hx hb dX8_counted_120 (by decide) (fun c_47 => ?_) (fun c_47 => ?_)
                · have c_47 : ((nI dg) = (-1)) := c_47
                  have hmp : ¬ mP f5 f11 f16 no 1 dg 0 := mP_n ea_45
                  refine lv_iload_n hx hb dX8_counted_129 rfl (lv_at hl 3 rfl) ?_
                  refine lv_istore_n (lv' := [(1, .int (nI (no + 1 + 0 + 0))), (4, .int (nI no)), (3, .int 1), (2, .int 0), (0, .ref mo)]) hx hb dX8_counted_130 rfl hl (by decide) rfl (fun ls hl => ?_)
                  refine lv_iinc (v := 1) (lv' := [(2, .int 1), (1, .int (nI (no + 1 + 0 + 0))), (4, .int (nI no)), (3, .int 1), (0, .ref mo)]) hx hb dX8_counted_131 hl (k := 3) rfl (by decide) (by decide) rfl (fun ls hl => ?_)
                  refine lv_goto (tgt := 20) hx hb dX8_counted_134 (by decide) ?_
                  exact ih_20 ls ⟨(0 + 0), 0, by omega, by omega, fun q => absurd q (by omega), fun _ => rfl, fun _ q => absurd q hmp, fun q => absurd q (by omega), lv_sub hl [0, 1, 4] rfl⟩
                · have c_47 : ¬ ((nI dg) = (-1)) := c_47
                  refine lv_iload_n hx hb dX8_counted_123 rfl (lv_at hl 3 rfl) ?_
                  refine lv_iconst (v := 1) hx hb dX8_counted_124 (by decide) ?_
                  refine lv_iadd hx hb dX8_counted_125 ?_
                  refine pt_topi (nI (no + 1 + 0 + 0 + 1)) (nI_add (no + 1 + 0 + 0) 1) ?_
                  refine lv_goto (tgt := 130) hx hb dX8_counted_126 (by decide) ?_
                  refine lv_istore_n (lv' := [(1, .int (nI (no + 1 + 0 + 0 + 1))), (4, .int (nI no)), (3, .int 1), (2, .int 0), (0, .ref mo)]) hx hb dX8_counted_130 rfl hl (by decide) rfl (fun ls hl => ?_)
                  refine lv_iinc (v := 1) (lv' := [(2, .int 1), (1, .int (nI (no + 1 + 0 + 0 + 1))), (4, .int (nI no)), (3, .int 1), (0, .ref mo)]) hx hb dX8_counted_131 hl (k := 3) rfl (by decide) (by decide) rfl (fun ls hl => ?_)
                  refine lv_goto (tgt := 20) hx hb dX8_counted_134 (by decide) ?_
                  exact ih_20 ls ⟨(0 + 1), 0, by omega, by omega, fun q => absurd q (by omega), fun _ => rfl, fun _ q => (by omega), fun q => absurd q (by omega), lv_sub hl [0, 1, 4] rfl⟩
              · have c_46 : ¬ (no ≤ no) := fun q_ => c_46 ((nI_leI (a := no) (b := no) (by omega) (by omega)).mpr q_)
                exact (by omega : False).elim
            · skip
              have hl : lv_has ls 5 [(4, .int (nI no)), (3, .int 0), (2, .int 0), (1, .int (nI (no + 1 + 0 + 0))), (0, .ref mo)] := hl
              refine lv_iload hx hb dX8_counted_58 (lv_at hl 0 rfl) ?_
              refine lv_aload_n hx hb dX8_counted_60 rfl (lv_at hl 4 rfl) ?_
              refine va_get (D := (dC, dI)) (ci := 6) (v := .int (nI no)) (C := RX8) (T := TX8) (N := 32) hx hb hts iX8 hown hK hP 0 rfl rfl 15 (by decide) (hts (.fieldLink RX8 93 "ParkTowerModel" "orders" "I") (by decide +kernel)) (fun _ h9 => h9) rfl dX8_counted_61 ?_
              refine lv_icmp_ge (tgt := 99) hx hb dX8_counted_64 (by decide) (fun c_48 => ?_) (fun c_48 => ?_)
              · have c_48 : no ≤ no := (nI_leI (a := no) (b := no) (by omega) (by omega)).mp c_48
                refine lv_iload_n hx hb dX8_counted_99 rfl (lv_at hl 1 rfl) ?_
                refine lv_if_eq (tgt := 129) hx hb dX8_counted_100 (by decide) (fun _ => ?_) (fun c => absurd (by decide) c)
                refine lv_iload_n hx hb dX8_counted_129 rfl (lv_at hl 3 rfl) ?_
                refine lv_istore_n (lv' := [(1, .int (nI (no + 1 + 0 + 0))), (4, .int (nI no)), (3, .int 0), (2, .int 0), (0, .ref mo)]) hx hb dX8_counted_130 rfl hl (by decide) rfl (fun ls hl => ?_)
                refine lv_iinc (v := 1) (lv' := [(2, .int 1), (1, .int (nI (no + 1 + 0 + 0))), (4, .int (nI no)), (3, .int 0), (0, .ref mo)]) hx hb dX8_counted_131 hl (k := 3) rfl (by decide) (by decide) rfl (fun ls hl => ?_)
                refine lv_goto (tgt := 20) hx hb dX8_counted_134 (by decide) ?_
                exact ih_20 ls ⟨(0 + 0), 0, by omega, by omega, fun q => absurd q (by omega), fun _ => rfl, fun _ q => absurd q hmp, fun q => absurd q (by omega), lv_sub hl [0, 1, 4] rfl⟩
              · have c_48 : ¬ (no ≤ no) := fun q_ => c_48 ((nI_leI (a := no) (b := no) (by omega) (by omega)).mpr q_)
                exact (by omega : False).elim
          · obtain ⟨cm, hcm, hl⟩ := hI
            have hl : lv_has ls 5 [(4, .int (nI kk)), (3, .int cm), (2, .int 0), (1, .int (nI (no + 1 + 0 + 0))), (0, .ref mo)] := hl
            have hcm : (cm = 1 ∨ (cm = 0 ∧ ¬ mP f5 f11 f16 no 1 dg 0)) := hcm
            rcases hcm with rfl | ⟨rfl, hmp⟩
            · skip
              have hl : lv_has ls 5 [(4, .int (nI kk)), (3, .int 1), (2, .int 0), (1, .int (nI (no + 1 + 0 + 0))), (0, .ref mo)] := hl
              refine lv_iload hx hb dX8_counted_58 (lv_at hl 0 rfl) ?_
              refine lv_aload_n hx hb dX8_counted_60 rfl (lv_at hl 4 rfl) ?_
              refine va_get (D := (dC, dI)) (ci := 6) (v := .int (nI no)) (C := RX8) (T := TX8) (N := 32) hx hb hts iX8 hown hK hP 0 rfl rfl 15 (by decide) (hts (.fieldLink RX8 93 "ParkTowerModel" "orders" "I") (by decide +kernel)) (fun _ h9 => h9) rfl dX8_counted_61 ?_
              refine lv_icmp_ge (tgt := 99) hx hb dX8_counted_64 (by decide) (fun c_49 => ?_) (fun c_49 => ?_)
              · have c_49 : no ≤ kk := (nI_leI (a := no) (b := kk) (by omega) (by omega)).mp c_49
                exact (by omega : False).elim
              · have c_49 : ¬ (no ≤ kk) := fun q_ => c_49 ((nI_leI (a := no) (b := kk) (by omega) (by omega)).mpr q_)
                refine lv_iload_n hx hb dX8_counted_67 rfl (lv_at hl 1 rfl) ?_
                refine lv_if_eq (tgt := 91) hx hb dX8_counted_68 (by decide) (fun c => absurd c (by decide)) (fun _ => ?_)
                refine lv_aload_n hx hb dX8_counted_71 rfl (lv_at hl 4 rfl) ?_
                refine va_get (D := (dC, dI)) (ci := 6) (v := .ref m16) (C := RX8) (T := TX8) (N := 32) hx hb hts iX8 hown hK hP 0 rfl rfl 16 (by decide) (hts (.fieldLink RX8 42 "ParkTowerModel" "orderCar" "[I") (by decide +kernel)) (fun _ h9 => h9) rfl dX8_counted_72 ?_
                refine lv_iload hx hb dX8_counted_75 (lv_at hl 0 rfl) ?_
                refine va_iald hx hb hK hP 3 2 rfl rfl (vp_in_nI (n := kk) (by omega) (by decide)) dX8_counted_77 ?_
                refine lv_topi (fun a_50 ea_50 => ?_)
                rw [nI_clamp (n := kk) (by omega)] at ea_50
                refine lv_aload_n hx hb dX8_counted_78 rfl (lv_at hl 4 rfl) ?_
                refine va_get (D := (dC, dI)) (ci := 6) (v := .ref m11) (C := RX8) (T := TX8) (N := 32) hx hb hts iX8 hown hK hP 0 rfl rfl 11 (by decide) (hts (.fieldLink RX8 32 "ParkTowerModel" "bay" "[I") (by decide +kernel)) (fun _ h9 => h9) rfl dX8_counted_79 ?_
                refine lv_iload_n hx hb dX8_counted_82 rfl (lv_at hl 2 rfl) ?_
                refine va_iald hx hb hK hP 2 1 rfl rfl (vp_in_iff.mpr (by decide)) dX8_counted_83 ?_
                refine pt_topi (-1) (show f11 0 = _ from ea_45.symm) ?_
                refine lv_icmp_eq (tgt := 91) hx hb dX8_counted_84 (by decide) (fun c_51 => ?_) (fun c_51 => ?_)
                · have c_51 : (a_50 = (-1)) := c_51
                  refine lv_iconst (v := 0) hx hb dX8_counted_91 (by decide) ?_
                  refine lv_istore_n (lv' := [(3, .int 0), (4, .int (nI kk)), (2, .int 0), (1, .int (nI (no + 1 + 0 + 0))), (0, .ref mo)]) hx hb dX8_counted_92 rfl hl (by decide) rfl (fun ls hl => ?_)
                  refine lv_iinc (v := nI (kk + 1)) (lv' := [(4, .int (nI (kk + 1))), (3, .int 0), (2, .int 0), (1, .int (nI (no + 1 + 0 + 0))), (0, .ref mo)]) hx hb dX8_counted_93 hl (k := 1) rfl (nI_add kk 1) (by decide) rfl (fun ls hl => ?_)
                  refine lv_goto (tgt := 58) hx hb dX8_counted_96 (by decide) ?_
                  exact ih_58 ls ⟨0, Or.inr ⟨rfl, mP_n ea_45⟩, lv_sub hl [0, 1, 2, 3, 4] rfl⟩
                · have c_51 : ¬ (a_50 = (-1)) := c_51
                  refine lv_iconst (v := 1) hx hb dX8_counted_87 (by decide) ?_
                  refine lv_goto (tgt := 92) hx hb dX8_counted_88 (by decide) ?_
                  refine lv_istore_n (lv' := [(3, .int 1), (4, .int (nI kk)), (2, .int 0), (1, .int (nI (no + 1 + 0 + 0))), (0, .ref mo)]) hx hb dX8_counted_92 rfl hl (by decide) rfl (fun ls hl => ?_)
                  refine lv_iinc (v := nI (kk + 1)) (lv' := [(4, .int (nI (kk + 1))), (3, .int 1), (2, .int 0), (1, .int (nI (no + 1 + 0 + 0))), (0, .ref mo)]) hx hb dX8_counted_93 hl (k := 1) rfl (nI_add kk 1) (by decide) rfl (fun ls hl => ?_)
                  refine lv_goto (tgt := 58) hx hb dX8_counted_96 (by decide) ?_
                  exact ih_58 ls ⟨1, Or.inl rfl, lv_sub hl [0, 1, 2, 3, 4] rfl⟩
            · skip
              have hl : lv_has ls 5 [(4, .int (nI kk)), (3, .int 0), (2, .int 0), (1, .int (nI (no + 1 + 0 + 0))), (0, .ref mo)] := hl
              refine lv_iload hx hb dX8_counted_58 (lv_at hl 0 rfl) ?_
              refine lv_aload_n hx hb dX8_counted_60 rfl (lv_at hl 4 rfl) ?_
              refine va_get (D := (dC, dI)) (ci := 6) (v := .int (nI no)) (C := RX8) (T := TX8) (N := 32) hx hb hts iX8 hown hK hP 0 rfl rfl 15 (by decide) (hts (.fieldLink RX8 93 "ParkTowerModel" "orders" "I") (by decide +kernel)) (fun _ h9 => h9) rfl dX8_counted_61 ?_
              refine lv_icmp_ge (tgt := 99) hx hb dX8_counted_64 (by decide) (fun c_52 => ?_) (fun c_52 => ?_)
              · have c_52 : no ≤ kk := (nI_leI (a := no) (b := kk) (by omega) (by omega)).mp c_52
                exact (by omega : False).elim
              · have c_52 : ¬ (no ≤ kk) := fun q_ => c_52 ((nI_leI (a := no) (b := kk) (by omega) (by omega)).mpr q_)
                refine lv_iload_n hx hb dX8_counted_67 rfl (lv_at hl 1 rfl) ?_
                refine lv_if_eq (tgt := 91) hx hb dX8_counted_68 (by decide) (fun _ => ?_) (fun c => absurd (by decide) c)
                refine lv_iconst (v := 0) hx hb dX8_counted_91 (by decide) ?_
                refine lv_istore_n (lv' := [(3, .int 0), (4, .int (nI kk)), (2, .int 0), (1, .int (nI (no + 1 + 0 + 0))), (0, .ref mo)]) hx hb dX8_counted_92 rfl hl (by decide) rfl (fun ls hl => ?_)
                refine lv_iinc (v := nI (kk + 1)) (lv' := [(4, .int (nI (kk + 1))), (3, .int 0), (2, .int 0), (1, .int (nI (no + 1 + 0 + 0))), (0, .ref mo)]) hx hb dX8_counted_93 hl (k := 1) rfl (nI_add kk 1) (by decide) rfl (fun ls hl => ?_)
                refine lv_goto (tgt := 58) hx hb dX8_counted_96 (by decide) ?_
                exact ih_58 ls ⟨0, Or.inr ⟨rfl, hmp⟩, lv_sub hl [0, 1, 2, 3, 4] rfl⟩
        · skip
          refine lv_if_lt (tgt := 53) hx hb dX8_counted_31 (by decide) (fun c_53 => ?_) (fun c_53 => ?_)
          · have c_53 : j_45 < 0 := (nI_ltI (a := j_45) (b := 0) (by omega) (by omega)).mp c_53
            exact (by omega : False).elim
          · have c_53 : ¬ (j_45 < 0) := fun q_ => c_53 ((nI_ltI (a := j_45) (b := 0) (by omega) (by omega)).mpr q_)
            refine lv_aload_n hx hb dX8_counted_34 rfl (lv_at hl 2 rfl) ?_
            refine va_get (D := (dC, dI)) (ci := 6) (v := .ref m5) (C := RX8) (T := TX8) (N := 32) hx hb hts iX8 hown hK hP 0 rfl rfl 5 (by decide) (hts (.fieldLink RX8 13 "ParkTowerModel" "where" "[I") (by decide +kernel)) (fun _ h9 => h9) rfl dX8_counted_35 ?_
            refine lv_aload_n hx hb dX8_counted_38 rfl (lv_at hl 2 rfl) ?_
            refine va_get (D := (dC, dI)) (ci := 6) (v := .ref m11) (C := RX8) (T := TX8) (N := 32) hx hb hts iX8 hown hK hP 0 rfl rfl 11 (by decide) (hts (.fieldLink RX8 32 "ParkTowerModel" "bay" "[I") (by decide +kernel)) (fun _ h9 => h9) rfl dX8_counted_39 ?_
            refine lv_iload_n hx hb dX8_counted_42 rfl (lv_at hl 0 rfl) ?_
            refine va_iald hx hb hK hP 2 1 rfl rfl (vp_in_iff.mpr (by decide)) dX8_counted_43 ?_
            refine pt_topi (nI j_45) (show f11 0 = _ from ea_45.symm) ?_
            refine va_iald hx hb hK hP 1 0 rfl rfl (vp_in_nI (n := j_45) (by omega) (by decide)) dX8_counted_44 ?_
            refine lv_topi (fun a_54 ea_54 => ?_)
            rw [nI_clamp (n := j_45) (by omega)] at ea_54
            refine lv_iconst (v := 1) hx hb dX8_counted_45 (by decide) ?_
            refine lv_icmp_ne (tgt := 53) hx hb dX8_counted_46 (by decide) (fun c_55 => ?_) (fun c_55 => ?_)
            · have c_55 : ¬ (a_54 = 1) := c_55
              refine lv_iconst (v := 0) hx hb dX8_counted_53 (by decide) ?_
              refine lv_istore_n (lv' := [(3, .int 0), (2, .int 0), (1, .int (nI (no + 1 + 0 + 0))), (0, .ref mo)]) hx hb dX8_counted_54 rfl hl (by decide) rfl (fun ls hl => ?_)
              refine lv_iconst (v := 0) hx hb dX8_counted_55 (by decide) ?_
              refine lv_istore (lv' := [(4, .int 0), (3, .int 0), (2, .int 0), (1, .int (nI (no + 1 + 0 + 0))), (0, .ref mo)]) hx hb dX8_counted_56 hl (by decide) rfl (fun ls hl => ?_)
              refine pt_loop no (fun kk ls => ∃ (cm : Int32), (cm = 1 ∨ (cm = 0 ∧ ¬ mP f5 f11 f16 no 1 dg 0)) ∧ lv_has ls 5 [(4, .int (nI kk)), (3, .int cm), (2, .int 0), (1, .int (nI (no + 1 + 0 + 0))), (0, .ref mo)]) (fun ls hI => ?_) (fun kk ls hk hI ih_58 => ?_) ⟨0, Or.inr ⟨rfl, mP_w ea_45 (by omega) (fun q9 => absurd (ea_54.trans q9) (by assumption))⟩, lv_sub hl [0, 1, 2, 3, 4] rfl⟩
              · obtain ⟨cm, hcm, hl⟩ := hI
                have hl : lv_has ls 5 [(4, .int (nI no)), (3, .int cm), (2, .int 0), (1, .int (nI (no + 1 + 0 + 0))), (0, .ref mo)] := hl
                have hcm : (cm = 1 ∨ (cm = 0 ∧ ¬ mP f5 f11 f16 no 1 dg 0)) := hcm
                rcases hcm with rfl | ⟨rfl, hmp⟩
                · skip
                  have hl : lv_has ls 5 [(4, .int (nI no)), (3, .int 1), (2, .int 0), (1, .int (nI (no + 1 + 0 + 0))), (0, .ref mo)] := hl
                  refine lv_iload hx hb dX8_counted_58 (lv_at hl 0 rfl) ?_
                  refine lv_aload_n hx hb dX8_counted_60 rfl (lv_at hl 4 rfl) ?_
                  refine va_get (D := (dC, dI)) (ci := 6) (v := .int (nI no)) (C := RX8) (T := TX8) (N := 32) hx hb hts iX8 hown hK hP 0 rfl rfl 15 (by decide) (hts (.fieldLink RX8 93 "ParkTowerModel" "orders" "I") (by decide +kernel)) (fun _ h9 => h9) rfl dX8_counted_61 ?_
                  refine lv_icmp_ge (tgt := 99) hx hb dX8_counted_64 (by decide) (fun c_56 => ?_) (fun c_56 => ?_)
                  · have c_56 : no ≤ no := (nI_leI (a := no) (b := no) (by omega) (by omega)).mp c_56
                    refine lv_iload_n hx hb dX8_counted_99 rfl (lv_at hl 1 rfl) ?_
                    refine lv_if_eq (tgt := 129) hx hb dX8_counted_100 (by decide) (fun c => absurd c (by decide)) (fun _ => ?_)
                    refine lv_aload_n hx hb dX8_counted_103 rfl (lv_at hl 4 rfl) ?_
                    refine va_get (D := (dC, dI)) (ci := 6) (v := .int 1) (C := RX8) (T := TX8) (N := 32) hx hb hts iX8 hown hK hP 0 rfl rfl 19 (by decide) (hts (.fieldLink RX8 71 "ParkTowerModel" "busy" "Z") (by decide +kernel)) (fun _ h9 => h9) rfl dX8_counted_104 ?_
                    refine lv_if_eq (tgt := 123) hx hb dX8_counted_107 (by decide) (fun c => absurd c (by decide)) (fun _ => ?_)
                    refine lv_aload_n hx hb dX8_counted_110 rfl (lv_at hl 4 rfl) ?_
                    refine va_get (D := (dC, dI)) (ci := 6) (v := .int (nI dg)) (C := RX8) (T := TX8) (N := 32) hx hb hts iX8 hown hK hP 0 rfl rfl 20 (by decide) (hts (.fieldLink RX8 77 "ParkTowerModel" "doing" "I") (by decide +kernel)) (fun _ h9 => h9) rfl dX8_counted_111 ?_
                    refine lv_aload_n hx hb dX8_counted_114 rfl (lv_at hl 4 rfl) ?_
                    refine va_get (D := (dC, dI)) (ci := 6) (v := .ref m11) (C := RX8) (T := TX8) (N := 32) hx hb hts iX8 hown hK hP 0 rfl rfl 11 (by decide) (hts (.fieldLink RX8 32 "ParkTowerModel" "bay" "[I") (by decide +kernel)) (fun _ h9 => h9) rfl dX8_counted_115 ?_
                    refine lv_iload_n hx hb dX8_counted_118 rfl (lv_at hl 2 rfl) ?_
                    refine va_iald hx hb hK hP 2 1 rfl rfl (vp_in_iff.mpr (by decide)) dX8_counted_119 ?_
                    refine pt_topi (nI j_45) (show f11 0 = _ from ea_45.symm) ?_
                    refine lv_icmp_eq (tgt := 129) hx hb dX8_counted_120 (by decide) (fun c_57 => ?_) (fun c_57 => ?_)
                    · have c_57 : dg = j_45 := (nI_eq (a := dg) (b := j_45) (by omega) (by omega)).mp c_57
                      have hmp : ¬ mP f5 f11 f16 no 1 dg 0 := mP_g ea_45 (by omega) rfl (by omega)
                      refine lv_iload_n hx hb dX8_counted_129 rfl (lv_at hl 3 rfl) ?_
                      refine lv_istore_n (lv' := [(1, .int (nI (no + 1 + 0 + 0))), (4, .int (nI no)), (3, .int 1), (2, .int 0), (0, .ref mo)]) hx hb dX8_counted_130 rfl hl (by decide) rfl (fun ls hl => ?_)
                      refine lv_iinc (v := 1) (lv' := [(2, .int 1), (1, .int (nI (no + 1 + 0 + 0))), (4, .int (nI no)), (3, .int 1), (0, .ref mo)]) hx hb dX8_counted_131 hl (k := 3) rfl (by decide) (by decide) rfl (fun ls hl => ?_)
                      refine lv_goto (tgt := 20) hx hb dX8_counted_134 (by decide) ?_
                      exact ih_20 ls ⟨(0 + 0), 0, by omega, by omega, fun q => absurd q (by omega), fun _ => rfl, fun _ q => absurd q hmp, fun q => absurd q (by omega), lv_sub hl [0, 1, 4] rfl⟩
                    · have c_57 : ¬ (dg = j_45) := fun q_ => c_57 ((nI_eq (a := dg) (b := j_45) (by omega) (by omega)).mpr q_)
                      refine lv_iload_n hx hb dX8_counted_123 rfl (lv_at hl 3 rfl) ?_
                      refine lv_iconst (v := 1) hx hb dX8_counted_124 (by decide) ?_
                      refine lv_iadd hx hb dX8_counted_125 ?_
                      refine pt_topi (nI (no + 1 + 0 + 0 + 1)) (nI_add (no + 1 + 0 + 0) 1) ?_
                      refine lv_goto (tgt := 130) hx hb dX8_counted_126 (by decide) ?_
                      refine lv_istore_n (lv' := [(1, .int (nI (no + 1 + 0 + 0 + 1))), (4, .int (nI no)), (3, .int 1), (2, .int 0), (0, .ref mo)]) hx hb dX8_counted_130 rfl hl (by decide) rfl (fun ls hl => ?_)
                      refine lv_iinc (v := 1) (lv' := [(2, .int 1), (1, .int (nI (no + 1 + 0 + 0 + 1))), (4, .int (nI no)), (3, .int 1), (0, .ref mo)]) hx hb dX8_counted_131 hl (k := 3) rfl (by decide) (by decide) rfl (fun ls hl => ?_)
                      refine lv_goto (tgt := 20) hx hb dX8_counted_134 (by decide) ?_
                      exact ih_20 ls ⟨(0 + 1), 0, by omega, by omega, fun q => absurd q (by omega), fun _ => rfl, fun _ q => (by omega), fun q => absurd q (by omega), lv_sub hl [0, 1, 4] rfl⟩
                  · have c_56 : ¬ (no ≤ no) := fun q_ => c_56 ((nI_leI (a := no) (b := no) (by omega) (by omega)).mpr q_)
                    exact (by omega : False).elim
                · skip
                  have hl : lv_has ls 5 [(4, .int (nI no)), (3, .int 0), (2, .int 0), (1, .int (nI (no + 1 + 0 + 0))), (0, .ref mo)] := hl
                  refine lv_iload hx hb dX8_counted_58 (lv_at hl 0 rfl) ?_
                  refine lv_aload_n hx hb dX8_counted_60 rfl (lv_at hl 4 rfl) ?_
                  refine va_get (D := (dC, dI)) (ci := 6) (v := .int (nI no)) (C := RX8) (T := TX8) (N := 32) hx hb hts iX8 hown hK hP 0 rfl rfl 15 (by decide) (hts (.fieldLink RX8 93 "ParkTowerModel" "orders" "I") (by decide +kernel)) (fun _ h9 => h9) rfl dX8_counted_61 ?_
                  refine lv_icmp_ge (tgt := 99) hx hb dX8_counted_64 (by decide) (fun c_58 => ?_) (fun c_58 => ?_)
                  · have c_58 : no ≤ no := (nI_leI (a := no) (b := no) (by omega) (by omega)).mp c_58
                    refine lv_iload_n hx hb dX8_counted_99 rfl (lv_at hl 1 rfl) ?_
                    refine lv_if_eq (tgt := 129) hx hb dX8_counted_100 (by decide) (fun _ => ?_) (fun c => absurd (by decide) c)
                    refine lv_iload_n hx hb dX8_counted_129 rfl (lv_at hl 3 rfl) ?_
                    refine lv_istore_n (lv' := [(1, .int (nI (no + 1 + 0 + 0))), (4, .int (nI no)), (3, .int 0), (2, .int 0), (0, .ref mo)]) hx hb dX8_counted_130 rfl hl (by decide) rfl (fun ls hl => ?_)
                    refine lv_iinc (v := 1) (lv' := [(2, .int 1), (1, .int (nI (no + 1 + 0 + 0))), (4, .int (nI no)), (3, .int 0), (0, .ref mo)]) hx hb dX8_counted_131 hl (k := 3) rfl (by decide) (by decide) rfl (fun ls hl => ?_)
                    refine lv_goto (tgt := 20) hx hb dX8_counted_134 (by decide) ?_
                    exact ih_20 ls ⟨(0 + 0), 0, by omega, by omega, fun q => absurd q (by omega), fun _ => rfl, fun _ q => absurd q hmp, fun q => absurd q (by omega), lv_sub hl [0, 1, 4] rfl⟩
                  · have c_58 : ¬ (no ≤ no) := fun q_ => c_58 ((nI_leI (a := no) (b := no) (by omega) (by omega)).mpr q_)
                    exact (by omega : False).elim
              · obtain ⟨cm, hcm, hl⟩ := hI
                have hl : lv_has ls 5 [(4, .int (nI kk)), (3, .int cm), (2, .int 0), (1, .int (nI (no + 1 + 0 + 0))), (0, .ref mo)] := hl
                have hcm : (cm = 1 ∨ (cm = 0 ∧ ¬ mP f5 f11 f16 no 1 dg 0)) := hcm
                rcases hcm with rfl | ⟨rfl, hmp⟩
                · skip
                  have hl : lv_has ls 5 [(4, .int (nI kk)), (3, .int 1), (2, .int 0), (1, .int (nI (no + 1 + 0 + 0))), (0, .ref mo)] := hl
                  refine lv_iload hx hb dX8_counted_58 (lv_at hl 0 rfl) ?_
                  refine lv_aload_n hx hb dX8_counted_60 rfl (lv_at hl 4 rfl) ?_
                  refine va_get (D := (dC, dI)) (ci := 6) (v := .int (nI no)) (C := RX8) (T := TX8) (N := 32) hx hb hts iX8 hown hK hP 0 rfl rfl 15 (by decide) (hts (.fieldLink RX8 93 "ParkTowerModel" "orders" "I") (by decide +kernel)) (fun _ h9 => h9) rfl dX8_counted_61 ?_
                  refine lv_icmp_ge (tgt := 99) hx hb dX8_counted_64 (by decide) (fun c_59 => ?_) (fun c_59 => ?_)
                  · have c_59 : no ≤ kk := (nI_leI (a := no) (b := kk) (by omega) (by omega)).mp c_59
                    exact (by omega : False).elim
                  · have c_59 : ¬ (no ≤ kk) := fun q_ => c_59 ((nI_leI (a := no) (b := kk) (by omega) (by omega)).mpr q_)
                    refine lv_iload_n hx hb dX8_counted_67 rfl (lv_at hl 1 rfl) ?_
                    refine lv_if_eq (tgt := 91) hx hb dX8_counted_68 (by decide) (fun c => absurd c (by decide)) (fun _ => ?_)
                    refine lv_aload_n hx hb dX8_counted_71 rfl (lv_at hl 4 rfl) ?_
                    refine va_get (D := (dC, dI)) (ci := 6) (v := .ref m16) (C := RX8) (T := TX8) (N := 32) hx hb hts iX8 hown hK hP 0 rfl rfl 16 (by decide) (hts (.fieldLink RX8 42 "ParkTowerModel" "orderCar" "[I") (by decide +kernel)) (fun _ h9 => h9) rfl dX8_counted_72 ?_
                    refine lv_iload hx hb dX8_counted_75 (lv_at hl 0 rfl) ?_
                    refine va_iald hx hb hK hP 3 2 rfl rfl (vp_in_nI (n := kk) (by omega) (by decide)) dX8_counted_77 ?_
                    refine lv_topi (fun a_60 ea_60 => ?_)
                    rw [nI_clamp (n := kk) (by omega)] at ea_60
                    refine lv_aload_n hx hb dX8_counted_78 rfl (lv_at hl 4 rfl) ?_
                    refine va_get (D := (dC, dI)) (ci := 6) (v := .ref m11) (C := RX8) (T := TX8) (N := 32) hx hb hts iX8 hown hK hP 0 rfl rfl 11 (by decide) (hts (.fieldLink RX8 32 "ParkTowerModel" "bay" "[I") (by decide +kernel)) (fun _ h9 => h9) rfl dX8_counted_79 ?_
                    refine lv_iload_n hx hb dX8_counted_82 rfl (lv_at hl 2 rfl) ?_
                    refine va_iald hx hb hK hP 2 1 rfl rfl (vp_in_iff.mpr (by decide)) dX8_counted_83 ?_
                    refine pt_topi (nI j_45) (show f11 0 = _ from ea_45.symm) ?_
                    refine lv_icmp_eq (tgt := 91) hx hb dX8_counted_84 (by decide) (fun c_61 => ?_) (fun c_61 => ?_)
                    · have c_61 : (a_60 = (nI j_45)) := c_61
                      refine lv_iconst (v := 0) hx hb dX8_counted_91 (by decide) ?_
                      refine lv_istore_n (lv' := [(3, .int 0), (4, .int (nI kk)), (2, .int 0), (1, .int (nI (no + 1 + 0 + 0))), (0, .ref mo)]) hx hb dX8_counted_92 rfl hl (by decide) rfl (fun ls hl => ?_)
                      refine lv_iinc (v := nI (kk + 1)) (lv' := [(4, .int (nI (kk + 1))), (3, .int 0), (2, .int 0), (1, .int (nI (no + 1 + 0 + 0))), (0, .ref mo)]) hx hb dX8_counted_93 hl (k := 1) rfl (nI_add kk 1) (by decide) rfl (fun ls hl => ?_)
                      refine lv_goto (tgt := 58) hx hb dX8_counted_96 (by decide) ?_
                      exact ih_58 ls ⟨0, Or.inr ⟨rfl, mP_o ea_45 hk (ea_60.symm.trans (by assumption))⟩, lv_sub hl [0, 1, 2, 3, 4] rfl⟩
                    · have c_61 : ¬ (a_60 = (nI j_45)) := c_61
                      refine lv_iconst (v := 1) hx hb dX8_counted_87 (by decide) ?_
                      refine lv_goto (tgt := 92) hx hb dX8_counted_88 (by decide) ?_
                      refine lv_istore_n (lv' := [(3, .int 1), (4, .int (nI kk)), (2, .int 0), (1, .int (nI (no + 1 + 0 + 0))), (0, .ref mo)]) hx hb dX8_counted_92 rfl hl (by decide) rfl (fun ls hl => ?_)
                      refine lv_iinc (v := nI (kk + 1)) (lv' := [(4, .int (nI (kk + 1))), (3, .int 1), (2, .int 0), (1, .int (nI (no + 1 + 0 + 0))), (0, .ref mo)]) hx hb dX8_counted_93 hl (k := 1) rfl (nI_add kk 1) (by decide) rfl (fun ls hl => ?_)
                      refine lv_goto (tgt := 58) hx hb dX8_counted_96 (by decide) ?_
                      exact ih_58 ls ⟨1, Or.inl rfl, lv_sub hl [0, 1, 2, 3, 4] rfl⟩
                · skip
                  have hl : lv_has ls 5 [(4, .int (nI kk)), (3, .int 0), (2, .int 0), (1, .int (nI (no + 1 + 0 + 0))), (0, .ref mo)] := hl
                  refine lv_iload hx hb dX8_counted_58 (lv_at hl 0 rfl) ?_
                  refine lv_aload_n hx hb dX8_counted_60 rfl (lv_at hl 4 rfl) ?_
                  refine va_get (D := (dC, dI)) (ci := 6) (v := .int (nI no)) (C := RX8) (T := TX8) (N := 32) hx hb hts iX8 hown hK hP 0 rfl rfl 15 (by decide) (hts (.fieldLink RX8 93 "ParkTowerModel" "orders" "I") (by decide +kernel)) (fun _ h9 => h9) rfl dX8_counted_61 ?_
                  refine lv_icmp_ge (tgt := 99) hx hb dX8_counted_64 (by decide) (fun c_62 => ?_) (fun c_62 => ?_)
                  · have c_62 : no ≤ kk := (nI_leI (a := no) (b := kk) (by omega) (by omega)).mp c_62
                    exact (by omega : False).elim
                  · have c_62 : ¬ (no ≤ kk) := fun q_ => c_62 ((nI_leI (a := no) (b := kk) (by omega) (by omega)).mpr q_)
                    refine lv_iload_n hx hb dX8_counted_67 rfl (lv_at hl 1 rfl) ?_
                    refine lv_if_eq (tgt := 91) hx hb dX8_counted_68 (by decide) (fun _ => ?_) (fun c => absurd (by decide) c)
                    refine lv_iconst (v := 0) hx hb dX8_counted_91 (by decide) ?_
                    refine lv_istore_n (lv' := [(3, .int 0), (4, .int (nI kk)), (2, .int 0), (1, .int (nI (no + 1 + 0 + 0))), (0, .ref mo)]) hx hb dX8_counted_92 rfl hl (by decide) rfl (fun ls hl => ?_)
                    refine lv_iinc (v := nI (kk + 1)) (lv' := [(4, .int (nI (kk + 1))), (3, .int 0), (2, .int 0), (1, .int (nI (no + 1 + 0 + 0))), (0, .ref mo)]) hx hb dX8_counted_93 hl (k := 1) rfl (nI_add kk 1) (by decide) rfl (fun ls hl => ?_)
                    refine lv_goto (tgt := 58) hx hb dX8_counted_96 (by decide) ?_
                    exact ih_58 ls ⟨0, Or.inr ⟨rfl, hmp⟩, lv_sub hl [0, 1, 2, 3, 4] rfl⟩
            · have c_55 : (a_54 = 1) := c_55
              refine lv_iconst (v := 1) hx hb dX8_counted_49 (by decide) ?_
              refine lv_goto (tgt := 54) hx hb dX8_counted_50 (by decide) ?_
              refine lv_istore_n (lv' := [(3, .int 1), (2, .int 0), (1, .int (nI (no + 1 + 0 + 0))), (0, .ref mo)]) hx hb dX8_counted_54 rfl hl (by decide) rfl (fun ls hl => ?_)
              refine lv_iconst (v := 0) hx hb dX8_counted_55 (by decide) ?_
              refine lv_istore (lv' := [(4, .int 0), (3, .int 1), (2, .int 0), (1, .int (nI (no + 1 + 0 + 0))), (0, .ref mo)]) hx hb dX8_counted_56 hl (by decide) rfl (fun ls hl => ?_)
              refine pt_loop no (fun kk ls => ∃ (cm : Int32), (cm = 1 ∨ (cm = 0 ∧ ¬ mP f5 f11 f16 no 1 dg 0)) ∧ lv_has ls 5 [(4, .int (nI kk)), (3, .int cm), (2, .int 0), (1, .int (nI (no + 1 + 0 + 0))), (0, .ref mo)]) (fun ls hI => ?_) (fun kk ls hk hI ih_58 => ?_) ⟨1, Or.inl rfl, lv_sub hl [0, 1, 2, 3, 4] rfl⟩
              · obtain ⟨cm, hcm, hl⟩ := hI
                have hl : lv_has ls 5 [(4, .int (nI no)), (3, .int cm), (2, .int 0), (1, .int (nI (no + 1 + 0 + 0))), (0, .ref mo)] := hl
                have hcm : (cm = 1 ∨ (cm = 0 ∧ ¬ mP f5 f11 f16 no 1 dg 0)) := hcm
                rcases hcm with rfl | ⟨rfl, hmp⟩
                · skip
                  have hl : lv_has ls 5 [(4, .int (nI no)), (3, .int 1), (2, .int 0), (1, .int (nI (no + 1 + 0 + 0))), (0, .ref mo)] := hl
                  refine lv_iload hx hb dX8_counted_58 (lv_at hl 0 rfl) ?_
                  refine lv_aload_n hx hb dX8_counted_60 rfl (lv_at hl 4 rfl) ?_
                  refine va_get (D := (dC, dI)) (ci := 6) (v := .int (nI no)) (C := RX8) (T := TX8) (N := 32) hx hb hts iX8 hown hK hP 0 rfl rfl 15 (by decide) (hts (.fieldLink RX8 93 "ParkTowerModel" "orders" "I") (by decide +kernel)) (fun _ h9 => h9) rfl dX8_counted_61 ?_
                  refine lv_icmp_ge (tgt := 99) hx hb dX8_counted_64 (by decide) (fun c_63 => ?_) (fun c_63 => ?_)
                  · have c_63 : no ≤ no := (nI_leI (a := no) (b := no) (by omega) (by omega)).mp c_63
                    refine lv_iload_n hx hb dX8_counted_99 rfl (lv_at hl 1 rfl) ?_
                    refine lv_if_eq (tgt := 129) hx hb dX8_counted_100 (by decide) (fun c => absurd c (by decide)) (fun _ => ?_)
                    refine lv_aload_n hx hb dX8_counted_103 rfl (lv_at hl 4 rfl) ?_
                    refine va_get (D := (dC, dI)) (ci := 6) (v := .int 1) (C := RX8) (T := TX8) (N := 32) hx hb hts iX8 hown hK hP 0 rfl rfl 19 (by decide) (hts (.fieldLink RX8 71 "ParkTowerModel" "busy" "Z") (by decide +kernel)) (fun _ h9 => h9) rfl dX8_counted_104 ?_
                    refine lv_if_eq (tgt := 123) hx hb dX8_counted_107 (by decide) (fun c => absurd c (by decide)) (fun _ => ?_)
                    refine lv_aload_n hx hb dX8_counted_110 rfl (lv_at hl 4 rfl) ?_
                    refine va_get (D := (dC, dI)) (ci := 6) (v := .int (nI dg)) (C := RX8) (T := TX8) (N := 32) hx hb hts iX8 hown hK hP 0 rfl rfl 20 (by decide) (hts (.fieldLink RX8 77 "ParkTowerModel" "doing" "I") (by decide +kernel)) (fun _ h9 => h9) rfl dX8_counted_111 ?_
                    refine lv_aload_n hx hb dX8_counted_114 rfl (lv_at hl 4 rfl) ?_
                    refine va_get (D := (dC, dI)) (ci := 6) (v := .ref m11) (C := RX8) (T := TX8) (N := 32) hx hb hts iX8 hown hK hP 0 rfl rfl 11 (by decide) (hts (.fieldLink RX8 32 "ParkTowerModel" "bay" "[I") (by decide +kernel)) (fun _ h9 => h9) rfl dX8_counted_115 ?_
                    refine lv_iload_n hx hb dX8_counted_118 rfl (lv_at hl 2 rfl) ?_
                    refine va_iald hx hb hK hP 2 1 rfl rfl (vp_in_iff.mpr (by decide)) dX8_counted_119 ?_
                    refine pt_topi (nI j_45) (show f11 0 = _ from ea_45.symm) ?_
                    refine lv_icmp_eq (tgt := 129) hx hb dX8_counted_120 (by decide) (fun c_64 => ?_) (fun c_64 => ?_)
                    · have c_64 : dg = j_45 := (nI_eq (a := dg) (b := j_45) (by omega) (by omega)).mp c_64
                      have hmp : ¬ mP f5 f11 f16 no 1 dg 0 := mP_g ea_45 (by omega) rfl (by omega)
                      refine lv_iload_n hx hb dX8_counted_129 rfl (lv_at hl 3 rfl) ?_
                      refine lv_istore_n (lv' := [(1, .int (nI (no + 1 + 0 + 0))), (4, .int (nI no)), (3, .int 1), (2, .int 0), (0, .ref mo)]) hx hb dX8_counted_130 rfl hl (by decide) rfl (fun ls hl => ?_)
                      refine lv_iinc (v := 1) (lv' := [(2, .int 1), (1, .int (nI (no + 1 + 0 + 0))), (4, .int (nI no)), (3, .int 1), (0, .ref mo)]) hx hb dX8_counted_131 hl (k := 3) rfl (by decide) (by decide) rfl (fun ls hl => ?_)
                      refine lv_goto (tgt := 20) hx hb dX8_counted_134 (by decide) ?_
                      exact ih_20 ls ⟨(0 + 0), 0, by omega, by omega, fun q => absurd q (by omega), fun _ => rfl, fun _ q => absurd q hmp, fun q => absurd q (by omega), lv_sub hl [0, 1, 4] rfl⟩
                    · have c_64 : ¬ (dg = j_45) := fun q_ => c_64 ((nI_eq (a := dg) (b := j_45) (by omega) (by omega)).mpr q_)
                      refine lv_iload_n hx hb dX8_counted_123 rfl (lv_at hl 3 rfl) ?_
                      refine lv_iconst (v := 1) hx hb dX8_counted_124 (by decide) ?_
                      refine lv_iadd hx hb dX8_counted_125 ?_
                      refine pt_topi (nI (no + 1 + 0 + 0 + 1)) (nI_add (no + 1 + 0 + 0) 1) ?_
                      refine lv_goto (tgt := 130) hx hb dX8_counted_126 (by decide) ?_
                      refine lv_istore_n (lv' := [(1, .int (nI (no + 1 + 0 + 0 + 1))), (4, .int (nI no)), (3, .int 1), (2, .int 0), (0, .ref mo)]) hx hb dX8_counted_130 rfl hl (by decide) rfl (fun ls hl => ?_)
                      refine lv_iinc (v := 1) (lv' := [(2, .int 1), (1, .int (nI (no + 1 + 0 + 0 + 1))), (4, .int (nI no)), (3, .int 1), (0, .ref mo)]) hx hb dX8_counted_131 hl (k := 3) rfl (by decide) (by decide) rfl (fun ls hl => ?_)
                      refine lv_goto (tgt := 20) hx hb dX8_counted_134 (by decide) ?_
                      exact ih_20 ls ⟨(0 + 1), 0, by omega, by omega, fun q => absurd q (by omega), fun _ => rfl, fun _ q => (by omega), fun q => absurd q (by omega), lv_sub hl [0, 1, 4] rfl⟩
                  · have c_63 : ¬ (no ≤ no) := fun q_ => c_63 ((nI_leI (a := no) (b := no) (by omega) (by omega)).mpr q_)
                    exact (by omega : False).elim
                · skip
                  have hl : lv_has ls 5 [(4, .int (nI no)), (3, .int 0), (2, .int 0), (1, .int (nI (no + 1 + 0 + 0))), (0, .ref mo)] := hl
                  refine lv_iload hx hb dX8_counted_58 (lv_at hl 0 rfl) ?_
                  refine lv_aload_n hx hb dX8_counted_60 rfl (lv_at hl 4 rfl) ?_
                  refine va_get (D := (dC, dI)) (ci := 6) (v := .int (nI no)) (C := RX8) (T := TX8) (N := 32) hx hb hts iX8 hown hK hP 0 rfl rfl 15 (by decide) (hts (.fieldLink RX8 93 "ParkTowerModel" "orders" "I") (by decide +kernel)) (fun _ h9 => h9) rfl dX8_counted_61 ?_
                  refine lv_icmp_ge (tgt := 99) hx hb dX8_counted_64 (by decide) (fun c_65 => ?_) (fun c_65 => ?_)
                  · have c_65 : no ≤ no := (nI_leI (a := no) (b := no) (by omega) (by omega)).mp c_65
                    refine lv_iload_n hx hb dX8_counted_99 rfl (lv_at hl 1 rfl) ?_
                    refine lv_if_eq (tgt := 129) hx hb dX8_counted_100 (by decide) (fun _ => ?_) (fun c => absurd (by decide) c)
                    refine lv_iload_n hx hb dX8_counted_129 rfl (lv_at hl 3 rfl) ?_
                    refine lv_istore_n (lv' := [(1, .int (nI (no + 1 + 0 + 0))), (4, .int (nI no)), (3, .int 0), (2, .int 0), (0, .ref mo)]) hx hb dX8_counted_130 rfl hl (by decide) rfl (fun ls hl => ?_)
                    refine lv_iinc (v := 1) (lv' := [(2, .int 1), (1, .int (nI (no + 1 + 0 + 0))), (4, .int (nI no)), (3, .int 0), (0, .ref mo)]) hx hb dX8_counted_131 hl (k := 3) rfl (by decide) (by decide) rfl (fun ls hl => ?_)
                    refine lv_goto (tgt := 20) hx hb dX8_counted_134 (by decide) ?_
                    exact ih_20 ls ⟨(0 + 0), 0, by omega, by omega, fun q => absurd q (by omega), fun _ => rfl, fun _ q => absurd q hmp, fun q => absurd q (by omega), lv_sub hl [0, 1, 4] rfl⟩
                  · have c_65 : ¬ (no ≤ no) := fun q_ => c_65 ((nI_leI (a := no) (b := no) (by omega) (by omega)).mpr q_)
                    exact (by omega : False).elim
              · obtain ⟨cm, hcm, hl⟩ := hI
                have hl : lv_has ls 5 [(4, .int (nI kk)), (3, .int cm), (2, .int 0), (1, .int (nI (no + 1 + 0 + 0))), (0, .ref mo)] := hl
                have hcm : (cm = 1 ∨ (cm = 0 ∧ ¬ mP f5 f11 f16 no 1 dg 0)) := hcm
                rcases hcm with rfl | ⟨rfl, hmp⟩
                · skip
                  have hl : lv_has ls 5 [(4, .int (nI kk)), (3, .int 1), (2, .int 0), (1, .int (nI (no + 1 + 0 + 0))), (0, .ref mo)] := hl
                  refine lv_iload hx hb dX8_counted_58 (lv_at hl 0 rfl) ?_
                  refine lv_aload_n hx hb dX8_counted_60 rfl (lv_at hl 4 rfl) ?_
                  refine va_get (D := (dC, dI)) (ci := 6) (v := .int (nI no)) (C := RX8) (T := TX8) (N := 32) hx hb hts iX8 hown hK hP 0 rfl rfl 15 (by decide) (hts (.fieldLink RX8 93 "ParkTowerModel" "orders" "I") (by decide +kernel)) (fun _ h9 => h9) rfl dX8_counted_61 ?_
                  refine lv_icmp_ge (tgt := 99) hx hb dX8_counted_64 (by decide) (fun c_66 => ?_) (fun c_66 => ?_)
                  · have c_66 : no ≤ kk := (nI_leI (a := no) (b := kk) (by omega) (by omega)).mp c_66
                    exact (by omega : False).elim
                  · have c_66 : ¬ (no ≤ kk) := fun q_ => c_66 ((nI_leI (a := no) (b := kk) (by omega) (by omega)).mpr q_)
                    refine lv_iload_n hx hb dX8_counted_67 rfl (lv_at hl 1 rfl) ?_
                    refine lv_if_eq (tgt := 91) hx hb dX8_counted_68 (by decide) (fun c => absurd c (by decide)) (fun _ => ?_)
                    refine lv_aload_n hx hb dX8_counted_71 rfl (lv_at hl 4 rfl) ?_
                    refine va_get (D := (dC, dI)) (ci := 6) (v := .ref m16) (C := RX8) (T := TX8) (N := 32) hx hb hts iX8 hown hK hP 0 rfl rfl 16 (by decide) (hts (.fieldLink RX8 42 "ParkTowerModel" "orderCar" "[I") (by decide +kernel)) (fun _ h9 => h9) rfl dX8_counted_72 ?_
                    refine lv_iload hx hb dX8_counted_75 (lv_at hl 0 rfl) ?_
                    refine va_iald hx hb hK hP 3 2 rfl rfl (vp_in_nI (n := kk) (by omega) (by decide)) dX8_counted_77 ?_
                    refine lv_topi (fun a_67 ea_67 => ?_)
                    rw [nI_clamp (n := kk) (by omega)] at ea_67
                    refine lv_aload_n hx hb dX8_counted_78 rfl (lv_at hl 4 rfl) ?_
                    refine va_get (D := (dC, dI)) (ci := 6) (v := .ref m11) (C := RX8) (T := TX8) (N := 32) hx hb hts iX8 hown hK hP 0 rfl rfl 11 (by decide) (hts (.fieldLink RX8 32 "ParkTowerModel" "bay" "[I") (by decide +kernel)) (fun _ h9 => h9) rfl dX8_counted_79 ?_
                    refine lv_iload_n hx hb dX8_counted_82 rfl (lv_at hl 2 rfl) ?_
                    refine va_iald hx hb hK hP 2 1 rfl rfl (vp_in_iff.mpr (by decide)) dX8_counted_83 ?_
                    refine pt_topi (nI j_45) (show f11 0 = _ from ea_45.symm) ?_
                    refine lv_icmp_eq (tgt := 91) hx hb dX8_counted_84 (by decide) (fun c_68 => ?_) (fun c_68 => ?_)
                    · have c_68 : (a_67 = (nI j_45)) := c_68
                      refine lv_iconst (v := 0) hx hb dX8_counted_91 (by decide) ?_
                      refine lv_istore_n (lv' := [(3, .int 0), (4, .int (nI kk)), (2, .int 0), (1, .int (nI (no + 1 + 0 + 0))), (0, .ref mo)]) hx hb dX8_counted_92 rfl hl (by decide) rfl (fun ls hl => ?_)
                      refine lv_iinc (v := nI (kk + 1)) (lv' := [(4, .int (nI (kk + 1))), (3, .int 0), (2, .int 0), (1, .int (nI (no + 1 + 0 + 0))), (0, .ref mo)]) hx hb dX8_counted_93 hl (k := 1) rfl (nI_add kk 1) (by decide) rfl (fun ls hl => ?_)
                      refine lv_goto (tgt := 58) hx hb dX8_counted_96 (by decide) ?_
                      exact ih_58 ls ⟨0, Or.inr ⟨rfl, mP_o ea_45 hk (ea_67.symm.trans (by assumption))⟩, lv_sub hl [0, 1, 2, 3, 4] rfl⟩
                    · have c_68 : ¬ (a_67 = (nI j_45)) := c_68
                      refine lv_iconst (v := 1) hx hb dX8_counted_87 (by decide) ?_
                      refine lv_goto (tgt := 92) hx hb dX8_counted_88 (by decide) ?_
                      refine lv_istore_n (lv' := [(3, .int 1), (4, .int (nI kk)), (2, .int 0), (1, .int (nI (no + 1 + 0 + 0))), (0, .ref mo)]) hx hb dX8_counted_92 rfl hl (by decide) rfl (fun ls hl => ?_)
                      refine lv_iinc (v := nI (kk + 1)) (lv' := [(4, .int (nI (kk + 1))), (3, .int 1), (2, .int 0), (1, .int (nI (no + 1 + 0 + 0))), (0, .ref mo)]) hx hb dX8_counted_93 hl (k := 1) rfl (nI_add kk 1) (by decide) rfl (fun ls hl => ?_)
                      refine lv_goto (tgt := 58) hx hb dX8_counted_96 (by decide) ?_
                      exact ih_58 ls ⟨1, Or.inl rfl, lv_sub hl [0, 1, 2, 3, 4] rfl⟩
                · skip
                  have hl : lv_has ls 5 [(4, .int (nI kk)), (3, .int 0), (2, .int 0), (1, .int (nI (no + 1 + 0 + 0))), (0, .ref mo)] := hl
                  refine lv_iload hx hb dX8_counted_58 (lv_at hl 0 rfl) ?_
                  refine lv_aload_n hx hb dX8_counted_60 rfl (lv_at hl 4 rfl) ?_
                  refine va_get (D := (dC, dI)) (ci := 6) (v := .int (nI no)) (C := RX8) (T := TX8) (N := 32) hx hb hts iX8 hown hK hP 0 rfl rfl 15 (by decide) (hts (.fieldLink RX8 93 "ParkTowerModel" "orders" "I") (by decide +kernel)) (fun _ h9 => h9) rfl dX8_counted_61 ?_
                  refine lv_icmp_ge (tgt := 99) hx hb dX8_counted_64 (by decide) (fun c_69 => ?_) (fun c_69 => ?_)
                  · have c_69 : no ≤ kk := (nI_leI (a := no) (b := kk) (by omega) (by omega)).mp c_69
                    exact (by omega : False).elim
                  · have c_69 : ¬ (no ≤ kk) := fun q_ => c_69 ((nI_leI (a := no) (b := kk) (by omega) (by omega)).mpr q_)
                    refine lv_iload_n hx hb dX8_counted_67 rfl (lv_at hl 1 rfl) ?_
                    refine lv_if_eq (tgt := 91) hx hb dX8_counted_68 (by decide) (fun _ => ?_) (fun c => absurd (by decide) c)
                    refine lv_iconst (v := 0) hx hb dX8_counted_91 (by decide) ?_
                    refine lv_istore_n (lv' := [(3, .int 0), (4, .int (nI kk)), (2, .int 0), (1, .int (nI (no + 1 + 0 + 0))), (0, .ref mo)]) hx hb dX8_counted_92 rfl hl (by decide) rfl (fun ls hl => ?_)
                    refine lv_iinc (v := nI (kk + 1)) (lv' := [(4, .int (nI (kk + 1))), (3, .int 0), (2, .int 0), (1, .int (nI (no + 1 + 0 + 0))), (0, .ref mo)]) hx hb dX8_counted_93 hl (k := 1) rfl (nI_add kk 1) (by decide) rfl (fun ls hl => ?_)
                    refine lv_goto (tgt := 58) hx hb dX8_counted_96 (by decide) ?_
                    exact ih_58 ls ⟨0, Or.inr ⟨rfl, hmp⟩, lv_sub hl [0, 1, 2, 3, 4] rfl⟩
      · skip
        obtain rfl := g4 (by omega)
        have hl : lv_has ls 5 [(2, .int 1), (1, .int (nI (no + 1 + e0 + 0))), (0, .ref mo)] := hl
        refine lv_iload_n hx hb dX8_counted_20 rfl (lv_at hl 0 rfl) ?_
        refine lv_iconst (v := 2) hx hb dX8_counted_21 (by decide) ?_
        refine lv_icmp_ge (tgt := 137) hx hb dX8_counted_22 (by decide) (fun c => absurd c (by decide)) (fun _ => ?_)
        refine lv_aload_n hx hb dX8_counted_25 rfl (lv_at hl 2 rfl) ?_
        refine va_get (D := (dC, dI)) (ci := 6) (v := .ref m11) (C := RX8) (T := TX8) (N := 32) hx hb hts iX8 hown hK hP 0 rfl rfl 11 (by decide) (hts (.fieldLink RX8 32 "ParkTowerModel" "bay" "[I") (by decide +kernel)) (fun _ h9 => h9) rfl dX8_counted_26 ?_
        refine lv_iload_n hx hb dX8_counted_29 rfl (lv_at hl 0 rfl) ?_
        refine va_iald hx hb hK hP 2 1 rfl rfl (vp_in_iff.mpr (by decide)) dX8_counted_30 ?_
        refine lv_topi (fun a_70 ea_70 => ?_)
        have ea_70 : a_70 = f11 1 := ea_70
        rcases (show mB nc a_70 by rw [ea_70]; exact hy _) with rfl | ⟨j_70, hj_70, rfl⟩
        · skip
          refine lv_if_lt (tgt := 53) hx hb dX8_counted_31 (by decide) (fun _ => ?_) (fun c => absurd (by decide) c)
          refine lv_iconst (v := 0) hx hb dX8_counted_53 (by decide) ?_
          refine lv_istore_n (lv' := [(3, .int 0), (2, .int 1), (1, .int (nI (no + 1 + e0 + 0))), (0, .ref mo)]) hx hb dX8_counted_54 rfl hl (by decide) rfl (fun ls hl => ?_)
          refine lv_iconst (v := 0) hx hb dX8_counted_55 (by decide) ?_
          refine lv_istore (lv' := [(4, .int 0), (3, .int 0), (2, .int 1), (1, .int (nI (no + 1 + e0 + 0))), (0, .ref mo)]) hx hb dX8_counted_56 hl (by decide) rfl (fun ls hl => ?_)
          refine pt_loop no (fun kk ls => ∃ (cm : Int32), (cm = 1 ∨ (cm = 0 ∧ ¬ mP f5 f11 f16 no 1 dg 1)) ∧ lv_has ls 5 [(4, .int (nI kk)), (3, .int cm), (2, .int 1), (1, .int (nI (no + 1 + e0 + 0))), (0, .ref mo)]) (fun ls hI => ?_) (fun kk ls hk hI ih_58 => ?_) ⟨0, Or.inr ⟨rfl, mP_n ea_70⟩, lv_sub hl [0, 1, 2, 3, 4] rfl⟩
          · obtain ⟨cm, hcm, hl⟩ := hI
            have hl : lv_has ls 5 [(4, .int (nI no)), (3, .int cm), (2, .int 1), (1, .int (nI (no + 1 + e0 + 0))), (0, .ref mo)] := hl
            have hcm : (cm = 1 ∨ (cm = 0 ∧ ¬ mP f5 f11 f16 no 1 dg 1)) := hcm
            rcases hcm with rfl | ⟨rfl, hmp⟩
            · skip
              have hl : lv_has ls 5 [(4, .int (nI no)), (3, .int 1), (2, .int 1), (1, .int (nI (no + 1 + e0 + 0))), (0, .ref mo)] := hl
              refine lv_iload hx hb dX8_counted_58 (lv_at hl 0 rfl) ?_
              refine lv_aload_n hx hb dX8_counted_60 rfl (lv_at hl 4 rfl) ?_
              refine va_get (D := (dC, dI)) (ci := 6) (v := .int (nI no)) (C := RX8) (T := TX8) (N := 32) hx hb hts iX8 hown hK hP 0 rfl rfl 15 (by decide) (hts (.fieldLink RX8 93 "ParkTowerModel" "orders" "I") (by decide +kernel)) (fun _ h9 => h9) rfl dX8_counted_61 ?_
              refine lv_icmp_ge (tgt := 99) hx hb dX8_counted_64 (by decide) (fun c_71 => ?_) (fun c_71 => ?_)
              · have c_71 : no ≤ no := (nI_leI (a := no) (b := no) (by omega) (by omega)).mp c_71
                refine lv_iload_n hx hb dX8_counted_99 rfl (lv_at hl 1 rfl) ?_
                refine lv_if_eq (tgt := 129) hx hb dX8_counted_100 (by decide) (fun c => absurd c (by decide)) (fun _ => ?_)
                refine lv_aload_n hx hb dX8_counted_103 rfl (lv_at hl 4 rfl) ?_
                refine va_get (D := (dC, dI)) (ci := 6) (v := .int 1) (C := RX8) (T := TX8) (N := 32) hx hb hts iX8 hown hK hP 0 rfl rfl 19 (by decide) (hts (.fieldLink RX8 71 "ParkTowerModel" "busy" "Z") (by decide +kernel)) (fun _ h9 => h9) rfl dX8_counted_104 ?_
                refine lv_if_eq (tgt := 123) hx hb dX8_counted_107 (by decide) (fun c => absurd c (by decide)) (fun _ => ?_)
                refine lv_aload_n hx hb dX8_counted_110 rfl (lv_at hl 4 rfl) ?_
                refine va_get (D := (dC, dI)) (ci := 6) (v := .int (nI dg)) (C := RX8) (T := TX8) (N := 32) hx hb hts iX8 hown hK hP 0 rfl rfl 20 (by decide) (hts (.fieldLink RX8 77 "ParkTowerModel" "doing" "I") (by decide +kernel)) (fun _ h9 => h9) rfl dX8_counted_111 ?_
                refine lv_aload_n hx hb dX8_counted_114 rfl (lv_at hl 4 rfl) ?_
                refine va_get (D := (dC, dI)) (ci := 6) (v := .ref m11) (C := RX8) (T := TX8) (N := 32) hx hb hts iX8 hown hK hP 0 rfl rfl 11 (by decide) (hts (.fieldLink RX8 32 "ParkTowerModel" "bay" "[I") (by decide +kernel)) (fun _ h9 => h9) rfl dX8_counted_115 ?_
                refine lv_iload_n hx hb dX8_counted_118 rfl (lv_at hl 2 rfl) ?_
                refine va_iald hx hb hK hP 2 1 rfl rfl (vp_in_iff.mpr (by decide)) dX8_counted_119 ?_
                refine pt_topi (-1) (show f11 1 = _ from ea_70.symm) ?_
                refine lv_icmp_eq (tgt := 129) hx hb dX8_counted_120 (by decide) (fun c_72 => ?_) (fun c_72 => ?_)
                · have c_72 : ((nI dg) = (-1)) := c_72
                  have hmp : ¬ mP f5 f11 f16 no 1 dg 1 := mP_n ea_70
                  refine lv_iload_n hx hb dX8_counted_129 rfl (lv_at hl 3 rfl) ?_
                  refine lv_istore_n (lv' := [(1, .int (nI (no + 1 + e0 + 0))), (4, .int (nI no)), (3, .int 1), (2, .int 1), (0, .ref mo)]) hx hb dX8_counted_130 rfl hl (by decide) rfl (fun ls hl => ?_)
                  refine lv_iinc (v := 2) (lv' := [(2, .int 2), (1, .int (nI (no + 1 + e0 + 0))), (4, .int (nI no)), (3, .int 1), (0, .ref mo)]) hx hb dX8_counted_131 hl (k := 3) rfl (by decide) (by decide) rfl (fun ls hl => ?_)
                  refine lv_goto (tgt := 20) hx hb dX8_counted_134 (by decide) ?_
                  exact ih_20 ls ⟨e0, (0 + 0), by omega, by omega, fun q => absurd q (by omega), fun q => absurd q (by omega), fun _ => g5 (by omega), fun _ q => absurd q hmp, lv_sub hl [0, 1, 4] rfl⟩
                · have c_72 : ¬ ((nI dg) = (-1)) := c_72
                  refine lv_iload_n hx hb dX8_counted_123 rfl (lv_at hl 3 rfl) ?_
                  refine lv_iconst (v := 1) hx hb dX8_counted_124 (by decide) ?_
                  refine lv_iadd hx hb dX8_counted_125 ?_
                  refine pt_topi (nI (no + 1 + e0 + 0 + 1)) (nI_add (no + 1 + e0 + 0) 1) ?_
                  refine lv_goto (tgt := 130) hx hb dX8_counted_126 (by decide) ?_
                  refine lv_istore_n (lv' := [(1, .int (nI (no + 1 + e0 + 0 + 1))), (4, .int (nI no)), (3, .int 1), (2, .int 1), (0, .ref mo)]) hx hb dX8_counted_130 rfl hl (by decide) rfl (fun ls hl => ?_)
                  refine lv_iinc (v := 2) (lv' := [(2, .int 2), (1, .int (nI (no + 1 + e0 + 0 + 1))), (4, .int (nI no)), (3, .int 1), (0, .ref mo)]) hx hb dX8_counted_131 hl (k := 3) rfl (by decide) (by decide) rfl (fun ls hl => ?_)
                  refine lv_goto (tgt := 20) hx hb dX8_counted_134 (by decide) ?_
                  exact ih_20 ls ⟨e0, (0 + 1), by omega, by omega, fun q => absurd q (by omega), fun q => absurd q (by omega), fun _ => g5 (by omega), fun _ q => (by omega), lv_sub hl [0, 1, 4] rfl⟩
              · have c_71 : ¬ (no ≤ no) := fun q_ => c_71 ((nI_leI (a := no) (b := no) (by omega) (by omega)).mpr q_)
                exact (by omega : False).elim
            · skip
              have hl : lv_has ls 5 [(4, .int (nI no)), (3, .int 0), (2, .int 1), (1, .int (nI (no + 1 + e0 + 0))), (0, .ref mo)] := hl
              refine lv_iload hx hb dX8_counted_58 (lv_at hl 0 rfl) ?_
              refine lv_aload_n hx hb dX8_counted_60 rfl (lv_at hl 4 rfl) ?_
              refine va_get (D := (dC, dI)) (ci := 6) (v := .int (nI no)) (C := RX8) (T := TX8) (N := 32) hx hb hts iX8 hown hK hP 0 rfl rfl 15 (by decide) (hts (.fieldLink RX8 93 "ParkTowerModel" "orders" "I") (by decide +kernel)) (fun _ h9 => h9) rfl dX8_counted_61 ?_
              refine lv_icmp_ge (tgt := 99) hx hb dX8_counted_64 (by decide) (fun c_73 => ?_) (fun c_73 => ?_)
              · have c_73 : no ≤ no := (nI_leI (a := no) (b := no) (by omega) (by omega)).mp c_73
                refine lv_iload_n hx hb dX8_counted_99 rfl (lv_at hl 1 rfl) ?_
                refine lv_if_eq (tgt := 129) hx hb dX8_counted_100 (by decide) (fun _ => ?_) (fun c => absurd (by decide) c)
                refine lv_iload_n hx hb dX8_counted_129 rfl (lv_at hl 3 rfl) ?_
                refine lv_istore_n (lv' := [(1, .int (nI (no + 1 + e0 + 0))), (4, .int (nI no)), (3, .int 0), (2, .int 1), (0, .ref mo)]) hx hb dX8_counted_130 rfl hl (by decide) rfl (fun ls hl => ?_)
                refine lv_iinc (v := 2) (lv' := [(2, .int 2), (1, .int (nI (no + 1 + e0 + 0))), (4, .int (nI no)), (3, .int 0), (0, .ref mo)]) hx hb dX8_counted_131 hl (k := 3) rfl (by decide) (by decide) rfl (fun ls hl => ?_)
                refine lv_goto (tgt := 20) hx hb dX8_counted_134 (by decide) ?_
                exact ih_20 ls ⟨e0, (0 + 0), by omega, by omega, fun q => absurd q (by omega), fun q => absurd q (by omega), fun _ => g5 (by omega), fun _ q => absurd q hmp, lv_sub hl [0, 1, 4] rfl⟩
              · have c_73 : ¬ (no ≤ no) := fun q_ => c_73 ((nI_leI (a := no) (b := no) (by omega) (by omega)).mpr q_)
                exact (by omega : False).elim
          · obtain ⟨cm, hcm, hl⟩ := hI
            have hl : lv_has ls 5 [(4, .int (nI kk)), (3, .int cm), (2, .int 1), (1, .int (nI (no + 1 + e0 + 0))), (0, .ref mo)] := hl
            have hcm : (cm = 1 ∨ (cm = 0 ∧ ¬ mP f5 f11 f16 no 1 dg 1)) := hcm
            rcases hcm with rfl | ⟨rfl, hmp⟩
            · skip
              have hl : lv_has ls 5 [(4, .int (nI kk)), (3, .int 1), (2, .int 1), (1, .int (nI (no + 1 + e0 + 0))), (0, .ref mo)] := hl
              refine lv_iload hx hb dX8_counted_58 (lv_at hl 0 rfl) ?_
              refine lv_aload_n hx hb dX8_counted_60 rfl (lv_at hl 4 rfl) ?_
              refine va_get (D := (dC, dI)) (ci := 6) (v := .int (nI no)) (C := RX8) (T := TX8) (N := 32) hx hb hts iX8 hown hK hP 0 rfl rfl 15 (by decide) (hts (.fieldLink RX8 93 "ParkTowerModel" "orders" "I") (by decide +kernel)) (fun _ h9 => h9) rfl dX8_counted_61 ?_
              refine lv_icmp_ge (tgt := 99) hx hb dX8_counted_64 (by decide) (fun c_74 => ?_) (fun c_74 => ?_)
              · have c_74 : no ≤ kk := (nI_leI (a := no) (b := kk) (by omega) (by omega)).mp c_74
                exact (by omega : False).elim
              · have c_74 : ¬ (no ≤ kk) := fun q_ => c_74 ((nI_leI (a := no) (b := kk) (by omega) (by omega)).mpr q_)
                refine lv_iload_n hx hb dX8_counted_67 rfl (lv_at hl 1 rfl) ?_
                refine lv_if_eq (tgt := 91) hx hb dX8_counted_68 (by decide) (fun c => absurd c (by decide)) (fun _ => ?_)
                refine lv_aload_n hx hb dX8_counted_71 rfl (lv_at hl 4 rfl) ?_
                refine va_get (D := (dC, dI)) (ci := 6) (v := .ref m16) (C := RX8) (T := TX8) (N := 32) hx hb hts iX8 hown hK hP 0 rfl rfl 16 (by decide) (hts (.fieldLink RX8 42 "ParkTowerModel" "orderCar" "[I") (by decide +kernel)) (fun _ h9 => h9) rfl dX8_counted_72 ?_
                refine lv_iload hx hb dX8_counted_75 (lv_at hl 0 rfl) ?_
                refine va_iald hx hb hK hP 3 2 rfl rfl (vp_in_nI (n := kk) (by omega) (by decide)) dX8_counted_77 ?_
                refine lv_topi (fun a_75 ea_75 => ?_)
                rw [nI_clamp (n := kk) (by omega)] at ea_75
                refine lv_aload_n hx hb dX8_counted_78 rfl (lv_at hl 4 rfl) ?_
                refine va_get (D := (dC, dI)) (ci := 6) (v := .ref m11) (C := RX8) (T := TX8) (N := 32) hx hb hts iX8 hown hK hP 0 rfl rfl 11 (by decide) (hts (.fieldLink RX8 32 "ParkTowerModel" "bay" "[I") (by decide +kernel)) (fun _ h9 => h9) rfl dX8_counted_79 ?_
                refine lv_iload_n hx hb dX8_counted_82 rfl (lv_at hl 2 rfl) ?_
                refine va_iald hx hb hK hP 2 1 rfl rfl (vp_in_iff.mpr (by decide)) dX8_counted_83 ?_
                refine pt_topi (-1) (show f11 1 = _ from ea_70.symm) ?_
                refine lv_icmp_eq (tgt := 91) hx hb dX8_counted_84 (by decide) (fun c_76 => ?_) (fun c_76 => ?_)
                · have c_76 : (a_75 = (-1)) := c_76
                  refine lv_iconst (v := 0) hx hb dX8_counted_91 (by decide) ?_
                  refine lv_istore_n (lv' := [(3, .int 0), (4, .int (nI kk)), (2, .int 1), (1, .int (nI (no + 1 + e0 + 0))), (0, .ref mo)]) hx hb dX8_counted_92 rfl hl (by decide) rfl (fun ls hl => ?_)
                  refine lv_iinc (v := nI (kk + 1)) (lv' := [(4, .int (nI (kk + 1))), (3, .int 0), (2, .int 1), (1, .int (nI (no + 1 + e0 + 0))), (0, .ref mo)]) hx hb dX8_counted_93 hl (k := 1) rfl (nI_add kk 1) (by decide) rfl (fun ls hl => ?_)
                  refine lv_goto (tgt := 58) hx hb dX8_counted_96 (by decide) ?_
                  exact ih_58 ls ⟨0, Or.inr ⟨rfl, mP_n ea_70⟩, lv_sub hl [0, 1, 2, 3, 4] rfl⟩
                · have c_76 : ¬ (a_75 = (-1)) := c_76
                  refine lv_iconst (v := 1) hx hb dX8_counted_87 (by decide) ?_
                  refine lv_goto (tgt := 92) hx hb dX8_counted_88 (by decide) ?_
                  refine lv_istore_n (lv' := [(3, .int 1), (4, .int (nI kk)), (2, .int 1), (1, .int (nI (no + 1 + e0 + 0))), (0, .ref mo)]) hx hb dX8_counted_92 rfl hl (by decide) rfl (fun ls hl => ?_)
                  refine lv_iinc (v := nI (kk + 1)) (lv' := [(4, .int (nI (kk + 1))), (3, .int 1), (2, .int 1), (1, .int (nI (no + 1 + e0 + 0))), (0, .ref mo)]) hx hb dX8_counted_93 hl (k := 1) rfl (nI_add kk 1) (by decide) rfl (fun ls hl => ?_)
                  refine lv_goto (tgt := 58) hx hb dX8_counted_96 (by decide) ?_
                  exact ih_58 ls ⟨1, Or.inl rfl, lv_sub hl [0, 1, 2, 3, 4] rfl⟩
            · skip
              have hl : lv_has ls 5 [(4, .int (nI kk)), (3, .int 0), (2, .int 1), (1, .int (nI (no + 1 + e0 + 0))), (0, .ref mo)] := hl
              refine lv_iload hx hb dX8_counted_58 (lv_at hl 0 rfl) ?_
              refine lv_aload_n hx hb dX8_counted_60 rfl (lv_at hl 4 rfl) ?_
              refine va_get (D := (dC, dI)) (ci := 6) (v := .int (nI no)) (C := RX8) (T := TX8) (N := 32) hx hb hts iX8 hown hK hP 0 rfl rfl 15 (by decide) (hts (.fieldLink RX8 93 "ParkTowerModel" "orders" "I") (by decide +kernel)) (fun _ h9 => h9) rfl dX8_counted_61 ?_
              refine lv_icmp_ge (tgt := 99) hx hb dX8_counted_64 (by decide) (fun c_77 => ?_) (fun c_77 => ?_)
              · have c_77 : no ≤ kk := (nI_leI (a := no) (b := kk) (by omega) (by omega)).mp c_77
                exact (by omega : False).elim
              · have c_77 : ¬ (no ≤ kk) := fun q_ => c_77 ((nI_leI (a := no) (b := kk) (by omega) (by omega)).mpr q_)
                refine lv_iload_n hx hb dX8_counted_67 rfl (lv_at hl 1 rfl) ?_
                refine lv_if_eq (tgt := 91) hx hb dX8_counted_68 (by decide) (fun _ => ?_) (fun c => absurd (by decide) c)
                refine lv_iconst (v := 0) hx hb dX8_counted_91 (by decide) ?_
                refine lv_istore_n (lv' := [(3, .int 0), (4, .int (nI kk)), (2, .int 1), (1, .int (nI (no + 1 + e0 + 0))), (0, .ref mo)]) hx hb dX8_counted_92 rfl hl (by decide) rfl (fun ls hl => ?_)
                refine lv_iinc (v := nI (kk + 1)) (lv' := [(4, .int (nI (kk + 1))), (3, .int 0), (2, .int 1), (1, .int (nI (no + 1 + e0 + 0))), (0, .ref mo)]) hx hb dX8_counted_93 hl (k := 1) rfl (nI_add kk 1) (by decide) rfl (fun ls hl => ?_)
                refine lv_goto (tgt := 58) hx hb dX8_counted_96 (by decide) ?_
                exact ih_58 ls ⟨0, Or.inr ⟨rfl, hmp⟩, lv_sub hl [0, 1, 2, 3, 4] rfl⟩
        · skip
          refine lv_if_lt (tgt := 53) hx hb dX8_counted_31 (by decide) (fun c_78 => ?_) (fun c_78 => ?_)
          · have c_78 : j_70 < 0 := (nI_ltI (a := j_70) (b := 0) (by omega) (by omega)).mp c_78
            exact (by omega : False).elim
          · have c_78 : ¬ (j_70 < 0) := fun q_ => c_78 ((nI_ltI (a := j_70) (b := 0) (by omega) (by omega)).mpr q_)
            refine lv_aload_n hx hb dX8_counted_34 rfl (lv_at hl 2 rfl) ?_
            refine va_get (D := (dC, dI)) (ci := 6) (v := .ref m5) (C := RX8) (T := TX8) (N := 32) hx hb hts iX8 hown hK hP 0 rfl rfl 5 (by decide) (hts (.fieldLink RX8 13 "ParkTowerModel" "where" "[I") (by decide +kernel)) (fun _ h9 => h9) rfl dX8_counted_35 ?_
            refine lv_aload_n hx hb dX8_counted_38 rfl (lv_at hl 2 rfl) ?_
            refine va_get (D := (dC, dI)) (ci := 6) (v := .ref m11) (C := RX8) (T := TX8) (N := 32) hx hb hts iX8 hown hK hP 0 rfl rfl 11 (by decide) (hts (.fieldLink RX8 32 "ParkTowerModel" "bay" "[I") (by decide +kernel)) (fun _ h9 => h9) rfl dX8_counted_39 ?_
            refine lv_iload_n hx hb dX8_counted_42 rfl (lv_at hl 0 rfl) ?_
            refine va_iald hx hb hK hP 2 1 rfl rfl (vp_in_iff.mpr (by decide)) dX8_counted_43 ?_
            refine pt_topi (nI j_70) (show f11 1 = _ from ea_70.symm) ?_
            refine va_iald hx hb hK hP 1 0 rfl rfl (vp_in_nI (n := j_70) (by omega) (by decide)) dX8_counted_44 ?_
            refine lv_topi (fun a_79 ea_79 => ?_)
            rw [nI_clamp (n := j_70) (by omega)] at ea_79
            refine lv_iconst (v := 1) hx hb dX8_counted_45 (by decide) ?_
            refine lv_icmp_ne (tgt := 53) hx hb dX8_counted_46 (by decide) (fun c_80 => ?_) (fun c_80 => ?_)
            · have c_80 : ¬ (a_79 = 1) := c_80
              refine lv_iconst (v := 0) hx hb dX8_counted_53 (by decide) ?_
              refine lv_istore_n (lv' := [(3, .int 0), (2, .int 1), (1, .int (nI (no + 1 + e0 + 0))), (0, .ref mo)]) hx hb dX8_counted_54 rfl hl (by decide) rfl (fun ls hl => ?_)
              refine lv_iconst (v := 0) hx hb dX8_counted_55 (by decide) ?_
              refine lv_istore (lv' := [(4, .int 0), (3, .int 0), (2, .int 1), (1, .int (nI (no + 1 + e0 + 0))), (0, .ref mo)]) hx hb dX8_counted_56 hl (by decide) rfl (fun ls hl => ?_)
              refine pt_loop no (fun kk ls => ∃ (cm : Int32), (cm = 1 ∨ (cm = 0 ∧ ¬ mP f5 f11 f16 no 1 dg 1)) ∧ lv_has ls 5 [(4, .int (nI kk)), (3, .int cm), (2, .int 1), (1, .int (nI (no + 1 + e0 + 0))), (0, .ref mo)]) (fun ls hI => ?_) (fun kk ls hk hI ih_58 => ?_) ⟨0, Or.inr ⟨rfl, mP_w ea_70 (by omega) (fun q9 => absurd (ea_79.trans q9) (by assumption))⟩, lv_sub hl [0, 1, 2, 3, 4] rfl⟩
              · obtain ⟨cm, hcm, hl⟩ := hI
                have hl : lv_has ls 5 [(4, .int (nI no)), (3, .int cm), (2, .int 1), (1, .int (nI (no + 1 + e0 + 0))), (0, .ref mo)] := hl
                have hcm : (cm = 1 ∨ (cm = 0 ∧ ¬ mP f5 f11 f16 no 1 dg 1)) := hcm
                rcases hcm with rfl | ⟨rfl, hmp⟩
                · skip
                  have hl : lv_has ls 5 [(4, .int (nI no)), (3, .int 1), (2, .int 1), (1, .int (nI (no + 1 + e0 + 0))), (0, .ref mo)] := hl
                  refine lv_iload hx hb dX8_counted_58 (lv_at hl 0 rfl) ?_
                  refine lv_aload_n hx hb dX8_counted_60 rfl (lv_at hl 4 rfl) ?_
                  refine va_get (D := (dC, dI)) (ci := 6) (v := .int (nI no)) (C := RX8) (T := TX8) (N := 32) hx hb hts iX8 hown hK hP 0 rfl rfl 15 (by decide) (hts (.fieldLink RX8 93 "ParkTowerModel" "orders" "I") (by decide +kernel)) (fun _ h9 => h9) rfl dX8_counted_61 ?_
                  refine lv_icmp_ge (tgt := 99) hx hb dX8_counted_64 (by decide) (fun c_81 => ?_) (fun c_81 => ?_)
                  · have c_81 : no ≤ no := (nI_leI (a := no) (b := no) (by omega) (by omega)).mp c_81
                    refine lv_iload_n hx hb dX8_counted_99 rfl (lv_at hl 1 rfl) ?_
                    refine lv_if_eq (tgt := 129) hx hb dX8_counted_100 (by decide) (fun c => absurd c (by decide)) (fun _ => ?_)
                    refine lv_aload_n hx hb dX8_counted_103 rfl (lv_at hl 4 rfl) ?_
                    refine va_get (D := (dC, dI)) (ci := 6) (v := .int 1) (C := RX8) (T := TX8) (N := 32) hx hb hts iX8 hown hK hP 0 rfl rfl 19 (by decide) (hts (.fieldLink RX8 71 "ParkTowerModel" "busy" "Z") (by decide +kernel)) (fun _ h9 => h9) rfl dX8_counted_104 ?_
                    refine lv_if_eq (tgt := 123) hx hb dX8_counted_107 (by decide) (fun c => absurd c (by decide)) (fun _ => ?_)
                    refine lv_aload_n hx hb dX8_counted_110 rfl (lv_at hl 4 rfl) ?_
                    refine va_get (D := (dC, dI)) (ci := 6) (v := .int (nI dg)) (C := RX8) (T := TX8) (N := 32) hx hb hts iX8 hown hK hP 0 rfl rfl 20 (by decide) (hts (.fieldLink RX8 77 "ParkTowerModel" "doing" "I") (by decide +kernel)) (fun _ h9 => h9) rfl dX8_counted_111 ?_
                    refine lv_aload_n hx hb dX8_counted_114 rfl (lv_at hl 4 rfl) ?_
                    refine va_get (D := (dC, dI)) (ci := 6) (v := .ref m11) (C := RX8) (T := TX8) (N := 32) hx hb hts iX8 hown hK hP 0 rfl rfl 11 (by decide) (hts (.fieldLink RX8 32 "ParkTowerModel" "bay" "[I") (by decide +kernel)) (fun _ h9 => h9) rfl dX8_counted_115 ?_
                    refine lv_iload_n hx hb dX8_counted_118 rfl (lv_at hl 2 rfl) ?_
                    refine va_iald hx hb hK hP 2 1 rfl rfl (vp_in_iff.mpr (by decide)) dX8_counted_119 ?_
                    refine pt_topi (nI j_70) (show f11 1 = _ from ea_70.symm) ?_
                    refine lv_icmp_eq (tgt := 129) hx hb dX8_counted_120 (by decide) (fun c_82 => ?_) (fun c_82 => ?_)
                    · have c_82 : dg = j_70 := (nI_eq (a := dg) (b := j_70) (by omega) (by omega)).mp c_82
                      have hmp : ¬ mP f5 f11 f16 no 1 dg 1 := mP_g ea_70 (by omega) rfl (by omega)
                      refine lv_iload_n hx hb dX8_counted_129 rfl (lv_at hl 3 rfl) ?_
                      refine lv_istore_n (lv' := [(1, .int (nI (no + 1 + e0 + 0))), (4, .int (nI no)), (3, .int 1), (2, .int 1), (0, .ref mo)]) hx hb dX8_counted_130 rfl hl (by decide) rfl (fun ls hl => ?_)
                      refine lv_iinc (v := 2) (lv' := [(2, .int 2), (1, .int (nI (no + 1 + e0 + 0))), (4, .int (nI no)), (3, .int 1), (0, .ref mo)]) hx hb dX8_counted_131 hl (k := 3) rfl (by decide) (by decide) rfl (fun ls hl => ?_)
                      refine lv_goto (tgt := 20) hx hb dX8_counted_134 (by decide) ?_
                      exact ih_20 ls ⟨e0, (0 + 0), by omega, by omega, fun q => absurd q (by omega), fun q => absurd q (by omega), fun _ => g5 (by omega), fun _ q => absurd q hmp, lv_sub hl [0, 1, 4] rfl⟩
                    · have c_82 : ¬ (dg = j_70) := fun q_ => c_82 ((nI_eq (a := dg) (b := j_70) (by omega) (by omega)).mpr q_)
                      refine lv_iload_n hx hb dX8_counted_123 rfl (lv_at hl 3 rfl) ?_
                      refine lv_iconst (v := 1) hx hb dX8_counted_124 (by decide) ?_
                      refine lv_iadd hx hb dX8_counted_125 ?_
                      refine pt_topi (nI (no + 1 + e0 + 0 + 1)) (nI_add (no + 1 + e0 + 0) 1) ?_
                      refine lv_goto (tgt := 130) hx hb dX8_counted_126 (by decide) ?_
                      refine lv_istore_n (lv' := [(1, .int (nI (no + 1 + e0 + 0 + 1))), (4, .int (nI no)), (3, .int 1), (2, .int 1), (0, .ref mo)]) hx hb dX8_counted_130 rfl hl (by decide) rfl (fun ls hl => ?_)
                      refine lv_iinc (v := 2) (lv' := [(2, .int 2), (1, .int (nI (no + 1 + e0 + 0 + 1))), (4, .int (nI no)), (3, .int 1), (0, .ref mo)]) hx hb dX8_counted_131 hl (k := 3) rfl (by decide) (by decide) rfl (fun ls hl => ?_)
                      refine lv_goto (tgt := 20) hx hb dX8_counted_134 (by decide) ?_
                      exact ih_20 ls ⟨e0, (0 + 1), by omega, by omega, fun q => absurd q (by omega), fun q => absurd q (by omega), fun _ => g5 (by omega), fun _ q => (by omega), lv_sub hl [0, 1, 4] rfl⟩
                  · have c_81 : ¬ (no ≤ no) := fun q_ => c_81 ((nI_leI (a := no) (b := no) (by omega) (by omega)).mpr q_)
                    exact (by omega : False).elim
                · skip
                  have hl : lv_has ls 5 [(4, .int (nI no)), (3, .int 0), (2, .int 1), (1, .int (nI (no + 1 + e0 + 0))), (0, .ref mo)] := hl
                  refine lv_iload hx hb dX8_counted_58 (lv_at hl 0 rfl) ?_
                  refine lv_aload_n hx hb dX8_counted_60 rfl (lv_at hl 4 rfl) ?_
                  refine va_get (D := (dC, dI)) (ci := 6) (v := .int (nI no)) (C := RX8) (T := TX8) (N := 32) hx hb hts iX8 hown hK hP 0 rfl rfl 15 (by decide) (hts (.fieldLink RX8 93 "ParkTowerModel" "orders" "I") (by decide +kernel)) (fun _ h9 => h9) rfl dX8_counted_61 ?_
                  refine lv_icmp_ge (tgt := 99) hx hb dX8_counted_64 (by decide) (fun c_83 => ?_) (fun c_83 => ?_)
                  · have c_83 : no ≤ no := (nI_leI (a := no) (b := no) (by omega) (by omega)).mp c_83
                    refine lv_iload_n hx hb dX8_counted_99 rfl (lv_at hl 1 rfl) ?_
                    refine lv_if_eq (tgt := 129) hx hb dX8_counted_100 (by decide) (fun _ => ?_) (fun c => absurd (by decide) c)
                    refine lv_iload_n hx hb dX8_counted_129 rfl (lv_at hl 3 rfl) ?_
                    refine lv_istore_n (lv' := [(1, .int (nI (no + 1 + e0 + 0))), (4, .int (nI no)), (3, .int 0), (2, .int 1), (0, .ref mo)]) hx hb dX8_counted_130 rfl hl (by decide) rfl (fun ls hl => ?_)
                    refine lv_iinc (v := 2) (lv' := [(2, .int 2), (1, .int (nI (no + 1 + e0 + 0))), (4, .int (nI no)), (3, .int 0), (0, .ref mo)]) hx hb dX8_counted_131 hl (k := 3) rfl (by decide) (by decide) rfl (fun ls hl => ?_)
                    refine lv_goto (tgt := 20) hx hb dX8_counted_134 (by decide) ?_
                    exact ih_20 ls ⟨e0, (0 + 0), by omega, by omega, fun q => absurd q (by omega), fun q => absurd q (by omega), fun _ => g5 (by omega), fun _ q => absurd q hmp, lv_sub hl [0, 1, 4] rfl⟩
                  · have c_83 : ¬ (no ≤ no) := fun q_ => c_83 ((nI_leI (a := no) (b := no) (by omega) (by omega)).mpr q_)
                    exact (by omega : False).elim
              · obtain ⟨cm, hcm, hl⟩ := hI
                have hl : lv_has ls 5 [(4, .int (nI kk)), (3, .int cm), (2, .int 1), (1, .int (nI (no + 1 + e0 + 0))), (0, .ref mo)] := hl
                have hcm : (cm = 1 ∨ (cm = 0 ∧ ¬ mP f5 f11 f16 no 1 dg 1)) := hcm
                rcases hcm with rfl | ⟨rfl, hmp⟩
                · skip
                  have hl : lv_has ls 5 [(4, .int (nI kk)), (3, .int 1), (2, .int 1), (1, .int (nI (no + 1 + e0 + 0))), (0, .ref mo)] := hl
                  refine lv_iload hx hb dX8_counted_58 (lv_at hl 0 rfl) ?_
                  refine lv_aload_n hx hb dX8_counted_60 rfl (lv_at hl 4 rfl) ?_
                  refine va_get (D := (dC, dI)) (ci := 6) (v := .int (nI no)) (C := RX8) (T := TX8) (N := 32) hx hb hts iX8 hown hK hP 0 rfl rfl 15 (by decide) (hts (.fieldLink RX8 93 "ParkTowerModel" "orders" "I") (by decide +kernel)) (fun _ h9 => h9) rfl dX8_counted_61 ?_
                  refine lv_icmp_ge (tgt := 99) hx hb dX8_counted_64 (by decide) (fun c_84 => ?_) (fun c_84 => ?_)
                  · have c_84 : no ≤ kk := (nI_leI (a := no) (b := kk) (by omega) (by omega)).mp c_84
                    exact (by omega : False).elim
                  · have c_84 : ¬ (no ≤ kk) := fun q_ => c_84 ((nI_leI (a := no) (b := kk) (by omega) (by omega)).mpr q_)
                    refine lv_iload_n hx hb dX8_counted_67 rfl (lv_at hl 1 rfl) ?_
                    refine lv_if_eq (tgt := 91) hx hb dX8_counted_68 (by decide) (fun c => absurd c (by decide)) (fun _ => ?_)
                    refine lv_aload_n hx hb dX8_counted_71 rfl (lv_at hl 4 rfl) ?_
                    refine va_get (D := (dC, dI)) (ci := 6) (v := .ref m16) (C := RX8) (T := TX8) (N := 32) hx hb hts iX8 hown hK hP 0 rfl rfl 16 (by decide) (hts (.fieldLink RX8 42 "ParkTowerModel" "orderCar" "[I") (by decide +kernel)) (fun _ h9 => h9) rfl dX8_counted_72 ?_
                    refine lv_iload hx hb dX8_counted_75 (lv_at hl 0 rfl) ?_
                    refine va_iald hx hb hK hP 3 2 rfl rfl (vp_in_nI (n := kk) (by omega) (by decide)) dX8_counted_77 ?_
                    refine lv_topi (fun a_85 ea_85 => ?_)
                    rw [nI_clamp (n := kk) (by omega)] at ea_85
                    refine lv_aload_n hx hb dX8_counted_78 rfl (lv_at hl 4 rfl) ?_
                    refine va_get (D := (dC, dI)) (ci := 6) (v := .ref m11) (C := RX8) (T := TX8) (N := 32) hx hb hts iX8 hown hK hP 0 rfl rfl 11 (by decide) (hts (.fieldLink RX8 32 "ParkTowerModel" "bay" "[I") (by decide +kernel)) (fun _ h9 => h9) rfl dX8_counted_79 ?_
                    refine lv_iload_n hx hb dX8_counted_82 rfl (lv_at hl 2 rfl) ?_
                    refine va_iald hx hb hK hP 2 1 rfl rfl (vp_in_iff.mpr (by decide)) dX8_counted_83 ?_
                    refine pt_topi (nI j_70) (show f11 1 = _ from ea_70.symm) ?_
                    refine lv_icmp_eq (tgt := 91) hx hb dX8_counted_84 (by decide) (fun c_86 => ?_) (fun c_86 => ?_)
                    · have c_86 : (a_85 = (nI j_70)) := c_86
                      refine lv_iconst (v := 0) hx hb dX8_counted_91 (by decide) ?_
                      refine lv_istore_n (lv' := [(3, .int 0), (4, .int (nI kk)), (2, .int 1), (1, .int (nI (no + 1 + e0 + 0))), (0, .ref mo)]) hx hb dX8_counted_92 rfl hl (by decide) rfl (fun ls hl => ?_)
                      refine lv_iinc (v := nI (kk + 1)) (lv' := [(4, .int (nI (kk + 1))), (3, .int 0), (2, .int 1), (1, .int (nI (no + 1 + e0 + 0))), (0, .ref mo)]) hx hb dX8_counted_93 hl (k := 1) rfl (nI_add kk 1) (by decide) rfl (fun ls hl => ?_)
                      refine lv_goto (tgt := 58) hx hb dX8_counted_96 (by decide) ?_
                      exact ih_58 ls ⟨0, Or.inr ⟨rfl, mP_o ea_70 hk (ea_85.symm.trans (by assumption))⟩, lv_sub hl [0, 1, 2, 3, 4] rfl⟩
                    · have c_86 : ¬ (a_85 = (nI j_70)) := c_86
                      refine lv_iconst (v := 1) hx hb dX8_counted_87 (by decide) ?_
                      refine lv_goto (tgt := 92) hx hb dX8_counted_88 (by decide) ?_
                      refine lv_istore_n (lv' := [(3, .int 1), (4, .int (nI kk)), (2, .int 1), (1, .int (nI (no + 1 + e0 + 0))), (0, .ref mo)]) hx hb dX8_counted_92 rfl hl (by decide) rfl (fun ls hl => ?_)
                      refine lv_iinc (v := nI (kk + 1)) (lv' := [(4, .int (nI (kk + 1))), (3, .int 1), (2, .int 1), (1, .int (nI (no + 1 + e0 + 0))), (0, .ref mo)]) hx hb dX8_counted_93 hl (k := 1) rfl (nI_add kk 1) (by decide) rfl (fun ls hl => ?_)
                      refine lv_goto (tgt := 58) hx hb dX8_counted_96 (by decide) ?_
                      exact ih_58 ls ⟨1, Or.inl rfl, lv_sub hl [0, 1, 2, 3, 4] rfl⟩
                · skip
                  have hl : lv_has ls 5 [(4, .int (nI kk)), (3, .int 0), (2, .int 1), (1, .int (nI (no + 1 + e0 + 0))), (0, .ref mo)] := hl
                  refine lv_iload hx hb dX8_counted_58 (lv_at hl 0 rfl) ?_
                  refine lv_aload_n hx hb dX8_counted_60 rfl (lv_at hl 4 rfl) ?_
                  refine va_get (D := (dC, dI)) (ci := 6) (v := .int (nI no)) (C := RX8) (T := TX8) (N := 32) hx hb hts iX8 hown hK hP 0 rfl rfl 15 (by decide) (hts (.fieldLink RX8 93 "ParkTowerModel" "orders" "I") (by decide +kernel)) (fun _ h9 => h9) rfl dX8_counted_61 ?_
                  refine lv_icmp_ge (tgt := 99) hx hb dX8_counted_64 (by decide) (fun c_87 => ?_) (fun c_87 => ?_)
                  · have c_87 : no ≤ kk := (nI_leI (a := no) (b := kk) (by omega) (by omega)).mp c_87
                    exact (by omega : False).elim
                  · have c_87 : ¬ (no ≤ kk) := fun q_ => c_87 ((nI_leI (a := no) (b := kk) (by omega) (by omega)).mpr q_)
                    refine lv_iload_n hx hb dX8_counted_67 rfl (lv_at hl 1 rfl) ?_
                    refine lv_if_eq (tgt := 91) hx hb dX8_counted_68 (by decide) (fun _ => ?_) (fun c => absurd (by decide) c)
                    refine lv_iconst (v := 0) hx hb dX8_counted_91 (by decide) ?_
                    refine lv_istore_n (lv' := [(3, .int 0), (4, .int (nI kk)), (2, .int 1), (1, .int (nI (no + 1 + e0 + 0))), (0, .ref mo)]) hx hb dX8_counted_92 rfl hl (by decide) rfl (fun ls hl => ?_)
                    refine lv_iinc (v := nI (kk + 1)) (lv' := [(4, .int (nI (kk + 1))), (3, .int 0), (2, .int 1), (1, .int (nI (no + 1 + e0 + 0))), (0, .ref mo)]) hx hb dX8_counted_93 hl (k := 1) rfl (nI_add kk 1) (by decide) rfl (fun ls hl => ?_)
                    refine lv_goto (tgt := 58) hx hb dX8_counted_96 (by decide) ?_
                    exact ih_58 ls ⟨0, Or.inr ⟨rfl, hmp⟩, lv_sub hl [0, 1, 2, 3, 4] rfl⟩
            · have c_80 : (a_79 = 1) := c_80
              refine lv_iconst (v := 1) hx hb dX8_counted_49 (by decide) ?_
              refine lv_goto (tgt := 54) hx hb dX8_counted_50 (by decide) ?_
              refine lv_istore_n (lv' := [(3, .int 1), (2, .int 1), (1, .int (nI (no + 1 + e0 + 0))), (0, .ref mo)]) hx hb dX8_counted_54 rfl hl (by decide) rfl (fun ls hl => ?_)
              refine lv_iconst (v := 0) hx hb dX8_counted_55 (by decide) ?_
              refine lv_istore (lv' := [(4, .int 0), (3, .int 1), (2, .int 1), (1, .int (nI (no + 1 + e0 + 0))), (0, .ref mo)]) hx hb dX8_counted_56 hl (by decide) rfl (fun ls hl => ?_)
              refine pt_loop no (fun kk ls => ∃ (cm : Int32), (cm = 1 ∨ (cm = 0 ∧ ¬ mP f5 f11 f16 no 1 dg 1)) ∧ lv_has ls 5 [(4, .int (nI kk)), (3, .int cm), (2, .int 1), (1, .int (nI (no + 1 + e0 + 0))), (0, .ref mo)]) (fun ls hI => ?_) (fun kk ls hk hI ih_58 => ?_) ⟨1, Or.inl rfl, lv_sub hl [0, 1, 2, 3, 4] rfl⟩
              · obtain ⟨cm, hcm, hl⟩ := hI
                have hl : lv_has ls 5 [(4, .int (nI no)), (3, .int cm), (2, .int 1), (1, .int (nI (no + 1 + e0 + 0))), (0, .ref mo)] := hl
                have hcm : (cm = 1 ∨ (cm = 0 ∧ ¬ mP f5 f11 f16 no 1 dg 1)) := hcm
                rcases hcm with rfl | ⟨rfl, hmp⟩
                · skip
                  have hl : lv_has ls 5 [(4, .int (nI no)), (3, .int 1), (2, .int 1), (1, .int (nI (no + 1 + e0 + 0))), (0, .ref mo)] := hl
                  refine lv_iload hx hb dX8_counted_58 (lv_at hl 0 rfl) ?_
                  refine lv_aload_n hx hb dX8_counted_60 rfl (lv_at hl 4 rfl) ?_
                  refine va_get (D := (dC, dI)) (ci := 6) (v := .int (nI no)) (C := RX8) (T := TX8) (N := 32) hx hb hts iX8 hown hK hP 0 rfl rfl 15 (by decide) (hts (.fieldLink RX8 93 "ParkTowerModel" "orders" "I") (by decide +kernel)) (fun _ h9 => h9) rfl dX8_counted_61 ?_
                  refine lv_icmp_ge (tgt := 99) hx hb dX8_counted_64 (by decide) (fun c_88 => ?_) (fun c_88 => ?_)
                  · have c_88 : no ≤ no := (nI_leI (a := no) (b := no) (by omega) (by omega)).mp c_88
                    refine lv_iload_n hx hb dX8_counted_99 rfl (lv_at hl 1 rfl) ?_
                    refine lv_if_eq (tgt := 129) hx hb dX8_counted_100 (by decide) (fun c => absurd c (by decide)) (fun _ => ?_)
                    refine lv_aload_n hx hb dX8_counted_103 rfl (lv_at hl 4 rfl) ?_
                    refine va_get (D := (dC, dI)) (ci := 6) (v := .int 1) (C := RX8) (T := TX8) (N := 32) hx hb hts iX8 hown hK hP 0 rfl rfl 19 (by decide) (hts (.fieldLink RX8 71 "ParkTowerModel" "busy" "Z") (by decide +kernel)) (fun _ h9 => h9) rfl dX8_counted_104 ?_
                    refine lv_if_eq (tgt := 123) hx hb dX8_counted_107 (by decide) (fun c => absurd c (by decide)) (fun _ => ?_)
                    refine lv_aload_n hx hb dX8_counted_110 rfl (lv_at hl 4 rfl) ?_
                    refine va_get (D := (dC, dI)) (ci := 6) (v := .int (nI dg)) (C := RX8) (T := TX8) (N := 32) hx hb hts iX8 hown hK hP 0 rfl rfl 20 (by decide) (hts (.fieldLink RX8 77 "ParkTowerModel" "doing" "I") (by decide +kernel)) (fun _ h9 => h9) rfl dX8_counted_111 ?_
                    refine lv_aload_n hx hb dX8_counted_114 rfl (lv_at hl 4 rfl) ?_
                    refine va_get (D := (dC, dI)) (ci := 6) (v := .ref m11) (C := RX8) (T := TX8) (N := 32) hx hb hts iX8 hown hK hP 0 rfl rfl 11 (by decide) (hts (.fieldLink RX8 32 "ParkTowerModel" "bay" "[I") (by decide +kernel)) (fun _ h9 => h9) rfl dX8_counted_115 ?_
                    refine lv_iload_n hx hb dX8_counted_118 rfl (lv_at hl 2 rfl) ?_
                    refine va_iald hx hb hK hP 2 1 rfl rfl (vp_in_iff.mpr (by decide)) dX8_counted_119 ?_
                    refine pt_topi (nI j_70) (show f11 1 = _ from ea_70.symm) ?_
                    refine lv_icmp_eq (tgt := 129) hx hb dX8_counted_120 (by decide) (fun c_89 => ?_) (fun c_89 => ?_)
                    · have c_89 : dg = j_70 := (nI_eq (a := dg) (b := j_70) (by omega) (by omega)).mp c_89
                      have hmp : ¬ mP f5 f11 f16 no 1 dg 1 := mP_g ea_70 (by omega) rfl (by omega)
                      refine lv_iload_n hx hb dX8_counted_129 rfl (lv_at hl 3 rfl) ?_
                      refine lv_istore_n (lv' := [(1, .int (nI (no + 1 + e0 + 0))), (4, .int (nI no)), (3, .int 1), (2, .int 1), (0, .ref mo)]) hx hb dX8_counted_130 rfl hl (by decide) rfl (fun ls hl => ?_)
                      refine lv_iinc (v := 2) (lv' := [(2, .int 2), (1, .int (nI (no + 1 + e0 + 0))), (4, .int (nI no)), (3, .int 1), (0, .ref mo)]) hx hb dX8_counted_131 hl (k := 3) rfl (by decide) (by decide) rfl (fun ls hl => ?_)
                      refine lv_goto (tgt := 20) hx hb dX8_counted_134 (by decide) ?_
                      exact ih_20 ls ⟨e0, (0 + 0), by omega, by omega, fun q => absurd q (by omega), fun q => absurd q (by omega), fun _ => g5 (by omega), fun _ q => absurd q hmp, lv_sub hl [0, 1, 4] rfl⟩
                    · have c_89 : ¬ (dg = j_70) := fun q_ => c_89 ((nI_eq (a := dg) (b := j_70) (by omega) (by omega)).mpr q_)
                      refine lv_iload_n hx hb dX8_counted_123 rfl (lv_at hl 3 rfl) ?_
                      refine lv_iconst (v := 1) hx hb dX8_counted_124 (by decide) ?_
                      refine lv_iadd hx hb dX8_counted_125 ?_
                      refine pt_topi (nI (no + 1 + e0 + 0 + 1)) (nI_add (no + 1 + e0 + 0) 1) ?_
                      refine lv_goto (tgt := 130) hx hb dX8_counted_126 (by decide) ?_
                      refine lv_istore_n (lv' := [(1, .int (nI (no + 1 + e0 + 0 + 1))), (4, .int (nI no)), (3, .int 1), (2, .int 1), (0, .ref mo)]) hx hb dX8_counted_130 rfl hl (by decide) rfl (fun ls hl => ?_)
                      refine lv_iinc (v := 2) (lv' := [(2, .int 2), (1, .int (nI (no + 1 + e0 + 0 + 1))), (4, .int (nI no)), (3, .int 1), (0, .ref mo)]) hx hb dX8_counted_131 hl (k := 3) rfl (by decide) (by decide) rfl (fun ls hl => ?_)
                      refine lv_goto (tgt := 20) hx hb dX8_counted_134 (by decide) ?_
                      exact ih_20 ls ⟨e0, (0 + 1), by omega, by omega, fun q => absurd q (by omega), fun q => absurd q (by omega), fun _ => g5 (by omega), fun _ q => (by omega), lv_sub hl [0, 1, 4] rfl⟩
                  · have c_88 : ¬ (no ≤ no) := fun q_ => c_88 ((nI_leI (a := no) (b := no) (by omega) (by omega)).mpr q_)
                    exact (by omega : False).elim
                · skip
                  have hl : lv_has ls 5 [(4, .int (nI no)), (3, .int 0), (2, .int 1), (1, .int (nI (no + 1 + e0 + 0))), (0, .ref mo)] := hl
                  refine lv_iload hx hb dX8_counted_58 (lv_at hl 0 rfl) ?_
                  refine lv_aload_n hx hb dX8_counted_60 rfl (lv_at hl 4 rfl) ?_
                  refine va_get (D := (dC, dI)) (ci := 6) (v := .int (nI no)) (C := RX8) (T := TX8) (N := 32) hx hb hts iX8 hown hK hP 0 rfl rfl 15 (by decide) (hts (.fieldLink RX8 93 "ParkTowerModel" "orders" "I") (by decide +kernel)) (fun _ h9 => h9) rfl dX8_counted_61 ?_
                  refine lv_icmp_ge (tgt := 99) hx hb dX8_counted_64 (by decide) (fun c_90 => ?_) (fun c_90 => ?_)
                  · have c_90 : no ≤ no := (nI_leI (a := no) (b := no) (by omega) (by omega)).mp c_90
                    refine lv_iload_n hx hb dX8_counted_99 rfl (lv_at hl 1 rfl) ?_
                    refine lv_if_eq (tgt := 129) hx hb dX8_counted_100 (by decide) (fun _ => ?_) (fun c => absurd (by decide) c)
                    refine lv_iload_n hx hb dX8_counted_129 rfl (lv_at hl 3 rfl) ?_
                    refine lv_istore_n (lv' := [(1, .int (nI (no + 1 + e0 + 0))), (4, .int (nI no)), (3, .int 0), (2, .int 1), (0, .ref mo)]) hx hb dX8_counted_130 rfl hl (by decide) rfl (fun ls hl => ?_)
                    refine lv_iinc (v := 2) (lv' := [(2, .int 2), (1, .int (nI (no + 1 + e0 + 0))), (4, .int (nI no)), (3, .int 0), (0, .ref mo)]) hx hb dX8_counted_131 hl (k := 3) rfl (by decide) (by decide) rfl (fun ls hl => ?_)
                    refine lv_goto (tgt := 20) hx hb dX8_counted_134 (by decide) ?_
                    exact ih_20 ls ⟨e0, (0 + 0), by omega, by omega, fun q => absurd q (by omega), fun q => absurd q (by omega), fun _ => g5 (by omega), fun _ q => absurd q hmp, lv_sub hl [0, 1, 4] rfl⟩
                  · have c_90 : ¬ (no ≤ no) := fun q_ => c_90 ((nI_leI (a := no) (b := no) (by omega) (by omega)).mpr q_)
                    exact (by omega : False).elim
              · obtain ⟨cm, hcm, hl⟩ := hI
                have hl : lv_has ls 5 [(4, .int (nI kk)), (3, .int cm), (2, .int 1), (1, .int (nI (no + 1 + e0 + 0))), (0, .ref mo)] := hl
                have hcm : (cm = 1 ∨ (cm = 0 ∧ ¬ mP f5 f11 f16 no 1 dg 1)) := hcm
                rcases hcm with rfl | ⟨rfl, hmp⟩
                · skip
                  have hl : lv_has ls 5 [(4, .int (nI kk)), (3, .int 1), (2, .int 1), (1, .int (nI (no + 1 + e0 + 0))), (0, .ref mo)] := hl
                  refine lv_iload hx hb dX8_counted_58 (lv_at hl 0 rfl) ?_
                  refine lv_aload_n hx hb dX8_counted_60 rfl (lv_at hl 4 rfl) ?_
                  refine va_get (D := (dC, dI)) (ci := 6) (v := .int (nI no)) (C := RX8) (T := TX8) (N := 32) hx hb hts iX8 hown hK hP 0 rfl rfl 15 (by decide) (hts (.fieldLink RX8 93 "ParkTowerModel" "orders" "I") (by decide +kernel)) (fun _ h9 => h9) rfl dX8_counted_61 ?_
                  refine lv_icmp_ge (tgt := 99) hx hb dX8_counted_64 (by decide) (fun c_91 => ?_) (fun c_91 => ?_)
                  · have c_91 : no ≤ kk := (nI_leI (a := no) (b := kk) (by omega) (by omega)).mp c_91
                    exact (by omega : False).elim
                  · have c_91 : ¬ (no ≤ kk) := fun q_ => c_91 ((nI_leI (a := no) (b := kk) (by omega) (by omega)).mpr q_)
                    refine lv_iload_n hx hb dX8_counted_67 rfl (lv_at hl 1 rfl) ?_
                    refine lv_if_eq (tgt := 91) hx hb dX8_counted_68 (by decide) (fun c => absurd c (by decide)) (fun _ => ?_)
                    refine lv_aload_n hx hb dX8_counted_71 rfl (lv_at hl 4 rfl) ?_
                    refine va_get (D := (dC, dI)) (ci := 6) (v := .ref m16) (C := RX8) (T := TX8) (N := 32) hx hb hts iX8 hown hK hP 0 rfl rfl 16 (by decide) (hts (.fieldLink RX8 42 "ParkTowerModel" "orderCar" "[I") (by decide +kernel)) (fun _ h9 => h9) rfl dX8_counted_72 ?_
                    refine lv_iload hx hb dX8_counted_75 (lv_at hl 0 rfl) ?_
                    refine va_iald hx hb hK hP 3 2 rfl rfl (vp_in_nI (n := kk) (by omega) (by decide)) dX8_counted_77 ?_
                    refine lv_topi (fun a_92 ea_92 => ?_)
                    rw [nI_clamp (n := kk) (by omega)] at ea_92
                    refine lv_aload_n hx hb dX8_counted_78 rfl (lv_at hl 4 rfl) ?_
                    refine va_get (D := (dC, dI)) (ci := 6) (v := .ref m11) (C := RX8) (T := TX8) (N := 32) hx hb hts iX8 hown hK hP 0 rfl rfl 11 (by decide) (hts (.fieldLink RX8 32 "ParkTowerModel" "bay" "[I") (by decide +kernel)) (fun _ h9 => h9) rfl dX8_counted_79 ?_
                    refine lv_iload_n hx hb dX8_counted_82 rfl (lv_at hl 2 rfl) ?_
                    refine va_iald hx hb hK hP 2 1 rfl rfl (vp_in_iff.mpr (by decide)) dX8_counted_83 ?_
                    refine pt_topi (nI j_70) (show f11 1 = _ from ea_70.symm) ?_
                    refine lv_icmp_eq (tgt := 91) hx hb dX8_counted_84 (by decide) (fun c_93 => ?_) (fun c_93 => ?_)
                    · have c_93 : (a_92 = (nI j_70)) := c_93
                      refine lv_iconst (v := 0) hx hb dX8_counted_91 (by decide) ?_
                      refine lv_istore_n (lv' := [(3, .int 0), (4, .int (nI kk)), (2, .int 1), (1, .int (nI (no + 1 + e0 + 0))), (0, .ref mo)]) hx hb dX8_counted_92 rfl hl (by decide) rfl (fun ls hl => ?_)
                      refine lv_iinc (v := nI (kk + 1)) (lv' := [(4, .int (nI (kk + 1))), (3, .int 0), (2, .int 1), (1, .int (nI (no + 1 + e0 + 0))), (0, .ref mo)]) hx hb dX8_counted_93 hl (k := 1) rfl (nI_add kk 1) (by decide) rfl (fun ls hl => ?_)
                      refine lv_goto (tgt := 58) hx hb dX8_counted_96 (by decide) ?_
                      exact ih_58 ls ⟨0, Or.inr ⟨rfl, mP_o ea_70 hk (ea_92.symm.trans (by assumption))⟩, lv_sub hl [0, 1, 2, 3, 4] rfl⟩
                    · have c_93 : ¬ (a_92 = (nI j_70)) := c_93
                      refine lv_iconst (v := 1) hx hb dX8_counted_87 (by decide) ?_
                      refine lv_goto (tgt := 92) hx hb dX8_counted_88 (by decide) ?_
                      refine lv_istore_n (lv' := [(3, .int 1), (4, .int (nI kk)), (2, .int 1), (1, .int (nI (no + 1 + e0 + 0))), (0, .ref mo)]) hx hb dX8_counted_92 rfl hl (by decide) rfl (fun ls hl => ?_)
                      refine lv_iinc (v := nI (kk + 1)) (lv' := [(4, .int (nI (kk + 1))), (3, .int 1), (2, .int 1), (1, .int (nI (no + 1 + e0 + 0))), (0, .ref mo)]) hx hb dX8_counted_93 hl (k := 1) rfl (nI_add kk 1) (by decide) rfl (fun ls hl => ?_)
                      refine lv_goto (tgt := 58) hx hb dX8_counted_96 (by decide) ?_
                      exact ih_58 ls ⟨1, Or.inl rfl, lv_sub hl [0, 1, 2, 3, 4] rfl⟩
                · skip
                  have hl : lv_has ls 5 [(4, .int (nI kk)), (3, .int 0), (2, .int 1), (1, .int (nI (no + 1 + e0 + 0))), (0, .ref mo)] := hl
                  refine lv_iload hx hb dX8_counted_58 (lv_at hl 0 rfl) ?_
                  refine lv_aload_n hx hb dX8_counted_60 rfl (lv_at hl 4 rfl) ?_
                  refine va_get (D := (dC, dI)) (ci := 6) (v := .int (nI no)) (C := RX8) (T := TX8) (N := 32) hx hb hts iX8 hown hK hP 0 rfl rfl 15 (by decide) (hts (.fieldLink RX8 93 "ParkTowerModel" "orders" "I") (by decide +kernel)) (fun _ h9 => h9) rfl dX8_counted_61 ?_
                  refine lv_icmp_ge (tgt := 99) hx hb dX8_counted_64 (by decide) (fun c_94 => ?_) (fun c_94 => ?_)
                  · have c_94 : no ≤ kk := (nI_leI (a := no) (b := kk) (by omega) (by omega)).mp c_94
                    exact (by omega : False).elim
                  · have c_94 : ¬ (no ≤ kk) := fun q_ => c_94 ((nI_leI (a := no) (b := kk) (by omega) (by omega)).mpr q_)
                    refine lv_iload_n hx hb dX8_counted_67 rfl (lv_at hl 1 rfl) ?_
                    refine lv_if_eq (tgt := 91) hx hb dX8_counted_68 (by decide) (fun _ => ?_) (fun c => absurd (by decide) c)
                    refine lv_iconst (v := 0) hx hb dX8_counted_91 (by decide) ?_
                    refine lv_istore_n (lv' := [(3, .int 0), (4, .int (nI kk)), (2, .int 1), (1, .int (nI (no + 1 + e0 + 0))), (0, .ref mo)]) hx hb dX8_counted_92 rfl hl (by decide) rfl (fun ls hl => ?_)
                    refine lv_iinc (v := nI (kk + 1)) (lv' := [(4, .int (nI (kk + 1))), (3, .int 0), (2, .int 1), (1, .int (nI (no + 1 + e0 + 0))), (0, .ref mo)]) hx hb dX8_counted_93 hl (k := 1) rfl (nI_add kk 1) (by decide) rfl (fun ls hl => ?_)
                    refine lv_goto (tgt := 58) hx hb dX8_counted_96 (by decide) ?_
                    exact ih_58 ls ⟨0, Or.inr ⟨rfl, hmp⟩, lv_sub hl [0, 1, 2, 3, 4] rfl⟩
set_option maxHeartbeats 4000000 in
set_option maxRecDepth 100000 in
theorem m_fetching (l : Launch) (dC : Nat → ClassId) (dI : Nat → Nat → Nat) (mo m4 m5 m6 m7 m8 m9 m10 m11 m12 m16 m17 m18 m27 m29 m30 m31 : Nat) (th tm pw rn tg lf mm fo : Int32) (sr nc no bz dg db df sp : Nat) (y17 y18 : ClassId) (f17 f18 : Nat → Int32) (b : Int32) (hno : no ≤ 24) (hbz : bz ≤ 1) (hdf : df ≤ 1) : Met l yX8_fetching wsX8_fetching ({ frames := 0, cells := 0, slots := 0, locals := 0 }) (va_Pc [.ref mo, .int b] (pt_B (dC, dI) [(mo, .inr (6, [.int th, .int tm, .int (nI sr), .int (nI nc), .ref m4, .ref m5, .ref m6, .ref m7, .ref m8, .ref m9, .ref m10, .ref m11, .ref m12, .int pw, .int rn, .int (nI no), .ref m16, .ref m17, .ref m18, .int (nI bz), .int (nI dg), .int (nI db), .int (nI df), .int (nI sp), .int tg, .int lf, .int mm, .ref m27, .int fo, .ref m29, .ref m30, .ref m31])), (m17, .inl (y17, 24, .inl f17)), (m18, .inl (y18, 24, .inl f18))] [(y17, .int), (y18, .boolean)])) (vp_Si (fun r : Int32 => True)) 0 0 (fun _ => False) := by
  refine Met.ofW (cc := cX8_fetching) (maxL := 4) (ret := (some .int)) (by decide) rfl ?_
  intro p e s m args below meth c s₁ B hml hv
  obtain ⟨rfl, hP, hK, hN⟩ := hv
  have hx := B.exec
  have hb := B.bytes
  have hr := B.returns
  have hts := atoms_spec (ws := wsX8_fetching) B.pre
  have hown : s.vm.findClass RX8 = some m.cls := findClass_of_methodNamed B.named
  have hlocks := B.notSynchronized
  have iX8 : ∀ w ∈ wsX80, w ∈ wsX8_fetching := by decide +kernel
  have hP : va_P (dC, dI) vwCl [(mo, .inr (6, [.int th, .int tm, .int (nI sr), .int (nI nc), .ref m4, .ref m5, .ref m6, .ref m7, .ref m8, .ref m9, .ref m10, .ref m11, .ref m12, .int pw, .int rn, .int (nI no), .ref m16, .ref m17, .ref m18, .int (nI bz), .int (nI dg), .int (nI db), .int (nI df), .int (nI sp), .int tg, .int lf, .int mm, .ref m27, .int fo, .ref m29, .ref m30, .ref m31])), (m17, .inl (y17, 24, .inl f17)), (m18, .inl (y18, 24, .inl f18))] s.heap := hP
  have hK : va_K (dC, dI) vwCl [(y17, .int), (y18, .boolean)] s := hK
  have hl := lv_entry ([.ref mo, .int b]) (n := 4) (Nat.le_of_ble_eq_true rfl)
  rw [lg_entry_eq]
  generalize (lg_sl ([.ref mo, .int b]) ++ List.replicate (4 - (lg_sl ([.ref mo, .int b])).length) Slot.unset).toArray = ls at hl ⊢
  have hl : lv_has ls 4 [(0, .ref mo), (1, .int b)] := hl
  refine lv_aload_n hx hb dX8_fetching_0 rfl (lv_at hl 0 rfl) ?_
  refine va_get (D := (dC, dI)) (ci := 6) (v := .int (nI bz)) (C := RX8) (T := TX8) (N := 32) hx hb hts iX8 hown hK hP 0 rfl rfl 19 (by decide) (hts (.fieldLink RX8 71 "ParkTowerModel" "busy" "Z") (by decide +kernel)) (fun _ h9 => h9) rfl dX8_fetching_1 ?_
  refine lv_if_eq (tgt := 26) hx hb dX8_fetching_4 (by decide) (fun c_1 => ?_) (fun c_1 => ?_)
  · have c_1 : bz = 0 := (nI_eq (a := bz) (b := 0) (by omega) (by omega)).mp c_1
    refine lv_iconst (v := 0) hx hb dX8_fetching_26 (by decide) ?_
    refine lv_istore_n (lv' := [(2, .int 0), (0, .ref mo), (1, .int b)]) hx hb dX8_fetching_27 rfl hl (by decide) rfl (fun ls hl => ?_)
    refine lv_iconst (v := 0) hx hb dX8_fetching_28 (by decide) ?_
    refine lv_istore_n (lv' := [(3, .int 0), (2, .int 0), (0, .ref mo), (1, .int b)]) hx hb dX8_fetching_29 rfl hl (by decide) rfl (fun ls hl => ?_)
    refine pt_loop no (fun k ls => ∃ (q : Int32), lv_has ls 4 [(3, .int (nI k)), (2, .int q), (0, .ref mo), (1, .int b)]) (fun ls hI => ?_) (fun k ls hk hI ih => ?_) (⟨_, lv_sub hl [0, 1, 2, 3] rfl⟩)
    · obtain ⟨q, hl⟩ := hI
      have hl : lv_has ls 4 [(3, .int (nI no)), (2, .int q), (0, .ref mo), (1, .int b)] := hl
      refine lv_iload_n hx hb dX8_fetching_30 rfl (lv_at hl 0 rfl) ?_
      refine lv_aload_n hx hb dX8_fetching_31 rfl (lv_at hl 2 rfl) ?_
      refine va_get (D := (dC, dI)) (ci := 6) (v := .int (nI no)) (C := RX8) (T := TX8) (N := 32) hx hb hts iX8 hown hK hP 0 rfl rfl 15 (by decide) (hts (.fieldLink RX8 93 "ParkTowerModel" "orders" "I") (by decide +kernel)) (fun _ h9 => h9) rfl dX8_fetching_32 ?_
      refine lv_icmp_ge (tgt := 71) hx hb dX8_fetching_35 (by decide) (fun c_2 => ?_) (fun c_2 => ?_)
      · have c_2 : no ≤ no := (nI_leI (a := no) (b := no) (by omega) (by omega)).mp c_2
        refine lv_iload_n hx hb dX8_fetching_71 rfl (lv_at hl 1 rfl) ?_
        exact W.iret (v := q) hx hb hr (fun t ht hW => ⟨q, rfl, trivial, ht⟩) (fun q h => by cases h) dX8_fetching_72
      · have c_2 : ¬ (no ≤ no) := fun q_ => c_2 ((nI_leI (a := no) (b := no) (by omega) (by omega)).mpr q_)
        exact (by omega : False).elim
    · obtain ⟨q, hl⟩ := hI
      have hl : lv_has ls 4 [(3, .int (nI k)), (2, .int q), (0, .ref mo), (1, .int b)] := hl
      refine lv_iload_n hx hb dX8_fetching_30 rfl (lv_at hl 0 rfl) ?_
      refine lv_aload_n hx hb dX8_fetching_31 rfl (lv_at hl 2 rfl) ?_
      refine va_get (D := (dC, dI)) (ci := 6) (v := .int (nI no)) (C := RX8) (T := TX8) (N := 32) hx hb hts iX8 hown hK hP 0 rfl rfl 15 (by decide) (hts (.fieldLink RX8 93 "ParkTowerModel" "orders" "I") (by decide +kernel)) (fun _ h9 => h9) rfl dX8_fetching_32 ?_
      refine lv_icmp_ge (tgt := 71) hx hb dX8_fetching_35 (by decide) (fun c_3 => ?_) (fun c_3 => ?_)
      · have c_3 : no ≤ k := (nI_leI (a := no) (b := k) (by omega) (by omega)).mp c_3
        refine lv_iload_n hx hb dX8_fetching_71 rfl (lv_at hl 1 rfl) ?_
        exact W.iret (v := q) hx hb hr (fun t ht hW => ⟨q, rfl, trivial, ht⟩) (fun q h => by cases h) dX8_fetching_72
      · have c_3 : ¬ (no ≤ k) := fun q_ => c_3 ((nI_leI (a := no) (b := k) (by omega) (by omega)).mpr q_)
        refine lv_aload_n hx hb dX8_fetching_38 rfl (lv_at hl 2 rfl) ?_
        refine va_get (D := (dC, dI)) (ci := 6) (v := .ref m18) (C := RX8) (T := TX8) (N := 32) hx hb hts iX8 hown hK hP 0 rfl rfl 18 (by decide) (hts (.fieldLink RX8 48 "ParkTowerModel" "fetches" "[Z") (by decide +kernel)) (fun _ h9 => h9) rfl dX8_fetching_39 ?_
        refine lv_iload_n hx hb dX8_fetching_42 rfl (lv_at hl 0 rfl) ?_
        refine va_zald hx hb hK hP 2 1 rfl rfl (vp_in_nI (n := k) (by omega) (by decide)) dX8_fetching_43 ?_
        refine lv_topi (fun a_4 ea_4 => ?_)
        rw [nI_clamp (n := k) (by omega)] at ea_4
        refine lv_if_eq (tgt := 63) hx hb dX8_fetching_44 (by decide) (fun c_5 => ?_) (fun c_5 => ?_)
        · have c_5 : (a_4 = 0) := c_5
          refine lv_iload_n hx hb dX8_fetching_63 rfl (lv_at hl 1 rfl) ?_
          refine lv_istore_n (lv' := [(2, .int q), (3, .int (nI k)), (0, .ref mo), (1, .int b)]) hx hb dX8_fetching_64 rfl hl (by decide) rfl (fun ls hl => ?_)
          refine lv_iinc (v := nI (k + 1)) (lv' := [(3, .int (nI (k + 1))), (2, .int q), (0, .ref mo), (1, .int b)]) hx hb dX8_fetching_65 hl (k := 1) rfl (nI_add k 1) (by decide) rfl (fun ls hl => ?_)
          refine lv_goto (tgt := 30) hx hb dX8_fetching_68 (by decide) ?_
          exact ih ls (⟨_, lv_sub hl [0, 1, 2, 3] rfl⟩)
        · have c_5 : ¬ (a_4 = 0) := c_5
          refine lv_aload_n hx hb dX8_fetching_47 rfl (lv_at hl 2 rfl) ?_
          refine va_get (D := (dC, dI)) (ci := 6) (v := .ref m17) (C := RX8) (T := TX8) (N := 32) hx hb hts iX8 hown hK hP 0 rfl rfl 17 (by decide) (hts (.fieldLink RX8 45 "ParkTowerModel" "orderBay" "[I") (by decide +kernel)) (fun _ h9 => h9) rfl dX8_fetching_48 ?_
          refine lv_iload_n hx hb dX8_fetching_51 rfl (lv_at hl 0 rfl) ?_
          refine va_iald hx hb hK hP 1 0 rfl rfl (vp_in_nI (n := k) (by omega) (by decide)) dX8_fetching_52 ?_
          refine lv_topi (fun a_6 ea_6 => ?_)
          rw [nI_clamp (n := k) (by omega)] at ea_6
          refine lv_iload_n hx hb dX8_fetching_53 rfl (lv_at hl 3 rfl) ?_
          refine lv_icmp_ne (tgt := 63) hx hb dX8_fetching_54 (by decide) (fun c_7 => ?_) (fun c_7 => ?_)
          · have c_7 : ¬ (a_6 = b) := c_7
            refine lv_iload_n hx hb dX8_fetching_63 rfl (lv_at hl 1 rfl) ?_
            refine lv_istore_n (lv' := [(2, .int q), (3, .int (nI k)), (0, .ref mo), (1, .int b)]) hx hb dX8_fetching_64 rfl hl (by decide) rfl (fun ls hl => ?_)
            refine lv_iinc (v := nI (k + 1)) (lv' := [(3, .int (nI (k + 1))), (2, .int q), (0, .ref mo), (1, .int b)]) hx hb dX8_fetching_65 hl (k := 1) rfl (nI_add k 1) (by decide) rfl (fun ls hl => ?_)
            refine lv_goto (tgt := 30) hx hb dX8_fetching_68 (by decide) ?_
            exact ih ls (⟨_, lv_sub hl [0, 1, 2, 3] rfl⟩)
          · have c_7 : (a_6 = b) := c_7
            refine lv_iload_n hx hb dX8_fetching_57 rfl (lv_at hl 1 rfl) ?_
            refine lv_iconst (v := 1) hx hb dX8_fetching_58 (by decide) ?_
            refine lv_iadd hx hb dX8_fetching_59 ?_
            refine lv_topi (fun z_8 ez_8 => ?_)
            refine lv_goto (tgt := 64) hx hb dX8_fetching_60 (by decide) ?_
            refine lv_istore_n (lv' := [(2, .int z_8), (3, .int (nI k)), (0, .ref mo), (1, .int b)]) hx hb dX8_fetching_64 rfl hl (by decide) rfl (fun ls hl => ?_)
            refine lv_iinc (v := nI (k + 1)) (lv' := [(3, .int (nI (k + 1))), (2, .int z_8), (0, .ref mo), (1, .int b)]) hx hb dX8_fetching_65 hl (k := 1) rfl (nI_add k 1) (by decide) rfl (fun ls hl => ?_)
            refine lv_goto (tgt := 30) hx hb dX8_fetching_68 (by decide) ?_
            exact ih ls (⟨_, lv_sub hl [0, 1, 2, 3] rfl⟩)
  · have c_1 : ¬ (bz = 0) := fun q_ => c_1 ((nI_eq (a := bz) (b := 0) (by omega) (by omega)).mpr q_)
    refine lv_aload_n hx hb dX8_fetching_7 rfl (lv_at hl 0 rfl) ?_
    refine va_get (D := (dC, dI)) (ci := 6) (v := .int (nI df)) (C := RX8) (T := TX8) (N := 32) hx hb hts iX8 hown hK hP 0 rfl rfl 22 (by decide) (hts (.fieldLink RX8 74 "ParkTowerModel" "doingFetch" "Z") (by decide +kernel)) (fun _ h9 => h9) rfl dX8_fetching_8 ?_
    refine lv_if_eq (tgt := 26) hx hb dX8_fetching_11 (by decide) (fun c_9 => ?_) (fun c_9 => ?_)
    · have c_9 : df = 0 := (nI_eq (a := df) (b := 0) (by omega) (by omega)).mp c_9
      refine lv_iconst (v := 0) hx hb dX8_fetching_26 (by decide) ?_
      refine lv_istore_n (lv' := [(2, .int 0), (0, .ref mo), (1, .int b)]) hx hb dX8_fetching_27 rfl hl (by decide) rfl (fun ls hl => ?_)
      refine lv_iconst (v := 0) hx hb dX8_fetching_28 (by decide) ?_
      refine lv_istore_n (lv' := [(3, .int 0), (2, .int 0), (0, .ref mo), (1, .int b)]) hx hb dX8_fetching_29 rfl hl (by decide) rfl (fun ls hl => ?_)
      refine pt_loop no (fun k ls => ∃ (q : Int32), lv_has ls 4 [(3, .int (nI k)), (2, .int q), (0, .ref mo), (1, .int b)]) (fun ls hI => ?_) (fun k ls hk hI ih => ?_) (⟨_, lv_sub hl [0, 1, 2, 3] rfl⟩)
      · obtain ⟨q, hl⟩ := hI
        have hl : lv_has ls 4 [(3, .int (nI no)), (2, .int q), (0, .ref mo), (1, .int b)] := hl
        refine lv_iload_n hx hb dX8_fetching_30 rfl (lv_at hl 0 rfl) ?_
        refine lv_aload_n hx hb dX8_fetching_31 rfl (lv_at hl 2 rfl) ?_
        refine va_get (D := (dC, dI)) (ci := 6) (v := .int (nI no)) (C := RX8) (T := TX8) (N := 32) hx hb hts iX8 hown hK hP 0 rfl rfl 15 (by decide) (hts (.fieldLink RX8 93 "ParkTowerModel" "orders" "I") (by decide +kernel)) (fun _ h9 => h9) rfl dX8_fetching_32 ?_
        refine lv_icmp_ge (tgt := 71) hx hb dX8_fetching_35 (by decide) (fun c_10 => ?_) (fun c_10 => ?_)
        · have c_10 : no ≤ no := (nI_leI (a := no) (b := no) (by omega) (by omega)).mp c_10
          refine lv_iload_n hx hb dX8_fetching_71 rfl (lv_at hl 1 rfl) ?_
          exact W.iret (v := q) hx hb hr (fun t ht hW => ⟨q, rfl, trivial, ht⟩) (fun q h => by cases h) dX8_fetching_72
        · have c_10 : ¬ (no ≤ no) := fun q_ => c_10 ((nI_leI (a := no) (b := no) (by omega) (by omega)).mpr q_)
          exact (by omega : False).elim
      · obtain ⟨q, hl⟩ := hI
        have hl : lv_has ls 4 [(3, .int (nI k)), (2, .int q), (0, .ref mo), (1, .int b)] := hl
        refine lv_iload_n hx hb dX8_fetching_30 rfl (lv_at hl 0 rfl) ?_
        refine lv_aload_n hx hb dX8_fetching_31 rfl (lv_at hl 2 rfl) ?_
        refine va_get (D := (dC, dI)) (ci := 6) (v := .int (nI no)) (C := RX8) (T := TX8) (N := 32) hx hb hts iX8 hown hK hP 0 rfl rfl 15 (by decide) (hts (.fieldLink RX8 93 "ParkTowerModel" "orders" "I") (by decide +kernel)) (fun _ h9 => h9) rfl dX8_fetching_32 ?_
        refine lv_icmp_ge (tgt := 71) hx hb dX8_fetching_35 (by decide) (fun c_11 => ?_) (fun c_11 => ?_)
        · have c_11 : no ≤ k := (nI_leI (a := no) (b := k) (by omega) (by omega)).mp c_11
          refine lv_iload_n hx hb dX8_fetching_71 rfl (lv_at hl 1 rfl) ?_
          exact W.iret (v := q) hx hb hr (fun t ht hW => ⟨q, rfl, trivial, ht⟩) (fun q h => by cases h) dX8_fetching_72
        · have c_11 : ¬ (no ≤ k) := fun q_ => c_11 ((nI_leI (a := no) (b := k) (by omega) (by omega)).mpr q_)
          refine lv_aload_n hx hb dX8_fetching_38 rfl (lv_at hl 2 rfl) ?_
          refine va_get (D := (dC, dI)) (ci := 6) (v := .ref m18) (C := RX8) (T := TX8) (N := 32) hx hb hts iX8 hown hK hP 0 rfl rfl 18 (by decide) (hts (.fieldLink RX8 48 "ParkTowerModel" "fetches" "[Z") (by decide +kernel)) (fun _ h9 => h9) rfl dX8_fetching_39 ?_
          refine lv_iload_n hx hb dX8_fetching_42 rfl (lv_at hl 0 rfl) ?_
          refine va_zald hx hb hK hP 2 1 rfl rfl (vp_in_nI (n := k) (by omega) (by decide)) dX8_fetching_43 ?_
          refine lv_topi (fun a_12 ea_12 => ?_)
          rw [nI_clamp (n := k) (by omega)] at ea_12
          refine lv_if_eq (tgt := 63) hx hb dX8_fetching_44 (by decide) (fun c_13 => ?_) (fun c_13 => ?_)
          · have c_13 : (a_12 = 0) := c_13
            refine lv_iload_n hx hb dX8_fetching_63 rfl (lv_at hl 1 rfl) ?_
            refine lv_istore_n (lv' := [(2, .int q), (3, .int (nI k)), (0, .ref mo), (1, .int b)]) hx hb dX8_fetching_64 rfl hl (by decide) rfl (fun ls hl => ?_)
            refine lv_iinc (v := nI (k + 1)) (lv' := [(3, .int (nI (k + 1))), (2, .int q), (0, .ref mo), (1, .int b)]) hx hb dX8_fetching_65 hl (k := 1) rfl (nI_add k 1) (by decide) rfl (fun ls hl => ?_)
            refine lv_goto (tgt := 30) hx hb dX8_fetching_68 (by decide) ?_
            exact ih ls (⟨_, lv_sub hl [0, 1, 2, 3] rfl⟩)
          · have c_13 : ¬ (a_12 = 0) := c_13
            refine lv_aload_n hx hb dX8_fetching_47 rfl (lv_at hl 2 rfl) ?_
            refine va_get (D := (dC, dI)) (ci := 6) (v := .ref m17) (C := RX8) (T := TX8) (N := 32) hx hb hts iX8 hown hK hP 0 rfl rfl 17 (by decide) (hts (.fieldLink RX8 45 "ParkTowerModel" "orderBay" "[I") (by decide +kernel)) (fun _ h9 => h9) rfl dX8_fetching_48 ?_
            refine lv_iload_n hx hb dX8_fetching_51 rfl (lv_at hl 0 rfl) ?_
            refine va_iald hx hb hK hP 1 0 rfl rfl (vp_in_nI (n := k) (by omega) (by decide)) dX8_fetching_52 ?_
            refine lv_topi (fun a_14 ea_14 => ?_)
            rw [nI_clamp (n := k) (by omega)] at ea_14
            refine lv_iload_n hx hb dX8_fetching_53 rfl (lv_at hl 3 rfl) ?_
            refine lv_icmp_ne (tgt := 63) hx hb dX8_fetching_54 (by decide) (fun c_15 => ?_) (fun c_15 => ?_)
            · have c_15 : ¬ (a_14 = b) := c_15
              refine lv_iload_n hx hb dX8_fetching_63 rfl (lv_at hl 1 rfl) ?_
              refine lv_istore_n (lv' := [(2, .int q), (3, .int (nI k)), (0, .ref mo), (1, .int b)]) hx hb dX8_fetching_64 rfl hl (by decide) rfl (fun ls hl => ?_)
              refine lv_iinc (v := nI (k + 1)) (lv' := [(3, .int (nI (k + 1))), (2, .int q), (0, .ref mo), (1, .int b)]) hx hb dX8_fetching_65 hl (k := 1) rfl (nI_add k 1) (by decide) rfl (fun ls hl => ?_)
              refine lv_goto (tgt := 30) hx hb dX8_fetching_68 (by decide) ?_
              exact ih ls (⟨_, lv_sub hl [0, 1, 2, 3] rfl⟩)
            · have c_15 : (a_14 = b) := c_15
              refine lv_iload_n hx hb dX8_fetching_57 rfl (lv_at hl 1 rfl) ?_
              refine lv_iconst (v := 1) hx hb dX8_fetching_58 (by decide) ?_
              refine lv_iadd hx hb dX8_fetching_59 ?_
              refine lv_topi (fun z_16 ez_16 => ?_)
              refine lv_goto (tgt := 64) hx hb dX8_fetching_60 (by decide) ?_
              refine lv_istore_n (lv' := [(2, .int z_16), (3, .int (nI k)), (0, .ref mo), (1, .int b)]) hx hb dX8_fetching_64 rfl hl (by decide) rfl (fun ls hl => ?_)
              refine lv_iinc (v := nI (k + 1)) (lv' := [(3, .int (nI (k + 1))), (2, .int z_16), (0, .ref mo), (1, .int b)]) hx hb dX8_fetching_65 hl (k := 1) rfl (nI_add k 1) (by decide) rfl (fun ls hl => ?_)
              refine lv_goto (tgt := 30) hx hb dX8_fetching_68 (by decide) ?_
              exact ih ls (⟨_, lv_sub hl [0, 1, 2, 3] rfl⟩)
    · have c_9 : ¬ (df = 0) := fun q_ => c_9 ((nI_eq (a := df) (b := 0) (by omega) (by omega)).mpr q_)
      refine lv_aload_n hx hb dX8_fetching_14 rfl (lv_at hl 0 rfl) ?_
      refine va_get (D := (dC, dI)) (ci := 6) (v := .int (nI db)) (C := RX8) (T := TX8) (N := 32) hx hb hts iX8 hown hK hP 0 rfl rfl 21 (by decide) (hts (.fieldLink RX8 122 "ParkTowerModel" "doingBay" "I") (by decide +kernel)) (fun _ h9 => h9) rfl dX8_fetching_15 ?_
      refine lv_iload_n hx hb dX8_fetching_18 rfl (lv_at hl 1 rfl) ?_
      refine lv_icmp_ne (tgt := 26) hx hb dX8_fetching_19 (by decide) (fun c_17 => ?_) (fun c_17 => ?_)
      · have c_17 : ¬ ((nI db) = b) := c_17
        refine lv_iconst (v := 0) hx hb dX8_fetching_26 (by decide) ?_
        refine lv_istore_n (lv' := [(2, .int 0), (0, .ref mo), (1, .int b)]) hx hb dX8_fetching_27 rfl hl (by decide) rfl (fun ls hl => ?_)
        refine lv_iconst (v := 0) hx hb dX8_fetching_28 (by decide) ?_
        refine lv_istore_n (lv' := [(3, .int 0), (2, .int 0), (0, .ref mo), (1, .int b)]) hx hb dX8_fetching_29 rfl hl (by decide) rfl (fun ls hl => ?_)
        refine pt_loop no (fun k ls => ∃ (q : Int32), lv_has ls 4 [(3, .int (nI k)), (2, .int q), (0, .ref mo), (1, .int b)]) (fun ls hI => ?_) (fun k ls hk hI ih => ?_) (⟨_, lv_sub hl [0, 1, 2, 3] rfl⟩)
        · obtain ⟨q, hl⟩ := hI
          have hl : lv_has ls 4 [(3, .int (nI no)), (2, .int q), (0, .ref mo), (1, .int b)] := hl
          refine lv_iload_n hx hb dX8_fetching_30 rfl (lv_at hl 0 rfl) ?_
          refine lv_aload_n hx hb dX8_fetching_31 rfl (lv_at hl 2 rfl) ?_
          refine va_get (D := (dC, dI)) (ci := 6) (v := .int (nI no)) (C := RX8) (T := TX8) (N := 32) hx hb hts iX8 hown hK hP 0 rfl rfl 15 (by decide) (hts (.fieldLink RX8 93 "ParkTowerModel" "orders" "I") (by decide +kernel)) (fun _ h9 => h9) rfl dX8_fetching_32 ?_
          refine lv_icmp_ge (tgt := 71) hx hb dX8_fetching_35 (by decide) (fun c_18 => ?_) (fun c_18 => ?_)
          · have c_18 : no ≤ no := (nI_leI (a := no) (b := no) (by omega) (by omega)).mp c_18
            refine lv_iload_n hx hb dX8_fetching_71 rfl (lv_at hl 1 rfl) ?_
            exact W.iret (v := q) hx hb hr (fun t ht hW => ⟨q, rfl, trivial, ht⟩) (fun q h => by cases h) dX8_fetching_72
          · have c_18 : ¬ (no ≤ no) := fun q_ => c_18 ((nI_leI (a := no) (b := no) (by omega) (by omega)).mpr q_)
            exact (by omega : False).elim
        · obtain ⟨q, hl⟩ := hI
          have hl : lv_has ls 4 [(3, .int (nI k)), (2, .int q), (0, .ref mo), (1, .int b)] := hl
          refine lv_iload_n hx hb dX8_fetching_30 rfl (lv_at hl 0 rfl) ?_
          refine lv_aload_n hx hb dX8_fetching_31 rfl (lv_at hl 2 rfl) ?_
          refine va_get (D := (dC, dI)) (ci := 6) (v := .int (nI no)) (C := RX8) (T := TX8) (N := 32) hx hb hts iX8 hown hK hP 0 rfl rfl 15 (by decide) (hts (.fieldLink RX8 93 "ParkTowerModel" "orders" "I") (by decide +kernel)) (fun _ h9 => h9) rfl dX8_fetching_32 ?_
          refine lv_icmp_ge (tgt := 71) hx hb dX8_fetching_35 (by decide) (fun c_19 => ?_) (fun c_19 => ?_)
          · have c_19 : no ≤ k := (nI_leI (a := no) (b := k) (by omega) (by omega)).mp c_19
            refine lv_iload_n hx hb dX8_fetching_71 rfl (lv_at hl 1 rfl) ?_
            exact W.iret (v := q) hx hb hr (fun t ht hW => ⟨q, rfl, trivial, ht⟩) (fun q h => by cases h) dX8_fetching_72
          · have c_19 : ¬ (no ≤ k) := fun q_ => c_19 ((nI_leI (a := no) (b := k) (by omega) (by omega)).mpr q_)
            refine lv_aload_n hx hb dX8_fetching_38 rfl (lv_at hl 2 rfl) ?_
            refine va_get (D := (dC, dI)) (ci := 6) (v := .ref m18) (C := RX8) (T := TX8) (N := 32) hx hb hts iX8 hown hK hP 0 rfl rfl 18 (by decide) (hts (.fieldLink RX8 48 "ParkTowerModel" "fetches" "[Z") (by decide +kernel)) (fun _ h9 => h9) rfl dX8_fetching_39 ?_
            refine lv_iload_n hx hb dX8_fetching_42 rfl (lv_at hl 0 rfl) ?_
            refine va_zald hx hb hK hP 2 1 rfl rfl (vp_in_nI (n := k) (by omega) (by decide)) dX8_fetching_43 ?_
            refine lv_topi (fun a_20 ea_20 => ?_)
            rw [nI_clamp (n := k) (by omega)] at ea_20
            refine lv_if_eq (tgt := 63) hx hb dX8_fetching_44 (by decide) (fun c_21 => ?_) (fun c_21 => ?_)
            · have c_21 : (a_20 = 0) := c_21
              refine lv_iload_n hx hb dX8_fetching_63 rfl (lv_at hl 1 rfl) ?_
              refine lv_istore_n (lv' := [(2, .int q), (3, .int (nI k)), (0, .ref mo), (1, .int b)]) hx hb dX8_fetching_64 rfl hl (by decide) rfl (fun ls hl => ?_)
              refine lv_iinc (v := nI (k + 1)) (lv' := [(3, .int (nI (k + 1))), (2, .int q), (0, .ref mo), (1, .int b)]) hx hb dX8_fetching_65 hl (k := 1) rfl (nI_add k 1) (by decide) rfl (fun ls hl => ?_)
              refine lv_goto (tgt := 30) hx hb dX8_fetching_68 (by decide) ?_
              exact ih ls (⟨_, lv_sub hl [0, 1, 2, 3] rfl⟩)
            · have c_21 : ¬ (a_20 = 0) := c_21
              refine lv_aload_n hx hb dX8_fetching_47 rfl (lv_at hl 2 rfl) ?_
              refine va_get (D := (dC, dI)) (ci := 6) (v := .ref m17) (C := RX8) (T := TX8) (N := 32) hx hb hts iX8 hown hK hP 0 rfl rfl 17 (by decide) (hts (.fieldLink RX8 45 "ParkTowerModel" "orderBay" "[I") (by decide +kernel)) (fun _ h9 => h9) rfl dX8_fetching_48 ?_
              refine lv_iload_n hx hb dX8_fetching_51 rfl (lv_at hl 0 rfl) ?_
              refine va_iald hx hb hK hP 1 0 rfl rfl (vp_in_nI (n := k) (by omega) (by decide)) dX8_fetching_52 ?_
              refine lv_topi (fun a_22 ea_22 => ?_)
              rw [nI_clamp (n := k) (by omega)] at ea_22
              refine lv_iload_n hx hb dX8_fetching_53 rfl (lv_at hl 3 rfl) ?_
              refine lv_icmp_ne (tgt := 63) hx hb dX8_fetching_54 (by decide) (fun c_23 => ?_) (fun c_23 => ?_)
              · have c_23 : ¬ (a_22 = b) := c_23
                refine lv_iload_n hx hb dX8_fetching_63 rfl (lv_at hl 1 rfl) ?_
                refine lv_istore_n (lv' := [(2, .int q), (3, .int (nI k)), (0, .ref mo), (1, .int b)]) hx hb dX8_fetching_64 rfl hl (by decide) rfl (fun ls hl => ?_)
                refine lv_iinc (v := nI (k + 1)) (lv' := [(3, .int (nI (k + 1))), (2, .int q), (0, .ref mo), (1, .int b)]) hx hb dX8_fetching_65 hl (k := 1) rfl (nI_add k 1) (by decide) rfl (fun ls hl => ?_)
                refine lv_goto (tgt := 30) hx hb dX8_fetching_68 (by decide) ?_
                exact ih ls (⟨_, lv_sub hl [0, 1, 2, 3] rfl⟩)
              · have c_23 : (a_22 = b) := c_23
                refine lv_iload_n hx hb dX8_fetching_57 rfl (lv_at hl 1 rfl) ?_
                refine lv_iconst (v := 1) hx hb dX8_fetching_58 (by decide) ?_
                refine lv_iadd hx hb dX8_fetching_59 ?_
                refine lv_topi (fun z_24 ez_24 => ?_)
                refine lv_goto (tgt := 64) hx hb dX8_fetching_60 (by decide) ?_
                refine lv_istore_n (lv' := [(2, .int z_24), (3, .int (nI k)), (0, .ref mo), (1, .int b)]) hx hb dX8_fetching_64 rfl hl (by decide) rfl (fun ls hl => ?_)
                refine lv_iinc (v := nI (k + 1)) (lv' := [(3, .int (nI (k + 1))), (2, .int z_24), (0, .ref mo), (1, .int b)]) hx hb dX8_fetching_65 hl (k := 1) rfl (nI_add k 1) (by decide) rfl (fun ls hl => ?_)
                refine lv_goto (tgt := 30) hx hb dX8_fetching_68 (by decide) ?_
                exact ih ls (⟨_, lv_sub hl [0, 1, 2, 3] rfl⟩)
      · have c_17 : ((nI db) = b) := c_17
        refine lv_iconst (v := 1) hx hb dX8_fetching_22 (by decide) ?_
        refine lv_goto (tgt := 27) hx hb dX8_fetching_23 (by decide) ?_
        refine lv_istore_n (lv' := [(2, .int 1), (0, .ref mo), (1, .int b)]) hx hb dX8_fetching_27 rfl hl (by decide) rfl (fun ls hl => ?_)
        refine lv_iconst (v := 0) hx hb dX8_fetching_28 (by decide) ?_
        refine lv_istore_n (lv' := [(3, .int 0), (2, .int 1), (0, .ref mo), (1, .int b)]) hx hb dX8_fetching_29 rfl hl (by decide) rfl (fun ls hl => ?_)
        refine pt_loop no (fun k ls => ∃ (q : Int32), lv_has ls 4 [(3, .int (nI k)), (2, .int q), (0, .ref mo), (1, .int b)]) (fun ls hI => ?_) (fun k ls hk hI ih => ?_) (⟨_, lv_sub hl [0, 1, 2, 3] rfl⟩)
        · obtain ⟨q, hl⟩ := hI
          have hl : lv_has ls 4 [(3, .int (nI no)), (2, .int q), (0, .ref mo), (1, .int b)] := hl
          refine lv_iload_n hx hb dX8_fetching_30 rfl (lv_at hl 0 rfl) ?_
          refine lv_aload_n hx hb dX8_fetching_31 rfl (lv_at hl 2 rfl) ?_
          refine va_get (D := (dC, dI)) (ci := 6) (v := .int (nI no)) (C := RX8) (T := TX8) (N := 32) hx hb hts iX8 hown hK hP 0 rfl rfl 15 (by decide) (hts (.fieldLink RX8 93 "ParkTowerModel" "orders" "I") (by decide +kernel)) (fun _ h9 => h9) rfl dX8_fetching_32 ?_
          refine lv_icmp_ge (tgt := 71) hx hb dX8_fetching_35 (by decide) (fun c_25 => ?_) (fun c_25 => ?_)
          · have c_25 : no ≤ no := (nI_leI (a := no) (b := no) (by omega) (by omega)).mp c_25
            refine lv_iload_n hx hb dX8_fetching_71 rfl (lv_at hl 1 rfl) ?_
            exact W.iret (v := q) hx hb hr (fun t ht hW => ⟨q, rfl, trivial, ht⟩) (fun q h => by cases h) dX8_fetching_72
          · have c_25 : ¬ (no ≤ no) := fun q_ => c_25 ((nI_leI (a := no) (b := no) (by omega) (by omega)).mpr q_)
            exact (by omega : False).elim
        · obtain ⟨q, hl⟩ := hI
          have hl : lv_has ls 4 [(3, .int (nI k)), (2, .int q), (0, .ref mo), (1, .int b)] := hl
          refine lv_iload_n hx hb dX8_fetching_30 rfl (lv_at hl 0 rfl) ?_
          refine lv_aload_n hx hb dX8_fetching_31 rfl (lv_at hl 2 rfl) ?_
          refine va_get (D := (dC, dI)) (ci := 6) (v := .int (nI no)) (C := RX8) (T := TX8) (N := 32) hx hb hts iX8 hown hK hP 0 rfl rfl 15 (by decide) (hts (.fieldLink RX8 93 "ParkTowerModel" "orders" "I") (by decide +kernel)) (fun _ h9 => h9) rfl dX8_fetching_32 ?_
          refine lv_icmp_ge (tgt := 71) hx hb dX8_fetching_35 (by decide) (fun c_26 => ?_) (fun c_26 => ?_)
          · have c_26 : no ≤ k := (nI_leI (a := no) (b := k) (by omega) (by omega)).mp c_26
            refine lv_iload_n hx hb dX8_fetching_71 rfl (lv_at hl 1 rfl) ?_
            exact W.iret (v := q) hx hb hr (fun t ht hW => ⟨q, rfl, trivial, ht⟩) (fun q h => by cases h) dX8_fetching_72
          · have c_26 : ¬ (no ≤ k) := fun q_ => c_26 ((nI_leI (a := no) (b := k) (by omega) (by omega)).mpr q_)
            refine lv_aload_n hx hb dX8_fetching_38 rfl (lv_at hl 2 rfl) ?_
            refine va_get (D := (dC, dI)) (ci := 6) (v := .ref m18) (C := RX8) (T := TX8) (N := 32) hx hb hts iX8 hown hK hP 0 rfl rfl 18 (by decide) (hts (.fieldLink RX8 48 "ParkTowerModel" "fetches" "[Z") (by decide +kernel)) (fun _ h9 => h9) rfl dX8_fetching_39 ?_
            refine lv_iload_n hx hb dX8_fetching_42 rfl (lv_at hl 0 rfl) ?_
            refine va_zald hx hb hK hP 2 1 rfl rfl (vp_in_nI (n := k) (by omega) (by decide)) dX8_fetching_43 ?_
            refine lv_topi (fun a_27 ea_27 => ?_)
            rw [nI_clamp (n := k) (by omega)] at ea_27
            refine lv_if_eq (tgt := 63) hx hb dX8_fetching_44 (by decide) (fun c_28 => ?_) (fun c_28 => ?_)
            · have c_28 : (a_27 = 0) := c_28
              refine lv_iload_n hx hb dX8_fetching_63 rfl (lv_at hl 1 rfl) ?_
              refine lv_istore_n (lv' := [(2, .int q), (3, .int (nI k)), (0, .ref mo), (1, .int b)]) hx hb dX8_fetching_64 rfl hl (by decide) rfl (fun ls hl => ?_)
              refine lv_iinc (v := nI (k + 1)) (lv' := [(3, .int (nI (k + 1))), (2, .int q), (0, .ref mo), (1, .int b)]) hx hb dX8_fetching_65 hl (k := 1) rfl (nI_add k 1) (by decide) rfl (fun ls hl => ?_)
              refine lv_goto (tgt := 30) hx hb dX8_fetching_68 (by decide) ?_
              exact ih ls (⟨_, lv_sub hl [0, 1, 2, 3] rfl⟩)
            · have c_28 : ¬ (a_27 = 0) := c_28
              refine lv_aload_n hx hb dX8_fetching_47 rfl (lv_at hl 2 rfl) ?_
              refine va_get (D := (dC, dI)) (ci := 6) (v := .ref m17) (C := RX8) (T := TX8) (N := 32) hx hb hts iX8 hown hK hP 0 rfl rfl 17 (by decide) (hts (.fieldLink RX8 45 "ParkTowerModel" "orderBay" "[I") (by decide +kernel)) (fun _ h9 => h9) rfl dX8_fetching_48 ?_
              refine lv_iload_n hx hb dX8_fetching_51 rfl (lv_at hl 0 rfl) ?_
              refine va_iald hx hb hK hP 1 0 rfl rfl (vp_in_nI (n := k) (by omega) (by decide)) dX8_fetching_52 ?_
              refine lv_topi (fun a_29 ea_29 => ?_)
              rw [nI_clamp (n := k) (by omega)] at ea_29
              refine lv_iload_n hx hb dX8_fetching_53 rfl (lv_at hl 3 rfl) ?_
              refine lv_icmp_ne (tgt := 63) hx hb dX8_fetching_54 (by decide) (fun c_30 => ?_) (fun c_30 => ?_)
              · have c_30 : ¬ (a_29 = b) := c_30
                refine lv_iload_n hx hb dX8_fetching_63 rfl (lv_at hl 1 rfl) ?_
                refine lv_istore_n (lv' := [(2, .int q), (3, .int (nI k)), (0, .ref mo), (1, .int b)]) hx hb dX8_fetching_64 rfl hl (by decide) rfl (fun ls hl => ?_)
                refine lv_iinc (v := nI (k + 1)) (lv' := [(3, .int (nI (k + 1))), (2, .int q), (0, .ref mo), (1, .int b)]) hx hb dX8_fetching_65 hl (k := 1) rfl (nI_add k 1) (by decide) rfl (fun ls hl => ?_)
                refine lv_goto (tgt := 30) hx hb dX8_fetching_68 (by decide) ?_
                exact ih ls (⟨_, lv_sub hl [0, 1, 2, 3] rfl⟩)
              · have c_30 : (a_29 = b) := c_30
                refine lv_iload_n hx hb dX8_fetching_57 rfl (lv_at hl 1 rfl) ?_
                refine lv_iconst (v := 1) hx hb dX8_fetching_58 (by decide) ?_
                refine lv_iadd hx hb dX8_fetching_59 ?_
                refine lv_topi (fun z_31 ez_31 => ?_)
                refine lv_goto (tgt := 64) hx hb dX8_fetching_60 (by decide) ?_
                refine lv_istore_n (lv' := [(2, .int z_31), (3, .int (nI k)), (0, .ref mo), (1, .int b)]) hx hb dX8_fetching_64 rfl hl (by decide) rfl (fun ls hl => ?_)
                refine lv_iinc (v := nI (k + 1)) (lv' := [(3, .int (nI (k + 1))), (2, .int z_31), (0, .ref mo), (1, .int b)]) hx hb dX8_fetching_65 hl (k := 1) rfl (nI_add k 1) (by decide) rfl (fun ls hl => ?_)
                refine lv_goto (tgt := 30) hx hb dX8_fetching_68 (by decide) ?_
                exact ih ls (⟨_, lv_sub hl [0, 1, 2, 3] rfl⟩)
