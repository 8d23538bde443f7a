/-! my own rows for this claim: short calls, what a state gives -/
section PT
variable {p : Program} {l : Launch} {e : Env} {R : Room} {s : State} {m : MethodId} {args : Array Value} {below : List Frame} {meth : Method} {c : Code} {H : Heap} {locs : List Loc} {cells slots : Nat} {Q : State → Prop}
variable {pc : Nat} {ls : Array Slot} {rest st0 : List Value} {a : Array Value}
theorem pt_topi {x : Int32} (v : Int32) (h : x = v) (k : W p l e R s m args below meth c H locs cells slots Q (F0 m pc ls (.int v :: rest))) : W p l e R s m args below meth c H locs cells slots Q (F0 m pc ls (.int x :: rest)) := h ▸ k
theorem pt_cSi {post : Int32 → Prop} (hr : va_Run p l e R s m args below meth c H locs cells slots 0 0 (F0 m pc ls st0) rest (vp_Si post a) (fun _ => False)) (kk : ∀ r : Int32, post r → W p l e R s m args below meth c H locs cells slots Q (F0 m (pc + 3) ls (.int r :: rest))) : W p l e R s m args below meth c H locs cells slots Q (F0 m pc ls st0) := by
  intro T hT X
  obtain ⟨v, st₀, t, T', L, h0, X', hL, e1, e2, ⟨r, hv, hp, hh⟩, st⟩ := hr T hT X
  cases hv
  obtain ⟨t2, a1, b1⟩ := kk r hp T' (by rw [e1, hh, h0]) (Stand.forget X' (fun q h => (hL q h).elim))
  exact ⟨t2, st t2 a1, b1⟩
theorem pt_cSv {post : Unit → Prop} (hr : va_Run p l e R s m args below meth c H locs cells slots 0 0 (F0 m pc ls st0) rest (va_Sv post a) (fun _ => False)) (kk : W p l e R s m args below meth c H locs cells slots Q (F0 m (pc + 3) ls rest)) : W p l e R s m args below meth c H locs cells slots Q (F0 m pc ls st0) := by
  intro T hT X
  obtain ⟨v, st₀, t, T', L, h0, X', hL, e1, e2, ⟨hv, hp, hh⟩, st⟩ := hr T hT X
  cases hv
  obtain ⟨t2, a1, b1⟩ := kk T' (by rw [e1, hh, h0]) (Stand.forget X' (fun q h => (hL q h).elim))
  exact ⟨t2, st t2 a1, b1⟩
end PT
/-- the nest's words that the walked methods use -/
def pt_nw : List Cond := [.fieldLinkNest RX7 55 "ParkTower$Bay" "ticket" "I" "ParkTower", .fieldLinkNest RX7 59 "ParkTower$Bay" "door" "I" "ParkTower", .fieldLinkNest RX7 92 "ParkTower$Bay" "personIn" "Z" "ParkTower", .fieldLinkNest RX7 95 "ParkTower$Bay" "fetched" "Z" "ParkTower", .fieldLinkNest RX7 126 "ParkTower$Rack" "jammed" "[Z" "ParkTower", .fieldLinkNest RX7 139 "ParkTower$Rack" "held" "[I" "ParkTower", .fieldLinkNest RX7 147 "ParkTower$Plan" "count" "I" "ParkTower", .fieldLinkNest RX7 153 "ParkTower$Plan" "from" "[I" "ParkTower", .fieldLinkNest RX7 156 "ParkTower$Plan" "to" "[I" "ParkTower", .fieldLinkNest RX7 162 "ParkTower$Orders" "count" "I" "ParkTower", .fieldLinkNest RX7 167 "ParkTower$Orders" "tickets" "[I" "ParkTower", .fieldLinkNest RX7 170 "ParkTower$Job" "order" "I" "ParkTower", .fieldLinkNest RX7 173 "ParkTower$Job" "stepsEnded" "I" "ParkTower", .fieldLinkNest RX7 176 "ParkTower$Job" "ticksLeft" "I" "ParkTower", .fieldLinkNest RX7 201 "ParkTower$Job" "cell" "I" "ParkTower", .fieldLinkNest RX7 228 "ParkTower$Bay" "keptCell" "I" "ParkTower", .fieldLinkNest RX7 240 "ParkTower$Orders" "keptCells" "[I" "ParkTower", .fieldLinkNest RX7 246 "ParkTower$Orders" "bays" "[I" "ParkTower", .fieldLinkNest RX7 251 "ParkTower$Job" "plan" "LParkTower$Plan;" "ParkTower", .fieldLinkNest RX7 261 "ParkTower$Step" "atLevel" "Z" "ParkTower", .fieldLinkNest RX7 266 "ParkTower$Step" "atBay" "Z" "ParkTower", .fieldLinkNest RX2 28 "ParkTower$Plan" "from" "[I" "ParkTower", .fieldLinkNest RX2 32 "ParkTower$Plan" "to" "[I" "ParkTower", .methodLinkNest RX4 28 yX7_levelOf "ParkTower", .methodLinkNest RX5 19 yX7_isFront "ParkTower"]
def pt_N (U : State) : Prop := (∀ w ∈ pt_nw, va_Nw w U) ∧ va_AO "ParkTower$Bay" U
theorem pt_nw_ot : ∀ w ∈ pt_nw, w.onTables = true := by decide +kernel
theorem pt_N.warm {s U : State} (hW : s.WarmedH U.vm) (h : pt_N s) : pt_N U := by
  refine ⟨?_, va_AO.moved hW.alike h.2⟩
  intro w hw
  have h1 := h.1 w hw
  simp only [pt_nw, List.mem_cons, List.not_mem_nil, or_false] at hw
  rcases hw with rfl | rfl | rfl | rfl | rfl | rfl | rfl | rfl | rfl | rfl | rfl | rfl | rfl | rfl | rfl | rfl | rfl | rfl | rfl | rfl | rfl | rfl | rfl | rfl | rfl <;> first | exact va_Nw.warmF hW h1 | exact va_Nw.warmM hW h1
theorem pt_N.same {u U : State} (h : u.vm = U.vm) (hN : pt_N u) : pt_N U := ⟨fun w hw => va_Nw.same (pt_nw_ot w hw) h (hN.1 w hw), va_AO.moved (by rw [h]; exact Vm.Alike.refl _) hN.2⟩
/-- what a method that only reads takes of a state -/
def pt_B (D : va_G) (w : va_W) (tys : List (ClassId × FieldType)) (U : State) : Prop := va_P D vwCl w U.heap ∧ va_K D vwCl tys U ∧ pt_N U
theorem pt_blind {As : List Value} {D : va_G} {w : va_W} {tys : List (ClassId × FieldType)} : FrameBlind (va_Pc As (pt_B D w tys)) := fun a U g mk h => ⟨h.1, h.2.1, va_K.moved (u := U) (U := U.calling g mk a) (Vm.Alike.refl U.vm) h.2.2.1, pt_N.same (u := U) (U := U.calling g mk a) rfl h.2.2.2⟩
theorem pt_pre {As : List Value} {D : va_G} {w : va_W} {tys : List (ClassId × FieldType)} {s : State} {H : Heap} (hP : va_P D vwCl w H) (hK : va_K D vwCl tys s) (hN : pt_N s) : ∀ U : State, U.heap = H → s.WarmedH U.vm → va_Pc As (pt_B D w tys) As.toArray U := fun U hU hW => ⟨rfl, by rw [hU]; exact hP, va_K.moved hW.alike hK, hN.warm hW⟩
/-- .. and one that writes -/
def pt_BQ (D : va_G) (w : va_W) (tys : List (ClassId × FieldType)) (sz : Nat) (U : State) : Prop := U.heap.size = sz ∧ va_P D vwCl w U.heap ∧ va_K D vwCl tys U ∧ va_D (fun _ => True) w ∧ pt_N U
theorem pt_blindQ {As : List Value} {D : va_G} {w : va_W} {tys : List (ClassId × FieldType)} {sz : Nat} : FrameBlind (va_Pc As (pt_BQ D w tys sz)) := fun a U g mk h => ⟨h.1, h.2.1, h.2.2.1, va_K.moved (u := U) (U := U.calling g mk a) (Vm.Alike.refl U.vm) h.2.2.2.1, h.2.2.2.2.1, pt_N.same (u := U) (U := U.calling g mk a) rfl h.2.2.2.2.2⟩
theorem pt_preQ {As : List Value} {D : va_G} {A : Nat → Prop} {w : va_W} {tys : List (ClassId × FieldType)} {s : State} {H : Heap} (hP : va_P D vwCl w H) (hK : va_K D vwCl tys s) (hD : va_D A w) (hN : pt_N s) : ∀ U : State, U.heap = H → s.WarmedH U.vm → va_Pc As (pt_BQ D w tys H.size) As.toArray U := fun U hU hW => ⟨rfl, by rw [hU], by rw [hU]; exact hP, va_K.moved hW.alike hK, hD.weaken (fun _ _ _ _ => trivial), hN.warm hW⟩
/-- what is there behind it -/
def pt_at (D : va_G) (A : Nat → Prop) (w : va_W) (tys : List (ClassId × FieldType)) (t : State) : Prop := va_P D vwCl w t.heap ∧ va_K D vwCl tys t ∧ va_D A w
/-! numbers -/
theorem pt_lt {x y : Int32} (h : ¬ x < y) : y ≤ x := Int32.not_lt.mp h
theorem pt_bay {b : Int32} (h0 : 0 ≤ b) (h1 : b < 2) : b = 0 ∨ b = 1 := by
  have h2 := Int32.le_iff_toInt_le.mp h0
  have h3 := Int32.lt_iff_toInt_lt.mp h1
  have e0 : (0 : Int32).toInt = 0 := by decide
  have e2 : (2 : Int32).toInt = 2 := by decide
  rw [e0] at h2; rw [e2] at h3
  rcases (show b.toInt = 0 ∨ b.toInt = 1 by omega) with h | h
  · exact Or.inl (Int32.toInt_inj.mp (by rw [h]; rfl))
  · exact Or.inr (Int32.toInt_inj.mp (by rw [h]; rfl))
section PTL
variable {p : Program} {l : Launch} {e : Env} {R : Room} {s : State} {m : MethodId} {args : Array Value} {below : List Frame} {meth : Method} {c : Code} {cells slots : Nat} {Q : State → Prop} {head : Nat} {rest : List Value}
/-- a counting loop that writes nothing -/
theorem pt_loop {H : Heap} {locs : List Loc} (N : Nat) (I : Nat → Array Slot → Prop) (hz : ∀ ls, I N ls → W p l e R s m args below meth c H locs cells slots Q (F0 m head ls rest))
    (hs : ∀ k ls, k < N → I k ls → (∀ ls', I (k + 1) ls' → W p l e R s m args below meth c H locs cells slots Q (F0 m head ls' rest)) → W p l e R s m args below meth c H locs cells slots Q (F0 m head ls rest)) {ls : Array Slot} (h0 : I 0 ls) : W p l e R s m args below meth c H locs cells slots Q (F0 m head ls rest) := by
  have key : ∀ d k, k + d = N → ∀ ls, I k ls → W p l e R s m args below meth c H locs cells slots Q (F0 m head ls rest) := by
    intro d
    induction d with
    | zero => intro k hk ls h; cases (show k = N by omega); exact hz ls h
    | succ d ih => intro k hk ls h; exact hs k ls (by omega) h (fun ls' h' => ih (k + 1) (by omega) ls' h')
  exact key N 0 (by omega) ls h0
/-- .. and one that writes -/
theorem pt_loopH {H : Heap} {locs : List Loc} (N : Nat) (I : Nat → Heap → List Loc → Array Slot → Prop) (hz : ∀ H locs ls, I N H locs ls → W p l e R s m args below meth c H locs cells slots Q (F0 m head ls rest))
    (hs : ∀ k H locs ls, k < N → I k H locs ls → (∀ H' locs' ls', I (k + 1) H' locs' ls' → W p l e R s m args below meth c H' locs' cells slots Q (F0 m head ls' rest)) → W p l e R s m args below meth c H locs cells slots Q (F0 m head ls rest)) {ls : Array Slot} (h0 : I 0 H locs ls) : W p l e R s m args below meth c H locs cells slots Q (F0 m head ls rest) := by
  have key : ∀ d k, k + d = N → ∀ H locs ls, I k H locs ls → W p l e R s m args below meth c H locs cells slots Q (F0 m head ls rest) := by
    intro d
    induction d with
    | zero => intro k hk H locs ls h; cases (show k = N by omega); exact hz H locs ls h
    | succ d ih => intro k hk H locs ls h; exact hs k H locs ls (by omega) h (fun H' locs' ls' h' => ih (k + 1) (by omega) H' locs' ls' h')
  exact key N 0 (by omega) H locs ls h0
end PTL
theorem pt_10 {x : Int32} (h : 1 ≤ x) : ¬ x ≤ 0 := by
  intro h2
  have a := Int32.le_iff_toInt_le.mp h
  have b := Int32.le_iff_toInt_le.mp h2
  have e0 : (0 : Int32).toInt = 0 := by decide
  have e1 : (1 : Int32).toInt = 1 := by decide
  omega
theorem pt_pos {x : Int32} (h : ¬ x < 1) : 0 < x := by
  have a := Int32.le_iff_toInt_le.mp (Int32.not_lt.mp h)
  refine Int32.lt_iff_toInt_lt.mpr ?_
  have e0 : (0 : Int32).toInt = 0 := by decide
  have e1 : (1 : Int32).toInt = 1 := by decide
  omega

theorem pt_nIm {k : Nat} (h : k < 2 ^ 31) : ¬ (nI k = (-1)) := fun q => by
  have a := nI_pos (n := k) h
  rw [q] at a
  exact a (by decide)
def sK (x : Int32) : Prop := x = (-1) ∨ ∃ j : Nat, j < 96 ∧ x = nI j
def sB (x : Int32) : Prop := x = 0 ∨ x = 1
def sC (x : Int32) : Prop := ∃ j : Nat, j < 96 ∧ x = nI j
def sP (x : Int32) : Prop := x = (-1) ∨ ∃ j : Nat, j ≤ 2 ∧ x = nI j
theorem s_upd {P : Int32 → Prop} {f : Nat → Int32} {j : Nat} {v : Int32} (h : ∀ i, P (f i)) (hv : P v) (i : Nat) : P (upd f j v i) := by
  unfold upd
  split
  · exact hv
  · exact h i
theorem s_bay {x : Int32} (h : sB x) : ∃ j : Nat, j < 2 ∧ x = nI j := by
  rcases h with h | h
  · exact ⟨0, by decide, h⟩
  · exact ⟨1, by decide, h⟩
