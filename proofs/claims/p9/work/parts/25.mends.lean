theorem sB_nI {b : Nat} (h : b < 2) : sB (nI b) := by
  rcases (show b = 0 ∨ b = 1 by omega) with rfl | rfl
  · exact Or.inl rfl
  · exact Or.inr rfl
theorem pt_m1lt {k : Nat} (h : k < 2 ^ 31) : (-1 : Int32) < nI k := by
  refine Int32.lt_iff_toInt_lt.mpr ?_
  rw [nI_toInt h]
  have : (-1 : Int32).toInt = -1 := by decide
  omega
section PTC
variable {p : Program} {l : Launch} {e : Env} {R : Room} {s : State} {m : MethodId} {args : Array Value} {below : List Frame} {meth : Method} {c : Code} {H : Heap} {locs : List Loc} {cells slots : Nat} {Q : State → Prop} {g : JFrame}
/-- what comes behind is laid once, for every state of a kind -/
theorem pt_cutH {α : Type} (pc' : Nat) (rest' : List Value) (P : α → Heap → List Loc → Array Slot → Prop) (h : ∀ x H locs ls, P x H locs ls → W p l e R s m args below meth c H locs cells slots Q (F0 m pc' ls rest'))
    (k : (∀ x H locs ls, P x H locs ls → W p l e R s m args below meth c H locs cells slots Q (F0 m pc' ls rest')) → W p l e R s m args below meth c H locs cells slots Q g) : W p l e R s m args below meth c H locs cells slots Q g := k h
theorem pt_cutX {α : Type} (pc' : Nat) (rest' : List Value) (P : α → Array Slot → Prop) (h : ∀ x ls, P x ls → W p l e R s m args below meth c H locs cells slots Q (F0 m pc' ls rest'))
    (k : (∀ x ls, P x ls → W p l e R s m args below meth c H locs cells slots Q (F0 m pc' ls rest')) → W p l e R s m args below meth c H locs cells slots Q g) : W p l e R s m args below meth c H locs cells slots Q g := k h
end PTC
section MIt
variable {nc n z g zf sp : Nat} {mm : Int32} {w p f d y oc ob mv : Nat → Int32}
theorem MI.chain {jc mq : Nat} (h : MI nc n z g zf sp mm w p f d y oc ob mv) (hz : z = 1) (hf : zf = 1) (hm : mm = nI mq) (h3 : mq ≤ 3) (hj : jc < 96) (hp : p g = nI jc) (h1 : 1 ≤ sp) (h2 : sp ≤ mq) :
    ∃ a b v : Nat, mv (sp - 1) = nI (100 * a + b) ∧ a < 96 ∧ b < 96 ∧ b / 24 = jc / 24 ∧ a ≠ b ∧ f a = nI v ∧ 1 ≤ v ∧ v ≤ 700 ∧ mch mv (jc / 24) sp (mq - sp) (upd (upd f b (nI v)) a 0) := by
  have hc := h.hch hz hf mq jc h3 hm hj hp
  rw [show mq - (sp - 1) = (mq - sp) + 1 by omega] at hc
  obtain ⟨a, b, v, c1, c2, c3, _, c5, c6, c7, c8, c9, c10⟩ := hc
  rw [show sp - 1 + 1 = sp by omega] at c10
  exact ⟨a, b, v, c1, c2, c3, c5, c6, c7, c8, c9, c10⟩
theorem MI.moved {a b v jc mq : Nat} (h : MI nc n z g zf sp mm w p f d y oc ob mv) (hm : mm = nI mq) (h3 : mq ≤ 3) (hj : jc < 96) (hp : p g = nI jc) (hb : b < 96) (hbl : b / 24 = jc / 24) (hv : v ≤ 700) (hc : mch mv (jc / 24) sp (mq - sp) (upd (upd f b (nI v)) a 0)) :
    MI nc n z g zf (sp + 1) mm w (upd p (v - 1) (nI b)) (upd (upd f b (nI v)) a 0) d y oc ob mv := by
  refine h.cells (fun i => mC_moved h.hf hv i) (fun i => s_upd h.hp ⟨b, hb, rfl⟩ i) ?_
  intro _ _ m q hm3 hmm hq hpq
  cases (nI_eq (a := mq) (b := m) (by omega) (by omega)).mp (hm.symm.trans hmm)
  have hql : q / 24 = jc / 24 := by
    by_cases e : g = v - 1
    · rw [e, pk_us] at hpq
      rw [← (nI_eq (a := b) (b := q) (by omega) (by omega)).mp hpq]; exact hbl
    · rw [pk_un e] at hpq
      rw [(nI_eq (a := jc) (b := q) (by omega) (by omega)).mp (hp.symm.trans hpq)]
  rw [hql, show sp + 1 - 1 = sp by omega]
  exact hc
theorem MI.late {f' p' : Nat → Int32} {sp' : Nat} (h : MI nc n z g zf sp mm w p f d y oc ob mv) (hf : ∀ i, mC (f' i)) (hp : ∀ i, sC (p' i)) (hl : zf = 1 → ∀ m : Nat, m ≤ 3 → mm = nI m → m ≤ sp' - 1) : MI nc n z g zf sp' mm w p' f' d y oc ob mv := by
  refine h.cells hf hp ?_
  intro _ hzf m q hm3 hmm _ _
  have := hl hzf m hm3 hmm
  rw [show m - (sp' - 1) = 0 by omega]
  trivial
theorem MI.zero (h : MI nc n z g zf 0 mm w p f d y oc ob mv) : MI nc n z g zf 1 mm w p f d y oc ob mv := h.cells h.hf h.hp (fun a b m q c1 c2 c3 c4 => h.hch a b m q c1 c2 c3 c4)
theorem mC_nI {k : Nat} (h : k ≤ 700) : mC (nI k) := Or.inr ⟨k, h, rfl⟩
end MIt

set_option maxHeartbeats 4000000 in
set_option maxRecDepth 100000 in
theorem m_doors (l : Launch) (dC : Nat → ClassId) (dI : Nat → Nat → Nat) (sz : Nat) (mo m4 m5 m6 m7 m8 m9 m10 m11 m12 m16 m17 m18 m27 m29 m30 m31 : Nat) (th tm pw rn tg lf mm fo : Int32) (sr nc no bz dg db df sp : Nat) (y5 y8 y9 y10 y11 y16 y17 y18 : ClassId) (f5 f8 f9 f10 f11 f16 f17 f18 : Nat → Int32) (f6 f7 f27 : Nat → Int32) (hM : MI nc no bz dg df sp mm f5 f6 f7 f8 f11 f16 f17 f27) (hfe : ∀ i, sB (f18 i)) : Met l yX8_doors wsX8_doors ({ frames := 1, cells := 0, slots := 0, locals := 23 }) (va_Pc [.ref mo] (pt_BQ (dC, dI) [(mo, .inr (6, [.int th, .int tm, .int (nI sr), .int (nI nc), .ref m4, .ref m5, .ref m6, .ref m7, .ref m8, .ref m9, .ref m10, .ref m11, .ref m12, .int pw, .int rn, .int (nI no), .ref m16, .ref m17, .ref m18, .int (nI bz), .int (nI dg), .int (nI db), .int (nI df), .int (nI sp), .int tg, .int lf, .int mm, .ref m27, .int fo, .ref m29, .ref m30, .ref m31])), (m5, .inl (y5, 700, .inl f5)), (m8, .inl (y8, 2, .inl f8)), (m9, .inl (y9, 2, .inl f9)), (m10, .inl (y10, 2, .inl f10)), (m11, .inl (y11, 2, .inl f11)), (m16, .inl (y16, 24, .inl f16)), (m17, .inl (y17, 24, .inl f17)), (m18, .inl (y18, 24, .inl f18))] [(y5, .int), (y8, .int), (y9, .int), (y10, .boolean), (y11, .int), (y16, .int), (y17, .int), (y18, .boolean)] sz)) (va_Qv (fun (u : (Nat → Int32) × (Nat → Nat) × (Nat → Nat → Int32)) => MI nc ((u.2.1 0)) bz dg df sp mm f5 f6 f7 ((u.2.2 0)) f11 ((u.2.2 2)) ((u.2.2 3)) f27 ∧ (∀ i, sB ((u.2.2 4) i))) (fun u t => pt_at (dC, dI) (va_A [(mo, .inr (6, [.int th, .int tm, .int (nI sr), .int (nI nc), .ref m4, .ref m5, .ref m6, .ref m7, .ref m8, .ref m9, .ref m10, .ref m11, .ref m12, .int pw, .int rn, .int (nI no), .ref m16, .ref m17, .ref m18, .int (nI bz), .int (nI dg), .int (nI db), .int (nI df), .int (nI sp), .int tg, .int lf, .int mm, .ref m27, .int fo, .ref m29, .ref m30, .ref m31])), (m5, .inl (y5, 700, .inl f5)), (m8, .inl (y8, 2, .inl f8)), (m9, .inl (y9, 2, .inl f9)), (m10, .inl (y10, 2, .inl f10)), (m11, .inl (y11, 2, .inl f11)), (m16, .inl (y16, 24, .inl f16)), (m17, .inl (y17, 24, .inl f17)), (m18, .inl (y18, 24, .inl f18))] sz) [(mo, .inr (6, [.int th, .int tm, .int (nI sr), .int (nI nc), .ref m4, .ref m5, .ref m6, .ref m7, .ref m8, .ref m9, .ref m10, .ref m11, .ref m12, .int pw, .int rn, .int (nI (u.2.1 0)), .ref m16, .ref m17, .ref m18, .int (nI bz), .int (nI dg), .int (nI db), .int (nI df), .int (nI sp), .int tg, .int lf, .int mm, .ref m27, .int fo, .ref m29, .ref m30, .ref m31])), (m5, .inl (y5, 700, .inl f5)), (m8, .inl (y8, 2, .inl (u.2.2 0))), (m9, .inl (y9, 2, .inl (u.2.2 1))), (m10, .inl (y10, 2, .inl f10)), (m11, .inl (y11, 2, .inl f11)), (m16, .inl (y16, 24, .inl (u.2.2 2))), (m17, .inl (y17, 24, .inl (u.2.2 3))), (m18, .inl (y18, 24, .inl (u.2.2 4)))] [] t) (va_A [(mo, .inr (6, [.int th, .int tm, .int (nI sr), .int (nI nc), .ref m4, .ref m5, .ref m6, .ref m7, .ref m8, .ref m9, .ref m10, .ref m11, .ref m12, .int pw, .int rn, .int (nI no), .ref m16, .ref m17, .ref m18, .int (nI bz), .int (nI dg), .int (nI db), .int (nI df), .int (nI sp), .int tg, .int lf, .int mm, .ref m27, .int fo, .ref m29, .ref m30, .ref m31])), (m5, .inl (y5, 700, .inl f5)), (m8, .inl (y8, 2, .inl f8)), (m9, .inl (y9, 2, .inl f9)), (m10, .inl (y10, 2, .inl f10)), (m11, .inl (y11, 2, .inl f11)), (m16, .inl (y16, 24, .inl f16)), (m17, .inl (y17, 24, .inl f17)), (m18, .inl (y18, 24, .inl f18))] sz)) 0 0 (va_A [(mo, .inr (6, [.int th, .int tm, .int (nI sr), .int (nI nc), .ref m4, .ref m5, .ref m6, .ref m7, .ref m8, .ref m9, .ref m10, .ref m11, .ref m12, .int pw, .int rn, .int (nI no), .ref m16, .ref m17, .ref m18, .int (nI bz), .int (nI dg), .int (nI db), .int (nI df), .int (nI sp), .int tg, .int lf, .int mm, .ref m27, .int fo, .ref m29, .ref m30, .ref m31])), (m5, .inl (y5, 700, .inl f5)), (m8, .inl (y8, 2, .inl f8)), (m9, .inl (y9, 2, .inl f9)), (m10, .inl (y10, 2, .inl f10)), (m11, .inl (y11, 2, .inl f11)), (m16, .inl (y16, 24, .inl f16)), (m17, .inl (y17, 24, .inl f17)), (m18, .inl (y18, 24, .inl f18))] sz) := by
  refine Met.ofW (cc := cX8_doors) (maxL := 3) (ret := none) (by decide) rfl ?_
  intro p e s m args below meth c s₁ B hml hv
  obtain ⟨rfl, hsz, hP, hK, hD0, hN⟩ := hv
  have hx := B.exec
  have hb := B.bytes
  have hr := B.returns
  have hts := atoms_spec (ws := wsX8_doors) B.pre
  have hown : s.vm.findClass RX8 = some m.cls := findClass_of_methodNamed B.named
  have hlocks := B.notSynchronized
  have iX8 : ∀ w ∈ wsX80, w ∈ wsX8_doors := by decide +kernel
  subst hsz
  have hD := hD0.self (sz := s.heap.size)
  generalize hAe : va_A [(mo, .inr (6, [.int th, .int tm, .int (nI sr), .int (nI nc), .ref m4, .ref m5, .ref m6, .ref m7, .ref m8, .ref m9, .ref m10, .ref m11, .ref m12, .int pw, .int rn, .int (nI no), .ref m16, .ref m17, .ref m18, .int (nI bz), .int (nI dg), .int (nI db), .int (nI df), .int (nI sp), .int tg, .int lf, .int mm, .ref m27, .int fo, .ref m29, .ref m30, .ref m31])), (m5, .inl (y5, 700, .inl f5)), (m8, .inl (y8, 2, .inl f8)), (m9, .inl (y9, 2, .inl f9)), (m10, .inl (y10, 2, .inl f10)), (m11, .inl (y11, 2, .inl f11)), (m16, .inl (y16, 24, .inl f16)), (m17, .inl (y17, 24, .inl f17)), (m18, .inl (y18, 24, .inl f18))] s.heap.size = A at hD ⊢
  have hA : ∀ q : Nat, s.heap.size ≤ q → A q := fun q h => by rw [← hAe]; exact Or.inr h
  have hS : va_S A s.heap s.heap [] := va_S.rf
  have hP : va_P (dC, dI) vwCl [(mo, .inr (6, [.int th, .int tm, .int (nI sr), .int (nI nc), .ref m4, .ref m5, .ref m6, .ref m7, .ref m8, .ref m9, .ref m10, .ref m11, .ref m12, .int pw, .int rn, .int (nI no), .ref m16, .ref m17, .ref m18, .int (nI bz), .int (nI dg), .int (nI db), .int (nI df), .int (nI sp), .int tg, .int lf, .int mm, .ref m27, .int fo, .ref m29, .ref m30, .ref m31])), (m5, .inl (y5, 700, .inl f5)), (m8, .inl (y8, 2, .inl f8)), (m9, .inl (y9, 2, .inl f9)), (m10, .inl (y10, 2, .inl f10)), (m11, .inl (y11, 2, .inl f11)), (m16, .inl (y16, 24, .inl f16)), (m17, .inl (y17, 24, .inl f17)), (m18, .inl (y18, 24, .inl f18))] s.heap := hP
  have hK : va_K (dC, dI) vwCl [(y5, .int), (y8, .int), (y9, .int), (y10, .boolean), (y11, .int), (y16, .int), (y17, .int), (y18, .boolean)] s := hK
  have hl := lv_entry ([.ref mo]) (n := 3) (Nat.le_of_ble_eq_true rfl)
  rw [lg_entry_eq]
  generalize (lg_sl ([.ref mo]) ++ List.replicate (3 - (lg_sl ([.ref mo])).length) Slot.unset).toArray = ls at hl ⊢
  have hl : lv_has ls 3 [(0, .ref mo)] := hl
  have hnc := hM.hnc
  refine lv_iconst (v := 0) hx hb dX8_doors_0 (by decide) ?_
  refine lv_istore_n (lv' := [(1, .int 0), (0, .ref mo)]) hx hb dX8_doors_1 rfl hl (by decide) rfl (fun ls hl => ?_)
  refine pt_loopH 2 (fun b H locs ls => ∃ (n1 : Nat) (h8 h9 h16 h17 h18 : Nat → Int32), lv_has ls 3 [(1, .int (nI b)), (0, .ref mo)] ∧ (MI nc n1 bz dg df sp mm f5 f6 f7 h8 f11 h16 h17 f27) ∧ (∀ i, sB (h18 i)) ∧ va_P (dC, dI) vwCl [(mo, .inr (6, [.int th, .int tm, .int (nI sr), .int (nI nc), .ref m4, .ref m5, .ref m6, .ref m7, .ref m8, .ref m9, .ref m10, .ref m11, .ref m12, .int pw, .int rn, .int (nI n1), .ref m16, .ref m17, .ref m18, .int (nI bz), .int (nI dg), .int (nI db), .int (nI df), .int (nI sp), .int tg, .int lf, .int mm, .ref m27, .int fo, .ref m29, .ref m30, .ref m31])), (m5, .inl (y5, 700, .inl f5)), (m8, .inl (y8, 2, .inl h8)), (m9, .inl (y9, 2, .inl h9)), (m10, .inl (y10, 2, .inl f10)), (m11, .inl (y11, 2, .inl f11)), (m16, .inl (y16, 24, .inl h16)), (m17, .inl (y17, 24, .inl h17)), (m18, .inl (y18, 24, .inl h18))] H ∧ va_D A [(mo, .inr (6, [.int th, .int tm, .int (nI sr), .int (nI nc), .ref m4, .ref m5, .ref m6, .ref m7, .ref m8, .ref m9, .ref m10, .ref m11, .ref m12, .int pw, .int rn, .int (nI n1), .ref m16, .ref m17, .ref m18, .int (nI bz), .int (nI dg), .int (nI db), .int (nI df), .int (nI sp), .int tg, .int lf, .int mm, .ref m27, .int fo, .ref m29, .ref m30, .ref m31])), (m5, .inl (y5, 700, .inl f5)), (m8, .inl (y8, 2, .inl h8)), (m9, .inl (y9, 2, .inl h9)), (m10, .inl (y10, 2, .inl f10)), (m11, .inl (y11, 2, .inl f11)), (m16, .inl (y16, 24, .inl h16)), (m17, .inl (y17, 24, .inl h17)), (m18, .inl (y18, 24, .inl h18))] ∧ va_S A s.heap H locs) (fun H locs ls hI => ?_) (fun b H locs ls hk hI ih_2 => ?_) ⟨no, f8, f9, f16, f17, f18, lv_sub hl [0, 1] rfl, hM, hfe, hP.sub [0, 1, 2, 3, 4, 5, 6, 7, 8] rfl, hD.sub [0, 1, 2, 3, 4, 5, 6, 7, 8] (by decide) rfl, hS⟩
  · obtain ⟨n1, h8, h9, h16, h17, h18, hl, hM, hfe, hP, hD, hS⟩ := hI
    have hl : lv_has ls 3 [(1, .int 2), (0, .ref mo)] := hl
    have hP : va_P (dC, dI) vwCl [(mo, .inr (6, [.int th, .int tm, .int (nI sr), .int (nI nc), .ref m4, .ref m5, .ref m6, .ref m7, .ref m8, .ref m9, .ref m10, .ref m11, .ref m12, .int pw, .int rn, .int (nI n1), .ref m16, .ref m17, .ref m18, .int (nI bz), .int (nI dg), .int (nI db), .int (nI df), .int (nI sp), .int tg, .int lf, .int mm, .ref m27, .int fo, .ref m29, .ref m30, .ref m31])), (m5, .inl (y5, 700, .inl f5)), (m8, .inl (y8, 2, .inl h8)), (m9, .inl (y9, 2, .inl h9)), (m10, .inl (y10, 2, .inl f10)), (m11, .inl (y11, 2, .inl f11)), (m16, .inl (y16, 24, .inl h16)), (m17, .inl (y17, 24, .inl h17)), (m18, .inl (y18, 24, .inl h18))] H := hP
    have hD : va_D A [(mo, .inr (6, [.int th, .int tm, .int (nI sr), .int (nI nc), .ref m4, .ref m5, .ref m6, .ref m7, .ref m8, .ref m9, .ref m10, .ref m11, .ref m12, .int pw, .int rn, .int (nI n1), .ref m16, .ref m17, .ref m18, .int (nI bz), .int (nI dg), .int (nI db), .int (nI df), .int (nI sp), .int tg, .int lf, .int mm, .ref m27, .int fo, .ref m29, .ref m30, .ref m31])), (m5, .inl (y5, 700, .inl f5)), (m8, .inl (y8, 2, .inl h8)), (m9, .inl (y9, 2, .inl h9)), (m10, .inl (y10, 2, .inl f10)), (m11, .inl (y11, 2, .inl f11)), (m16, .inl (y16, 24, .inl h16)), (m17, .inl (y17, 24, .inl h17)), (m18, .inl (y18, 24, .inl h18))] := hD
    have hM : (MI nc n1 bz dg df sp mm f5 f6 f7 h8 f11 h16 h17 f27) := hM
    have hfe : (∀ i, sB (h18 i)) := hfe
    refine lv_iload_n hx hb dX8_doors_2 rfl (lv_at hl 0 rfl) ?_
    refine lv_iconst (v := 2) hx hb dX8_doors_3 (by decide) ?_
    refine lv_icmp_ge (tgt := 218) hx hb dX8_doors_4 (by decide) (fun _ => ?_) (fun c => absurd (by decide) c)
    have hP9 := hP.sub (ws' := [(mo, .inr (6, [.int th, .int tm, .int (nI sr), .int (nI nc), .ref m4, .ref m5, .ref m6, .ref m7, .ref m8, .ref m9, .ref m10, .ref m11, .ref m12, .int pw, .int rn, .int (nI n1), .ref m16, .ref m17, .ref m18, .int (nI bz), .int (nI dg), .int (nI db), .int (nI df), .int (nI sp), .int tg, .int lf, .int mm, .ref m27, .int fo, .ref m29, .ref m30, .ref m31])), (m5, .inl (y5, 700, .inl f5)), (m8, .inl (y8, 2, .inl h8)), (m9, .inl (y9, 2, .inl h9)), (m10, .inl (y10, 2, .inl f10)), (m11, .inl (y11, 2, .inl f11)), (m16, .inl (y16, 24, .inl h16)), (m17, .inl (y17, 24, .inl h17)), (m18, .inl (y18, 24, .inl h18))]) [0, 1, 2, 3, 4, 5, 6, 7, 8] rfl
    have hD9 := hD.sub (ws' := [(mo, .inr (6, [.int th, .int tm, .int (nI sr), .int (nI nc), .ref m4, .ref m5, .ref m6, .ref m7, .ref m8, .ref m9, .ref m10, .ref m11, .ref m12, .int pw, .int rn, .int (nI n1), .ref m16, .ref m17, .ref m18, .int (nI bz), .int (nI dg), .int (nI db), .int (nI df), .int (nI sp), .int tg, .int lf, .int mm, .ref m27, .int fo, .ref m29, .ref m30, .ref m31])), (m5, .inl (y5, 700, .inl f5)), (m8, .inl (y8, 2, .inl h8)), (m9, .inl (y9, 2, .inl h9)), (m10, .inl (y10, 2, .inl f10)), (m11, .inl (y11, 2, .inl f11)), (m16, .inl (y16, 24, .inl h16)), (m17, .inl (y17, 24, .inl h17)), (m18, .inl (y18, 24, .inl h18))]) [0, 1, 2, 3, 4, 5, 6, 7, 8] (by decide) rfl
    have hK9 := hK.sub (tys' := []) [] rfl
    refine W.widen (k := 0) (n := 0) (by omega) (by omega) ?_
    exact W.vret hx hb hr (fun t ht hW => ⟨⟨(fun q_ => ([] : List Int32).getD q_ 0, fun q_ => ([n1] : List Nat).getD q_ 0, fun q_ => ([h8, h9, h16, h17, h18] : List (Nat → Int32)).getD q_ (fun _ => 0)), rfl, ⟨hM, hfe⟩, by rw [ht]; exact hP9, va_K.moved hW.alike hK9, hD9⟩, hS.F ht⟩) hS.2.2 dX8_doors_218
  · obtain ⟨n1, h8, h9, h16, h17, h18, hl, hM, hfe, hP, hD, hS⟩ := hI
    have hl : lv_has ls 3 [(1, .int (nI b)), (0, .ref mo)] := hl
    have hP : va_P (dC, dI) vwCl [(mo, .inr (6, [.int th, .int tm, .int (nI sr), .int (nI nc), .ref m4, .ref m5, .ref m6, .ref m7, .ref m8, .ref m9, .ref m10, .ref m11, .ref m12, .int pw, .int rn, .int (nI n1), .ref m16, .ref m17, .ref m18, .int (nI bz), .int (nI dg), .int (nI db), .int (nI df), .int (nI sp), .int tg, .int lf, .int mm, .ref m27, .int fo, .ref m29, .ref m30, .ref m31])), (m5, .inl (y5, 700, .inl f5)), (m8, .inl (y8, 2, .inl h8)), (m9, .inl (y9, 2, .inl h9)), (m10, .inl (y10, 2, .inl f10)), (m11, .inl (y11, 2, .inl f11)), (m16, .inl (y16, 24, .inl h16)), (m17, .inl (y17, 24, .inl h17)), (m18, .inl (y18, 24, .inl h18))] H := hP
    have hD : va_D A [(mo, .inr (6, [.int th, .int tm, .int (nI sr), .int (nI nc), .ref m4, .ref m5, .ref m6, .ref m7, .ref m8, .ref m9, .ref m10, .ref m11, .ref m12, .int pw, .int rn, .int (nI n1), .ref m16, .ref m17, .ref m18, .int (nI bz), .int (nI dg), .int (nI db), .int (nI df), .int (nI sp), .int tg, .int lf, .int mm, .ref m27, .int fo, .ref m29, .ref m30, .ref m31])), (m5, .inl (y5, 700, .inl f5)), (m8, .inl (y8, 2, .inl h8)), (m9, .inl (y9, 2, .inl h9)), (m10, .inl (y10, 2, .inl f10)), (m11, .inl (y11, 2, .inl f11)), (m16, .inl (y16, 24, .inl h16)), (m17, .inl (y17, 24, .inl h17)), (m18, .inl (y18, 24, .inl h18))] := hD
    have hM : (MI nc n1 bz dg df sp mm f5 f6 f7 h8 f11 h16 h17 f27) := hM
    have hfe : (∀ i, sB (h18 i)) := hfe
    have hn1 := hM.n24
    refine lv_iload_n hx hb dX8_doors_2 rfl (lv_at hl 0 rfl) ?_
    refine lv_iconst (v := 2) hx hb dX8_doors_3 (by decide) ?_
    refine lv_icmp_ge (tgt := 218) hx hb dX8_doors_4 (by decide) (fun c_1 => ?_) (fun c_1 => ?_)
    · have c_1 : 2 ≤ b := (nI_leI (a := 2) (b := b) (by omega) (by omega)).mp c_1
      exact (by omega : False).elim
    · have c_1 : ¬ (2 ≤ b) := fun q_ => c_1 ((nI_leI (a := 2) (b := b) (by omega) (by omega)).mpr q_)
      refine lv_aload_n hx hb dX8_doors_7 rfl (lv_at hl 1 rfl) ?_
      refine va_get (D := (dC, dI)) (ci := 6) (v := .int pw) (C := RX8) (T := TX8) (N := 32) hx hb hts iX8 hown hK hP 0 rfl rfl 13 (by decide) (hts (.fieldLink RX8 38 "ParkTowerModel" "power" "Z") (by decide +kernel)) (fun _ h9 => h9) rfl dX8_doors_8 ?_
      refine lv_if_eq (tgt := 128) hx hb dX8_doors_11 (by decide) (fun c_2 => ?_) (fun c_2 => ?_)
      · have c_2 : (pw = 0) := c_2
        have hnn : n1 ≤ 24 := (hM).n24
        refine pt_cutX (α := Nat) 154 [] (fun fi ls => fi ≤ n1 ∧ lv_has ls 3 [(2, .int (nI fi)), (0, .ref mo), (1, .int (nI b))]) (fun fi ls hI => ?_) (fun K => ?_)
        · obtain ⟨hfi, hl⟩ := hI
          have hl : lv_has ls 3 [(2, .int (nI fi)), (0, .ref mo), (1, .int (nI b))] := hl
          refine lv_aload_n hx hb dX8_doors_154 rfl (lv_at hl 1 rfl) ?_
          refine va_get (D := (dC, dI)) (ci := 6) (v := .int pw) (C := RX8) (T := TX8) (N := 32) hx hb hts iX8 hown hK hP 0 rfl rfl 13 (by decide) (hts (.fieldLink RX8 38 "ParkTowerModel" "power" "Z") (by decide +kernel)) (fun _ h9 => h9) rfl dX8_doors_155 ?_
          refine lv_if_eq (tgt := 212) hx hb dX8_doors_158 (by decide) (fun _ => ?_) (fun c => absurd (by assumption) c)
          refine lv_iinc (v := nI (b + 1)) (lv' := [(1, .int (nI (b + 1))), (2, .int (nI fi)), (0, .ref mo)]) hx hb dX8_doors_212 hl (k := 2) rfl (nI_add b 1) (by decide) rfl (fun ls hl => ?_)
          refine lv_goto (tgt := 2) hx hb dX8_doors_215 (by decide) ?_
          exact ih_2 H locs ls ⟨n1, h8, h9, h16, h17, h18, lv_sub hl [0, 2] rfl, hM, hfe, hP.sub [0, 1, 2, 3, 4, 5, 6, 7, 8] rfl, hD.sub [0, 1, 2, 3, 4, 5, 6, 7, 8] (by decide) rfl, hS⟩
        · skip
          refine lv_iconst (v := 0) hx hb dX8_doors_128 (by decide) ?_
          refine lv_istore_n (lv' := [(2, .int 0), (1, .int (nI b)), (0, .ref mo)]) hx hb dX8_doors_129 rfl hl (by decide) rfl (fun ls hl => ?_)
          refine pt_loop n1 (fun kk ls => lv_has ls 3 [(2, .int (nI kk)), (0, .ref mo), (1, .int (nI b))]) (fun ls hI => ?_) (fun kk ls hk hI ih => ?_) (lv_sub hl [0, 2, 1] rfl)
          · have hl := hI
            have hl : lv_has ls 3 [(2, .int (nI n1)), (0, .ref mo), (1, .int (nI b))] := hl
            refine lv_iload_n hx hb dX8_doors_130 rfl (lv_at hl 0 rfl) ?_
            refine lv_aload_n hx hb dX8_doors_131 rfl (lv_at hl 1 rfl) ?_
            refine va_get (D := (dC, dI)) (ci := 6) (v := .int (nI n1)) (C := RX8) (T := TX8) (N := 32) hx hb hts iX8 hown hK hP 0 rfl rfl 15 (by decide) (hts (.fieldLink RX8 93 "ParkTowerModel" "orders" "I") (by decide +kernel)) (fun _ h9 => h9) rfl dX8_doors_132 ?_
            refine lv_icmp_ge (tgt := 154) hx hb dX8_doors_135 (by decide) (fun c_3 => ?_) (fun c_3 => ?_)
            · have c_3 : n1 ≤ n1 := (nI_leI (a := n1) (b := n1) (by omega) (by omega)).mp c_3
              exact K n1 ls ⟨by omega, lv_sub hl [0, 1, 2] rfl⟩
            · have c_3 : ¬ (n1 ≤ n1) := fun q_ => c_3 ((nI_leI (a := n1) (b := n1) (by omega) (by omega)).mpr q_)
              exact (by omega : False).elim
          · have hl := hI
            have hl : lv_has ls 3 [(2, .int (nI kk)), (0, .ref mo), (1, .int (nI b))] := hl
            refine lv_iload_n hx hb dX8_doors_130 rfl (lv_at hl 0 rfl) ?_
            refine lv_aload_n hx hb dX8_doors_131 rfl (lv_at hl 1 rfl) ?_
            refine va_get (D := (dC, dI)) (ci := 6) (v := .int (nI n1)) (C := RX8) (T := TX8) (N := 32) hx hb hts iX8 hown hK hP 0 rfl rfl 15 (by decide) (hts (.fieldLink RX8 93 "ParkTowerModel" "orders" "I") (by decide +kernel)) (fun _ h9 => h9) rfl dX8_doors_132 ?_
            refine lv_icmp_ge (tgt := 154) hx hb dX8_doors_135 (by decide) (fun c_4 => ?_) (fun c_4 => ?_)
            · have c_4 : n1 ≤ kk := (nI_leI (a := n1) (b := kk) (by omega) (by omega)).mp c_4
              exact K kk ls ⟨by omega, lv_sub hl [0, 1, 2] rfl⟩
            · have c_4 : ¬ (n1 ≤ kk) := fun q_ => c_4 ((nI_leI (a := n1) (b := kk) (by omega) (by omega)).mpr q_)
              refine lv_aload_n hx hb dX8_doors_138 rfl (lv_at hl 1 rfl) ?_
              refine va_get (D := (dC, dI)) (ci := 6) (v := .ref m17) (C := RX8) (T := TX8) (N := 32) hx hb hts iX8 hown hK hP 0 rfl rfl 17 (by decide) (hts (.fieldLink RX8 45 "ParkTowerModel" "orderBay" "[I") (by decide +kernel)) (fun _ h9 => h9) rfl dX8_doors_139 ?_
              refine lv_iload_n hx hb dX8_doors_142 rfl (lv_at hl 0 rfl) ?_
              refine va_iald hx hb hK hP 7 6 rfl rfl (vp_in_nI (n := kk) (by omega) (by decide)) dX8_doors_143 ?_
              refine lv_topi (fun a_5 ea_5 => ?_)
              rw [nI_clamp (n := kk) (by omega)] at ea_5
              refine lv_iload_n hx hb dX8_doors_144 rfl (lv_at hl 2 rfl) ?_
              refine lv_icmp_eq (tgt := 154) hx hb dX8_doors_145 (by decide) (fun c_6 => ?_) (fun c_6 => ?_)
              · have c_6 : (a_5 = (nI b)) := c_6
                exact K kk ls ⟨by omega, lv_sub hl [0, 1, 2] rfl⟩
              · have c_6 : ¬ (a_5 = (nI b)) := c_6
                refine lv_iinc (v := nI (kk + 1)) (lv' := [(2, .int (nI (kk + 1))), (0, .ref mo), (1, .int (nI b))]) hx hb dX8_doors_148 hl (k := 0) rfl (nI_add kk 1) (by decide) rfl (fun ls hl => ?_)
                refine lv_goto (tgt := 130) hx hb dX8_doors_151 (by decide) ?_
                exact ih ls (lv_sub hl [0, 1, 2] rfl)
      · have c_2 : ¬ (pw = 0) := c_2
        refine lv_aload_n hx hb dX8_doors_14 rfl (lv_at hl 1 rfl) ?_
        refine va_get (D := (dC, dI)) (ci := 6) (v := .ref m8) (C := RX8) (T := TX8) (N := 32) hx hb hts iX8 hown hK hP 0 rfl rfl 8 (by decide) (hts (.fieldLink RX8 22 "ParkTowerModel" "door" "[I") (by decide +kernel)) (fun _ h9 => h9) rfl dX8_doors_15 ?_
        refine lv_iload_n hx hb dX8_doors_18 rfl (lv_at hl 0 rfl) ?_
        refine va_iald hx hb hK hP 2 1 rfl rfl (vp_in_nI (n := b) (by omega) (by decide)) dX8_doors_19 ?_
        refine lv_topi (fun a_7 ea_7 => ?_)
        rw [nI_clamp (n := b) (by omega)] at ea_7
        refine lv_iconst (v := 1) hx hb dX8_doors_20 (by decide) ?_
        refine lv_icmp_eq (tgt := 34) hx hb dX8_doors_21 (by decide) (fun c_8 => ?_) (fun c_8 => ?_)
        · have c_8 : (a_7 = 1) := c_8
          refine lv_aload_n hx hb dX8_doors_34 rfl (lv_at hl 1 rfl) ?_
          refine va_get (D := (dC, dI)) (ci := 6) (v := .ref m9) (C := RX8) (T := TX8) (N := 32) hx hb hts iX8 hown hK hP 0 rfl rfl 9 (by decide) (hts (.fieldLink RX8 25 "ParkTowerModel" "left" "[I") (by decide +kernel)) (fun _ h9 => h9) rfl dX8_doors_35 ?_
          refine lv_iload_n hx hb dX8_doors_38 rfl (lv_at hl 0 rfl) ?_
          refine lv_dup2_11 hx hb dX8_doors_39 rfl rfl ?_
          refine va_iald hx hb hK hP 3 2 rfl rfl (vp_in_nI (n := b) (by omega) (by decide)) dX8_doors_40 ?_
          refine lv_topi (fun a_9 ea_9 => ?_)
          rw [nI_clamp (n := b) (by omega)] at ea_9
          refine lv_iconst (v := 1) hx hb dX8_doors_41 (by decide) ?_
          refine lv_isub hx hb dX8_doors_42 ?_
          refine lv_topi (fun z_10 ez_10 => ?_)
          refine va_iast hx hb hK hP hD hS 3 2 rfl rfl (vp_in_nI (n := b) (by omega) (by decide)) dX8_doors_43 (fun H locs hP hD hS => ?_)
          rw [nI_clamp (n := b) (by omega)] at hP hD
          have hP : va_P (dC, dI) vwCl [(mo, .inr (6, [.int th, .int tm, .int (nI sr), .int (nI nc), .ref m4, .ref m5, .ref m6, .ref m7, .ref m8, .ref m9, .ref m10, .ref m11, .ref m12, .int pw, .int rn, .int (nI n1), .ref m16, .ref m17, .ref m18, .int (nI bz), .int (nI dg), .int (nI db), .int (nI df), .int (nI sp), .int tg, .int lf, .int mm, .ref m27, .int fo, .ref m29, .ref m30, .ref m31])), (m5, .inl (y5, 700, .inl f5)), (m8, .inl (y8, 2, .inl h8)), (m9, .inl (y9, 2, .inl (upd h9 b z_10))), (m10, .inl (y10, 2, .inl f10)), (m11, .inl (y11, 2, .inl f11)), (m16, .inl (y16, 24, .inl h16)), (m17, .inl (y17, 24, .inl h17)), (m18, .inl (y18, 24, .inl h18))] H := hP
          have hD : va_D A [(mo, .inr (6, [.int th, .int tm, .int (nI sr), .int (nI nc), .ref m4, .ref m5, .ref m6, .ref m7, .ref m8, .ref m9, .ref m10, .ref m11, .ref m12, .int pw, .int rn, .int (nI n1), .ref m16, .ref m17, .ref m18, .int (nI bz), .int (nI dg), .int (nI db), .int (nI df), .int (nI sp), .int tg, .int lf, .int mm, .ref m27, .int fo, .ref m29, .ref m30, .ref m31])), (m5, .inl (y5, 700, .inl f5)), (m8, .inl (y8, 2, .inl h8)), (m9, .inl (y9, 2, .inl (upd h9 b z_10))), (m10, .inl (y10, 2, .inl f10)), (m11, .inl (y11, 2, .inl f11)), (m16, .inl (y16, 24, .inl h16)), (m17, .inl (y17, 24, .inl h17)), (m18, .inl (y18, 24, .inl h18))] := hD
          refine lv_aload_n hx hb dX8_doors_44 rfl (lv_at hl 1 rfl) ?_
          refine va_get (D := (dC, dI)) (ci := 6) (v := .ref m9) (C := RX8) (T := TX8) (N := 32) hx hb hts iX8 hown hK hP 0 rfl rfl 9 (by decide) (hts (.fieldLink RX8 25 "ParkTowerModel" "left" "[I") (by decide +kernel)) (fun _ h9 => h9) rfl dX8_doors_45 ?_
          refine lv_iload_n hx hb dX8_doors_48 rfl (lv_at hl 0 rfl) ?_
          refine va_iald hx hb hK hP 3 2 rfl rfl (vp_in_nI (n := b) (by omega) (by decide)) dX8_doors_49 ?_
          refine pt_topi z_10 (by rw [nI_clamp (n := b) (by omega)]; exact pk_us) ?_
          refine lv_if_ne (tgt := 74) hx hb dX8_doors_50 (by decide) (fun c_11 => ?_) (fun c_11 => ?_)
          · have c_11 : ¬ (z_10 = 0) := c_11
            refine lv_aload_n hx hb dX8_doors_74 rfl (lv_at hl 1 rfl) ?_
            refine va_get (D := (dC, dI)) (ci := 6) (v := .ref m9) (C := RX8) (T := TX8) (N := 32) hx hb hts iX8 hown hK hP 0 rfl rfl 9 (by decide) (hts (.fieldLink RX8 25 "ParkTowerModel" "left" "[I") (by decide +kernel)) (fun _ h9 => h9) rfl dX8_doors_75 ?_
            refine lv_iload_n hx hb dX8_doors_78 rfl (lv_at hl 0 rfl) ?_
            refine va_iald hx hb hK hP 3 2 rfl rfl (vp_in_nI (n := b) (by omega) (by decide)) dX8_doors_79 ?_
            refine pt_topi z_10 (by rw [nI_clamp (n := b) (by omega)]; exact pk_us) ?_
            refine lv_if_ne (tgt := 128) hx hb dX8_doors_80 (by decide) (fun _ => ?_) (fun c => absurd c (by assumption))
            have hnn : n1 ≤ 24 := (hM).n24
            refine pt_cutX (α := Nat) 154 [] (fun fi ls => fi ≤ n1 ∧ lv_has ls 3 [(2, .int (nI fi)), (0, .ref mo), (1, .int (nI b))]) (fun fi ls hI => ?_) (fun K => ?_)
            · obtain ⟨hfi, hl⟩ := hI
              have hl : lv_has ls 3 [(2, .int (nI fi)), (0, .ref mo), (1, .int (nI b))] := hl
              refine lv_aload_n hx hb dX8_doors_154 rfl (lv_at hl 1 rfl) ?_
              refine va_get (D := (dC, dI)) (ci := 6) (v := .int pw) (C := RX8) (T := TX8) (N := 32) hx hb hts iX8 hown hK hP 0 rfl rfl 13 (by decide) (hts (.fieldLink RX8 38 "ParkTowerModel" "power" "Z") (by decide +kernel)) (fun _ h9 => h9) rfl dX8_doors_155 ?_
              refine lv_if_eq (tgt := 212) hx hb dX8_doors_158 (by decide) (fun c => absurd c (by assumption)) (fun _ => ?_)
              refine lv_aload_n hx hb dX8_doors_161 rfl (lv_at hl 1 rfl) ?_
              refine va_get (D := (dC, dI)) (ci := 6) (v := .ref m8) (C := RX8) (T := TX8) (N := 32) hx hb hts iX8 hown hK hP 0 rfl rfl 8 (by decide) (hts (.fieldLink RX8 22 "ParkTowerModel" "door" "[I") (by decide +kernel)) (fun _ h9 => h9) rfl dX8_doors_162 ?_
              refine lv_iload_n hx hb dX8_doors_165 rfl (lv_at hl 2 rfl) ?_
              refine va_iald hx hb hK hP 2 1 rfl rfl (vp_in_nI (n := b) (by omega) (by decide)) dX8_doors_166 ?_
              refine pt_topi a_7 (by rw [nI_clamp (n := b) (by omega)]; exact ea_7.symm) ?_
              refine lv_iconst (v := 2) hx hb dX8_doors_167 (by decide) ?_
              refine lv_icmp_ne (tgt := 212) hx hb dX8_doors_168 (by decide) (fun c_12 => ?_) (fun c_12 => ?_)
              · have c_12 : ¬ (a_7 = 2) := c_12
                refine lv_iinc (v := nI (b + 1)) (lv' := [(1, .int (nI (b + 1))), (2, .int (nI fi)), (0, .ref mo)]) hx hb dX8_doors_212 hl (k := 2) rfl (nI_add b 1) (by decide) rfl (fun ls hl => ?_)
                refine lv_goto (tgt := 2) hx hb dX8_doors_215 (by decide) ?_
                exact ih_2 H locs ls ⟨n1, h8, upd h9 b z_10, h16, h17, h18, lv_sub hl [0, 2] rfl, hM, hfe, hP.sub [0, 1, 2, 3, 4, 5, 6, 7, 8] rfl, hD.sub [0, 1, 2, 3, 4, 5, 6, 7, 8] (by decide) rfl, hS⟩
              · have c_12 : (a_7 = 2) := c_12
                refine lv_aload_n hx hb dX8_doors_171 rfl (lv_at hl 1 rfl) ?_
                refine va_get (D := (dC, dI)) (ci := 6) (v := .ref m11) (C := RX8) (T := TX8) (N := 32) hx hb hts iX8 hown hK hP 0 rfl rfl 11 (by decide) (hts (.fieldLink RX8 32 "ParkTowerModel" "bay" "[I") (by decide +kernel)) (fun _ h9 => h9) rfl dX8_doors_172 ?_
                refine lv_iload_n hx hb dX8_doors_175 rfl (lv_at hl 2 rfl) ?_
                refine va_iald hx hb hK hP 5 4 rfl rfl (vp_in_nI (n := b) (by omega) (by decide)) dX8_doors_176 ?_
                refine lv_topi (fun a_13 ea_13 => ?_)
                rw [nI_clamp (n := b) (by omega)] at ea_13
                rcases (show mB nc a_13 by rw [ea_13]; exact hM.hy _) with rfl | ⟨j_13, hj_13, rfl⟩
                · skip
                  refine lv_if_ge (tgt := 212) hx hb dX8_doors_177 (by decide) (fun c => absurd c (by decide)) (fun _ => ?_)
                  refine lv_aload_n hx hb dX8_doors_180 rfl (lv_at hl 1 rfl) ?_
                  refine va_get (D := (dC, dI)) (ci := 6) (v := .ref m10) (C := RX8) (T := TX8) (N := 32) hx hb hts iX8 hown hK hP 0 rfl rfl 10 (by decide) (hts (.fieldLink RX8 28 "ParkTowerModel" "person" "[Z") (by decide +kernel)) (fun _ h9 => h9) rfl dX8_doors_181 ?_
                  refine lv_iload_n hx hb dX8_doors_184 rfl (lv_at hl 2 rfl) ?_
                  refine va_zald hx hb hK hP 4 3 rfl rfl (vp_in_nI (n := b) (by omega) (by decide)) dX8_doors_185 ?_
                  refine lv_topi (fun a_14 ea_14 => ?_)
                  rw [nI_clamp (n := b) (by omega)] at ea_14
                  refine lv_if_ne (tgt := 212) hx hb dX8_doors_186 (by decide) (fun c_15 => ?_) (fun c_15 => ?_)
                  · have c_15 : ¬ (a_14 = 0) := c_15
                    refine lv_iinc (v := nI (b + 1)) (lv' := [(1, .int (nI (b + 1))), (2, .int (nI fi)), (0, .ref mo)]) hx hb dX8_doors_212 hl (k := 2) rfl (nI_add b 1) (by decide) rfl (fun ls hl => ?_)
                    refine lv_goto (tgt := 2) hx hb dX8_doors_215 (by decide) ?_
                    exact ih_2 H locs ls ⟨n1, h8, upd h9 b z_10, h16, h17, h18, lv_sub hl [0, 2] rfl, hM, hfe, hP.sub [0, 1, 2, 3, 4, 5, 6, 7, 8] rfl, hD.sub [0, 1, 2, 3, 4, 5, 6, 7, 8] (by decide) rfl, hS⟩
                  · have c_15 : (a_14 = 0) := c_15
                    refine lv_iload_n hx hb dX8_doors_189 rfl (lv_at hl 0 rfl) ?_
                    refine lv_aload_n hx hb dX8_doors_190 rfl (lv_at hl 1 rfl) ?_
                    refine va_get (D := (dC, dI)) (ci := 6) (v := .int (nI n1)) (C := RX8) (T := TX8) (N := 32) hx hb hts iX8 hown hK hP 0 rfl rfl 15 (by decide) (hts (.fieldLink RX8 93 "ParkTowerModel" "orders" "I") (by decide +kernel)) (fun _ h9 => h9) rfl dX8_doors_191 ?_
                    refine lv_icmp_ge (tgt := 212) hx hb dX8_doors_194 (by decide) (fun c_16 => ?_) (fun c_16 => ?_)
                    · have c_16 : n1 ≤ fi := (nI_leI (a := n1) (b := fi) (by omega) (by omega)).mp c_16
                      refine lv_iinc (v := nI (b + 1)) (lv' := [(1, .int (nI (b + 1))), (2, .int (nI fi)), (0, .ref mo)]) hx hb dX8_doors_212 hl (k := 2) rfl (nI_add b 1) (by decide) rfl (fun ls hl => ?_)
                      refine lv_goto (tgt := 2) hx hb dX8_doors_215 (by decide) ?_
                      exact ih_2 H locs ls ⟨n1, h8, upd h9 b z_10, h16, h17, h18, lv_sub hl [0, 2] rfl, hM, hfe, hP.sub [0, 1, 2, 3, 4, 5, 6, 7, 8] rfl, hD.sub [0, 1, 2, 3, 4, 5, 6, 7, 8] (by decide) rfl, hS⟩
                    · have c_16 : ¬ (n1 ≤ fi) := fun q_ => c_16 ((nI_leI (a := n1) (b := fi) (by omega) (by omega)).mpr q_)
                      refine lv_aload_n hx hb dX8_doors_197 rfl (lv_at hl 1 rfl) ?_
                      refine va_get (D := (dC, dI)) (ci := 6) (v := .ref m18) (C := RX8) (T := TX8) (N := 32) hx hb hts iX8 hown hK hP 0 rfl rfl 18 (by decide) (hts (.fieldLink RX8 48 "ParkTowerModel" "fetches" "[Z") (by decide +kernel)) (fun _ h9 => h9) rfl dX8_doors_198 ?_
                      refine lv_iload_n hx hb dX8_doors_201 rfl (lv_at hl 0 rfl) ?_
                      refine va_zald hx hb hK hP 8 7 rfl rfl (vp_in_nI (n := fi) (by omega) (by decide)) dX8_doors_202 ?_
                      refine lv_topi (fun a_17 ea_17 => ?_)
                      rw [nI_clamp (n := fi) (by omega)] at ea_17
                      refine lv_if_eq (tgt := 212) hx hb dX8_doors_203 (by decide) (fun c_18 => ?_) (fun c_18 => ?_)
                      · have c_18 : (a_17 = 0) := c_18
                        refine lv_iinc (v := nI (b + 1)) (lv' := [(1, .int (nI (b + 1))), (2, .int (nI fi)), (0, .ref mo)]) hx hb dX8_doors_212 hl (k := 2) rfl (nI_add b 1) (by decide) rfl (fun ls hl => ?_)
                        refine lv_goto (tgt := 2) hx hb dX8_doors_215 (by decide) ?_
                        exact ih_2 H locs ls ⟨n1, h8, upd h9 b z_10, h16, h17, h18, lv_sub hl [0, 2] rfl, hM, hfe, hP.sub [0, 1, 2, 3, 4, 5, 6, 7, 8] rfl, hD.sub [0, 1, 2, 3, 4, 5, 6, 7, 8] (by decide) rfl, hS⟩
                      · have c_18 : ¬ (a_17 = 0) := c_18
                        refine lv_aload_n hx hb dX8_doors_206 rfl (lv_at hl 1 rfl) ?_
                        refine lv_iload_n hx hb dX8_doors_207 rfl (lv_at hl 2 rfl) ?_
                        refine lv_iconst (v := 3) hx hb dX8_doors_208 (by decide) ?_
                        have hPc := hP.sub (ws' := [(mo, .inr (6, [.int th, .int tm, .int (nI sr), .int (nI nc), .ref m4, .ref m5, .ref m6, .ref m7, .ref m8, .ref m9, .ref m10, .ref m11, .ref m12, .int pw, .int rn, .int (nI n1), .ref m16, .ref m17, .ref m18, .int (nI bz), .int (nI dg), .int (nI db), .int (nI df), .int (nI sp), .int tg, .int lf, .int mm, .ref m27, .int fo, .ref m29, .ref m30, .ref m31])), (m8, .inl (y8, 2, .inl h8)), (m9, .inl (y9, 2, .inl (upd h9 b z_10)))]) [0, 2, 3] rfl
                        have hDc := hD.sub (ws' := [(mo, .inr (6, [.int th, .int tm, .int (nI sr), .int (nI nc), .ref m4, .ref m5, .ref m6, .ref m7, .ref m8, .ref m9, .ref m10, .ref m11, .ref m12, .int pw, .int rn, .int (nI n1), .ref m16, .ref m17, .ref m18, .int (nI bz), .int (nI dg), .int (nI db), .int (nI df), .int (nI sp), .int tg, .int lf, .int mm, .ref m27, .int fo, .ref m29, .ref m30, .ref m31])), (m8, .inl (y8, 2, .inl h8)), (m9, .inl (y9, 2, .inl (upd h9 b z_10)))]) [0, 2, 3] (by decide) rfl
                        have hKc := hK.sub (tys' := [(y8, .int), (y9, .int)]) [1, 2] rfl
                        have hFc := va_free (wc := [(mo, .inr (6, [.int th, .int tm, .int (nI sr), .int (nI nc), .ref m4, .ref m5, .ref m6, .ref m7, .ref m8, .ref m9, .ref m10, .ref m11, .ref m12, .int pw, .int rn, .int (nI n1), .ref m16, .ref m17, .ref m18, .int (nI bz), .int (nI dg), .int (nI db), .int (nI df), .int (nI sp), .int tg, .int lf, .int mm, .ref m27, .int fo, .ref m29, .ref m30, .ref m31])), (m8, .inl (y8, 2, .inl h8)), (m9, .inl (y9, 2, .inl (upd h9 b z_10)))]) hD hS hA [0, 2, 3] rfl
                        refine va_callv (va_runV (As := [.int (nI b), .int 3]) (rest := []) ⟨hx, hb, hml, hown, hts⟩ (m_moves l dC dI _ mo m4 m5 m6 m7 m8 m9 m10 m11 m12 m16 m17 m18 m27 m29 m30 m31 th tm pw rn tg lf mm fo sr nc n1 bz dg db df sp y8 y9 h8 (upd h9 b z_10) b 3 (by omega)) (cwV 2 hts gX8_doors_X8_moves rfl rfl rfl (by decide +kernel) ⟨Nat.le_of_ble_eq_true rfl, Nat.le_of_ble_eq_true rfl⟩) ⟨pt_blindQ, va_recv hK hP (ci := 6) (q0 := 0) rfl rfl, pt_preQ hPc hKc hDc hN⟩ rfl rfl hl.1 rfl (lv_room (Nat.le_of_ble_eq_true rfl)) dX8_doors_209 ⟨Nat.le_of_ble_eq_true rfl, Nat.le_of_ble_eq_true rfl⟩) hS (fun q _ h => hFc q h) hFc (fun u_19 t H1 locs ht hvm hw_19 hB hz1 hk1 hS => ?_)
                        obtain ⟨v_19, n_19, F_19⟩ := u_19
                        obtain ⟨hP1, hK1, hD1⟩ := hB
                        try dsimp only at hw_19
                        rw [ht] at hP1
                        have hK1 := va_K.moved hvm.symm hK1
                        obtain ⟨hP, hD⟩ := va_join (wr := [(m5, .inl (y5, 700, .inl f5)), (m10, .inl (y10, 2, .inl f10)), (m11, .inl (y11, 2, .inl f11)), (m16, .inl (y16, 24, .inl h16)), (m17, .inl (y17, 24, .inl h17)), (m18, .inl (y18, 24, .inl h18))]) (w1 := [(mo, .inr (6, [.int th, .int tm, .int (nI sr), .int (nI nc), .ref m4, .ref m5, .ref m6, .ref m7, .ref m8, .ref m9, .ref m10, .ref m11, .ref m12, .int pw, .int rn, .int (nI n1), .ref m16, .ref m17, .ref m18, .int (nI bz), .int (nI dg), .int (nI db), .int (nI df), .int (nI sp), .int tg, .int lf, .int mm, .ref m27, .int fo, .ref m29, .ref m30, .ref m31])), (m8, .inl (y8, 2, .inl (upd h8 b 3))), (m9, .inl (y9, 2, .inl (upd (upd h9 b z_10) b 4)))]) hP hD [0, 2, 3] [1, 4, 5, 6, 7, 8] rfl rfl (by decide) (by decide) hk1 hFc hP1 hD1
                        have hK := hK.app hK1
                        generalize H1 = H at hP hS ⊢
                        have hP : va_P (dC, dI) vwCl [(m5, .inl (y5, 700, .inl f5)), (m10, .inl (y10, 2, .inl f10)), (m11, .inl (y11, 2, .inl f11)), (m16, .inl (y16, 24, .inl h16)), (m17, .inl (y17, 24, .inl h17)), (m18, .inl (y18, 24, .inl h18)), (mo, .inr (6, [.int th, .int tm, .int (nI sr), .int (nI nc), .ref m4, .ref m5, .ref m6, .ref m7, .ref m8, .ref m9, .ref m10, .ref m11, .ref m12, .int pw, .int rn, .int (nI n1), .ref m16, .ref m17, .ref m18, .int (nI bz), .int (nI dg), .int (nI db), .int (nI df), .int (nI sp), .int tg, .int lf, .int mm, .ref m27, .int fo, .ref m29, .ref m30, .ref m31])), (m8, .inl (y8, 2, .inl (upd h8 b 3))), (m9, .inl (y9, 2, .inl (upd (upd h9 b z_10) b 4)))] H := hP
                        have hD : va_D A [(m5, .inl (y5, 700, .inl f5)), (m10, .inl (y10, 2, .inl f10)), (m11, .inl (y11, 2, .inl f11)), (m16, .inl (y16, 24, .inl h16)), (m17, .inl (y17, 24, .inl h17)), (m18, .inl (y18, 24, .inl h18)), (mo, .inr (6, [.int th, .int tm, .int (nI sr), .int (nI nc), .ref m4, .ref m5, .ref m6, .ref m7, .ref m8, .ref m9, .ref m10, .ref m11, .ref m12, .int pw, .int rn, .int (nI n1), .ref m16, .ref m17, .ref m18, .int (nI bz), .int (nI dg), .int (nI db), .int (nI df), .int (nI sp), .int tg, .int lf, .int mm, .ref m27, .int fo, .ref m29, .ref m30, .ref m31])), (m8, .inl (y8, 2, .inl (upd h8 b 3))), (m9, .inl (y9, 2, .inl (upd (upd h9 b z_10) b 4)))] := hD
                        have hK : va_K (dC, dI) vwCl [(y5, .int), (y8, .int), (y9, .int), (y10, .boolean), (y11, .int), (y16, .int), (y17, .int), (y18, .boolean)] s := hK
                        have hM3 : MI nc n1 bz dg df sp mm f5 f6 f7 (upd h8 b 3) f11 h16 h17 f27 := MI.door1 hM (fun q9 => absurd ((ea_7.trans q9).symm.trans (by assumption)) (by decide))
                        refine lv_iinc (v := nI (b + 1)) (lv' := [(1, .int (nI (b + 1))), (2, .int (nI fi)), (0, .ref mo)]) hx hb dX8_doors_212 hl (k := 2) rfl (nI_add b 1) (by decide) rfl (fun ls hl => ?_)
                        refine lv_goto (tgt := 2) hx hb dX8_doors_215 (by decide) ?_
                        exact ih_2 H locs ls ⟨n1, upd h8 b 3, upd (upd h9 b z_10) b 4, h16, h17, h18, lv_sub hl [0, 2] rfl, hM3, hfe, hP.sub [6, 0, 7, 8, 1, 2, 3, 4, 5] rfl, hD.sub [6, 0, 7, 8, 1, 2, 3, 4, 5] (by decide) rfl, hS⟩
                · skip
                  refine lv_if_ge (tgt := 212) hx hb dX8_doors_177 (by decide) (fun c_20 => ?_) (fun c_20 => ?_)
                  · have c_20 : 0 ≤ j_13 := (nI_leI (a := 0) (b := j_13) (by omega) (by omega)).mp c_20
                    refine lv_iinc (v := nI (b + 1)) (lv' := [(1, .int (nI (b + 1))), (2, .int (nI fi)), (0, .ref mo)]) hx hb dX8_doors_212 hl (k := 2) rfl (nI_add b 1) (by decide) rfl (fun ls hl => ?_)
                    refine lv_goto (tgt := 2) hx hb dX8_doors_215 (by decide) ?_
                    exact ih_2 H locs ls ⟨n1, h8, upd h9 b z_10, h16, h17, h18, lv_sub hl [0, 2] rfl, hM, hfe, hP.sub [0, 1, 2, 3, 4, 5, 6, 7, 8] rfl, hD.sub [0, 1, 2, 3, 4, 5, 6, 7, 8] (by decide) rfl, hS⟩
                  · have c_20 : ¬ (0 ≤ j_13) := fun q_ => c_20 ((nI_leI (a := 0) (b := j_13) (by omega) (by omega)).mpr q_)
                    exact (by omega : False).elim
            · skip
              refine lv_iconst (v := 0) hx hb dX8_doors_128 (by decide) ?_
              refine lv_istore_n (lv' := [(2, .int 0), (1, .int (nI b)), (0, .ref mo)]) hx hb dX8_doors_129 rfl hl (by decide) rfl (fun ls hl => ?_)
              refine pt_loop n1 (fun kk ls => lv_has ls 3 [(2, .int (nI kk)), (0, .ref mo), (1, .int (nI b))]) (fun ls hI => ?_) (fun kk ls hk hI ih => ?_) (lv_sub hl [0, 2, 1] rfl)
              · have hl := hI
                have hl : lv_has ls 3 [(2, .int (nI n1)), (0, .ref mo), (1, .int (nI b))] := hl
                refine lv_iload_n hx hb dX8_doors_130 rfl (lv_at hl 0 rfl) ?_
                refine lv_aload_n hx hb dX8_doors_131 rfl (lv_at hl 1 rfl) ?_
                refine va_get (D := (dC, dI)) (ci := 6) (v := .int (nI n1)) (C := RX8) (T := TX8) (N := 32) hx hb hts iX8 hown hK hP 0 rfl rfl 15 (by decide) (hts (.fieldLink RX8 93 "ParkTowerModel" "orders" "I") (by decide +kernel)) (fun _ h9 => h9) rfl dX8_doors_132 ?_
                refine lv_icmp_ge (tgt := 154) hx hb dX8_doors_135 (by decide) (fun c_21 => ?_) (fun c_21 => ?_)
                · have c_21 : n1 ≤ n1 := (nI_leI (a := n1) (b := n1) (by omega) (by omega)).mp c_21
                  exact K n1 ls ⟨by omega, lv_sub hl [0, 1, 2] rfl⟩
                · have c_21 : ¬ (n1 ≤ n1) := fun q_ => c_21 ((nI_leI (a := n1) (b := n1) (by omega) (by omega)).mpr q_)
                  exact (by omega : False).elim
              · have hl := hI
                have hl : lv_has ls 3 [(2, .int (nI kk)), (0, .ref mo), (1, .int (nI b))] := hl
                refine lv_iload_n hx hb dX8_doors_130 rfl (lv_at hl 0 rfl) ?_
                refine lv_aload_n hx hb dX8_doors_131 rfl (lv_at hl 1 rfl) ?_
                refine va_get (D := (dC, dI)) (ci := 6) (v := .int (nI n1)) (C := RX8) (T := TX8) (N := 32) hx hb hts iX8 hown hK hP 0 rfl rfl 15 (by decide) (hts (.fieldLink RX8 93 "ParkTowerModel" "orders" "I") (by decide +kernel)) (fun _ h9 => h9) rfl dX8_doors_132 ?_
                refine lv_icmp_ge (tgt := 154) hx hb dX8_doors_135 (by decide) (fun c_22 => ?_) (fun c_22 => ?_)
                · have c_22 : n1 ≤ kk := (nI_leI (a := n1) (b := kk) (by omega) (by omega)).mp c_22
                  exact K kk ls ⟨by omega, lv_sub hl [0, 1, 2] rfl⟩
                · have c_22 : ¬ (n1 ≤ kk) := fun q_ => c_22 ((nI_leI (a := n1) (b := kk) (by omega) (by omega)).mpr q_)
                  refine lv_aload_n hx hb dX8_doors_138 rfl (lv_at hl 1 rfl) ?_
                  refine va_get (D := (dC, dI)) (ci := 6) (v := .ref m17) (C := RX8) (T := TX8) (N := 32) hx hb hts iX8 hown hK hP 0 rfl rfl 17 (by decide) (hts (.fieldLink RX8 45 "ParkTowerModel" "orderBay" "[I") (by decide +kernel)) (fun _ h9 => h9) rfl dX8_doors_139 ?_
                  refine lv_iload_n hx hb dX8_doors_142 rfl (lv_at hl 0 rfl) ?_
                  refine va_iald hx hb hK hP 7 6 rfl rfl (vp_in_nI (n := kk) (by omega) (by decide)) dX8_doors_143 ?_
                  refine lv_topi (fun a_23 ea_23 => ?_)
                  rw [nI_clamp (n := kk) (by omega)] at ea_23
                  refine lv_iload_n hx hb dX8_doors_144 rfl (lv_at hl 2 rfl) ?_
                  refine lv_icmp_eq (tgt := 154) hx hb dX8_doors_145 (by decide) (fun c_24 => ?_) (fun c_24 => ?_)
                  · have c_24 : (a_23 = (nI b)) := c_24
                    exact K kk ls ⟨by omega, lv_sub hl [0, 1, 2] rfl⟩
                  · have c_24 : ¬ (a_23 = (nI b)) := c_24
                    refine lv_iinc (v := nI (kk + 1)) (lv' := [(2, .int (nI (kk + 1))), (0, .ref mo), (1, .int (nI b))]) hx hb dX8_doors_148 hl (k := 0) rfl (nI_add kk 1) (by decide) rfl (fun ls hl => ?_)
                    refine lv_goto (tgt := 130) hx hb dX8_doors_151 (by decide) ?_
                    exact ih ls (lv_sub hl [0, 1, 2] rfl)
          · have c_11 : (z_10 = 0) := c_11
            refine lv_aload_n hx hb dX8_doors_53 rfl (lv_at hl 1 rfl) ?_
            refine va_get (D := (dC, dI)) (ci := 6) (v := .ref m8) (C := RX8) (T := TX8) (N := 32) hx hb hts iX8 hown hK hP 0 rfl rfl 8 (by decide) (hts (.fieldLink RX8 22 "ParkTowerModel" "door" "[I") (by decide +kernel)) (fun _ h9 => h9) rfl dX8_doors_54 ?_
            refine lv_iload_n hx hb dX8_doors_57 rfl (lv_at hl 0 rfl) ?_
            refine lv_aload_n hx hb dX8_doors_58 rfl (lv_at hl 1 rfl) ?_
            refine va_get (D := (dC, dI)) (ci := 6) (v := .ref m8) (C := RX8) (T := TX8) (N := 32) hx hb hts iX8 hown hK hP 0 rfl rfl 8 (by decide) (hts (.fieldLink RX8 22 "ParkTowerModel" "door" "[I") (by decide +kernel)) (fun _ h9 => h9) rfl dX8_doors_59 ?_
            refine lv_iload_n hx hb dX8_doors_62 rfl (lv_at hl 0 rfl) ?_
            refine va_iald hx hb hK hP 2 1 rfl rfl (vp_in_nI (n := b) (by omega) (by decide)) dX8_doors_63 ?_
            refine pt_topi a_7 (by rw [nI_clamp (n := b) (by omega)]; exact ea_7.symm) ?_
            refine lv_iconst (v := 1) hx hb dX8_doors_64 (by decide) ?_
            refine lv_icmp_ne (tgt := 72) hx hb dX8_doors_65 (by decide) (fun c => absurd (by assumption) c) (fun _ => ?_)
            refine lv_iconst (v := 2) hx hb dX8_doors_68 (by decide) ?_
            refine lv_goto (tgt := 73) hx hb dX8_doors_69 (by decide) ?_
            refine va_iast hx hb hK hP hD hS 2 1 rfl rfl (vp_in_nI (n := b) (by omega) (by decide)) dX8_doors_73 (fun H locs hP hD hS => ?_)
            rw [nI_clamp (n := b) (by omega)] at hP hD
            have hP : va_P (dC, dI) vwCl [(mo, .inr (6, [.int th, .int tm, .int (nI sr), .int (nI nc), .ref m4, .ref m5, .ref m6, .ref m7, .ref m8, .ref m9, .ref m10, .ref m11, .ref m12, .int pw, .int rn, .int (nI n1), .ref m16, .ref m17, .ref m18, .int (nI bz), .int (nI dg), .int (nI db), .int (nI df), .int (nI sp), .int tg, .int lf, .int mm, .ref m27, .int fo, .ref m29, .ref m30, .ref m31])), (m5, .inl (y5, 700, .inl f5)), (m8, .inl (y8, 2, .inl (upd h8 b 2))), (m9, .inl (y9, 2, .inl (upd h9 b z_10))), (m10, .inl (y10, 2, .inl f10)), (m11, .inl (y11, 2, .inl f11)), (m16, .inl (y16, 24, .inl h16)), (m17, .inl (y17, 24, .inl h17)), (m18, .inl (y18, 24, .inl h18))] H := hP
            have hD : va_D A [(mo, .inr (6, [.int th, .int tm, .int (nI sr), .int (nI nc), .ref m4, .ref m5, .ref m6, .ref m7, .ref m8, .ref m9, .ref m10, .ref m11, .ref m12, .int pw, .int rn, .int (nI n1), .ref m16, .ref m17, .ref m18, .int (nI bz), .int (nI dg), .int (nI db), .int (nI df), .int (nI sp), .int tg, .int lf, .int mm, .ref m27, .int fo, .ref m29, .ref m30, .ref m31])), (m5, .inl (y5, 700, .inl f5)), (m8, .inl (y8, 2, .inl (upd h8 b 2))), (m9, .inl (y9, 2, .inl (upd h9 b z_10))), (m10, .inl (y10, 2, .inl f10)), (m11, .inl (y11, 2, .inl f11)), (m16, .inl (y16, 24, .inl h16)), (m17, .inl (y17, 24, .inl h17)), (m18, .inl (y18, 24, .inl h18))] := hD
            refine lv_aload_n hx hb dX8_doors_74 rfl (lv_at hl 1 rfl) ?_
            refine va_get (D := (dC, dI)) (ci := 6) (v := .ref m9) (C := RX8) (T := TX8) (N := 32) hx hb hts iX8 hown hK hP 0 rfl rfl 9 (by decide) (hts (.fieldLink RX8 25 "ParkTowerModel" "left" "[I") (by decide +kernel)) (fun _ h9 => h9) rfl dX8_doors_75 ?_
            refine lv_iload_n hx hb dX8_doors_78 rfl (lv_at hl 0 rfl) ?_
            refine va_iald hx hb hK hP 3 2 rfl rfl (vp_in_nI (n := b) (by omega) (by decide)) dX8_doors_79 ?_
            refine pt_topi z_10 (by rw [nI_clamp (n := b) (by omega)]; exact pk_us) ?_
            refine lv_if_ne (tgt := 128) hx hb dX8_doors_80 (by decide) (fun c => absurd (by assumption) c) (fun _ => ?_)
            refine lv_aload_n hx hb dX8_doors_83 rfl (lv_at hl 1 rfl) ?_
            refine va_get (D := (dC, dI)) (ci := 6) (v := .ref m8) (C := RX8) (T := TX8) (N := 32) hx hb hts iX8 hown hK hP 0 rfl rfl 8 (by decide) (hts (.fieldLink RX8 22 "ParkTowerModel" "door" "[I") (by decide +kernel)) (fun _ h9 => h9) rfl dX8_doors_84 ?_
            refine lv_iload_n hx hb dX8_doors_87 rfl (lv_at hl 0 rfl) ?_
            refine va_iald hx hb hK hP 2 1 rfl rfl (vp_in_nI (n := b) (by omega) (by decide)) dX8_doors_88 ?_
            refine pt_topi 2 (by rw [nI_clamp (n := b) (by omega)]; exact pk_us) ?_
            refine lv_if_ne (tgt := 128) hx hb dX8_doors_89 (by decide) (fun _ => ?_) (fun c => absurd c (by decide))
            have hM2 : MI nc n1 bz dg df sp mm f5 f6 f7 (upd h8 b 2) f11 h16 h17 f27 := MI.door1 hM (fun q9 => absurd ((ea_7.trans q9).symm.trans (by assumption)) (by decide))
            have hnn : n1 ≤ 24 := (hM2).n24
            refine pt_cutX (α := Nat) 154 [] (fun fi ls => fi ≤ n1 ∧ lv_has ls 3 [(2, .int (nI fi)), (0, .ref mo), (1, .int (nI b))]) (fun fi ls hI => ?_) (fun K => ?_)
            · obtain ⟨hfi, hl⟩ := hI
              have hl : lv_has ls 3 [(2, .int (nI fi)), (0, .ref mo), (1, .int (nI b))] := hl
              refine lv_aload_n hx hb dX8_doors_154 rfl (lv_at hl 1 rfl) ?_
              refine va_get (D := (dC, dI)) (ci := 6) (v := .int pw) (C := RX8) (T := TX8) (N := 32) hx hb hts iX8 hown hK hP 0 rfl rfl 13 (by decide) (hts (.fieldLink RX8 38 "ParkTowerModel" "power" "Z") (by decide +kernel)) (fun _ h9 => h9) rfl dX8_doors_155 ?_
              refine lv_if_eq (tgt := 212) hx hb dX8_doors_158 (by decide) (fun c => absurd c (by assumption)) (fun _ => ?_)
              refine lv_aload_n hx hb dX8_doors_161 rfl (lv_at hl 1 rfl) ?_
              refine va_get (D := (dC, dI)) (ci := 6) (v := .ref m8) (C := RX8) (T := TX8) (N := 32) hx hb hts iX8 hown hK hP 0 rfl rfl 8 (by decide) (hts (.fieldLink RX8 22 "ParkTowerModel" "door" "[I") (by decide +kernel)) (fun _ h9 => h9) rfl dX8_doors_162 ?_
              refine lv_iload_n hx hb dX8_doors_165 rfl (lv_at hl 2 rfl) ?_
              refine va_iald hx hb hK hP 2 1 rfl rfl (vp_in_nI (n := b) (by omega) (by decide)) dX8_doors_166 ?_
              refine pt_topi 2 (by rw [nI_clamp (n := b) (by omega)]; exact pk_us) ?_
              refine lv_iconst (v := 2) hx hb dX8_doors_167 (by decide) ?_
              refine lv_icmp_ne (tgt := 212) hx hb dX8_doors_168 (by decide) (fun c => absurd (by decide) c) (fun _ => ?_)
              refine lv_aload_n hx hb dX8_doors_171 rfl (lv_at hl 1 rfl) ?_
              refine va_get (D := (dC, dI)) (ci := 6) (v := .ref m11) (C := RX8) (T := TX8) (N := 32) hx hb hts iX8 hown hK hP 0 rfl rfl 11 (by decide) (hts (.fieldLink RX8 32 "ParkTowerModel" "bay" "[I") (by decide +kernel)) (fun _ h9 => h9) rfl dX8_doors_172 ?_
              refine lv_iload_n hx hb dX8_doors_175 rfl (lv_at hl 2 rfl) ?_
              refine va_iald hx hb hK hP 5 4 rfl rfl (vp_in_nI (n := b) (by omega) (by decide)) dX8_doors_176 ?_
              refine lv_topi (fun a_25 ea_25 => ?_)
              rw [nI_clamp (n := b) (by omega)] at ea_25
              rcases (show mB nc a_25 by rw [ea_25]; exact hM.hy _) with rfl | ⟨j_25, hj_25, rfl⟩
              · skip
                refine lv_if_ge (tgt := 212) hx hb dX8_doors_177 (by decide) (fun c => absurd c (by decide)) (fun _ => ?_)
                refine lv_aload_n hx hb dX8_doors_180 rfl (lv_at hl 1 rfl) ?_
                refine va_get (D := (dC, dI)) (ci := 6) (v := .ref m10) (C := RX8) (T := TX8) (N := 32) hx hb hts iX8 hown hK hP 0 rfl rfl 10 (by decide) (hts (.fieldLink RX8 28 "ParkTowerModel" "person" "[Z") (by decide +kernel)) (fun _ h9 => h9) rfl dX8_doors_181 ?_
                refine lv_iload_n hx hb dX8_doors_184 rfl (lv_at hl 2 rfl) ?_
                refine va_zald hx hb hK hP 4 3 rfl rfl (vp_in_nI (n := b) (by omega) (by decide)) dX8_doors_185 ?_
                refine lv_topi (fun a_26 ea_26 => ?_)
                rw [nI_clamp (n := b) (by omega)] at ea_26
                refine lv_if_ne (tgt := 212) hx hb dX8_doors_186 (by decide) (fun c_27 => ?_) (fun c_27 => ?_)
                · have c_27 : ¬ (a_26 = 0) := c_27
                  refine lv_iinc (v := nI (b + 1)) (lv' := [(1, .int (nI (b + 1))), (2, .int (nI fi)), (0, .ref mo)]) hx hb dX8_doors_212 hl (k := 2) rfl (nI_add b 1) (by decide) rfl (fun ls hl => ?_)
                  refine lv_goto (tgt := 2) hx hb dX8_doors_215 (by decide) ?_
                  exact ih_2 H locs ls ⟨n1, upd h8 b 2, upd h9 b z_10, h16, h17, h18, lv_sub hl [0, 2] rfl, hM2, hfe, hP.sub [0, 1, 2, 3, 4, 5, 6, 7, 8] rfl, hD.sub [0, 1, 2, 3, 4, 5, 6, 7, 8] (by decide) rfl, hS⟩
                · have c_27 : (a_26 = 0) := c_27
                  refine lv_iload_n hx hb dX8_doors_189 rfl (lv_at hl 0 rfl) ?_
                  refine lv_aload_n hx hb dX8_doors_190 rfl (lv_at hl 1 rfl) ?_
                  refine va_get (D := (dC, dI)) (ci := 6) (v := .int (nI n1)) (C := RX8) (T := TX8) (N := 32) hx hb hts iX8 hown hK hP 0 rfl rfl 15 (by decide) (hts (.fieldLink RX8 93 "ParkTowerModel" "orders" "I") (by decide +kernel)) (fun _ h9 => h9) rfl dX8_doors_191 ?_
                  refine lv_icmp_ge (tgt := 212) hx hb dX8_doors_194 (by decide) (fun c_28 => ?_) (fun c_28 => ?_)
                  · have c_28 : n1 ≤ fi := (nI_leI (a := n1) (b := fi) (by omega) (by omega)).mp c_28
                    refine lv_iinc (v := nI (b + 1)) (lv' := [(1, .int (nI (b + 1))), (2, .int (nI fi)), (0, .ref mo)]) hx hb dX8_doors_212 hl (k := 2) rfl (nI_add b 1) (by decide) rfl (fun ls hl => ?_)
                    refine lv_goto (tgt := 2) hx hb dX8_doors_215 (by decide) ?_
                    exact ih_2 H locs ls ⟨n1, upd h8 b 2, upd h9 b z_10, h16, h17, h18, lv_sub hl [0, 2] rfl, hM2, hfe, hP.sub [0, 1, 2, 3, 4, 5, 6, 7, 8] rfl, hD.sub [0, 1, 2, 3, 4, 5, 6, 7, 8] (by decide) rfl, hS⟩
                  · have c_28 : ¬ (n1 ≤ fi) := fun q_ => c_28 ((nI_leI (a := n1) (b := fi) (by omega) (by omega)).mpr q_)
                    refine lv_aload_n hx hb dX8_doors_197 rfl (lv_at hl 1 rfl) ?_
                    refine va_get (D := (dC, dI)) (ci := 6) (v := .ref m18) (C := RX8) (T := TX8) (N := 32) hx hb hts iX8 hown hK hP 0 rfl rfl 18 (by decide) (hts (.fieldLink RX8 48 "ParkTowerModel" "fetches" "[Z") (by decide +kernel)) (fun _ h9 => h9) rfl dX8_doors_198 ?_
                    refine lv_iload_n hx hb dX8_doors_201 rfl (lv_at hl 0 rfl) ?_
                    refine va_zald hx hb hK hP 8 7 rfl rfl (vp_in_nI (n := fi) (by omega) (by decide)) dX8_doors_202 ?_
                    refine lv_topi (fun a_29 ea_29 => ?_)
                    rw [nI_clamp (n := fi) (by omega)] at ea_29
                    refine lv_if_eq (tgt := 212) hx hb dX8_doors_203 (by decide) (fun c_30 => ?_) (fun c_30 => ?_)
                    · have c_30 : (a_29 = 0) := c_30
                      refine lv_iinc (v := nI (b + 1)) (lv' := [(1, .int (nI (b + 1))), (2, .int (nI fi)), (0, .ref mo)]) hx hb dX8_doors_212 hl (k := 2) rfl (nI_add b 1) (by decide) rfl (fun ls hl => ?_)
                      refine lv_goto (tgt := 2) hx hb dX8_doors_215 (by decide) ?_
                      exact ih_2 H locs ls ⟨n1, upd h8 b 2, upd h9 b z_10, h16, h17, h18, lv_sub hl [0, 2] rfl, hM2, hfe, hP.sub [0, 1, 2, 3, 4, 5, 6, 7, 8] rfl, hD.sub [0, 1, 2, 3, 4, 5, 6, 7, 8] (by decide) rfl, hS⟩
                    · have c_30 : ¬ (a_29 = 0) := c_30
                      refine lv_aload_n hx hb dX8_doors_206 rfl (lv_at hl 1 rfl) ?_
                      refine lv_iload_n hx hb dX8_doors_207 rfl (lv_at hl 2 rfl) ?_
                      refine lv_iconst (v := 3) hx hb dX8_doors_208 (by decide) ?_
                      have hPc := hP.sub (ws' := [(mo, .inr (6, [.int th, .int tm, .int (nI sr), .int (nI nc), .ref m4, .ref m5, .ref m6, .ref m7, .ref m8, .ref m9, .ref m10, .ref m11, .ref m12, .int pw, .int rn, .int (nI n1), .ref m16, .ref m17, .ref m18, .int (nI bz), .int (nI dg), .int (nI db), .int (nI df), .int (nI sp), .int tg, .int lf, .int mm, .ref m27, .int fo, .ref m29, .ref m30, .ref m31])), (m8, .inl (y8, 2, .inl (upd h8 b 2))), (m9, .inl (y9, 2, .inl (upd h9 b z_10)))]) [0, 2, 3] rfl
                      have hDc := hD.sub (ws' := [(mo, .inr (6, [.int th, .int tm, .int (nI sr), .int (nI nc), .ref m4, .ref m5, .ref m6, .ref m7, .ref m8, .ref m9, .ref m10, .ref m11, .ref m12, .int pw, .int rn, .int (nI n1), .ref m16, .ref m17, .ref m18, .int (nI bz), .int (nI dg), .int (nI db), .int (nI df), .int (nI sp), .int tg, .int lf, .int mm, .ref m27, .int fo, .ref m29, .ref m30, .ref m31])), (m8, .inl (y8, 2, .inl (upd h8 b 2))), (m9, .inl (y9, 2, .inl (upd h9 b z_10)))]) [0, 2, 3] (by decide) rfl
                      have hKc := hK.sub (tys' := [(y8, .int), (y9, .int)]) [1, 2] rfl
                      have hFc := va_free (wc := [(mo, .inr (6, [.int th, .int tm, .int (nI sr), .int (nI nc), .ref m4, .ref m5, .ref m6, .ref m7, .ref m8, .ref m9, .ref m10, .ref m11, .ref m12, .int pw, .int rn, .int (nI n1), .ref m16, .ref m17, .ref m18, .int (nI bz), .int (nI dg), .int (nI db), .int (nI df), .int (nI sp), .int tg, .int lf, .int mm, .ref m27, .int fo, .ref m29, .ref m30, .ref m31])), (m8, .inl (y8, 2, .inl (upd h8 b 2))), (m9, .inl (y9, 2, .inl (upd h9 b z_10)))]) hD hS hA [0, 2, 3] rfl
                      refine va_callv (va_runV (As := [.int (nI b), .int 3]) (rest := []) ⟨hx, hb, hml, hown, hts⟩ (m_moves l dC dI _ mo m4 m5 m6 m7 m8 m9 m10 m11 m12 m16 m17 m18 m27 m29 m30 m31 th tm pw rn tg lf mm fo sr nc n1 bz dg db df sp y8 y9 (upd h8 b 2) (upd h9 b z_10) b 3 (by omega)) (cwV 2 hts gX8_doors_X8_moves rfl rfl rfl (by decide +kernel) ⟨Nat.le_of_ble_eq_true rfl, Nat.le_of_ble_eq_true rfl⟩) ⟨pt_blindQ, va_recv hK hP (ci := 6) (q0 := 0) rfl rfl, pt_preQ hPc hKc hDc hN⟩ rfl rfl hl.1 rfl (lv_room (Nat.le_of_ble_eq_true rfl)) dX8_doors_209 ⟨Nat.le_of_ble_eq_true rfl, Nat.le_of_ble_eq_true rfl⟩) hS (fun q _ h => hFc q h) hFc (fun u_31 t H1 locs ht hvm hw_31 hB hz1 hk1 hS => ?_)
                      obtain ⟨v_31, n_31, F_31⟩ := u_31
                      obtain ⟨hP1, hK1, hD1⟩ := hB
                      try dsimp only at hw_31
                      rw [ht] at hP1
                      have hK1 := va_K.moved hvm.symm hK1
                      obtain ⟨hP, hD⟩ := va_join (wr := [(m5, .inl (y5, 700, .inl f5)), (m10, .inl (y10, 2, .inl f10)), (m11, .inl (y11, 2, .inl f11)), (m16, .inl (y16, 24, .inl h16)), (m17, .inl (y17, 24, .inl h17)), (m18, .inl (y18, 24, .inl h18))]) (w1 := [(mo, .inr (6, [.int th, .int tm, .int (nI sr), .int (nI nc), .ref m4, .ref m5, .ref m6, .ref m7, .ref m8, .ref m9, .ref m10, .ref m11, .ref m12, .int pw, .int rn, .int (nI n1), .ref m16, .ref m17, .ref m18, .int (nI bz), .int (nI dg), .int (nI db), .int (nI df), .int (nI sp), .int tg, .int lf, .int mm, .ref m27, .int fo, .ref m29, .ref m30, .ref m31])), (m8, .inl (y8, 2, .inl (upd (upd h8 b 2) b 3))), (m9, .inl (y9, 2, .inl (upd (upd h9 b z_10) b 4)))]) hP hD [0, 2, 3] [1, 4, 5, 6, 7, 8] rfl rfl (by decide) (by decide) hk1 hFc hP1 hD1
                      have hK := hK.app hK1
                      generalize H1 = H at hP hS ⊢
                      have hP : va_P (dC, dI) vwCl [(m5, .inl (y5, 700, .inl f5)), (m10, .inl (y10, 2, .inl f10)), (m11, .inl (y11, 2, .inl f11)), (m16, .inl (y16, 24, .inl h16)), (m17, .inl (y17, 24, .inl h17)), (m18, .inl (y18, 24, .inl h18)), (mo, .inr (6, [.int th, .int tm, .int (nI sr), .int (nI nc), .ref m4, .ref m5, .ref m6, .ref m7, .ref m8, .ref m9, .ref m10, .ref m11, .ref m12, .int pw, .int rn, .int (nI n1), .ref m16, .ref m17, .ref m18, .int (nI bz), .int (nI dg), .int (nI db), .int (nI df), .int (nI sp), .int tg, .int lf, .int mm, .ref m27, .int fo, .ref m29, .ref m30, .ref m31])), (m8, .inl (y8, 2, .inl (upd (upd h8 b 2) b 3))), (m9, .inl (y9, 2, .inl (upd (upd h9 b z_10) b 4)))] H := hP
                      have hD : va_D A [(m5, .inl (y5, 700, .inl f5)), (m10, .inl (y10, 2, .inl f10)), (m11, .inl (y11, 2, .inl f11)), (m16, .inl (y16, 24, .inl h16)), (m17, .inl (y17, 24, .inl h17)), (m18, .inl (y18, 24, .inl h18)), (mo, .inr (6, [.int th, .int tm, .int (nI sr), .int (nI nc), .ref m4, .ref m5, .ref m6, .ref m7, .ref m8, .ref m9, .ref m10, .ref m11, .ref m12, .int pw, .int rn, .int (nI n1), .ref m16, .ref m17, .ref m18, .int (nI bz), .int (nI dg), .int (nI db), .int (nI df), .int (nI sp), .int tg, .int lf, .int mm, .ref m27, .int fo, .ref m29, .ref m30, .ref m31])), (m8, .inl (y8, 2, .inl (upd (upd h8 b 2) b 3))), (m9, .inl (y9, 2, .inl (upd (upd h9 b z_10) b 4)))] := hD
                      have hK : va_K (dC, dI) vwCl [(y5, .int), (y8, .int), (y9, .int), (y10, .boolean), (y11, .int), (y16, .int), (y17, .int), (y18, .boolean)] s := hK
                      have hM3 : MI nc n1 bz dg df sp mm f5 f6 f7 (upd (upd h8 b 2) b 3) f11 h16 h17 f27 := MI.door1 hM2 (by rw [pk_us]; decide)
                      refine lv_iinc (v := nI (b + 1)) (lv' := [(1, .int (nI (b + 1))), (2, .int (nI fi)), (0, .ref mo)]) hx hb dX8_doors_212 hl (k := 2) rfl (nI_add b 1) (by decide) rfl (fun ls hl => ?_)
                      refine lv_goto (tgt := 2) hx hb dX8_doors_215 (by decide) ?_
                      exact ih_2 H locs ls ⟨n1, upd (upd h8 b 2) b 3, upd (upd h9 b z_10) b 4, h16, h17, h18, lv_sub hl [0, 2] rfl, hM3, hfe, hP.sub [6, 0, 7, 8, 1, 2, 3, 4, 5] rfl, hD.sub [6, 0, 7, 8, 1, 2, 3, 4, 5] (by decide) rfl, hS⟩
              · skip
                refine lv_if_ge (tgt := 212) hx hb dX8_doors_177 (by decide) (fun c_32 => ?_) (fun c_32 => ?_)
                · have c_32 : 0 ≤ j_25 := (nI_leI (a := 0) (b := j_25) (by omega) (by omega)).mp c_32
                  refine lv_iinc (v := nI (b + 1)) (lv' := [(1, .int (nI (b + 1))), (2, .int (nI fi)), (0, .ref mo)]) hx hb dX8_doors_212 hl (k := 2) rfl (nI_add b 1) (by decide) rfl (fun ls hl => ?_)
                  refine lv_goto (tgt := 2) hx hb dX8_doors_215 (by decide) ?_
                  exact ih_2 H locs ls ⟨n1, upd h8 b 2, upd h9 b z_10, h16, h17, h18, lv_sub hl [0, 2] rfl, hM2, hfe, hP.sub [0, 1, 2, 3, 4, 5, 6, 7, 8] rfl, hD.sub [0, 1, 2, 3, 4, 5, 6, 7, 8] (by decide) rfl, hS⟩
                · have c_32 : ¬ (0 ≤ j_25) := fun q_ => c_32 ((nI_leI (a := 0) (b := j_25) (by omega) (by omega)).mpr q_)
                  exact (by omega : False).elim
            · skip
              refine lv_iconst (v := 0) hx hb dX8_doors_128 (by decide) ?_
              refine lv_istore_n (lv' := [(2, .int 0), (1, .int (nI b)), (0, .ref mo)]) hx hb dX8_doors_129 rfl hl (by decide) rfl (fun ls hl => ?_)
              refine pt_loop n1 (fun kk ls => lv_has ls 3 [(2, .int (nI kk)), (0, .ref mo), (1, .int (nI b))]) (fun ls hI => ?_) (fun kk ls hk hI ih => ?_) (lv_sub hl [0, 2, 1] rfl)
              · have hl := hI
                have hl : lv_has ls 3 [(2, .int (nI n1)), (0, .ref mo), (1, .int (nI b))] := hl
                refine lv_iload_n hx hb dX8_doors_130 rfl (lv_at hl 0 rfl) ?_
                refine lv_aload_n hx hb dX8_doors_131 rfl (lv_at hl 1 rfl) ?_
                refine va_get (D := (dC, dI)) (ci := 6) (v := .int (nI n1)) (C := RX8) (T := TX8) (N := 32) hx hb hts iX8 hown hK hP 0 rfl rfl 15 (by decide) (hts (.fieldLink RX8 93 "ParkTowerModel" "orders" "I") (by decide +kernel)) (fun _ h9 => h9) rfl dX8_doors_132 ?_
                refine lv_icmp_ge (tgt := 154) hx hb dX8_doors_135 (by decide) (fun c_33 => ?_) (fun c_33 => ?_)
                · have c_33 : n1 ≤ n1 := (nI_leI (a := n1) (b := n1) (by omega) (by omega)).mp c_33
                  exact K n1 ls ⟨by omega, lv_sub hl [0, 1, 2] rfl⟩
                · have c_33 : ¬ (n1 ≤ n1) := fun q_ => c_33 ((nI_leI (a := n1) (b := n1) (by omega) (by omega)).mpr q_)
                  exact (by omega : False).elim
              · have hl := hI
                have hl : lv_has ls 3 [(2, .int (nI kk)), (0, .ref mo), (1, .int (nI b))] := hl
                refine lv_iload_n hx hb dX8_doors_130 rfl (lv_at hl 0 rfl) ?_
                refine lv_aload_n hx hb dX8_doors_131 rfl (lv_at hl 1 rfl) ?_
                refine va_get (D := (dC, dI)) (ci := 6) (v := .int (nI n1)) (C := RX8) (T := TX8) (N := 32) hx hb hts iX8 hown hK hP 0 rfl rfl 15 (by decide) (hts (.fieldLink RX8 93 "ParkTowerModel" "orders" "I") (by decide +kernel)) (fun _ h9 => h9) rfl dX8_doors_132 ?_
                refine lv_icmp_ge (tgt := 154) hx hb dX8_doors_135 (by decide) (fun c_34 => ?_) (fun c_34 => ?_)
                · have c_34 : n1 ≤ kk := (nI_leI (a := n1) (b := kk) (by omega) (by omega)).mp c_34
                  exact K kk ls ⟨by omega, lv_sub hl [0, 1, 2] rfl⟩
                · have c_34 : ¬ (n1 ≤ kk) := fun q_ => c_34 ((nI_leI (a := n1) (b := kk) (by omega) (by omega)).mpr q_)
                  refine lv_aload_n hx hb dX8_doors_138 rfl (lv_at hl 1 rfl) ?_
                  refine va_get (D := (dC, dI)) (ci := 6) (v := .ref m17) (C := RX8) (T := TX8) (N := 32) hx hb hts iX8 hown hK hP 0 rfl rfl 17 (by decide) (hts (.fieldLink RX8 45 "ParkTowerModel" "orderBay" "[I") (by decide +kernel)) (fun _ h9 => h9) rfl dX8_doors_139 ?_
                  refine lv_iload_n hx hb dX8_doors_142 rfl (lv_at hl 0 rfl) ?_
                  refine va_iald hx hb hK hP 7 6 rfl rfl (vp_in_nI (n := kk) (by omega) (by decide)) dX8_doors_143 ?_
                  refine lv_topi (fun a_35 ea_35 => ?_)
                  rw [nI_clamp (n := kk) (by omega)] at ea_35
                  refine lv_iload_n hx hb dX8_doors_144 rfl (lv_at hl 2 rfl) ?_
                  refine lv_icmp_eq (tgt := 154) hx hb dX8_doors_145 (by decide) (fun c_36 => ?_) (fun c_36 => ?_)
                  · have c_36 : (a_35 = (nI b)) := c_36
                    exact K kk ls ⟨by omega, lv_sub hl [0, 1, 2] rfl⟩
                  · have c_36 : ¬ (a_35 = (nI b)) := c_36
                    refine lv_iinc (v := nI (kk + 1)) (lv' := [(2, .int (nI (kk + 1))), (0, .ref mo), (1, .int (nI b))]) hx hb dX8_doors_148 hl (k := 0) rfl (nI_add kk 1) (by decide) rfl (fun ls hl => ?_)
                    refine lv_goto (tgt := 130) hx hb dX8_doors_151 (by decide) ?_
                    exact ih ls (lv_sub hl [0, 1, 2] rfl)
        · have c_8 : ¬ (a_7 = 1) := c_8
          refine lv_aload_n hx hb dX8_doors_24 rfl (lv_at hl 1 rfl) ?_
          refine va_get (D := (dC, dI)) (ci := 6) (v := .ref m8) (C := RX8) (T := TX8) (N := 32) hx hb hts iX8 hown hK hP 0 rfl rfl 8 (by decide) (hts (.fieldLink RX8 22 "ParkTowerModel" "door" "[I") (by decide +kernel)) (fun _ h9 => h9) rfl dX8_doors_25 ?_
          refine lv_iload_n hx hb dX8_doors_28 rfl (lv_at hl 0 rfl) ?_
          refine va_iald hx hb hK hP 2 1 rfl rfl (vp_in_nI (n := b) (by omega) (by decide)) dX8_doors_29 ?_
          refine pt_topi a_7 (by rw [nI_clamp (n := b) (by omega)]; exact ea_7.symm) ?_
          refine lv_iconst (v := 3) hx hb dX8_doors_30 (by decide) ?_
          refine lv_icmp_ne (tgt := 128) hx hb dX8_doors_31 (by decide) (fun c_37 => ?_) (fun c_37 => ?_)
          · have c_37 : ¬ (a_7 = 3) := c_37
            have hnn : n1 ≤ 24 := (hM).n24
            refine pt_cutX (α := Nat) 154 [] (fun fi ls => fi ≤ n1 ∧ lv_has ls 3 [(2, .int (nI fi)), (0, .ref mo), (1, .int (nI b))]) (fun fi ls hI => ?_) (fun K => ?_)
            · obtain ⟨hfi, hl⟩ := hI
              have hl : lv_has ls 3 [(2, .int (nI fi)), (0, .ref mo), (1, .int (nI b))] := hl
              refine lv_aload_n hx hb dX8_doors_154 rfl (lv_at hl 1 rfl) ?_
              refine va_get (D := (dC, dI)) (ci := 6) (v := .int pw) (C := RX8) (T := TX8) (N := 32) hx hb hts iX8 hown hK hP 0 rfl rfl 13 (by decide) (hts (.fieldLink RX8 38 "ParkTowerModel" "power" "Z") (by decide +kernel)) (fun _ h9 => h9) rfl dX8_doors_155 ?_
              refine lv_if_eq (tgt := 212) hx hb dX8_doors_158 (by decide) (fun c => absurd c (by assumption)) (fun _ => ?_)
              refine lv_aload_n hx hb dX8_doors_161 rfl (lv_at hl 1 rfl) ?_
              refine va_get (D := (dC, dI)) (ci := 6) (v := .ref m8) (C := RX8) (T := TX8) (N := 32) hx hb hts iX8 hown hK hP 0 rfl rfl 8 (by decide) (hts (.fieldLink RX8 22 "ParkTowerModel" "door" "[I") (by decide +kernel)) (fun _ h9 => h9) rfl dX8_doors_162 ?_
              refine lv_iload_n hx hb dX8_doors_165 rfl (lv_at hl 2 rfl) ?_
              refine va_iald hx hb hK hP 2 1 rfl rfl (vp_in_nI (n := b) (by omega) (by decide)) dX8_doors_166 ?_
              refine pt_topi a_7 (by rw [nI_clamp (n := b) (by omega)]; exact ea_7.symm) ?_
              refine lv_iconst (v := 2) hx hb dX8_doors_167 (by decide) ?_
              refine lv_icmp_ne (tgt := 212) hx hb dX8_doors_168 (by decide) (fun c_38 => ?_) (fun c_38 => ?_)
              · have c_38 : ¬ (a_7 = 2) := c_38
                refine lv_iinc (v := nI (b + 1)) (lv' := [(1, .int (nI (b + 1))), (2, .int (nI fi)), (0, .ref mo)]) hx hb dX8_doors_212 hl (k := 2) rfl (nI_add b 1) (by decide) rfl (fun ls hl => ?_)
                refine lv_goto (tgt := 2) hx hb dX8_doors_215 (by decide) ?_
                exact ih_2 H locs ls ⟨n1, h8, h9, h16, h17, h18, lv_sub hl [0, 2] rfl, hM, hfe, hP.sub [0, 1, 2, 3, 4, 5, 6, 7, 8] rfl, hD.sub [0, 1, 2, 3, 4, 5, 6, 7, 8] (by decide) rfl, hS⟩
              · have c_38 : (a_7 = 2) := c_38
                refine lv_aload_n hx hb dX8_doors_171 rfl (lv_at hl 1 rfl) ?_
                refine va_get (D := (dC, dI)) (ci := 6) (v := .ref m11) (C := RX8) (T := TX8) (N := 32) hx hb hts iX8 hown hK hP 0 rfl rfl 11 (by decide) (hts (.fieldLink RX8 32 "ParkTowerModel" "bay" "[I") (by decide +kernel)) (fun _ h9 => h9) rfl dX8_doors_172 ?_
                refine lv_iload_n hx hb dX8_doors_175 rfl (lv_at hl 2 rfl) ?_
                refine va_iald hx hb hK hP 5 4 rfl rfl (vp_in_nI (n := b) (by omega) (by decide)) dX8_doors_176 ?_
                refine lv_topi (fun a_39 ea_39 => ?_)
                rw [nI_clamp (n := b) (by omega)] at ea_39
                rcases (show mB nc a_39 by rw [ea_39]; exact hM.hy _) with rfl | ⟨j_39, hj_39, rfl⟩
                · skip
                  refine lv_if_ge (tgt := 212) hx hb dX8_doors_177 (by decide) (fun c => absurd c (by decide)) (fun _ => ?_)
                  refine lv_aload_n hx hb dX8_doors_180 rfl (lv_at hl 1 rfl) ?_
                  refine va_get (D := (dC, dI)) (ci := 6) (v := .ref m10) (C := RX8) (T := TX8) (N := 32) hx hb hts iX8 hown hK hP 0 rfl rfl 10 (by decide) (hts (.fieldLink RX8 28 "ParkTowerModel" "person" "[Z") (by decide +kernel)) (fun _ h9 => h9) rfl dX8_doors_181 ?_
                  refine lv_iload_n hx hb dX8_doors_184 rfl (lv_at hl 2 rfl) ?_
                  refine va_zald hx hb hK hP 4 3 rfl rfl (vp_in_nI (n := b) (by omega) (by decide)) dX8_doors_185 ?_
                  refine lv_topi (fun a_40 ea_40 => ?_)
                  rw [nI_clamp (n := b) (by omega)] at ea_40
                  refine lv_if_ne (tgt := 212) hx hb dX8_doors_186 (by decide) (fun c_41 => ?_) (fun c_41 => ?_)
                  · have c_41 : ¬ (a_40 = 0) := c_41
                    refine lv_iinc (v := nI (b + 1)) (lv' := [(1, .int (nI (b + 1))), (2, .int (nI fi)), (0, .ref mo)]) hx hb dX8_doors_212 hl (k := 2) rfl (nI_add b 1) (by decide) rfl (fun ls hl => ?_)
                    refine lv_goto (tgt := 2) hx hb dX8_doors_215 (by decide) ?_
                    exact ih_2 H locs ls ⟨n1, h8, h9, h16, h17, h18, lv_sub hl [0, 2] rfl, hM, hfe, hP.sub [0, 1, 2, 3, 4, 5, 6, 7, 8] rfl, hD.sub [0, 1, 2, 3, 4, 5, 6, 7, 8] (by decide) rfl, hS⟩
                  · have c_41 : (a_40 = 0) := c_41
                    refine lv_iload_n hx hb dX8_doors_189 rfl (lv_at hl 0 rfl) ?_
                    refine lv_aload_n hx hb dX8_doors_190 rfl (lv_at hl 1 rfl) ?_
                    refine va_get (D := (dC, dI)) (ci := 6) (v := .int (nI n1)) (C := RX8) (T := TX8) (N := 32) hx hb hts iX8 hown hK hP 0 rfl rfl 15 (by decide) (hts (.fieldLink RX8 93 "ParkTowerModel" "orders" "I") (by decide +kernel)) (fun _ h9 => h9) rfl dX8_doors_191 ?_
                    refine lv_icmp_ge (tgt := 212) hx hb dX8_doors_194 (by decide) (fun c_42 => ?_) (fun c_42 => ?_)
                    · have c_42 : n1 ≤ fi := (nI_leI (a := n1) (b := fi) (by omega) (by omega)).mp c_42
                      refine lv_iinc (v := nI (b + 1)) (lv' := [(1, .int (nI (b + 1))), (2, .int (nI fi)), (0, .ref mo)]) hx hb dX8_doors_212 hl (k := 2) rfl (nI_add b 1) (by decide) rfl (fun ls hl => ?_)
                      refine lv_goto (tgt := 2) hx hb dX8_doors_215 (by decide) ?_
                      exact ih_2 H locs ls ⟨n1, h8, h9, h16, h17, h18, lv_sub hl [0, 2] rfl, hM, hfe, hP.sub [0, 1, 2, 3, 4, 5, 6, 7, 8] rfl, hD.sub [0, 1, 2, 3, 4, 5, 6, 7, 8] (by decide) rfl, hS⟩
                    · have c_42 : ¬ (n1 ≤ fi) := fun q_ => c_42 ((nI_leI (a := n1) (b := fi) (by omega) (by omega)).mpr q_)
                      refine lv_aload_n hx hb dX8_doors_197 rfl (lv_at hl 1 rfl) ?_
                      refine va_get (D := (dC, dI)) (ci := 6) (v := .ref m18) (C := RX8) (T := TX8) (N := 32) hx hb hts iX8 hown hK hP 0 rfl rfl 18 (by decide) (hts (.fieldLink RX8 48 "ParkTowerModel" "fetches" "[Z") (by decide +kernel)) (fun _ h9 => h9) rfl dX8_doors_198 ?_
                      refine lv_iload_n hx hb dX8_doors_201 rfl (lv_at hl 0 rfl) ?_
                      refine va_zald hx hb hK hP 8 7 rfl rfl (vp_in_nI (n := fi) (by omega) (by decide)) dX8_doors_202 ?_
                      refine lv_topi (fun a_43 ea_43 => ?_)
                      rw [nI_clamp (n := fi) (by omega)] at ea_43
                      refine lv_if_eq (tgt := 212) hx hb dX8_doors_203 (by decide) (fun c_44 => ?_) (fun c_44 => ?_)
                      · have c_44 : (a_43 = 0) := c_44
                        refine lv_iinc (v := nI (b + 1)) (lv' := [(1, .int (nI (b + 1))), (2, .int (nI fi)), (0, .ref mo)]) hx hb dX8_doors_212 hl (k := 2) rfl (nI_add b 1) (by decide) rfl (fun ls hl => ?_)
                        refine lv_goto (tgt := 2) hx hb dX8_doors_215 (by decide) ?_
                        exact ih_2 H locs ls ⟨n1, h8, h9, h16, h17, h18, lv_sub hl [0, 2] rfl, hM, hfe, hP.sub [0, 1, 2, 3, 4, 5, 6, 7, 8] rfl, hD.sub [0, 1, 2, 3, 4, 5, 6, 7, 8] (by decide) rfl, hS⟩
                      · have c_44 : ¬ (a_43 = 0) := c_44
                        refine lv_aload_n hx hb dX8_doors_206 rfl (lv_at hl 1 rfl) ?_
                        refine lv_iload_n hx hb dX8_doors_207 rfl (lv_at hl 2 rfl) ?_
                        refine lv_iconst (v := 3) hx hb dX8_doors_208 (by decide) ?_
                        have hPc := hP.sub (ws' := [(mo, .inr (6, [.int th, .int tm, .int (nI sr), .int (nI nc), .ref m4, .ref m5, .ref m6, .ref m7, .ref m8, .ref m9, .ref m10, .ref m11, .ref m12, .int pw, .int rn, .int (nI n1), .ref m16, .ref m17, .ref m18, .int (nI bz), .int (nI dg), .int (nI db), .int (nI df), .int (nI sp), .int tg, .int lf, .int mm, .ref m27, .int fo, .ref m29, .ref m30, .ref m31])), (m8, .inl (y8, 2, .inl h8)), (m9, .inl (y9, 2, .inl h9))]) [0, 2, 3] rfl
                        have hDc := hD.sub (ws' := [(mo, .inr (6, [.int th, .int tm, .int (nI sr), .int (nI nc), .ref m4, .ref m5, .ref m6, .ref m7, .ref m8, .ref m9, .ref m10, .ref m11, .ref m12, .int pw, .int rn, .int (nI n1), .ref m16, .ref m17, .ref m18, .int (nI bz), .int (nI dg), .int (nI db), .int (nI df), .int (nI sp), .int tg, .int lf, .int mm, .ref m27, .int fo, .ref m29, .ref m30, .ref m31])), (m8, .inl (y8, 2, .inl h8)), (m9, .inl (y9, 2, .inl h9))]) [0, 2, 3] (by decide) rfl
                        have hKc := hK.sub (tys' := [(y8, .int), (y9, .int)]) [1, 2] rfl
                        have hFc := va_free (wc := [(mo, .inr (6, [.int th, .int tm, .int (nI sr), .int (nI nc), .ref m4, .ref m5, .ref m6, .ref m7, .ref m8, .ref m9, .ref m10, .ref m11, .ref m12, .int pw, .int rn, .int (nI n1), .ref m16, .ref m17, .ref m18, .int (nI bz), .int (nI dg), .int (nI db), .int (nI df), .int (nI sp), .int tg, .int lf, .int mm, .ref m27, .int fo, .ref m29, .ref m30, .ref m31])), (m8, .inl (y8, 2, .inl h8)), (m9, .inl (y9, 2, .inl h9))]) hD hS hA [0, 2, 3] rfl
                        refine va_callv (va_runV (As := [.int (nI b), .int 3]) (rest := []) ⟨hx, hb, hml, hown, hts⟩ (m_moves l dC dI _ mo m4 m5 m6 m7 m8 m9 m10 m11 m12 m16 m17 m18 m27 m29 m30 m31 th tm pw rn tg lf mm fo sr nc n1 bz dg db df sp y8 y9 h8 h9 b 3 (by omega)) (cwV 2 hts gX8_doors_X8_moves rfl rfl rfl (by decide +kernel) ⟨Nat.le_of_ble_eq_true rfl, Nat.le_of_ble_eq_true rfl⟩) ⟨pt_blindQ, va_recv hK hP (ci := 6) (q0 := 0) rfl rfl, pt_preQ hPc hKc hDc hN⟩ rfl rfl hl.1 rfl (lv_room (Nat.le_of_ble_eq_true rfl)) dX8_doors_209 ⟨Nat.le_of_ble_eq_true rfl, Nat.le_of_ble_eq_true rfl⟩) hS (fun q _ h => hFc q h) hFc (fun u_45 t H1 locs ht hvm hw_45 hB hz1 hk1 hS => ?_)
                        obtain ⟨v_45, n_45, F_45⟩ := u_45
                        obtain ⟨hP1, hK1, hD1⟩ := hB
                        try dsimp only at hw_45
                        rw [ht] at hP1
                        have hK1 := va_K.moved hvm.symm hK1
                        obtain ⟨hP, hD⟩ := va_join (wr := [(m5, .inl (y5, 700, .inl f5)), (m10, .inl (y10, 2, .inl f10)), (m11, .inl (y11, 2, .inl f11)), (m16, .inl (y16, 24, .inl h16)), (m17, .inl (y17, 24, .inl h17)), (m18, .inl (y18, 24, .inl h18))]) (w1 := [(mo, .inr (6, [.int th, .int tm, .int (nI sr), .int (nI nc), .ref m4, .ref m5, .ref m6, .ref m7, .ref m8, .ref m9, .ref m10, .ref m11, .ref m12, .int pw, .int rn, .int (nI n1), .ref m16, .ref m17, .ref m18, .int (nI bz), .int (nI dg), .int (nI db), .int (nI df), .int (nI sp), .int tg, .int lf, .int mm, .ref m27, .int fo, .ref m29, .ref m30, .ref m31])), (m8, .inl (y8, 2, .inl (upd h8 b 3))), (m9, .inl (y9, 2, .inl (upd h9 b 4)))]) hP hD [0, 2, 3] [1, 4, 5, 6, 7, 8] rfl rfl (by decide) (by decide) hk1 hFc hP1 hD1
                        have hK := hK.app hK1
                        generalize H1 = H at hP hS ⊢
                        have hP : va_P (dC, dI) vwCl [(m5, .inl (y5, 700, .inl f5)), (m10, .inl (y10, 2, .inl f10)), (m11, .inl (y11, 2, .inl f11)), (m16, .inl (y16, 24, .inl h16)), (m17, .inl (y17, 24, .inl h17)), (m18, .inl (y18, 24, .inl h18)), (mo, .inr (6, [.int th, .int tm, .int (nI sr), .int (nI nc), .ref m4, .ref m5, .ref m6, .ref m7, .ref m8, .ref m9, .ref m10, .ref m11, .ref m12, .int pw, .int rn, .int (nI n1), .ref m16, .ref m17, .ref m18, .int (nI bz), .int (nI dg), .int (nI db), .int (nI df), .int (nI sp), .int tg, .int lf, .int mm, .ref m27, .int fo, .ref m29, .ref m30, .ref m31])), (m8, .inl (y8, 2, .inl (upd h8 b 3))), (m9, .inl (y9, 2, .inl (upd h9 b 4)))] H := hP
                        have hD : va_D A [(m5, .inl (y5, 700, .inl f5)), (m10, .inl (y10, 2, .inl f10)), (m11, .inl (y11, 2, .inl f11)), (m16, .inl (y16, 24, .inl h16)), (m17, .inl (y17, 24, .inl h17)), (m18, .inl (y18, 24, .inl h18)), (mo, .inr (6, [.int th, .int tm, .int (nI sr), .int (nI nc), .ref m4, .ref m5, .ref m6, .ref m7, .ref m8, .ref m9, .ref m10, .ref m11, .ref m12, .int pw, .int rn, .int (nI n1), .ref m16, .ref m17, .ref m18, .int (nI bz), .int (nI dg), .int (nI db), .int (nI df), .int (nI sp), .int tg, .int lf, .int mm, .ref m27, .int fo, .ref m29, .ref m30, .ref m31])), (m8, .inl (y8, 2, .inl (upd h8 b 3))), (m9, .inl (y9, 2, .inl (upd h9 b 4)))] := hD
                        have hK : va_K (dC, dI) vwCl [(y5, .int), (y8, .int), (y9, .int), (y10, .boolean), (y11, .int), (y16, .int), (y17, .int), (y18, .boolean)] s := hK
                        have hM3 : MI nc n1 bz dg df sp mm f5 f6 f7 (upd h8 b 3) f11 h16 h17 f27 := MI.door1 hM (fun q9 => absurd ((ea_7.trans q9).symm.trans (by assumption)) (by decide))
                        refine lv_iinc (v := nI (b + 1)) (lv' := [(1, .int (nI (b + 1))), (2, .int (nI fi)), (0, .ref mo)]) hx hb dX8_doors_212 hl (k := 2) rfl (nI_add b 1) (by decide) rfl (fun ls hl => ?_)
                        refine lv_goto (tgt := 2) hx hb dX8_doors_215 (by decide) ?_
                        exact ih_2 H locs ls ⟨n1, upd h8 b 3, upd h9 b 4, h16, h17, h18, lv_sub hl [0, 2] rfl, hM3, hfe, hP.sub [6, 0, 7, 8, 1, 2, 3, 4, 5] rfl, hD.sub [6, 0, 7, 8, 1, 2, 3, 4, 5] (by decide) rfl, hS⟩
                · skip
                  refine lv_if_ge (tgt := 212) hx hb dX8_doors_177 (by decide) (fun c_46 => ?_) (fun c_46 => ?_)
                  · have c_46 : 0 ≤ j_39 := (nI_leI (a := 0) (b := j_39) (by omega) (by omega)).mp c_46
                    refine lv_iinc (v := nI (b + 1)) (lv' := [(1, .int (nI (b + 1))), (2, .int (nI fi)), (0, .ref mo)]) hx hb dX8_doors_212 hl (k := 2) rfl (nI_add b 1) (by decide) rfl (fun ls hl => ?_)
                    refine lv_goto (tgt := 2) hx hb dX8_doors_215 (by decide) ?_
                    exact ih_2 H locs ls ⟨n1, h8, h9, h16, h17, h18, lv_sub hl [0, 2] rfl, hM, hfe, hP.sub [0, 1, 2, 3, 4, 5, 6, 7, 8] rfl, hD.sub [0, 1, 2, 3, 4, 5, 6, 7, 8] (by decide) rfl, hS⟩
                  · have c_46 : ¬ (0 ≤ j_39) := fun q_ => c_46 ((nI_leI (a := 0) (b := j_39) (by omega) (by omega)).mpr q_)
                    exact (by omega : False).elim
            · skip
              refine lv_iconst (v := 0) hx hb dX8_doors_128 (by decide) ?_
              refine lv_istore_n (lv' := [(2, .int 0), (1, .int (nI b)), (0, .ref mo)]) hx hb dX8_doors_129 rfl hl (by decide) rfl (fun ls hl => ?_)
              refine pt_loop n1 (fun kk ls => lv_has ls 3 [(2, .int (nI kk)), (0, .ref mo), (1, .int (nI b))]) (fun ls hI => ?_) (fun kk ls hk hI ih => ?_) (lv_sub hl [0, 2, 1] rfl)
              · have hl := hI
                have hl : lv_has ls 3 [(2, .int (nI n1)), (0, .ref mo), (1, .int (nI b))] := hl
                refine lv_iload_n hx hb dX8_doors_130 rfl (lv_at hl 0 rfl) ?_
                refine lv_aload_n hx hb dX8_doors_131 rfl (lv_at hl 1 rfl) ?_
                refine va_get (D := (dC, dI)) (ci := 6) (v := .int (nI n1)) (C := RX8) (T := TX8) (N := 32) hx hb hts iX8 hown hK hP 0 rfl rfl 15 (by decide) (hts (.fieldLink RX8 93 "ParkTowerModel" "orders" "I") (by decide +kernel)) (fun _ h9 => h9) rfl dX8_doors_132 ?_
                refine lv_icmp_ge (tgt := 154) hx hb dX8_doors_135 (by decide) (fun c_47 => ?_) (fun c_47 => ?_)
                · have c_47 : n1 ≤ n1 := (nI_leI (a := n1) (b := n1) (by omega) (by omega)).mp c_47
                  exact K n1 ls ⟨by omega, lv_sub hl [0, 1, 2] rfl⟩
                · have c_47 : ¬ (n1 ≤ n1) := fun q_ => c_47 ((nI_leI (a := n1) (b := n1) (by omega) (by omega)).mpr q_)
                  exact (by omega : False).elim
              · have hl := hI
                have hl : lv_has ls 3 [(2, .int (nI kk)), (0, .ref mo), (1, .int (nI b))] := hl
                refine lv_iload_n hx hb dX8_doors_130 rfl (lv_at hl 0 rfl) ?_
                refine lv_aload_n hx hb dX8_doors_131 rfl (lv_at hl 1 rfl) ?_
                refine va_get (D := (dC, dI)) (ci := 6) (v := .int (nI n1)) (C := RX8) (T := TX8) (N := 32) hx hb hts iX8 hown hK hP 0 rfl rfl 15 (by decide) (hts (.fieldLink RX8 93 "ParkTowerModel" "orders" "I") (by decide +kernel)) (fun _ h9 => h9) rfl dX8_doors_132 ?_
                refine lv_icmp_ge (tgt := 154) hx hb dX8_doors_135 (by decide) (fun c_48 => ?_) (fun c_48 => ?_)
                · have c_48 : n1 ≤ kk := (nI_leI (a := n1) (b := kk) (by omega) (by omega)).mp c_48
                  exact K kk ls ⟨by omega, lv_sub hl [0, 1, 2] rfl⟩
                · have c_48 : ¬ (n1 ≤ kk) := fun q_ => c_48 ((nI_leI (a := n1) (b := kk) (by omega) (by omega)).mpr q_)
                  refine lv_aload_n hx hb dX8_doors_138 rfl (lv_at hl 1 rfl) ?_
                  refine va_get (D := (dC, dI)) (ci := 6) (v := .ref m17) (C := RX8) (T := TX8) (N := 32) hx hb hts iX8 hown hK hP 0 rfl rfl 17 (by decide) (hts (.fieldLink RX8 45 "ParkTowerModel" "orderBay" "[I") (by decide +kernel)) (fun _ h9 => h9) rfl dX8_doors_139 ?_
                  refine lv_iload_n hx hb dX8_doors_142 rfl (lv_at hl 0 rfl) ?_
                  refine va_iald hx hb hK hP 7 6 rfl rfl (vp_in_nI (n := kk) (by omega) (by decide)) dX8_doors_143 ?_
                  refine lv_topi (fun a_49 ea_49 => ?_)
                  rw [nI_clamp (n := kk) (by omega)] at ea_49
                  refine lv_iload_n hx hb dX8_doors_144 rfl (lv_at hl 2 rfl) ?_
                  refine lv_icmp_eq (tgt := 154) hx hb dX8_doors_145 (by decide) (fun c_50 => ?_) (fun c_50 => ?_)
                  · have c_50 : (a_49 = (nI b)) := c_50
                    exact K kk ls ⟨by omega, lv_sub hl [0, 1, 2] rfl⟩
                  · have c_50 : ¬ (a_49 = (nI b)) := c_50
                    refine lv_iinc (v := nI (kk + 1)) (lv' := [(2, .int (nI (kk + 1))), (0, .ref mo), (1, .int (nI b))]) hx hb dX8_doors_148 hl (k := 0) rfl (nI_add kk 1) (by decide) rfl (fun ls hl => ?_)
                    refine lv_goto (tgt := 130) hx hb dX8_doors_151 (by decide) ?_
                    exact ih ls (lv_sub hl [0, 1, 2] rfl)
          · have c_37 : (a_7 = 3) := c_37
            refine lv_aload_n hx hb dX8_doors_34 rfl (lv_at hl 1 rfl) ?_
            refine va_get (D := (dC, dI)) (ci := 6) (v := .ref m9) (C := RX8) (T := TX8) (N := 32) hx hb hts iX8 hown hK hP 0 rfl rfl 9 (by decide) (hts (.fieldLink RX8 25 "ParkTowerModel" "left" "[I") (by decide +kernel)) (fun _ h9 => h9) rfl dX8_doors_35 ?_
            refine lv_iload_n hx hb dX8_doors_38 rfl (lv_at hl 0 rfl) ?_
            refine lv_dup2_11 hx hb dX8_doors_39 rfl rfl ?_
            refine va_iald hx hb hK hP 3 2 rfl rfl (vp_in_nI (n := b) (by omega) (by decide)) dX8_doors_40 ?_
            refine lv_topi (fun a_51 ea_51 => ?_)
            rw [nI_clamp (n := b) (by omega)] at ea_51
            refine lv_iconst (v := 1) hx hb dX8_doors_41 (by decide) ?_
            refine lv_isub hx hb dX8_doors_42 ?_
            refine lv_topi (fun z_52 ez_52 => ?_)
            refine va_iast hx hb hK hP hD hS 3 2 rfl rfl (vp_in_nI (n := b) (by omega) (by decide)) dX8_doors_43 (fun H locs hP hD hS => ?_)
            rw [nI_clamp (n := b) (by omega)] at hP hD
            have hP : va_P (dC, dI) vwCl [(mo, .inr (6, [.int th, .int tm, .int (nI sr), .int (nI nc), .ref m4, .ref m5, .ref m6, .ref m7, .ref m8, .ref m9, .ref m10, .ref m11, .ref m12, .int pw, .int rn, .int (nI n1), .ref m16, .ref m17, .ref m18, .int (nI bz), .int (nI dg), .int (nI db), .int (nI df), .int (nI sp), .int tg, .int lf, .int mm, .ref m27, .int fo, .ref m29, .ref m30, .ref m31])), (m5, .inl (y5, 700, .inl f5)), (m8, .inl (y8, 2, .inl h8)), (m9, .inl (y9, 2, .inl (upd h9 b z_52))), (m10, .inl (y10, 2, .inl f10)), (m11, .inl (y11, 2, .inl f11)), (m16, .inl (y16, 24, .inl h16)), (m17, .inl (y17, 24, .inl h17)), (m18, .inl (y18, 24, .inl h18))] H := hP
            have hD : va_D A [(mo, .inr (6, [.int th, .int tm, .int (nI sr), .int (nI nc), .ref m4, .ref m5, .ref m6, .ref m7, .ref m8, .ref m9, .ref m10, .ref m11, .ref m12, .int pw, .int rn, .int (nI n1), .ref m16, .ref m17, .ref m18, .int (nI bz), .int (nI dg), .int (nI db), .int (nI df), .int (nI sp), .int tg, .int lf, .int mm, .ref m27, .int fo, .ref m29, .ref m30, .ref m31])), (m5, .inl (y5, 700, .inl f5)), (m8, .inl (y8, 2, .inl h8)), (m9, .inl (y9, 2, .inl (upd h9 b z_52))), (m10, .inl (y10, 2, .inl f10)), (m11, .inl (y11, 2, .inl f11)), (m16, .inl (y16, 24, .inl h16)), (m17, .inl (y17, 24, .inl h17)), (m18, .inl (y18, 24, .inl h18))] := hD
            refine lv_aload_n hx hb dX8_doors_44 rfl (lv_at hl 1 rfl) ?_
            refine va_get (D := (dC, dI)) (ci := 6) (v := .ref m9) (C := RX8) (T := TX8) (N := 32) hx hb hts iX8 hown hK hP 0 rfl rfl 9 (by decide) (hts (.fieldLink RX8 25 "ParkTowerModel" "left" "[I") (by decide +kernel)) (fun _ h9 => h9) rfl dX8_doors_45 ?_
            refine lv_iload_n hx hb dX8_doors_48 rfl (lv_at hl 0 rfl) ?_
            refine va_iald hx hb hK hP 3 2 rfl rfl (vp_in_nI (n := b) (by omega) (by decide)) dX8_doors_49 ?_
            refine pt_topi z_52 (by rw [nI_clamp (n := b) (by omega)]; exact pk_us) ?_
            refine lv_if_ne (tgt := 74) hx hb dX8_doors_50 (by decide) (fun c_53 => ?_) (fun c_53 => ?_)
            · have c_53 : ¬ (z_52 = 0) := c_53
              refine lv_aload_n hx hb dX8_doors_74 rfl (lv_at hl 1 rfl) ?_
              refine va_get (D := (dC, dI)) (ci := 6) (v := .ref m9) (C := RX8) (T := TX8) (N := 32) hx hb hts iX8 hown hK hP 0 rfl rfl 9 (by decide) (hts (.fieldLink RX8 25 "ParkTowerModel" "left" "[I") (by decide +kernel)) (fun _ h9 => h9) rfl dX8_doors_75 ?_
              refine lv_iload_n hx hb dX8_doors_78 rfl (lv_at hl 0 rfl) ?_
              refine va_iald hx hb hK hP 3 2 rfl rfl (vp_in_nI (n := b) (by omega) (by decide)) dX8_doors_79 ?_
              refine pt_topi z_52 (by rw [nI_clamp (n := b) (by omega)]; exact pk_us) ?_
              refine lv_if_ne (tgt := 128) hx hb dX8_doors_80 (by decide) (fun _ => ?_) (fun c => absurd c (by assumption))
              have hnn : n1 ≤ 24 := (hM).n24
              refine pt_cutX (α := Nat) 154 [] (fun fi ls => fi ≤ n1 ∧ lv_has ls 3 [(2, .int (nI fi)), (0, .ref mo), (1, .int (nI b))]) (fun fi ls hI => ?_) (fun K => ?_)
              · obtain ⟨hfi, hl⟩ := hI
                have hl : lv_has ls 3 [(2, .int (nI fi)), (0, .ref mo), (1, .int (nI b))] := hl
                refine lv_aload_n hx hb dX8_doors_154 rfl (lv_at hl 1 rfl) ?_
                refine va_get (D := (dC, dI)) (ci := 6) (v := .int pw) (C := RX8) (T := TX8) (N := 32) hx hb hts iX8 hown hK hP 0 rfl rfl 13 (by decide) (hts (.fieldLink RX8 38 "ParkTowerModel" "power" "Z") (by decide +kernel)) (fun _ h9 => h9) rfl dX8_doors_155 ?_
                refine lv_if_eq (tgt := 212) hx hb dX8_doors_158 (by decide) (fun c => absurd c (by assumption)) (fun _ => ?_)
                refine lv_aload_n hx hb dX8_doors_161 rfl (lv_at hl 1 rfl) ?_
                refine va_get (D := (dC, dI)) (ci := 6) (v := .ref m8) (C := RX8) (T := TX8) (N := 32) hx hb hts iX8 hown hK hP 0 rfl rfl 8 (by decide) (hts (.fieldLink RX8 22 "ParkTowerModel" "door" "[I") (by decide +kernel)) (fun _ h9 => h9) rfl dX8_doors_162 ?_
                refine lv_iload_n hx hb dX8_doors_165 rfl (lv_at hl 2 rfl) ?_
                refine va_iald hx hb hK hP 2 1 rfl rfl (vp_in_nI (n := b) (by omega) (by decide)) dX8_doors_166 ?_
                refine pt_topi a_7 (by rw [nI_clamp (n := b) (by omega)]; exact ea_7.symm) ?_
                refine lv_iconst (v := 2) hx hb dX8_doors_167 (by decide) ?_
                refine lv_icmp_ne (tgt := 212) hx hb dX8_doors_168 (by decide) (fun c_54 => ?_) (fun c_54 => ?_)
                · have c_54 : ¬ (a_7 = 2) := c_54
                  refine lv_iinc (v := nI (b + 1)) (lv' := [(1, .int (nI (b + 1))), (2, .int (nI fi)), (0, .ref mo)]) hx hb dX8_doors_212 hl (k := 2) rfl (nI_add b 1) (by decide) rfl (fun ls hl => ?_)
                  refine lv_goto (tgt := 2) hx hb dX8_doors_215 (by decide) ?_
                  exact ih_2 H locs ls ⟨n1, h8, upd h9 b z_52, h16, h17, h18, lv_sub hl [0, 2] rfl, hM, hfe, hP.sub [0, 1, 2, 3, 4, 5, 6, 7, 8] rfl, hD.sub [0, 1, 2, 3, 4, 5, 6, 7, 8] (by decide) rfl, hS⟩
                · have c_54 : (a_7 = 2) := c_54
                  refine lv_aload_n hx hb dX8_doors_171 rfl (lv_at hl 1 rfl) ?_
                  refine va_get (D := (dC, dI)) (ci := 6) (v := .ref m11) (C := RX8) (T := TX8) (N := 32) hx hb hts iX8 hown hK hP 0 rfl rfl 11 (by decide) (hts (.fieldLink RX8 32 "ParkTowerModel" "bay" "[I") (by decide +kernel)) (fun _ h9 => h9) rfl dX8_doors_172 ?_
                  refine lv_iload_n hx hb dX8_doors_175 rfl (lv_at hl 2 rfl) ?_
                  refine va_iald hx hb hK hP 5 4 rfl rfl (vp_in_nI (n := b) (by omega) (by decide)) dX8_doors_176 ?_
                  refine lv_topi (fun a_55 ea_55 => ?_)
                  rw [nI_clamp (n := b) (by omega)] at ea_55
                  rcases (show mB nc a_55 by rw [ea_55]; exact hM.hy _) with rfl | ⟨j_55, hj_55, rfl⟩
                  · skip
                    refine lv_if_ge (tgt := 212) hx hb dX8_doors_177 (by decide) (fun c => absurd c (by decide)) (fun _ => ?_)
                    refine lv_aload_n hx hb dX8_doors_180 rfl (lv_at hl 1 rfl) ?_
                    refine va_get (D := (dC, dI)) (ci := 6) (v := .ref m10) (C := RX8) (T := TX8) (N := 32) hx hb hts iX8 hown hK hP 0 rfl rfl 10 (by decide) (hts (.fieldLink RX8 28 "ParkTowerModel" "person" "[Z") (by decide +kernel)) (fun _ h9 => h9) rfl dX8_doors_181 ?_
                    refine lv_iload_n hx hb dX8_doors_184 rfl (lv_at hl 2 rfl) ?_
                    refine va_zald hx hb hK hP 4 3 rfl rfl (vp_in_nI (n := b) (by omega) (by decide)) dX8_doors_185 ?_
                    refine lv_topi (fun a_56 ea_56 => ?_)
                    rw [nI_clamp (n := b) (by omega)] at ea_56
                    refine lv_if_ne (tgt := 212) hx hb dX8_doors_186 (by decide) (fun c_57 => ?_) (fun c_57 => ?_)
                    · have c_57 : ¬ (a_56 = 0) := c_57
                      refine lv_iinc (v := nI (b + 1)) (lv' := [(1, .int (nI (b + 1))), (2, .int (nI fi)), (0, .ref mo)]) hx hb dX8_doors_212 hl (k := 2) rfl (nI_add b 1) (by decide) rfl (fun ls hl => ?_)
                      refine lv_goto (tgt := 2) hx hb dX8_doors_215 (by decide) ?_
                      exact ih_2 H locs ls ⟨n1, h8, upd h9 b z_52, h16, h17, h18, lv_sub hl [0, 2] rfl, hM, hfe, hP.sub [0, 1, 2, 3, 4, 5, 6, 7, 8] rfl, hD.sub [0, 1, 2, 3, 4, 5, 6, 7, 8] (by decide) rfl, hS⟩
                    · have c_57 : (a_56 = 0) := c_57
                      refine lv_iload_n hx hb dX8_doors_189 rfl (lv_at hl 0 rfl) ?_
                      refine lv_aload_n hx hb dX8_doors_190 rfl (lv_at hl 1 rfl) ?_
                      refine va_get (D := (dC, dI)) (ci := 6) (v := .int (nI n1)) (C := RX8) (T := TX8) (N := 32) hx hb hts iX8 hown hK hP 0 rfl rfl 15 (by decide) (hts (.fieldLink RX8 93 "ParkTowerModel" "orders" "I") (by decide +kernel)) (fun _ h9 => h9) rfl dX8_doors_191 ?_
                      refine lv_icmp_ge (tgt := 212) hx hb dX8_doors_194 (by decide) (fun c_58 => ?_) (fun c_58 => ?_)
                      · have c_58 : n1 ≤ fi := (nI_leI (a := n1) (b := fi) (by omega) (by omega)).mp c_58
                        refine lv_iinc (v := nI (b + 1)) (lv' := [(1, .int (nI (b + 1))), (2, .int (nI fi)), (0, .ref mo)]) hx hb dX8_doors_212 hl (k := 2) rfl (nI_add b 1) (by decide) rfl (fun ls hl => ?_)
                        refine lv_goto (tgt := 2) hx hb dX8_doors_215 (by decide) ?_
                        exact ih_2 H locs ls ⟨n1, h8, upd h9 b z_52, h16, h17, h18, lv_sub hl [0, 2] rfl, hM, hfe, hP.sub [0, 1, 2, 3, 4, 5, 6, 7, 8] rfl, hD.sub [0, 1, 2, 3, 4, 5, 6, 7, 8] (by decide) rfl, hS⟩
                      · have c_58 : ¬ (n1 ≤ fi) := fun q_ => c_58 ((nI_leI (a := n1) (b := fi) (by omega) (by omega)).mpr q_)
                        refine lv_aload_n hx hb dX8_doors_197 rfl (lv_at hl 1 rfl) ?_
                        refine va_get (D := (dC, dI)) (ci := 6) (v := .ref m18) (C := RX8) (T := TX8) (N := 32) hx hb hts iX8 hown hK hP 0 rfl rfl 18 (by decide) (hts (.fieldLink RX8 48 "ParkTowerModel" "fetches" "[Z") (by decide +kernel)) (fun _ h9 => h9) rfl dX8_doors_198 ?_
                        refine lv_iload_n hx hb dX8_doors_201 rfl (lv_at hl 0 rfl) ?_
                        refine va_zald hx hb hK hP 8 7 rfl rfl (vp_in_nI (n := fi) (by omega) (by decide)) dX8_doors_202 ?_
                        refine lv_topi (fun a_59 ea_59 => ?_)
                        rw [nI_clamp (n := fi) (by omega)] at ea_59
                        refine lv_if_eq (tgt := 212) hx hb dX8_doors_203 (by decide) (fun c_60 => ?_) (fun c_60 => ?_)
                        · have c_60 : (a_59 = 0) := c_60
                          refine lv_iinc (v := nI (b + 1)) (lv' := [(1, .int (nI (b + 1))), (2, .int (nI fi)), (0, .ref mo)]) hx hb dX8_doors_212 hl (k := 2) rfl (nI_add b 1) (by decide) rfl (fun ls hl => ?_)
                          refine lv_goto (tgt := 2) hx hb dX8_doors_215 (by decide) ?_
                          exact ih_2 H locs ls ⟨n1, h8, upd h9 b z_52, h16, h17, h18, lv_sub hl [0, 2] rfl, hM, hfe, hP.sub [0, 1, 2, 3, 4, 5, 6, 7, 8] rfl, hD.sub [0, 1, 2, 3, 4, 5, 6, 7, 8] (by decide) rfl, hS⟩
                        · have c_60 : ¬ (a_59 = 0) := c_60
                          refine lv_aload_n hx hb dX8_doors_206 rfl (lv_at hl 1 rfl) ?_
                          refine lv_iload_n hx hb dX8_doors_207 rfl (lv_at hl 2 rfl) ?_
                          refine lv_iconst (v := 3) hx hb dX8_doors_208 (by decide) ?_
                          have hPc := hP.sub (ws' := [(mo, .inr (6, [.int th, .int tm, .int (nI sr), .int (nI nc), .ref m4, .ref m5, .ref m6, .ref m7, .ref m8, .ref m9, .ref m10, .ref m11, .ref m12, .int pw, .int rn, .int (nI n1), .ref m16, .ref m17, .ref m18, .int (nI bz), .int (nI dg), .int (nI db), .int (nI df), .int (nI sp), .int tg, .int lf, .int mm, .ref m27, .int fo, .ref m29, .ref m30, .ref m31])), (m8, .inl (y8, 2, .inl h8)), (m9, .inl (y9, 2, .inl (upd h9 b z_52)))]) [0, 2, 3] rfl
                          have hDc := hD.sub (ws' := [(mo, .inr (6, [.int th, .int tm, .int (nI sr), .int (nI nc), .ref m4, .ref m5, .ref m6, .ref m7, .ref m8, .ref m9, .ref m10, .ref m11, .ref m12, .int pw, .int rn, .int (nI n1), .ref m16, .ref m17, .ref m18, .int (nI bz), .int (nI dg), .int (nI db), .int (nI df), .int (nI sp), .int tg, .int lf, .int mm, .ref m27, .int fo, .ref m29, .ref m30, .ref m31])), (m8, .inl (y8, 2, .inl h8)), (m9, .inl (y9, 2, .inl (upd h9 b z_52)))]) [0, 2, 3] (by decide) rfl
                          have hKc := hK.sub (tys' := [(y8, .int), (y9, .int)]) [1, 2] rfl
                          have hFc := va_free (wc := [(mo, .inr (6, [.int th, .int tm, .int (nI sr), .int (nI nc), .ref m4, .ref m5, .ref m6, .ref m7, .ref m8, .ref m9, .ref m10, .ref m11, .ref m12, .int pw, .int rn, .int (nI n1), .ref m16, .ref m17, .ref m18, .int (nI bz), .int (nI dg), .int (nI db), .int (nI df), .int (nI sp), .int tg, .int lf, .int mm, .ref m27, .int fo, .ref m29, .ref m30, .ref m31])), (m8, .inl (y8, 2, .inl h8)), (m9, .inl (y9, 2, .inl (upd h9 b z_52)))]) hD hS hA [0, 2, 3] rfl
                          refine va_callv (va_runV (As := [.int (nI b), .int 3]) (rest := []) ⟨hx, hb, hml, hown, hts⟩ (m_moves l dC dI _ mo m4 m5 m6 m7 m8 m9 m10 m11 m12 m16 m17 m18 m27 m29 m30 m31 th tm pw rn tg lf mm fo sr nc n1 bz dg db df sp y8 y9 h8 (upd h9 b z_52) b 3 (by omega)) (cwV 2 hts gX8_doors_X8_moves rfl rfl rfl (by decide +kernel) ⟨Nat.le_of_ble_eq_true rfl, Nat.le_of_ble_eq_true rfl⟩) ⟨pt_blindQ, va_recv hK hP (ci := 6) (q0 := 0) rfl rfl, pt_preQ hPc hKc hDc hN⟩ rfl rfl hl.1 rfl (lv_room (Nat.le_of_ble_eq_true rfl)) dX8_doors_209 ⟨Nat.le_of_ble_eq_true rfl, Nat.le_of_ble_eq_true rfl⟩) hS (fun q _ h => hFc q h) hFc (fun u_61 t H1 locs ht hvm hw_61 hB hz1 hk1 hS => ?_)
                          obtain ⟨v_61, n_61, F_61⟩ := u_61
                          obtain ⟨hP1, hK1, hD1⟩ := hB
                          try dsimp only at hw_61
                          rw [ht] at hP1
                          have hK1 := va_K.moved hvm.symm hK1
                          obtain ⟨hP, hD⟩ := va_join (wr := [(m5, .inl (y5, 700, .inl f5)), (m10, .inl (y10, 2, .inl f10)), (m11, .inl (y11, 2, .inl f11)), (m16, .inl (y16, 24, .inl h16)), (m17, .inl (y17, 24, .inl h17)), (m18, .inl (y18, 24, .inl h18))]) (w1 := [(mo, .inr (6, [.int th, .int tm, .int (nI sr), .int (nI nc), .ref m4, .ref m5, .ref m6, .ref m7, .ref m8, .ref m9, .ref m10, .ref m11, .ref m12, .int pw, .int rn, .int (nI n1), .ref m16, .ref m17, .ref m18, .int (nI bz), .int (nI dg), .int (nI db), .int (nI df), .int (nI sp), .int tg, .int lf, .int mm, .ref m27, .int fo, .ref m29, .ref m30, .ref m31])), (m8, .inl (y8, 2, .inl (upd h8 b 3))), (m9, .inl (y9, 2, .inl (upd (upd h9 b z_52) b 4)))]) hP hD [0, 2, 3] [1, 4, 5, 6, 7, 8] rfl rfl (by decide) (by decide) hk1 hFc hP1 hD1
                          have hK := hK.app hK1
                          generalize H1 = H at hP hS ⊢
                          have hP : va_P (dC, dI) vwCl [(m5, .inl (y5, 700, .inl f5)), (m10, .inl (y10, 2, .inl f10)), (m11, .inl (y11, 2, .inl f11)), (m16, .inl (y16, 24, .inl h16)), (m17, .inl (y17, 24, .inl h17)), (m18, .inl (y18, 24, .inl h18)), (mo, .inr (6, [.int th, .int tm, .int (nI sr), .int (nI nc), .ref m4, .ref m5, .ref m6, .ref m7, .ref m8, .ref m9, .ref m10, .ref m11, .ref m12, .int pw, .int rn, .int (nI n1), .ref m16, .ref m17, .ref m18, .int (nI bz), .int (nI dg), .int (nI db), .int (nI df), .int (nI sp), .int tg, .int lf, .int mm, .ref m27, .int fo, .ref m29, .ref m30, .ref m31])), (m8, .inl (y8, 2, .inl (upd h8 b 3))), (m9, .inl (y9, 2, .inl (upd (upd h9 b z_52) b 4)))] H := hP
                          have hD : va_D A [(m5, .inl (y5, 700, .inl f5)), (m10, .inl (y10, 2, .inl f10)), (m11, .inl (y11, 2, .inl f11)), (m16, .inl (y16, 24, .inl h16)), (m17, .inl (y17, 24, .inl h17)), (m18, .inl (y18, 24, .inl h18)), (mo, .inr (6, [.int th, .int tm, .int (nI sr), .int (nI nc), .ref m4, .ref m5, .ref m6, .ref m7, .ref m8, .ref m9, .ref m10, .ref m11, .ref m12, .int pw, .int rn, .int (nI n1), .ref m16, .ref m17, .ref m18, .int (nI bz), .int (nI dg), .int (nI db), .int (nI df), .int (nI sp), .int tg, .int lf, .int mm, .ref m27, .int fo, .ref m29, .ref m30, .ref m31])), (m8, .inl (y8, 2, .inl (upd h8 b 3))), (m9, .inl (y9, 2, .inl (upd (upd h9 b z_52) b 4)))] := hD
                          have hK : va_K (dC, dI) vwCl [(y5, .int), (y8, .int), (y9, .int), (y10, .boolean), (y11, .int), (y16, .int), (y17, .int), (y18, .boolean)] s := hK
                          have hM3 : MI nc n1 bz dg df sp mm f5 f6 f7 (upd h8 b 3) f11 h16 h17 f27 := MI.door1 hM (fun q9 => absurd ((ea_7.trans q9).symm.trans (by assumption)) (by decide))
                          refine lv_iinc (v := nI (b + 1)) (lv' := [(1, .int (nI (b + 1))), (2, .int (nI fi)), (0, .ref mo)]) hx hb dX8_doors_212 hl (k := 2) rfl (nI_add b 1) (by decide) rfl (fun ls hl => ?_)
                          refine lv_goto (tgt := 2) hx hb dX8_doors_215 (by decide) ?_
                          exact ih_2 H locs ls ⟨n1, upd h8 b 3, upd (upd h9 b z_52) b 4, h16, h17, h18, lv_sub hl [0, 2] rfl, hM3, hfe, hP.sub [6, 0, 7, 8, 1, 2, 3, 4, 5] rfl, hD.sub [6, 0, 7, 8, 1, 2, 3, 4, 5] (by decide) rfl, hS⟩
                  · skip
                    refine lv_if_ge (tgt := 212) hx hb dX8_doors_177 (by decide) (fun c_62 => ?_) (fun c_62 => ?_)
                    · have c_62 : 0 ≤ j_55 := (nI_leI (a := 0) (b := j_55) (by omega) (by omega)).mp c_62
                      refine lv_iinc (v := nI (b + 1)) (lv' := [(1, .int (nI (b + 1))), (2, .int (nI fi)), (0, .ref mo)]) hx hb dX8_doors_212 hl (k := 2) rfl (nI_add b 1) (by decide) rfl (fun ls hl => ?_)
                      refine lv_goto (tgt := 2) hx hb dX8_doors_215 (by decide) ?_
                      exact ih_2 H locs ls ⟨n1, h8, upd h9 b z_52, h16, h17, h18, lv_sub hl [0, 2] rfl, hM, hfe, hP.sub [0, 1, 2, 3, 4, 5, 6, 7, 8] rfl, hD.sub [0, 1, 2, 3, 4, 5, 6, 7, 8] (by decide) rfl, hS⟩
                    · have c_62 : ¬ (0 ≤ j_55) := fun q_ => c_62 ((nI_leI (a := 0) (b := j_55) (by omega) (by omega)).mpr q_)
                      exact (by omega : False).elim
              · skip
                refine lv_iconst (v := 0) hx hb dX8_doors_128 (by decide) ?_
                refine lv_istore_n (lv' := [(2, .int 0), (1, .int (nI b)), (0, .ref mo)]) hx hb dX8_doors_129 rfl hl (by decide) rfl (fun ls hl => ?_)
                refine pt_loop n1 (fun kk ls => lv_has ls 3 [(2, .int (nI kk)), (0, .ref mo), (1, .int (nI b))]) (fun ls hI => ?_) (fun kk ls hk hI ih => ?_) (lv_sub hl [0, 2, 1] rfl)
                · have hl := hI
                  have hl : lv_has ls 3 [(2, .int (nI n1)), (0, .ref mo), (1, .int (nI b))] := hl
                  refine lv_iload_n hx hb dX8_doors_130 rfl (lv_at hl 0 rfl) ?_
                  refine lv_aload_n hx hb dX8_doors_131 rfl (lv_at hl 1 rfl) ?_
                  refine va_get (D := (dC, dI)) (ci := 6) (v := .int (nI n1)) (C := RX8) (T := TX8) (N := 32) hx hb hts iX8 hown hK hP 0 rfl rfl 15 (by decide) (hts (.fieldLink RX8 93 "ParkTowerModel" "orders" "I") (by decide +kernel)) (fun _ h9 => h9) rfl dX8_doors_132 ?_
                  refine lv_icmp_ge (tgt := 154) hx hb dX8_doors_135 (by decide) (fun c_63 => ?_) (fun c_63 => ?_)
                  · have c_63 : n1 ≤ n1 := (nI_leI (a := n1) (b := n1) (by omega) (by omega)).mp c_63
                    exact K n1 ls ⟨by omega, lv_sub hl [0, 1, 2] rfl⟩
                  · have c_63 : ¬ (n1 ≤ n1) := fun q_ => c_63 ((nI_leI (a := n1) (b := n1) (by omega) (by omega)).mpr q_)
                    exact (by omega : False).elim
                · have hl := hI
                  have hl : lv_has ls 3 [(2, .int (nI kk)), (0, .ref mo), (1, .int (nI b))] := hl
                  refine lv_iload_n hx hb dX8_doors_130 rfl (lv_at hl 0 rfl) ?_
                  refine lv_aload_n hx hb dX8_doors_131 rfl (lv_at hl 1 rfl) ?_
                  refine va_get (D := (dC, dI)) (ci := 6) (v := .int (nI n1)) (C := RX8) (T := TX8) (N := 32) hx hb hts iX8 hown hK hP 0 rfl rfl 15 (by decide) (hts (.fieldLink RX8 93 "ParkTowerModel" "orders" "I") (by decide +kernel)) (fun _ h9 => h9) rfl dX8_doors_132 ?_
                  refine lv_icmp_ge (tgt := 154) hx hb dX8_doors_135 (by decide) (fun c_64 => ?_) (fun c_64 => ?_)
                  · have c_64 : n1 ≤ kk := (nI_leI (a := n1) (b := kk) (by omega) (by omega)).mp c_64
                    exact K kk ls ⟨by omega, lv_sub hl [0, 1, 2] rfl⟩
                  · have c_64 : ¬ (n1 ≤ kk) := fun q_ => c_64 ((nI_leI (a := n1) (b := kk) (by omega) (by omega)).mpr q_)
                    refine lv_aload_n hx hb dX8_doors_138 rfl (lv_at hl 1 rfl) ?_
                    refine va_get (D := (dC, dI)) (ci := 6) (v := .ref m17) (C := RX8) (T := TX8) (N := 32) hx hb hts iX8 hown hK hP 0 rfl rfl 17 (by decide) (hts (.fieldLink RX8 45 "ParkTowerModel" "orderBay" "[I") (by decide +kernel)) (fun _ h9 => h9) rfl dX8_doors_139 ?_
                    refine lv_iload_n hx hb dX8_doors_142 rfl (lv_at hl 0 rfl) ?_
                    refine va_iald hx hb hK hP 7 6 rfl rfl (vp_in_nI (n := kk) (by omega) (by decide)) dX8_doors_143 ?_
                    refine lv_topi (fun a_65 ea_65 => ?_)
                    rw [nI_clamp (n := kk) (by omega)] at ea_65
                    refine lv_iload_n hx hb dX8_doors_144 rfl (lv_at hl 2 rfl) ?_
                    refine lv_icmp_eq (tgt := 154) hx hb dX8_doors_145 (by decide) (fun c_66 => ?_) (fun c_66 => ?_)
                    · have c_66 : (a_65 = (nI b)) := c_66
                      exact K kk ls ⟨by omega, lv_sub hl [0, 1, 2] rfl⟩
                    · have c_66 : ¬ (a_65 = (nI b)) := c_66
                      refine lv_iinc (v := nI (kk + 1)) (lv' := [(2, .int (nI (kk + 1))), (0, .ref mo), (1, .int (nI b))]) hx hb dX8_doors_148 hl (k := 0) rfl (nI_add kk 1) (by decide) rfl (fun ls hl => ?_)
                      refine lv_goto (tgt := 130) hx hb dX8_doors_151 (by decide) ?_
                      exact ih ls (lv_sub hl [0, 1, 2] rfl)
            · have c_53 : (z_52 = 0) := c_53
              refine lv_aload_n hx hb dX8_doors_53 rfl (lv_at hl 1 rfl) ?_
              refine va_get (D := (dC, dI)) (ci := 6) (v := .ref m8) (C := RX8) (T := TX8) (N := 32) hx hb hts iX8 hown hK hP 0 rfl rfl 8 (by decide) (hts (.fieldLink RX8 22 "ParkTowerModel" "door" "[I") (by decide +kernel)) (fun _ h9 => h9) rfl dX8_doors_54 ?_
              refine lv_iload_n hx hb dX8_doors_57 rfl (lv_at hl 0 rfl) ?_
              refine lv_aload_n hx hb dX8_doors_58 rfl (lv_at hl 1 rfl) ?_
              refine va_get (D := (dC, dI)) (ci := 6) (v := .ref m8) (C := RX8) (T := TX8) (N := 32) hx hb hts iX8 hown hK hP 0 rfl rfl 8 (by decide) (hts (.fieldLink RX8 22 "ParkTowerModel" "door" "[I") (by decide +kernel)) (fun _ h9 => h9) rfl dX8_doors_59 ?_
              refine lv_iload_n hx hb dX8_doors_62 rfl (lv_at hl 0 rfl) ?_
              refine va_iald hx hb hK hP 2 1 rfl rfl (vp_in_nI (n := b) (by omega) (by decide)) dX8_doors_63 ?_
              refine pt_topi a_7 (by rw [nI_clamp (n := b) (by omega)]; exact ea_7.symm) ?_
              refine lv_iconst (v := 1) hx hb dX8_doors_64 (by decide) ?_
              refine lv_icmp_ne (tgt := 72) hx hb dX8_doors_65 (by decide) (fun _ => ?_) (fun c => absurd c (by assumption))
              refine lv_iconst (v := 0) hx hb dX8_doors_72 (by decide) ?_
              refine va_iast hx hb hK hP hD hS 2 1 rfl rfl (vp_in_nI (n := b) (by omega) (by decide)) dX8_doors_73 (fun H locs hP hD hS => ?_)
              rw [nI_clamp (n := b) (by omega)] at hP hD
              have hP : va_P (dC, dI) vwCl [(mo, .inr (6, [.int th, .int tm, .int (nI sr), .int (nI nc), .ref m4, .ref m5, .ref m6, .ref m7, .ref m8, .ref m9, .ref m10, .ref m11, .ref m12, .int pw, .int rn, .int (nI n1), .ref m16, .ref m17, .ref m18, .int (nI bz), .int (nI dg), .int (nI db), .int (nI df), .int (nI sp), .int tg, .int lf, .int mm, .ref m27, .int fo, .ref m29, .ref m30, .ref m31])), (m5, .inl (y5, 700, .inl f5)), (m8, .inl (y8, 2, .inl (upd h8 b 0))), (m9, .inl (y9, 2, .inl (upd h9 b z_52))), (m10, .inl (y10, 2, .inl f10)), (m11, .inl (y11, 2, .inl f11)), (m16, .inl (y16, 24, .inl h16)), (m17, .inl (y17, 24, .inl h17)), (m18, .inl (y18, 24, .inl h18))] H := hP
              have hD : va_D A [(mo, .inr (6, [.int th, .int tm, .int (nI sr), .int (nI nc), .ref m4, .ref m5, .ref m6, .ref m7, .ref m8, .ref m9, .ref m10, .ref m11, .ref m12, .int pw, .int rn, .int (nI n1), .ref m16, .ref m17, .ref m18, .int (nI bz), .int (nI dg), .int (nI db), .int (nI df), .int (nI sp), .int tg, .int lf, .int mm, .ref m27, .int fo, .ref m29, .ref m30, .ref m31])), (m5, .inl (y5, 700, .inl f5)), (m8, .inl (y8, 2, .inl (upd h8 b 0))), (m9, .inl (y9, 2, .inl (upd h9 b z_52))), (m10, .inl (y10, 2, .inl f10)), (m11, .inl (y11, 2, .inl f11)), (m16, .inl (y16, 24, .inl h16)), (m17, .inl (y17, 24, .inl h17)), (m18, .inl (y18, 24, .inl h18))] := hD
              refine lv_aload_n hx hb dX8_doors_74 rfl (lv_at hl 1 rfl) ?_
              refine va_get (D := (dC, dI)) (ci := 6) (v := .ref m9) (C := RX8) (T := TX8) (N := 32) hx hb hts iX8 hown hK hP 0 rfl rfl 9 (by decide) (hts (.fieldLink RX8 25 "ParkTowerModel" "left" "[I") (by decide +kernel)) (fun _ h9 => h9) rfl dX8_doors_75 ?_
              refine lv_iload_n hx hb dX8_doors_78 rfl (lv_at hl 0 rfl) ?_
              refine va_iald hx hb hK hP 3 2 rfl rfl (vp_in_nI (n := b) (by omega) (by decide)) dX8_doors_79 ?_
              refine pt_topi z_52 (by rw [nI_clamp (n := b) (by omega)]; exact pk_us) ?_
              refine lv_if_ne (tgt := 128) hx hb dX8_doors_80 (by decide) (fun c => absurd (by assumption) c) (fun _ => ?_)
              refine lv_aload_n hx hb dX8_doors_83 rfl (lv_at hl 1 rfl) ?_
              refine va_get (D := (dC, dI)) (ci := 6) (v := .ref m8) (C := RX8) (T := TX8) (N := 32) hx hb hts iX8 hown hK hP 0 rfl rfl 8 (by decide) (hts (.fieldLink RX8 22 "ParkTowerModel" "door" "[I") (by decide +kernel)) (fun _ h9 => h9) rfl dX8_doors_84 ?_
              refine lv_iload_n hx hb dX8_doors_87 rfl (lv_at hl 0 rfl) ?_
              refine va_iald hx hb hK hP 2 1 rfl rfl (vp_in_nI (n := b) (by omega) (by decide)) dX8_doors_88 ?_
              refine pt_topi 0 (by rw [nI_clamp (n := b) (by omega)]; exact pk_us) ?_
              refine lv_if_ne (tgt := 128) hx hb dX8_doors_89 (by decide) (fun c => absurd (by decide) c) (fun _ => ?_)
              refine lv_aload_n hx hb dX8_doors_92 rfl (lv_at hl 1 rfl) ?_
              refine va_get (D := (dC, dI)) (ci := 6) (v := .ref m11) (C := RX8) (T := TX8) (N := 32) hx hb hts iX8 hown hK hP 0 rfl rfl 11 (by decide) (hts (.fieldLink RX8 32 "ParkTowerModel" "bay" "[I") (by decide +kernel)) (fun _ h9 => h9) rfl dX8_doors_93 ?_
              refine lv_iload_n hx hb dX8_doors_96 rfl (lv_at hl 0 rfl) ?_
              refine va_iald hx hb hK hP 5 4 rfl rfl (vp_in_nI (n := b) (by omega) (by decide)) dX8_doors_97 ?_
              refine lv_topi (fun a_67 ea_67 => ?_)
              rw [nI_clamp (n := b) (by omega)] at ea_67
              rcases (show mB nc a_67 by rw [ea_67]; exact hM.hy _) with rfl | ⟨j_67, hj_67, rfl⟩
              · skip
                refine lv_if_lt (tgt := 128) hx hb dX8_doors_98 (by decide) (fun _ => ?_) (fun c => absurd (by decide) c)
                have hM2 : MI nc n1 bz dg df sp mm f5 f6 f7 (upd h8 b 0) f11 h16 h17 f27 := MI.door0 hM
                have hnn : n1 ≤ 24 := (hM2).n24
                refine pt_cutX (α := Nat) 154 [] (fun fi ls => fi ≤ n1 ∧ lv_has ls 3 [(2, .int (nI fi)), (0, .ref mo), (1, .int (nI b))]) (fun fi ls hI => ?_) (fun K => ?_)
                · obtain ⟨hfi, hl⟩ := hI
                  have hl : lv_has ls 3 [(2, .int (nI fi)), (0, .ref mo), (1, .int (nI b))] := hl
                  refine lv_aload_n hx hb dX8_doors_154 rfl (lv_at hl 1 rfl) ?_
                  refine va_get (D := (dC, dI)) (ci := 6) (v := .int pw) (C := RX8) (T := TX8) (N := 32) hx hb hts iX8 hown hK hP 0 rfl rfl 13 (by decide) (hts (.fieldLink RX8 38 "ParkTowerModel" "power" "Z") (by decide +kernel)) (fun _ h9 => h9) rfl dX8_doors_155 ?_
                  refine lv_if_eq (tgt := 212) hx hb dX8_doors_158 (by decide) (fun c => absurd c (by assumption)) (fun _ => ?_)
                  refine lv_aload_n hx hb dX8_doors_161 rfl (lv_at hl 1 rfl) ?_
                  refine va_get (D := (dC, dI)) (ci := 6) (v := .ref m8) (C := RX8) (T := TX8) (N := 32) hx hb hts iX8 hown hK hP 0 rfl rfl 8 (by decide) (hts (.fieldLink RX8 22 "ParkTowerModel" "door" "[I") (by decide +kernel)) (fun _ h9 => h9) rfl dX8_doors_162 ?_
                  refine lv_iload_n hx hb dX8_doors_165 rfl (lv_at hl 2 rfl) ?_
                  refine va_iald hx hb hK hP 2 1 rfl rfl (vp_in_nI (n := b) (by omega) (by decide)) dX8_doors_166 ?_
                  refine pt_topi 0 (by rw [nI_clamp (n := b) (by omega)]; exact pk_us) ?_
                  refine lv_iconst (v := 2) hx hb dX8_doors_167 (by decide) ?_
                  refine lv_icmp_ne (tgt := 212) hx hb dX8_doors_168 (by decide) (fun _ => ?_) (fun c => absurd c (by decide))
                  refine lv_iinc (v := nI (b + 1)) (lv' := [(1, .int (nI (b + 1))), (2, .int (nI fi)), (0, .ref mo)]) hx hb dX8_doors_212 hl (k := 2) rfl (nI_add b 1) (by decide) rfl (fun ls hl => ?_)
                  refine lv_goto (tgt := 2) hx hb dX8_doors_215 (by decide) ?_
                  exact ih_2 H locs ls ⟨n1, upd h8 b 0, upd h9 b z_52, h16, h17, h18, lv_sub hl [0, 2] rfl, hM2, hfe, hP.sub [0, 1, 2, 3, 4, 5, 6, 7, 8] rfl, hD.sub [0, 1, 2, 3, 4, 5, 6, 7, 8] (by decide) rfl, hS⟩
                · skip
                  refine lv_iconst (v := 0) hx hb dX8_doors_128 (by decide) ?_
                  refine lv_istore_n (lv' := [(2, .int 0), (1, .int (nI b)), (0, .ref mo)]) hx hb dX8_doors_129 rfl hl (by decide) rfl (fun ls hl => ?_)
                  refine pt_loop n1 (fun kk ls => lv_has ls 3 [(2, .int (nI kk)), (0, .ref mo), (1, .int (nI b))]) (fun ls hI => ?_) (fun kk ls hk hI ih => ?_) (lv_sub hl [0, 2, 1] rfl)
                  · have hl := hI
                    have hl : lv_has ls 3 [(2, .int (nI n1)), (0, .ref mo), (1, .int (nI b))] := hl
                    refine lv_iload_n hx hb dX8_doors_130 rfl (lv_at hl 0 rfl) ?_
                    refine lv_aload_n hx hb dX8_doors_131 rfl (lv_at hl 1 rfl) ?_
                    refine va_get (D := (dC, dI)) (ci := 6) (v := .int (nI n1)) (C := RX8) (T := TX8) (N := 32) hx hb hts iX8 hown hK hP 0 rfl rfl 15 (by decide) (hts (.fieldLink RX8 93 "ParkTowerModel" "orders" "I") (by decide +kernel)) (fun _ h9 => h9) rfl dX8_doors_132 ?_
                    refine lv_icmp_ge (tgt := 154) hx hb dX8_doors_135 (by decide) (fun c_68 => ?_) (fun c_68 => ?_)
                    · have c_68 : n1 ≤ n1 := (nI_leI (a := n1) (b := n1) (by omega) (by omega)).mp c_68
                      exact K n1 ls ⟨by omega, lv_sub hl [0, 1, 2] rfl⟩
                    · have c_68 : ¬ (n1 ≤ n1) := fun q_ => c_68 ((nI_leI (a := n1) (b := n1) (by omega) (by omega)).mpr q_)
                      exact (by omega : False).elim
                  · have hl := hI
                    have hl : lv_has ls 3 [(2, .int (nI kk)), (0, .ref mo), (1, .int (nI b))] := hl
                    refine lv_iload_n hx hb dX8_doors_130 rfl (lv_at hl 0 rfl) ?_
                    refine lv_aload_n hx hb dX8_doors_131 rfl (lv_at hl 1 rfl) ?_
                    refine va_get (D := (dC, dI)) (ci := 6) (v := .int (nI n1)) (C := RX8) (T := TX8) (N := 32) hx hb hts iX8 hown hK hP 0 rfl rfl 15 (by decide) (hts (.fieldLink RX8 93 "ParkTowerModel" "orders" "I") (by decide +kernel)) (fun _ h9 => h9) rfl dX8_doors_132 ?_
                    refine lv_icmp_ge (tgt := 154) hx hb dX8_doors_135 (by decide) (fun c_69 => ?_) (fun c_69 => ?_)
                    · have c_69 : n1 ≤ kk := (nI_leI (a := n1) (b := kk) (by omega) (by omega)).mp c_69
                      exact K kk ls ⟨by omega, lv_sub hl [0, 1, 2] rfl⟩
                    · have c_69 : ¬ (n1 ≤ kk) := fun q_ => c_69 ((nI_leI (a := n1) (b := kk) (by omega) (by omega)).mpr q_)
                      refine lv_aload_n hx hb dX8_doors_138 rfl (lv_at hl 1 rfl) ?_
                      refine va_get (D := (dC, dI)) (ci := 6) (v := .ref m17) (C := RX8) (T := TX8) (N := 32) hx hb hts iX8 hown hK hP 0 rfl rfl 17 (by decide) (hts (.fieldLink RX8 45 "ParkTowerModel" "orderBay" "[I") (by decide +kernel)) (fun _ h9 => h9) rfl dX8_doors_139 ?_
                      refine lv_iload_n hx hb dX8_doors_142 rfl (lv_at hl 0 rfl) ?_
                      refine va_iald hx hb hK hP 7 6 rfl rfl (vp_in_nI (n := kk) (by omega) (by decide)) dX8_doors_143 ?_
                      refine lv_topi (fun a_70 ea_70 => ?_)
                      rw [nI_clamp (n := kk) (by omega)] at ea_70
                      refine lv_iload_n hx hb dX8_doors_144 rfl (lv_at hl 2 rfl) ?_
                      refine lv_icmp_eq (tgt := 154) hx hb dX8_doors_145 (by decide) (fun c_71 => ?_) (fun c_71 => ?_)
                      · have c_71 : (a_70 = (nI b)) := c_71
                        exact K kk ls ⟨by omega, lv_sub hl [0, 1, 2] rfl⟩
                      · have c_71 : ¬ (a_70 = (nI b)) := c_71
                        refine lv_iinc (v := nI (kk + 1)) (lv' := [(2, .int (nI (kk + 1))), (0, .ref mo), (1, .int (nI b))]) hx hb dX8_doors_148 hl (k := 0) rfl (nI_add kk 1) (by decide) rfl (fun ls hl => ?_)
                        refine lv_goto (tgt := 130) hx hb dX8_doors_151 (by decide) ?_
                        exact ih ls (lv_sub hl [0, 1, 2] rfl)
              · skip
                refine lv_if_lt (tgt := 128) hx hb dX8_doors_98 (by decide) (fun c_72 => ?_) (fun c_72 => ?_)
                · have c_72 : j_67 < 0 := (nI_ltI (a := j_67) (b := 0) (by omega) (by omega)).mp c_72
                  exact (by omega : False).elim
                · have c_72 : ¬ (j_67 < 0) := fun q_ => c_72 ((nI_ltI (a := j_67) (b := 0) (by omega) (by omega)).mpr q_)
                  refine lv_aload_n hx hb dX8_doors_101 rfl (lv_at hl 1 rfl) ?_
                  refine va_get (D := (dC, dI)) (ci := 6) (v := .ref m5) (C := RX8) (T := TX8) (N := 32) hx hb hts iX8 hown hK hP 0 rfl rfl 5 (by decide) (hts (.fieldLink RX8 13 "ParkTowerModel" "where" "[I") (by decide +kernel)) (fun _ h9 => h9) rfl dX8_doors_102 ?_
                  refine lv_aload_n hx hb dX8_doors_105 rfl (lv_at hl 1 rfl) ?_
                  refine va_get (D := (dC, dI)) (ci := 6) (v := .ref m11) (C := RX8) (T := TX8) (N := 32) hx hb hts iX8 hown hK hP 0 rfl rfl 11 (by decide) (hts (.fieldLink RX8 32 "ParkTowerModel" "bay" "[I") (by decide +kernel)) (fun _ h9 => h9) rfl dX8_doors_106 ?_
                  refine lv_iload_n hx hb dX8_doors_109 rfl (lv_at hl 0 rfl) ?_
                  refine va_iald hx hb hK hP 5 4 rfl rfl (vp_in_nI (n := b) (by omega) (by decide)) dX8_doors_110 ?_
                  refine pt_topi (nI j_67) (by rw [nI_clamp (n := b) (by omega)]; exact ea_67.symm) ?_
                  refine va_iald hx hb hK hP 1 0 rfl rfl (vp_in_nI (n := j_67) (by omega) (by decide)) dX8_doors_111 ?_
                  refine lv_topi (fun a_73 ea_73 => ?_)
                  rw [nI_clamp (n := j_67) (by omega)] at ea_73
                  refine lv_iconst (v := 1) hx hb dX8_doors_112 (by decide) ?_
                  refine lv_icmp_ne (tgt := 128) hx hb dX8_doors_113 (by decide) (fun c_74 => ?_) (fun c_74 => ?_)
                  · have c_74 : ¬ (a_73 = 1) := c_74
                    have hM2 : MI nc n1 bz dg df sp mm f5 f6 f7 (upd h8 b 0) f11 h16 h17 f27 := MI.door0 hM
                    have hnn : n1 ≤ 24 := (hM2).n24
                    refine pt_cutX (α := Nat) 154 [] (fun fi ls => fi ≤ n1 ∧ lv_has ls 3 [(2, .int (nI fi)), (0, .ref mo), (1, .int (nI b))]) (fun fi ls hI => ?_) (fun K => ?_)
                    · obtain ⟨hfi, hl⟩ := hI
                      have hl : lv_has ls 3 [(2, .int (nI fi)), (0, .ref mo), (1, .int (nI b))] := hl
                      refine lv_aload_n hx hb dX8_doors_154 rfl (lv_at hl 1 rfl) ?_
                      refine va_get (D := (dC, dI)) (ci := 6) (v := .int pw) (C := RX8) (T := TX8) (N := 32) hx hb hts iX8 hown hK hP 0 rfl rfl 13 (by decide) (hts (.fieldLink RX8 38 "ParkTowerModel" "power" "Z") (by decide +kernel)) (fun _ h9 => h9) rfl dX8_doors_155 ?_
                      refine lv_if_eq (tgt := 212) hx hb dX8_doors_158 (by decide) (fun c => absurd c (by assumption)) (fun _ => ?_)
                      refine lv_aload_n hx hb dX8_doors_161 rfl (lv_at hl 1 rfl) ?_
                      refine va_get (D := (dC, dI)) (ci := 6) (v := .ref m8) (C := RX8) (T := TX8) (N := 32) hx hb hts iX8 hown hK hP 0 rfl rfl 8 (by decide) (hts (.fieldLink RX8 22 "ParkTowerModel" "door" "[I") (by decide +kernel)) (fun _ h9 => h9) rfl dX8_doors_162 ?_
                      refine lv_iload_n hx hb dX8_doors_165 rfl (lv_at hl 2 rfl) ?_
                      refine va_iald hx hb hK hP 2 1 rfl rfl (vp_in_nI (n := b) (by omega) (by decide)) dX8_doors_166 ?_
                      refine pt_topi 0 (by rw [nI_clamp (n := b) (by omega)]; exact pk_us) ?_
                      refine lv_iconst (v := 2) hx hb dX8_doors_167 (by decide) ?_
                      refine lv_icmp_ne (tgt := 212) hx hb dX8_doors_168 (by decide) (fun _ => ?_) (fun c => absurd c (by decide))
                      refine lv_iinc (v := nI (b + 1)) (lv' := [(1, .int (nI (b + 1))), (2, .int (nI fi)), (0, .ref mo)]) hx hb dX8_doors_212 hl (k := 2) rfl (nI_add b 1) (by decide) rfl (fun ls hl => ?_)
                      refine lv_goto (tgt := 2) hx hb dX8_doors_215 (by decide) ?_
                      exact ih_2 H locs ls ⟨n1, upd h8 b 0, upd h9 b z_52, h16, h17, h18, lv_sub hl [0, 2] rfl, hM2, hfe, hP.sub [0, 1, 2, 3, 4, 5, 6, 7, 8] rfl, hD.sub [0, 1, 2, 3, 4, 5, 6, 7, 8] (by decide) rfl, hS⟩
                    · skip
                      refine lv_iconst (v := 0) hx hb dX8_doors_128 (by decide) ?_
                      refine lv_istore_n (lv' := [(2, .int 0), (1, .int (nI b)), (0, .ref mo)]) hx hb dX8_doors_129 rfl hl (by decide) rfl (fun ls hl => ?_)
                      refine pt_loop n1 (fun kk ls => lv_has ls 3 [(2, .int (nI kk)), (0, .ref mo), (1, .int (nI b))]) (fun ls hI => ?_) (fun kk ls hk hI ih => ?_) (lv_sub hl [0, 2, 1] rfl)
                      · have hl := hI
                        have hl : lv_has ls 3 [(2, .int (nI n1)), (0, .ref mo), (1, .int (nI b))] := hl
                        refine lv_iload_n hx hb dX8_doors_130 rfl (lv_at hl 0 rfl) ?_
                        refine lv_aload_n hx hb dX8_doors_131 rfl (lv_at hl 1 rfl) ?_
                        refine va_get (D := (dC, dI)) (ci := 6) (v := .int (nI n1)) (C := RX8) (T := TX8) (N := 32) hx hb hts iX8 hown hK hP 0 rfl rfl 15 (by decide) (hts (.fieldLink RX8 93 "ParkTowerModel" "orders" "I") (by decide +kernel)) (fun _ h9 => h9) rfl dX8_doors_132 ?_
                        refine lv_icmp_ge (tgt := 154) hx hb dX8_doors_135 (by decide) (fun c_75 => ?_) (fun c_75 => ?_)
                        · have c_75 : n1 ≤ n1 := (nI_leI (a := n1) (b := n1) (by omega) (by omega)).mp c_75
                          exact K n1 ls ⟨by omega, lv_sub hl [0, 1, 2] rfl⟩
                        · have c_75 : ¬ (n1 ≤ n1) := fun q_ => c_75 ((nI_leI (a := n1) (b := n1) (by omega) (by omega)).mpr q_)
                          exact (by omega : False).elim
                      · have hl := hI
                        have hl : lv_has ls 3 [(2, .int (nI kk)), (0, .ref mo), (1, .int (nI b))] := hl
                        refine lv_iload_n hx hb dX8_doors_130 rfl (lv_at hl 0 rfl) ?_
                        refine lv_aload_n hx hb dX8_doors_131 rfl (lv_at hl 1 rfl) ?_
                        refine va_get (D := (dC, dI)) (ci := 6) (v := .int (nI n1)) (C := RX8) (T := TX8) (N := 32) hx hb hts iX8 hown hK hP 0 rfl rfl 15 (by decide) (hts (.fieldLink RX8 93 "ParkTowerModel" "orders" "I") (by decide +kernel)) (fun _ h9 => h9) rfl dX8_doors_132 ?_
                        refine lv_icmp_ge (tgt := 154) hx hb dX8_doors_135 (by decide) (fun c_76 => ?_) (fun c_76 => ?_)
                        · have c_76 : n1 ≤ kk := (nI_leI (a := n1) (b := kk) (by omega) (by omega)).mp c_76
                          exact K kk ls ⟨by omega, lv_sub hl [0, 1, 2] rfl⟩
                        · have c_76 : ¬ (n1 ≤ kk) := fun q_ => c_76 ((nI_leI (a := n1) (b := kk) (by omega) (by omega)).mpr q_)
                          refine lv_aload_n hx hb dX8_doors_138 rfl (lv_at hl 1 rfl) ?_
                          refine va_get (D := (dC, dI)) (ci := 6) (v := .ref m17) (C := RX8) (T := TX8) (N := 32) hx hb hts iX8 hown hK hP 0 rfl rfl 17 (by decide) (hts (.fieldLink RX8 45 "ParkTowerModel" "orderBay" "[I") (by decide +kernel)) (fun _ h9 => h9) rfl dX8_doors_139 ?_
                          refine lv_iload_n hx hb dX8_doors_142 rfl (lv_at hl 0 rfl) ?_
                          refine va_iald hx hb hK hP 7 6 rfl rfl (vp_in_nI (n := kk) (by omega) (by decide)) dX8_doors_143 ?_
                          refine lv_topi (fun a_77 ea_77 => ?_)
                          rw [nI_clamp (n := kk) (by omega)] at ea_77
                          refine lv_iload_n hx hb dX8_doors_144 rfl (lv_at hl 2 rfl) ?_
                          refine lv_icmp_eq (tgt := 154) hx hb dX8_doors_145 (by decide) (fun c_78 => ?_) (fun c_78 => ?_)
                          · have c_78 : (a_77 = (nI b)) := c_78
                            exact K kk ls ⟨by omega, lv_sub hl [0, 1, 2] rfl⟩
                          · have c_78 : ¬ (a_77 = (nI b)) := c_78
                            refine lv_iinc (v := nI (kk + 1)) (lv' := [(2, .int (nI (kk + 1))), (0, .ref mo), (1, .int (nI b))]) hx hb dX8_doors_148 hl (k := 0) rfl (nI_add kk 1) (by decide) rfl (fun ls hl => ?_)
                            refine lv_goto (tgt := 130) hx hb dX8_doors_151 (by decide) ?_
                            exact ih ls (lv_sub hl [0, 1, 2] rfl)
                  · have c_74 : (a_73 = 1) := c_74
                    obtain ⟨hMs, hn24⟩ := MI.stored (x := nI b) hM (by omega) (by omega) ea_67.symm (ea_73.symm.trans (by assumption)) (fun q9 => absurd ((ea_7.trans q9).symm.trans (by assumption)) (by decide)) (sB_nI (by omega))
                    refine lv_aload_n hx hb dX8_doors_116 rfl (lv_at hl 1 rfl) ?_
                    refine lv_aload_n hx hb dX8_doors_117 rfl (lv_at hl 1 rfl) ?_
                    refine va_get (D := (dC, dI)) (ci := 6) (v := .ref m11) (C := RX8) (T := TX8) (N := 32) hx hb hts iX8 hown hK hP 0 rfl rfl 11 (by decide) (hts (.fieldLink RX8 32 "ParkTowerModel" "bay" "[I") (by decide +kernel)) (fun _ h9 => h9) rfl dX8_doors_118 ?_
                    refine lv_iload_n hx hb dX8_doors_121 rfl (lv_at hl 0 rfl) ?_
                    refine va_iald hx hb hK hP 5 4 rfl rfl (vp_in_nI (n := b) (by omega) (by decide)) dX8_doors_122 ?_
                    refine pt_topi (nI j_67) (by rw [nI_clamp (n := b) (by omega)]; exact ea_67.symm) ?_
                    refine lv_iload_n hx hb dX8_doors_123 rfl (lv_at hl 0 rfl) ?_
                    refine lv_iconst (v := 0) hx hb dX8_doors_124 (by decide) ?_
                    have hPc := hP.sub (ws' := [(mo, .inr (6, [.int th, .int tm, .int (nI sr), .int (nI nc), .ref m4, .ref m5, .ref m6, .ref m7, .ref m8, .ref m9, .ref m10, .ref m11, .ref m12, .int pw, .int rn, .int (nI n1), .ref m16, .ref m17, .ref m18, .int (nI bz), .int (nI dg), .int (nI db), .int (nI df), .int (nI sp), .int tg, .int lf, .int mm, .ref m27, .int fo, .ref m29, .ref m30, .ref m31])), (m16, .inl (y16, 24, .inl h16)), (m17, .inl (y17, 24, .inl h17)), (m18, .inl (y18, 24, .inl h18))]) [0, 6, 7, 8] rfl
                    have hDc := hD.sub (ws' := [(mo, .inr (6, [.int th, .int tm, .int (nI sr), .int (nI nc), .ref m4, .ref m5, .ref m6, .ref m7, .ref m8, .ref m9, .ref m10, .ref m11, .ref m12, .int pw, .int rn, .int (nI n1), .ref m16, .ref m17, .ref m18, .int (nI bz), .int (nI dg), .int (nI db), .int (nI df), .int (nI sp), .int tg, .int lf, .int mm, .ref m27, .int fo, .ref m29, .ref m30, .ref m31])), (m16, .inl (y16, 24, .inl h16)), (m17, .inl (y17, 24, .inl h17)), (m18, .inl (y18, 24, .inl h18))]) [0, 6, 7, 8] (by decide) rfl
                    have hKc := hK.sub (tys' := [(y16, .int), (y17, .int), (y18, .boolean)]) [5, 6, 7] rfl
                    have hFc := va_free (wc := [(mo, .inr (6, [.int th, .int tm, .int (nI sr), .int (nI nc), .ref m4, .ref m5, .ref m6, .ref m7, .ref m8, .ref m9, .ref m10, .ref m11, .ref m12, .int pw, .int rn, .int (nI n1), .ref m16, .ref m17, .ref m18, .int (nI bz), .int (nI dg), .int (nI db), .int (nI df), .int (nI sp), .int tg, .int lf, .int mm, .ref m27, .int fo, .ref m29, .ref m30, .ref m31])), (m16, .inl (y16, 24, .inl h16)), (m17, .inl (y17, 24, .inl h17)), (m18, .inl (y18, 24, .inl h18))]) hD hS hA [0, 6, 7, 8] rfl
                    refine va_callv (va_runV (As := [.int (nI j_67), .int (nI b), .int 0]) (rest := []) ⟨hx, hb, hml, hown, hts⟩ (m_add0 l dC dI _ mo m4 m5 m6 m7 m8 m9 m10 m11 m12 m16 m17 m18 m27 m29 m30 m31 th tm pw rn tg lf mm fo sr nc n1 bz dg db df sp y16 y17 y18 h16 h17 h18 (nI j_67) (nI b) (by omega)) (cwV 3 hts gX8_doors_X8_add rfl rfl rfl (by decide +kernel) ⟨Nat.le_of_ble_eq_true rfl, Nat.le_of_ble_eq_true rfl⟩) ⟨pt_blindQ, va_recv hK hP (ci := 6) (q0 := 0) rfl rfl, pt_preQ hPc hKc hDc hN⟩ rfl rfl hl.1 rfl (lv_room (Nat.le_of_ble_eq_true rfl)) dX8_doors_125 ⟨Nat.le_of_ble_eq_true rfl, Nat.le_of_ble_eq_true rfl⟩) hS (fun q _ h => hFc q h) hFc (fun u_79 t H1 locs ht hvm hw_79 hB hz1 hk1 hS => ?_)
                    obtain ⟨v_79, n_79, F_79⟩ := u_79
                    obtain ⟨hP1, hK1, hD1⟩ := hB
                    try dsimp only at hw_79
                    rw [ht] at hP1
                    have hK1 := va_K.moved hvm.symm hK1
                    obtain ⟨hP, hD⟩ := va_join (wr := [(m5, .inl (y5, 700, .inl f5)), (m8, .inl (y8, 2, .inl (upd h8 b 0))), (m9, .inl (y9, 2, .inl (upd h9 b z_52))), (m10, .inl (y10, 2, .inl f10)), (m11, .inl (y11, 2, .inl f11))]) (w1 := [(mo, .inr (6, [.int th, .int tm, .int (nI sr), .int (nI nc), .ref m4, .ref m5, .ref m6, .ref m7, .ref m8, .ref m9, .ref m10, .ref m11, .ref m12, .int pw, .int rn, .int (nI (n1 + 1)), .ref m16, .ref m17, .ref m18, .int (nI bz), .int (nI dg), .int (nI db), .int (nI df), .int (nI sp), .int tg, .int lf, .int mm, .ref m27, .int fo, .ref m29, .ref m30, .ref m31])), (m16, .inl (y16, 24, .inl (upd h16 n1 (nI j_67)))), (m17, .inl (y17, 24, .inl (upd h17 n1 (nI b)))), (m18, .inl (y18, 24, .inl (upd h18 n1 0)))]) hP hD [0, 6, 7, 8] [1, 2, 3, 4, 5] rfl rfl (by decide) (by decide) hk1 hFc hP1 hD1
                    have hK := hK.app hK1
                    generalize H1 = H at hP hS ⊢
                    have hP : va_P (dC, dI) vwCl [(m5, .inl (y5, 700, .inl f5)), (m8, .inl (y8, 2, .inl (upd h8 b 0))), (m9, .inl (y9, 2, .inl (upd h9 b z_52))), (m10, .inl (y10, 2, .inl f10)), (m11, .inl (y11, 2, .inl f11)), (mo, .inr (6, [.int th, .int tm, .int (nI sr), .int (nI nc), .ref m4, .ref m5, .ref m6, .ref m7, .ref m8, .ref m9, .ref m10, .ref m11, .ref m12, .int pw, .int rn, .int (nI (n1 + 1)), .ref m16, .ref m17, .ref m18, .int (nI bz), .int (nI dg), .int (nI db), .int (nI df), .int (nI sp), .int tg, .int lf, .int mm, .ref m27, .int fo, .ref m29, .ref m30, .ref m31])), (m16, .inl (y16, 24, .inl (upd h16 n1 (nI j_67)))), (m17, .inl (y17, 24, .inl (upd h17 n1 (nI b)))), (m18, .inl (y18, 24, .inl (upd h18 n1 0)))] H := hP
                    have hD : va_D A [(m5, .inl (y5, 700, .inl f5)), (m8, .inl (y8, 2, .inl (upd h8 b 0))), (m9, .inl (y9, 2, .inl (upd h9 b z_52))), (m10, .inl (y10, 2, .inl f10)), (m11, .inl (y11, 2, .inl f11)), (mo, .inr (6, [.int th, .int tm, .int (nI sr), .int (nI nc), .ref m4, .ref m5, .ref m6, .ref m7, .ref m8, .ref m9, .ref m10, .ref m11, .ref m12, .int pw, .int rn, .int (nI (n1 + 1)), .ref m16, .ref m17, .ref m18, .int (nI bz), .int (nI dg), .int (nI db), .int (nI df), .int (nI sp), .int tg, .int lf, .int mm, .ref m27, .int fo, .ref m29, .ref m30, .ref m31])), (m16, .inl (y16, 24, .inl (upd h16 n1 (nI j_67)))), (m17, .inl (y17, 24, .inl (upd h17 n1 (nI b)))), (m18, .inl (y18, 24, .inl (upd h18 n1 0)))] := hD
                    have hK : va_K (dC, dI) vwCl [(y5, .int), (y8, .int), (y9, .int), (y10, .boolean), (y11, .int), (y16, .int), (y17, .int), (y18, .boolean)] s := hK
                    have hnn : n1 + 1 ≤ 24 := (hMs).n24
                    refine pt_cutX (α := Nat) 154 [] (fun fi ls => fi ≤ n1 + 1 ∧ lv_has ls 3 [(2, .int (nI fi)), (0, .ref mo), (1, .int (nI b))]) (fun fi ls hI => ?_) (fun K => ?_)
                    · obtain ⟨hfi, hl⟩ := hI
                      have hl : lv_has ls 3 [(2, .int (nI fi)), (0, .ref mo), (1, .int (nI b))] := hl
                      refine lv_aload_n hx hb dX8_doors_154 rfl (lv_at hl 1 rfl) ?_
                      refine va_get (D := (dC, dI)) (ci := 6) (v := .int pw) (C := RX8) (T := TX8) (N := 32) hx hb hts iX8 hown hK hP 5 rfl rfl 13 (by decide) (hts (.fieldLink RX8 38 "ParkTowerModel" "power" "Z") (by decide +kernel)) (fun _ h9 => h9) rfl dX8_doors_155 ?_
                      refine lv_if_eq (tgt := 212) hx hb dX8_doors_158 (by decide) (fun c => absurd c (by assumption)) (fun _ => ?_)
                      refine lv_aload_n hx hb dX8_doors_161 rfl (lv_at hl 1 rfl) ?_
                      refine va_get (D := (dC, dI)) (ci := 6) (v := .ref m8) (C := RX8) (T := TX8) (N := 32) hx hb hts iX8 hown hK hP 5 rfl rfl 8 (by decide) (hts (.fieldLink RX8 22 "ParkTowerModel" "door" "[I") (by decide +kernel)) (fun _ h9 => h9) rfl dX8_doors_162 ?_
                      refine lv_iload_n hx hb dX8_doors_165 rfl (lv_at hl 2 rfl) ?_
                      refine va_iald hx hb hK hP 1 1 rfl rfl (vp_in_nI (n := b) (by omega) (by decide)) dX8_doors_166 ?_
                      refine pt_topi 0 (by rw [nI_clamp (n := b) (by omega)]; exact pk_us) ?_
                      refine lv_iconst (v := 2) hx hb dX8_doors_167 (by decide) ?_
                      refine lv_icmp_ne (tgt := 212) hx hb dX8_doors_168 (by decide) (fun _ => ?_) (fun c => absurd c (by decide))
                      refine lv_iinc (v := nI (b + 1)) (lv' := [(1, .int (nI (b + 1))), (2, .int (nI fi)), (0, .ref mo)]) hx hb dX8_doors_212 hl (k := 2) rfl (nI_add b 1) (by decide) rfl (fun ls hl => ?_)
                      refine lv_goto (tgt := 2) hx hb dX8_doors_215 (by decide) ?_
                      exact ih_2 H locs ls ⟨n1 + 1, upd h8 b 0, upd h9 b z_52, upd h16 n1 (nI j_67), upd h17 n1 (nI b), upd h18 n1 0, lv_sub hl [0, 2] rfl, hMs, fun i => s_upd hfe (Or.inl rfl) i, hP.sub [5, 0, 1, 2, 3, 4, 6, 7, 8] rfl, hD.sub [5, 0, 1, 2, 3, 4, 6, 7, 8] (by decide) rfl, hS⟩
                    · skip
                      refine lv_iconst (v := 0) hx hb dX8_doors_128 (by decide) ?_
                      refine lv_istore_n (lv' := [(2, .int 0), (1, .int (nI b)), (0, .ref mo)]) hx hb dX8_doors_129 rfl hl (by decide) rfl (fun ls hl => ?_)
                      refine pt_loop (n1 + 1) (fun kk ls => lv_has ls 3 [(2, .int (nI kk)), (0, .ref mo), (1, .int (nI b))]) (fun ls hI => ?_) (fun kk ls hk hI ih => ?_) (lv_sub hl [0, 2, 1] rfl)
                      · have hl := hI
                        have hl : lv_has ls 3 [(2, .int (nI (n1 + 1))), (0, .ref mo), (1, .int (nI b))] := hl
                        refine lv_iload_n hx hb dX8_doors_130 rfl (lv_at hl 0 rfl) ?_
                        refine lv_aload_n hx hb dX8_doors_131 rfl (lv_at hl 1 rfl) ?_
                        refine va_get (D := (dC, dI)) (ci := 6) (v := .int (nI (n1 + 1))) (C := RX8) (T := TX8) (N := 32) hx hb hts iX8 hown hK hP 5 rfl rfl 15 (by decide) (hts (.fieldLink RX8 93 "ParkTowerModel" "orders" "I") (by decide +kernel)) (fun _ h9 => h9) rfl dX8_doors_132 ?_
                        refine lv_icmp_ge (tgt := 154) hx hb dX8_doors_135 (by decide) (fun c_80 => ?_) (fun c_80 => ?_)
                        · have c_80 : n1 + 1 ≤ (n1 + 1) := (nI_leI (a := n1 + 1) (b := (n1 + 1)) (by omega) (by omega)).mp c_80
                          exact K (n1 + 1) ls ⟨by omega, lv_sub hl [0, 1, 2] rfl⟩
                        · have c_80 : ¬ (n1 + 1 ≤ (n1 + 1)) := fun q_ => c_80 ((nI_leI (a := n1 + 1) (b := (n1 + 1)) (by omega) (by omega)).mpr q_)
                          exact (by omega : False).elim
                      · have hl := hI
                        have hl : lv_has ls 3 [(2, .int (nI kk)), (0, .ref mo), (1, .int (nI b))] := hl
                        refine lv_iload_n hx hb dX8_doors_130 rfl (lv_at hl 0 rfl) ?_
                        refine lv_aload_n hx hb dX8_doors_131 rfl (lv_at hl 1 rfl) ?_
                        refine va_get (D := (dC, dI)) (ci := 6) (v := .int (nI (n1 + 1))) (C := RX8) (T := TX8) (N := 32) hx hb hts iX8 hown hK hP 5 rfl rfl 15 (by decide) (hts (.fieldLink RX8 93 "ParkTowerModel" "orders" "I") (by decide +kernel)) (fun _ h9 => h9) rfl dX8_doors_132 ?_
                        refine lv_icmp_ge (tgt := 154) hx hb dX8_doors_135 (by decide) (fun c_81 => ?_) (fun c_81 => ?_)
                        · have c_81 : n1 + 1 ≤ kk := (nI_leI (a := n1 + 1) (b := kk) (by omega) (by omega)).mp c_81
                          exact K kk ls ⟨by omega, lv_sub hl [0, 1, 2] rfl⟩
                        · have c_81 : ¬ (n1 + 1 ≤ kk) := fun q_ => c_81 ((nI_leI (a := n1 + 1) (b := kk) (by omega) (by omega)).mpr q_)
                          refine lv_aload_n hx hb dX8_doors_138 rfl (lv_at hl 1 rfl) ?_
                          refine va_get (D := (dC, dI)) (ci := 6) (v := .ref m17) (C := RX8) (T := TX8) (N := 32) hx hb hts iX8 hown hK hP 5 rfl rfl 17 (by decide) (hts (.fieldLink RX8 45 "ParkTowerModel" "orderBay" "[I") (by decide +kernel)) (fun _ h9 => h9) rfl dX8_doors_139 ?_
                          refine lv_iload_n hx hb dX8_doors_142 rfl (lv_at hl 0 rfl) ?_
                          refine va_iald hx hb hK hP 7 6 rfl rfl (vp_in_nI (n := kk) (by omega) (by decide)) dX8_doors_143 ?_
                          refine lv_topi (fun a_82 ea_82 => ?_)
                          rw [nI_clamp (n := kk) (by omega)] at ea_82
                          refine lv_iload_n hx hb dX8_doors_144 rfl (lv_at hl 2 rfl) ?_
                          refine lv_icmp_eq (tgt := 154) hx hb dX8_doors_145 (by decide) (fun c_83 => ?_) (fun c_83 => ?_)
                          · have c_83 : (a_82 = (nI b)) := c_83
                            exact K kk ls ⟨by omega, lv_sub hl [0, 1, 2] rfl⟩
                          · have c_83 : ¬ (a_82 = (nI b)) := c_83
                            refine lv_iinc (v := nI (kk + 1)) (lv' := [(2, .int (nI (kk + 1))), (0, .ref mo), (1, .int (nI b))]) hx hb dX8_doors_148 hl (k := 0) rfl (nI_add kk 1) (by decide) rfl (fun ls hl => ?_)
                            refine lv_goto (tgt := 130) hx hb dX8_doors_151 (by decide) ?_
                            exact ih ls (lv_sub hl [0, 1, 2] rfl)
set_option maxHeartbeats 4000000 in
set_option maxRecDepth 100000 in
theorem m_begins (l : Launch) (dC : Nat → ClassId) (dI : Nat → Nat → Nat) (sz : Nat) (mo m4 m5 m6 m7 m8 m9 m10 m11 m12 m16 m17 m18 m27 m29 m30 m31 : Nat) (th tm pw rn tg lf mm fo : Int32) (sr nc no bz dg db df sp : Nat) (y6 y7 y8 y10 y11 y12 y16 y17 y18 y29 y30 y31 : ClassId) (f6 f7 f8 f10 f11 f12 f16 f17 f18 f29 f30 f31 : Nat → Int32) (k9 : Nat) (hk9 : k9 < no) (hno : no ≤ 24) (hnc : nc ≤ 700) (hp : ∀ i, sC (f6 i)) (hf : ∀ i, mC (f7 i)) (hob : ∀ i, sB (f17 i)) (hoc : ∀ k, k < no → ∃ j : Nat, j < nc ∧ f16 k = nI j) (hdn : ∀ i, f31 i = 0) : Met l yX8_begins wsX8_begins ({ frames := 6, cells := 0, slots := 0, locals := 137 }) (va_Pc [.ref mo, .int (nI k9)] (pt_BQ (dC, dI) [(mo, .inr (6, [.int th, .int tm, .int (nI sr), .int (nI nc), .ref m4, .ref m5, .ref m6, .ref m7, .ref m8, .ref m9, .ref m10, .ref m11, .ref m12, .int pw, .int rn, .int (nI no), .ref m16, .ref m17, .ref m18, .int (nI bz), .int (nI dg), .int (nI db), .int (nI df), .int (nI sp), .int tg, .int lf, .int mm, .ref m27, .int fo, .ref m29, .ref m30, .ref m31])), (m6, .inl (y6, 700, .inl f6)), (m7, .inl (y7, 96, .inl f7)), (m8, .inl (y8, 2, .inl f8)), (m10, .inl (y10, 2, .inl f10)), (m11, .inl (y11, 2, .inl f11)), (m12, .inl (y12, 4, .inl f12)), (m16, .inl (y16, 24, .inl f16)), (m17, .inl (y17, 24, .inl f17)), (m18, .inl (y18, 24, .inl f18)), (m29, .inl (y29, 8, .inl f29)), (m30, .inl (y30, 4, .inl f30)), (m31, .inl (y31, 4, .inl f31))] [(y6, .int), (y7, .int), (y8, .int), (y10, .boolean), (y11, .int), (y12, .boolean), (y16, .int), (y17, .int), (y18, .boolean), (y29, .int), (y30, .int), (y31, .boolean)] sz)) (va_Qi (fun (r : Int32) (u : (Nat → Int32) × (Nat → Nat) × (Nat → Nat → Int32)) => (r = 0 ∨ r = 1) ∧ (∀ i, (u.2.2 2) i = 0)) (fun u t => pt_at (dC, dI) (va_A [(mo, .inr (6, [.int th, .int tm, .int (nI sr), .int (nI nc), .ref m4, .ref m5, .ref m6, .ref m7, .ref m8, .ref m9, .ref m10, .ref m11, .ref m12, .int pw, .int rn, .int (nI no), .ref m16, .ref m17, .ref m18, .int (nI bz), .int (nI dg), .int (nI db), .int (nI df), .int (nI sp), .int tg, .int lf, .int mm, .ref m27, .int fo, .ref m29, .ref m30, .ref m31])), (m6, .inl (y6, 700, .inl f6)), (m7, .inl (y7, 96, .inl f7)), (m8, .inl (y8, 2, .inl f8)), (m10, .inl (y10, 2, .inl f10)), (m11, .inl (y11, 2, .inl f11)), (m12, .inl (y12, 4, .inl f12)), (m16, .inl (y16, 24, .inl f16)), (m17, .inl (y17, 24, .inl f17)), (m18, .inl (y18, 24, .inl f18)), (m29, .inl (y29, 8, .inl f29)), (m30, .inl (y30, 4, .inl f30)), (m31, .inl (y31, 4, .inl f31))] sz) [(mo, .inr (6, [.int th, .int tm, .int (nI sr), .int (nI nc), .ref m4, .ref m5, .ref m6, .ref m7, .ref m8, .ref m9, .ref m10, .ref m11, .ref m12, .int pw, .int rn, .int (nI no), .ref m16, .ref m17, .ref m18, .int (nI bz), .int (nI dg), .int (nI db), .int (nI df), .int (nI sp), .int tg, .int lf, .int mm, .ref m27, .int fo, .ref m29, .ref m30, .ref m31])), (m6, .inl (y6, 700, .inl f6)), (m7, .inl (y7, 96, .inl f7)), (m8, .inl (y8, 2, .inl f8)), (m10, .inl (y10, 2, .inl f10)), (m11, .inl (y11, 2, .inl f11)), (m12, .inl (y12, 4, .inl f12)), (m16, .inl (y16, 24, .inl f16)), (m17, .inl (y17, 24, .inl f17)), (m18, .inl (y18, 24, .inl f18)), (m29, .inl (y29, 8, .inl (u.2.2 0))), (m30, .inl (y30, 4, .inl (u.2.2 1))), (m31, .inl (y31, 4, .inl (u.2.2 2)))] [] t) (va_A [(mo, .inr (6, [.int th, .int tm, .int (nI sr), .int (nI nc), .ref m4, .ref m5, .ref m6, .ref m7, .ref m8, .ref m9, .ref m10, .ref m11, .ref m12, .int pw, .int rn, .int (nI no), .ref m16, .ref m17, .ref m18, .int (nI bz), .int (nI dg), .int (nI db), .int (nI df), .int (nI sp), .int tg, .int lf, .int mm, .ref m27, .int fo, .ref m29, .ref m30, .ref m31])), (m6, .inl (y6, 700, .inl f6)), (m7, .inl (y7, 96, .inl f7)), (m8, .inl (y8, 2, .inl f8)), (m10, .inl (y10, 2, .inl f10)), (m11, .inl (y11, 2, .inl f11)), (m12, .inl (y12, 4, .inl f12)), (m16, .inl (y16, 24, .inl f16)), (m17, .inl (y17, 24, .inl f17)), (m18, .inl (y18, 24, .inl f18)), (m29, .inl (y29, 8, .inl f29)), (m30, .inl (y30, 4, .inl f30)), (m31, .inl (y31, 4, .inl f31))] sz)) 0 0 (va_A [(mo, .inr (6, [.int th, .int tm, .int (nI sr), .int (nI nc), .ref m4, .ref m5, .ref m6, .ref m7, .ref m8, .ref m9, .ref m10, .ref m11, .ref m12, .int pw, .int rn, .int (nI no), .ref m16, .ref m17, .ref m18, .int (nI bz), .int (nI dg), .int (nI db), .int (nI df), .int (nI sp), .int tg, .int lf, .int mm, .ref m27, .int fo, .ref m29, .ref m30, .ref m31])), (m6, .inl (y6, 700, .inl f6)), (m7, .inl (y7, 96, .inl f7)), (m8, .inl (y8, 2, .inl f8)), (m10, .inl (y10, 2, .inl f10)), (m11, .inl (y11, 2, .inl f11)), (m12, .inl (y12, 4, .inl f12)), (m16, .inl (y16, 24, .inl f16)), (m17, .inl (y17, 24, .inl f17)), (m18, .inl (y18, 24, .inl f18)), (m29, .inl (y29, 8, .inl f29)), (m30, .inl (y30, 4, .inl f30)), (m31, .inl (y31, 4, .inl f31))] sz) := by
  refine Met.ofW (cc := cX8_begins) (maxL := 3) (ret := (some .boolean)) (by decide) rfl ?_
  intro p e s m args below meth c s₁ B hml hv
  obtain ⟨rfl, hsz, hP, hK, hD0, hN⟩ := hv
  have hx := B.exec
  have hb := B.bytes
  have hr := B.returns
  have hts := atoms_spec (ws := wsX8_begins) B.pre
  have hown : s.vm.findClass RX8 = some m.cls := findClass_of_methodNamed B.named
  have hlocks := B.notSynchronized
  have iX8 : ∀ w ∈ wsX80, w ∈ wsX8_begins := by decide +kernel
  subst hsz
  have hD := hD0.self (sz := s.heap.size)
  generalize hAe : va_A [(mo, .inr (6, [.int th, .int tm, .int (nI sr), .int (nI nc), .ref m4, .ref m5, .ref m6, .ref m7, .ref m8, .ref m9, .ref m10, .ref m11, .ref m12, .int pw, .int rn, .int (nI no), .ref m16, .ref m17, .ref m18, .int (nI bz), .int (nI dg), .int (nI db), .int (nI df), .int (nI sp), .int tg, .int lf, .int mm, .ref m27, .int fo, .ref m29, .ref m30, .ref m31])), (m6, .inl (y6, 700, .inl f6)), (m7, .inl (y7, 96, .inl f7)), (m8, .inl (y8, 2, .inl f8)), (m10, .inl (y10, 2, .inl f10)), (m11, .inl (y11, 2, .inl f11)), (m12, .inl (y12, 4, .inl f12)), (m16, .inl (y16, 24, .inl f16)), (m17, .inl (y17, 24, .inl f17)), (m18, .inl (y18, 24, .inl f18)), (m29, .inl (y29, 8, .inl f29)), (m30, .inl (y30, 4, .inl f30)), (m31, .inl (y31, 4, .inl f31))] s.heap.size = A at hD ⊢
  have hA : ∀ q : Nat, s.heap.size ≤ q → A q := fun q h => by rw [← hAe]; exact Or.inr h
  have hS : va_S A s.heap s.heap [] := va_S.rf
  have hP : va_P (dC, dI) vwCl [(mo, .inr (6, [.int th, .int tm, .int (nI sr), .int (nI nc), .ref m4, .ref m5, .ref m6, .ref m7, .ref m8, .ref m9, .ref m10, .ref m11, .ref m12, .int pw, .int rn, .int (nI no), .ref m16, .ref m17, .ref m18, .int (nI bz), .int (nI dg), .int (nI db), .int (nI df), .int (nI sp), .int tg, .int lf, .int mm, .ref m27, .int fo, .ref m29, .ref m30, .ref m31])), (m6, .inl (y6, 700, .inl f6)), (m7, .inl (y7, 96, .inl f7)), (m8, .inl (y8, 2, .inl f8)), (m10, .inl (y10, 2, .inl f10)), (m11, .inl (y11, 2, .inl f11)), (m12, .inl (y12, 4, .inl f12)), (m16, .inl (y16, 24, .inl f16)), (m17, .inl (y17, 24, .inl f17)), (m18, .inl (y18, 24, .inl f18)), (m29, .inl (y29, 8, .inl f29)), (m30, .inl (y30, 4, .inl f30)), (m31, .inl (y31, 4, .inl f31))] s.heap := hP
  have hK : va_K (dC, dI) vwCl [(y6, .int), (y7, .int), (y8, .int), (y10, .boolean), (y11, .int), (y12, .boolean), (y16, .int), (y17, .int), (y18, .boolean), (y29, .int), (y30, .int), (y31, .boolean)] s := hK
  have hl := lv_entry ([.ref mo, .int (nI k9)]) (n := 3) (Nat.le_of_ble_eq_true rfl)
  rw [lg_entry_eq]
  generalize (lg_sl ([.ref mo, .int (nI k9)]) ++ List.replicate (3 - (lg_sl ([.ref mo, .int (nI k9)])).length) Slot.unset).toArray = ls at hl ⊢
  have hl : lv_has ls 3 [(0, .ref mo), (1, .int (nI k9))] := hl
  refine lv_aload_n hx hb dX8_begins_0 rfl (lv_at hl 0 rfl) ?_
  refine va_get (D := (dC, dI)) (ci := 6) (v := .ref m18) (C := RX8) (T := TX8) (N := 32) hx hb hts iX8 hown hK hP 0 rfl rfl 18 (by decide) (hts (.fieldLink RX8 48 "ParkTowerModel" "fetches" "[Z") (by decide +kernel)) (fun _ h9 => h9) rfl dX8_begins_1 ?_
  refine lv_iload_n hx hb dX8_begins_4 rfl (lv_at hl 1 rfl) ?_
  refine va_zald hx hb hK hP 9 8 rfl rfl (vp_in_nI (n := k9) (by omega) (by decide)) dX8_begins_5 ?_
  refine lv_topi (fun a_1 ea_1 => ?_)
  rw [nI_clamp (n := k9) (by omega)] at ea_1
  refine lv_if_ne (tgt := 11) hx hb dX8_begins_6 (by decide) (fun c_2 => ?_) (fun c_2 => ?_)
  · have c_2 : ¬ (a_1 = 0) := c_2
    refine lv_aload_n hx hb dX8_begins_11 rfl (lv_at hl 0 rfl) ?_
    refine va_get (D := (dC, dI)) (ci := 6) (v := .ref m17) (C := RX8) (T := TX8) (N := 32) hx hb hts iX8 hown hK hP 0 rfl rfl 17 (by decide) (hts (.fieldLink RX8 45 "ParkTowerModel" "orderBay" "[I") (by decide +kernel)) (fun _ h9 => h9) rfl dX8_begins_12 ?_
    refine lv_iload_n hx hb dX8_begins_15 rfl (lv_at hl 1 rfl) ?_
    refine va_iald hx hb hK hP 8 7 rfl rfl (vp_in_nI (n := k9) (by omega) (by decide)) dX8_begins_16 ?_
    refine lv_topi (fun a_3 ea_3 => ?_)
    rw [nI_clamp (n := k9) (by omega)] at ea_3
    obtain ⟨j_3, hj_3, rfl⟩ := s_bay (show sB a_3 by rw [ea_3]; exact hob _)
    refine lv_istore_n (lv' := [(2, .int (nI j_3)), (0, .ref mo), (1, .int (nI k9))]) hx hb dX8_begins_17 rfl hl (by decide) rfl (fun ls hl => ?_)
    refine lv_aload_n hx hb dX8_begins_18 rfl (lv_at hl 1 rfl) ?_
    refine va_get (D := (dC, dI)) (ci := 6) (v := .ref m12) (C := RX8) (T := TX8) (N := 32) hx hb hts iX8 hown hK hP 0 rfl rfl 12 (by decide) (hts (.fieldLink RX8 35 "ParkTowerModel" "jammed" "[Z") (by decide +kernel)) (fun _ h9 => h9) rfl dX8_begins_19 ?_
    refine lv_aload_n hx hb dX8_begins_22 rfl (lv_at hl 1 rfl) ?_
    refine va_get (D := (dC, dI)) (ci := 6) (v := .ref m6) (C := RX8) (T := TX8) (N := 32) hx hb hts iX8 hown hK hP 0 rfl rfl 6 (by decide) (hts (.fieldLink RX8 16 "ParkTowerModel" "place" "[I") (by decide +kernel)) (fun _ h9 => h9) rfl dX8_begins_23 ?_
    refine lv_aload_n hx hb dX8_begins_26 rfl (lv_at hl 1 rfl) ?_
    refine va_get (D := (dC, dI)) (ci := 6) (v := .ref m16) (C := RX8) (T := TX8) (N := 32) hx hb hts iX8 hown hK hP 0 rfl rfl 16 (by decide) (hts (.fieldLink RX8 42 "ParkTowerModel" "orderCar" "[I") (by decide +kernel)) (fun _ h9 => h9) rfl dX8_begins_27 ?_
    refine lv_iload_n hx hb dX8_begins_30 rfl (lv_at hl 2 rfl) ?_
    refine va_iald hx hb hK hP 7 6 rfl rfl (vp_in_nI (n := k9) (by omega) (by decide)) dX8_begins_31 ?_
    refine lv_topi (fun a_4 ea_4 => ?_)
    rw [nI_clamp (n := k9) (by omega)] at ea_4
    obtain ⟨j_4, hj_4, ho_4⟩ := hoc k9 (by omega)
    obtain rfl : a_4 = nI j_4 := ea_4.trans ho_4
    refine va_iald hx hb hK hP 1 0 rfl rfl (vp_in_nI (n := j_4) (by omega) (by decide)) dX8_begins_32 ?_
    refine lv_topi (fun a_5 ea_5 => ?_)
    rw [nI_clamp (n := j_4) (by omega)] at ea_5
    obtain ⟨j_5, hj_5, rfl⟩ := (show sC a_5 by rw [ea_5]; exact hp _)
    refine pt_cSi (va_runS (As := [.int (nI j_5)]) (rest := [.ref m12]) ⟨hx, hb, hml, hown, hts⟩ (m_level l dC dI j_5 (by omega)) (cwS 1 hts gX8_begins_X8_level rfl rfl rfl (by decide +kernel) ⟨Nat.le_of_ble_eq_true rfl, Nat.le_of_ble_eq_true rfl⟩) ⟨pt_blind, pt_pre (w := []) (tys := []) (hP.sub [] rfl) (hK.sub [] rfl) hN⟩ rfl rfl hl.1 rfl (lv_room (Nat.le_of_ble_eq_true rfl)) dX8_begins_33 ⟨Nat.le_of_ble_eq_true rfl, Nat.le_of_ble_eq_true rfl⟩) (fun r_6 hr_6 => ?_)
    obtain rfl : r_6 = nI (j_5 / 24) := hr_6
    refine va_zald hx hb hK hP 6 5 rfl rfl (vp_in_nI (n := j_5 / 24) (by omega) (by decide)) dX8_begins_36 ?_
    refine lv_topi (fun a_7 ea_7 => ?_)
    rw [nI_clamp (n := j_5 / 24) (by omega)] at ea_7
    refine lv_if_ne (tgt := 84) hx hb dX8_begins_37 (by decide) (fun c_8 => ?_) (fun c_8 => ?_)
    · have c_8 : ¬ (a_7 = 0) := c_8
      refine lv_iconst (v := 0) hx hb dX8_begins_84 (by decide) ?_
      have hP9 := hP.sub (ws' := [(mo, .inr (6, [.int th, .int tm, .int (nI sr), .int (nI nc), .ref m4, .ref m5, .ref m6, .ref m7, .ref m8, .ref m9, .ref m10, .ref m11, .ref m12, .int pw, .int rn, .int (nI no), .ref m16, .ref m17, .ref m18, .int (nI bz), .int (nI dg), .int (nI db), .int (nI df), .int (nI sp), .int tg, .int lf, .int mm, .ref m27, .int fo, .ref m29, .ref m30, .ref m31])), (m6, .inl (y6, 700, .inl f6)), (m7, .inl (y7, 96, .inl f7)), (m8, .inl (y8, 2, .inl f8)), (m10, .inl (y10, 2, .inl f10)), (m11, .inl (y11, 2, .inl f11)), (m12, .inl (y12, 4, .inl f12)), (m16, .inl (y16, 24, .inl f16)), (m17, .inl (y17, 24, .inl f17)), (m18, .inl (y18, 24, .inl f18)), (m29, .inl (y29, 8, .inl f29)), (m30, .inl (y30, 4, .inl f30)), (m31, .inl (y31, 4, .inl f31))]) [0, 1, 2, 3, 4, 5, 6, 7, 8, 9, 10, 11, 12] rfl
      have hD9 := hD.sub (ws' := [(mo, .inr (6, [.int th, .int tm, .int (nI sr), .int (nI nc), .ref m4, .ref m5, .ref m6, .ref m7, .ref m8, .ref m9, .ref m10, .ref m11, .ref m12, .int pw, .int rn, .int (nI no), .ref m16, .ref m17, .ref m18, .int (nI bz), .int (nI dg), .int (nI db), .int (nI df), .int (nI sp), .int tg, .int lf, .int mm, .ref m27, .int fo, .ref m29, .ref m30, .ref m31])), (m6, .inl (y6, 700, .inl f6)), (m7, .inl (y7, 96, .inl f7)), (m8, .inl (y8, 2, .inl f8)), (m10, .inl (y10, 2, .inl f10)), (m11, .inl (y11, 2, .inl f11)), (m12, .inl (y12, 4, .inl f12)), (m16, .inl (y16, 24, .inl f16)), (m17, .inl (y17, 24, .inl f17)), (m18, .inl (y18, 24, .inl f18)), (m29, .inl (y29, 8, .inl f29)), (m30, .inl (y30, 4, .inl f30)), (m31, .inl (y31, 4, .inl f31))]) [0, 1, 2, 3, 4, 5, 6, 7, 8, 9, 10, 11, 12] (by decide) rfl
      have hK9 := hK.sub (tys' := []) [] rfl
      refine W.widen (k := 0) (n := 0) (by omega) (by omega) ?_
      exact W.zret (v := 0) (ty := .boolean) hx hb hr rfl (fun t ht hW => ⟨⟨0, (fun q_ => ([] : List Int32).getD q_ 0, fun q_ => ([] : List Nat).getD q_ 0, fun q_ => ([f29, f30, f31] : List (Nat → Int32)).getD q_ (fun _ => 0)), rfl, ⟨Or.inl rfl, hdn⟩, by rw [ht]; exact hP9, va_K.moved hW.alike hK9, hD9⟩, hS.F ht⟩) hS.2.2 dX8_begins_85
    · have c_8 : (a_7 = 0) := c_8
      refine lv_aload_n hx hb dX8_begins_40 rfl (lv_at hl 1 rfl) ?_
      refine va_get (D := (dC, dI)) (ci := 6) (v := .ref m11) (C := RX8) (T := TX8) (N := 32) hx hb hts iX8 hown hK hP 0 rfl rfl 11 (by decide) (hts (.fieldLink RX8 32 "ParkTowerModel" "bay" "[I") (by decide +kernel)) (fun _ h9 => h9) rfl dX8_begins_41 ?_
      refine lv_iload_n hx hb dX8_begins_44 rfl (lv_at hl 0 rfl) ?_
      refine va_iald hx hb hK hP 5 4 rfl rfl (vp_in_nI (n := j_3) (by omega) (by decide)) dX8_begins_45 ?_
      refine lv_topi (fun a_9 ea_9 => ?_)
      rw [nI_clamp (n := j_3) (by omega)] at ea_9
      refine lv_if_ge (tgt := 84) hx hb dX8_begins_46 (by decide) (fun c_10 => ?_) (fun c_10 => ?_)
      · have c_10 : (0 ≤ a_9) := c_10
        refine lv_iconst (v := 0) hx hb dX8_begins_84 (by decide) ?_
        have hP9 := hP.sub (ws' := [(mo, .inr (6, [.int th, .int tm, .int (nI sr), .int (nI nc), .ref m4, .ref m5, .ref m6, .ref m7, .ref m8, .ref m9, .ref m10, .ref m11, .ref m12, .int pw, .int rn, .int (nI no), .ref m16, .ref m17, .ref m18, .int (nI bz), .int (nI dg), .int (nI db), .int (nI df), .int (nI sp), .int tg, .int lf, .int mm, .ref m27, .int fo, .ref m29, .ref m30, .ref m31])), (m6, .inl (y6, 700, .inl f6)), (m7, .inl (y7, 96, .inl f7)), (m8, .inl (y8, 2, .inl f8)), (m10, .inl (y10, 2, .inl f10)), (m11, .inl (y11, 2, .inl f11)), (m12, .inl (y12, 4, .inl f12)), (m16, .inl (y16, 24, .inl f16)), (m17, .inl (y17, 24, .inl f17)), (m18, .inl (y18, 24, .inl f18)), (m29, .inl (y29, 8, .inl f29)), (m30, .inl (y30, 4, .inl f30)), (m31, .inl (y31, 4, .inl f31))]) [0, 1, 2, 3, 4, 5, 6, 7, 8, 9, 10, 11, 12] rfl
        have hD9 := hD.sub (ws' := [(mo, .inr (6, [.int th, .int tm, .int (nI sr), .int (nI nc), .ref m4, .ref m5, .ref m6, .ref m7, .ref m8, .ref m9, .ref m10, .ref m11, .ref m12, .int pw, .int rn, .int (nI no), .ref m16, .ref m17, .ref m18, .int (nI bz), .int (nI dg), .int (nI db), .int (nI df), .int (nI sp), .int tg, .int lf, .int mm, .ref m27, .int fo, .ref m29, .ref m30, .ref m31])), (m6, .inl (y6, 700, .inl f6)), (m7, .inl (y7, 96, .inl f7)), (m8, .inl (y8, 2, .inl f8)), (m10, .inl (y10, 2, .inl f10)), (m11, .inl (y11, 2, .inl f11)), (m12, .inl (y12, 4, .inl f12)), (m16, .inl (y16, 24, .inl f16)), (m17, .inl (y17, 24, .inl f17)), (m18, .inl (y18, 24, .inl f18)), (m29, .inl (y29, 8, .inl f29)), (m30, .inl (y30, 4, .inl f30)), (m31, .inl (y31, 4, .inl f31))]) [0, 1, 2, 3, 4, 5, 6, 7, 8, 9, 10, 11, 12] (by decide) rfl
        have hK9 := hK.sub (tys' := []) [] rfl
        refine W.widen (k := 0) (n := 0) (by omega) (by omega) ?_
        exact W.zret (v := 0) (ty := .boolean) hx hb hr rfl (fun t ht hW => ⟨⟨0, (fun q_ => ([] : List Int32).getD q_ 0, fun q_ => ([] : List Nat).getD q_ 0, fun q_ => ([f29, f30, f31] : List (Nat → Int32)).getD q_ (fun _ => 0)), rfl, ⟨Or.inl rfl, hdn⟩, by rw [ht]; exact hP9, va_K.moved hW.alike hK9, hD9⟩, hS.F ht⟩) hS.2.2 dX8_begins_85
      · have c_10 : ¬ (0 ≤ a_9) := c_10
        refine lv_aload_n hx hb dX8_begins_49 rfl (lv_at hl 1 rfl) ?_
        refine va_get (D := (dC, dI)) (ci := 6) (v := .ref m8) (C := RX8) (T := TX8) (N := 32) hx hb hts iX8 hown hK hP 0 rfl rfl 8 (by decide) (hts (.fieldLink RX8 22 "ParkTowerModel" "door" "[I") (by decide +kernel)) (fun _ h9 => h9) rfl dX8_begins_50 ?_
        refine lv_iload_n hx hb dX8_begins_53 rfl (lv_at hl 0 rfl) ?_
        refine va_iald hx hb hK hP 3 2 rfl rfl (vp_in_nI (n := j_3) (by omega) (by decide)) dX8_begins_54 ?_
        refine lv_topi (fun a_11 ea_11 => ?_)
        rw [nI_clamp (n := j_3) (by omega)] at ea_11
        refine lv_if_ne (tgt := 84) hx hb dX8_begins_55 (by decide) (fun c_12 => ?_) (fun c_12 => ?_)
        · have c_12 : ¬ (a_11 = 0) := c_12
          refine lv_iconst (v := 0) hx hb dX8_begins_84 (by decide) ?_
          have hP9 := hP.sub (ws' := [(mo, .inr (6, [.int th, .int tm, .int (nI sr), .int (nI nc), .ref m4, .ref m5, .ref m6, .ref m7, .ref m8, .ref m9, .ref m10, .ref m11, .ref m12, .int pw, .int rn, .int (nI no), .ref m16, .ref m17, .ref m18, .int (nI bz), .int (nI dg), .int (nI db), .int (nI df), .int (nI sp), .int tg, .int lf, .int mm, .ref m27, .int fo, .ref m29, .ref m30, .ref m31])), (m6, .inl (y6, 700, .inl f6)), (m7, .inl (y7, 96, .inl f7)), (m8, .inl (y8, 2, .inl f8)), (m10, .inl (y10, 2, .inl f10)), (m11, .inl (y11, 2, .inl f11)), (m12, .inl (y12, 4, .inl f12)), (m16, .inl (y16, 24, .inl f16)), (m17, .inl (y17, 24, .inl f17)), (m18, .inl (y18, 24, .inl f18)), (m29, .inl (y29, 8, .inl f29)), (m30, .inl (y30, 4, .inl f30)), (m31, .inl (y31, 4, .inl f31))]) [0, 1, 2, 3, 4, 5, 6, 7, 8, 9, 10, 11, 12] rfl
          have hD9 := hD.sub (ws' := [(mo, .inr (6, [.int th, .int tm, .int (nI sr), .int (nI nc), .ref m4, .ref m5, .ref m6, .ref m7, .ref m8, .ref m9, .ref m10, .ref m11, .ref m12, .int pw, .int rn, .int (nI no), .ref m16, .ref m17, .ref m18, .int (nI bz), .int (nI dg), .int (nI db), .int (nI df), .int (nI sp), .int tg, .int lf, .int mm, .ref m27, .int fo, .ref m29, .ref m30, .ref m31])), (m6, .inl (y6, 700, .inl f6)), (m7, .inl (y7, 96, .inl f7)), (m8, .inl (y8, 2, .inl f8)), (m10, .inl (y10, 2, .inl f10)), (m11, .inl (y11, 2, .inl f11)), (m12, .inl (y12, 4, .inl f12)), (m16, .inl (y16, 24, .inl f16)), (m17, .inl (y17, 24, .inl f17)), (m18, .inl (y18, 24, .inl f18)), (m29, .inl (y29, 8, .inl f29)), (m30, .inl (y30, 4, .inl f30)), (m31, .inl (y31, 4, .inl f31))]) [0, 1, 2, 3, 4, 5, 6, 7, 8, 9, 10, 11, 12] (by decide) rfl
          have hK9 := hK.sub (tys' := []) [] rfl
          refine W.widen (k := 0) (n := 0) (by omega) (by omega) ?_
          exact W.zret (v := 0) (ty := .boolean) hx hb hr rfl (fun t ht hW => ⟨⟨0, (fun q_ => ([] : List Int32).getD q_ 0, fun q_ => ([] : List Nat).getD q_ 0, fun q_ => ([f29, f30, f31] : List (Nat → Int32)).getD q_ (fun _ => 0)), rfl, ⟨Or.inl rfl, hdn⟩, by rw [ht]; exact hP9, va_K.moved hW.alike hK9, hD9⟩, hS.F ht⟩) hS.2.2 dX8_begins_85
        · have c_12 : (a_11 = 0) := c_12
          refine lv_aload_n hx hb dX8_begins_58 rfl (lv_at hl 1 rfl) ?_
          refine va_get (D := (dC, dI)) (ci := 6) (v := .ref m10) (C := RX8) (T := TX8) (N := 32) hx hb hts iX8 hown hK hP 0 rfl rfl 10 (by decide) (hts (.fieldLink RX8 28 "ParkTowerModel" "person" "[Z") (by decide +kernel)) (fun _ h9 => h9) rfl dX8_begins_59 ?_
          refine lv_iload_n hx hb dX8_begins_62 rfl (lv_at hl 0 rfl) ?_
          refine va_zald hx hb hK hP 4 3 rfl rfl (vp_in_nI (n := j_3) (by omega) (by decide)) dX8_begins_63 ?_
          refine lv_topi (fun a_13 ea_13 => ?_)
          rw [nI_clamp (n := j_3) (by omega)] at ea_13
          refine lv_if_ne (tgt := 84) hx hb dX8_begins_64 (by decide) (fun c_14 => ?_) (fun c_14 => ?_)
          · have c_14 : ¬ (a_13 = 0) := c_14
            refine lv_iconst (v := 0) hx hb dX8_begins_84 (by decide) ?_
            have hP9 := hP.sub (ws' := [(mo, .inr (6, [.int th, .int tm, .int (nI sr), .int (nI nc), .ref m4, .ref m5, .ref m6, .ref m7, .ref m8, .ref m9, .ref m10, .ref m11, .ref m12, .int pw, .int rn, .int (nI no), .ref m16, .ref m17, .ref m18, .int (nI bz), .int (nI dg), .int (nI db), .int (nI df), .int (nI sp), .int tg, .int lf, .int mm, .ref m27, .int fo, .ref m29, .ref m30, .ref m31])), (m6, .inl (y6, 700, .inl f6)), (m7, .inl (y7, 96, .inl f7)), (m8, .inl (y8, 2, .inl f8)), (m10, .inl (y10, 2, .inl f10)), (m11, .inl (y11, 2, .inl f11)), (m12, .inl (y12, 4, .inl f12)), (m16, .inl (y16, 24, .inl f16)), (m17, .inl (y17, 24, .inl f17)), (m18, .inl (y18, 24, .inl f18)), (m29, .inl (y29, 8, .inl f29)), (m30, .inl (y30, 4, .inl f30)), (m31, .inl (y31, 4, .inl f31))]) [0, 1, 2, 3, 4, 5, 6, 7, 8, 9, 10, 11, 12] rfl
            have hD9 := hD.sub (ws' := [(mo, .inr (6, [.int th, .int tm, .int (nI sr), .int (nI nc), .ref m4, .ref m5, .ref m6, .ref m7, .ref m8, .ref m9, .ref m10, .ref m11, .ref m12, .int pw, .int rn, .int (nI no), .ref m16, .ref m17, .ref m18, .int (nI bz), .int (nI dg), .int (nI db), .int (nI df), .int (nI sp), .int tg, .int lf, .int mm, .ref m27, .int fo, .ref m29, .ref m30, .ref m31])), (m6, .inl (y6, 700, .inl f6)), (m7, .inl (y7, 96, .inl f7)), (m8, .inl (y8, 2, .inl f8)), (m10, .inl (y10, 2, .inl f10)), (m11, .inl (y11, 2, .inl f11)), (m12, .inl (y12, 4, .inl f12)), (m16, .inl (y16, 24, .inl f16)), (m17, .inl (y17, 24, .inl f17)), (m18, .inl (y18, 24, .inl f18)), (m29, .inl (y29, 8, .inl f29)), (m30, .inl (y30, 4, .inl f30)), (m31, .inl (y31, 4, .inl f31))]) [0, 1, 2, 3, 4, 5, 6, 7, 8, 9, 10, 11, 12] (by decide) rfl
            have hK9 := hK.sub (tys' := []) [] rfl
            refine W.widen (k := 0) (n := 0) (by omega) (by omega) ?_
            exact W.zret (v := 0) (ty := .boolean) hx hb hr rfl (fun t ht hW => ⟨⟨0, (fun q_ => ([] : List Int32).getD q_ 0, fun q_ => ([] : List Nat).getD q_ 0, fun q_ => ([f29, f30, f31] : List (Nat → Int32)).getD q_ (fun _ => 0)), rfl, ⟨Or.inl rfl, hdn⟩, by rw [ht]; exact hP9, va_K.moved hW.alike hK9, hD9⟩, hS.F ht⟩) hS.2.2 dX8_begins_85
          · have c_14 : (a_13 = 0) := c_14
            refine lv_aload_n hx hb dX8_begins_67 rfl (lv_at hl 1 rfl) ?_
            refine lv_aload_n hx hb dX8_begins_68 rfl (lv_at hl 1 rfl) ?_
            refine va_get (D := (dC, dI)) (ci := 6) (v := .ref m16) (C := RX8) (T := TX8) (N := 32) hx hb hts iX8 hown hK hP 0 rfl rfl 16 (by decide) (hts (.fieldLink RX8 42 "ParkTowerModel" "orderCar" "[I") (by decide +kernel)) (fun _ h9 => h9) rfl dX8_begins_69 ?_
            refine lv_iload_n hx hb dX8_begins_72 rfl (lv_at hl 2 rfl) ?_
            refine va_iald hx hb hK hP 7 6 rfl rfl (vp_in_nI (n := k9) (by omega) (by decide)) dX8_begins_73 ?_
            refine pt_topi (nI j_4) (by rw [nI_clamp (n := k9) (by omega)]; exact ea_4.symm) ?_
            have hPc := hP.sub (ws' := [(mo, .inr (6, [.int th, .int tm, .int (nI sr), .int (nI nc), .ref m4, .ref m5, .ref m6, .ref m7, .ref m8, .ref m9, .ref m10, .ref m11, .ref m12, .int pw, .int rn, .int (nI no), .ref m16, .ref m17, .ref m18, .int (nI bz), .int (nI dg), .int (nI db), .int (nI df), .int (nI sp), .int tg, .int lf, .int mm, .ref m27, .int fo, .ref m29, .ref m30, .ref m31])), (m6, .inl (y6, 700, .inl f6)), (m7, .inl (y7, 96, .inl f7)), (m29, .inl (y29, 8, .inl f29)), (m30, .inl (y30, 4, .inl f30)), (m31, .inl (y31, 4, .inl f31))]) [0, 1, 2, 10, 11, 12] rfl
            have hDc := hD.sub (ws' := [(mo, .inr (6, [.int th, .int tm, .int (nI sr), .int (nI nc), .ref m4, .ref m5, .ref m6, .ref m7, .ref m8, .ref m9, .ref m10, .ref m11, .ref m12, .int pw, .int rn, .int (nI no), .ref m16, .ref m17, .ref m18, .int (nI bz), .int (nI dg), .int (nI db), .int (nI df), .int (nI sp), .int tg, .int lf, .int mm, .ref m27, .int fo, .ref m29, .ref m30, .ref m31])), (m6, .inl (y6, 700, .inl f6)), (m7, .inl (y7, 96, .inl f7)), (m29, .inl (y29, 8, .inl f29)), (m30, .inl (y30, 4, .inl f30)), (m31, .inl (y31, 4, .inl f31))]) [0, 1, 2, 10, 11, 12] (by decide) rfl
            have hKc := hK.sub (tys' := [(y6, .int), (y7, .int), (y29, .int), (y30, .int), (y31, .boolean)]) [0, 1, 9, 10, 11] rfl
            have hFc := va_free (wc := [(mo, .inr (6, [.int th, .int tm, .int (nI sr), .int (nI nc), .ref m4, .ref m5, .ref m6, .ref m7, .ref m8, .ref m9, .ref m10, .ref m11, .ref m12, .int pw, .int rn, .int (nI no), .ref m16, .ref m17, .ref m18, .int (nI bz), .int (nI dg), .int (nI db), .int (nI df), .int (nI sp), .int tg, .int lf, .int mm, .ref m27, .int fo, .ref m29, .ref m30, .ref m31])), (m6, .inl (y6, 700, .inl f6)), (m7, .inl (y7, 96, .inl f7)), (m29, .inl (y29, 8, .inl f29)), (m30, .inl (y30, 4, .inl f30)), (m31, .inl (y31, 4, .inl f31))]) hD hS hA [0, 1, 2, 10, 11, 12] rfl
            refine va_calli (va_runV (As := [.int (nI j_4)]) (rest := []) ⟨hx, hb, hml, hown, hts⟩ (m_planOf l dC dI _ mo m4 m5 m6 m7 m8 m9 m10 m11 m12 m16 m17 m18 m27 m29 m30 m31 th tm pw rn tg lf mm fo sr nc no bz dg db df sp y6 y7 y29 y30 y31 f6 f7 f29 f30 f31 j_4 (by omega) hp hf hdn) (cwV 1 hts gX8_begins_X8_planOf rfl rfl rfl (by decide +kernel) ⟨Nat.le_of_ble_eq_true rfl, Nat.le_of_ble_eq_true rfl⟩) ⟨pt_blindQ, va_recv hK hP (ci := 6) (q0 := 0) rfl rfl, pt_preQ hPc hKc hDc hN⟩ rfl rfl hl.1 rfl (lv_room (Nat.le_of_ble_eq_true rfl)) dX8_begins_74 ⟨Nat.le_of_ble_eq_true rfl, Nat.le_of_ble_eq_true rfl⟩) hS (fun q _ h => hFc q h) hFc (fun r_15 u_15 t H1 locs ht hvm hw_15 hB hz1 hk1 hS => ?_)
            obtain ⟨v_15, n_15, F_15⟩ := u_15
            obtain ⟨hP1, hK1, hD1⟩ := hB
            try dsimp only at hw_15
            rw [ht] at hP1
            have hK1 := va_K.moved hvm.symm hK1
            obtain ⟨hP, hD⟩ := va_join (wr := [(m8, .inl (y8, 2, .inl f8)), (m10, .inl (y10, 2, .inl f10)), (m11, .inl (y11, 2, .inl f11)), (m12, .inl (y12, 4, .inl f12)), (m16, .inl (y16, 24, .inl f16)), (m17, .inl (y17, 24, .inl f17)), (m18, .inl (y18, 24, .inl f18))]) (w1 := [(mo, .inr (6, [.int th, .int tm, .int (nI sr), .int (nI nc), .ref m4, .ref m5, .ref m6, .ref m7, .ref m8, .ref m9, .ref m10, .ref m11, .ref m12, .int pw, .int rn, .int (nI no), .ref m16, .ref m17, .ref m18, .int (nI bz), .int (nI dg), .int (nI db), .int (nI df), .int (nI sp), .int tg, .int lf, .int mm, .ref m27, .int fo, .ref m29, .ref m30, .ref m31])), (m6, .inl (y6, 700, .inl f6)), (m7, .inl (y7, 96, .inl f7)), (m29, .inl (y29, 8, .inl (F_15 0))), (m30, .inl (y30, 4, .inl (F_15 1))), (m31, .inl (y31, 4, .inl (F_15 2)))]) hP hD [0, 1, 2, 10, 11, 12] [3, 4, 5, 6, 7, 8, 9] rfl rfl (by decide) (by decide) hk1 hFc hP1 hD1
            have hK := hK.app hK1
            generalize H1 = H at hP hS ⊢
            have hP : va_P (dC, dI) vwCl [(m8, .inl (y8, 2, .inl f8)), (m10, .inl (y10, 2, .inl f10)), (m11, .inl (y11, 2, .inl f11)), (m12, .inl (y12, 4, .inl f12)), (m16, .inl (y16, 24, .inl f16)), (m17, .inl (y17, 24, .inl f17)), (m18, .inl (y18, 24, .inl f18)), (mo, .inr (6, [.int th, .int tm, .int (nI sr), .int (nI nc), .ref m4, .ref m5, .ref m6, .ref m7, .ref m8, .ref m9, .ref m10, .ref m11, .ref m12, .int pw, .int rn, .int (nI no), .ref m16, .ref m17, .ref m18, .int (nI bz), .int (nI dg), .int (nI db), .int (nI df), .int (nI sp), .int tg, .int lf, .int mm, .ref m27, .int fo, .ref m29, .ref m30, .ref m31])), (m6, .inl (y6, 700, .inl f6)), (m7, .inl (y7, 96, .inl f7)), (m29, .inl (y29, 8, .inl (F_15 0))), (m30, .inl (y30, 4, .inl (F_15 1))), (m31, .inl (y31, 4, .inl (F_15 2)))] H := hP
            have hD : va_D A [(m8, .inl (y8, 2, .inl f8)), (m10, .inl (y10, 2, .inl f10)), (m11, .inl (y11, 2, .inl f11)), (m12, .inl (y12, 4, .inl f12)), (m16, .inl (y16, 24, .inl f16)), (m17, .inl (y17, 24, .inl f17)), (m18, .inl (y18, 24, .inl f18)), (mo, .inr (6, [.int th, .int tm, .int (nI sr), .int (nI nc), .ref m4, .ref m5, .ref m6, .ref m7, .ref m8, .ref m9, .ref m10, .ref m11, .ref m12, .int pw, .int rn, .int (nI no), .ref m16, .ref m17, .ref m18, .int (nI bz), .int (nI dg), .int (nI db), .int (nI df), .int (nI sp), .int tg, .int lf, .int mm, .ref m27, .int fo, .ref m29, .ref m30, .ref m31])), (m6, .inl (y6, 700, .inl f6)), (m7, .inl (y7, 96, .inl f7)), (m29, .inl (y29, 8, .inl (F_15 0))), (m30, .inl (y30, 4, .inl (F_15 1))), (m31, .inl (y31, 4, .inl (F_15 2)))] := hD
            have hK : va_K (dC, dI) vwCl [(y6, .int), (y7, .int), (y8, .int), (y10, .boolean), (y11, .int), (y12, .boolean), (y16, .int), (y17, .int), (y18, .boolean), (y29, .int), (y30, .int), (y31, .boolean)] s := hK
            obtain ⟨hq_15, hd_15⟩ := hw_15
            rcases hq_15 with rfl | ⟨n_15, hn_15, rfl, hc_15⟩
            · skip
              refine lv_if_lt (tgt := 84) hx hb dX8_begins_77 (by decide) (fun _ => ?_) (fun c => absurd (by decide) c)
              refine lv_iconst (v := 0) hx hb dX8_begins_84 (by decide) ?_
              have hP9 := hP.sub (ws' := [(mo, .inr (6, [.int th, .int tm, .int (nI sr), .int (nI nc), .ref m4, .ref m5, .ref m6, .ref m7, .ref m8, .ref m9, .ref m10, .ref m11, .ref m12, .int pw, .int rn, .int (nI no), .ref m16, .ref m17, .ref m18, .int (nI bz), .int (nI dg), .int (nI db), .int (nI df), .int (nI sp), .int tg, .int lf, .int mm, .ref m27, .int fo, .ref m29, .ref m30, .ref m31])), (m6, .inl (y6, 700, .inl f6)), (m7, .inl (y7, 96, .inl f7)), (m8, .inl (y8, 2, .inl f8)), (m10, .inl (y10, 2, .inl f10)), (m11, .inl (y11, 2, .inl f11)), (m12, .inl (y12, 4, .inl f12)), (m16, .inl (y16, 24, .inl f16)), (m17, .inl (y17, 24, .inl f17)), (m18, .inl (y18, 24, .inl f18)), (m29, .inl (y29, 8, .inl (F_15 0))), (m30, .inl (y30, 4, .inl (F_15 1))), (m31, .inl (y31, 4, .inl (F_15 2)))]) [7, 8, 9, 0, 1, 2, 3, 4, 5, 6, 10, 11, 12] rfl
              have hD9 := hD.sub (ws' := [(mo, .inr (6, [.int th, .int tm, .int (nI sr), .int (nI nc), .ref m4, .ref m5, .ref m6, .ref m7, .ref m8, .ref m9, .ref m10, .ref m11, .ref m12, .int pw, .int rn, .int (nI no), .ref m16, .ref m17, .ref m18, .int (nI bz), .int (nI dg), .int (nI db), .int (nI df), .int (nI sp), .int tg, .int lf, .int mm, .ref m27, .int fo, .ref m29, .ref m30, .ref m31])), (m6, .inl (y6, 700, .inl f6)), (m7, .inl (y7, 96, .inl f7)), (m8, .inl (y8, 2, .inl f8)), (m10, .inl (y10, 2, .inl f10)), (m11, .inl (y11, 2, .inl f11)), (m12, .inl (y12, 4, .inl f12)), (m16, .inl (y16, 24, .inl f16)), (m17, .inl (y17, 24, .inl f17)), (m18, .inl (y18, 24, .inl f18)), (m29, .inl (y29, 8, .inl (F_15 0))), (m30, .inl (y30, 4, .inl (F_15 1))), (m31, .inl (y31, 4, .inl (F_15 2)))]) [7, 8, 9, 0, 1, 2, 3, 4, 5, 6, 10, 11, 12] (by decide) rfl
              have hK9 := hK.sub (tys' := []) [] rfl
              refine W.widen (k := 0) (n := 0) (by omega) (by omega) ?_
              exact W.zret (v := 0) (ty := .boolean) hx hb hr rfl (fun t ht hW => ⟨⟨0, (fun q_ => ([] : List Int32).getD q_ 0, fun q_ => ([] : List Nat).getD q_ 0, fun q_ => ([F_15 0, F_15 1, F_15 2] : List (Nat → Int32)).getD q_ (fun _ => 0)), rfl, ⟨Or.inl rfl, hd_15⟩, by rw [ht]; exact hP9, va_K.moved hW.alike hK9, hD9⟩, hS.F ht⟩) hS.2.2 dX8_begins_85
            · skip
              refine lv_if_lt (tgt := 84) hx hb dX8_begins_77 (by decide) (fun c_16 => ?_) (fun c_16 => ?_)
              · have c_16 : n_15 < 0 := (nI_ltI (a := n_15) (b := 0) (by omega) (by omega)).mp c_16
                exact (by omega : False).elim
              · have c_16 : ¬ (n_15 < 0) := fun q_ => c_16 ((nI_ltI (a := n_15) (b := 0) (by omega) (by omega)).mpr q_)
                refine lv_iconst (v := 1) hx hb dX8_begins_80 (by decide) ?_
                refine lv_goto (tgt := 85) hx hb dX8_begins_81 (by decide) ?_
                have hP9 := hP.sub (ws' := [(mo, .inr (6, [.int th, .int tm, .int (nI sr), .int (nI nc), .ref m4, .ref m5, .ref m6, .ref m7, .ref m8, .ref m9, .ref m10, .ref m11, .ref m12, .int pw, .int rn, .int (nI no), .ref m16, .ref m17, .ref m18, .int (nI bz), .int (nI dg), .int (nI db), .int (nI df), .int (nI sp), .int tg, .int lf, .int mm, .ref m27, .int fo, .ref m29, .ref m30, .ref m31])), (m6, .inl (y6, 700, .inl f6)), (m7, .inl (y7, 96, .inl f7)), (m8, .inl (y8, 2, .inl f8)), (m10, .inl (y10, 2, .inl f10)), (m11, .inl (y11, 2, .inl f11)), (m12, .inl (y12, 4, .inl f12)), (m16, .inl (y16, 24, .inl f16)), (m17, .inl (y17, 24, .inl f17)), (m18, .inl (y18, 24, .inl f18)), (m29, .inl (y29, 8, .inl (F_15 0))), (m30, .inl (y30, 4, .inl (F_15 1))), (m31, .inl (y31, 4, .inl (F_15 2)))]) [7, 8, 9, 0, 1, 2, 3, 4, 5, 6, 10, 11, 12] rfl
                have hD9 := hD.sub (ws' := [(mo, .inr (6, [.int th, .int tm, .int (nI sr), .int (nI nc), .ref m4, .ref m5, .ref m6, .ref m7, .ref m8, .ref m9, .ref m10, .ref m11, .ref m12, .int pw, .int rn, .int (nI no), .ref m16, .ref m17, .ref m18, .int (nI bz), .int (nI dg), .int (nI db), .int (nI df), .int (nI sp), .int tg, .int lf, .int mm, .ref m27, .int fo, .ref m29, .ref m30, .ref m31])), (m6, .inl (y6, 700, .inl f6)), (m7, .inl (y7, 96, .inl f7)), (m8, .inl (y8, 2, .inl f8)), (m10, .inl (y10, 2, .inl f10)), (m11, .inl (y11, 2, .inl f11)), (m12, .inl (y12, 4, .inl f12)), (m16, .inl (y16, 24, .inl f16)), (m17, .inl (y17, 24, .inl f17)), (m18, .inl (y18, 24, .inl f18)), (m29, .inl (y29, 8, .inl (F_15 0))), (m30, .inl (y30, 4, .inl (F_15 1))), (m31, .inl (y31, 4, .inl (F_15 2)))]) [7, 8, 9, 0, 1, 2, 3, 4, 5, 6, 10, 11, 12] (by decide) rfl
                have hK9 := hK.sub (tys' := []) [] rfl
                refine W.widen (k := 0) (n := 0) (by omega) (by omega) ?_
                exact W.zret (v := 1) (ty := .boolean) hx hb hr rfl (fun t ht hW => ⟨⟨1, (fun q_ => ([] : List Int32).getD q_ 0, fun q_ => ([] : List Nat).getD q_ 0, fun q_ => ([F_15 0, F_15 1, F_15 2] : List (Nat → Int32)).getD q_ (fun _ => 0)), rfl, ⟨Or.inr rfl, hd_15⟩, by rw [ht]; exact hP9, va_K.moved hW.alike hK9, hD9⟩, hS.F ht⟩) hS.2.2 dX8_begins_85
  · have c_2 : (a_1 = 0) := c_2
    refine lv_iconst (v := 1) hx hb dX8_begins_9 (by decide) ?_
    have hP9 := hP.sub (ws' := [(mo, .inr (6, [.int th, .int tm, .int (nI sr), .int (nI nc), .ref m4, .ref m5, .ref m6, .ref m7, .ref m8, .ref m9, .ref m10, .ref m11, .ref m12, .int pw, .int rn, .int (nI no), .ref m16, .ref m17, .ref m18, .int (nI bz), .int (nI dg), .int (nI db), .int (nI df), .int (nI sp), .int tg, .int lf, .int mm, .ref m27, .int fo, .ref m29, .ref m30, .ref m31])), (m6, .inl (y6, 700, .inl f6)), (m7, .inl (y7, 96, .inl f7)), (m8, .inl (y8, 2, .inl f8)), (m10, .inl (y10, 2, .inl f10)), (m11, .inl (y11, 2, .inl f11)), (m12, .inl (y12, 4, .inl f12)), (m16, .inl (y16, 24, .inl f16)), (m17, .inl (y17, 24, .inl f17)), (m18, .inl (y18, 24, .inl f18)), (m29, .inl (y29, 8, .inl f29)), (m30, .inl (y30, 4, .inl f30)), (m31, .inl (y31, 4, .inl f31))]) [0, 1, 2, 3, 4, 5, 6, 7, 8, 9, 10, 11, 12] rfl
    have hD9 := hD.sub (ws' := [(mo, .inr (6, [.int th, .int tm, .int (nI sr), .int (nI nc), .ref m4, .ref m5, .ref m6, .ref m7, .ref m8, .ref m9, .ref m10, .ref m11, .ref m12, .int pw, .int rn, .int (nI no), .ref m16, .ref m17, .ref m18, .int (nI bz), .int (nI dg), .int (nI db), .int (nI df), .int (nI sp), .int tg, .int lf, .int mm, .ref m27, .int fo, .ref m29, .ref m30, .ref m31])), (m6, .inl (y6, 700, .inl f6)), (m7, .inl (y7, 96, .inl f7)), (m8, .inl (y8, 2, .inl f8)), (m10, .inl (y10, 2, .inl f10)), (m11, .inl (y11, 2, .inl f11)), (m12, .inl (y12, 4, .inl f12)), (m16, .inl (y16, 24, .inl f16)), (m17, .inl (y17, 24, .inl f17)), (m18, .inl (y18, 24, .inl f18)), (m29, .inl (y29, 8, .inl f29)), (m30, .inl (y30, 4, .inl f30)), (m31, .inl (y31, 4, .inl f31))]) [0, 1, 2, 3, 4, 5, 6, 7, 8, 9, 10, 11, 12] (by decide) rfl
    have hK9 := hK.sub (tys' := []) [] rfl
    refine W.widen (k := 0) (n := 0) (by omega) (by omega) ?_
    exact W.zret (v := 1) (ty := .boolean) hx hb hr rfl (fun t ht hW => ⟨⟨1, (fun q_ => ([] : List Int32).getD q_ 0, fun q_ => ([] : List Nat).getD q_ 0, fun q_ => ([f29, f30, f31] : List (Nat → Int32)).getD q_ (fun _ => 0)), rfl, ⟨Or.inr rfl, hdn⟩, by rw [ht]; exact hP9, va_K.moved hW.alike hK9, hD9⟩, hS.F ht⟩) hS.2.2 dX8_begins_10
set_option maxHeartbeats 4000000 in
set_option maxRecDepth 100000 in
theorem m_steps (l : Launch) (dC : Nat → ClassId) (dI : Nat → Nat → Nat) (mo m4 m5 m6 m7 m8 m9 m10 m11 m12 m16 m17 m18 m27 m29 m30 m31 : Nat) (th tm pw rn tg lf mm fo : Int32) (sr nc no bz dg db df sp : Nat)  (hmm : mM mm) (hdf : df ≤ 1) : Met l yX8_steps wsX8_steps ({ frames := 0, cells := 0, slots := 0, locals := 0 }) (va_Pc [.ref mo] (pt_B (dC, dI) [(mo, .inr (6, [.int th, .int tm, .int (nI sr), .int (nI nc), .ref m4, .ref m5, .ref m6, .ref m7, .ref m8, .ref m9, .ref m10, .ref m11, .ref m12, .int pw, .int rn, .int (nI no), .ref m16, .ref m17, .ref m18, .int (nI bz), .int (nI dg), .int (nI db), .int (nI df), .int (nI sp), .int tg, .int lf, .int mm, .ref m27, .int fo, .ref m29, .ref m30, .ref m31]))] [])) (vp_Si (fun r : Int32 => ∃ z : Nat, 3 ≤ z ∧ z ≤ 7 ∧ r = nI z)) 0 0 (fun _ => False) := by
  refine Met.ofW (cc := cX8_steps) (maxL := 1) (ret := (some .int)) (by decide) rfl ?_
  intro p e s m args below meth c s₁ B hml hv
  obtain ⟨rfl, hP, hK, hN⟩ := hv
  have hx := B.exec
  have hb := B.bytes
  have hr := B.returns
  have hts := atoms_spec (ws := wsX8_steps) B.pre
  have hown : s.vm.findClass RX8 = some m.cls := findClass_of_methodNamed B.named
  have hlocks := B.notSynchronized
  have iX8 : ∀ w ∈ wsX80, w ∈ wsX8_steps := by decide +kernel
  have hP : va_P (dC, dI) vwCl [(mo, .inr (6, [.int th, .int tm, .int (nI sr), .int (nI nc), .ref m4, .ref m5, .ref m6, .ref m7, .ref m8, .ref m9, .ref m10, .ref m11, .ref m12, .int pw, .int rn, .int (nI no), .ref m16, .ref m17, .ref m18, .int (nI bz), .int (nI dg), .int (nI db), .int (nI df), .int (nI sp), .int tg, .int lf, .int mm, .ref m27, .int fo, .ref m29, .ref m30, .ref m31]))] s.heap := hP
  have hK : va_K (dC, dI) vwCl [] s := hK
  have hl := lv_entry ([.ref mo]) (n := 1) (Nat.le_of_ble_eq_true rfl)
  rw [lg_entry_eq]
  generalize (lg_sl ([.ref mo]) ++ List.replicate (1 - (lg_sl ([.ref mo])).length) Slot.unset).toArray = ls at hl ⊢
  have hl : lv_has ls 1 [(0, .ref mo)] := hl
  rcases hmm with rfl | ⟨mq, hmq, rfl⟩
  · skip
    refine lv_aload_n hx hb dX8_steps_0 rfl (lv_at hl 0 rfl) ?_
    refine va_get (D := (dC, dI)) (ci := 6) (v := .int (nI df)) (C := RX8) (T := TX8) (N := 32) hx hb hts iX8 hown hK hP 0 rfl rfl 22 (by decide) (hts (.fieldLink RX8 74 "ParkTowerModel" "doingFetch" "Z") (by decide +kernel)) (fun _ h9 => h9) rfl dX8_steps_1 ?_
    refine lv_if_eq (tgt := 16) hx hb dX8_steps_4 (by decide) (fun c_1 => ?_) (fun c_1 => ?_)
    · have c_1 : df = 0 := (nI_eq (a := df) (b := 0) (by omega) (by omega)).mp c_1
      refine lv_iconst (v := 4) hx hb dX8_steps_16 (by decide) ?_
      exact W.iret (v := 4) hx hb hr (fun t ht hW => ⟨4, rfl, ⟨4, by omega, by omega, rfl⟩, ht⟩) (fun q h => by cases h) dX8_steps_17
    · have c_1 : ¬ (df = 0) := fun q_ => c_1 ((nI_eq (a := df) (b := 0) (by omega) (by omega)).mpr q_)
      refine lv_aload_n hx hb dX8_steps_7 rfl (lv_at hl 0 rfl) ?_
      refine va_get (D := (dC, dI)) (ci := 6) (v := .int (-1)) (C := RX8) (T := TX8) (N := 32) hx hb hts iX8 hown hK hP 0 rfl rfl 26 (by decide) (hts (.fieldLink RX8 159 "ParkTowerModel" "moves" "I") (by decide +kernel)) (fun _ h9 => h9) rfl dX8_steps_8 ?_
      refine lv_iconst (v := 4) hx hb dX8_steps_11 (by decide) ?_
      refine lv_iadd hx hb dX8_steps_12 ?_
      refine pt_topi 3 (by decide) ?_
      refine lv_goto (tgt := 17) hx hb dX8_steps_13 (by decide) ?_
      exact W.iret (v := 3) hx hb hr (fun t ht hW => ⟨3, rfl, ⟨3, by omega, by omega, rfl⟩, ht⟩) (fun q h => by cases h) dX8_steps_17
  · skip
    refine lv_aload_n hx hb dX8_steps_0 rfl (lv_at hl 0 rfl) ?_
    refine va_get (D := (dC, dI)) (ci := 6) (v := .int (nI df)) (C := RX8) (T := TX8) (N := 32) hx hb hts iX8 hown hK hP 0 rfl rfl 22 (by decide) (hts (.fieldLink RX8 74 "ParkTowerModel" "doingFetch" "Z") (by decide +kernel)) (fun _ h9 => h9) rfl dX8_steps_1 ?_
    refine lv_if_eq (tgt := 16) hx hb dX8_steps_4 (by decide) (fun c_2 => ?_) (fun c_2 => ?_)
    · have c_2 : df = 0 := (nI_eq (a := df) (b := 0) (by omega) (by omega)).mp c_2
      refine lv_iconst (v := 4) hx hb dX8_steps_16 (by decide) ?_
      exact W.iret (v := 4) hx hb hr (fun t ht hW => ⟨4, rfl, ⟨4, by omega, by omega, rfl⟩, ht⟩) (fun q h => by cases h) dX8_steps_17
    · have c_2 : ¬ (df = 0) := fun q_ => c_2 ((nI_eq (a := df) (b := 0) (by omega) (by omega)).mpr q_)
      refine lv_aload_n hx hb dX8_steps_7 rfl (lv_at hl 0 rfl) ?_
      refine va_get (D := (dC, dI)) (ci := 6) (v := .int (nI mq)) (C := RX8) (T := TX8) (N := 32) hx hb hts iX8 hown hK hP 0 rfl rfl 26 (by decide) (hts (.fieldLink RX8 159 "ParkTowerModel" "moves" "I") (by decide +kernel)) (fun _ h9 => h9) rfl dX8_steps_8 ?_
      refine lv_iconst (v := 4) hx hb dX8_steps_11 (by decide) ?_
      refine lv_iadd hx hb dX8_steps_12 ?_
      refine pt_topi (nI (mq + 4)) (nI_add mq 4) ?_
      refine lv_goto (tgt := 17) hx hb dX8_steps_13 (by decide) ?_
      exact W.iret (v := nI (mq + 4)) hx hb hr (fun t ht hW => ⟨nI (mq + 4), rfl, ⟨mq + 4, by omega, by omega, rfl⟩, ht⟩) (fun q h => by cases h) dX8_steps_17
set_option maxHeartbeats 4000000 in
set_option maxRecDepth 100000 in
theorem m_ticksOf (l : Launch) (dC : Nat → ClassId) (dI : Nat → Nat → Nat) (mo m4 m5 m6 m7 m8 m9 m10 m11 m12 m16 m17 m18 m27 m29 m30 m31 : Nat) (th tm pw rn tg lf mm fo : Int32) (sr nc no bz dg db df sp : Nat) (y6 y27 : ClassId) (f6 f27 : Nat → Int32) (s9 : Nat) (hs9 : s9 ≤ 8) (hdf : df ≤ 1) (hdg : dg < 700) (hp : ∀ i, sC (f6 i)) : Met l yX8_ticksOf wsX8_ticksOf ({ frames := 2, cells := 0, slots := 0, locals := 40 }) (va_Pc [.ref mo, .int (nI s9)] (pt_B (dC, dI) [(mo, .inr (6, [.int th, .int tm, .int (nI sr), .int (nI nc), .ref m4, .ref m5, .ref m6, .ref m7, .ref m8, .ref m9, .ref m10, .ref m11, .ref m12, .int pw, .int rn, .int (nI no), .ref m16, .ref m17, .ref m18, .int (nI bz), .int (nI dg), .int (nI db), .int (nI df), .int (nI sp), .int tg, .int lf, .int mm, .ref m27, .int fo, .ref m29, .ref m30, .ref m31])), (m6, .inl (y6, 700, .inl f6)), (m27, .inl (y27, 8, .inl f27))] [(y6, .int), (y27, .int)])) (vp_Si (fun r : Int32 => True)) 0 0 (fun _ => False) := by
  refine Met.ofW (cc := cX8_ticksOf) (maxL := 3) (ret := (some .int)) (by decide) rfl ?_
  intro p e s m args below meth c s₁ B hml hv
  obtain ⟨rfl, hP, hK, hN⟩ := hv
  have hx := B.exec
  have hb := B.bytes
  have hr := B.returns
  have hts := atoms_spec (ws := wsX8_ticksOf) B.pre
  have hown : s.vm.findClass RX8 = some m.cls := findClass_of_methodNamed B.named
  have hlocks := B.notSynchronized
  have iX8 : ∀ w ∈ wsX80, w ∈ wsX8_ticksOf := by decide +kernel
  have hP : va_P (dC, dI) vwCl [(mo, .inr (6, [.int th, .int tm, .int (nI sr), .int (nI nc), .ref m4, .ref m5, .ref m6, .ref m7, .ref m8, .ref m9, .ref m10, .ref m11, .ref m12, .int pw, .int rn, .int (nI no), .ref m16, .ref m17, .ref m18, .int (nI bz), .int (nI dg), .int (nI db), .int (nI df), .int (nI sp), .int tg, .int lf, .int mm, .ref m27, .int fo, .ref m29, .ref m30, .ref m31])), (m6, .inl (y6, 700, .inl f6)), (m27, .inl (y27, 8, .inl f27))] s.heap := hP
  have hK : va_K (dC, dI) vwCl [(y6, .int), (y27, .int)] s := hK
  have hl := lv_entry ([.ref mo, .int (nI s9)]) (n := 3) (Nat.le_of_ble_eq_true rfl)
  rw [lg_entry_eq]
  generalize (lg_sl ([.ref mo, .int (nI s9)]) ++ List.replicate (3 - (lg_sl ([.ref mo, .int (nI s9)])).length) Slot.unset).toArray = ls at hl ⊢
  have hl : lv_has ls 3 [(0, .ref mo), (1, .int (nI s9))] := hl
  refine lv_aload_n hx hb dX8_ticksOf_0 rfl (lv_at hl 0 rfl) ?_
  refine va_get (D := (dC, dI)) (ci := 6) (v := .ref m6) (C := RX8) (T := TX8) (N := 32) hx hb hts iX8 hown hK hP 0 rfl rfl 6 (by decide) (hts (.fieldLink RX8 16 "ParkTowerModel" "place" "[I") (by decide +kernel)) (fun _ h9 => h9) rfl dX8_ticksOf_1 ?_
  refine lv_aload_n hx hb dX8_ticksOf_4 rfl (lv_at hl 0 rfl) ?_
  refine va_get (D := (dC, dI)) (ci := 6) (v := .int (nI dg)) (C := RX8) (T := TX8) (N := 32) hx hb hts iX8 hown hK hP 0 rfl rfl 20 (by decide) (hts (.fieldLink RX8 77 "ParkTowerModel" "doing" "I") (by decide +kernel)) (fun _ h9 => h9) rfl dX8_ticksOf_5 ?_
  refine va_iald hx hb hK hP 1 0 rfl rfl (vp_in_nI (n := dg) (by omega) (by decide)) dX8_ticksOf_8 ?_
  refine lv_topi (fun a_1 ea_1 => ?_)
  rw [nI_clamp (n := dg) (by omega)] at ea_1
  obtain ⟨j_1, hj_1, rfl⟩ := (show sC a_1 by rw [ea_1]; exact hp _)
  refine lv_istore_n (lv' := [(2, .int (nI j_1)), (0, .ref mo), (1, .int (nI s9))]) hx hb dX8_ticksOf_9 rfl hl (by decide) rfl (fun ls hl => ?_)
  refine lv_aload_n hx hb dX8_ticksOf_10 rfl (lv_at hl 1 rfl) ?_
  refine va_get (D := (dC, dI)) (ci := 6) (v := .int (nI df)) (C := RX8) (T := TX8) (N := 32) hx hb hts iX8 hown hK hP 0 rfl rfl 22 (by decide) (hts (.fieldLink RX8 74 "ParkTowerModel" "doingFetch" "Z") (by decide +kernel)) (fun _ h9 => h9) rfl dX8_ticksOf_11 ?_
  refine lv_if_ne (tgt := 65) hx hb dX8_ticksOf_14 (by decide) (fun c_2 => ?_) (fun c_2 => ?_)
  · have c_2 : ¬ (df = 0) := fun q_ => c_2 ((nI_eq (a := df) (b := 0) (by omega) (by omega)).mpr q_)
    refine lv_iload_n hx hb dX8_ticksOf_65 rfl (lv_at hl 2 rfl) ?_
    refine lv_if_ne (tgt := 81) hx hb dX8_ticksOf_66 (by decide) (fun c_3 => ?_) (fun c_3 => ?_)
    · have c_3 : ¬ (s9 = 0) := fun q_ => c_3 ((nI_eq (a := s9) (b := 0) (by omega) (by omega)).mpr q_)
      refine lv_iload_n hx hb dX8_ticksOf_81 rfl (lv_at hl 2 rfl) ?_
      refine lv_aload_n hx hb dX8_ticksOf_82 rfl (lv_at hl 1 rfl) ?_
      refine va_get (D := (dC, dI)) (ci := 6) (v := .int mm) (C := RX8) (T := TX8) (N := 32) hx hb hts iX8 hown hK hP 0 rfl rfl 26 (by decide) (hts (.fieldLink RX8 159 "ParkTowerModel" "moves" "I") (by decide +kernel)) (fun _ h9 => h9) rfl dX8_ticksOf_83 ?_
      refine lv_icmp_gt (tgt := 119) hx hb dX8_ticksOf_86 (by decide) (fun c_4 => ?_) (fun c_4 => ?_)
      · have c_4 : (mm < (nI s9)) := c_4
        refine lv_iload_n hx hb dX8_ticksOf_119 rfl (lv_at hl 2 rfl) ?_
        refine lv_aload_n hx hb dX8_ticksOf_120 rfl (lv_at hl 1 rfl) ?_
        refine va_get (D := (dC, dI)) (ci := 6) (v := .int mm) (C := RX8) (T := TX8) (N := 32) hx hb hts iX8 hown hK hP 0 rfl rfl 26 (by decide) (hts (.fieldLink RX8 159 "ParkTowerModel" "moves" "I") (by decide +kernel)) (fun _ h9 => h9) rfl dX8_ticksOf_121 ?_
        refine lv_iconst (v := 1) hx hb dX8_ticksOf_124 (by decide) ?_
        refine lv_iadd hx hb dX8_ticksOf_125 ?_
        refine lv_topi (fun z_5 ez_5 => ?_)
        refine lv_icmp_ne (tgt := 136) hx hb dX8_ticksOf_126 (by decide) (fun c_6 => ?_) (fun c_6 => ?_)
        · have c_6 : ¬ ((nI s9) = z_5) := c_6
          refine lv_iload_n hx hb dX8_ticksOf_136 rfl (lv_at hl 2 rfl) ?_
          refine lv_aload_n hx hb dX8_ticksOf_137 rfl (lv_at hl 1 rfl) ?_
          refine va_get (D := (dC, dI)) (ci := 6) (v := .int mm) (C := RX8) (T := TX8) (N := 32) hx hb hts iX8 hown hK hP 0 rfl rfl 26 (by decide) (hts (.fieldLink RX8 159 "ParkTowerModel" "moves" "I") (by decide +kernel)) (fun _ h9 => h9) rfl dX8_ticksOf_138 ?_
          refine lv_iconst (v := 2) hx hb dX8_ticksOf_141 (by decide) ?_
          refine lv_iadd hx hb dX8_ticksOf_142 ?_
          refine lv_topi (fun z_7 ez_7 => ?_)
          refine lv_icmp_ne (tgt := 157) hx hb dX8_ticksOf_143 (by decide) (fun c_8 => ?_) (fun c_8 => ?_)
          · have c_8 : ¬ ((nI s9) = z_7) := c_8
            refine lv_iconst (v := 2) hx hb dX8_ticksOf_157 (by decide) ?_
            exact W.iret (v := 2) hx hb hr (fun t ht hW => ⟨2, rfl, trivial, ht⟩) (fun q h => by cases h) dX8_ticksOf_158
          · have c_8 : ((nI s9) = z_7) := c_8
            refine lv_aload_n hx hb dX8_ticksOf_146 rfl (lv_at hl 1 rfl) ?_
            refine va_get (D := (dC, dI)) (ci := 6) (v := .int lf) (C := RX8) (T := TX8) (N := 32) hx hb hts iX8 hown hK hP 0 rfl rfl 25 (by decide) (hts (.fieldLink RX8 161 "ParkTowerModel" "lift" "I") (by decide +kernel)) (fun _ h9 => h9) rfl dX8_ticksOf_147 ?_
            refine lv_iconst (v := 0) hx hb dX8_ticksOf_150 (by decide) ?_
            refine pt_cSi (va_runS (As := [.int lf, .int 0]) (rest := []) ⟨hx, hb, hml, hown, hts⟩ (m_away l dC dI lf 0) (cwS 2 hts gX8_ticksOf_X8_away rfl rfl rfl (by decide +kernel) ⟨Nat.le_of_ble_eq_true rfl, Nat.le_of_ble_eq_true rfl⟩) ⟨pt_blind, pt_pre (w := []) (tys := []) (hP.sub [] rfl) (hK.sub [] rfl) hN⟩ rfl rfl hl.1 rfl (lv_room (Nat.le_of_ble_eq_true rfl)) dX8_ticksOf_151 ⟨Nat.le_of_ble_eq_true rfl, Nat.le_of_ble_eq_true rfl⟩) (fun r_9 hr_9 => ?_)
            refine lv_goto (tgt := 158) hx hb dX8_ticksOf_154 (by decide) ?_
            exact W.iret (v := r_9) hx hb hr (fun t ht hW => ⟨r_9, rfl, trivial, ht⟩) (fun q h => by cases h) dX8_ticksOf_158
        · have c_6 : ((nI s9) = z_5) := c_6
          refine lv_iload_n hx hb dX8_ticksOf_129 rfl (lv_at hl 0 rfl) ?_
          refine pt_cSi (va_runS (As := [.int (nI j_1)]) (rest := []) ⟨hx, hb, hml, hown, hts⟩ (m_reach l dC dI (nI j_1)) (cwS 1 hts gX8_ticksOf_X8_reach rfl rfl rfl (by decide +kernel) ⟨Nat.le_of_ble_eq_true rfl, Nat.le_of_ble_eq_true rfl⟩) ⟨pt_blind, pt_pre (w := []) (tys := []) (hP.sub [] rfl) (hK.sub [] rfl) hN⟩ rfl rfl hl.1 rfl (lv_room (Nat.le_of_ble_eq_true rfl)) dX8_ticksOf_130 ⟨Nat.le_of_ble_eq_true rfl, Nat.le_of_ble_eq_true rfl⟩) (fun r_10 hr_10 => ?_)
          refine lv_goto (tgt := 158) hx hb dX8_ticksOf_133 (by decide) ?_
          exact W.iret (v := r_10) hx hb hr (fun t ht hW => ⟨r_10, rfl, trivial, ht⟩) (fun q h => by cases h) dX8_ticksOf_158
      · have c_4 : ¬ (mm < (nI s9)) := c_4
        refine lv_aload_n hx hb dX8_ticksOf_89 rfl (lv_at hl 1 rfl) ?_
        refine va_get (D := (dC, dI)) (ci := 6) (v := .ref m27) (C := RX8) (T := TX8) (N := 32) hx hb hts iX8 hown hK hP 0 rfl rfl 27 (by decide) (hts (.fieldLink RX8 51 "ParkTowerModel" "move" "[I") (by decide +kernel)) (fun _ h9 => h9) rfl dX8_ticksOf_90 ?_
        refine lv_iload_n hx hb dX8_ticksOf_93 rfl (lv_at hl 2 rfl) ?_
        refine lv_iconst (v := 1) hx hb dX8_ticksOf_94 (by decide) ?_
        refine lv_isub hx hb dX8_ticksOf_95 ?_
        refine pt_topi (nI (s9 - 1)) (pk_sub (a := s9) (b := 1) (by omega)) ?_
        refine va_iald hx hb hK hP 2 1 rfl rfl (vp_in_nI (n := s9 - 1) (by omega) (by decide)) dX8_ticksOf_96 ?_
        refine lv_topi (fun a_11 ea_11 => ?_)
        rw [nI_clamp (n := s9 - 1) (by omega)] at ea_11
        refine lv_bipush (v := 100) hx hb dX8_ticksOf_97 (by decide) ?_
        refine lv_idiv hx hb dX8_ticksOf_99 (by decide) ?_
        refine lv_topi (fun z_12 ez_12 => ?_)
        refine pt_cSi (va_runS (As := [.int z_12]) (rest := []) ⟨hx, hb, hml, hown, hts⟩ (m_reach l dC dI z_12) (cwS 1 hts gX8_ticksOf_X8_reach rfl rfl rfl (by decide +kernel) ⟨Nat.le_of_ble_eq_true rfl, Nat.le_of_ble_eq_true rfl⟩) ⟨pt_blind, pt_pre (w := []) (tys := []) (hP.sub [] rfl) (hK.sub [] rfl) hN⟩ rfl rfl hl.1 rfl (lv_room (Nat.le_of_ble_eq_true rfl)) dX8_ticksOf_100 ⟨Nat.le_of_ble_eq_true rfl, Nat.le_of_ble_eq_true rfl⟩) (fun r_13 hr_13 => ?_)
        refine lv_aload_n hx hb dX8_ticksOf_103 rfl (lv_at hl 1 rfl) ?_
        refine va_get (D := (dC, dI)) (ci := 6) (v := .ref m27) (C := RX8) (T := TX8) (N := 32) hx hb hts iX8 hown hK hP 0 rfl rfl 27 (by decide) (hts (.fieldLink RX8 51 "ParkTowerModel" "move" "[I") (by decide +kernel)) (fun _ h9 => h9) rfl dX8_ticksOf_104 ?_
        refine lv_iload_n hx hb dX8_ticksOf_107 rfl (lv_at hl 2 rfl) ?_
        refine lv_iconst (v := 1) hx hb dX8_ticksOf_108 (by decide) ?_
        refine lv_isub hx hb dX8_ticksOf_109 ?_
        refine pt_topi (nI (s9 - 1)) (pk_sub (a := s9) (b := 1) (by omega)) ?_
        refine va_iald hx hb hK hP 2 1 rfl rfl (vp_in_nI (n := s9 - 1) (by omega) (by decide)) dX8_ticksOf_110 ?_
        refine pt_topi a_11 (by rw [nI_clamp (n := s9 - 1) (by omega)]; exact ea_11.symm) ?_
        refine lv_bipush (v := 100) hx hb dX8_ticksOf_111 (by decide) ?_
        refine lv_irem hx hb dX8_ticksOf_113 (by decide) ?_
        refine lv_topi (fun z_14 ez_14 => ?_)
        refine pt_cSi (va_runS (As := [.int z_14]) (rest := [.int r_13]) ⟨hx, hb, hml, hown, hts⟩ (m_reach l dC dI z_14) (cwS 1 hts gX8_ticksOf_X8_reach rfl rfl rfl (by decide +kernel) ⟨Nat.le_of_ble_eq_true rfl, Nat.le_of_ble_eq_true rfl⟩) ⟨pt_blind, pt_pre (w := []) (tys := []) (hP.sub [] rfl) (hK.sub [] rfl) hN⟩ rfl rfl hl.1 rfl (lv_room (Nat.le_of_ble_eq_true rfl)) dX8_ticksOf_114 ⟨Nat.le_of_ble_eq_true rfl, Nat.le_of_ble_eq_true rfl⟩) (fun r_15 hr_15 => ?_)
        refine lv_iadd hx hb dX8_ticksOf_117 ?_
        refine lv_topi (fun z_16 ez_16 => ?_)
        exact W.iret (v := z_16) hx hb hr (fun t ht hW => ⟨z_16, rfl, trivial, ht⟩) (fun q h => by cases h) dX8_ticksOf_118
    · have c_3 : s9 = 0 := (nI_eq (a := s9) (b := 0) (by omega) (by omega)).mp c_3
      refine lv_aload_n hx hb dX8_ticksOf_69 rfl (lv_at hl 1 rfl) ?_
      refine va_get (D := (dC, dI)) (ci := 6) (v := .int lf) (C := RX8) (T := TX8) (N := 32) hx hb hts iX8 hown hK hP 0 rfl rfl 25 (by decide) (hts (.fieldLink RX8 161 "ParkTowerModel" "lift" "I") (by decide +kernel)) (fun _ h9 => h9) rfl dX8_ticksOf_70 ?_
      refine lv_iload_n hx hb dX8_ticksOf_73 rfl (lv_at hl 0 rfl) ?_
      refine pt_cSi (va_runS (As := [.int (nI j_1)]) (rest := [.int lf]) ⟨hx, hb, hml, hown, hts⟩ (m_level l dC dI j_1 (by omega)) (cwS 1 hts gX8_ticksOf_X8_level rfl rfl rfl (by decide +kernel) ⟨Nat.le_of_ble_eq_true rfl, Nat.le_of_ble_eq_true rfl⟩) ⟨pt_blind, pt_pre (w := []) (tys := []) (hP.sub [] rfl) (hK.sub [] rfl) hN⟩ rfl rfl hl.1 rfl (lv_room (Nat.le_of_ble_eq_true rfl)) dX8_ticksOf_74 ⟨Nat.le_of_ble_eq_true rfl, Nat.le_of_ble_eq_true rfl⟩) (fun r_17 hr_17 => ?_)
      obtain rfl : r_17 = nI (j_1 / 24) := hr_17
      refine pt_cSi (va_runS (As := [.int lf, .int (nI (j_1 / 24))]) (rest := []) ⟨hx, hb, hml, hown, hts⟩ (m_away l dC dI lf (nI (j_1 / 24))) (cwS 2 hts gX8_ticksOf_X8_away rfl rfl rfl (by decide +kernel) ⟨Nat.le_of_ble_eq_true rfl, Nat.le_of_ble_eq_true rfl⟩) ⟨pt_blind, pt_pre (w := []) (tys := []) (hP.sub [] rfl) (hK.sub [] rfl) hN⟩ rfl rfl hl.1 rfl (lv_room (Nat.le_of_ble_eq_true rfl)) dX8_ticksOf_77 ⟨Nat.le_of_ble_eq_true rfl, Nat.le_of_ble_eq_true rfl⟩) (fun r_18 hr_18 => ?_)
      exact W.iret (v := r_18) hx hb hr (fun t ht hW => ⟨r_18, rfl, trivial, ht⟩) (fun q h => by cases h) dX8_ticksOf_80
  · have c_2 : df = 0 := (nI_eq (a := df) (b := 0) (by omega) (by omega)).mp c_2
    refine lv_iload_n hx hb dX8_ticksOf_17 rfl (lv_at hl 2 rfl) ?_
    refine lv_if_ne (tgt := 32) hx hb dX8_ticksOf_18 (by decide) (fun c_19 => ?_) (fun c_19 => ?_)
    · have c_19 : ¬ (s9 = 0) := fun q_ => c_19 ((nI_eq (a := s9) (b := 0) (by omega) (by omega)).mpr q_)
      refine lv_iload_n hx hb dX8_ticksOf_32 rfl (lv_at hl 2 rfl) ?_
      refine lv_iconst (v := 1) hx hb dX8_ticksOf_33 (by decide) ?_
      refine lv_icmp_ne (tgt := 41) hx hb dX8_ticksOf_34 (by decide) (fun c_20 => ?_) (fun c_20 => ?_)
      · have c_20 : ¬ (s9 = 1) := fun q_ => c_20 ((nI_eq (a := s9) (b := 1) (by omega) (by omega)).mpr q_)
        refine lv_iload_n hx hb dX8_ticksOf_41 rfl (lv_at hl 2 rfl) ?_
        refine lv_iconst (v := 2) hx hb dX8_ticksOf_42 (by decide) ?_
        refine lv_icmp_ne (tgt := 60) hx hb dX8_ticksOf_43 (by decide) (fun c_21 => ?_) (fun c_21 => ?_)
        · have c_21 : ¬ (s9 = 2) := fun q_ => c_21 ((nI_eq (a := s9) (b := 2) (by omega) (by omega)).mpr q_)
          refine lv_iload_n hx hb dX8_ticksOf_60 rfl (lv_at hl 0 rfl) ?_
          refine pt_cSi (va_runS (As := [.int (nI j_1)]) (rest := []) ⟨hx, hb, hml, hown, hts⟩ (m_reach l dC dI (nI j_1)) (cwS 1 hts gX8_ticksOf_X8_reach rfl rfl rfl (by decide +kernel) ⟨Nat.le_of_ble_eq_true rfl, Nat.le_of_ble_eq_true rfl⟩) ⟨pt_blind, pt_pre (w := []) (tys := []) (hP.sub [] rfl) (hK.sub [] rfl) hN⟩ rfl rfl hl.1 rfl (lv_room (Nat.le_of_ble_eq_true rfl)) dX8_ticksOf_61 ⟨Nat.le_of_ble_eq_true rfl, Nat.le_of_ble_eq_true rfl⟩) (fun r_22 hr_22 => ?_)
          exact W.iret (v := r_22) hx hb hr (fun t ht hW => ⟨r_22, rfl, trivial, ht⟩) (fun q h => by cases h) dX8_ticksOf_64
        · have c_21 : s9 = 2 := (nI_eq (a := s9) (b := 2) (by omega) (by omega)).mp c_21
          refine lv_aload_n hx hb dX8_ticksOf_46 rfl (lv_at hl 1 rfl) ?_
          refine va_get (D := (dC, dI)) (ci := 6) (v := .int lf) (C := RX8) (T := TX8) (N := 32) hx hb hts iX8 hown hK hP 0 rfl rfl 25 (by decide) (hts (.fieldLink RX8 161 "ParkTowerModel" "lift" "I") (by decide +kernel)) (fun _ h9 => h9) rfl dX8_ticksOf_47 ?_
          refine lv_iload_n hx hb dX8_ticksOf_50 rfl (lv_at hl 0 rfl) ?_
          refine pt_cSi (va_runS (As := [.int (nI j_1)]) (rest := [.int lf]) ⟨hx, hb, hml, hown, hts⟩ (m_level l dC dI j_1 (by omega)) (cwS 1 hts gX8_ticksOf_X8_level rfl rfl rfl (by decide +kernel) ⟨Nat.le_of_ble_eq_true rfl, Nat.le_of_ble_eq_true rfl⟩) ⟨pt_blind, pt_pre (w := []) (tys := []) (hP.sub [] rfl) (hK.sub [] rfl) hN⟩ rfl rfl hl.1 rfl (lv_room (Nat.le_of_ble_eq_true rfl)) dX8_ticksOf_51 ⟨Nat.le_of_ble_eq_true rfl, Nat.le_of_ble_eq_true rfl⟩) (fun r_23 hr_23 => ?_)
          obtain rfl : r_23 = nI (j_1 / 24) := hr_23
          refine pt_cSi (va_runS (As := [.int lf, .int (nI (j_1 / 24))]) (rest := []) ⟨hx, hb, hml, hown, hts⟩ (m_away l dC dI lf (nI (j_1 / 24))) (cwS 2 hts gX8_ticksOf_X8_away rfl rfl rfl (by decide +kernel) ⟨Nat.le_of_ble_eq_true rfl, Nat.le_of_ble_eq_true rfl⟩) ⟨pt_blind, pt_pre (w := []) (tys := []) (hP.sub [] rfl) (hK.sub [] rfl) hN⟩ rfl rfl hl.1 rfl (lv_room (Nat.le_of_ble_eq_true rfl)) dX8_ticksOf_54 ⟨Nat.le_of_ble_eq_true rfl, Nat.le_of_ble_eq_true rfl⟩) (fun r_24 hr_24 => ?_)
          refine lv_goto (tgt := 64) hx hb dX8_ticksOf_57 (by decide) ?_
          exact W.iret (v := r_24) hx hb hr (fun t ht hW => ⟨r_24, rfl, trivial, ht⟩) (fun q h => by cases h) dX8_ticksOf_64
      · have c_20 : s9 = 1 := (nI_eq (a := s9) (b := 1) (by omega) (by omega)).mp c_20
        refine lv_iconst (v := 2) hx hb dX8_ticksOf_37 (by decide) ?_
        refine lv_goto (tgt := 64) hx hb dX8_ticksOf_38 (by decide) ?_
        exact W.iret (v := 2) hx hb hr (fun t ht hW => ⟨2, rfl, trivial, ht⟩) (fun q h => by cases h) dX8_ticksOf_64
    · have c_19 : s9 = 0 := (nI_eq (a := s9) (b := 0) (by omega) (by omega)).mp c_19
      refine lv_aload_n hx hb dX8_ticksOf_21 rfl (lv_at hl 1 rfl) ?_
      refine va_get (D := (dC, dI)) (ci := 6) (v := .int lf) (C := RX8) (T := TX8) (N := 32) hx hb hts iX8 hown hK hP 0 rfl rfl 25 (by decide) (hts (.fieldLink RX8 161 "ParkTowerModel" "lift" "I") (by decide +kernel)) (fun _ h9 => h9) rfl dX8_ticksOf_22 ?_
      refine lv_iconst (v := 0) hx hb dX8_ticksOf_25 (by decide) ?_
      refine pt_cSi (va_runS (As := [.int lf, .int 0]) (rest := []) ⟨hx, hb, hml, hown, hts⟩ (m_away l dC dI lf 0) (cwS 2 hts gX8_ticksOf_X8_away rfl rfl rfl (by decide +kernel) ⟨Nat.le_of_ble_eq_true rfl, Nat.le_of_ble_eq_true rfl⟩) ⟨pt_blind, pt_pre (w := []) (tys := []) (hP.sub [] rfl) (hK.sub [] rfl) hN⟩ rfl rfl hl.1 rfl (lv_room (Nat.le_of_ble_eq_true rfl)) dX8_ticksOf_26 ⟨Nat.le_of_ble_eq_true rfl, Nat.le_of_ble_eq_true rfl⟩) (fun r_25 hr_25 => ?_)
      refine lv_goto (tgt := 64) hx hb dX8_ticksOf_29 (by decide) ?_
      exact W.iret (v := r_25) hx hb hr (fun t ht hW => ⟨r_25, rfl, trivial, ht⟩) (fun q h => by cases h) dX8_ticksOf_64
set_option maxHeartbeats 4000000 in
set_option maxRecDepth 100000 in
theorem m_isAtBay (l : Launch) (dC : Nat → ClassId) (dI : Nat → Nat → Nat) (mo m4 m5 m6 m7 m8 m9 m10 m11 m12 m16 m17 m18 m27 m29 m30 m31 : Nat) (th tm pw rn tg lf mm fo : Int32) (sr nc no bz dg db df sp : Nat) (s9 : Nat) (hs9 : s9 ≤ 8) (hdf : df ≤ 1) : Met l yX8_isAtBay wsX8_isAtBay ({ frames := 0, cells := 0, slots := 0, locals := 0 }) (va_Pc [.ref mo, .int (nI s9)] (pt_B (dC, dI) [(mo, .inr (6, [.int th, .int tm, .int (nI sr), .int (nI nc), .ref m4, .ref m5, .ref m6, .ref m7, .ref m8, .ref m9, .ref m10, .ref m11, .ref m12, .int pw, .int rn, .int (nI no), .ref m16, .ref m17, .ref m18, .int (nI bz), .int (nI dg), .int (nI db), .int (nI df), .int (nI sp), .int tg, .int lf, .int mm, .ref m27, .int fo, .ref m29, .ref m30, .ref m31]))] [])) (vp_Si (fun r : Int32 => r = 0 ∨ r = 1)) 0 0 (fun _ => False) := by
  refine Met.ofW (cc := cX8_isAtBay) (maxL := 2) (ret := (some .boolean)) (by decide) rfl ?_
  intro p e s m args below meth c s₁ B hml hv
  obtain ⟨rfl, hP, hK, hN⟩ := hv
  have hx := B.exec
  have hb := B.bytes
  have hr := B.returns
  have hts := atoms_spec (ws := wsX8_isAtBay) B.pre
  have hown : s.vm.findClass RX8 = some m.cls := findClass_of_methodNamed B.named
  have hlocks := B.notSynchronized
  have iX8 : ∀ w ∈ wsX80, w ∈ wsX8_isAtBay := by decide +kernel
  have hP : va_P (dC, dI) vwCl [(mo, .inr (6, [.int th, .int tm, .int (nI sr), .int (nI nc), .ref m4, .ref m5, .ref m6, .ref m7, .ref m8, .ref m9, .ref m10, .ref m11, .ref m12, .int pw, .int rn, .int (nI no), .ref m16, .ref m17, .ref m18, .int (nI bz), .int (nI dg), .int (nI db), .int (nI df), .int (nI sp), .int tg, .int lf, .int mm, .ref m27, .int fo, .ref m29, .ref m30, .ref m31]))] s.heap := hP
  have hK : va_K (dC, dI) vwCl [] s := hK
  have hl := lv_entry ([.ref mo, .int (nI s9)]) (n := 2) (Nat.le_of_ble_eq_true rfl)
  rw [lg_entry_eq]
  generalize (lg_sl ([.ref mo, .int (nI s9)]) ++ List.replicate (2 - (lg_sl ([.ref mo, .int (nI s9)])).length) Slot.unset).toArray = ls at hl ⊢
  have hl : lv_has ls 2 [(0, .ref mo), (1, .int (nI s9))] := hl
  refine lv_aload_n hx hb dX8_isAtBay_0 rfl (lv_at hl 0 rfl) ?_
  refine va_get (D := (dC, dI)) (ci := 6) (v := .int (nI df)) (C := RX8) (T := TX8) (N := 32) hx hb hts iX8 hown hK hP 0 rfl rfl 22 (by decide) (hts (.fieldLink RX8 74 "ParkTowerModel" "doingFetch" "Z") (by decide +kernel)) (fun _ h9 => h9) rfl dX8_isAtBay_1 ?_
  refine lv_if_eq (tgt := 25) hx hb dX8_isAtBay_4 (by decide) (fun c_1 => ?_) (fun c_1 => ?_)
  · have c_1 : df = 0 := (nI_eq (a := df) (b := 0) (by omega) (by omega)).mp c_1
    refine lv_iload_n hx hb dX8_isAtBay_25 rfl (lv_at hl 1 rfl) ?_
    refine lv_iconst (v := 1) hx hb dX8_isAtBay_26 (by decide) ?_
    refine lv_icmp_ne (tgt := 34) hx hb dX8_isAtBay_27 (by decide) (fun c_2 => ?_) (fun c_2 => ?_)
    · have c_2 : ¬ (s9 = 1) := fun q_ => c_2 ((nI_eq (a := s9) (b := 1) (by omega) (by omega)).mpr q_)
      refine lv_iconst (v := 0) hx hb dX8_isAtBay_34 (by decide) ?_
      exact W.zret (v := 0) (ty := .boolean) hx hb hr rfl (fun t ht hW => ⟨0, rfl, Or.inl rfl, ht⟩) (fun q h => by cases h) dX8_isAtBay_35
    · have c_2 : s9 = 1 := (nI_eq (a := s9) (b := 1) (by omega) (by omega)).mp c_2
      refine lv_iconst (v := 1) hx hb dX8_isAtBay_30 (by decide) ?_
      refine lv_goto (tgt := 35) hx hb dX8_isAtBay_31 (by decide) ?_
      exact W.zret (v := 1) (ty := .boolean) hx hb hr rfl (fun t ht hW => ⟨1, rfl, Or.inr rfl, ht⟩) (fun q h => by cases h) dX8_isAtBay_35
  · have c_1 : ¬ (df = 0) := fun q_ => c_1 ((nI_eq (a := df) (b := 0) (by omega) (by omega)).mpr q_)
    refine lv_iload_n hx hb dX8_isAtBay_7 rfl (lv_at hl 1 rfl) ?_
    refine lv_aload_n hx hb dX8_isAtBay_8 rfl (lv_at hl 0 rfl) ?_
    refine va_get (D := (dC, dI)) (ci := 6) (v := .int mm) (C := RX8) (T := TX8) (N := 32) hx hb hts iX8 hown hK hP 0 rfl rfl 26 (by decide) (hts (.fieldLink RX8 159 "ParkTowerModel" "moves" "I") (by decide +kernel)) (fun _ h9 => h9) rfl dX8_isAtBay_9 ?_
    refine lv_iconst (v := 3) hx hb dX8_isAtBay_12 (by decide) ?_
    refine lv_iadd hx hb dX8_isAtBay_13 ?_
    refine lv_topi (fun z_3 ez_3 => ?_)
    refine lv_icmp_ne (tgt := 21) hx hb dX8_isAtBay_14 (by decide) (fun c_4 => ?_) (fun c_4 => ?_)
    · have c_4 : ¬ ((nI s9) = z_3) := c_4
      refine lv_iconst (v := 0) hx hb dX8_isAtBay_21 (by decide) ?_
      refine lv_goto (tgt := 35) hx hb dX8_isAtBay_22 (by decide) ?_
      exact W.zret (v := 0) (ty := .boolean) hx hb hr rfl (fun t ht hW => ⟨0, rfl, Or.inl rfl, ht⟩) (fun q h => by cases h) dX8_isAtBay_35
    · have c_4 : ((nI s9) = z_3) := c_4
      refine lv_iconst (v := 1) hx hb dX8_isAtBay_17 (by decide) ?_
      refine lv_goto (tgt := 35) hx hb dX8_isAtBay_18 (by decide) ?_
      exact W.zret (v := 1) (ty := .boolean) hx hb hr rfl (fun t ht hW => ⟨1, rfl, Or.inr rfl, ht⟩) (fun q h => by cases h) dX8_isAtBay_35
set_option maxHeartbeats 4000000 in
set_option maxRecDepth 100000 in
theorem m_isAtLevel (l : Launch) (dC : Nat → ClassId) (dI : Nat → Nat → Nat) (mo m4 m5 m6 m7 m8 m9 m10 m11 m12 m16 m17 m18 m27 m29 m30 m31 : Nat) (th tm pw rn tg lf mm fo : Int32) (sr nc no bz dg db df sp : Nat) (s9 : Nat) (hs9 : s9 ≤ 8) (hdf : df ≤ 1) : Met l yX8_isAtLevel wsX8_isAtLevel ({ frames := 0, cells := 0, slots := 0, locals := 0 }) (va_Pc [.ref mo, .int (nI s9)] (pt_B (dC, dI) [(mo, .inr (6, [.int th, .int tm, .int (nI sr), .int (nI nc), .ref m4, .ref m5, .ref m6, .ref m7, .ref m8, .ref m9, .ref m10, .ref m11, .ref m12, .int pw, .int rn, .int (nI no), .ref m16, .ref m17, .ref m18, .int (nI bz), .int (nI dg), .int (nI db), .int (nI df), .int (nI sp), .int tg, .int lf, .int mm, .ref m27, .int fo, .ref m29, .ref m30, .ref m31]))] [])) (vp_Si (fun r : Int32 => r = 0 ∨ r = 1)) 0 0 (fun _ => False) := by
  refine Met.ofW (cc := cX8_isAtLevel) (maxL := 2) (ret := (some .boolean)) (by decide) rfl ?_
  intro p e s m args below meth c s₁ B hml hv
  obtain ⟨rfl, hP, hK, hN⟩ := hv
  have hx := B.exec
  have hb := B.bytes
  have hr := B.returns
  have hts := atoms_spec (ws := wsX8_isAtLevel) B.pre
  have hown : s.vm.findClass RX8 = some m.cls := findClass_of_methodNamed B.named
  have hlocks := B.notSynchronized
  have iX8 : ∀ w ∈ wsX80, w ∈ wsX8_isAtLevel := by decide +kernel
  have hP : va_P (dC, dI) vwCl [(mo, .inr (6, [.int th, .int tm, .int (nI sr), .int (nI nc), .ref m4, .ref m5, .ref m6, .ref m7, .ref m8, .ref m9, .ref m10, .ref m11, .ref m12, .int pw, .int rn, .int (nI no), .ref m16, .ref m17, .ref m18, .int (nI bz), .int (nI dg), .int (nI db), .int (nI df), .int (nI sp), .int tg, .int lf, .int mm, .ref m27, .int fo, .ref m29, .ref m30, .ref m31]))] s.heap := hP
  have hK : va_K (dC, dI) vwCl [] s := hK
  have hl := lv_entry ([.ref mo, .int (nI s9)]) (n := 2) (Nat.le_of_ble_eq_true rfl)
  rw [lg_entry_eq]
  generalize (lg_sl ([.ref mo, .int (nI s9)]) ++ List.replicate (2 - (lg_sl ([.ref mo, .int (nI s9)])).length) Slot.unset).toArray = ls at hl ⊢
  have hl : lv_has ls 2 [(0, .ref mo), (1, .int (nI s9))] := hl
  refine lv_aload_n hx hb dX8_isAtLevel_0 rfl (lv_at hl 0 rfl) ?_
  refine va_get (D := (dC, dI)) (ci := 6) (v := .int (nI df)) (C := RX8) (T := TX8) (N := 32) hx hb hts iX8 hown hK hP 0 rfl rfl 22 (by decide) (hts (.fieldLink RX8 74 "ParkTowerModel" "doingFetch" "Z") (by decide +kernel)) (fun _ h9 => h9) rfl dX8_isAtLevel_1 ?_
  refine lv_if_eq (tgt := 29) hx hb dX8_isAtLevel_4 (by decide) (fun c_1 => ?_) (fun c_1 => ?_)
  · have c_1 : df = 0 := (nI_eq (a := df) (b := 0) (by omega) (by omega)).mp c_1
    refine lv_iload_n hx hb dX8_isAtLevel_29 rfl (lv_at hl 1 rfl) ?_
    refine lv_iconst (v := 3) hx hb dX8_isAtLevel_30 (by decide) ?_
    refine lv_icmp_ne (tgt := 38) hx hb dX8_isAtLevel_31 (by decide) (fun c_2 => ?_) (fun c_2 => ?_)
    · have c_2 : ¬ (s9 = 3) := fun q_ => c_2 ((nI_eq (a := s9) (b := 3) (by omega) (by omega)).mpr q_)
      refine lv_iconst (v := 0) hx hb dX8_isAtLevel_38 (by decide) ?_
      exact W.zret (v := 0) (ty := .boolean) hx hb hr rfl (fun t ht hW => ⟨0, rfl, Or.inl rfl, ht⟩) (fun q h => by cases h) dX8_isAtLevel_39
    · have c_2 : s9 = 3 := (nI_eq (a := s9) (b := 3) (by omega) (by omega)).mp c_2
      refine lv_iconst (v := 1) hx hb dX8_isAtLevel_34 (by decide) ?_
      refine lv_goto (tgt := 39) hx hb dX8_isAtLevel_35 (by decide) ?_
      exact W.zret (v := 1) (ty := .boolean) hx hb hr rfl (fun t ht hW => ⟨1, rfl, Or.inr rfl, ht⟩) (fun q h => by cases h) dX8_isAtLevel_39
  · have c_1 : ¬ (df = 0) := fun q_ => c_1 ((nI_eq (a := df) (b := 0) (by omega) (by omega)).mpr q_)
    refine lv_iload_n hx hb dX8_isAtLevel_7 rfl (lv_at hl 1 rfl) ?_
    refine lv_if_le (tgt := 25) hx hb dX8_isAtLevel_8 (by decide) (fun c_3 => ?_) (fun c_3 => ?_)
    · have c_3 : s9 ≤ 0 := (nI_leI (a := s9) (b := 0) (by omega) (by omega)).mp c_3
      refine lv_iconst (v := 0) hx hb dX8_isAtLevel_25 (by decide) ?_
      refine lv_goto (tgt := 39) hx hb dX8_isAtLevel_26 (by decide) ?_
      exact W.zret (v := 0) (ty := .boolean) hx hb hr rfl (fun t ht hW => ⟨0, rfl, Or.inl rfl, ht⟩) (fun q h => by cases h) dX8_isAtLevel_39
    · have c_3 : ¬ (s9 ≤ 0) := fun q_ => c_3 ((nI_leI (a := s9) (b := 0) (by omega) (by omega)).mpr q_)
      refine lv_iload_n hx hb dX8_isAtLevel_11 rfl (lv_at hl 1 rfl) ?_
      refine lv_aload_n hx hb dX8_isAtLevel_12 rfl (lv_at hl 0 rfl) ?_
      refine va_get (D := (dC, dI)) (ci := 6) (v := .int mm) (C := RX8) (T := TX8) (N := 32) hx hb hts iX8 hown hK hP 0 rfl rfl 26 (by decide) (hts (.fieldLink RX8 159 "ParkTowerModel" "moves" "I") (by decide +kernel)) (fun _ h9 => h9) rfl dX8_isAtLevel_13 ?_
      refine lv_iconst (v := 2) hx hb dX8_isAtLevel_16 (by decide) ?_
      refine lv_iadd hx hb dX8_isAtLevel_17 ?_
      refine lv_topi (fun z_4 ez_4 => ?_)
      refine lv_icmp_ge (tgt := 25) hx hb dX8_isAtLevel_18 (by decide) (fun c_5 => ?_) (fun c_5 => ?_)
      · have c_5 : (z_4 ≤ (nI s9)) := c_5
        refine lv_iconst (v := 0) hx hb dX8_isAtLevel_25 (by decide) ?_
        refine lv_goto (tgt := 39) hx hb dX8_isAtLevel_26 (by decide) ?_
        exact W.zret (v := 0) (ty := .boolean) hx hb hr rfl (fun t ht hW => ⟨0, rfl, Or.inl rfl, ht⟩) (fun q h => by cases h) dX8_isAtLevel_39
      · have c_5 : ¬ (z_4 ≤ (nI s9)) := c_5
        refine lv_iconst (v := 1) hx hb dX8_isAtLevel_21 (by decide) ?_
        refine lv_goto (tgt := 39) hx hb dX8_isAtLevel_22 (by decide) ?_
        exact W.zret (v := 1) (ty := .boolean) hx hb hr rfl (fun t ht hW => ⟨1, rfl, Or.inr rfl, ht⟩) (fun q h => by cases h) dX8_isAtLevel_39
set_option maxHeartbeats 4000000 in
set_option maxRecDepth 100000 in
theorem m_ends (l : Launch) (dC : Nat → ClassId) (dI : Nat → Nat → Nat) (sz : Nat) (mo m4 m5 m6 m7 m8 m9 m10 m11 m12 m16 m17 m18 m27 m29 m30 m31 : Nat) (th tm pw rn tg lf mm fo : Int32) (sr nc no bz dg db df sp : Nat) (y5 y6 y7 y8 y9 y11 y27 : ClassId) (f5 f6 f7 f8 f9 f11 f27 : Nat → Int32) (s9 : Nat) (f16 f17 : Nat → Int32) (hM : MI nc no bz dg df s9 mm f5 f6 f7 f8 f11 f16 f17 f27) (hb1 : bz = 1) (hs9 : s9 ≤ 7) (hdb : db ≤ 1) : Met l yX8_ends wsX8_ends ({ frames := 1, cells := 0, slots := 0, locals := 22 }) (va_Pc [.ref mo, .int (nI s9)] (pt_BQ (dC, dI) [(mo, .inr (6, [.int th, .int tm, .int (nI sr), .int (nI nc), .ref m4, .ref m5, .ref m6, .ref m7, .ref m8, .ref m9, .ref m10, .ref m11, .ref m12, .int pw, .int rn, .int (nI no), .ref m16, .ref m17, .ref m18, .int (nI bz), .int (nI dg), .int (nI db), .int (nI df), .int (nI sp), .int tg, .int lf, .int mm, .ref m27, .int fo, .ref m29, .ref m30, .ref m31])), (m5, .inl (y5, 700, .inl f5)), (m6, .inl (y6, 700, .inl f6)), (m7, .inl (y7, 96, .inl f7)), (m8, .inl (y8, 2, .inl f8)), (m9, .inl (y9, 2, .inl f9)), (m11, .inl (y11, 2, .inl f11)), (m27, .inl (y27, 8, .inl f27))] [(y5, .int), (y6, .int), (y7, .int), (y8, .int), (y9, .int), (y11, .int), (y27, .int)] sz)) (va_Qv (fun (u : (Nat → Int32) × (Nat → Nat) × (Nat → Nat → Int32)) => MI nc no bz dg df (s9 + 1) mm ((u.2.2 0)) ((u.2.2 1)) ((u.2.2 2)) ((u.2.2 3)) ((u.2.2 5)) f16 f17 f27) (fun u t => pt_at (dC, dI) (va_A [(mo, .inr (6, [.int th, .int tm, .int (nI sr), .int (nI nc), .ref m4, .ref m5, .ref m6, .ref m7, .ref m8, .ref m9, .ref m10, .ref m11, .ref m12, .int pw, .int rn, .int (nI no), .ref m16, .ref m17, .ref m18, .int (nI bz), .int (nI dg), .int (nI db), .int (nI df), .int (nI sp), .int tg, .int lf, .int mm, .ref m27, .int fo, .ref m29, .ref m30, .ref m31])), (m5, .inl (y5, 700, .inl f5)), (m6, .inl (y6, 700, .inl f6)), (m7, .inl (y7, 96, .inl f7)), (m8, .inl (y8, 2, .inl f8)), (m9, .inl (y9, 2, .inl f9)), (m11, .inl (y11, 2, .inl f11)), (m27, .inl (y27, 8, .inl f27))] sz) [(mo, .inr (6, [.int th, .int tm, .int (nI sr), .int (nI nc), .ref m4, .ref m5, .ref m6, .ref m7, .ref m8, .ref m9, .ref m10, .ref m11, .ref m12, .int pw, .int rn, .int (nI no), .ref m16, .ref m17, .ref m18, .int (nI bz), .int (nI dg), .int (nI db), .int (nI df), .int (nI sp), .int tg, .int (u.1 0), .int mm, .ref m27, .int fo, .ref m29, .ref m30, .ref m31])), (m5, .inl (y5, 700, .inl (u.2.2 0))), (m6, .inl (y6, 700, .inl (u.2.2 1))), (m7, .inl (y7, 96, .inl (u.2.2 2))), (m8, .inl (y8, 2, .inl (u.2.2 3))), (m9, .inl (y9, 2, .inl (u.2.2 4))), (m11, .inl (y11, 2, .inl (u.2.2 5))), (m27, .inl (y27, 8, .inl f27))] [] t) (va_A [(mo, .inr (6, [.int th, .int tm, .int (nI sr), .int (nI nc), .ref m4, .ref m5, .ref m6, .ref m7, .ref m8, .ref m9, .ref m10, .ref m11, .ref m12, .int pw, .int rn, .int (nI no), .ref m16, .ref m17, .ref m18, .int (nI bz), .int (nI dg), .int (nI db), .int (nI df), .int (nI sp), .int tg, .int lf, .int mm, .ref m27, .int fo, .ref m29, .ref m30, .ref m31])), (m5, .inl (y5, 700, .inl f5)), (m6, .inl (y6, 700, .inl f6)), (m7, .inl (y7, 96, .inl f7)), (m8, .inl (y8, 2, .inl f8)), (m9, .inl (y9, 2, .inl f9)), (m11, .inl (y11, 2, .inl f11)), (m27, .inl (y27, 8, .inl f27))] sz)) 0 0 (va_A [(mo, .inr (6, [.int th, .int tm, .int (nI sr), .int (nI nc), .ref m4, .ref m5, .ref m6, .ref m7, .ref m8, .ref m9, .ref m10, .ref m11, .ref m12, .int pw, .int rn, .int (nI no), .ref m16, .ref m17, .ref m18, .int (nI bz), .int (nI dg), .int (nI db), .int (nI df), .int (nI sp), .int tg, .int lf, .int mm, .ref m27, .int fo, .ref m29, .ref m30, .ref m31])), (m5, .inl (y5, 700, .inl f5)), (m6, .inl (y6, 700, .inl f6)), (m7, .inl (y7, 96, .inl f7)), (m8, .inl (y8, 2, .inl f8)), (m9, .inl (y9, 2, .inl f9)), (m11, .inl (y11, 2, .inl f11)), (m27, .inl (y27, 8, .inl f27))] sz) := by
  refine Met.ofW (cc := cX8_ends) (maxL := 6) (ret := none) (by decide) rfl ?_
  intro p e s m args below meth c s₁ B hml hv
  obtain ⟨rfl, hsz, hP, hK, hD0, hN⟩ := hv
  have hx := B.exec
  have hb := B.bytes
  have hr := B.returns
  have hts := atoms_spec (ws := wsX8_ends) B.pre
  have hown : s.vm.findClass RX8 = some m.cls := findClass_of_methodNamed B.named
  have hlocks := B.notSynchronized
  have iX8 : ∀ w ∈ wsX80, w ∈ wsX8_ends := by decide +kernel
  subst hsz
  have hD := hD0.self (sz := s.heap.size)
  generalize hAe : va_A [(mo, .inr (6, [.int th, .int tm, .int (nI sr), .int (nI nc), .ref m4, .ref m5, .ref m6, .ref m7, .ref m8, .ref m9, .ref m10, .ref m11, .ref m12, .int pw, .int rn, .int (nI no), .ref m16, .ref m17, .ref m18, .int (nI bz), .int (nI dg), .int (nI db), .int (nI df), .int (nI sp), .int tg, .int lf, .int mm, .ref m27, .int fo, .ref m29, .ref m30, .ref m31])), (m5, .inl (y5, 700, .inl f5)), (m6, .inl (y6, 700, .inl f6)), (m7, .inl (y7, 96, .inl f7)), (m8, .inl (y8, 2, .inl f8)), (m9, .inl (y9, 2, .inl f9)), (m11, .inl (y11, 2, .inl f11)), (m27, .inl (y27, 8, .inl f27))] s.heap.size = A at hD ⊢
  have hA : ∀ q : Nat, s.heap.size ≤ q → A q := fun q h => by rw [← hAe]; exact Or.inr h
  have hS : va_S A s.heap s.heap [] := va_S.rf
  have hP : va_P (dC, dI) vwCl [(mo, .inr (6, [.int th, .int tm, .int (nI sr), .int (nI nc), .ref m4, .ref m5, .ref m6, .ref m7, .ref m8, .ref m9, .ref m10, .ref m11, .ref m12, .int pw, .int rn, .int (nI no), .ref m16, .ref m17, .ref m18, .int (nI bz), .int (nI dg), .int (nI db), .int (nI df), .int (nI sp), .int tg, .int lf, .int mm, .ref m27, .int fo, .ref m29, .ref m30, .ref m31])), (m5, .inl (y5, 700, .inl f5)), (m6, .inl (y6, 700, .inl f6)), (m7, .inl (y7, 96, .inl f7)), (m8, .inl (y8, 2, .inl f8)), (m9, .inl (y9, 2, .inl f9)), (m11, .inl (y11, 2, .inl f11)), (m27, .inl (y27, 8, .inl f27))] s.heap := hP
  have hK : va_K (dC, dI) vwCl [(y5, .int), (y6, .int), (y7, .int), (y8, .int), (y9, .int), (y11, .int), (y27, .int)] s := hK
  have hl := lv_entry ([.ref mo, .int (nI s9)]) (n := 6) (Nat.le_of_ble_eq_true rfl)
  rw [lg_entry_eq]
  generalize (lg_sl ([.ref mo, .int (nI s9)]) ++ List.replicate (6 - (lg_sl ([.ref mo, .int (nI s9)])).length) Slot.unset).toArray = ls at hl ⊢
  have hl : lv_has ls 6 [(0, .ref mo), (1, .int (nI s9))] := hl
  have hg7 := hM.hg
  have hdf := hM.hzf
  refine lv_aload_n hx hb dX8_ends_0 rfl (lv_at hl 0 rfl) ?_
  refine va_get (D := (dC, dI)) (ci := 6) (v := .int (nI dg)) (C := RX8) (T := TX8) (N := 32) hx hb hts iX8 hown hK hP 0 rfl rfl 20 (by decide) (hts (.fieldLink RX8 77 "ParkTowerModel" "doing" "I") (by decide +kernel)) (fun _ h9 => h9) rfl dX8_ends_1 ?_
  refine lv_istore_n (lv' := [(2, .int (nI dg)), (0, .ref mo), (1, .int (nI s9))]) hx hb dX8_ends_4 rfl hl (by decide) rfl (fun ls hl => ?_)
  refine lv_aload_n hx hb dX8_ends_5 rfl (lv_at hl 1 rfl) ?_
  refine va_get (D := (dC, dI)) (ci := 6) (v := .ref m6) (C := RX8) (T := TX8) (N := 32) hx hb hts iX8 hown hK hP 0 rfl rfl 6 (by decide) (hts (.fieldLink RX8 16 "ParkTowerModel" "place" "[I") (by decide +kernel)) (fun _ h9 => h9) rfl dX8_ends_6 ?_
  refine lv_iload_n hx hb dX8_ends_9 rfl (lv_at hl 0 rfl) ?_
  refine va_iald hx hb hK hP 2 1 rfl rfl (vp_in_nI (n := dg) (by omega) (by decide)) dX8_ends_10 ?_
  refine lv_topi (fun a_1 ea_1 => ?_)
  rw [nI_clamp (n := dg) (by omega)] at ea_1
  obtain ⟨j_1, hj_1, rfl⟩ := (show sC a_1 by rw [ea_1]; exact hM.hp _)
  refine lv_istore_n (lv' := [(3, .int (nI j_1)), (2, .int (nI dg)), (0, .ref mo), (1, .int (nI s9))]) hx hb dX8_ends_11 rfl hl (by decide) rfl (fun ls hl => ?_)
  refine lv_aload_n hx hb dX8_ends_12 rfl (lv_at hl 2 rfl) ?_
  refine va_get (D := (dC, dI)) (ci := 6) (v := .int (nI df)) (C := RX8) (T := TX8) (N := 32) hx hb hts iX8 hown hK hP 0 rfl rfl 22 (by decide) (hts (.fieldLink RX8 74 "ParkTowerModel" "doingFetch" "Z") (by decide +kernel)) (fun _ h9 => h9) rfl dX8_ends_13 ?_
  refine lv_if_ne (tgt := 111) hx hb dX8_ends_16 (by decide) (fun c_2 => ?_) (fun c_2 => ?_)
  · have c_2 : ¬ (df = 0) := fun q_ => c_2 ((nI_eq (a := df) (b := 0) (by omega) (by omega)).mpr q_)
    have hdf1 : df = 1 := by omega
    rcases (id hM.hmm) with rfl | ⟨mq, hmq, rfl⟩
    · skip
      have hm1 := pt_m1lt (k := s9) (by omega)
      refine lv_iload_n hx hb dX8_ends_111 rfl (lv_at hl 3 rfl) ?_
      refine lv_if_ne (tgt := 123) hx hb dX8_ends_112 (by decide) (fun c_3 => ?_) (fun c_3 => ?_)
      · have c_3 : ¬ (s9 = 0) := fun q_ => c_3 ((nI_eq (a := s9) (b := 0) (by omega) (by omega)).mpr q_)
        refine lv_iload_n hx hb dX8_ends_123 rfl (lv_at hl 3 rfl) ?_
        refine lv_if_le (tgt := 199) hx hb dX8_ends_124 (by decide) (fun c_4 => ?_) (fun c_4 => ?_)
        · have c_4 : s9 ≤ 0 := (nI_leI (a := s9) (b := 0) (by omega) (by omega)).mp c_4
          exact (by omega : False).elim
        · have c_4 : ¬ (s9 ≤ 0) := fun q_ => c_4 ((nI_leI (a := s9) (b := 0) (by omega) (by omega)).mpr q_)
          refine lv_iload_n hx hb dX8_ends_127 rfl (lv_at hl 3 rfl) ?_
          refine lv_aload_n hx hb dX8_ends_128 rfl (lv_at hl 2 rfl) ?_
          refine va_get (D := (dC, dI)) (ci := 6) (v := .int (-1)) (C := RX8) (T := TX8) (N := 32) hx hb hts iX8 hown hK hP 0 rfl rfl 26 (by decide) (hts (.fieldLink RX8 159 "ParkTowerModel" "moves" "I") (by decide +kernel)) (fun _ h9 => h9) rfl dX8_ends_129 ?_
          refine lv_icmp_gt (tgt := 199) hx hb dX8_ends_132 (by decide) (fun _ => ?_) (fun c => absurd (by assumption) c)
          refine lv_iload_n hx hb dX8_ends_199 rfl (lv_at hl 3 rfl) ?_
          refine lv_aload_n hx hb dX8_ends_200 rfl (lv_at hl 2 rfl) ?_
          refine va_get (D := (dC, dI)) (ci := 6) (v := .int (-1)) (C := RX8) (T := TX8) (N := 32) hx hb hts iX8 hown hK hP 0 rfl rfl 26 (by decide) (hts (.fieldLink RX8 159 "ParkTowerModel" "moves" "I") (by decide +kernel)) (fun _ h9 => h9) rfl dX8_ends_201 ?_
          refine lv_iconst (v := 1) hx hb dX8_ends_204 (by decide) ?_
          refine lv_iadd hx hb dX8_ends_205 ?_
          refine pt_topi 0 (by decide) ?_
          refine lv_icmp_ne (tgt := 223) hx hb dX8_ends_206 (by decide) (fun c_5 => ?_) (fun c_5 => ?_)
          · have c_5 : ¬ (s9 = 0) := fun q_ => c_5 ((nI_eq (a := s9) (b := 0) (by omega) (by omega)).mpr q_)
            refine lv_iload_n hx hb dX8_ends_223 rfl (lv_at hl 3 rfl) ?_
            refine lv_aload_n hx hb dX8_ends_224 rfl (lv_at hl 2 rfl) ?_
            refine va_get (D := (dC, dI)) (ci := 6) (v := .int (-1)) (C := RX8) (T := TX8) (N := 32) hx hb hts iX8 hown hK hP 0 rfl rfl 26 (by decide) (hts (.fieldLink RX8 159 "ParkTowerModel" "moves" "I") (by decide +kernel)) (fun _ h9 => h9) rfl dX8_ends_225 ?_
            refine lv_iconst (v := 2) hx hb dX8_ends_228 (by decide) ?_
            refine lv_iadd hx hb dX8_ends_229 ?_
            refine pt_topi 1 (by decide) ?_
            refine lv_icmp_ne (tgt := 238) hx hb dX8_ends_230 (by decide) (fun c_6 => ?_) (fun c_6 => ?_)
            · have c_6 : ¬ (s9 = 1) := fun q_ => c_6 ((nI_eq (a := s9) (b := 1) (by omega) (by omega)).mpr q_)
              refine lv_iload_n hx hb dX8_ends_238 rfl (lv_at hl 3 rfl) ?_
              refine lv_aload_n hx hb dX8_ends_239 rfl (lv_at hl 2 rfl) ?_
              refine va_get (D := (dC, dI)) (ci := 6) (v := .int (-1)) (C := RX8) (T := TX8) (N := 32) hx hb hts iX8 hown hK hP 0 rfl rfl 26 (by decide) (hts (.fieldLink RX8 159 "ParkTowerModel" "moves" "I") (by decide +kernel)) (fun _ h9 => h9) rfl dX8_ends_240 ?_
              refine lv_iconst (v := 3) hx hb dX8_ends_243 (by decide) ?_
              refine lv_iadd hx hb dX8_ends_244 ?_
              refine pt_topi 2 (by decide) ?_
              refine lv_icmp_ne (tgt := 274) hx hb dX8_ends_245 (by decide) (fun c_7 => ?_) (fun c_7 => ?_)
              · have c_7 : ¬ (s9 = 2) := fun q_ => c_7 ((nI_eq (a := s9) (b := 2) (by omega) (by omega)).mpr q_)
                have hP9 := hP.sub (ws' := [(mo, .inr (6, [.int th, .int tm, .int (nI sr), .int (nI nc), .ref m4, .ref m5, .ref m6, .ref m7, .ref m8, .ref m9, .ref m10, .ref m11, .ref m12, .int pw, .int rn, .int (nI no), .ref m16, .ref m17, .ref m18, .int (nI bz), .int (nI dg), .int (nI db), .int (nI df), .int (nI sp), .int tg, .int lf, .int (-1), .ref m27, .int fo, .ref m29, .ref m30, .ref m31])), (m5, .inl (y5, 700, .inl f5)), (m6, .inl (y6, 700, .inl f6)), (m7, .inl (y7, 96, .inl f7)), (m8, .inl (y8, 2, .inl f8)), (m9, .inl (y9, 2, .inl f9)), (m11, .inl (y11, 2, .inl f11)), (m27, .inl (y27, 8, .inl f27))]) [0, 1, 2, 3, 4, 5, 6, 7] rfl
                have hD9 := hD.sub (ws' := [(mo, .inr (6, [.int th, .int tm, .int (nI sr), .int (nI nc), .ref m4, .ref m5, .ref m6, .ref m7, .ref m8, .ref m9, .ref m10, .ref m11, .ref m12, .int pw, .int rn, .int (nI no), .ref m16, .ref m17, .ref m18, .int (nI bz), .int (nI dg), .int (nI db), .int (nI df), .int (nI sp), .int tg, .int lf, .int (-1), .ref m27, .int fo, .ref m29, .ref m30, .ref m31])), (m5, .inl (y5, 700, .inl f5)), (m6, .inl (y6, 700, .inl f6)), (m7, .inl (y7, 96, .inl f7)), (m8, .inl (y8, 2, .inl f8)), (m9, .inl (y9, 2, .inl f9)), (m11, .inl (y11, 2, .inl f11)), (m27, .inl (y27, 8, .inl f27))]) [0, 1, 2, 3, 4, 5, 6, 7] (by decide) rfl
                have hK9 := hK.sub (tys' := []) [] rfl
                refine W.widen (k := 0) (n := 0) (by omega) (by omega) ?_
                exact W.vret hx hb hr (fun t ht hW => ⟨⟨(fun q_ => ([lf] : List Int32).getD q_ 0, fun q_ => ([] : List Nat).getD q_ 0, fun q_ => ([f5, f6, f7, f8, f9, f11] : List (Nat → Int32)).getD q_ (fun _ => 0)), rfl, MI.late (sp' := s9 + 1) hM (hM.hf) hM.hp (fun _ m9 h9 e9 => absurd e9.symm (pt_nIm (by omega))), by rw [ht]; exact hP9, va_K.moved hW.alike hK9, hD9⟩, hS.F ht⟩) hS.2.2 dX8_ends_274
              · have c_7 : s9 = 2 := (nI_eq (a := s9) (b := 2) (by omega) (by omega)).mp c_7
                refine lv_aload_n hx hb dX8_ends_248 rfl (lv_at hl 2 rfl) ?_
                refine va_get (D := (dC, dI)) (ci := 6) (v := .ref m5) (C := RX8) (T := TX8) (N := 32) hx hb hts iX8 hown hK hP 0 rfl rfl 5 (by decide) (hts (.fieldLink RX8 13 "ParkTowerModel" "where" "[I") (by decide +kernel)) (fun _ h9 => h9) rfl dX8_ends_249 ?_
                refine lv_iload_n hx hb dX8_ends_252 rfl (lv_at hl 1 rfl) ?_
                refine lv_iconst (v := 4) hx hb dX8_ends_253 (by decide) ?_
                refine va_iast hx hb hK hP hD hS 1 0 rfl rfl (vp_in_nI (n := dg) (by omega) (by decide)) dX8_ends_254 (fun H locs hP hD hS => ?_)
                rw [nI_clamp (n := dg) (by omega)] at hP hD
                have hP : va_P (dC, dI) vwCl [(mo, .inr (6, [.int th, .int tm, .int (nI sr), .int (nI nc), .ref m4, .ref m5, .ref m6, .ref m7, .ref m8, .ref m9, .ref m10, .ref m11, .ref m12, .int pw, .int rn, .int (nI no), .ref m16, .ref m17, .ref m18, .int (nI bz), .int (nI dg), .int (nI db), .int (nI df), .int (nI sp), .int tg, .int lf, .int (-1), .ref m27, .int fo, .ref m29, .ref m30, .ref m31])), (m5, .inl (y5, 700, .inl (upd f5 dg 4))), (m6, .inl (y6, 700, .inl f6)), (m7, .inl (y7, 96, .inl f7)), (m8, .inl (y8, 2, .inl f8)), (m9, .inl (y9, 2, .inl f9)), (m11, .inl (y11, 2, .inl f11)), (m27, .inl (y27, 8, .inl f27))] H := hP
                have hD : va_D A [(mo, .inr (6, [.int th, .int tm, .int (nI sr), .int (nI nc), .ref m4, .ref m5, .ref m6, .ref m7, .ref m8, .ref m9, .ref m10, .ref m11, .ref m12, .int pw, .int rn, .int (nI no), .ref m16, .ref m17, .ref m18, .int (nI bz), .int (nI dg), .int (nI db), .int (nI df), .int (nI sp), .int tg, .int lf, .int (-1), .ref m27, .int fo, .ref m29, .ref m30, .ref m31])), (m5, .inl (y5, 700, .inl (upd f5 dg 4))), (m6, .inl (y6, 700, .inl f6)), (m7, .inl (y7, 96, .inl f7)), (m8, .inl (y8, 2, .inl f8)), (m9, .inl (y9, 2, .inl f9)), (m11, .inl (y11, 2, .inl f11)), (m27, .inl (y27, 8, .inl f27))] := hD
                refine lv_aload_n hx hb dX8_ends_255 rfl (lv_at hl 2 rfl) ?_
                refine va_get (D := (dC, dI)) (ci := 6) (v := .ref m11) (C := RX8) (T := TX8) (N := 32) hx hb hts iX8 hown hK hP 0 rfl rfl 11 (by decide) (hts (.fieldLink RX8 32 "ParkTowerModel" "bay" "[I") (by decide +kernel)) (fun _ h9 => h9) rfl dX8_ends_256 ?_
                refine lv_aload_n hx hb dX8_ends_259 rfl (lv_at hl 2 rfl) ?_
                refine va_get (D := (dC, dI)) (ci := 6) (v := .int (nI db)) (C := RX8) (T := TX8) (N := 32) hx hb hts iX8 hown hK hP 0 rfl rfl 21 (by decide) (hts (.fieldLink RX8 122 "ParkTowerModel" "doingBay" "I") (by decide +kernel)) (fun _ h9 => h9) rfl dX8_ends_260 ?_
                refine lv_iload_n hx hb dX8_ends_263 rfl (lv_at hl 1 rfl) ?_
                refine va_iast hx hb hK hP hD hS 6 5 rfl rfl (vp_in_nI (n := db) (by omega) (by decide)) dX8_ends_264 (fun H locs hP hD hS => ?_)
                rw [nI_clamp (n := db) (by omega)] at hP hD
                have hP : va_P (dC, dI) vwCl [(mo, .inr (6, [.int th, .int tm, .int (nI sr), .int (nI nc), .ref m4, .ref m5, .ref m6, .ref m7, .ref m8, .ref m9, .ref m10, .ref m11, .ref m12, .int pw, .int rn, .int (nI no), .ref m16, .ref m17, .ref m18, .int (nI bz), .int (nI dg), .int (nI db), .int (nI df), .int (nI sp), .int tg, .int lf, .int (-1), .ref m27, .int fo, .ref m29, .ref m30, .ref m31])), (m5, .inl (y5, 700, .inl (upd f5 dg 4))), (m6, .inl (y6, 700, .inl f6)), (m7, .inl (y7, 96, .inl f7)), (m8, .inl (y8, 2, .inl f8)), (m9, .inl (y9, 2, .inl f9)), (m11, .inl (y11, 2, .inl (upd f11 db (nI dg)))), (m27, .inl (y27, 8, .inl f27))] H := hP
                have hD : va_D A [(mo, .inr (6, [.int th, .int tm, .int (nI sr), .int (nI nc), .ref m4, .ref m5, .ref m6, .ref m7, .ref m8, .ref m9, .ref m10, .ref m11, .ref m12, .int pw, .int rn, .int (nI no), .ref m16, .ref m17, .ref m18, .int (nI bz), .int (nI dg), .int (nI db), .int (nI df), .int (nI sp), .int tg, .int lf, .int (-1), .ref m27, .int fo, .ref m29, .ref m30, .ref m31])), (m5, .inl (y5, 700, .inl (upd f5 dg 4))), (m6, .inl (y6, 700, .inl f6)), (m7, .inl (y7, 96, .inl f7)), (m8, .inl (y8, 2, .inl f8)), (m9, .inl (y9, 2, .inl f9)), (m11, .inl (y11, 2, .inl (upd f11 db (nI dg)))), (m27, .inl (y27, 8, .inl f27))] := hD
                refine lv_aload_n hx hb dX8_ends_265 rfl (lv_at hl 2 rfl) ?_
                refine lv_aload_n hx hb dX8_ends_266 rfl (lv_at hl 2 rfl) ?_
                refine va_get (D := (dC, dI)) (ci := 6) (v := .int (nI db)) (C := RX8) (T := TX8) (N := 32) hx hb hts iX8 hown hK hP 0 rfl rfl 21 (by decide) (hts (.fieldLink RX8 122 "ParkTowerModel" "doingBay" "I") (by decide +kernel)) (fun _ h9 => h9) rfl dX8_ends_267 ?_
                refine lv_iconst (v := 1) hx hb dX8_ends_270 (by decide) ?_
                have hPc := hP.sub (ws' := [(mo, .inr (6, [.int th, .int tm, .int (nI sr), .int (nI nc), .ref m4, .ref m5, .ref m6, .ref m7, .ref m8, .ref m9, .ref m10, .ref m11, .ref m12, .int pw, .int rn, .int (nI no), .ref m16, .ref m17, .ref m18, .int (nI bz), .int (nI dg), .int (nI db), .int (nI df), .int (nI sp), .int tg, .int lf, .int (-1), .ref m27, .int fo, .ref m29, .ref m30, .ref m31])), (m8, .inl (y8, 2, .inl f8)), (m9, .inl (y9, 2, .inl f9))]) [0, 4, 5] rfl
                have hDc := hD.sub (ws' := [(mo, .inr (6, [.int th, .int tm, .int (nI sr), .int (nI nc), .ref m4, .ref m5, .ref m6, .ref m7, .ref m8, .ref m9, .ref m10, .ref m11, .ref m12, .int pw, .int rn, .int (nI no), .ref m16, .ref m17, .ref m18, .int (nI bz), .int (nI dg), .int (nI db), .int (nI df), .int (nI sp), .int tg, .int lf, .int (-1), .ref m27, .int fo, .ref m29, .ref m30, .ref m31])), (m8, .inl (y8, 2, .inl f8)), (m9, .inl (y9, 2, .inl f9))]) [0, 4, 5] (by decide) rfl
                have hKc := hK.sub (tys' := [(y8, .int), (y9, .int)]) [3, 4] rfl
                have hFc := va_free (wc := [(mo, .inr (6, [.int th, .int tm, .int (nI sr), .int (nI nc), .ref m4, .ref m5, .ref m6, .ref m7, .ref m8, .ref m9, .ref m10, .ref m11, .ref m12, .int pw, .int rn, .int (nI no), .ref m16, .ref m17, .ref m18, .int (nI bz), .int (nI dg), .int (nI db), .int (nI df), .int (nI sp), .int tg, .int lf, .int (-1), .ref m27, .int fo, .ref m29, .ref m30, .ref m31])), (m8, .inl (y8, 2, .inl f8)), (m9, .inl (y9, 2, .inl f9))]) hD hS hA [0, 4, 5] rfl
                refine va_callv (va_runV (As := [.int (nI db), .int 1]) (rest := []) ⟨hx, hb, hml, hown, hts⟩ (m_moves l dC dI _ mo m4 m5 m6 m7 m8 m9 m10 m11 m12 m16 m17 m18 m27 m29 m30 m31 th tm pw rn tg lf (-1) fo sr nc no bz dg db df sp y8 y9 f8 f9 db 1 (by omega)) (cwV 2 hts gX8_ends_X8_moves rfl rfl rfl (by decide +kernel) ⟨Nat.le_of_ble_eq_true rfl, Nat.le_of_ble_eq_true rfl⟩) ⟨pt_blindQ, va_recv hK hP (ci := 6) (q0 := 0) rfl rfl, pt_preQ hPc hKc hDc hN⟩ rfl rfl hl.1 rfl (lv_room (Nat.le_of_ble_eq_true rfl)) dX8_ends_271 ⟨Nat.le_of_ble_eq_true rfl, Nat.le_of_ble_eq_true rfl⟩) hS (fun q _ h => hFc q h) hFc (fun u_8 t H1 locs ht hvm hw_8 hB hz1 hk1 hS => ?_)
                obtain ⟨v_8, n_8, F_8⟩ := u_8
                obtain ⟨hP1, hK1, hD1⟩ := hB
                try dsimp only at hw_8
                rw [ht] at hP1
                have hK1 := va_K.moved hvm.symm hK1
                obtain ⟨hP, hD⟩ := va_join (wr := [(m5, .inl (y5, 700, .inl (upd f5 dg 4))), (m6, .inl (y6, 700, .inl f6)), (m7, .inl (y7, 96, .inl f7)), (m11, .inl (y11, 2, .inl (upd f11 db (nI dg)))), (m27, .inl (y27, 8, .inl f27))]) (w1 := [(mo, .inr (6, [.int th, .int tm, .int (nI sr), .int (nI nc), .ref m4, .ref m5, .ref m6, .ref m7, .ref m8, .ref m9, .ref m10, .ref m11, .ref m12, .int pw, .int rn, .int (nI no), .ref m16, .ref m17, .ref m18, .int (nI bz), .int (nI dg), .int (nI db), .int (nI df), .int (nI sp), .int tg, .int lf, .int (-1), .ref m27, .int fo, .ref m29, .ref m30, .ref m31])), (m8, .inl (y8, 2, .inl (upd f8 db 1))), (m9, .inl (y9, 2, .inl (upd f9 db 4)))]) hP hD [0, 4, 5] [1, 2, 3, 6, 7] rfl rfl (by decide) (by decide) hk1 hFc hP1 hD1
                have hK := hK.app hK1
                generalize H1 = H at hP hS ⊢
                have hP : va_P (dC, dI) vwCl [(m5, .inl (y5, 700, .inl (upd f5 dg 4))), (m6, .inl (y6, 700, .inl f6)), (m7, .inl (y7, 96, .inl f7)), (m11, .inl (y11, 2, .inl (upd f11 db (nI dg)))), (m27, .inl (y27, 8, .inl f27)), (mo, .inr (6, [.int th, .int tm, .int (nI sr), .int (nI nc), .ref m4, .ref m5, .ref m6, .ref m7, .ref m8, .ref m9, .ref m10, .ref m11, .ref m12, .int pw, .int rn, .int (nI no), .ref m16, .ref m17, .ref m18, .int (nI bz), .int (nI dg), .int (nI db), .int (nI df), .int (nI sp), .int tg, .int lf, .int (-1), .ref m27, .int fo, .ref m29, .ref m30, .ref m31])), (m8, .inl (y8, 2, .inl (upd f8 db 1))), (m9, .inl (y9, 2, .inl (upd f9 db 4)))] H := hP
                have hD : va_D A [(m5, .inl (y5, 700, .inl (upd f5 dg 4))), (m6, .inl (y6, 700, .inl f6)), (m7, .inl (y7, 96, .inl f7)), (m11, .inl (y11, 2, .inl (upd f11 db (nI dg)))), (m27, .inl (y27, 8, .inl f27)), (mo, .inr (6, [.int th, .int tm, .int (nI sr), .int (nI nc), .ref m4, .ref m5, .ref m6, .ref m7, .ref m8, .ref m9, .ref m10, .ref m11, .ref m12, .int pw, .int rn, .int (nI no), .ref m16, .ref m17, .ref m18, .int (nI bz), .int (nI dg), .int (nI db), .int (nI df), .int (nI sp), .int tg, .int lf, .int (-1), .ref m27, .int fo, .ref m29, .ref m30, .ref m31])), (m8, .inl (y8, 2, .inl (upd f8 db 1))), (m9, .inl (y9, 2, .inl (upd f9 db 4)))] := hD
                have hK : va_K (dC, dI) vwCl [(y5, .int), (y6, .int), (y7, .int), (y8, .int), (y9, .int), (y11, .int), (y27, .int)] s := hK
                have hP9 := hP.sub (ws' := [(mo, .inr (6, [.int th, .int tm, .int (nI sr), .int (nI nc), .ref m4, .ref m5, .ref m6, .ref m7, .ref m8, .ref m9, .ref m10, .ref m11, .ref m12, .int pw, .int rn, .int (nI no), .ref m16, .ref m17, .ref m18, .int (nI bz), .int (nI dg), .int (nI db), .int (nI df), .int (nI sp), .int tg, .int lf, .int (-1), .ref m27, .int fo, .ref m29, .ref m30, .ref m31])), (m5, .inl (y5, 700, .inl (upd f5 dg 4))), (m6, .inl (y6, 700, .inl f6)), (m7, .inl (y7, 96, .inl f7)), (m8, .inl (y8, 2, .inl (upd f8 db 1))), (m9, .inl (y9, 2, .inl (upd f9 db 4))), (m11, .inl (y11, 2, .inl (upd f11 db (nI dg)))), (m27, .inl (y27, 8, .inl f27))]) [5, 0, 1, 2, 6, 7, 3, 4] rfl
                have hD9 := hD.sub (ws' := [(mo, .inr (6, [.int th, .int tm, .int (nI sr), .int (nI nc), .ref m4, .ref m5, .ref m6, .ref m7, .ref m8, .ref m9, .ref m10, .ref m11, .ref m12, .int pw, .int rn, .int (nI no), .ref m16, .ref m17, .ref m18, .int (nI bz), .int (nI dg), .int (nI db), .int (nI df), .int (nI sp), .int tg, .int lf, .int (-1), .ref m27, .int fo, .ref m29, .ref m30, .ref m31])), (m5, .inl (y5, 700, .inl (upd f5 dg 4))), (m6, .inl (y6, 700, .inl f6)), (m7, .inl (y7, 96, .inl f7)), (m8, .inl (y8, 2, .inl (upd f8 db 1))), (m9, .inl (y9, 2, .inl (upd f9 db 4))), (m11, .inl (y11, 2, .inl (upd f11 db (nI dg)))), (m27, .inl (y27, 8, .inl f27))]) [5, 0, 1, 2, 6, 7, 3, 4] (by decide) rfl
                have hK9 := hK.sub (tys' := []) [] rfl
                refine W.widen (k := 0) (n := 0) (by omega) (by omega) ?_
                exact W.vret hx hb hr (fun t ht hW => ⟨⟨(fun q_ => ([lf] : List Int32).getD q_ 0, fun q_ => ([] : List Nat).getD q_ 0, fun q_ => ([upd f5 dg 4, f6, f7, upd f8 db 1, upd f9 db 4, upd f11 db (nI dg)] : List (Nat → Int32)).getD q_ (fun _ => 0)), rfl, MI.fetched (MI.whereTo (MI.late (sp' := s9 + 1) hM (hM.hf) hM.hp (fun _ m9 h9 e9 => absurd e9.symm (pt_nIm (by omega)))) (show ¬ (4 : Int32) = 1 by decide)) (hM.hgc hb1) (show ¬ (upd f5 dg 4) dg = 1 by rw [pk_us]; decide) (fun i hi => pk_un hi), by rw [ht]; exact hP9, va_K.moved hW.alike hK9, hD9⟩, hS.F ht⟩) hS.2.2 dX8_ends_274
            · have c_6 : s9 = 1 := (nI_eq (a := s9) (b := 1) (by omega) (by omega)).mp c_6
              refine lv_aload_n hx hb dX8_ends_233 rfl (lv_at hl 2 rfl) ?_
              refine lv_iconst (v := 0) hx hb dX8_ends_234 (by decide) ?_
              refine va_put (D := (dC, dI)) (ci := 6) (v := .int 0) (ty := .int) (C := RX8) (T := TX8) (N := 32) hx hb hts iX8 tyX8 tyX8_ok nmX8 hown hK hP hD hS 0 rfl rfl 25 (by decide) (hts (.fieldLink RX8 161 "ParkTowerModel" "lift" "I") (by decide +kernel)) (fun _ h9 => h9) rfl (by decide +kernel) rfl rfl (Nat.le_of_ble_eq_true rfl) dX8_ends_235 (fun H locs hP hD hS => ?_)
              have hP : va_P (dC, dI) vwCl [(mo, .inr (6, [.int th, .int tm, .int (nI sr), .int (nI nc), .ref m4, .ref m5, .ref m6, .ref m7, .ref m8, .ref m9, .ref m10, .ref m11, .ref m12, .int pw, .int rn, .int (nI no), .ref m16, .ref m17, .ref m18, .int (nI bz), .int (nI dg), .int (nI db), .int (nI df), .int (nI sp), .int tg, .int 0, .int (-1), .ref m27, .int fo, .ref m29, .ref m30, .ref m31])), (m5, .inl (y5, 700, .inl f5)), (m6, .inl (y6, 700, .inl f6)), (m7, .inl (y7, 96, .inl f7)), (m8, .inl (y8, 2, .inl f8)), (m9, .inl (y9, 2, .inl f9)), (m11, .inl (y11, 2, .inl f11)), (m27, .inl (y27, 8, .inl f27))] H := hP
              have hD : va_D A [(mo, .inr (6, [.int th, .int tm, .int (nI sr), .int (nI nc), .ref m4, .ref m5, .ref m6, .ref m7, .ref m8, .ref m9, .ref m10, .ref m11, .ref m12, .int pw, .int rn, .int (nI no), .ref m16, .ref m17, .ref m18, .int (nI bz), .int (nI dg), .int (nI db), .int (nI df), .int (nI sp), .int tg, .int 0, .int (-1), .ref m27, .int fo, .ref m29, .ref m30, .ref m31])), (m5, .inl (y5, 700, .inl f5)), (m6, .inl (y6, 700, .inl f6)), (m7, .inl (y7, 96, .inl f7)), (m8, .inl (y8, 2, .inl f8)), (m9, .inl (y9, 2, .inl f9)), (m11, .inl (y11, 2, .inl f11)), (m27, .inl (y27, 8, .inl f27))] := hD
              refine lv_iload_n hx hb dX8_ends_238 rfl (lv_at hl 3 rfl) ?_
              refine lv_aload_n hx hb dX8_ends_239 rfl (lv_at hl 2 rfl) ?_
              refine va_get (D := (dC, dI)) (ci := 6) (v := .int (-1)) (C := RX8) (T := TX8) (N := 32) hx hb hts iX8 hown hK hP 0 rfl rfl 26 (by decide) (hts (.fieldLink RX8 159 "ParkTowerModel" "moves" "I") (by decide +kernel)) (fun _ h9 => h9) rfl dX8_ends_240 ?_
              refine lv_iconst (v := 3) hx hb dX8_ends_243 (by decide) ?_
              refine lv_iadd hx hb dX8_ends_244 ?_
              refine pt_topi 2 (by decide) ?_
              refine lv_icmp_ne (tgt := 274) hx hb dX8_ends_245 (by decide) (fun c_9 => ?_) (fun c_9 => ?_)
              · have c_9 : ¬ (s9 = 2) := fun q_ => c_9 ((nI_eq (a := s9) (b := 2) (by omega) (by omega)).mpr q_)
                have hP9 := hP.sub (ws' := [(mo, .inr (6, [.int th, .int tm, .int (nI sr), .int (nI nc), .ref m4, .ref m5, .ref m6, .ref m7, .ref m8, .ref m9, .ref m10, .ref m11, .ref m12, .int pw, .int rn, .int (nI no), .ref m16, .ref m17, .ref m18, .int (nI bz), .int (nI dg), .int (nI db), .int (nI df), .int (nI sp), .int tg, .int 0, .int (-1), .ref m27, .int fo, .ref m29, .ref m30, .ref m31])), (m5, .inl (y5, 700, .inl f5)), (m6, .inl (y6, 700, .inl f6)), (m7, .inl (y7, 96, .inl f7)), (m8, .inl (y8, 2, .inl f8)), (m9, .inl (y9, 2, .inl f9)), (m11, .inl (y11, 2, .inl f11)), (m27, .inl (y27, 8, .inl f27))]) [0, 1, 2, 3, 4, 5, 6, 7] rfl
                have hD9 := hD.sub (ws' := [(mo, .inr (6, [.int th, .int tm, .int (nI sr), .int (nI nc), .ref m4, .ref m5, .ref m6, .ref m7, .ref m8, .ref m9, .ref m10, .ref m11, .ref m12, .int pw, .int rn, .int (nI no), .ref m16, .ref m17, .ref m18, .int (nI bz), .int (nI dg), .int (nI db), .int (nI df), .int (nI sp), .int tg, .int 0, .int (-1), .ref m27, .int fo, .ref m29, .ref m30, .ref m31])), (m5, .inl (y5, 700, .inl f5)), (m6, .inl (y6, 700, .inl f6)), (m7, .inl (y7, 96, .inl f7)), (m8, .inl (y8, 2, .inl f8)), (m9, .inl (y9, 2, .inl f9)), (m11, .inl (y11, 2, .inl f11)), (m27, .inl (y27, 8, .inl f27))]) [0, 1, 2, 3, 4, 5, 6, 7] (by decide) rfl
                have hK9 := hK.sub (tys' := []) [] rfl
                refine W.widen (k := 0) (n := 0) (by omega) (by omega) ?_
                exact W.vret hx hb hr (fun t ht hW => ⟨⟨(fun q_ => ([0] : List Int32).getD q_ 0, fun q_ => ([] : List Nat).getD q_ 0, fun q_ => ([f5, f6, f7, f8, f9, f11] : List (Nat → Int32)).getD q_ (fun _ => 0)), rfl, MI.late (sp' := s9 + 1) hM (hM.hf) hM.hp (fun _ m9 h9 e9 => absurd e9.symm (pt_nIm (by omega))), by rw [ht]; exact hP9, va_K.moved hW.alike hK9, hD9⟩, hS.F ht⟩) hS.2.2 dX8_ends_274
              · have c_9 : s9 = 2 := (nI_eq (a := s9) (b := 2) (by omega) (by omega)).mp c_9
                exact (by omega : False).elim
          · have c_5 : s9 = 0 := (nI_eq (a := s9) (b := 0) (by omega) (by omega)).mp c_5
            exact (by omega : False).elim
      · have c_3 : s9 = 0 := (nI_eq (a := s9) (b := 0) (by omega) (by omega)).mp c_3
        refine lv_aload_n hx hb dX8_ends_115 rfl (lv_at hl 2 rfl) ?_
        refine lv_iload_n hx hb dX8_ends_116 rfl (lv_at hl 0 rfl) ?_
        refine pt_cSi (va_runS (As := [.int (nI j_1)]) (rest := [.ref mo]) ⟨hx, hb, hml, hown, hts⟩ (m_level l dC dI j_1 (by omega)) (cwS 1 hts gX8_ends_X8_level rfl rfl rfl (by decide +kernel) ⟨Nat.le_of_ble_eq_true rfl, Nat.le_of_ble_eq_true rfl⟩) ⟨pt_blind, pt_pre (w := []) (tys := []) (hP.sub [] rfl) (hK.sub [] rfl) hN⟩ rfl rfl hl.1 rfl (lv_room (Nat.le_of_ble_eq_true rfl)) dX8_ends_117 ⟨Nat.le_of_ble_eq_true rfl, Nat.le_of_ble_eq_true rfl⟩) (fun r_10 hr_10 => ?_)
        obtain rfl : r_10 = nI (j_1 / 24) := hr_10
        refine va_put (D := (dC, dI)) (ci := 6) (v := .int (nI (j_1 / 24))) (ty := .int) (C := RX8) (T := TX8) (N := 32) hx hb hts iX8 tyX8 tyX8_ok nmX8 hown hK hP hD hS 0 rfl rfl 25 (by decide) (hts (.fieldLink RX8 161 "ParkTowerModel" "lift" "I") (by decide +kernel)) (fun _ h9 => h9) rfl (by decide +kernel) rfl rfl (Nat.le_of_ble_eq_true rfl) dX8_ends_120 (fun H locs hP hD hS => ?_)
        have hP : va_P (dC, dI) vwCl [(mo, .inr (6, [.int th, .int tm, .int (nI sr), .int (nI nc), .ref m4, .ref m5, .ref m6, .ref m7, .ref m8, .ref m9, .ref m10, .ref m11, .ref m12, .int pw, .int rn, .int (nI no), .ref m16, .ref m17, .ref m18, .int (nI bz), .int (nI dg), .int (nI db), .int (nI df), .int (nI sp), .int tg, .int (nI (j_1 / 24)), .int (-1), .ref m27, .int fo, .ref m29, .ref m30, .ref m31])), (m5, .inl (y5, 700, .inl f5)), (m6, .inl (y6, 700, .inl f6)), (m7, .inl (y7, 96, .inl f7)), (m8, .inl (y8, 2, .inl f8)), (m9, .inl (y9, 2, .inl f9)), (m11, .inl (y11, 2, .inl f11)), (m27, .inl (y27, 8, .inl f27))] H := hP
        have hD : va_D A [(mo, .inr (6, [.int th, .int tm, .int (nI sr), .int (nI nc), .ref m4, .ref m5, .ref m6, .ref m7, .ref m8, .ref m9, .ref m10, .ref m11, .ref m12, .int pw, .int rn, .int (nI no), .ref m16, .ref m17, .ref m18, .int (nI bz), .int (nI dg), .int (nI db), .int (nI df), .int (nI sp), .int tg, .int (nI (j_1 / 24)), .int (-1), .ref m27, .int fo, .ref m29, .ref m30, .ref m31])), (m5, .inl (y5, 700, .inl f5)), (m6, .inl (y6, 700, .inl f6)), (m7, .inl (y7, 96, .inl f7)), (m8, .inl (y8, 2, .inl f8)), (m9, .inl (y9, 2, .inl f9)), (m11, .inl (y11, 2, .inl f11)), (m27, .inl (y27, 8, .inl f27))] := hD
        refine lv_iload_n hx hb dX8_ends_123 rfl (lv_at hl 3 rfl) ?_
        refine lv_if_le (tgt := 199) hx hb dX8_ends_124 (by decide) (fun c_11 => ?_) (fun c_11 => ?_)
        · have c_11 : s9 ≤ 0 := (nI_leI (a := s9) (b := 0) (by omega) (by omega)).mp c_11
          refine lv_iload_n hx hb dX8_ends_199 rfl (lv_at hl 3 rfl) ?_
          refine lv_aload_n hx hb dX8_ends_200 rfl (lv_at hl 2 rfl) ?_
          refine va_get (D := (dC, dI)) (ci := 6) (v := .int (-1)) (C := RX8) (T := TX8) (N := 32) hx hb hts iX8 hown hK hP 0 rfl rfl 26 (by decide) (hts (.fieldLink RX8 159 "ParkTowerModel" "moves" "I") (by decide +kernel)) (fun _ h9 => h9) rfl dX8_ends_201 ?_
          refine lv_iconst (v := 1) hx hb dX8_ends_204 (by decide) ?_
          refine lv_iadd hx hb dX8_ends_205 ?_
          refine pt_topi 0 (by decide) ?_
          refine lv_icmp_ne (tgt := 223) hx hb dX8_ends_206 (by decide) (fun c_12 => ?_) (fun c_12 => ?_)
          · have c_12 : ¬ (s9 = 0) := fun q_ => c_12 ((nI_eq (a := s9) (b := 0) (by omega) (by omega)).mpr q_)
            exact (by omega : False).elim
          · have c_12 : s9 = 0 := (nI_eq (a := s9) (b := 0) (by omega) (by omega)).mp c_12
            refine lv_aload_n hx hb dX8_ends_209 rfl (lv_at hl 2 rfl) ?_
            refine va_get (D := (dC, dI)) (ci := 6) (v := .ref m5) (C := RX8) (T := TX8) (N := 32) hx hb hts iX8 hown hK hP 0 rfl rfl 5 (by decide) (hts (.fieldLink RX8 13 "ParkTowerModel" "where" "[I") (by decide +kernel)) (fun _ h9 => h9) rfl dX8_ends_210 ?_
            refine lv_iload_n hx hb dX8_ends_213 rfl (lv_at hl 1 rfl) ?_
            refine lv_iconst (v := 2) hx hb dX8_ends_214 (by decide) ?_
            refine va_iast hx hb hK hP hD hS 1 0 rfl rfl (vp_in_nI (n := dg) (by omega) (by decide)) dX8_ends_215 (fun H locs hP hD hS => ?_)
            rw [nI_clamp (n := dg) (by omega)] at hP hD
            have hP : va_P (dC, dI) vwCl [(mo, .inr (6, [.int th, .int tm, .int (nI sr), .int (nI nc), .ref m4, .ref m5, .ref m6, .ref m7, .ref m8, .ref m9, .ref m10, .ref m11, .ref m12, .int pw, .int rn, .int (nI no), .ref m16, .ref m17, .ref m18, .int (nI bz), .int (nI dg), .int (nI db), .int (nI df), .int (nI sp), .int tg, .int (nI (j_1 / 24)), .int (-1), .ref m27, .int fo, .ref m29, .ref m30, .ref m31])), (m5, .inl (y5, 700, .inl (upd f5 dg 2))), (m6, .inl (y6, 700, .inl f6)), (m7, .inl (y7, 96, .inl f7)), (m8, .inl (y8, 2, .inl f8)), (m9, .inl (y9, 2, .inl f9)), (m11, .inl (y11, 2, .inl f11)), (m27, .inl (y27, 8, .inl f27))] H := hP
            have hD : va_D A [(mo, .inr (6, [.int th, .int tm, .int (nI sr), .int (nI nc), .ref m4, .ref m5, .ref m6, .ref m7, .ref m8, .ref m9, .ref m10, .ref m11, .ref m12, .int pw, .int rn, .int (nI no), .ref m16, .ref m17, .ref m18, .int (nI bz), .int (nI dg), .int (nI db), .int (nI df), .int (nI sp), .int tg, .int (nI (j_1 / 24)), .int (-1), .ref m27, .int fo, .ref m29, .ref m30, .ref m31])), (m5, .inl (y5, 700, .inl (upd f5 dg 2))), (m6, .inl (y6, 700, .inl f6)), (m7, .inl (y7, 96, .inl f7)), (m8, .inl (y8, 2, .inl f8)), (m9, .inl (y9, 2, .inl f9)), (m11, .inl (y11, 2, .inl f11)), (m27, .inl (y27, 8, .inl f27))] := hD
            refine lv_aload_n hx hb dX8_ends_216 rfl (lv_at hl 2 rfl) ?_
            refine va_get (D := (dC, dI)) (ci := 6) (v := .ref m7) (C := RX8) (T := TX8) (N := 32) hx hb hts iX8 hown hK hP 0 rfl rfl 7 (by decide) (hts (.fieldLink RX8 19 "ParkTowerModel" "cell" "[I") (by decide +kernel)) (fun _ h9 => h9) rfl dX8_ends_217 ?_
            refine lv_iload_n hx hb dX8_ends_220 rfl (lv_at hl 0 rfl) ?_
            refine lv_iconst (v := 0) hx hb dX8_ends_221 (by decide) ?_
            refine va_iast hx hb hK hP hD hS 3 2 rfl rfl (vp_in_nI (n := j_1) (by omega) (by decide)) dX8_ends_222 (fun H locs hP hD hS => ?_)
            rw [nI_clamp (n := j_1) (by omega)] at hP hD
            have hP : va_P (dC, dI) vwCl [(mo, .inr (6, [.int th, .int tm, .int (nI sr), .int (nI nc), .ref m4, .ref m5, .ref m6, .ref m7, .ref m8, .ref m9, .ref m10, .ref m11, .ref m12, .int pw, .int rn, .int (nI no), .ref m16, .ref m17, .ref m18, .int (nI bz), .int (nI dg), .int (nI db), .int (nI df), .int (nI sp), .int tg, .int (nI (j_1 / 24)), .int (-1), .ref m27, .int fo, .ref m29, .ref m30, .ref m31])), (m5, .inl (y5, 700, .inl (upd f5 dg 2))), (m6, .inl (y6, 700, .inl f6)), (m7, .inl (y7, 96, .inl (upd f7 j_1 0))), (m8, .inl (y8, 2, .inl f8)), (m9, .inl (y9, 2, .inl f9)), (m11, .inl (y11, 2, .inl f11)), (m27, .inl (y27, 8, .inl f27))] H := hP
            have hD : va_D A [(mo, .inr (6, [.int th, .int tm, .int (nI sr), .int (nI nc), .ref m4, .ref m5, .ref m6, .ref m7, .ref m8, .ref m9, .ref m10, .ref m11, .ref m12, .int pw, .int rn, .int (nI no), .ref m16, .ref m17, .ref m18, .int (nI bz), .int (nI dg), .int (nI db), .int (nI df), .int (nI sp), .int tg, .int (nI (j_1 / 24)), .int (-1), .ref m27, .int fo, .ref m29, .ref m30, .ref m31])), (m5, .inl (y5, 700, .inl (upd f5 dg 2))), (m6, .inl (y6, 700, .inl f6)), (m7, .inl (y7, 96, .inl (upd f7 j_1 0))), (m8, .inl (y8, 2, .inl f8)), (m9, .inl (y9, 2, .inl f9)), (m11, .inl (y11, 2, .inl f11)), (m27, .inl (y27, 8, .inl f27))] := hD
            refine lv_iload_n hx hb dX8_ends_223 rfl (lv_at hl 3 rfl) ?_
            refine lv_aload_n hx hb dX8_ends_224 rfl (lv_at hl 2 rfl) ?_
            refine va_get (D := (dC, dI)) (ci := 6) (v := .int (-1)) (C := RX8) (T := TX8) (N := 32) hx hb hts iX8 hown hK hP 0 rfl rfl 26 (by decide) (hts (.fieldLink RX8 159 "ParkTowerModel" "moves" "I") (by decide +kernel)) (fun _ h9 => h9) rfl dX8_ends_225 ?_
            refine lv_iconst (v := 2) hx hb dX8_ends_228 (by decide) ?_
            refine lv_iadd hx hb dX8_ends_229 ?_
            refine pt_topi 1 (by decide) ?_
            refine lv_icmp_ne (tgt := 238) hx hb dX8_ends_230 (by decide) (fun c_13 => ?_) (fun c_13 => ?_)
            · have c_13 : ¬ (s9 = 1) := fun q_ => c_13 ((nI_eq (a := s9) (b := 1) (by omega) (by omega)).mpr q_)
              refine lv_iload_n hx hb dX8_ends_238 rfl (lv_at hl 3 rfl) ?_
              refine lv_aload_n hx hb dX8_ends_239 rfl (lv_at hl 2 rfl) ?_
              refine va_get (D := (dC, dI)) (ci := 6) (v := .int (-1)) (C := RX8) (T := TX8) (N := 32) hx hb hts iX8 hown hK hP 0 rfl rfl 26 (by decide) (hts (.fieldLink RX8 159 "ParkTowerModel" "moves" "I") (by decide +kernel)) (fun _ h9 => h9) rfl dX8_ends_240 ?_
              refine lv_iconst (v := 3) hx hb dX8_ends_243 (by decide) ?_
              refine lv_iadd hx hb dX8_ends_244 ?_
              refine pt_topi 2 (by decide) ?_
              refine lv_icmp_ne (tgt := 274) hx hb dX8_ends_245 (by decide) (fun c_14 => ?_) (fun c_14 => ?_)
              · have c_14 : ¬ (s9 = 2) := fun q_ => c_14 ((nI_eq (a := s9) (b := 2) (by omega) (by omega)).mpr q_)
                have hP9 := hP.sub (ws' := [(mo, .inr (6, [.int th, .int tm, .int (nI sr), .int (nI nc), .ref m4, .ref m5, .ref m6, .ref m7, .ref m8, .ref m9, .ref m10, .ref m11, .ref m12, .int pw, .int rn, .int (nI no), .ref m16, .ref m17, .ref m18, .int (nI bz), .int (nI dg), .int (nI db), .int (nI df), .int (nI sp), .int tg, .int (nI (j_1 / 24)), .int (-1), .ref m27, .int fo, .ref m29, .ref m30, .ref m31])), (m5, .inl (y5, 700, .inl (upd f5 dg 2))), (m6, .inl (y6, 700, .inl f6)), (m7, .inl (y7, 96, .inl (upd f7 j_1 0))), (m8, .inl (y8, 2, .inl f8)), (m9, .inl (y9, 2, .inl f9)), (m11, .inl (y11, 2, .inl f11)), (m27, .inl (y27, 8, .inl f27))]) [0, 1, 2, 3, 4, 5, 6, 7] rfl
                have hD9 := hD.sub (ws' := [(mo, .inr (6, [.int th, .int tm, .int (nI sr), .int (nI nc), .ref m4, .ref m5, .ref m6, .ref m7, .ref m8, .ref m9, .ref m10, .ref m11, .ref m12, .int pw, .int rn, .int (nI no), .ref m16, .ref m17, .ref m18, .int (nI bz), .int (nI dg), .int (nI db), .int (nI df), .int (nI sp), .int tg, .int (nI (j_1 / 24)), .int (-1), .ref m27, .int fo, .ref m29, .ref m30, .ref m31])), (m5, .inl (y5, 700, .inl (upd f5 dg 2))), (m6, .inl (y6, 700, .inl f6)), (m7, .inl (y7, 96, .inl (upd f7 j_1 0))), (m8, .inl (y8, 2, .inl f8)), (m9, .inl (y9, 2, .inl f9)), (m11, .inl (y11, 2, .inl f11)), (m27, .inl (y27, 8, .inl f27))]) [0, 1, 2, 3, 4, 5, 6, 7] (by decide) rfl
                have hK9 := hK.sub (tys' := []) [] rfl
                refine W.widen (k := 0) (n := 0) (by omega) (by omega) ?_
                exact W.vret hx hb hr (fun t ht hW => ⟨⟨(fun q_ => ([nI (j_1 / 24)] : List Int32).getD q_ 0, fun q_ => ([] : List Nat).getD q_ 0, fun q_ => ([upd f5 dg 2, f6, upd f7 j_1 0, f8, f9, f11] : List (Nat → Int32)).getD q_ (fun _ => 0)), rfl, MI.whereTo (MI.late (sp' := s9 + 1) hM (fun i => s_upd hM.hf (Or.inr ⟨0, by omega, rfl⟩) i) hM.hp (fun _ m9 h9 e9 => absurd e9.symm (pt_nIm (by omega)))) (show ¬ (2 : Int32) = 1 by decide), by rw [ht]; exact hP9, va_K.moved hW.alike hK9, hD9⟩, hS.F ht⟩) hS.2.2 dX8_ends_274
              · have c_14 : s9 = 2 := (nI_eq (a := s9) (b := 2) (by omega) (by omega)).mp c_14
                exact (by omega : False).elim
            · have c_13 : s9 = 1 := (nI_eq (a := s9) (b := 1) (by omega) (by omega)).mp c_13
              exact (by omega : False).elim
        · have c_11 : ¬ (s9 ≤ 0) := fun q_ => c_11 ((nI_leI (a := s9) (b := 0) (by omega) (by omega)).mpr q_)
          exact (by omega : False).elim
    · skip
      refine lv_iload_n hx hb dX8_ends_111 rfl (lv_at hl 3 rfl) ?_
      refine lv_if_ne (tgt := 123) hx hb dX8_ends_112 (by decide) (fun c_15 => ?_) (fun c_15 => ?_)
      · have c_15 : ¬ (s9 = 0) := fun q_ => c_15 ((nI_eq (a := s9) (b := 0) (by omega) (by omega)).mpr q_)
        refine lv_iload_n hx hb dX8_ends_123 rfl (lv_at hl 3 rfl) ?_
        refine lv_if_le (tgt := 199) hx hb dX8_ends_124 (by decide) (fun c_16 => ?_) (fun c_16 => ?_)
        · have c_16 : s9 ≤ 0 := (nI_leI (a := s9) (b := 0) (by omega) (by omega)).mp c_16
          exact (by omega : False).elim
        · have c_16 : ¬ (s9 ≤ 0) := fun q_ => c_16 ((nI_leI (a := s9) (b := 0) (by omega) (by omega)).mpr q_)
          refine lv_iload_n hx hb dX8_ends_127 rfl (lv_at hl 3 rfl) ?_
          refine lv_aload_n hx hb dX8_ends_128 rfl (lv_at hl 2 rfl) ?_
          refine va_get (D := (dC, dI)) (ci := 6) (v := .int (nI mq)) (C := RX8) (T := TX8) (N := 32) hx hb hts iX8 hown hK hP 0 rfl rfl 26 (by decide) (hts (.fieldLink RX8 159 "ParkTowerModel" "moves" "I") (by decide +kernel)) (fun _ h9 => h9) rfl dX8_ends_129 ?_
          refine lv_icmp_gt (tgt := 199) hx hb dX8_ends_132 (by decide) (fun c_17 => ?_) (fun c_17 => ?_)
          · have c_17 : mq < s9 := (nI_ltI (a := mq) (b := s9) (by omega) (by omega)).mp c_17
            refine lv_iload_n hx hb dX8_ends_199 rfl (lv_at hl 3 rfl) ?_
            refine lv_aload_n hx hb dX8_ends_200 rfl (lv_at hl 2 rfl) ?_
            refine va_get (D := (dC, dI)) (ci := 6) (v := .int (nI mq)) (C := RX8) (T := TX8) (N := 32) hx hb hts iX8 hown hK hP 0 rfl rfl 26 (by decide) (hts (.fieldLink RX8 159 "ParkTowerModel" "moves" "I") (by decide +kernel)) (fun _ h9 => h9) rfl dX8_ends_201 ?_
            refine lv_iconst (v := 1) hx hb dX8_ends_204 (by decide) ?_
            refine lv_iadd hx hb dX8_ends_205 ?_
            refine pt_topi (nI (mq + 1)) (nI_add mq 1) ?_
            refine lv_icmp_ne (tgt := 223) hx hb dX8_ends_206 (by decide) (fun c_18 => ?_) (fun c_18 => ?_)
            · have c_18 : ¬ (s9 = mq + 1) := fun q_ => c_18 ((nI_eq (a := s9) (b := mq + 1) (by omega) (by omega)).mpr q_)
              refine lv_iload_n hx hb dX8_ends_223 rfl (lv_at hl 3 rfl) ?_
              refine lv_aload_n hx hb dX8_ends_224 rfl (lv_at hl 2 rfl) ?_
              refine va_get (D := (dC, dI)) (ci := 6) (v := .int (nI mq)) (C := RX8) (T := TX8) (N := 32) hx hb hts iX8 hown hK hP 0 rfl rfl 26 (by decide) (hts (.fieldLink RX8 159 "ParkTowerModel" "moves" "I") (by decide +kernel)) (fun _ h9 => h9) rfl dX8_ends_225 ?_
              refine lv_iconst (v := 2) hx hb dX8_ends_228 (by decide) ?_
              refine lv_iadd hx hb dX8_ends_229 ?_
              refine pt_topi (nI (mq + 2)) (nI_add mq 2) ?_
              refine lv_icmp_ne (tgt := 238) hx hb dX8_ends_230 (by decide) (fun c_19 => ?_) (fun c_19 => ?_)
              · have c_19 : ¬ (s9 = mq + 2) := fun q_ => c_19 ((nI_eq (a := s9) (b := mq + 2) (by omega) (by omega)).mpr q_)
                refine lv_iload_n hx hb dX8_ends_238 rfl (lv_at hl 3 rfl) ?_
                refine lv_aload_n hx hb dX8_ends_239 rfl (lv_at hl 2 rfl) ?_
                refine va_get (D := (dC, dI)) (ci := 6) (v := .int (nI mq)) (C := RX8) (T := TX8) (N := 32) hx hb hts iX8 hown hK hP 0 rfl rfl 26 (by decide) (hts (.fieldLink RX8 159 "ParkTowerModel" "moves" "I") (by decide +kernel)) (fun _ h9 => h9) rfl dX8_ends_240 ?_
                refine lv_iconst (v := 3) hx hb dX8_ends_243 (by decide) ?_
                refine lv_iadd hx hb dX8_ends_244 ?_
                refine pt_topi (nI (mq + 3)) (nI_add mq 3) ?_
                refine lv_icmp_ne (tgt := 274) hx hb dX8_ends_245 (by decide) (fun c_20 => ?_) (fun c_20 => ?_)
                · have c_20 : ¬ (s9 = mq + 3) := fun q_ => c_20 ((nI_eq (a := s9) (b := mq + 3) (by omega) (by omega)).mpr q_)
                  have hP9 := hP.sub (ws' := [(mo, .inr (6, [.int th, .int tm, .int (nI sr), .int (nI nc), .ref m4, .ref m5, .ref m6, .ref m7, .ref m8, .ref m9, .ref m10, .ref m11, .ref m12, .int pw, .int rn, .int (nI no), .ref m16, .ref m17, .ref m18, .int (nI bz), .int (nI dg), .int (nI db), .int (nI df), .int (nI sp), .int tg, .int lf, .int (nI mq), .ref m27, .int fo, .ref m29, .ref m30, .ref m31])), (m5, .inl (y5, 700, .inl f5)), (m6, .inl (y6, 700, .inl f6)), (m7, .inl (y7, 96, .inl f7)), (m8, .inl (y8, 2, .inl f8)), (m9, .inl (y9, 2, .inl f9)), (m11, .inl (y11, 2, .inl f11)), (m27, .inl (y27, 8, .inl f27))]) [0, 1, 2, 3, 4, 5, 6, 7] rfl
                  have hD9 := hD.sub (ws' := [(mo, .inr (6, [.int th, .int tm, .int (nI sr), .int (nI nc), .ref m4, .ref m5, .ref m6, .ref m7, .ref m8, .ref m9, .ref m10, .ref m11, .ref m12, .int pw, .int rn, .int (nI no), .ref m16, .ref m17, .ref m18, .int (nI bz), .int (nI dg), .int (nI db), .int (nI df), .int (nI sp), .int tg, .int lf, .int (nI mq), .ref m27, .int fo, .ref m29, .ref m30, .ref m31])), (m5, .inl (y5, 700, .inl f5)), (m6, .inl (y6, 700, .inl f6)), (m7, .inl (y7, 96, .inl f7)), (m8, .inl (y8, 2, .inl f8)), (m9, .inl (y9, 2, .inl f9)), (m11, .inl (y11, 2, .inl f11)), (m27, .inl (y27, 8, .inl f27))]) [0, 1, 2, 3, 4, 5, 6, 7] (by decide) rfl
                  have hK9 := hK.sub (tys' := []) [] rfl
                  refine W.widen (k := 0) (n := 0) (by omega) (by omega) ?_
                  exact W.vret hx hb hr (fun t ht hW => ⟨⟨(fun q_ => ([lf] : List Int32).getD q_ 0, fun q_ => ([] : List Nat).getD q_ 0, fun q_ => ([f5, f6, f7, f8, f9, f11] : List (Nat → Int32)).getD q_ (fun _ => 0)), rfl, MI.late (sp' := s9 + 1) hM (hM.hf) hM.hp (fun _ m9 h9 e9 => by have e8 := (nI_eq (a := mq) (b := m9) (by omega) (by omega)).mp e9; omega), by rw [ht]; exact hP9, va_K.moved hW.alike hK9, hD9⟩, hS.F ht⟩) hS.2.2 dX8_ends_274
                · have c_20 : s9 = mq + 3 := (nI_eq (a := s9) (b := mq + 3) (by omega) (by omega)).mp c_20
                  refine lv_aload_n hx hb dX8_ends_248 rfl (lv_at hl 2 rfl) ?_
                  refine va_get (D := (dC, dI)) (ci := 6) (v := .ref m5) (C := RX8) (T := TX8) (N := 32) hx hb hts iX8 hown hK hP 0 rfl rfl 5 (by decide) (hts (.fieldLink RX8 13 "ParkTowerModel" "where" "[I") (by decide +kernel)) (fun _ h9 => h9) rfl dX8_ends_249 ?_
                  refine lv_iload_n hx hb dX8_ends_252 rfl (lv_at hl 1 rfl) ?_
                  refine lv_iconst (v := 4) hx hb dX8_ends_253 (by decide) ?_
                  refine va_iast hx hb hK hP hD hS 1 0 rfl rfl (vp_in_nI (n := dg) (by omega) (by decide)) dX8_ends_254 (fun H locs hP hD hS => ?_)
                  rw [nI_clamp (n := dg) (by omega)] at hP hD
                  have hP : va_P (dC, dI) vwCl [(mo, .inr (6, [.int th, .int tm, .int (nI sr), .int (nI nc), .ref m4, .ref m5, .ref m6, .ref m7, .ref m8, .ref m9, .ref m10, .ref m11, .ref m12, .int pw, .int rn, .int (nI no), .ref m16, .ref m17, .ref m18, .int (nI bz), .int (nI dg), .int (nI db), .int (nI df), .int (nI sp), .int tg, .int lf, .int (nI mq), .ref m27, .int fo, .ref m29, .ref m30, .ref m31])), (m5, .inl (y5, 700, .inl (upd f5 dg 4))), (m6, .inl (y6, 700, .inl f6)), (m7, .inl (y7, 96, .inl f7)), (m8, .inl (y8, 2, .inl f8)), (m9, .inl (y9, 2, .inl f9)), (m11, .inl (y11, 2, .inl f11)), (m27, .inl (y27, 8, .inl f27))] H := hP
                  have hD : va_D A [(mo, .inr (6, [.int th, .int tm, .int (nI sr), .int (nI nc), .ref m4, .ref m5, .ref m6, .ref m7, .ref m8, .ref m9, .ref m10, .ref m11, .ref m12, .int pw, .int rn, .int (nI no), .ref m16, .ref m17, .ref m18, .int (nI bz), .int (nI dg), .int (nI db), .int (nI df), .int (nI sp), .int tg, .int lf, .int (nI mq), .ref m27, .int fo, .ref m29, .ref m30, .ref m31])), (m5, .inl (y5, 700, .inl (upd f5 dg 4))), (m6, .inl (y6, 700, .inl f6)), (m7, .inl (y7, 96, .inl f7)), (m8, .inl (y8, 2, .inl f8)), (m9, .inl (y9, 2, .inl f9)), (m11, .inl (y11, 2, .inl f11)), (m27, .inl (y27, 8, .inl f27))] := hD
                  refine lv_aload_n hx hb dX8_ends_255 rfl (lv_at hl 2 rfl) ?_
                  refine va_get (D := (dC, dI)) (ci := 6) (v := .ref m11) (C := RX8) (T := TX8) (N := 32) hx hb hts iX8 hown hK hP 0 rfl rfl 11 (by decide) (hts (.fieldLink RX8 32 "ParkTowerModel" "bay" "[I") (by decide +kernel)) (fun _ h9 => h9) rfl dX8_ends_256 ?_
                  refine lv_aload_n hx hb dX8_ends_259 rfl (lv_at hl 2 rfl) ?_
                  refine va_get (D := (dC, dI)) (ci := 6) (v := .int (nI db)) (C := RX8) (T := TX8) (N := 32) hx hb hts iX8 hown hK hP 0 rfl rfl 21 (by decide) (hts (.fieldLink RX8 122 "ParkTowerModel" "doingBay" "I") (by decide +kernel)) (fun _ h9 => h9) rfl dX8_ends_260 ?_
                  refine lv_iload_n hx hb dX8_ends_263 rfl (lv_at hl 1 rfl) ?_
                  refine va_iast hx hb hK hP hD hS 6 5 rfl rfl (vp_in_nI (n := db) (by omega) (by decide)) dX8_ends_264 (fun H locs hP hD hS => ?_)
                  rw [nI_clamp (n := db) (by omega)] at hP hD
                  have hP : va_P (dC, dI) vwCl [(mo, .inr (6, [.int th, .int tm, .int (nI sr), .int (nI nc), .ref m4, .ref m5, .ref m6, .ref m7, .ref m8, .ref m9, .ref m10, .ref m11, .ref m12, .int pw, .int rn, .int (nI no), .ref m16, .ref m17, .ref m18, .int (nI bz), .int (nI dg), .int (nI db), .int (nI df), .int (nI sp), .int tg, .int lf, .int (nI mq), .ref m27, .int fo, .ref m29, .ref m30, .ref m31])), (m5, .inl (y5, 700, .inl (upd f5 dg 4))), (m6, .inl (y6, 700, .inl f6)), (m7, .inl (y7, 96, .inl f7)), (m8, .inl (y8, 2, .inl f8)), (m9, .inl (y9, 2, .inl f9)), (m11, .inl (y11, 2, .inl (upd f11 db (nI dg)))), (m27, .inl (y27, 8, .inl f27))] H := hP
                  have hD : va_D A [(mo, .inr (6, [.int th, .int tm, .int (nI sr), .int (nI nc), .ref m4, .ref m5, .ref m6, .ref m7, .ref m8, .ref m9, .ref m10, .ref m11, .ref m12, .int pw, .int rn, .int (nI no), .ref m16, .ref m17, .ref m18, .int (nI bz), .int (nI dg), .int (nI db), .int (nI df), .int (nI sp), .int tg, .int lf, .int (nI mq), .ref m27, .int fo, .ref m29, .ref m30, .ref m31])), (m5, .inl (y5, 700, .inl (upd f5 dg 4))), (m6, .inl (y6, 700, .inl f6)), (m7, .inl (y7, 96, .inl f7)), (m8, .inl (y8, 2, .inl f8)), (m9, .inl (y9, 2, .inl f9)), (m11, .inl (y11, 2, .inl (upd f11 db (nI dg)))), (m27, .inl (y27, 8, .inl f27))] := hD
                  refine lv_aload_n hx hb dX8_ends_265 rfl (lv_at hl 2 rfl) ?_
                  refine lv_aload_n hx hb dX8_ends_266 rfl (lv_at hl 2 rfl) ?_
                  refine va_get (D := (dC, dI)) (ci := 6) (v := .int (nI db)) (C := RX8) (T := TX8) (N := 32) hx hb hts iX8 hown hK hP 0 rfl rfl 21 (by decide) (hts (.fieldLink RX8 122 "ParkTowerModel" "doingBay" "I") (by decide +kernel)) (fun _ h9 => h9) rfl dX8_ends_267 ?_
                  refine lv_iconst (v := 1) hx hb dX8_ends_270 (by decide) ?_
                  have hPc := hP.sub (ws' := [(mo, .inr (6, [.int th, .int tm, .int (nI sr), .int (nI nc), .ref m4, .ref m5, .ref m6, .ref m7, .ref m8, .ref m9, .ref m10, .ref m11, .ref m12, .int pw, .int rn, .int (nI no), .ref m16, .ref m17, .ref m18, .int (nI bz), .int (nI dg), .int (nI db), .int (nI df), .int (nI sp), .int tg, .int lf, .int (nI mq), .ref m27, .int fo, .ref m29, .ref m30, .ref m31])), (m8, .inl (y8, 2, .inl f8)), (m9, .inl (y9, 2, .inl f9))]) [0, 4, 5] rfl
                  have hDc := hD.sub (ws' := [(mo, .inr (6, [.int th, .int tm, .int (nI sr), .int (nI nc), .ref m4, .ref m5, .ref m6, .ref m7, .ref m8, .ref m9, .ref m10, .ref m11, .ref m12, .int pw, .int rn, .int (nI no), .ref m16, .ref m17, .ref m18, .int (nI bz), .int (nI dg), .int (nI db), .int (nI df), .int (nI sp), .int tg, .int lf, .int (nI mq), .ref m27, .int fo, .ref m29, .ref m30, .ref m31])), (m8, .inl (y8, 2, .inl f8)), (m9, .inl (y9, 2, .inl f9))]) [0, 4, 5] (by decide) rfl
                  have hKc := hK.sub (tys' := [(y8, .int), (y9, .int)]) [3, 4] rfl
                  have hFc := va_free (wc := [(mo, .inr (6, [.int th, .int tm, .int (nI sr), .int (nI nc), .ref m4, .ref m5, .ref m6, .ref m7, .ref m8, .ref m9, .ref m10, .ref m11, .ref m12, .int pw, .int rn, .int (nI no), .ref m16, .ref m17, .ref m18, .int (nI bz), .int (nI dg), .int (nI db), .int (nI df), .int (nI sp), .int tg, .int lf, .int (nI mq), .ref m27, .int fo, .ref m29, .ref m30, .ref m31])), (m8, .inl (y8, 2, .inl f8)), (m9, .inl (y9, 2, .inl f9))]) hD hS hA [0, 4, 5] rfl
                  refine va_callv (va_runV (As := [.int (nI db), .int 1]) (rest := []) ⟨hx, hb, hml, hown, hts⟩ (m_moves l dC dI _ mo m4 m5 m6 m7 m8 m9 m10 m11 m12 m16 m17 m18 m27 m29 m30 m31 th tm pw rn tg lf (nI mq) fo sr nc no bz dg db df sp y8 y9 f8 f9 db 1 (by omega)) (cwV 2 hts gX8_ends_X8_moves rfl rfl rfl (by decide +kernel) ⟨Nat.le_of_ble_eq_true rfl, Nat.le_of_ble_eq_true rfl⟩) ⟨pt_blindQ, va_recv hK hP (ci := 6) (q0 := 0) rfl rfl, pt_preQ hPc hKc hDc hN⟩ rfl rfl hl.1 rfl (lv_room (Nat.le_of_ble_eq_true rfl)) dX8_ends_271 ⟨Nat.le_of_ble_eq_true rfl, Nat.le_of_ble_eq_true rfl⟩) hS (fun q _ h => hFc q h) hFc (fun u_21 t H1 locs ht hvm hw_21 hB hz1 hk1 hS => ?_)
                  obtain ⟨v_21, n_21, F_21⟩ := u_21
                  obtain ⟨hP1, hK1, hD1⟩ := hB
                  try dsimp only at hw_21
                  rw [ht] at hP1
                  have hK1 := va_K.moved hvm.symm hK1
                  obtain ⟨hP, hD⟩ := va_join (wr := [(m5, .inl (y5, 700, .inl (upd f5 dg 4))), (m6, .inl (y6, 700, .inl f6)), (m7, .inl (y7, 96, .inl f7)), (m11, .inl (y11, 2, .inl (upd f11 db (nI dg)))), (m27, .inl (y27, 8, .inl f27))]) (w1 := [(mo, .inr (6, [.int th, .int tm, .int (nI sr), .int (nI nc), .ref m4, .ref m5, .ref m6, .ref m7, .ref m8, .ref m9, .ref m10, .ref m11, .ref m12, .int pw, .int rn, .int (nI no), .ref m16, .ref m17, .ref m18, .int (nI bz), .int (nI dg), .int (nI db), .int (nI df), .int (nI sp), .int tg, .int lf, .int (nI mq), .ref m27, .int fo, .ref m29, .ref m30, .ref m31])), (m8, .inl (y8, 2, .inl (upd f8 db 1))), (m9, .inl (y9, 2, .inl (upd f9 db 4)))]) hP hD [0, 4, 5] [1, 2, 3, 6, 7] rfl rfl (by decide) (by decide) hk1 hFc hP1 hD1
                  have hK := hK.app hK1
                  generalize H1 = H at hP hS ⊢
                  have hP : va_P (dC, dI) vwCl [(m5, .inl (y5, 700, .inl (upd f5 dg 4))), (m6, .inl (y6, 700, .inl f6)), (m7, .inl (y7, 96, .inl f7)), (m11, .inl (y11, 2, .inl (upd f11 db (nI dg)))), (m27, .inl (y27, 8, .inl f27)), (mo, .inr (6, [.int th, .int tm, .int (nI sr), .int (nI nc), .ref m4, .ref m5, .ref m6, .ref m7, .ref m8, .ref m9, .ref m10, .ref m11, .ref m12, .int pw, .int rn, .int (nI no), .ref m16, .ref m17, .ref m18, .int (nI bz), .int (nI dg), .int (nI db), .int (nI df), .int (nI sp), .int tg, .int lf, .int (nI mq), .ref m27, .int fo, .ref m29, .ref m30, .ref m31])), (m8, .inl (y8, 2, .inl (upd f8 db 1))), (m9, .inl (y9, 2, .inl (upd f9 db 4)))] H := hP
                  have hD : va_D A [(m5, .inl (y5, 700, .inl (upd f5 dg 4))), (m6, .inl (y6, 700, .inl f6)), (m7, .inl (y7, 96, .inl f7)), (m11, .inl (y11, 2, .inl (upd f11 db (nI dg)))), (m27, .inl (y27, 8, .inl f27)), (mo, .inr (6, [.int th, .int tm, .int (nI sr), .int (nI nc), .ref m4, .ref m5, .ref m6, .ref m7, .ref m8, .ref m9, .ref m10, .ref m11, .ref m12, .int pw, .int rn, .int (nI no), .ref m16, .ref m17, .ref m18, .int (nI bz), .int (nI dg), .int (nI db), .int (nI df), .int (nI sp), .int tg, .int lf, .int (nI mq), .ref m27, .int fo, .ref m29, .ref m30, .ref m31])), (m8, .inl (y8, 2, .inl (upd f8 db 1))), (m9, .inl (y9, 2, .inl (upd f9 db 4)))] := hD
                  have hK : va_K (dC, dI) vwCl [(y5, .int), (y6, .int), (y7, .int), (y8, .int), (y9, .int), (y11, .int), (y27, .int)] s := hK
                  have hP9 := hP.sub (ws' := [(mo, .inr (6, [.int th, .int tm, .int (nI sr), .int (nI nc), .ref m4, .ref m5, .ref m6, .ref m7, .ref m8, .ref m9, .ref m10, .ref m11, .ref m12, .int pw, .int rn, .int (nI no), .ref m16, .ref m17, .ref m18, .int (nI bz), .int (nI dg), .int (nI db), .int (nI df), .int (nI sp), .int tg, .int lf, .int (nI mq), .ref m27, .int fo, .ref m29, .ref m30, .ref m31])), (m5, .inl (y5, 700, .inl (upd f5 dg 4))), (m6, .inl (y6, 700, .inl f6)), (m7, .inl (y7, 96, .inl f7)), (m8, .inl (y8, 2, .inl (upd f8 db 1))), (m9, .inl (y9, 2, .inl (upd f9 db 4))), (m11, .inl (y11, 2, .inl (upd f11 db (nI dg)))), (m27, .inl (y27, 8, .inl f27))]) [5, 0, 1, 2, 6, 7, 3, 4] rfl
                  have hD9 := hD.sub (ws' := [(mo, .inr (6, [.int th, .int tm, .int (nI sr), .int (nI nc), .ref m4, .ref m5, .ref m6, .ref m7, .ref m8, .ref m9, .ref m10, .ref m11, .ref m12, .int pw, .int rn, .int (nI no), .ref m16, .ref m17, .ref m18, .int (nI bz), .int (nI dg), .int (nI db), .int (nI df), .int (nI sp), .int tg, .int lf, .int (nI mq), .ref m27, .int fo, .ref m29, .ref m30, .ref m31])), (m5, .inl (y5, 700, .inl (upd f5 dg 4))), (m6, .inl (y6, 700, .inl f6)), (m7, .inl (y7, 96, .inl f7)), (m8, .inl (y8, 2, .inl (upd f8 db 1))), (m9, .inl (y9, 2, .inl (upd f9 db 4))), (m11, .inl (y11, 2, .inl (upd f11 db (nI dg)))), (m27, .inl (y27, 8, .inl f27))]) [5, 0, 1, 2, 6, 7, 3, 4] (by decide) rfl
                  have hK9 := hK.sub (tys' := []) [] rfl
                  refine W.widen (k := 0) (n := 0) (by omega) (by omega) ?_
                  exact W.vret hx hb hr (fun t ht hW => ⟨⟨(fun q_ => ([lf] : List Int32).getD q_ 0, fun q_ => ([] : List Nat).getD q_ 0, fun q_ => ([upd f5 dg 4, f6, f7, upd f8 db 1, upd f9 db 4, upd f11 db (nI dg)] : List (Nat → Int32)).getD q_ (fun _ => 0)), rfl, MI.fetched (MI.whereTo (MI.late (sp' := s9 + 1) hM (hM.hf) hM.hp (fun _ m9 h9 e9 => by have e8 := (nI_eq (a := mq) (b := m9) (by omega) (by omega)).mp e9; omega)) (show ¬ (4 : Int32) = 1 by decide)) (hM.hgc hb1) (show ¬ (upd f5 dg 4) dg = 1 by rw [pk_us]; decide) (fun i hi => pk_un hi), by rw [ht]; exact hP9, va_K.moved hW.alike hK9, hD9⟩, hS.F ht⟩) hS.2.2 dX8_ends_274
              · have c_19 : s9 = mq + 2 := (nI_eq (a := s9) (b := mq + 2) (by omega) (by omega)).mp c_19
                refine lv_aload_n hx hb dX8_ends_233 rfl (lv_at hl 2 rfl) ?_
                refine lv_iconst (v := 0) hx hb dX8_ends_234 (by decide) ?_
                refine va_put (D := (dC, dI)) (ci := 6) (v := .int 0) (ty := .int) (C := RX8) (T := TX8) (N := 32) hx hb hts iX8 tyX8 tyX8_ok nmX8 hown hK hP hD hS 0 rfl rfl 25 (by decide) (hts (.fieldLink RX8 161 "ParkTowerModel" "lift" "I") (by decide +kernel)) (fun _ h9 => h9) rfl (by decide +kernel) rfl rfl (Nat.le_of_ble_eq_true rfl) dX8_ends_235 (fun H locs hP hD hS => ?_)
                have hP : va_P (dC, dI) vwCl [(mo, .inr (6, [.int th, .int tm, .int (nI sr), .int (nI nc), .ref m4, .ref m5, .ref m6, .ref m7, .ref m8, .ref m9, .ref m10, .ref m11, .ref m12, .int pw, .int rn, .int (nI no), .ref m16, .ref m17, .ref m18, .int (nI bz), .int (nI dg), .int (nI db), .int (nI df), .int (nI sp), .int tg, .int 0, .int (nI mq), .ref m27, .int fo, .ref m29, .ref m30, .ref m31])), (m5, .inl (y5, 700, .inl f5)), (m6, .inl (y6, 700, .inl f6)), (m7, .inl (y7, 96, .inl f7)), (m8, .inl (y8, 2, .inl f8)), (m9, .inl (y9, 2, .inl f9)), (m11, .inl (y11, 2, .inl f11)), (m27, .inl (y27, 8, .inl f27))] H := hP
                have hD : va_D A [(mo, .inr (6, [.int th, .int tm, .int (nI sr), .int (nI nc), .ref m4, .ref m5, .ref m6, .ref m7, .ref m8, .ref m9, .ref m10, .ref m11, .ref m12, .int pw, .int rn, .int (nI no), .ref m16, .ref m17, .ref m18, .int (nI bz), .int (nI dg), .int (nI db), .int (nI df), .int (nI sp), .int tg, .int 0, .int (nI mq), .ref m27, .int fo, .ref m29, .ref m30, .ref m31])), (m5, .inl (y5, 700, .inl f5)), (m6, .inl (y6, 700, .inl f6)), (m7, .inl (y7, 96, .inl f7)), (m8, .inl (y8, 2, .inl f8)), (m9, .inl (y9, 2, .inl f9)), (m11, .inl (y11, 2, .inl f11)), (m27, .inl (y27, 8, .inl f27))] := hD
                refine lv_iload_n hx hb dX8_ends_238 rfl (lv_at hl 3 rfl) ?_
                refine lv_aload_n hx hb dX8_ends_239 rfl (lv_at hl 2 rfl) ?_
                refine va_get (D := (dC, dI)) (ci := 6) (v := .int (nI mq)) (C := RX8) (T := TX8) (N := 32) hx hb hts iX8 hown hK hP 0 rfl rfl 26 (by decide) (hts (.fieldLink RX8 159 "ParkTowerModel" "moves" "I") (by decide +kernel)) (fun _ h9 => h9) rfl dX8_ends_240 ?_
                refine lv_iconst (v := 3) hx hb dX8_ends_243 (by decide) ?_
                refine lv_iadd hx hb dX8_ends_244 ?_
                refine pt_topi (nI (mq + 3)) (nI_add mq 3) ?_
                refine lv_icmp_ne (tgt := 274) hx hb dX8_ends_245 (by decide) (fun c_22 => ?_) (fun c_22 => ?_)
                · have c_22 : ¬ (s9 = mq + 3) := fun q_ => c_22 ((nI_eq (a := s9) (b := mq + 3) (by omega) (by omega)).mpr q_)
                  have hP9 := hP.sub (ws' := [(mo, .inr (6, [.int th, .int tm, .int (nI sr), .int (nI nc), .ref m4, .ref m5, .ref m6, .ref m7, .ref m8, .ref m9, .ref m10, .ref m11, .ref m12, .int pw, .int rn, .int (nI no), .ref m16, .ref m17, .ref m18, .int (nI bz), .int (nI dg), .int (nI db), .int (nI df), .int (nI sp), .int tg, .int 0, .int (nI mq), .ref m27, .int fo, .ref m29, .ref m30, .ref m31])), (m5, .inl (y5, 700, .inl f5)), (m6, .inl (y6, 700, .inl f6)), (m7, .inl (y7, 96, .inl f7)), (m8, .inl (y8, 2, .inl f8)), (m9, .inl (y9, 2, .inl f9)), (m11, .inl (y11, 2, .inl f11)), (m27, .inl (y27, 8, .inl f27))]) [0, 1, 2, 3, 4, 5, 6, 7] rfl
                  have hD9 := hD.sub (ws' := [(mo, .inr (6, [.int th, .int tm, .int (nI sr), .int (nI nc), .ref m4, .ref m5, .ref m6, .ref m7, .ref m8, .ref m9, .ref m10, .ref m11, .ref m12, .int pw, .int rn, .int (nI no), .ref m16, .ref m17, .ref m18, .int (nI bz), .int (nI dg), .int (nI db), .int (nI df), .int (nI sp), .int tg, .int 0, .int (nI mq), .ref m27, .int fo, .ref m29, .ref m30, .ref m31])), (m5, .inl (y5, 700, .inl f5)), (m6, .inl (y6, 700, .inl f6)), (m7, .inl (y7, 96, .inl f7)), (m8, .inl (y8, 2, .inl f8)), (m9, .inl (y9, 2, .inl f9)), (m11, .inl (y11, 2, .inl f11)), (m27, .inl (y27, 8, .inl f27))]) [0, 1, 2, 3, 4, 5, 6, 7] (by decide) rfl
                  have hK9 := hK.sub (tys' := []) [] rfl
                  refine W.widen (k := 0) (n := 0) (by omega) (by omega) ?_
                  exact W.vret hx hb hr (fun t ht hW => ⟨⟨(fun q_ => ([0] : List Int32).getD q_ 0, fun q_ => ([] : List Nat).getD q_ 0, fun q_ => ([f5, f6, f7, f8, f9, f11] : List (Nat → Int32)).getD q_ (fun _ => 0)), rfl, MI.late (sp' := s9 + 1) hM (hM.hf) hM.hp (fun _ m9 h9 e9 => by have e8 := (nI_eq (a := mq) (b := m9) (by omega) (by omega)).mp e9; omega), by rw [ht]; exact hP9, va_K.moved hW.alike hK9, hD9⟩, hS.F ht⟩) hS.2.2 dX8_ends_274
                · have c_22 : s9 = mq + 3 := (nI_eq (a := s9) (b := mq + 3) (by omega) (by omega)).mp c_22
                  exact (by omega : False).elim
            · have c_18 : s9 = mq + 1 := (nI_eq (a := s9) (b := mq + 1) (by omega) (by omega)).mp c_18
              refine lv_aload_n hx hb dX8_ends_209 rfl (lv_at hl 2 rfl) ?_
              refine va_get (D := (dC, dI)) (ci := 6) (v := .ref m5) (C := RX8) (T := TX8) (N := 32) hx hb hts iX8 hown hK hP 0 rfl rfl 5 (by decide) (hts (.fieldLink RX8 13 "ParkTowerModel" "where" "[I") (by decide +kernel)) (fun _ h9 => h9) rfl dX8_ends_210 ?_
              refine lv_iload_n hx hb dX8_ends_213 rfl (lv_at hl 1 rfl) ?_
              refine lv_iconst (v := 2) hx hb dX8_ends_214 (by decide) ?_
              refine va_iast hx hb hK hP hD hS 1 0 rfl rfl (vp_in_nI (n := dg) (by omega) (by decide)) dX8_ends_215 (fun H locs hP hD hS => ?_)
              rw [nI_clamp (n := dg) (by omega)] at hP hD
              have hP : va_P (dC, dI) vwCl [(mo, .inr (6, [.int th, .int tm, .int (nI sr), .int (nI nc), .ref m4, .ref m5, .ref m6, .ref m7, .ref m8, .ref m9, .ref m10, .ref m11, .ref m12, .int pw, .int rn, .int (nI no), .ref m16, .ref m17, .ref m18, .int (nI bz), .int (nI dg), .int (nI db), .int (nI df), .int (nI sp), .int tg, .int lf, .int (nI mq), .ref m27, .int fo, .ref m29, .ref m30, .ref m31])), (m5, .inl (y5, 700, .inl (upd f5 dg 2))), (m6, .inl (y6, 700, .inl f6)), (m7, .inl (y7, 96, .inl f7)), (m8, .inl (y8, 2, .inl f8)), (m9, .inl (y9, 2, .inl f9)), (m11, .inl (y11, 2, .inl f11)), (m27, .inl (y27, 8, .inl f27))] H := hP
              have hD : va_D A [(mo, .inr (6, [.int th, .int tm, .int (nI sr), .int (nI nc), .ref m4, .ref m5, .ref m6, .ref m7, .ref m8, .ref m9, .ref m10, .ref m11, .ref m12, .int pw, .int rn, .int (nI no), .ref m16, .ref m17, .ref m18, .int (nI bz), .int (nI dg), .int (nI db), .int (nI df), .int (nI sp), .int tg, .int lf, .int (nI mq), .ref m27, .int fo, .ref m29, .ref m30, .ref m31])), (m5, .inl (y5, 700, .inl (upd f5 dg 2))), (m6, .inl (y6, 700, .inl f6)), (m7, .inl (y7, 96, .inl f7)), (m8, .inl (y8, 2, .inl f8)), (m9, .inl (y9, 2, .inl f9)), (m11, .inl (y11, 2, .inl f11)), (m27, .inl (y27, 8, .inl f27))] := hD
              refine lv_aload_n hx hb dX8_ends_216 rfl (lv_at hl 2 rfl) ?_
              refine va_get (D := (dC, dI)) (ci := 6) (v := .ref m7) (C := RX8) (T := TX8) (N := 32) hx hb hts iX8 hown hK hP 0 rfl rfl 7 (by decide) (hts (.fieldLink RX8 19 "ParkTowerModel" "cell" "[I") (by decide +kernel)) (fun _ h9 => h9) rfl dX8_ends_217 ?_
              refine lv_iload_n hx hb dX8_ends_220 rfl (lv_at hl 0 rfl) ?_
              refine lv_iconst (v := 0) hx hb dX8_ends_221 (by decide) ?_
              refine va_iast hx hb hK hP hD hS 3 2 rfl rfl (vp_in_nI (n := j_1) (by omega) (by decide)) dX8_ends_222 (fun H locs hP hD hS => ?_)
              rw [nI_clamp (n := j_1) (by omega)] at hP hD
              have hP : va_P (dC, dI) vwCl [(mo, .inr (6, [.int th, .int tm, .int (nI sr), .int (nI nc), .ref m4, .ref m5, .ref m6, .ref m7, .ref m8, .ref m9, .ref m10, .ref m11, .ref m12, .int pw, .int rn, .int (nI no), .ref m16, .ref m17, .ref m18, .int (nI bz), .int (nI dg), .int (nI db), .int (nI df), .int (nI sp), .int tg, .int lf, .int (nI mq), .ref m27, .int fo, .ref m29, .ref m30, .ref m31])), (m5, .inl (y5, 700, .inl (upd f5 dg 2))), (m6, .inl (y6, 700, .inl f6)), (m7, .inl (y7, 96, .inl (upd f7 j_1 0))), (m8, .inl (y8, 2, .inl f8)), (m9, .inl (y9, 2, .inl f9)), (m11, .inl (y11, 2, .inl f11)), (m27, .inl (y27, 8, .inl f27))] H := hP
              have hD : va_D A [(mo, .inr (6, [.int th, .int tm, .int (nI sr), .int (nI nc), .ref m4, .ref m5, .ref m6, .ref m7, .ref m8, .ref m9, .ref m10, .ref m11, .ref m12, .int pw, .int rn, .int (nI no), .ref m16, .ref m17, .ref m18, .int (nI bz), .int (nI dg), .int (nI db), .int (nI df), .int (nI sp), .int tg, .int lf, .int (nI mq), .ref m27, .int fo, .ref m29, .ref m30, .ref m31])), (m5, .inl (y5, 700, .inl (upd f5 dg 2))), (m6, .inl (y6, 700, .inl f6)), (m7, .inl (y7, 96, .inl (upd f7 j_1 0))), (m8, .inl (y8, 2, .inl f8)), (m9, .inl (y9, 2, .inl f9)), (m11, .inl (y11, 2, .inl f11)), (m27, .inl (y27, 8, .inl f27))] := hD
              refine lv_iload_n hx hb dX8_ends_223 rfl (lv_at hl 3 rfl) ?_
              refine lv_aload_n hx hb dX8_ends_224 rfl (lv_at hl 2 rfl) ?_
              refine va_get (D := (dC, dI)) (ci := 6) (v := .int (nI mq)) (C := RX8) (T := TX8) (N := 32) hx hb hts iX8 hown hK hP 0 rfl rfl 26 (by decide) (hts (.fieldLink RX8 159 "ParkTowerModel" "moves" "I") (by decide +kernel)) (fun _ h9 => h9) rfl dX8_ends_225 ?_
              refine lv_iconst (v := 2) hx hb dX8_ends_228 (by decide) ?_
              refine lv_iadd hx hb dX8_ends_229 ?_
              refine pt_topi (nI (mq + 2)) (nI_add mq 2) ?_
              refine lv_icmp_ne (tgt := 238) hx hb dX8_ends_230 (by decide) (fun c_23 => ?_) (fun c_23 => ?_)
              · have c_23 : ¬ (s9 = mq + 2) := fun q_ => c_23 ((nI_eq (a := s9) (b := mq + 2) (by omega) (by omega)).mpr q_)
                refine lv_iload_n hx hb dX8_ends_238 rfl (lv_at hl 3 rfl) ?_
                refine lv_aload_n hx hb dX8_ends_239 rfl (lv_at hl 2 rfl) ?_
                refine va_get (D := (dC, dI)) (ci := 6) (v := .int (nI mq)) (C := RX8) (T := TX8) (N := 32) hx hb hts iX8 hown hK hP 0 rfl rfl 26 (by decide) (hts (.fieldLink RX8 159 "ParkTowerModel" "moves" "I") (by decide +kernel)) (fun _ h9 => h9) rfl dX8_ends_240 ?_
                refine lv_iconst (v := 3) hx hb dX8_ends_243 (by decide) ?_
                refine lv_iadd hx hb dX8_ends_244 ?_
                refine pt_topi (nI (mq + 3)) (nI_add mq 3) ?_
                refine lv_icmp_ne (tgt := 274) hx hb dX8_ends_245 (by decide) (fun c_24 => ?_) (fun c_24 => ?_)
                · have c_24 : ¬ (s9 = mq + 3) := fun q_ => c_24 ((nI_eq (a := s9) (b := mq + 3) (by omega) (by omega)).mpr q_)
                  have hP9 := hP.sub (ws' := [(mo, .inr (6, [.int th, .int tm, .int (nI sr), .int (nI nc), .ref m4, .ref m5, .ref m6, .ref m7, .ref m8, .ref m9, .ref m10, .ref m11, .ref m12, .int pw, .int rn, .int (nI no), .ref m16, .ref m17, .ref m18, .int (nI bz), .int (nI dg), .int (nI db), .int (nI df), .int (nI sp), .int tg, .int lf, .int (nI mq), .ref m27, .int fo, .ref m29, .ref m30, .ref m31])), (m5, .inl (y5, 700, .inl (upd f5 dg 2))), (m6, .inl (y6, 700, .inl f6)), (m7, .inl (y7, 96, .inl (upd f7 j_1 0))), (m8, .inl (y8, 2, .inl f8)), (m9, .inl (y9, 2, .inl f9)), (m11, .inl (y11, 2, .inl f11)), (m27, .inl (y27, 8, .inl f27))]) [0, 1, 2, 3, 4, 5, 6, 7] rfl
                  have hD9 := hD.sub (ws' := [(mo, .inr (6, [.int th, .int tm, .int (nI sr), .int (nI nc), .ref m4, .ref m5, .ref m6, .ref m7, .ref m8, .ref m9, .ref m10, .ref m11, .ref m12, .int pw, .int rn, .int (nI no), .ref m16, .ref m17, .ref m18, .int (nI bz), .int (nI dg), .int (nI db), .int (nI df), .int (nI sp), .int tg, .int lf, .int (nI mq), .ref m27, .int fo, .ref m29, .ref m30, .ref m31])), (m5, .inl (y5, 700, .inl (upd f5 dg 2))), (m6, .inl (y6, 700, .inl f6)), (m7, .inl (y7, 96, .inl (upd f7 j_1 0))), (m8, .inl (y8, 2, .inl f8)), (m9, .inl (y9, 2, .inl f9)), (m11, .inl (y11, 2, .inl f11)), (m27, .inl (y27, 8, .inl f27))]) [0, 1, 2, 3, 4, 5, 6, 7] (by decide) rfl
                  have hK9 := hK.sub (tys' := []) [] rfl
                  refine W.widen (k := 0) (n := 0) (by omega) (by omega) ?_
                  exact W.vret hx hb hr (fun t ht hW => ⟨⟨(fun q_ => ([lf] : List Int32).getD q_ 0, fun q_ => ([] : List Nat).getD q_ 0, fun q_ => ([upd f5 dg 2, f6, upd f7 j_1 0, f8, f9, f11] : List (Nat → Int32)).getD q_ (fun _ => 0)), rfl, MI.whereTo (MI.late (sp' := s9 + 1) hM (fun i => s_upd hM.hf (Or.inr ⟨0, by omega, rfl⟩) i) hM.hp (fun _ m9 h9 e9 => by have e8 := (nI_eq (a := mq) (b := m9) (by omega) (by omega)).mp e9; omega)) (show ¬ (2 : Int32) = 1 by decide), by rw [ht]; exact hP9, va_K.moved hW.alike hK9, hD9⟩, hS.F ht⟩) hS.2.2 dX8_ends_274
                · have c_24 : s9 = mq + 3 := (nI_eq (a := s9) (b := mq + 3) (by omega) (by omega)).mp c_24
                  exact (by omega : False).elim
              · have c_23 : s9 = mq + 2 := (nI_eq (a := s9) (b := mq + 2) (by omega) (by omega)).mp c_23
                exact (by omega : False).elim
          · have c_17 : ¬ (mq < s9) := fun q_ => c_17 ((nI_ltI (a := mq) (b := s9) (by omega) (by omega)).mpr q_)
            obtain ⟨a9, b9, v9, k1, k2, k3, k4, k5, k6, k7, k8, k10⟩ := hM.chain hb1 hdf1 rfl hmq (by omega) ea_1.symm (by omega) (by omega)
            refine lv_aload_n hx hb dX8_ends_135 rfl (lv_at hl 2 rfl) ?_
            refine va_get (D := (dC, dI)) (ci := 6) (v := .ref m27) (C := RX8) (T := TX8) (N := 32) hx hb hts iX8 hown hK hP 0 rfl rfl 27 (by decide) (hts (.fieldLink RX8 51 "ParkTowerModel" "move" "[I") (by decide +kernel)) (fun _ h9 => h9) rfl dX8_ends_136 ?_
            refine lv_iload_n hx hb dX8_ends_139 rfl (lv_at hl 3 rfl) ?_
            refine lv_iconst (v := 1) hx hb dX8_ends_140 (by decide) ?_
            refine lv_isub hx hb dX8_ends_141 ?_
            refine pt_topi (nI (s9 - 1)) (pk_sub (a := s9) (b := 1) (by omega)) ?_
            refine va_iald hx hb hK hP 7 6 rfl rfl (vp_in_nI (n := s9 - 1) (by omega) (by decide)) dX8_ends_142 ?_
            refine lv_topi (fun a_25 ea_25 => ?_)
            rw [nI_clamp (n := s9 - 1) (by omega)] at ea_25
            obtain rfl : a_25 = nI (100 * a9 + b9) := ea_25.trans k1
            refine lv_bipush (v := 100) hx hb dX8_ends_143 (by decide) ?_
            refine lv_idiv hx hb dX8_ends_145 (by decide) ?_
            refine pt_topi (nI ((100 * a9 + b9) / 100)) (pk_div (a := 100 * a9 + b9) (d := 100) (by omega) (by omega) (by omega)) ?_
            refine pt_topi (nI a9) (congrArg nI (by omega)) ?_
            refine lv_istore (lv' := [(4, .int (nI a9)), (3, .int (nI j_1)), (2, .int (nI dg)), (0, .ref mo), (1, .int (nI s9))]) hx hb dX8_ends_146 hl (by decide) rfl (fun ls hl => ?_)
            refine lv_aload_n hx hb dX8_ends_148 rfl (lv_at hl 3 rfl) ?_
            refine va_get (D := (dC, dI)) (ci := 6) (v := .ref m27) (C := RX8) (T := TX8) (N := 32) hx hb hts iX8 hown hK hP 0 rfl rfl 27 (by decide) (hts (.fieldLink RX8 51 "ParkTowerModel" "move" "[I") (by decide +kernel)) (fun _ h9 => h9) rfl dX8_ends_149 ?_
            refine lv_iload_n hx hb dX8_ends_152 rfl (lv_at hl 4 rfl) ?_
            refine lv_iconst (v := 1) hx hb dX8_ends_153 (by decide) ?_
            refine lv_isub hx hb dX8_ends_154 ?_
            refine pt_topi (nI (s9 - 1)) (pk_sub (a := s9) (b := 1) (by omega)) ?_
            refine va_iald hx hb hK hP 7 6 rfl rfl (vp_in_nI (n := s9 - 1) (by omega) (by decide)) dX8_ends_155 ?_
            refine pt_topi (nI (100 * a9 + b9)) (by rw [nI_clamp (n := s9 - 1) (by omega)]; exact ea_25.symm) ?_
            refine lv_bipush (v := 100) hx hb dX8_ends_156 (by decide) ?_
            refine lv_irem hx hb dX8_ends_158 (by decide) ?_
            refine pt_topi (nI ((100 * a9 + b9) % 100)) (pk_rem (a := 100 * a9 + b9) (d := 100) (by omega) (by omega) (by omega)) ?_
            refine pt_topi (nI b9) (congrArg nI (by omega)) ?_
            refine lv_istore (lv' := [(5, .int (nI b9)), (4, .int (nI a9)), (3, .int (nI j_1)), (2, .int (nI dg)), (0, .ref mo), (1, .int (nI s9))]) hx hb dX8_ends_159 hl (by decide) rfl (fun ls hl => ?_)
            refine lv_aload_n hx hb dX8_ends_161 rfl (lv_at hl 4 rfl) ?_
            refine va_get (D := (dC, dI)) (ci := 6) (v := .ref m7) (C := RX8) (T := TX8) (N := 32) hx hb hts iX8 hown hK hP 0 rfl rfl 7 (by decide) (hts (.fieldLink RX8 19 "ParkTowerModel" "cell" "[I") (by decide +kernel)) (fun _ h9 => h9) rfl dX8_ends_162 ?_
            refine lv_iload hx hb dX8_ends_165 (lv_at hl 0 rfl) ?_
            refine lv_aload_n hx hb dX8_ends_167 rfl (lv_at hl 4 rfl) ?_
            refine va_get (D := (dC, dI)) (ci := 6) (v := .ref m7) (C := RX8) (T := TX8) (N := 32) hx hb hts iX8 hown hK hP 0 rfl rfl 7 (by decide) (hts (.fieldLink RX8 19 "ParkTowerModel" "cell" "[I") (by decide +kernel)) (fun _ h9 => h9) rfl dX8_ends_168 ?_
            refine lv_iload hx hb dX8_ends_171 (lv_at hl 1 rfl) ?_
            refine va_iald hx hb hK hP 3 2 rfl rfl (vp_in_nI (n := a9) (by omega) (by decide)) dX8_ends_173 ?_
            refine lv_topi (fun a_26 ea_26 => ?_)
            rw [nI_clamp (n := a9) (by omega)] at ea_26
            obtain rfl : a_26 = nI v9 := ea_26.trans k6
            refine va_iast hx hb hK hP hD hS 3 2 rfl rfl (vp_in_nI (n := b9) (by omega) (by decide)) dX8_ends_174 (fun H locs hP hD hS => ?_)
            rw [nI_clamp (n := b9) (by omega)] at hP hD
            have hP : va_P (dC, dI) vwCl [(mo, .inr (6, [.int th, .int tm, .int (nI sr), .int (nI nc), .ref m4, .ref m5, .ref m6, .ref m7, .ref m8, .ref m9, .ref m10, .ref m11, .ref m12, .int pw, .int rn, .int (nI no), .ref m16, .ref m17, .ref m18, .int (nI bz), .int (nI dg), .int (nI db), .int (nI df), .int (nI sp), .int tg, .int lf, .int (nI mq), .ref m27, .int fo, .ref m29, .ref m30, .ref m31])), (m5, .inl (y5, 700, .inl f5)), (m6, .inl (y6, 700, .inl f6)), (m7, .inl (y7, 96, .inl (upd f7 b9 (nI v9)))), (m8, .inl (y8, 2, .inl f8)), (m9, .inl (y9, 2, .inl f9)), (m11, .inl (y11, 2, .inl f11)), (m27, .inl (y27, 8, .inl f27))] H := hP
            have hD : va_D A [(mo, .inr (6, [.int th, .int tm, .int (nI sr), .int (nI nc), .ref m4, .ref m5, .ref m6, .ref m7, .ref m8, .ref m9, .ref m10, .ref m11, .ref m12, .int pw, .int rn, .int (nI no), .ref m16, .ref m17, .ref m18, .int (nI bz), .int (nI dg), .int (nI db), .int (nI df), .int (nI sp), .int tg, .int lf, .int (nI mq), .ref m27, .int fo, .ref m29, .ref m30, .ref m31])), (m5, .inl (y5, 700, .inl f5)), (m6, .inl (y6, 700, .inl f6)), (m7, .inl (y7, 96, .inl (upd f7 b9 (nI v9)))), (m8, .inl (y8, 2, .inl f8)), (m9, .inl (y9, 2, .inl f9)), (m11, .inl (y11, 2, .inl f11)), (m27, .inl (y27, 8, .inl f27))] := hD
            refine lv_aload_n hx hb dX8_ends_175 rfl (lv_at hl 4 rfl) ?_
            refine va_get (D := (dC, dI)) (ci := 6) (v := .ref m7) (C := RX8) (T := TX8) (N := 32) hx hb hts iX8 hown hK hP 0 rfl rfl 7 (by decide) (hts (.fieldLink RX8 19 "ParkTowerModel" "cell" "[I") (by decide +kernel)) (fun _ h9 => h9) rfl dX8_ends_176 ?_
            refine lv_iload hx hb dX8_ends_179 (lv_at hl 1 rfl) ?_
            refine lv_iconst (v := 0) hx hb dX8_ends_181 (by decide) ?_
            refine va_iast hx hb hK hP hD hS 3 2 rfl rfl (vp_in_nI (n := a9) (by omega) (by decide)) dX8_ends_182 (fun H locs hP hD hS => ?_)
            rw [nI_clamp (n := a9) (by omega)] at hP hD
            have hP : va_P (dC, dI) vwCl [(mo, .inr (6, [.int th, .int tm, .int (nI sr), .int (nI nc), .ref m4, .ref m5, .ref m6, .ref m7, .ref m8, .ref m9, .ref m10, .ref m11, .ref m12, .int pw, .int rn, .int (nI no), .ref m16, .ref m17, .ref m18, .int (nI bz), .int (nI dg), .int (nI db), .int (nI df), .int (nI sp), .int tg, .int lf, .int (nI mq), .ref m27, .int fo, .ref m29, .ref m30, .ref m31])), (m5, .inl (y5, 700, .inl f5)), (m6, .inl (y6, 700, .inl f6)), (m7, .inl (y7, 96, .inl (upd (upd f7 b9 (nI v9)) a9 0))), (m8, .inl (y8, 2, .inl f8)), (m9, .inl (y9, 2, .inl f9)), (m11, .inl (y11, 2, .inl f11)), (m27, .inl (y27, 8, .inl f27))] H := hP
            have hD : va_D A [(mo, .inr (6, [.int th, .int tm, .int (nI sr), .int (nI nc), .ref m4, .ref m5, .ref m6, .ref m7, .ref m8, .ref m9, .ref m10, .ref m11, .ref m12, .int pw, .int rn, .int (nI no), .ref m16, .ref m17, .ref m18, .int (nI bz), .int (nI dg), .int (nI db), .int (nI df), .int (nI sp), .int tg, .int lf, .int (nI mq), .ref m27, .int fo, .ref m29, .ref m30, .ref m31])), (m5, .inl (y5, 700, .inl f5)), (m6, .inl (y6, 700, .inl f6)), (m7, .inl (y7, 96, .inl (upd (upd f7 b9 (nI v9)) a9 0))), (m8, .inl (y8, 2, .inl f8)), (m9, .inl (y9, 2, .inl f9)), (m11, .inl (y11, 2, .inl f11)), (m27, .inl (y27, 8, .inl f27))] := hD
            refine lv_aload_n hx hb dX8_ends_183 rfl (lv_at hl 4 rfl) ?_
            refine va_get (D := (dC, dI)) (ci := 6) (v := .ref m6) (C := RX8) (T := TX8) (N := 32) hx hb hts iX8 hown hK hP 0 rfl rfl 6 (by decide) (hts (.fieldLink RX8 16 "ParkTowerModel" "place" "[I") (by decide +kernel)) (fun _ h9 => h9) rfl dX8_ends_184 ?_
            refine lv_aload_n hx hb dX8_ends_187 rfl (lv_at hl 4 rfl) ?_
            refine va_get (D := (dC, dI)) (ci := 6) (v := .ref m7) (C := RX8) (T := TX8) (N := 32) hx hb hts iX8 hown hK hP 0 rfl rfl 7 (by decide) (hts (.fieldLink RX8 19 "ParkTowerModel" "cell" "[I") (by decide +kernel)) (fun _ h9 => h9) rfl dX8_ends_188 ?_
            refine lv_iload hx hb dX8_ends_191 (lv_at hl 0 rfl) ?_
            refine va_iald hx hb hK hP 3 2 rfl rfl (vp_in_nI (n := b9) (by omega) (by decide)) dX8_ends_193 ?_
            refine lv_topi (fun a_27 ea_27 => ?_)
            rw [nI_clamp (n := b9) (by omega)] at ea_27
            obtain rfl : a_27 = nI v9 := ea_27.trans (by rw [pk_un (Ne.symm k5), pk_us])
            refine lv_iconst (v := 1) hx hb dX8_ends_194 (by decide) ?_
            refine lv_isub hx hb dX8_ends_195 ?_
            refine pt_topi (nI (v9 - 1)) (pk_sub (a := v9) (b := 1) (by omega)) ?_
            refine lv_iload hx hb dX8_ends_196 (lv_at hl 0 rfl) ?_
            refine va_iast hx hb hK hP hD hS 2 1 rfl rfl (vp_in_nI (n := v9 - 1) (by omega) (by decide)) dX8_ends_198 (fun H locs hP hD hS => ?_)
            rw [nI_clamp (n := v9 - 1) (by omega)] at hP hD
            have hP : va_P (dC, dI) vwCl [(mo, .inr (6, [.int th, .int tm, .int (nI sr), .int (nI nc), .ref m4, .ref m5, .ref m6, .ref m7, .ref m8, .ref m9, .ref m10, .ref m11, .ref m12, .int pw, .int rn, .int (nI no), .ref m16, .ref m17, .ref m18, .int (nI bz), .int (nI dg), .int (nI db), .int (nI df), .int (nI sp), .int tg, .int lf, .int (nI mq), .ref m27, .int fo, .ref m29, .ref m30, .ref m31])), (m5, .inl (y5, 700, .inl f5)), (m6, .inl (y6, 700, .inl (upd f6 (v9 - 1) (nI b9)))), (m7, .inl (y7, 96, .inl (upd (upd f7 b9 (nI v9)) a9 0))), (m8, .inl (y8, 2, .inl f8)), (m9, .inl (y9, 2, .inl f9)), (m11, .inl (y11, 2, .inl f11)), (m27, .inl (y27, 8, .inl f27))] H := hP
            have hD : va_D A [(mo, .inr (6, [.int th, .int tm, .int (nI sr), .int (nI nc), .ref m4, .ref m5, .ref m6, .ref m7, .ref m8, .ref m9, .ref m10, .ref m11, .ref m12, .int pw, .int rn, .int (nI no), .ref m16, .ref m17, .ref m18, .int (nI bz), .int (nI dg), .int (nI db), .int (nI df), .int (nI sp), .int tg, .int lf, .int (nI mq), .ref m27, .int fo, .ref m29, .ref m30, .ref m31])), (m5, .inl (y5, 700, .inl f5)), (m6, .inl (y6, 700, .inl (upd f6 (v9 - 1) (nI b9)))), (m7, .inl (y7, 96, .inl (upd (upd f7 b9 (nI v9)) a9 0))), (m8, .inl (y8, 2, .inl f8)), (m9, .inl (y9, 2, .inl f9)), (m11, .inl (y11, 2, .inl f11)), (m27, .inl (y27, 8, .inl f27))] := hD
            refine lv_iload_n hx hb dX8_ends_199 rfl (lv_at hl 5 rfl) ?_
            refine lv_aload_n hx hb dX8_ends_200 rfl (lv_at hl 4 rfl) ?_
            refine va_get (D := (dC, dI)) (ci := 6) (v := .int (nI mq)) (C := RX8) (T := TX8) (N := 32) hx hb hts iX8 hown hK hP 0 rfl rfl 26 (by decide) (hts (.fieldLink RX8 159 "ParkTowerModel" "moves" "I") (by decide +kernel)) (fun _ h9 => h9) rfl dX8_ends_201 ?_
            refine lv_iconst (v := 1) hx hb dX8_ends_204 (by decide) ?_
            refine lv_iadd hx hb dX8_ends_205 ?_
            refine pt_topi (nI (mq + 1)) (nI_add mq 1) ?_
            refine lv_icmp_ne (tgt := 223) hx hb dX8_ends_206 (by decide) (fun c_28 => ?_) (fun c_28 => ?_)
            · have c_28 : ¬ (s9 = mq + 1) := fun q_ => c_28 ((nI_eq (a := s9) (b := mq + 1) (by omega) (by omega)).mpr q_)
              refine lv_iload_n hx hb dX8_ends_223 rfl (lv_at hl 5 rfl) ?_
              refine lv_aload_n hx hb dX8_ends_224 rfl (lv_at hl 4 rfl) ?_
              refine va_get (D := (dC, dI)) (ci := 6) (v := .int (nI mq)) (C := RX8) (T := TX8) (N := 32) hx hb hts iX8 hown hK hP 0 rfl rfl 26 (by decide) (hts (.fieldLink RX8 159 "ParkTowerModel" "moves" "I") (by decide +kernel)) (fun _ h9 => h9) rfl dX8_ends_225 ?_
              refine lv_iconst (v := 2) hx hb dX8_ends_228 (by decide) ?_
              refine lv_iadd hx hb dX8_ends_229 ?_
              refine pt_topi (nI (mq + 2)) (nI_add mq 2) ?_
              refine lv_icmp_ne (tgt := 238) hx hb dX8_ends_230 (by decide) (fun c_29 => ?_) (fun c_29 => ?_)
              · have c_29 : ¬ (s9 = mq + 2) := fun q_ => c_29 ((nI_eq (a := s9) (b := mq + 2) (by omega) (by omega)).mpr q_)
                refine lv_iload_n hx hb dX8_ends_238 rfl (lv_at hl 5 rfl) ?_
                refine lv_aload_n hx hb dX8_ends_239 rfl (lv_at hl 4 rfl) ?_
                refine va_get (D := (dC, dI)) (ci := 6) (v := .int (nI mq)) (C := RX8) (T := TX8) (N := 32) hx hb hts iX8 hown hK hP 0 rfl rfl 26 (by decide) (hts (.fieldLink RX8 159 "ParkTowerModel" "moves" "I") (by decide +kernel)) (fun _ h9 => h9) rfl dX8_ends_240 ?_
                refine lv_iconst (v := 3) hx hb dX8_ends_243 (by decide) ?_
                refine lv_iadd hx hb dX8_ends_244 ?_
                refine pt_topi (nI (mq + 3)) (nI_add mq 3) ?_
                refine lv_icmp_ne (tgt := 274) hx hb dX8_ends_245 (by decide) (fun c_30 => ?_) (fun c_30 => ?_)
                · have c_30 : ¬ (s9 = mq + 3) := fun q_ => c_30 ((nI_eq (a := s9) (b := mq + 3) (by omega) (by omega)).mpr q_)
                  have hP9 := hP.sub (ws' := [(mo, .inr (6, [.int th, .int tm, .int (nI sr), .int (nI nc), .ref m4, .ref m5, .ref m6, .ref m7, .ref m8, .ref m9, .ref m10, .ref m11, .ref m12, .int pw, .int rn, .int (nI no), .ref m16, .ref m17, .ref m18, .int (nI bz), .int (nI dg), .int (nI db), .int (nI df), .int (nI sp), .int tg, .int lf, .int (nI mq), .ref m27, .int fo, .ref m29, .ref m30, .ref m31])), (m5, .inl (y5, 700, .inl f5)), (m6, .inl (y6, 700, .inl (upd f6 (v9 - 1) (nI b9)))), (m7, .inl (y7, 96, .inl (upd (upd f7 b9 (nI v9)) a9 0))), (m8, .inl (y8, 2, .inl f8)), (m9, .inl (y9, 2, .inl f9)), (m11, .inl (y11, 2, .inl f11)), (m27, .inl (y27, 8, .inl f27))]) [0, 1, 2, 3, 4, 5, 6, 7] rfl
                  have hD9 := hD.sub (ws' := [(mo, .inr (6, [.int th, .int tm, .int (nI sr), .int (nI nc), .ref m4, .ref m5, .ref m6, .ref m7, .ref m8, .ref m9, .ref m10, .ref m11, .ref m12, .int pw, .int rn, .int (nI no), .ref m16, .ref m17, .ref m18, .int (nI bz), .int (nI dg), .int (nI db), .int (nI df), .int (nI sp), .int tg, .int lf, .int (nI mq), .ref m27, .int fo, .ref m29, .ref m30, .ref m31])), (m5, .inl (y5, 700, .inl f5)), (m6, .inl (y6, 700, .inl (upd f6 (v9 - 1) (nI b9)))), (m7, .inl (y7, 96, .inl (upd (upd f7 b9 (nI v9)) a9 0))), (m8, .inl (y8, 2, .inl f8)), (m9, .inl (y9, 2, .inl f9)), (m11, .inl (y11, 2, .inl f11)), (m27, .inl (y27, 8, .inl f27))]) [0, 1, 2, 3, 4, 5, 6, 7] (by decide) rfl
                  have hK9 := hK.sub (tys' := []) [] rfl
                  refine W.widen (k := 0) (n := 0) (by omega) (by omega) ?_
                  exact W.vret hx hb hr (fun t ht hW => ⟨⟨(fun q_ => ([lf] : List Int32).getD q_ 0, fun q_ => ([] : List Nat).getD q_ 0, fun q_ => ([f5, upd f6 (v9 - 1) (nI b9), upd (upd f7 b9 (nI v9)) a9 0, f8, f9, f11] : List (Nat → Int32)).getD q_ (fun _ => 0)), rfl, MI.moved hM rfl hmq (by omega) ea_1.symm k3 k4 k8 k10, by rw [ht]; exact hP9, va_K.moved hW.alike hK9, hD9⟩, hS.F ht⟩) hS.2.2 dX8_ends_274
                · have c_30 : s9 = mq + 3 := (nI_eq (a := s9) (b := mq + 3) (by omega) (by omega)).mp c_30
                  exact (by omega : False).elim
              · have c_29 : s9 = mq + 2 := (nI_eq (a := s9) (b := mq + 2) (by omega) (by omega)).mp c_29
                exact (by omega : False).elim
            · have c_28 : s9 = mq + 1 := (nI_eq (a := s9) (b := mq + 1) (by omega) (by omega)).mp c_28
              exact (by omega : False).elim
      · have c_15 : s9 = 0 := (nI_eq (a := s9) (b := 0) (by omega) (by omega)).mp c_15
        refine lv_aload_n hx hb dX8_ends_115 rfl (lv_at hl 2 rfl) ?_
        refine lv_iload_n hx hb dX8_ends_116 rfl (lv_at hl 0 rfl) ?_
        refine pt_cSi (va_runS (As := [.int (nI j_1)]) (rest := [.ref mo]) ⟨hx, hb, hml, hown, hts⟩ (m_level l dC dI j_1 (by omega)) (cwS 1 hts gX8_ends_X8_level rfl rfl rfl (by decide +kernel) ⟨Nat.le_of_ble_eq_true rfl, Nat.le_of_ble_eq_true rfl⟩) ⟨pt_blind, pt_pre (w := []) (tys := []) (hP.sub [] rfl) (hK.sub [] rfl) hN⟩ rfl rfl hl.1 rfl (lv_room (Nat.le_of_ble_eq_true rfl)) dX8_ends_117 ⟨Nat.le_of_ble_eq_true rfl, Nat.le_of_ble_eq_true rfl⟩) (fun r_31 hr_31 => ?_)
        obtain rfl : r_31 = nI (j_1 / 24) := hr_31
        refine va_put (D := (dC, dI)) (ci := 6) (v := .int (nI (j_1 / 24))) (ty := .int) (C := RX8) (T := TX8) (N := 32) hx hb hts iX8 tyX8 tyX8_ok nmX8 hown hK hP hD hS 0 rfl rfl 25 (by decide) (hts (.fieldLink RX8 161 "ParkTowerModel" "lift" "I") (by decide +kernel)) (fun _ h9 => h9) rfl (by decide +kernel) rfl rfl (Nat.le_of_ble_eq_true rfl) dX8_ends_120 (fun H locs hP hD hS => ?_)
        have hP : va_P (dC, dI) vwCl [(mo, .inr (6, [.int th, .int tm, .int (nI sr), .int (nI nc), .ref m4, .ref m5, .ref m6, .ref m7, .ref m8, .ref m9, .ref m10, .ref m11, .ref m12, .int pw, .int rn, .int (nI no), .ref m16, .ref m17, .ref m18, .int (nI bz), .int (nI dg), .int (nI db), .int (nI df), .int (nI sp), .int tg, .int (nI (j_1 / 24)), .int (nI mq), .ref m27, .int fo, .ref m29, .ref m30, .ref m31])), (m5, .inl (y5, 700, .inl f5)), (m6, .inl (y6, 700, .inl f6)), (m7, .inl (y7, 96, .inl f7)), (m8, .inl (y8, 2, .inl f8)), (m9, .inl (y9, 2, .inl f9)), (m11, .inl (y11, 2, .inl f11)), (m27, .inl (y27, 8, .inl f27))] H := hP
        have hD : va_D A [(mo, .inr (6, [.int th, .int tm, .int (nI sr), .int (nI nc), .ref m4, .ref m5, .ref m6, .ref m7, .ref m8, .ref m9, .ref m10, .ref m11, .ref m12, .int pw, .int rn, .int (nI no), .ref m16, .ref m17, .ref m18, .int (nI bz), .int (nI dg), .int (nI db), .int (nI df), .int (nI sp), .int tg, .int (nI (j_1 / 24)), .int (nI mq), .ref m27, .int fo, .ref m29, .ref m30, .ref m31])), (m5, .inl (y5, 700, .inl f5)), (m6, .inl (y6, 700, .inl f6)), (m7, .inl (y7, 96, .inl f7)), (m8, .inl (y8, 2, .inl f8)), (m9, .inl (y9, 2, .inl f9)), (m11, .inl (y11, 2, .inl f11)), (m27, .inl (y27, 8, .inl f27))] := hD
        refine lv_iload_n hx hb dX8_ends_123 rfl (lv_at hl 3 rfl) ?_
        refine lv_if_le (tgt := 199) hx hb dX8_ends_124 (by decide) (fun c_32 => ?_) (fun c_32 => ?_)
        · have c_32 : s9 ≤ 0 := (nI_leI (a := s9) (b := 0) (by omega) (by omega)).mp c_32
          refine lv_iload_n hx hb dX8_ends_199 rfl (lv_at hl 3 rfl) ?_
          refine lv_aload_n hx hb dX8_ends_200 rfl (lv_at hl 2 rfl) ?_
          refine va_get (D := (dC, dI)) (ci := 6) (v := .int (nI mq)) (C := RX8) (T := TX8) (N := 32) hx hb hts iX8 hown hK hP 0 rfl rfl 26 (by decide) (hts (.fieldLink RX8 159 "ParkTowerModel" "moves" "I") (by decide +kernel)) (fun _ h9 => h9) rfl dX8_ends_201 ?_
          refine lv_iconst (v := 1) hx hb dX8_ends_204 (by decide) ?_
          refine lv_iadd hx hb dX8_ends_205 ?_
          refine pt_topi (nI (mq + 1)) (nI_add mq 1) ?_
          refine lv_icmp_ne (tgt := 223) hx hb dX8_ends_206 (by decide) (fun c_33 => ?_) (fun c_33 => ?_)
          · have c_33 : ¬ (s9 = mq + 1) := fun q_ => c_33 ((nI_eq (a := s9) (b := mq + 1) (by omega) (by omega)).mpr q_)
            refine lv_iload_n hx hb dX8_ends_223 rfl (lv_at hl 3 rfl) ?_
            refine lv_aload_n hx hb dX8_ends_224 rfl (lv_at hl 2 rfl) ?_
            refine va_get (D := (dC, dI)) (ci := 6) (v := .int (nI mq)) (C := RX8) (T := TX8) (N := 32) hx hb hts iX8 hown hK hP 0 rfl rfl 26 (by decide) (hts (.fieldLink RX8 159 "ParkTowerModel" "moves" "I") (by decide +kernel)) (fun _ h9 => h9) rfl dX8_ends_225 ?_
            refine lv_iconst (v := 2) hx hb dX8_ends_228 (by decide) ?_
            refine lv_iadd hx hb dX8_ends_229 ?_
            refine pt_topi (nI (mq + 2)) (nI_add mq 2) ?_
            refine lv_icmp_ne (tgt := 238) hx hb dX8_ends_230 (by decide) (fun c_34 => ?_) (fun c_34 => ?_)
            · have c_34 : ¬ (s9 = mq + 2) := fun q_ => c_34 ((nI_eq (a := s9) (b := mq + 2) (by omega) (by omega)).mpr q_)
              refine lv_iload_n hx hb dX8_ends_238 rfl (lv_at hl 3 rfl) ?_
              refine lv_aload_n hx hb dX8_ends_239 rfl (lv_at hl 2 rfl) ?_
              refine va_get (D := (dC, dI)) (ci := 6) (v := .int (nI mq)) (C := RX8) (T := TX8) (N := 32) hx hb hts iX8 hown hK hP 0 rfl rfl 26 (by decide) (hts (.fieldLink RX8 159 "ParkTowerModel" "moves" "I") (by decide +kernel)) (fun _ h9 => h9) rfl dX8_ends_240 ?_
              refine lv_iconst (v := 3) hx hb dX8_ends_243 (by decide) ?_
              refine lv_iadd hx hb dX8_ends_244 ?_
              refine pt_topi (nI (mq + 3)) (nI_add mq 3) ?_
              refine lv_icmp_ne (tgt := 274) hx hb dX8_ends_245 (by decide) (fun c_35 => ?_) (fun c_35 => ?_)
              · have c_35 : ¬ (s9 = mq + 3) := fun q_ => c_35 ((nI_eq (a := s9) (b := mq + 3) (by omega) (by omega)).mpr q_)
                have hP9 := hP.sub (ws' := [(mo, .inr (6, [.int th, .int tm, .int (nI sr), .int (nI nc), .ref m4, .ref m5, .ref m6, .ref m7, .ref m8, .ref m9, .ref m10, .ref m11, .ref m12, .int pw, .int rn, .int (nI no), .ref m16, .ref m17, .ref m18, .int (nI bz), .int (nI dg), .int (nI db), .int (nI df), .int (nI sp), .int tg, .int (nI (j_1 / 24)), .int (nI mq), .ref m27, .int fo, .ref m29, .ref m30, .ref m31])), (m5, .inl (y5, 700, .inl f5)), (m6, .inl (y6, 700, .inl f6)), (m7, .inl (y7, 96, .inl f7)), (m8, .inl (y8, 2, .inl f8)), (m9, .inl (y9, 2, .inl f9)), (m11, .inl (y11, 2, .inl f11)), (m27, .inl (y27, 8, .inl f27))]) [0, 1, 2, 3, 4, 5, 6, 7] rfl
                have hD9 := hD.sub (ws' := [(mo, .inr (6, [.int th, .int tm, .int (nI sr), .int (nI nc), .ref m4, .ref m5, .ref m6, .ref m7, .ref m8, .ref m9, .ref m10, .ref m11, .ref m12, .int pw, .int rn, .int (nI no), .ref m16, .ref m17, .ref m18, .int (nI bz), .int (nI dg), .int (nI db), .int (nI df), .int (nI sp), .int tg, .int (nI (j_1 / 24)), .int (nI mq), .ref m27, .int fo, .ref m29, .ref m30, .ref m31])), (m5, .inl (y5, 700, .inl f5)), (m6, .inl (y6, 700, .inl f6)), (m7, .inl (y7, 96, .inl f7)), (m8, .inl (y8, 2, .inl f8)), (m9, .inl (y9, 2, .inl f9)), (m11, .inl (y11, 2, .inl f11)), (m27, .inl (y27, 8, .inl f27))]) [0, 1, 2, 3, 4, 5, 6, 7] (by decide) rfl
                have hK9 := hK.sub (tys' := []) [] rfl
                refine W.widen (k := 0) (n := 0) (by omega) (by omega) ?_
                have hs0 : s9 = 0 := by omega
                subst hs0
                exact W.vret hx hb hr (fun t ht hW => ⟨⟨(fun q_ => ([nI (j_1 / 24)] : List Int32).getD q_ 0, fun q_ => ([] : List Nat).getD q_ 0, fun q_ => ([f5, f6, f7, f8, f9, f11] : List (Nat → Int32)).getD q_ (fun _ => 0)), rfl, MI.zero hM, by rw [ht]; exact hP9, va_K.moved hW.alike hK9, hD9⟩, hS.F ht⟩) hS.2.2 dX8_ends_274
              · have c_35 : s9 = mq + 3 := (nI_eq (a := s9) (b := mq + 3) (by omega) (by omega)).mp c_35
                exact (by omega : False).elim
            · have c_34 : s9 = mq + 2 := (nI_eq (a := s9) (b := mq + 2) (by omega) (by omega)).mp c_34
              exact (by omega : False).elim
          · have c_33 : s9 = mq + 1 := (nI_eq (a := s9) (b := mq + 1) (by omega) (by omega)).mp c_33
            exact (by omega : False).elim
        · have c_32 : ¬ (s9 ≤ 0) := fun q_ => c_32 ((nI_leI (a := s9) (b := 0) (by omega) (by omega)).mpr q_)
          exact (by omega : False).elim
  · have c_2 : df = 0 := (nI_eq (a := df) (b := 0) (by omega) (by omega)).mp c_2
    refine lv_iload_n hx hb dX8_ends_19 rfl (lv_at hl 3 rfl) ?_
    refine lv_if_ne (tgt := 28) hx hb dX8_ends_20 (by decide) (fun c_36 => ?_) (fun c_36 => ?_)
    · have c_36 : ¬ (s9 = 0) := fun q_ => c_36 ((nI_eq (a := s9) (b := 0) (by omega) (by omega)).mpr q_)
      refine lv_iload_n hx hb dX8_ends_28 rfl (lv_at hl 3 rfl) ?_
      refine lv_iconst (v := 1) hx hb dX8_ends_29 (by decide) ?_
      refine lv_icmp_ne (tgt := 59) hx hb dX8_ends_30 (by decide) (fun c_37 => ?_) (fun c_37 => ?_)
      · have c_37 : ¬ (s9 = 1) := fun q_ => c_37 ((nI_eq (a := s9) (b := 1) (by omega) (by omega)).mpr q_)
        refine lv_iload_n hx hb dX8_ends_59 rfl (lv_at hl 3 rfl) ?_
        refine lv_iconst (v := 2) hx hb dX8_ends_60 (by decide) ?_
        refine lv_icmp_ne (tgt := 72) hx hb dX8_ends_61 (by decide) (fun c_38 => ?_) (fun c_38 => ?_)
        · have c_38 : ¬ (s9 = 2) := fun q_ => c_38 ((nI_eq (a := s9) (b := 2) (by omega) (by omega)).mpr q_)
          refine lv_iload_n hx hb dX8_ends_72 rfl (lv_at hl 3 rfl) ?_
          refine lv_iconst (v := 3) hx hb dX8_ends_73 (by decide) ?_
          refine lv_icmp_ne (tgt := 110) hx hb dX8_ends_74 (by decide) (fun c_39 => ?_) (fun c_39 => ?_)
          · have c_39 : ¬ (s9 = 3) := fun q_ => c_39 ((nI_eq (a := s9) (b := 3) (by omega) (by omega)).mpr q_)
            have hP9 := hP.sub (ws' := [(mo, .inr (6, [.int th, .int tm, .int (nI sr), .int (nI nc), .ref m4, .ref m5, .ref m6, .ref m7, .ref m8, .ref m9, .ref m10, .ref m11, .ref m12, .int pw, .int rn, .int (nI no), .ref m16, .ref m17, .ref m18, .int (nI bz), .int (nI dg), .int (nI db), .int (nI df), .int (nI sp), .int tg, .int lf, .int mm, .ref m27, .int fo, .ref m29, .ref m30, .ref m31])), (m5, .inl (y5, 700, .inl f5)), (m6, .inl (y6, 700, .inl f6)), (m7, .inl (y7, 96, .inl f7)), (m8, .inl (y8, 2, .inl f8)), (m9, .inl (y9, 2, .inl f9)), (m11, .inl (y11, 2, .inl f11)), (m27, .inl (y27, 8, .inl f27))]) [0, 1, 2, 3, 4, 5, 6, 7] rfl
            have hD9 := hD.sub (ws' := [(mo, .inr (6, [.int th, .int tm, .int (nI sr), .int (nI nc), .ref m4, .ref m5, .ref m6, .ref m7, .ref m8, .ref m9, .ref m10, .ref m11, .ref m12, .int pw, .int rn, .int (nI no), .ref m16, .ref m17, .ref m18, .int (nI bz), .int (nI dg), .int (nI db), .int (nI df), .int (nI sp), .int tg, .int lf, .int mm, .ref m27, .int fo, .ref m29, .ref m30, .ref m31])), (m5, .inl (y5, 700, .inl f5)), (m6, .inl (y6, 700, .inl f6)), (m7, .inl (y7, 96, .inl f7)), (m8, .inl (y8, 2, .inl f8)), (m9, .inl (y9, 2, .inl f9)), (m11, .inl (y11, 2, .inl f11)), (m27, .inl (y27, 8, .inl f27))]) [0, 1, 2, 3, 4, 5, 6, 7] (by decide) rfl
            have hK9 := hK.sub (tys' := []) [] rfl
            refine W.widen (k := 0) (n := 0) (by omega) (by omega) ?_
            exact W.vret hx hb hr (fun t ht hW => ⟨⟨(fun q_ => ([lf] : List Int32).getD q_ 0, fun q_ => ([] : List Nat).getD q_ 0, fun q_ => ([f5, f6, f7, f8, f9, f11] : List (Nat → Int32)).getD q_ (fun _ => 0)), rfl, MI.late (sp' := s9 + 1) hM (hM.hf) hM.hp (fun q9 => absurd q9 (by omega)), by rw [ht]; exact hP9, va_K.moved hW.alike hK9, hD9⟩, hS.F ht⟩) hS.2.2 dX8_ends_110
          · have c_39 : s9 = 3 := (nI_eq (a := s9) (b := 3) (by omega) (by omega)).mp c_39
            refine lv_aload_n hx hb dX8_ends_77 rfl (lv_at hl 2 rfl) ?_
            refine va_get (D := (dC, dI)) (ci := 6) (v := .ref m5) (C := RX8) (T := TX8) (N := 32) hx hb hts iX8 hown hK hP 0 rfl rfl 5 (by decide) (hts (.fieldLink RX8 13 "ParkTowerModel" "where" "[I") (by decide +kernel)) (fun _ h9 => h9) rfl dX8_ends_78 ?_
            refine lv_iload_n hx hb dX8_ends_81 rfl (lv_at hl 1 rfl) ?_
            refine lv_iconst (v := 3) hx hb dX8_ends_82 (by decide) ?_
            refine va_iast hx hb hK hP hD hS 1 0 rfl rfl (vp_in_nI (n := dg) (by omega) (by decide)) dX8_ends_83 (fun H locs hP hD hS => ?_)
            rw [nI_clamp (n := dg) (by omega)] at hP hD
            have hP : va_P (dC, dI) vwCl [(mo, .inr (6, [.int th, .int tm, .int (nI sr), .int (nI nc), .ref m4, .ref m5, .ref m6, .ref m7, .ref m8, .ref m9, .ref m10, .ref m11, .ref m12, .int pw, .int rn, .int (nI no), .ref m16, .ref m17, .ref m18, .int (nI bz), .int (nI dg), .int (nI db), .int (nI df), .int (nI sp), .int tg, .int lf, .int mm, .ref m27, .int fo, .ref m29, .ref m30, .ref m31])), (m5, .inl (y5, 700, .inl (upd f5 dg 3))), (m6, .inl (y6, 700, .inl f6)), (m7, .inl (y7, 96, .inl f7)), (m8, .inl (y8, 2, .inl f8)), (m9, .inl (y9, 2, .inl f9)), (m11, .inl (y11, 2, .inl f11)), (m27, .inl (y27, 8, .inl f27))] H := hP
            have hD : va_D A [(mo, .inr (6, [.int th, .int tm, .int (nI sr), .int (nI nc), .ref m4, .ref m5, .ref m6, .ref m7, .ref m8, .ref m9, .ref m10, .ref m11, .ref m12, .int pw, .int rn, .int (nI no), .ref m16, .ref m17, .ref m18, .int (nI bz), .int (nI dg), .int (nI db), .int (nI df), .int (nI sp), .int tg, .int lf, .int mm, .ref m27, .int fo, .ref m29, .ref m30, .ref m31])), (m5, .inl (y5, 700, .inl (upd f5 dg 3))), (m6, .inl (y6, 700, .inl f6)), (m7, .inl (y7, 96, .inl f7)), (m8, .inl (y8, 2, .inl f8)), (m9, .inl (y9, 2, .inl f9)), (m11, .inl (y11, 2, .inl f11)), (m27, .inl (y27, 8, .inl f27))] := hD
            refine lv_aload_n hx hb dX8_ends_84 rfl (lv_at hl 2 rfl) ?_
            refine va_get (D := (dC, dI)) (ci := 6) (v := .ref m7) (C := RX8) (T := TX8) (N := 32) hx hb hts iX8 hown hK hP 0 rfl rfl 7 (by decide) (hts (.fieldLink RX8 19 "ParkTowerModel" "cell" "[I") (by decide +kernel)) (fun _ h9 => h9) rfl dX8_ends_85 ?_
            refine lv_iload_n hx hb dX8_ends_88 rfl (lv_at hl 0 rfl) ?_
            refine lv_iload_n hx hb dX8_ends_89 rfl (lv_at hl 1 rfl) ?_
            refine lv_iconst (v := 1) hx hb dX8_ends_90 (by decide) ?_
            refine lv_iadd hx hb dX8_ends_91 ?_
            refine pt_topi (nI (dg + 1)) (nI_add dg 1) ?_
            refine va_iast hx hb hK hP hD hS 3 2 rfl rfl (vp_in_nI (n := j_1) (by omega) (by decide)) dX8_ends_92 (fun H locs hP hD hS => ?_)
            rw [nI_clamp (n := j_1) (by omega)] at hP hD
            have hP : va_P (dC, dI) vwCl [(mo, .inr (6, [.int th, .int tm, .int (nI sr), .int (nI nc), .ref m4, .ref m5, .ref m6, .ref m7, .ref m8, .ref m9, .ref m10, .ref m11, .ref m12, .int pw, .int rn, .int (nI no), .ref m16, .ref m17, .ref m18, .int (nI bz), .int (nI dg), .int (nI db), .int (nI df), .int (nI sp), .int tg, .int lf, .int mm, .ref m27, .int fo, .ref m29, .ref m30, .ref m31])), (m5, .inl (y5, 700, .inl (upd f5 dg 3))), (m6, .inl (y6, 700, .inl f6)), (m7, .inl (y7, 96, .inl (upd f7 j_1 (nI (dg + 1))))), (m8, .inl (y8, 2, .inl f8)), (m9, .inl (y9, 2, .inl f9)), (m11, .inl (y11, 2, .inl f11)), (m27, .inl (y27, 8, .inl f27))] H := hP
            have hD : va_D A [(mo, .inr (6, [.int th, .int tm, .int (nI sr), .int (nI nc), .ref m4, .ref m5, .ref m6, .ref m7, .ref m8, .ref m9, .ref m10, .ref m11, .ref m12, .int pw, .int rn, .int (nI no), .ref m16, .ref m17, .ref m18, .int (nI bz), .int (nI dg), .int (nI db), .int (nI df), .int (nI sp), .int tg, .int lf, .int mm, .ref m27, .int fo, .ref m29, .ref m30, .ref m31])), (m5, .inl (y5, 700, .inl (upd f5 dg 3))), (m6, .inl (y6, 700, .inl f6)), (m7, .inl (y7, 96, .inl (upd f7 j_1 (nI (dg + 1))))), (m8, .inl (y8, 2, .inl f8)), (m9, .inl (y9, 2, .inl f9)), (m11, .inl (y11, 2, .inl f11)), (m27, .inl (y27, 8, .inl f27))] := hD
            refine lv_iload_n hx hb dX8_ends_93 rfl (lv_at hl 0 rfl) ?_
            refine pt_cSi (va_runS (As := [.int (nI j_1)]) (rest := []) ⟨hx, hb, hml, hown, hts⟩ (m_depth l dC dI j_1 (by omega)) (cwS 1 hts gX8_ends_X8_depth rfl rfl rfl (by decide +kernel) ⟨Nat.le_of_ble_eq_true rfl, Nat.le_of_ble_eq_true rfl⟩) ⟨pt_blind, pt_pre (w := []) (tys := []) (hP.sub [] rfl) (hK.sub [] rfl) hN⟩ rfl rfl hl.1 rfl (lv_room (Nat.le_of_ble_eq_true rfl)) dX8_ends_94 ⟨Nat.le_of_ble_eq_true rfl, Nat.le_of_ble_eq_true rfl⟩) (fun r_40 hr_40 => ?_)
            obtain rfl : r_40 = nI (j_1 % 2) := hr_40
            refine lv_iconst (v := 1) hx hb dX8_ends_97 (by decide) ?_
            refine lv_icmp_ne (tgt := 110) hx hb dX8_ends_98 (by decide) (fun c_41 => ?_) (fun c_41 => ?_)
            · have c_41 : ¬ (j_1 % 2 = 1) := fun q_ => c_41 ((nI_eq (a := j_1 % 2) (b := 1) (by omega) (by omega)).mpr q_)
              have hP9 := hP.sub (ws' := [(mo, .inr (6, [.int th, .int tm, .int (nI sr), .int (nI nc), .ref m4, .ref m5, .ref m6, .ref m7, .ref m8, .ref m9, .ref m10, .ref m11, .ref m12, .int pw, .int rn, .int (nI no), .ref m16, .ref m17, .ref m18, .int (nI bz), .int (nI dg), .int (nI db), .int (nI df), .int (nI sp), .int tg, .int lf, .int mm, .ref m27, .int fo, .ref m29, .ref m30, .ref m31])), (m5, .inl (y5, 700, .inl (upd f5 dg 3))), (m6, .inl (y6, 700, .inl f6)), (m7, .inl (y7, 96, .inl (upd f7 j_1 (nI (dg + 1))))), (m8, .inl (y8, 2, .inl f8)), (m9, .inl (y9, 2, .inl f9)), (m11, .inl (y11, 2, .inl f11)), (m27, .inl (y27, 8, .inl f27))]) [0, 1, 2, 3, 4, 5, 6, 7] rfl
              have hD9 := hD.sub (ws' := [(mo, .inr (6, [.int th, .int tm, .int (nI sr), .int (nI nc), .ref m4, .ref m5, .ref m6, .ref m7, .ref m8, .ref m9, .ref m10, .ref m11, .ref m12, .int pw, .int rn, .int (nI no), .ref m16, .ref m17, .ref m18, .int (nI bz), .int (nI dg), .int (nI db), .int (nI df), .int (nI sp), .int tg, .int lf, .int mm, .ref m27, .int fo, .ref m29, .ref m30, .ref m31])), (m5, .inl (y5, 700, .inl (upd f5 dg 3))), (m6, .inl (y6, 700, .inl f6)), (m7, .inl (y7, 96, .inl (upd f7 j_1 (nI (dg + 1))))), (m8, .inl (y8, 2, .inl f8)), (m9, .inl (y9, 2, .inl f9)), (m11, .inl (y11, 2, .inl f11)), (m27, .inl (y27, 8, .inl f27))]) [0, 1, 2, 3, 4, 5, 6, 7] (by decide) rfl
              have hK9 := hK.sub (tys' := []) [] rfl
              refine W.widen (k := 0) (n := 0) (by omega) (by omega) ?_
              exact W.vret hx hb hr (fun t ht hW => ⟨⟨(fun q_ => ([lf] : List Int32).getD q_ 0, fun q_ => ([] : List Nat).getD q_ 0, fun q_ => ([upd f5 dg 3, f6, upd f7 j_1 (nI (dg + 1)), f8, f9, f11] : List (Nat → Int32)).getD q_ (fun _ => 0)), rfl, MI.whereTo (MI.late (sp' := s9 + 1) hM (fun i => s_upd hM.hf (mC_nI (by omega)) i) hM.hp (fun q9 => absurd q9 (by omega))) (show ¬ (3 : Int32) = 1 by decide), by rw [ht]; exact hP9, va_K.moved hW.alike hK9, hD9⟩, hS.F ht⟩) hS.2.2 dX8_ends_110
            · have c_41 : j_1 % 2 = 1 := (nI_eq (a := j_1 % 2) (b := 1) (by omega) (by omega)).mp c_41
              refine lv_aload_n hx hb dX8_ends_101 rfl (lv_at hl 2 rfl) ?_
              refine va_get (D := (dC, dI)) (ci := 6) (v := .ref m7) (C := RX8) (T := TX8) (N := 32) hx hb hts iX8 hown hK hP 0 rfl rfl 7 (by decide) (hts (.fieldLink RX8 19 "ParkTowerModel" "cell" "[I") (by decide +kernel)) (fun _ h9 => h9) rfl dX8_ends_102 ?_
              refine lv_iload_n hx hb dX8_ends_105 rfl (lv_at hl 0 rfl) ?_
              refine lv_iconst (v := 1) hx hb dX8_ends_106 (by decide) ?_
              refine lv_isub hx hb dX8_ends_107 ?_
              refine pt_topi (nI (j_1 - 1)) (pk_sub (a := j_1) (b := 1) (by omega)) ?_
              refine lv_iconst (v := 0) hx hb dX8_ends_108 (by decide) ?_
              refine va_iast hx hb hK hP hD hS 3 2 rfl rfl (vp_in_nI (n := j_1 - 1) (by omega) (by decide)) dX8_ends_109 (fun H locs hP hD hS => ?_)
              rw [nI_clamp (n := j_1 - 1) (by omega)] at hP hD
              have hP : va_P (dC, dI) vwCl [(mo, .inr (6, [.int th, .int tm, .int (nI sr), .int (nI nc), .ref m4, .ref m5, .ref m6, .ref m7, .ref m8, .ref m9, .ref m10, .ref m11, .ref m12, .int pw, .int rn, .int (nI no), .ref m16, .ref m17, .ref m18, .int (nI bz), .int (nI dg), .int (nI db), .int (nI df), .int (nI sp), .int tg, .int lf, .int mm, .ref m27, .int fo, .ref m29, .ref m30, .ref m31])), (m5, .inl (y5, 700, .inl (upd f5 dg 3))), (m6, .inl (y6, 700, .inl f6)), (m7, .inl (y7, 96, .inl (upd (upd f7 j_1 (nI (dg + 1))) (j_1 - 1) 0))), (m8, .inl (y8, 2, .inl f8)), (m9, .inl (y9, 2, .inl f9)), (m11, .inl (y11, 2, .inl f11)), (m27, .inl (y27, 8, .inl f27))] H := hP
              have hD : va_D A [(mo, .inr (6, [.int th, .int tm, .int (nI sr), .int (nI nc), .ref m4, .ref m5, .ref m6, .ref m7, .ref m8, .ref m9, .ref m10, .ref m11, .ref m12, .int pw, .int rn, .int (nI no), .ref m16, .ref m17, .ref m18, .int (nI bz), .int (nI dg), .int (nI db), .int (nI df), .int (nI sp), .int tg, .int lf, .int mm, .ref m27, .int fo, .ref m29, .ref m30, .ref m31])), (m5, .inl (y5, 700, .inl (upd f5 dg 3))), (m6, .inl (y6, 700, .inl f6)), (m7, .inl (y7, 96, .inl (upd (upd f7 j_1 (nI (dg + 1))) (j_1 - 1) 0))), (m8, .inl (y8, 2, .inl f8)), (m9, .inl (y9, 2, .inl f9)), (m11, .inl (y11, 2, .inl f11)), (m27, .inl (y27, 8, .inl f27))] := hD
              have hP9 := hP.sub (ws' := [(mo, .inr (6, [.int th, .int tm, .int (nI sr), .int (nI nc), .ref m4, .ref m5, .ref m6, .ref m7, .ref m8, .ref m9, .ref m10, .ref m11, .ref m12, .int pw, .int rn, .int (nI no), .ref m16, .ref m17, .ref m18, .int (nI bz), .int (nI dg), .int (nI db), .int (nI df), .int (nI sp), .int tg, .int lf, .int mm, .ref m27, .int fo, .ref m29, .ref m30, .ref m31])), (m5, .inl (y5, 700, .inl (upd f5 dg 3))), (m6, .inl (y6, 700, .inl f6)), (m7, .inl (y7, 96, .inl (upd (upd f7 j_1 (nI (dg + 1))) (j_1 - 1) 0))), (m8, .inl (y8, 2, .inl f8)), (m9, .inl (y9, 2, .inl f9)), (m11, .inl (y11, 2, .inl f11)), (m27, .inl (y27, 8, .inl f27))]) [0, 1, 2, 3, 4, 5, 6, 7] rfl
              have hD9 := hD.sub (ws' := [(mo, .inr (6, [.int th, .int tm, .int (nI sr), .int (nI nc), .ref m4, .ref m5, .ref m6, .ref m7, .ref m8, .ref m9, .ref m10, .ref m11, .ref m12, .int pw, .int rn, .int (nI no), .ref m16, .ref m17, .ref m18, .int (nI bz), .int (nI dg), .int (nI db), .int (nI df), .int (nI sp), .int tg, .int lf, .int mm, .ref m27, .int fo, .ref m29, .ref m30, .ref m31])), (m5, .inl (y5, 700, .inl (upd f5 dg 3))), (m6, .inl (y6, 700, .inl f6)), (m7, .inl (y7, 96, .inl (upd (upd f7 j_1 (nI (dg + 1))) (j_1 - 1) 0))), (m8, .inl (y8, 2, .inl f8)), (m9, .inl (y9, 2, .inl f9)), (m11, .inl (y11, 2, .inl f11)), (m27, .inl (y27, 8, .inl f27))]) [0, 1, 2, 3, 4, 5, 6, 7] (by decide) rfl
              have hK9 := hK.sub (tys' := []) [] rfl
              refine W.widen (k := 0) (n := 0) (by omega) (by omega) ?_
              exact W.vret hx hb hr (fun t ht hW => ⟨⟨(fun q_ => ([lf] : List Int32).getD q_ 0, fun q_ => ([] : List Nat).getD q_ 0, fun q_ => ([upd f5 dg 3, f6, upd (upd f7 j_1 (nI (dg + 1))) (j_1 - 1) 0, f8, f9, f11] : List (Nat → Int32)).getD q_ (fun _ => 0)), rfl, MI.whereTo (MI.late (sp' := s9 + 1) hM (fun i => s_upd (fun i => s_upd hM.hf (mC_nI (by omega)) i) (Or.inr ⟨0, by omega, rfl⟩) i) hM.hp (fun q9 => absurd q9 (by omega))) (show ¬ (3 : Int32) = 1 by decide), by rw [ht]; exact hP9, va_K.moved hW.alike hK9, hD9⟩, hS.F ht⟩) hS.2.2 dX8_ends_110
        · have c_38 : s9 = 2 := (nI_eq (a := s9) (b := 2) (by omega) (by omega)).mp c_38
          refine lv_aload_n hx hb dX8_ends_64 rfl (lv_at hl 2 rfl) ?_
          refine lv_iload_n hx hb dX8_ends_65 rfl (lv_at hl 0 rfl) ?_
          refine pt_cSi (va_runS (As := [.int (nI j_1)]) (rest := [.ref mo]) ⟨hx, hb, hml, hown, hts⟩ (m_level l dC dI j_1 (by omega)) (cwS 1 hts gX8_ends_X8_level rfl rfl rfl (by decide +kernel) ⟨Nat.le_of_ble_eq_true rfl, Nat.le_of_ble_eq_true rfl⟩) ⟨pt_blind, pt_pre (w := []) (tys := []) (hP.sub [] rfl) (hK.sub [] rfl) hN⟩ rfl rfl hl.1 rfl (lv_room (Nat.le_of_ble_eq_true rfl)) dX8_ends_66 ⟨Nat.le_of_ble_eq_true rfl, Nat.le_of_ble_eq_true rfl⟩) (fun r_42 hr_42 => ?_)
          obtain rfl : r_42 = nI (j_1 / 24) := hr_42
          refine va_put (D := (dC, dI)) (ci := 6) (v := .int (nI (j_1 / 24))) (ty := .int) (C := RX8) (T := TX8) (N := 32) hx hb hts iX8 tyX8 tyX8_ok nmX8 hown hK hP hD hS 0 rfl rfl 25 (by decide) (hts (.fieldLink RX8 161 "ParkTowerModel" "lift" "I") (by decide +kernel)) (fun _ h9 => h9) rfl (by decide +kernel) rfl rfl (Nat.le_of_ble_eq_true rfl) dX8_ends_69 (fun H locs hP hD hS => ?_)
          have hP : va_P (dC, dI) vwCl [(mo, .inr (6, [.int th, .int tm, .int (nI sr), .int (nI nc), .ref m4, .ref m5, .ref m6, .ref m7, .ref m8, .ref m9, .ref m10, .ref m11, .ref m12, .int pw, .int rn, .int (nI no), .ref m16, .ref m17, .ref m18, .int (nI bz), .int (nI dg), .int (nI db), .int (nI df), .int (nI sp), .int tg, .int (nI (j_1 / 24)), .int mm, .ref m27, .int fo, .ref m29, .ref m30, .ref m31])), (m5, .inl (y5, 700, .inl f5)), (m6, .inl (y6, 700, .inl f6)), (m7, .inl (y7, 96, .inl f7)), (m8, .inl (y8, 2, .inl f8)), (m9, .inl (y9, 2, .inl f9)), (m11, .inl (y11, 2, .inl f11)), (m27, .inl (y27, 8, .inl f27))] H := hP
          have hD : va_D A [(mo, .inr (6, [.int th, .int tm, .int (nI sr), .int (nI nc), .ref m4, .ref m5, .ref m6, .ref m7, .ref m8, .ref m9, .ref m10, .ref m11, .ref m12, .int pw, .int rn, .int (nI no), .ref m16, .ref m17, .ref m18, .int (nI bz), .int (nI dg), .int (nI db), .int (nI df), .int (nI sp), .int tg, .int (nI (j_1 / 24)), .int mm, .ref m27, .int fo, .ref m29, .ref m30, .ref m31])), (m5, .inl (y5, 700, .inl f5)), (m6, .inl (y6, 700, .inl f6)), (m7, .inl (y7, 96, .inl f7)), (m8, .inl (y8, 2, .inl f8)), (m9, .inl (y9, 2, .inl f9)), (m11, .inl (y11, 2, .inl f11)), (m27, .inl (y27, 8, .inl f27))] := hD
          refine lv_iload_n hx hb dX8_ends_72 rfl (lv_at hl 3 rfl) ?_
          refine lv_iconst (v := 3) hx hb dX8_ends_73 (by decide) ?_
          refine lv_icmp_ne (tgt := 110) hx hb dX8_ends_74 (by decide) (fun c_43 => ?_) (fun c_43 => ?_)
          · have c_43 : ¬ (s9 = 3) := fun q_ => c_43 ((nI_eq (a := s9) (b := 3) (by omega) (by omega)).mpr q_)
            have hP9 := hP.sub (ws' := [(mo, .inr (6, [.int th, .int tm, .int (nI sr), .int (nI nc), .ref m4, .ref m5, .ref m6, .ref m7, .ref m8, .ref m9, .ref m10, .ref m11, .ref m12, .int pw, .int rn, .int (nI no), .ref m16, .ref m17, .ref m18, .int (nI bz), .int (nI dg), .int (nI db), .int (nI df), .int (nI sp), .int tg, .int (nI (j_1 / 24)), .int mm, .ref m27, .int fo, .ref m29, .ref m30, .ref m31])), (m5, .inl (y5, 700, .inl f5)), (m6, .inl (y6, 700, .inl f6)), (m7, .inl (y7, 96, .inl f7)), (m8, .inl (y8, 2, .inl f8)), (m9, .inl (y9, 2, .inl f9)), (m11, .inl (y11, 2, .inl f11)), (m27, .inl (y27, 8, .inl f27))]) [0, 1, 2, 3, 4, 5, 6, 7] rfl
            have hD9 := hD.sub (ws' := [(mo, .inr (6, [.int th, .int tm, .int (nI sr), .int (nI nc), .ref m4, .ref m5, .ref m6, .ref m7, .ref m8, .ref m9, .ref m10, .ref m11, .ref m12, .int pw, .int rn, .int (nI no), .ref m16, .ref m17, .ref m18, .int (nI bz), .int (nI dg), .int (nI db), .int (nI df), .int (nI sp), .int tg, .int (nI (j_1 / 24)), .int mm, .ref m27, .int fo, .ref m29, .ref m30, .ref m31])), (m5, .inl (y5, 700, .inl f5)), (m6, .inl (y6, 700, .inl f6)), (m7, .inl (y7, 96, .inl f7)), (m8, .inl (y8, 2, .inl f8)), (m9, .inl (y9, 2, .inl f9)), (m11, .inl (y11, 2, .inl f11)), (m27, .inl (y27, 8, .inl f27))]) [0, 1, 2, 3, 4, 5, 6, 7] (by decide) rfl
            have hK9 := hK.sub (tys' := []) [] rfl
            refine W.widen (k := 0) (n := 0) (by omega) (by omega) ?_
            exact W.vret hx hb hr (fun t ht hW => ⟨⟨(fun q_ => ([nI (j_1 / 24)] : List Int32).getD q_ 0, fun q_ => ([] : List Nat).getD q_ 0, fun q_ => ([f5, f6, f7, f8, f9, f11] : List (Nat → Int32)).getD q_ (fun _ => 0)), rfl, MI.late (sp' := s9 + 1) hM (hM.hf) hM.hp (fun q9 => absurd q9 (by omega)), by rw [ht]; exact hP9, va_K.moved hW.alike hK9, hD9⟩, hS.F ht⟩) hS.2.2 dX8_ends_110
          · have c_43 : s9 = 3 := (nI_eq (a := s9) (b := 3) (by omega) (by omega)).mp c_43
            exact (by omega : False).elim
      · have c_37 : s9 = 1 := (nI_eq (a := s9) (b := 1) (by omega) (by omega)).mp c_37
        refine lv_aload_n hx hb dX8_ends_33 rfl (lv_at hl 2 rfl) ?_
        refine va_get (D := (dC, dI)) (ci := 6) (v := .ref m5) (C := RX8) (T := TX8) (N := 32) hx hb hts iX8 hown hK hP 0 rfl rfl 5 (by decide) (hts (.fieldLink RX8 13 "ParkTowerModel" "where" "[I") (by decide +kernel)) (fun _ h9 => h9) rfl dX8_ends_34 ?_
        refine lv_iload_n hx hb dX8_ends_37 rfl (lv_at hl 1 rfl) ?_
        refine lv_iconst (v := 2) hx hb dX8_ends_38 (by decide) ?_
        refine va_iast hx hb hK hP hD hS 1 0 rfl rfl (vp_in_nI (n := dg) (by omega) (by decide)) dX8_ends_39 (fun H locs hP hD hS => ?_)
        rw [nI_clamp (n := dg) (by omega)] at hP hD
        have hP : va_P (dC, dI) vwCl [(mo, .inr (6, [.int th, .int tm, .int (nI sr), .int (nI nc), .ref m4, .ref m5, .ref m6, .ref m7, .ref m8, .ref m9, .ref m10, .ref m11, .ref m12, .int pw, .int rn, .int (nI no), .ref m16, .ref m17, .ref m18, .int (nI bz), .int (nI dg), .int (nI db), .int (nI df), .int (nI sp), .int tg, .int lf, .int mm, .ref m27, .int fo, .ref m29, .ref m30, .ref m31])), (m5, .inl (y5, 700, .inl (upd f5 dg 2))), (m6, .inl (y6, 700, .inl f6)), (m7, .inl (y7, 96, .inl f7)), (m8, .inl (y8, 2, .inl f8)), (m9, .inl (y9, 2, .inl f9)), (m11, .inl (y11, 2, .inl f11)), (m27, .inl (y27, 8, .inl f27))] H := hP
        have hD : va_D A [(mo, .inr (6, [.int th, .int tm, .int (nI sr), .int (nI nc), .ref m4, .ref m5, .ref m6, .ref m7, .ref m8, .ref m9, .ref m10, .ref m11, .ref m12, .int pw, .int rn, .int (nI no), .ref m16, .ref m17, .ref m18, .int (nI bz), .int (nI dg), .int (nI db), .int (nI df), .int (nI sp), .int tg, .int lf, .int mm, .ref m27, .int fo, .ref m29, .ref m30, .ref m31])), (m5, .inl (y5, 700, .inl (upd f5 dg 2))), (m6, .inl (y6, 700, .inl f6)), (m7, .inl (y7, 96, .inl f7)), (m8, .inl (y8, 2, .inl f8)), (m9, .inl (y9, 2, .inl f9)), (m11, .inl (y11, 2, .inl f11)), (m27, .inl (y27, 8, .inl f27))] := hD
        refine lv_aload_n hx hb dX8_ends_40 rfl (lv_at hl 2 rfl) ?_
        refine va_get (D := (dC, dI)) (ci := 6) (v := .ref m11) (C := RX8) (T := TX8) (N := 32) hx hb hts iX8 hown hK hP 0 rfl rfl 11 (by decide) (hts (.fieldLink RX8 32 "ParkTowerModel" "bay" "[I") (by decide +kernel)) (fun _ h9 => h9) rfl dX8_ends_41 ?_
        refine lv_aload_n hx hb dX8_ends_44 rfl (lv_at hl 2 rfl) ?_
        refine va_get (D := (dC, dI)) (ci := 6) (v := .int (nI db)) (C := RX8) (T := TX8) (N := 32) hx hb hts iX8 hown hK hP 0 rfl rfl 21 (by decide) (hts (.fieldLink RX8 122 "ParkTowerModel" "doingBay" "I") (by decide +kernel)) (fun _ h9 => h9) rfl dX8_ends_45 ?_
        refine lv_iconst (v := (-1)) hx hb dX8_ends_48 (by decide) ?_
        refine va_iast hx hb hK hP hD hS 6 5 rfl rfl (vp_in_nI (n := db) (by omega) (by decide)) dX8_ends_49 (fun H locs hP hD hS => ?_)
        rw [nI_clamp (n := db) (by omega)] at hP hD
        have hP : va_P (dC, dI) vwCl [(mo, .inr (6, [.int th, .int tm, .int (nI sr), .int (nI nc), .ref m4, .ref m5, .ref m6, .ref m7, .ref m8, .ref m9, .ref m10, .ref m11, .ref m12, .int pw, .int rn, .int (nI no), .ref m16, .ref m17, .ref m18, .int (nI bz), .int (nI dg), .int (nI db), .int (nI df), .int (nI sp), .int tg, .int lf, .int mm, .ref m27, .int fo, .ref m29, .ref m30, .ref m31])), (m5, .inl (y5, 700, .inl (upd f5 dg 2))), (m6, .inl (y6, 700, .inl f6)), (m7, .inl (y7, 96, .inl f7)), (m8, .inl (y8, 2, .inl f8)), (m9, .inl (y9, 2, .inl f9)), (m11, .inl (y11, 2, .inl (upd f11 db (-1)))), (m27, .inl (y27, 8, .inl f27))] H := hP
        have hD : va_D A [(mo, .inr (6, [.int th, .int tm, .int (nI sr), .int (nI nc), .ref m4, .ref m5, .ref m6, .ref m7, .ref m8, .ref m9, .ref m10, .ref m11, .ref m12, .int pw, .int rn, .int (nI no), .ref m16, .ref m17, .ref m18, .int (nI bz), .int (nI dg), .int (nI db), .int (nI df), .int (nI sp), .int tg, .int lf, .int mm, .ref m27, .int fo, .ref m29, .ref m30, .ref m31])), (m5, .inl (y5, 700, .inl (upd f5 dg 2))), (m6, .inl (y6, 700, .inl f6)), (m7, .inl (y7, 96, .inl f7)), (m8, .inl (y8, 2, .inl f8)), (m9, .inl (y9, 2, .inl f9)), (m11, .inl (y11, 2, .inl (upd f11 db (-1)))), (m27, .inl (y27, 8, .inl f27))] := hD
        refine lv_aload_n hx hb dX8_ends_50 rfl (lv_at hl 2 rfl) ?_
        refine lv_aload_n hx hb dX8_ends_51 rfl (lv_at hl 2 rfl) ?_
        refine va_get (D := (dC, dI)) (ci := 6) (v := .int (nI db)) (C := RX8) (T := TX8) (N := 32) hx hb hts iX8 hown hK hP 0 rfl rfl 21 (by decide) (hts (.fieldLink RX8 122 "ParkTowerModel" "doingBay" "I") (by decide +kernel)) (fun _ h9 => h9) rfl dX8_ends_52 ?_
        refine lv_iconst (v := 1) hx hb dX8_ends_55 (by decide) ?_
        have hPc := hP.sub (ws' := [(mo, .inr (6, [.int th, .int tm, .int (nI sr), .int (nI nc), .ref m4, .ref m5, .ref m6, .ref m7, .ref m8, .ref m9, .ref m10, .ref m11, .ref m12, .int pw, .int rn, .int (nI no), .ref m16, .ref m17, .ref m18, .int (nI bz), .int (nI dg), .int (nI db), .int (nI df), .int (nI sp), .int tg, .int lf, .int mm, .ref m27, .int fo, .ref m29, .ref m30, .ref m31])), (m8, .inl (y8, 2, .inl f8)), (m9, .inl (y9, 2, .inl f9))]) [0, 4, 5] rfl
        have hDc := hD.sub (ws' := [(mo, .inr (6, [.int th, .int tm, .int (nI sr), .int (nI nc), .ref m4, .ref m5, .ref m6, .ref m7, .ref m8, .ref m9, .ref m10, .ref m11, .ref m12, .int pw, .int rn, .int (nI no), .ref m16, .ref m17, .ref m18, .int (nI bz), .int (nI dg), .int (nI db), .int (nI df), .int (nI sp), .int tg, .int lf, .int mm, .ref m27, .int fo, .ref m29, .ref m30, .ref m31])), (m8, .inl (y8, 2, .inl f8)), (m9, .inl (y9, 2, .inl f9))]) [0, 4, 5] (by decide) rfl
        have hKc := hK.sub (tys' := [(y8, .int), (y9, .int)]) [3, 4] rfl
        have hFc := va_free (wc := [(mo, .inr (6, [.int th, .int tm, .int (nI sr), .int (nI nc), .ref m4, .ref m5, .ref m6, .ref m7, .ref m8, .ref m9, .ref m10, .ref m11, .ref m12, .int pw, .int rn, .int (nI no), .ref m16, .ref m17, .ref m18, .int (nI bz), .int (nI dg), .int (nI db), .int (nI df), .int (nI sp), .int tg, .int lf, .int mm, .ref m27, .int fo, .ref m29, .ref m30, .ref m31])), (m8, .inl (y8, 2, .inl f8)), (m9, .inl (y9, 2, .inl f9))]) hD hS hA [0, 4, 5] rfl
        refine va_callv (va_runV (As := [.int (nI db), .int 1]) (rest := []) ⟨hx, hb, hml, hown, hts⟩ (m_moves l dC dI _ mo m4 m5 m6 m7 m8 m9 m10 m11 m12 m16 m17 m18 m27 m29 m30 m31 th tm pw rn tg lf mm fo sr nc no bz dg db df sp y8 y9 f8 f9 db 1 (by omega)) (cwV 2 hts gX8_ends_X8_moves rfl rfl rfl (by decide +kernel) ⟨Nat.le_of_ble_eq_true rfl, Nat.le_of_ble_eq_true rfl⟩) ⟨pt_blindQ, va_recv hK hP (ci := 6) (q0 := 0) rfl rfl, pt_preQ hPc hKc hDc hN⟩ rfl rfl hl.1 rfl (lv_room (Nat.le_of_ble_eq_true rfl)) dX8_ends_56 ⟨Nat.le_of_ble_eq_true rfl, Nat.le_of_ble_eq_true rfl⟩) hS (fun q _ h => hFc q h) hFc (fun u_44 t H1 locs ht hvm hw_44 hB hz1 hk1 hS => ?_)
        obtain ⟨v_44, n_44, F_44⟩ := u_44
        obtain ⟨hP1, hK1, hD1⟩ := hB
        try dsimp only at hw_44
        rw [ht] at hP1
        have hK1 := va_K.moved hvm.symm hK1
        obtain ⟨hP, hD⟩ := va_join (wr := [(m5, .inl (y5, 700, .inl (upd f5 dg 2))), (m6, .inl (y6, 700, .inl f6)), (m7, .inl (y7, 96, .inl f7)), (m11, .inl (y11, 2, .inl (upd f11 db (-1)))), (m27, .inl (y27, 8, .inl f27))]) (w1 := [(mo, .inr (6, [.int th, .int tm, .int (nI sr), .int (nI nc), .ref m4, .ref m5, .ref m6, .ref m7, .ref m8, .ref m9, .ref m10, .ref m11, .ref m12, .int pw, .int rn, .int (nI no), .ref m16, .ref m17, .ref m18, .int (nI bz), .int (nI dg), .int (nI db), .int (nI df), .int (nI sp), .int tg, .int lf, .int mm, .ref m27, .int fo, .ref m29, .ref m30, .ref m31])), (m8, .inl (y8, 2, .inl (upd f8 db 1))), (m9, .inl (y9, 2, .inl (upd f9 db 4)))]) hP hD [0, 4, 5] [1, 2, 3, 6, 7] rfl rfl (by decide) (by decide) hk1 hFc hP1 hD1
        have hK := hK.app hK1
        generalize H1 = H at hP hS ⊢
        have hP : va_P (dC, dI) vwCl [(m5, .inl (y5, 700, .inl (upd f5 dg 2))), (m6, .inl (y6, 700, .inl f6)), (m7, .inl (y7, 96, .inl f7)), (m11, .inl (y11, 2, .inl (upd f11 db (-1)))), (m27, .inl (y27, 8, .inl f27)), (mo, .inr (6, [.int th, .int tm, .int (nI sr), .int (nI nc), .ref m4, .ref m5, .ref m6, .ref m7, .ref m8, .ref m9, .ref m10, .ref m11, .ref m12, .int pw, .int rn, .int (nI no), .ref m16, .ref m17, .ref m18, .int (nI bz), .int (nI dg), .int (nI db), .int (nI df), .int (nI sp), .int tg, .int lf, .int mm, .ref m27, .int fo, .ref m29, .ref m30, .ref m31])), (m8, .inl (y8, 2, .inl (upd f8 db 1))), (m9, .inl (y9, 2, .inl (upd f9 db 4)))] H := hP
        have hD : va_D A [(m5, .inl (y5, 700, .inl (upd f5 dg 2))), (m6, .inl (y6, 700, .inl f6)), (m7, .inl (y7, 96, .inl f7)), (m11, .inl (y11, 2, .inl (upd f11 db (-1)))), (m27, .inl (y27, 8, .inl f27)), (mo, .inr (6, [.int th, .int tm, .int (nI sr), .int (nI nc), .ref m4, .ref m5, .ref m6, .ref m7, .ref m8, .ref m9, .ref m10, .ref m11, .ref m12, .int pw, .int rn, .int (nI no), .ref m16, .ref m17, .ref m18, .int (nI bz), .int (nI dg), .int (nI db), .int (nI df), .int (nI sp), .int tg, .int lf, .int mm, .ref m27, .int fo, .ref m29, .ref m30, .ref m31])), (m8, .inl (y8, 2, .inl (upd f8 db 1))), (m9, .inl (y9, 2, .inl (upd f9 db 4)))] := hD
        have hK : va_K (dC, dI) vwCl [(y5, .int), (y6, .int), (y7, .int), (y8, .int), (y9, .int), (y11, .int), (y27, .int)] s := hK
        refine lv_iload_n hx hb dX8_ends_59 rfl (lv_at hl 3 rfl) ?_
        refine lv_iconst (v := 2) hx hb dX8_ends_60 (by decide) ?_
        refine lv_icmp_ne (tgt := 72) hx hb dX8_ends_61 (by decide) (fun c_45 => ?_) (fun c_45 => ?_)
        · have c_45 : ¬ (s9 = 2) := fun q_ => c_45 ((nI_eq (a := s9) (b := 2) (by omega) (by omega)).mpr q_)
          refine lv_iload_n hx hb dX8_ends_72 rfl (lv_at hl 3 rfl) ?_
          refine lv_iconst (v := 3) hx hb dX8_ends_73 (by decide) ?_
          refine lv_icmp_ne (tgt := 110) hx hb dX8_ends_74 (by decide) (fun c_46 => ?_) (fun c_46 => ?_)
          · have c_46 : ¬ (s9 = 3) := fun q_ => c_46 ((nI_eq (a := s9) (b := 3) (by omega) (by omega)).mpr q_)
            have hP9 := hP.sub (ws' := [(mo, .inr (6, [.int th, .int tm, .int (nI sr), .int (nI nc), .ref m4, .ref m5, .ref m6, .ref m7, .ref m8, .ref m9, .ref m10, .ref m11, .ref m12, .int pw, .int rn, .int (nI no), .ref m16, .ref m17, .ref m18, .int (nI bz), .int (nI dg), .int (nI db), .int (nI df), .int (nI sp), .int tg, .int lf, .int mm, .ref m27, .int fo, .ref m29, .ref m30, .ref m31])), (m5, .inl (y5, 700, .inl (upd f5 dg 2))), (m6, .inl (y6, 700, .inl f6)), (m7, .inl (y7, 96, .inl f7)), (m8, .inl (y8, 2, .inl (upd f8 db 1))), (m9, .inl (y9, 2, .inl (upd f9 db 4))), (m11, .inl (y11, 2, .inl (upd f11 db (-1)))), (m27, .inl (y27, 8, .inl f27))]) [5, 0, 1, 2, 6, 7, 3, 4] rfl
            have hD9 := hD.sub (ws' := [(mo, .inr (6, [.int th, .int tm, .int (nI sr), .int (nI nc), .ref m4, .ref m5, .ref m6, .ref m7, .ref m8, .ref m9, .ref m10, .ref m11, .ref m12, .int pw, .int rn, .int (nI no), .ref m16, .ref m17, .ref m18, .int (nI bz), .int (nI dg), .int (nI db), .int (nI df), .int (nI sp), .int tg, .int lf, .int mm, .ref m27, .int fo, .ref m29, .ref m30, .ref m31])), (m5, .inl (y5, 700, .inl (upd f5 dg 2))), (m6, .inl (y6, 700, .inl f6)), (m7, .inl (y7, 96, .inl f7)), (m8, .inl (y8, 2, .inl (upd f8 db 1))), (m9, .inl (y9, 2, .inl (upd f9 db 4))), (m11, .inl (y11, 2, .inl (upd f11 db (-1)))), (m27, .inl (y27, 8, .inl f27))]) [5, 0, 1, 2, 6, 7, 3, 4] (by decide) rfl
            have hK9 := hK.sub (tys' := []) [] rfl
            refine W.widen (k := 0) (n := 0) (by omega) (by omega) ?_
            exact W.vret hx hb hr (fun t ht hW => ⟨⟨(fun q_ => ([lf] : List Int32).getD q_ 0, fun q_ => ([] : List Nat).getD q_ 0, fun q_ => ([upd f5 dg 2, f6, f7, upd f8 db 1, upd f9 db 4, upd f11 db (-1)] : List (Nat → Int32)).getD q_ (fun _ => 0)), rfl, MI.clear (MI.whereTo (MI.late (sp' := s9 + 1) hM (hM.hf) hM.hp (fun q9 => absurd q9 (by omega))) (show ¬ (2 : Int32) = 1 by decide)) (fun i hi => pk_un hi), by rw [ht]; exact hP9, va_K.moved hW.alike hK9, hD9⟩, hS.F ht⟩) hS.2.2 dX8_ends_110
          · have c_46 : s9 = 3 := (nI_eq (a := s9) (b := 3) (by omega) (by omega)).mp c_46
            exact (by omega : False).elim
        · have c_45 : s9 = 2 := (nI_eq (a := s9) (b := 2) (by omega) (by omega)).mp c_45
          exact (by omega : False).elim
    · have c_36 : s9 = 0 := (nI_eq (a := s9) (b := 0) (by omega) (by omega)).mp c_36
      refine lv_aload_n hx hb dX8_ends_23 rfl (lv_at hl 2 rfl) ?_
      refine lv_iconst (v := 0) hx hb dX8_ends_24 (by decide) ?_
      refine va_put (D := (dC, dI)) (ci := 6) (v := .int 0) (ty := .int) (C := RX8) (T := TX8) (N := 32) hx hb hts iX8 tyX8 tyX8_ok nmX8 hown hK hP hD hS 0 rfl rfl 25 (by decide) (hts (.fieldLink RX8 161 "ParkTowerModel" "lift" "I") (by decide +kernel)) (fun _ h9 => h9) rfl (by decide +kernel) rfl rfl (Nat.le_of_ble_eq_true rfl) dX8_ends_25 (fun H locs hP hD hS => ?_)
      have hP : va_P (dC, dI) vwCl [(mo, .inr (6, [.int th, .int tm, .int (nI sr), .int (nI nc), .ref m4, .ref m5, .ref m6, .ref m7, .ref m8, .ref m9, .ref m10, .ref m11, .ref m12, .int pw, .int rn, .int (nI no), .ref m16, .ref m17, .ref m18, .int (nI bz), .int (nI dg), .int (nI db), .int (nI df), .int (nI sp), .int tg, .int 0, .int mm, .ref m27, .int fo, .ref m29, .ref m30, .ref m31])), (m5, .inl (y5, 700, .inl f5)), (m6, .inl (y6, 700, .inl f6)), (m7, .inl (y7, 96, .inl f7)), (m8, .inl (y8, 2, .inl f8)), (m9, .inl (y9, 2, .inl f9)), (m11, .inl (y11, 2, .inl f11)), (m27, .inl (y27, 8, .inl f27))] H := hP
      have hD : va_D A [(mo, .inr (6, [.int th, .int tm, .int (nI sr), .int (nI nc), .ref m4, .ref m5, .ref m6, .ref m7, .ref m8, .ref m9, .ref m10, .ref m11, .ref m12, .int pw, .int rn, .int (nI no), .ref m16, .ref m17, .ref m18, .int (nI bz), .int (nI dg), .int (nI db), .int (nI df), .int (nI sp), .int tg, .int 0, .int mm, .ref m27, .int fo, .ref m29, .ref m30, .ref m31])), (m5, .inl (y5, 700, .inl f5)), (m6, .inl (y6, 700, .inl f6)), (m7, .inl (y7, 96, .inl f7)), (m8, .inl (y8, 2, .inl f8)), (m9, .inl (y9, 2, .inl f9)), (m11, .inl (y11, 2, .inl f11)), (m27, .inl (y27, 8, .inl f27))] := hD
      refine lv_iload_n hx hb dX8_ends_28 rfl (lv_at hl 3 rfl) ?_
      refine lv_iconst (v := 1) hx hb dX8_ends_29 (by decide) ?_
      refine lv_icmp_ne (tgt := 59) hx hb dX8_ends_30 (by decide) (fun c_47 => ?_) (fun c_47 => ?_)
      · have c_47 : ¬ (s9 = 1) := fun q_ => c_47 ((nI_eq (a := s9) (b := 1) (by omega) (by omega)).mpr q_)
        refine lv_iload_n hx hb dX8_ends_59 rfl (lv_at hl 3 rfl) ?_
        refine lv_iconst (v := 2) hx hb dX8_ends_60 (by decide) ?_
        refine lv_icmp_ne (tgt := 72) hx hb dX8_ends_61 (by decide) (fun c_48 => ?_) (fun c_48 => ?_)
        · have c_48 : ¬ (s9 = 2) := fun q_ => c_48 ((nI_eq (a := s9) (b := 2) (by omega) (by omega)).mpr q_)
          refine lv_iload_n hx hb dX8_ends_72 rfl (lv_at hl 3 rfl) ?_
          refine lv_iconst (v := 3) hx hb dX8_ends_73 (by decide) ?_
          refine lv_icmp_ne (tgt := 110) hx hb dX8_ends_74 (by decide) (fun c_49 => ?_) (fun c_49 => ?_)
          · have c_49 : ¬ (s9 = 3) := fun q_ => c_49 ((nI_eq (a := s9) (b := 3) (by omega) (by omega)).mpr q_)
            have hP9 := hP.sub (ws' := [(mo, .inr (6, [.int th, .int tm, .int (nI sr), .int (nI nc), .ref m4, .ref m5, .ref m6, .ref m7, .ref m8, .ref m9, .ref m10, .ref m11, .ref m12, .int pw, .int rn, .int (nI no), .ref m16, .ref m17, .ref m18, .int (nI bz), .int (nI dg), .int (nI db), .int (nI df), .int (nI sp), .int tg, .int 0, .int mm, .ref m27, .int fo, .ref m29, .ref m30, .ref m31])), (m5, .inl (y5, 700, .inl f5)), (m6, .inl (y6, 700, .inl f6)), (m7, .inl (y7, 96, .inl f7)), (m8, .inl (y8, 2, .inl f8)), (m9, .inl (y9, 2, .inl f9)), (m11, .inl (y11, 2, .inl f11)), (m27, .inl (y27, 8, .inl f27))]) [0, 1, 2, 3, 4, 5, 6, 7] rfl
            have hD9 := hD.sub (ws' := [(mo, .inr (6, [.int th, .int tm, .int (nI sr), .int (nI nc), .ref m4, .ref m5, .ref m6, .ref m7, .ref m8, .ref m9, .ref m10, .ref m11, .ref m12, .int pw, .int rn, .int (nI no), .ref m16, .ref m17, .ref m18, .int (nI bz), .int (nI dg), .int (nI db), .int (nI df), .int (nI sp), .int tg, .int 0, .int mm, .ref m27, .int fo, .ref m29, .ref m30, .ref m31])), (m5, .inl (y5, 700, .inl f5)), (m6, .inl (y6, 700, .inl f6)), (m7, .inl (y7, 96, .inl f7)), (m8, .inl (y8, 2, .inl f8)), (m9, .inl (y9, 2, .inl f9)), (m11, .inl (y11, 2, .inl f11)), (m27, .inl (y27, 8, .inl f27))]) [0, 1, 2, 3, 4, 5, 6, 7] (by decide) rfl
            have hK9 := hK.sub (tys' := []) [] rfl
            refine W.widen (k := 0) (n := 0) (by omega) (by omega) ?_
            exact W.vret hx hb hr (fun t ht hW => ⟨⟨(fun q_ => ([0] : List Int32).getD q_ 0, fun q_ => ([] : List Nat).getD q_ 0, fun q_ => ([f5, f6, f7, f8, f9, f11] : List (Nat → Int32)).getD q_ (fun _ => 0)), rfl, MI.late (sp' := s9 + 1) hM (hM.hf) hM.hp (fun q9 => absurd q9 (by omega)), by rw [ht]; exact hP9, va_K.moved hW.alike hK9, hD9⟩, hS.F ht⟩) hS.2.2 dX8_ends_110
          · have c_49 : s9 = 3 := (nI_eq (a := s9) (b := 3) (by omega) (by omega)).mp c_49
            exact (by omega : False).elim
        · have c_48 : s9 = 2 := (nI_eq (a := s9) (b := 2) (by omega) (by omega)).mp c_48
          exact (by omega : False).elim
      · have c_47 : s9 = 1 := (nI_eq (a := s9) (b := 1) (by omega) (by omega)).mp c_47
        exact (by omega : False).elim
