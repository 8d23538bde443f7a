set_option maxHeartbeats 4000000 in
set_option maxRecDepth 100000 in
theorem s_toOpen (l : Launch) (dC : Nat → ClassId) (dI : Nat → Nat → Nat) (sz : Nat) (b : Nat) (bd bt bp bk bf bc : Int32) : Met l yX1_beginToOpen wsX1_beginToOpen ({ frames := 0, cells := 0, slots := 0, locals := 0 }) (va_Pc [.ref b] (pt_BQ (dC, dI) [(b, .inr (0, [.int bd, .int bt, .int bp, .int bk, .int bf, .int bc]))] [] sz)) (va_Qv (fun (_ : Unit) => True) (fun _ t => pt_at (dC, dI) (va_A [(b, .inr (0, [.int bd, .int bt, .int bp, .int bk, .int bf, .int bc]))] sz) [(b, .inr (0, [.int 1, .int 4, .int bp, .int bk, .int bf, .int bc]))] [] t) (va_A [(b, .inr (0, [.int bd, .int bt, .int bp, .int bk, .int bf, .int bc]))] sz)) 0 0 (va_A [(b, .inr (0, [.int bd, .int bt, .int bp, .int bk, .int bf, .int bc]))] sz) := by
  refine Met.ofW (cc := cX1_beginToOpen) (maxL := 1) (ret := none) (by decide) rfl ?_
  intro p e s m args below meth c s₁ B hml hv
  obtain ⟨rfl, hsz, hP, hK, hD0, hN⟩ := hv
  have hx := B.exec
  have hb := B.bytes
  have hr := B.returns
  have hts := atoms_spec (ws := wsX1_beginToOpen) B.pre
  have hown : s.vm.findClass RX1 = some m.cls := findClass_of_methodNamed B.named
  have hlocks := B.notSynchronized
  have iX1 : ∀ w ∈ wsX10, w ∈ wsX1_beginToOpen := by decide +kernel
  subst hsz
  have hD := hD0.self (sz := s.heap.size)
  generalize hAe : va_A [(b, .inr (0, [.int bd, .int bt, .int bp, .int bk, .int bf, .int bc]))] s.heap.size = A at hD ⊢
  have hA : ∀ q : Nat, s.heap.size ≤ q → A q := fun q h => by rw [← hAe]; exact Or.inr h
  have hS : va_S A s.heap s.heap [] := va_S.rf
  have hP : va_P (dC, dI) vwCl [(b, .inr (0, [.int bd, .int bt, .int bp, .int bk, .int bf, .int bc]))] s.heap := hP
  have hK : va_K (dC, dI) vwCl [] s := hK
  have hl := lv_entry ([.ref b]) (n := 1) (Nat.le_of_ble_eq_true rfl)
  rw [lg_entry_eq]
  generalize (lg_sl ([.ref b]) ++ List.replicate (1 - (lg_sl ([.ref b])).length) Slot.unset).toArray = ls at hl ⊢
  have hl : lv_has ls 1 [(0, .ref b)] := hl
  refine lv_aload_n hx hb dX1_beginToOpen_0 rfl (lv_at hl 0 rfl) ?_
  refine lv_iconst (v := 1) hx hb dX1_beginToOpen_1 (by decide) ?_
  refine va_put (D := (dC, dI)) (ci := 0) (v := .int 1) (ty := .int) (C := RX1) (T := TX1) (N := 6) hx hb hts iX1 tyX1 tyX1_ok nmX1 hown hK hP hD hS 0 rfl rfl 0 (by decide) (hts (.fieldLink RX1 9 "ParkTower$Bay" "door" "I") (by decide +kernel)) (fun _ h9 => h9) rfl (by decide +kernel) rfl rfl (Nat.le_of_ble_eq_true rfl) dX1_beginToOpen_2 (fun H locs hP hD hS => ?_)
  have hP : va_P (dC, dI) vwCl [(b, .inr (0, [.int 1, .int bt, .int bp, .int bk, .int bf, .int bc]))] H := hP
  have hD : va_D A [(b, .inr (0, [.int 1, .int bt, .int bp, .int bk, .int bf, .int bc]))] := hD
  refine lv_aload_n hx hb dX1_beginToOpen_5 rfl (lv_at hl 0 rfl) ?_
  refine lv_iconst (v := 4) hx hb dX1_beginToOpen_6 (by decide) ?_
  refine va_put (D := (dC, dI)) (ci := 0) (v := .int 4) (ty := .int) (C := RX1) (T := TX1) (N := 6) hx hb hts iX1 tyX1 tyX1_ok nmX1 hown hK hP hD hS 0 rfl rfl 1 (by decide) (hts (.fieldLink RX1 18 "ParkTower$Bay" "doorTicks" "I") (by decide +kernel)) (fun _ h9 => h9) rfl (by decide +kernel) rfl rfl (Nat.le_of_ble_eq_true rfl) dX1_beginToOpen_7 (fun H locs hP hD hS => ?_)
  have hP : va_P (dC, dI) vwCl [(b, .inr (0, [.int 1, .int 4, .int bp, .int bk, .int bf, .int bc]))] H := hP
  have hD : va_D A [(b, .inr (0, [.int 1, .int 4, .int bp, .int bk, .int bf, .int bc]))] := hD
  have hP9 := hP.sub (ws' := [(b, .inr (0, [.int 1, .int 4, .int bp, .int bk, .int bf, .int bc]))]) [0] rfl
  have hD9 := hD.sub (ws' := [(b, .inr (0, [.int 1, .int 4, .int bp, .int bk, .int bf, .int bc]))]) [0] (by decide) rfl
  have hK9 := hK.sub (tys' := []) [] rfl
  refine W.widen (k := 0) (n := 0) (by omega) (by omega) ?_
  exact W.vret hx hb hr (fun t ht hW => ⟨⟨(), rfl, trivial, by rw [ht]; exact hP9, va_K.moved hW.alike hK9, hD9⟩, hS.F ht⟩) hS.2.2 dX1_beginToOpen_10
set_option maxHeartbeats 4000000 in
set_option maxRecDepth 100000 in
theorem s_toShut (l : Launch) (dC : Nat → ClassId) (dI : Nat → Nat → Nat) (sz : Nat) (b : Nat) (bd bt bp bk bf bc : Int32) : Met l yX1_beginToShut wsX1_beginToShut ({ frames := 0, cells := 0, slots := 0, locals := 0 }) (va_Pc [.ref b] (pt_BQ (dC, dI) [(b, .inr (0, [.int bd, .int bt, .int bp, .int bk, .int bf, .int bc]))] [] sz)) (va_Qv (fun (_ : Unit) => True) (fun _ t => pt_at (dC, dI) (va_A [(b, .inr (0, [.int bd, .int bt, .int bp, .int bk, .int bf, .int bc]))] sz) [(b, .inr (0, [.int 3, .int 4, .int bp, .int bk, .int bf, .int bc]))] [] t) (va_A [(b, .inr (0, [.int bd, .int bt, .int bp, .int bk, .int bf, .int bc]))] sz)) 0 0 (va_A [(b, .inr (0, [.int bd, .int bt, .int bp, .int bk, .int bf, .int bc]))] sz) := by
  refine Met.ofW (cc := cX1_beginToShut) (maxL := 1) (ret := none) (by decide) rfl ?_
  intro p e s m args below meth c s₁ B hml hv
  obtain ⟨rfl, hsz, hP, hK, hD0, hN⟩ := hv
  have hx := B.exec
  have hb := B.bytes
  have hr := B.returns
  have hts := atoms_spec (ws := wsX1_beginToShut) B.pre
  have hown : s.vm.findClass RX1 = some m.cls := findClass_of_methodNamed B.named
  have hlocks := B.notSynchronized
  have iX1 : ∀ w ∈ wsX10, w ∈ wsX1_beginToShut := by decide +kernel
  subst hsz
  have hD := hD0.self (sz := s.heap.size)
  generalize hAe : va_A [(b, .inr (0, [.int bd, .int bt, .int bp, .int bk, .int bf, .int bc]))] s.heap.size = A at hD ⊢
  have hA : ∀ q : Nat, s.heap.size ≤ q → A q := fun q h => by rw [← hAe]; exact Or.inr h
  have hS : va_S A s.heap s.heap [] := va_S.rf
  have hP : va_P (dC, dI) vwCl [(b, .inr (0, [.int bd, .int bt, .int bp, .int bk, .int bf, .int bc]))] s.heap := hP
  have hK : va_K (dC, dI) vwCl [] s := hK
  have hl := lv_entry ([.ref b]) (n := 1) (Nat.le_of_ble_eq_true rfl)
  rw [lg_entry_eq]
  generalize (lg_sl ([.ref b]) ++ List.replicate (1 - (lg_sl ([.ref b])).length) Slot.unset).toArray = ls at hl ⊢
  have hl : lv_has ls 1 [(0, .ref b)] := hl
  refine lv_aload_n hx hb dX1_beginToShut_0 rfl (lv_at hl 0 rfl) ?_
  refine lv_iconst (v := 3) hx hb dX1_beginToShut_1 (by decide) ?_
  refine va_put (D := (dC, dI)) (ci := 0) (v := .int 3) (ty := .int) (C := RX1) (T := TX1) (N := 6) hx hb hts iX1 tyX1 tyX1_ok nmX1 hown hK hP hD hS 0 rfl rfl 0 (by decide) (hts (.fieldLink RX1 9 "ParkTower$Bay" "door" "I") (by decide +kernel)) (fun _ h9 => h9) rfl (by decide +kernel) rfl rfl (Nat.le_of_ble_eq_true rfl) dX1_beginToShut_2 (fun H locs hP hD hS => ?_)
  have hP : va_P (dC, dI) vwCl [(b, .inr (0, [.int 3, .int bt, .int bp, .int bk, .int bf, .int bc]))] H := hP
  have hD : va_D A [(b, .inr (0, [.int 3, .int bt, .int bp, .int bk, .int bf, .int bc]))] := hD
  refine lv_aload_n hx hb dX1_beginToShut_5 rfl (lv_at hl 0 rfl) ?_
  refine lv_iconst (v := 4) hx hb dX1_beginToShut_6 (by decide) ?_
  refine va_put (D := (dC, dI)) (ci := 0) (v := .int 4) (ty := .int) (C := RX1) (T := TX1) (N := 6) hx hb hts iX1 tyX1 tyX1_ok nmX1 hown hK hP hD hS 0 rfl rfl 1 (by decide) (hts (.fieldLink RX1 18 "ParkTower$Bay" "doorTicks" "I") (by decide +kernel)) (fun _ h9 => h9) rfl (by decide +kernel) rfl rfl (Nat.le_of_ble_eq_true rfl) dX1_beginToShut_7 (fun H locs hP hD hS => ?_)
  have hP : va_P (dC, dI) vwCl [(b, .inr (0, [.int 3, .int 4, .int bp, .int bk, .int bf, .int bc]))] H := hP
  have hD : va_D A [(b, .inr (0, [.int 3, .int 4, .int bp, .int bk, .int bf, .int bc]))] := hD
  have hP9 := hP.sub (ws' := [(b, .inr (0, [.int 3, .int 4, .int bp, .int bk, .int bf, .int bc]))]) [0] rfl
  have hD9 := hD.sub (ws' := [(b, .inr (0, [.int 3, .int 4, .int bp, .int bk, .int bf, .int bc]))]) [0] (by decide) rfl
  have hK9 := hK.sub (tys' := []) [] rfl
  refine W.widen (k := 0) (n := 0) (by omega) (by omega) ?_
  exact W.vret hx hb hr (fun t ht hW => ⟨⟨(), rfl, trivial, by rw [ht]; exact hP9, va_K.moved hW.alike hK9, hD9⟩, hS.F ht⟩) hS.2.2 dX1_beginToShut_10
set_option maxHeartbeats 4000000 in
set_option maxRecDepth 100000 in
theorem s_clear (l : Launch) (dC : Nat → ClassId) (dI : Nat → Nat → Nat) (sz : Nat) (b : Nat) (bd bt bp bk bf bc : Int32) : Met l yX1_clear wsX1_clear ({ frames := 0, cells := 0, slots := 0, locals := 0 }) (va_Pc [.ref b] (pt_BQ (dC, dI) [(b, .inr (0, [.int bd, .int bt, .int bp, .int bk, .int bf, .int bc]))] [] sz)) (va_Qv (fun (_ : Unit) => True) (fun _ t => pt_at (dC, dI) (va_A [(b, .inr (0, [.int bd, .int bt, .int bp, .int bk, .int bf, .int bc]))] sz) [(b, .inr (0, [.int bd, .int bt, .int bp, .int 0, .int 0, .int (-1)]))] [] t) (va_A [(b, .inr (0, [.int bd, .int bt, .int bp, .int bk, .int bf, .int bc]))] sz)) 0 0 (va_A [(b, .inr (0, [.int bd, .int bt, .int bp, .int bk, .int bf, .int bc]))] sz) := by
  refine Met.ofW (cc := cX1_clear) (maxL := 1) (ret := none) (by decide) rfl ?_
  intro p e s m args below meth c s₁ B hml hv
  obtain ⟨rfl, hsz, hP, hK, hD0, hN⟩ := hv
  have hx := B.exec
  have hb := B.bytes
  have hr := B.returns
  have hts := atoms_spec (ws := wsX1_clear) B.pre
  have hown : s.vm.findClass RX1 = some m.cls := findClass_of_methodNamed B.named
  have hlocks := B.notSynchronized
  have iX1 : ∀ w ∈ wsX10, w ∈ wsX1_clear := by decide +kernel
  subst hsz
  have hD := hD0.self (sz := s.heap.size)
  generalize hAe : va_A [(b, .inr (0, [.int bd, .int bt, .int bp, .int bk, .int bf, .int bc]))] s.heap.size = A at hD ⊢
  have hA : ∀ q : Nat, s.heap.size ≤ q → A q := fun q h => by rw [← hAe]; exact Or.inr h
  have hS : va_S A s.heap s.heap [] := va_S.rf
  have hP : va_P (dC, dI) vwCl [(b, .inr (0, [.int bd, .int bt, .int bp, .int bk, .int bf, .int bc]))] s.heap := hP
  have hK : va_K (dC, dI) vwCl [] s := hK
  have hl := lv_entry ([.ref b]) (n := 1) (Nat.le_of_ble_eq_true rfl)
  rw [lg_entry_eq]
  generalize (lg_sl ([.ref b]) ++ List.replicate (1 - (lg_sl ([.ref b])).length) Slot.unset).toArray = ls at hl ⊢
  have hl : lv_has ls 1 [(0, .ref b)] := hl
  refine lv_aload_n hx hb dX1_clear_0 rfl (lv_at hl 0 rfl) ?_
  refine lv_iconst (v := 0) hx hb dX1_clear_1 (by decide) ?_
  refine va_put (D := (dC, dI)) (ci := 0) (v := .int 0) (ty := .int) (C := RX1) (T := TX1) (N := 6) hx hb hts iX1 tyX1 tyX1_ok nmX1 hown hK hP hD hS 0 rfl rfl 3 (by decide) (hts (.fieldLink RX1 21 "ParkTower$Bay" "ticket" "I") (by decide +kernel)) (fun _ h9 => h9) rfl (by decide +kernel) rfl rfl (Nat.le_of_ble_eq_true rfl) dX1_clear_2 (fun H locs hP hD hS => ?_)
  have hP : va_P (dC, dI) vwCl [(b, .inr (0, [.int bd, .int bt, .int bp, .int 0, .int bf, .int bc]))] H := hP
  have hD : va_D A [(b, .inr (0, [.int bd, .int bt, .int bp, .int 0, .int bf, .int bc]))] := hD
  refine lv_aload_n hx hb dX1_clear_5 rfl (lv_at hl 0 rfl) ?_
  refine lv_iconst (v := 0) hx hb dX1_clear_6 (by decide) ?_
  refine va_put (D := (dC, dI)) (ci := 0) (v := .int 0) (ty := .boolean) (C := RX1) (T := TX1) (N := 6) hx hb hts iX1 tyX1 tyX1_ok nmX1 hown hK hP hD hS 0 rfl rfl 4 (by decide) (hts (.fieldLink RX1 24 "ParkTower$Bay" "fetched" "Z") (by decide +kernel)) (fun _ h9 => h9) rfl (by decide +kernel) rfl rfl (Nat.le_of_ble_eq_true rfl) dX1_clear_7 (fun H locs hP hD hS => ?_)
  have hP : va_P (dC, dI) vwCl [(b, .inr (0, [.int bd, .int bt, .int bp, .int 0, .int 0, .int bc]))] H := hP
  have hD : va_D A [(b, .inr (0, [.int bd, .int bt, .int bp, .int 0, .int 0, .int bc]))] := hD
  refine lv_aload_n hx hb dX1_clear_10 rfl (lv_at hl 0 rfl) ?_
  refine lv_iconst (v := (-1)) hx hb dX1_clear_11 (by decide) ?_
  refine va_put (D := (dC, dI)) (ci := 0) (v := .int (-1)) (ty := .int) (C := RX1) (T := TX1) (N := 6) hx hb hts iX1 tyX1 tyX1_ok nmX1 hown hK hP hD hS 0 rfl rfl 5 (by decide) (hts (.fieldLink RX1 15 "ParkTower$Bay" "keptCell" "I") (by decide +kernel)) (fun _ h9 => h9) rfl (by decide +kernel) rfl rfl (Nat.le_of_ble_eq_true rfl) dX1_clear_12 (fun H locs hP hD hS => ?_)
  have hP : va_P (dC, dI) vwCl [(b, .inr (0, [.int bd, .int bt, .int bp, .int 0, .int 0, .int (-1)]))] H := hP
  have hD : va_D A [(b, .inr (0, [.int bd, .int bt, .int bp, .int 0, .int 0, .int (-1)]))] := hD
  have hP9 := hP.sub (ws' := [(b, .inr (0, [.int bd, .int bt, .int bp, .int 0, .int 0, .int (-1)]))]) [0] rfl
  have hD9 := hD.sub (ws' := [(b, .inr (0, [.int bd, .int bt, .int bp, .int 0, .int 0, .int (-1)]))]) [0] (by decide) rfl
  have hK9 := hK.sub (tys' := []) [] rfl
  refine W.widen (k := 0) (n := 0) (by omega) (by omega) ?_
  exact W.vret hx hb hr (fun t ht hW => ⟨⟨(), rfl, trivial, by rw [ht]; exact hP9, va_K.moved hW.alike hK9, hD9⟩, hS.F ht⟩) hS.2.2 dX1_clear_15
set_option maxHeartbeats 4000000 in
set_option maxRecDepth 100000 in
theorem s_receive (l : Launch) (dC : Nat → ClassId) (dI : Nat → Nat → Nat) (sz : Nat) (b : Nat) (bd bt bp bk bf bc : Int32) (x y : Int32) : Met l yX1_receive wsX1_receive ({ frames := 0, cells := 0, slots := 0, locals := 0 }) (va_Pc [.ref b, .int x, .int y] (pt_BQ (dC, dI) [(b, .inr (0, [.int bd, .int bt, .int bp, .int bk, .int bf, .int bc]))] [] sz)) (va_Qv (fun (_ : Unit) => True) (fun _ t => pt_at (dC, dI) (va_A [(b, .inr (0, [.int bd, .int bt, .int bp, .int bk, .int bf, .int bc]))] sz) [(b, .inr (0, [.int bd, .int bt, .int bp, .int x, .int bf, .int y]))] [] t) (va_A [(b, .inr (0, [.int bd, .int bt, .int bp, .int bk, .int bf, .int bc]))] sz)) 0 0 (va_A [(b, .inr (0, [.int bd, .int bt, .int bp, .int bk, .int bf, .int bc]))] sz) := by
  refine Met.ofW (cc := cX1_receive) (maxL := 3) (ret := none) (by decide) rfl ?_
  intro p e s m args below meth c s₁ B hml hv
  obtain ⟨rfl, hsz, hP, hK, hD0, hN⟩ := hv
  have hx := B.exec
  have hb := B.bytes
  have hr := B.returns
  have hts := atoms_spec (ws := wsX1_receive) B.pre
  have hown : s.vm.findClass RX1 = some m.cls := findClass_of_methodNamed B.named
  have hlocks := B.notSynchronized
  have iX1 : ∀ w ∈ wsX10, w ∈ wsX1_receive := by decide +kernel
  subst hsz
  have hD := hD0.self (sz := s.heap.size)
  generalize hAe : va_A [(b, .inr (0, [.int bd, .int bt, .int bp, .int bk, .int bf, .int bc]))] s.heap.size = A at hD ⊢
  have hA : ∀ q : Nat, s.heap.size ≤ q → A q := fun q h => by rw [← hAe]; exact Or.inr h
  have hS : va_S A s.heap s.heap [] := va_S.rf
  have hP : va_P (dC, dI) vwCl [(b, .inr (0, [.int bd, .int bt, .int bp, .int bk, .int bf, .int bc]))] s.heap := hP
  have hK : va_K (dC, dI) vwCl [] s := hK
  have hl := lv_entry ([.ref b, .int x, .int y]) (n := 3) (Nat.le_of_ble_eq_true rfl)
  rw [lg_entry_eq]
  generalize (lg_sl ([.ref b, .int x, .int y]) ++ List.replicate (3 - (lg_sl ([.ref b, .int x, .int y])).length) Slot.unset).toArray = ls at hl ⊢
  have hl : lv_has ls 3 [(0, .ref b), (1, .int x), (2, .int y)] := hl
  refine lv_aload_n hx hb dX1_receive_0 rfl (lv_at hl 0 rfl) ?_
  refine lv_iload_n hx hb dX1_receive_1 rfl (lv_at hl 1 rfl) ?_
  refine va_put (D := (dC, dI)) (ci := 0) (v := .int x) (ty := .int) (C := RX1) (T := TX1) (N := 6) hx hb hts iX1 tyX1 tyX1_ok nmX1 hown hK hP hD hS 0 rfl rfl 3 (by decide) (hts (.fieldLink RX1 21 "ParkTower$Bay" "ticket" "I") (by decide +kernel)) (fun _ h9 => h9) rfl (by decide +kernel) rfl rfl (Nat.le_of_ble_eq_true rfl) dX1_receive_2 (fun H locs hP hD hS => ?_)
  have hP : va_P (dC, dI) vwCl [(b, .inr (0, [.int bd, .int bt, .int bp, .int x, .int bf, .int bc]))] H := hP
  have hD : va_D A [(b, .inr (0, [.int bd, .int bt, .int bp, .int x, .int bf, .int bc]))] := hD
  refine lv_aload_n hx hb dX1_receive_5 rfl (lv_at hl 0 rfl) ?_
  refine lv_iload_n hx hb dX1_receive_6 rfl (lv_at hl 2 rfl) ?_
  refine va_put (D := (dC, dI)) (ci := 0) (v := .int y) (ty := .int) (C := RX1) (T := TX1) (N := 6) hx hb hts iX1 tyX1 tyX1_ok nmX1 hown hK hP hD hS 0 rfl rfl 5 (by decide) (hts (.fieldLink RX1 15 "ParkTower$Bay" "keptCell" "I") (by decide +kernel)) (fun _ h9 => h9) rfl (by decide +kernel) rfl rfl (Nat.le_of_ble_eq_true rfl) dX1_receive_7 (fun H locs hP hD hS => ?_)
  have hP : va_P (dC, dI) vwCl [(b, .inr (0, [.int bd, .int bt, .int bp, .int x, .int bf, .int y]))] H := hP
  have hD : va_D A [(b, .inr (0, [.int bd, .int bt, .int bp, .int x, .int bf, .int y]))] := hD
  have hP9 := hP.sub (ws' := [(b, .inr (0, [.int bd, .int bt, .int bp, .int x, .int bf, .int y]))]) [0] rfl
  have hD9 := hD.sub (ws' := [(b, .inr (0, [.int bd, .int bt, .int bp, .int x, .int bf, .int y]))]) [0] (by decide) rfl
  have hK9 := hK.sub (tys' := []) [] rfl
  refine W.widen (k := 0) (n := 0) (by omega) (by omega) ?_
  exact W.vret hx hb hr (fun t ht hW => ⟨⟨(), rfl, trivial, by rw [ht]; exact hP9, va_K.moved hW.alike hK9, hD9⟩, hS.F ht⟩) hS.2.2 dX1_receive_10
set_option maxHeartbeats 4000000 in
set_option maxRecDepth 100000 in
theorem s_putFetched (l : Launch) (dC : Nat → ClassId) (dI : Nat → Nat → Nat) (sz : Nat) (b : Nat) (bd bt bp bk bf bc : Int32) (x : Int32) : Met l yX1_putFetched wsX1_putFetched ({ frames := 0, cells := 0, slots := 0, locals := 0 }) (va_Pc [.ref b, .int x] (pt_BQ (dC, dI) [(b, .inr (0, [.int bd, .int bt, .int bp, .int bk, .int bf, .int bc]))] [] sz)) (va_Qv (fun (_ : Unit) => True) (fun _ t => pt_at (dC, dI) (va_A [(b, .inr (0, [.int bd, .int bt, .int bp, .int bk, .int bf, .int bc]))] sz) [(b, .inr (0, [.int bd, .int bt, .int bp, .int x, .int 1, .int bc]))] [] t) (va_A [(b, .inr (0, [.int bd, .int bt, .int bp, .int bk, .int bf, .int bc]))] sz)) 0 0 (va_A [(b, .inr (0, [.int bd, .int bt, .int bp, .int bk, .int bf, .int bc]))] sz) := by
  refine Met.ofW (cc := cX1_putFetched) (maxL := 2) (ret := none) (by decide) rfl ?_
  intro p e s m args below meth c s₁ B hml hv
  obtain ⟨rfl, hsz, hP, hK, hD0, hN⟩ := hv
  have hx := B.exec
  have hb := B.bytes
  have hr := B.returns
  have hts := atoms_spec (ws := wsX1_putFetched) B.pre
  have hown : s.vm.findClass RX1 = some m.cls := findClass_of_methodNamed B.named
  have hlocks := B.notSynchronized
  have iX1 : ∀ w ∈ wsX10, w ∈ wsX1_putFetched := by decide +kernel
  subst hsz
  have hD := hD0.self (sz := s.heap.size)
  generalize hAe : va_A [(b, .inr (0, [.int bd, .int bt, .int bp, .int bk, .int bf, .int bc]))] s.heap.size = A at hD ⊢
  have hA : ∀ q : Nat, s.heap.size ≤ q → A q := fun q h => by rw [← hAe]; exact Or.inr h
  have hS : va_S A s.heap s.heap [] := va_S.rf
  have hP : va_P (dC, dI) vwCl [(b, .inr (0, [.int bd, .int bt, .int bp, .int bk, .int bf, .int bc]))] s.heap := hP
  have hK : va_K (dC, dI) vwCl [] s := hK
  have hl := lv_entry ([.ref b, .int x]) (n := 2) (Nat.le_of_ble_eq_true rfl)
  rw [lg_entry_eq]
  generalize (lg_sl ([.ref b, .int x]) ++ List.replicate (2 - (lg_sl ([.ref b, .int x])).length) Slot.unset).toArray = ls at hl ⊢
  have hl : lv_has ls 2 [(0, .ref b), (1, .int x)] := hl
  refine lv_aload_n hx hb dX1_putFetched_0 rfl (lv_at hl 0 rfl) ?_
  refine lv_iload_n hx hb dX1_putFetched_1 rfl (lv_at hl 1 rfl) ?_
  refine va_put (D := (dC, dI)) (ci := 0) (v := .int x) (ty := .int) (C := RX1) (T := TX1) (N := 6) hx hb hts iX1 tyX1 tyX1_ok nmX1 hown hK hP hD hS 0 rfl rfl 3 (by decide) (hts (.fieldLink RX1 21 "ParkTower$Bay" "ticket" "I") (by decide +kernel)) (fun _ h9 => h9) rfl (by decide +kernel) rfl rfl (Nat.le_of_ble_eq_true rfl) dX1_putFetched_2 (fun H locs hP hD hS => ?_)
  have hP : va_P (dC, dI) vwCl [(b, .inr (0, [.int bd, .int bt, .int bp, .int x, .int bf, .int bc]))] H := hP
  have hD : va_D A [(b, .inr (0, [.int bd, .int bt, .int bp, .int x, .int bf, .int bc]))] := hD
  refine lv_aload_n hx hb dX1_putFetched_5 rfl (lv_at hl 0 rfl) ?_
  refine lv_iconst (v := 1) hx hb dX1_putFetched_6 (by decide) ?_
  refine va_put (D := (dC, dI)) (ci := 0) (v := .int 1) (ty := .boolean) (C := RX1) (T := TX1) (N := 6) hx hb hts iX1 tyX1 tyX1_ok nmX1 hown hK hP hD hS 0 rfl rfl 4 (by decide) (hts (.fieldLink RX1 24 "ParkTower$Bay" "fetched" "Z") (by decide +kernel)) (fun _ h9 => h9) rfl (by decide +kernel) rfl rfl (Nat.le_of_ble_eq_true rfl) dX1_putFetched_7 (fun H locs hP hD hS => ?_)
  have hP : va_P (dC, dI) vwCl [(b, .inr (0, [.int bd, .int bt, .int bp, .int x, .int 1, .int bc]))] H := hP
  have hD : va_D A [(b, .inr (0, [.int bd, .int bt, .int bp, .int x, .int 1, .int bc]))] := hD
  have hP9 := hP.sub (ws' := [(b, .inr (0, [.int bd, .int bt, .int bp, .int x, .int 1, .int bc]))]) [0] rfl
  have hD9 := hD.sub (ws' := [(b, .inr (0, [.int bd, .int bt, .int bp, .int x, .int 1, .int bc]))]) [0] (by decide) rfl
  have hK9 := hK.sub (tys' := []) [] rfl
  refine W.widen (k := 0) (n := 0) (by omega) (by omega) ?_
  exact W.vret hx hb hr (fun t ht hW => ⟨⟨(), rfl, trivial, by rw [ht]; exact hP9, va_K.moved hW.alike hK9, hD9⟩, hS.F ht⟩) hS.2.2 dX1_putFetched_10
set_option maxHeartbeats 4000000 in
set_option maxRecDepth 100000 in
theorem s_moveDoor (l : Launch) (dC : Nat → ClassId) (dI : Nat → Nat → Nat) (sz : Nat) (b : Nat) (bd bt bp bk bf bc : Int32) : Met l yX1_moveDoor wsX1_moveDoor ({ frames := 0, cells := 0, slots := 0, locals := 0 }) (va_Pc [.ref b] (pt_BQ (dC, dI) [(b, .inr (0, [.int bd, .int bt, .int bp, .int bk, .int bf, .int bc]))] [] sz)) (va_Qv (fun (u : Int32 × Int32) => True) (fun u t => pt_at (dC, dI) (va_A [(b, .inr (0, [.int bd, .int bt, .int bp, .int bk, .int bf, .int bc]))] sz) [(b, .inr (0, [.int u.1, .int u.2, .int bp, .int bk, .int bf, .int bc]))] [] t) (va_A [(b, .inr (0, [.int bd, .int bt, .int bp, .int bk, .int bf, .int bc]))] sz)) 0 0 (va_A [(b, .inr (0, [.int bd, .int bt, .int bp, .int bk, .int bf, .int bc]))] sz) := by
  refine Met.ofW (cc := cX1_moveDoor) (maxL := 1) (ret := none) (by decide) rfl ?_
  intro p e s m args below meth c s₁ B hml hv
  obtain ⟨rfl, hsz, hP, hK, hD0, hN⟩ := hv
  have hx := B.exec
  have hb := B.bytes
  have hr := B.returns
  have hts := atoms_spec (ws := wsX1_moveDoor) B.pre
  have hown : s.vm.findClass RX1 = some m.cls := findClass_of_methodNamed B.named
  have hlocks := B.notSynchronized
  have iX1 : ∀ w ∈ wsX10, w ∈ wsX1_moveDoor := by decide +kernel
  subst hsz
  have hD := hD0.self (sz := s.heap.size)
  generalize hAe : va_A [(b, .inr (0, [.int bd, .int bt, .int bp, .int bk, .int bf, .int bc]))] s.heap.size = A at hD ⊢
  have hA : ∀ q : Nat, s.heap.size ≤ q → A q := fun q h => by rw [← hAe]; exact Or.inr h
  have hS : va_S A s.heap s.heap [] := va_S.rf
  have hP : va_P (dC, dI) vwCl [(b, .inr (0, [.int bd, .int bt, .int bp, .int bk, .int bf, .int bc]))] s.heap := hP
  have hK : va_K (dC, dI) vwCl [] s := hK
  have hl := lv_entry ([.ref b]) (n := 1) (Nat.le_of_ble_eq_true rfl)
  rw [lg_entry_eq]
  generalize (lg_sl ([.ref b]) ++ List.replicate (1 - (lg_sl ([.ref b])).length) Slot.unset).toArray = ls at hl ⊢
  have hl : lv_has ls 1 [(0, .ref b)] := hl
  refine lv_aload_n hx hb dX1_moveDoor_0 rfl (lv_at hl 0 rfl) ?_
  refine va_get (D := (dC, dI)) (ci := 0) (v := .int bt) (C := RX1) (T := TX1) (N := 6) hx hb hts iX1 hown hK hP 0 rfl rfl 1 (by decide) (hts (.fieldLink RX1 18 "ParkTower$Bay" "doorTicks" "I") (by decide +kernel)) (fun _ h9 => h9) rfl dX1_moveDoor_1 ?_
  refine lv_if_ne (tgt := 8) hx hb dX1_moveDoor_4 (by decide) (fun c_1 => ?_) (fun c_1 => ?_)
  · have c_1 : ¬ (bt = 0) := c_1
    refine lv_aload_n hx hb dX1_moveDoor_8 rfl (lv_at hl 0 rfl) ?_
    refine lv_dup hx hb dX1_moveDoor_9 rfl ?_
    refine va_get (D := (dC, dI)) (ci := 0) (v := .int bt) (C := RX1) (T := TX1) (N := 6) hx hb hts iX1 hown hK hP 0 rfl rfl 1 (by decide) (hts (.fieldLink RX1 18 "ParkTower$Bay" "doorTicks" "I") (by decide +kernel)) (fun _ h9 => h9) rfl dX1_moveDoor_10 ?_
    refine lv_iconst (v := 1) hx hb dX1_moveDoor_13 (by decide) ?_
    refine lv_isub hx hb dX1_moveDoor_14 ?_
    refine lv_topi (fun z_2 ez_2 => ?_)
    refine va_put (D := (dC, dI)) (ci := 0) (v := .int z_2) (ty := .int) (C := RX1) (T := TX1) (N := 6) hx hb hts iX1 tyX1 tyX1_ok nmX1 hown hK hP hD hS 0 rfl rfl 1 (by decide) (hts (.fieldLink RX1 18 "ParkTower$Bay" "doorTicks" "I") (by decide +kernel)) (fun _ h9 => h9) rfl (by decide +kernel) rfl rfl (Nat.le_of_ble_eq_true rfl) dX1_moveDoor_15 (fun H locs hP hD hS => ?_)
    have hP : va_P (dC, dI) vwCl [(b, .inr (0, [.int bd, .int z_2, .int bp, .int bk, .int bf, .int bc]))] H := hP
    have hD : va_D A [(b, .inr (0, [.int bd, .int z_2, .int bp, .int bk, .int bf, .int bc]))] := hD
    refine lv_aload_n hx hb dX1_moveDoor_18 rfl (lv_at hl 0 rfl) ?_
    refine va_get (D := (dC, dI)) (ci := 0) (v := .int z_2) (C := RX1) (T := TX1) (N := 6) hx hb hts iX1 hown hK hP 0 rfl rfl 1 (by decide) (hts (.fieldLink RX1 18 "ParkTower$Bay" "doorTicks" "I") (by decide +kernel)) (fun _ h9 => h9) rfl dX1_moveDoor_19 ?_
    refine lv_if_ne (tgt := 42) hx hb dX1_moveDoor_22 (by decide) (fun c_3 => ?_) (fun c_3 => ?_)
    · have c_3 : ¬ (z_2 = 0) := c_3
      have hP9 := hP.sub (ws' := [(b, .inr (0, [.int bd, .int z_2, .int bp, .int bk, .int bf, .int bc]))]) [0] rfl
      have hD9 := hD.sub (ws' := [(b, .inr (0, [.int bd, .int z_2, .int bp, .int bk, .int bf, .int bc]))]) [0] (by decide) rfl
      have hK9 := hK.sub (tys' := []) [] rfl
      refine W.widen (k := 0) (n := 0) (by omega) (by omega) ?_
      exact W.vret hx hb hr (fun t ht hW => ⟨⟨(bd, z_2), rfl, trivial, by rw [ht]; exact hP9, va_K.moved hW.alike hK9, hD9⟩, hS.F ht⟩) hS.2.2 dX1_moveDoor_42
    · have c_3 : (z_2 = 0) := c_3
      refine lv_aload_n hx hb dX1_moveDoor_25 rfl (lv_at hl 0 rfl) ?_
      refine lv_aload_n hx hb dX1_moveDoor_26 rfl (lv_at hl 0 rfl) ?_
      refine va_get (D := (dC, dI)) (ci := 0) (v := .int bd) (C := RX1) (T := TX1) (N := 6) hx hb hts iX1 hown hK hP 0 rfl rfl 0 (by decide) (hts (.fieldLink RX1 9 "ParkTower$Bay" "door" "I") (by decide +kernel)) (fun _ h9 => h9) rfl dX1_moveDoor_27 ?_
      refine lv_iconst (v := 1) hx hb dX1_moveDoor_30 (by decide) ?_
      refine lv_icmp_ne (tgt := 38) hx hb dX1_moveDoor_31 (by decide) (fun c_4 => ?_) (fun c_4 => ?_)
      · have c_4 : ¬ (bd = 1) := c_4
        refine lv_iconst (v := 0) hx hb dX1_moveDoor_38 (by decide) ?_
        refine va_put (D := (dC, dI)) (ci := 0) (v := .int 0) (ty := .int) (C := RX1) (T := TX1) (N := 6) hx hb hts iX1 tyX1 tyX1_ok nmX1 hown hK hP hD hS 0 rfl rfl 0 (by decide) (hts (.fieldLink RX1 9 "ParkTower$Bay" "door" "I") (by decide +kernel)) (fun _ h9 => h9) rfl (by decide +kernel) rfl rfl (Nat.le_of_ble_eq_true rfl) dX1_moveDoor_39 (fun H locs hP hD hS => ?_)
        have hP : va_P (dC, dI) vwCl [(b, .inr (0, [.int 0, .int z_2, .int bp, .int bk, .int bf, .int bc]))] H := hP
        have hD : va_D A [(b, .inr (0, [.int 0, .int z_2, .int bp, .int bk, .int bf, .int bc]))] := hD
        have hP9 := hP.sub (ws' := [(b, .inr (0, [.int 0, .int z_2, .int bp, .int bk, .int bf, .int bc]))]) [0] rfl
        have hD9 := hD.sub (ws' := [(b, .inr (0, [.int 0, .int z_2, .int bp, .int bk, .int bf, .int bc]))]) [0] (by decide) rfl
        have hK9 := hK.sub (tys' := []) [] rfl
        refine W.widen (k := 0) (n := 0) (by omega) (by omega) ?_
        exact W.vret hx hb hr (fun t ht hW => ⟨⟨(0, z_2), rfl, trivial, by rw [ht]; exact hP9, va_K.moved hW.alike hK9, hD9⟩, hS.F ht⟩) hS.2.2 dX1_moveDoor_42
      · have c_4 : (bd = 1) := c_4
        refine lv_iconst (v := 2) hx hb dX1_moveDoor_34 (by decide) ?_
        refine lv_goto (tgt := 39) hx hb dX1_moveDoor_35 (by decide) ?_
        refine va_put (D := (dC, dI)) (ci := 0) (v := .int 2) (ty := .int) (C := RX1) (T := TX1) (N := 6) hx hb hts iX1 tyX1 tyX1_ok nmX1 hown hK hP hD hS 0 rfl rfl 0 (by decide) (hts (.fieldLink RX1 9 "ParkTower$Bay" "door" "I") (by decide +kernel)) (fun _ h9 => h9) rfl (by decide +kernel) rfl rfl (Nat.le_of_ble_eq_true rfl) dX1_moveDoor_39 (fun H locs hP hD hS => ?_)
        have hP : va_P (dC, dI) vwCl [(b, .inr (0, [.int 2, .int z_2, .int bp, .int bk, .int bf, .int bc]))] H := hP
        have hD : va_D A [(b, .inr (0, [.int 2, .int z_2, .int bp, .int bk, .int bf, .int bc]))] := hD
        have hP9 := hP.sub (ws' := [(b, .inr (0, [.int 2, .int z_2, .int bp, .int bk, .int bf, .int bc]))]) [0] rfl
        have hD9 := hD.sub (ws' := [(b, .inr (0, [.int 2, .int z_2, .int bp, .int bk, .int bf, .int bc]))]) [0] (by decide) rfl
        have hK9 := hK.sub (tys' := []) [] rfl
        refine W.widen (k := 0) (n := 0) (by omega) (by omega) ?_
        exact W.vret hx hb hr (fun t ht hW => ⟨⟨(2, z_2), rfl, trivial, by rw [ht]; exact hP9, va_K.moved hW.alike hK9, hD9⟩, hS.F ht⟩) hS.2.2 dX1_moveDoor_42
  · have c_1 : (bt = 0) := c_1
    have hP9 := hP.sub (ws' := [(b, .inr (0, [.int bd, .int bt, .int bp, .int bk, .int bf, .int bc]))]) [0] rfl
    have hD9 := hD.sub (ws' := [(b, .inr (0, [.int bd, .int bt, .int bp, .int bk, .int bf, .int bc]))]) [0] (by decide) rfl
    have hK9 := hK.sub (tys' := []) [] rfl
    refine W.widen (k := 0) (n := 0) (by omega) (by omega) ?_
    exact W.vret hx hb hr (fun t ht hW => ⟨⟨(bd, bt), rfl, trivial, by rw [ht]; exact hP9, va_K.moved hW.alike hK9, hD9⟩, hS.F ht⟩) hS.2.2 dX1_moveDoor_7
set_option maxHeartbeats 4000000 in
set_option maxRecDepth 100000 in
theorem s_holdsCarWithoutOrder (l : Launch) (dC : Nat → ClassId) (dI : Nat → Nat → Nat) (b : Nat) (bd bt bp bk bf bc : Int32) : Met l yX1_holdsCarWithoutOrder wsX1_holdsCarWithoutOrder ({ frames := 0, cells := 0, slots := 0, locals := 0 }) (va_Pc [.ref b] (pt_B (dC, dI) [(b, .inr (0, [.int bd, .int bt, .int bp, .int bk, .int bf, .int bc]))] [])) (vp_Si (fun r : Int32 => r = 0 ∨ r = 1)) 0 0 (fun _ => False) := by
  refine Met.ofW (cc := cX1_holdsCarWithoutOrder) (maxL := 1) (ret := (some .boolean)) (by decide) rfl ?_
  intro p e s m args below meth c s₁ B hml hv
  obtain ⟨rfl, hP, hK, hN⟩ := hv
  have hx := B.exec
  have hb := B.bytes
  have hr := B.returns
  have hts := atoms_spec (ws := wsX1_holdsCarWithoutOrder) B.pre
  have hown : s.vm.findClass RX1 = some m.cls := findClass_of_methodNamed B.named
  have hlocks := B.notSynchronized
  have iX1 : ∀ w ∈ wsX10, w ∈ wsX1_holdsCarWithoutOrder := by decide +kernel
  have hP : va_P (dC, dI) vwCl [(b, .inr (0, [.int bd, .int bt, .int bp, .int bk, .int bf, .int bc]))] s.heap := hP
  have hK : va_K (dC, dI) vwCl [] s := hK
  have hl := lv_entry ([.ref b]) (n := 1) (Nat.le_of_ble_eq_true rfl)
  rw [lg_entry_eq]
  generalize (lg_sl ([.ref b]) ++ List.replicate (1 - (lg_sl ([.ref b])).length) Slot.unset).toArray = ls at hl ⊢
  have hl : lv_has ls 1 [(0, .ref b)] := hl
  refine lv_aload_n hx hb dX1_holdsCarWithoutOrder_0 rfl (lv_at hl 0 rfl) ?_
  refine va_get (D := (dC, dI)) (ci := 0) (v := .int bk) (C := RX1) (T := TX1) (N := 6) hx hb hts iX1 hown hK hP 0 rfl rfl 3 (by decide) (hts (.fieldLink RX1 21 "ParkTower$Bay" "ticket" "I") (by decide +kernel)) (fun _ h9 => h9) rfl dX1_holdsCarWithoutOrder_1 ?_
  refine lv_if_eq (tgt := 25) hx hb dX1_holdsCarWithoutOrder_4 (by decide) (fun c_1 => ?_) (fun c_1 => ?_)
  · have c_1 : (bk = 0) := c_1
    refine lv_iconst (v := 0) hx hb dX1_holdsCarWithoutOrder_25 (by decide) ?_
    exact W.zret (v := 0) (ty := .boolean) hx hb hr rfl (fun t ht hW => ⟨0, rfl, Or.inl rfl, ht⟩) (fun q h => by cases h) dX1_holdsCarWithoutOrder_26
  · have c_1 : ¬ (bk = 0) := c_1
    refine lv_aload_n hx hb dX1_holdsCarWithoutOrder_7 rfl (lv_at hl 0 rfl) ?_
    refine va_get (D := (dC, dI)) (ci := 0) (v := .int bf) (C := RX1) (T := TX1) (N := 6) hx hb hts iX1 hown hK hP 0 rfl rfl 4 (by decide) (hts (.fieldLink RX1 24 "ParkTower$Bay" "fetched" "Z") (by decide +kernel)) (fun _ h9 => h9) rfl dX1_holdsCarWithoutOrder_8 ?_
    refine lv_if_ne (tgt := 25) hx hb dX1_holdsCarWithoutOrder_11 (by decide) (fun c_2 => ?_) (fun c_2 => ?_)
    · have c_2 : ¬ (bf = 0) := c_2
      refine lv_iconst (v := 0) hx hb dX1_holdsCarWithoutOrder_25 (by decide) ?_
      exact W.zret (v := 0) (ty := .boolean) hx hb hr rfl (fun t ht hW => ⟨0, rfl, Or.inl rfl, ht⟩) (fun q h => by cases h) dX1_holdsCarWithoutOrder_26
    · have c_2 : (bf = 0) := c_2
      refine lv_aload_n hx hb dX1_holdsCarWithoutOrder_14 rfl (lv_at hl 0 rfl) ?_
      refine va_get (D := (dC, dI)) (ci := 0) (v := .int bd) (C := RX1) (T := TX1) (N := 6) hx hb hts iX1 hown hK hP 0 rfl rfl 0 (by decide) (hts (.fieldLink RX1 9 "ParkTower$Bay" "door" "I") (by decide +kernel)) (fun _ h9 => h9) rfl dX1_holdsCarWithoutOrder_15 ?_
      refine lv_if_eq (tgt := 25) hx hb dX1_holdsCarWithoutOrder_18 (by decide) (fun c_3 => ?_) (fun c_3 => ?_)
      · have c_3 : (bd = 0) := c_3
        refine lv_iconst (v := 0) hx hb dX1_holdsCarWithoutOrder_25 (by decide) ?_
        exact W.zret (v := 0) (ty := .boolean) hx hb hr rfl (fun t ht hW => ⟨0, rfl, Or.inl rfl, ht⟩) (fun q h => by cases h) dX1_holdsCarWithoutOrder_26
      · have c_3 : ¬ (bd = 0) := c_3
        refine lv_iconst (v := 1) hx hb dX1_holdsCarWithoutOrder_21 (by decide) ?_
        refine lv_goto (tgt := 26) hx hb dX1_holdsCarWithoutOrder_22 (by decide) ?_
        exact W.zret (v := 1) (ty := .boolean) hx hb hr rfl (fun t ht hW => ⟨1, rfl, Or.inr rfl, ht⟩) (fun q h => by cases h) dX1_holdsCarWithoutOrder_26
set_option maxHeartbeats 4000000 in
set_option maxRecDepth 100000 in
theorem s_isOpenAndClear (l : Launch) (dC : Nat → ClassId) (dI : Nat → Nat → Nat) (b : Nat) (bd bt bp bk bf bc : Int32) : Met l yX1_isOpenAndClear wsX1_isOpenAndClear ({ frames := 0, cells := 0, slots := 0, locals := 0 }) (va_Pc [.ref b] (pt_B (dC, dI) [(b, .inr (0, [.int bd, .int bt, .int bp, .int bk, .int bf, .int bc]))] [])) (vp_Si (fun r : Int32 => r = 0 ∨ r = 1)) 0 0 (fun _ => False) := by
  refine Met.ofW (cc := cX1_isOpenAndClear) (maxL := 1) (ret := (some .boolean)) (by decide) rfl ?_
  intro p e s m args below meth c s₁ B hml hv
  obtain ⟨rfl, hP, hK, hN⟩ := hv
  have hx := B.exec
  have hb := B.bytes
  have hr := B.returns
  have hts := atoms_spec (ws := wsX1_isOpenAndClear) B.pre
  have hown : s.vm.findClass RX1 = some m.cls := findClass_of_methodNamed B.named
  have hlocks := B.notSynchronized
  have iX1 : ∀ w ∈ wsX10, w ∈ wsX1_isOpenAndClear := by decide +kernel
  have hP : va_P (dC, dI) vwCl [(b, .inr (0, [.int bd, .int bt, .int bp, .int bk, .int bf, .int bc]))] s.heap := hP
  have hK : va_K (dC, dI) vwCl [] s := hK
  have hl := lv_entry ([.ref b]) (n := 1) (Nat.le_of_ble_eq_true rfl)
  rw [lg_entry_eq]
  generalize (lg_sl ([.ref b]) ++ List.replicate (1 - (lg_sl ([.ref b])).length) Slot.unset).toArray = ls at hl ⊢
  have hl : lv_has ls 1 [(0, .ref b)] := hl
  refine lv_aload_n hx hb dX1_isOpenAndClear_0 rfl (lv_at hl 0 rfl) ?_
  refine va_get (D := (dC, dI)) (ci := 0) (v := .int bd) (C := RX1) (T := TX1) (N := 6) hx hb hts iX1 hown hK hP 0 rfl rfl 0 (by decide) (hts (.fieldLink RX1 9 "ParkTower$Bay" "door" "I") (by decide +kernel)) (fun _ h9 => h9) rfl dX1_isOpenAndClear_1 ?_
  refine lv_iconst (v := 2) hx hb dX1_isOpenAndClear_4 (by decide) ?_
  refine lv_icmp_ne (tgt := 26) hx hb dX1_isOpenAndClear_5 (by decide) (fun c_1 => ?_) (fun c_1 => ?_)
  · have c_1 : ¬ (bd = 2) := c_1
    refine lv_iconst (v := 0) hx hb dX1_isOpenAndClear_26 (by decide) ?_
    exact W.zret (v := 0) (ty := .boolean) hx hb hr rfl (fun t ht hW => ⟨0, rfl, Or.inl rfl, ht⟩) (fun q h => by cases h) dX1_isOpenAndClear_27
  · have c_1 : (bd = 2) := c_1
    refine lv_aload_n hx hb dX1_isOpenAndClear_8 rfl (lv_at hl 0 rfl) ?_
    refine va_get (D := (dC, dI)) (ci := 0) (v := .int bk) (C := RX1) (T := TX1) (N := 6) hx hb hts iX1 hown hK hP 0 rfl rfl 3 (by decide) (hts (.fieldLink RX1 21 "ParkTower$Bay" "ticket" "I") (by decide +kernel)) (fun _ h9 => h9) rfl dX1_isOpenAndClear_9 ?_
    refine lv_if_ne (tgt := 26) hx hb dX1_isOpenAndClear_12 (by decide) (fun c_2 => ?_) (fun c_2 => ?_)
    · have c_2 : ¬ (bk = 0) := c_2
      refine lv_iconst (v := 0) hx hb dX1_isOpenAndClear_26 (by decide) ?_
      exact W.zret (v := 0) (ty := .boolean) hx hb hr rfl (fun t ht hW => ⟨0, rfl, Or.inl rfl, ht⟩) (fun q h => by cases h) dX1_isOpenAndClear_27
    · have c_2 : (bk = 0) := c_2
      refine lv_aload_n hx hb dX1_isOpenAndClear_15 rfl (lv_at hl 0 rfl) ?_
      refine va_get (D := (dC, dI)) (ci := 0) (v := .int bp) (C := RX1) (T := TX1) (N := 6) hx hb hts iX1 hown hK hP 0 rfl rfl 2 (by decide) (hts (.fieldLink RX1 28 "ParkTower$Bay" "personIn" "Z") (by decide +kernel)) (fun _ h9 => h9) rfl dX1_isOpenAndClear_16 ?_
      refine lv_if_ne (tgt := 26) hx hb dX1_isOpenAndClear_19 (by decide) (fun c_3 => ?_) (fun c_3 => ?_)
      · have c_3 : ¬ (bp = 0) := c_3
        refine lv_iconst (v := 0) hx hb dX1_isOpenAndClear_26 (by decide) ?_
        exact W.zret (v := 0) (ty := .boolean) hx hb hr rfl (fun t ht hW => ⟨0, rfl, Or.inl rfl, ht⟩) (fun q h => by cases h) dX1_isOpenAndClear_27
      · have c_3 : (bp = 0) := c_3
        refine lv_iconst (v := 1) hx hb dX1_isOpenAndClear_22 (by decide) ?_
        refine lv_goto (tgt := 27) hx hb dX1_isOpenAndClear_23 (by decide) ?_
        exact W.zret (v := 1) (ty := .boolean) hx hb hr rfl (fun t ht hW => ⟨1, rfl, Or.inr rfl, ht⟩) (fun q h => by cases h) dX1_isOpenAndClear_27
set_option maxHeartbeats 4000000 in
set_option maxRecDepth 100000 in
theorem s_isSafe (l : Launch) (dC : Nat → ClassId) (dI : Nat → Nat → Nat) (b : Nat) (bd bt bp bk bf bc : Int32) : Met l yX1_isSafe wsX1_isSafe ({ frames := 0, cells := 0, slots := 0, locals := 0 }) (va_Pc [.ref b] (pt_B (dC, dI) [(b, .inr (0, [.int bd, .int bt, .int bp, .int bk, .int bf, .int bc]))] [])) (vp_Si (fun r : Int32 => r = 0 ∨ r = 1)) 0 0 (fun _ => False) := by
  refine Met.ofW (cc := cX1_isSafe) (maxL := 1) (ret := (some .boolean)) (by decide) rfl ?_
  intro p e s m args below meth c s₁ B hml hv
  obtain ⟨rfl, hP, hK, hN⟩ := hv
  have hx := B.exec
  have hb := B.bytes
  have hr := B.returns
  have hts := atoms_spec (ws := wsX1_isSafe) B.pre
  have hown : s.vm.findClass RX1 = some m.cls := findClass_of_methodNamed B.named
  have hlocks := B.notSynchronized
  have iX1 : ∀ w ∈ wsX10, w ∈ wsX1_isSafe := by decide +kernel
  have hP : va_P (dC, dI) vwCl [(b, .inr (0, [.int bd, .int bt, .int bp, .int bk, .int bf, .int bc]))] s.heap := hP
  have hK : va_K (dC, dI) vwCl [] s := hK
  have hl := lv_entry ([.ref b]) (n := 1) (Nat.le_of_ble_eq_true rfl)
  rw [lg_entry_eq]
  generalize (lg_sl ([.ref b]) ++ List.replicate (1 - (lg_sl ([.ref b])).length) Slot.unset).toArray = ls at hl ⊢
  have hl : lv_has ls 1 [(0, .ref b)] := hl
  refine lv_aload_n hx hb dX1_isSafe_0 rfl (lv_at hl 0 rfl) ?_
  refine va_get (D := (dC, dI)) (ci := 0) (v := .int bd) (C := RX1) (T := TX1) (N := 6) hx hb hts iX1 hown hK hP 0 rfl rfl 0 (by decide) (hts (.fieldLink RX1 9 "ParkTower$Bay" "door" "I") (by decide +kernel)) (fun _ h9 => h9) rfl dX1_isSafe_1 ?_
  refine lv_if_ne (tgt := 18) hx hb dX1_isSafe_4 (by decide) (fun c_1 => ?_) (fun c_1 => ?_)
  · have c_1 : ¬ (bd = 0) := c_1
    refine lv_iconst (v := 0) hx hb dX1_isSafe_18 (by decide) ?_
    exact W.zret (v := 0) (ty := .boolean) hx hb hr rfl (fun t ht hW => ⟨0, rfl, Or.inl rfl, ht⟩) (fun q h => by cases h) dX1_isSafe_19
  · have c_1 : (bd = 0) := c_1
    refine lv_aload_n hx hb dX1_isSafe_7 rfl (lv_at hl 0 rfl) ?_
    refine va_get (D := (dC, dI)) (ci := 0) (v := .int bp) (C := RX1) (T := TX1) (N := 6) hx hb hts iX1 hown hK hP 0 rfl rfl 2 (by decide) (hts (.fieldLink RX1 28 "ParkTower$Bay" "personIn" "Z") (by decide +kernel)) (fun _ h9 => h9) rfl dX1_isSafe_8 ?_
    refine lv_if_ne (tgt := 18) hx hb dX1_isSafe_11 (by decide) (fun c_2 => ?_) (fun c_2 => ?_)
    · have c_2 : ¬ (bp = 0) := c_2
      refine lv_iconst (v := 0) hx hb dX1_isSafe_18 (by decide) ?_
      exact W.zret (v := 0) (ty := .boolean) hx hb hr rfl (fun t ht hW => ⟨0, rfl, Or.inl rfl, ht⟩) (fun q h => by cases h) dX1_isSafe_19
    · have c_2 : (bp = 0) := c_2
      refine lv_iconst (v := 1) hx hb dX1_isSafe_14 (by decide) ?_
      refine lv_goto (tgt := 19) hx hb dX1_isSafe_15 (by decide) ?_
      exact W.zret (v := 1) (ty := .boolean) hx hb hr rfl (fun t ht hW => ⟨1, rfl, Or.inr rfl, ht⟩) (fun q h => by cases h) dX1_isSafe_19
set_option maxHeartbeats 4000000 in
set_option maxRecDepth 100000 in
theorem s_idle1 (l : Launch) (dC : Nat → ClassId) (dI : Nat → Nat → Nat) (j pl : Nat) (jc js jt : Int32) : Met l yX2_isIdle wsX2_isIdle ({ frames := 0, cells := 0, slots := 0, locals := 0 }) (va_Pc [.ref j] (pt_B (dC, dI) [(j, .inr (1, [.ref pl, .int (-1), .int jc, .int js, .int jt]))] [])) (vp_Si (fun r : Int32 => r = 1)) 0 0 (fun _ => False) := by
  refine Met.ofW (cc := cX2_isIdle) (maxL := 1) (ret := (some .boolean)) (by decide) rfl ?_
  intro p e s m args below meth c s₁ B hml hv
  obtain ⟨rfl, hP, hK, hN⟩ := hv
  have hx := B.exec
  have hb := B.bytes
  have hr := B.returns
  have hts := atoms_spec (ws := wsX2_isIdle) B.pre
  have hown : s.vm.findClass RX2 = some m.cls := findClass_of_methodNamed B.named
  have hlocks := B.notSynchronized
  have iX2 : ∀ w ∈ wsX20, w ∈ wsX2_isIdle := by decide +kernel
  have hP : va_P (dC, dI) vwCl [(j, .inr (1, [.ref pl, .int (-1), .int jc, .int js, .int jt]))] s.heap := hP
  have hK : va_K (dC, dI) vwCl [] s := hK
  have hl := lv_entry ([.ref j]) (n := 1) (Nat.le_of_ble_eq_true rfl)
  rw [lg_entry_eq]
  generalize (lg_sl ([.ref j]) ++ List.replicate (1 - (lg_sl ([.ref j])).length) Slot.unset).toArray = ls at hl ⊢
  have hl : lv_has ls 1 [(0, .ref j)] := hl
  refine lv_aload_n hx hb dX2_isIdle_0 rfl (lv_at hl 0 rfl) ?_
  refine va_get (D := (dC, dI)) (ci := 1) (v := .int (-1)) (C := RX2) (T := TX2) (N := 5) hx hb hts iX2 hown hK hP 0 rfl rfl 1 (by decide) (hts (.fieldLink RX2 18 "ParkTower$Job" "order" "I") (by decide +kernel)) (fun _ h9 => h9) rfl dX2_isIdle_1 ?_
  refine lv_iconst (v := (-1)) hx hb dX2_isIdle_4 (by decide) ?_
  refine lv_icmp_ne (tgt := 12) hx hb dX2_isIdle_5 (by decide) (fun c => absurd (by decide) c) (fun _ => ?_)
  refine lv_iconst (v := 1) hx hb dX2_isIdle_8 (by decide) ?_
  refine lv_goto (tgt := 13) hx hb dX2_isIdle_9 (by decide) ?_
  exact W.zret (v := 1) (ty := .boolean) hx hb hr rfl (fun t ht hW => ⟨1, rfl, rfl, ht⟩) (fun q h => by cases h) dX2_isIdle_13
set_option maxHeartbeats 4000000 in
set_option maxRecDepth 100000 in
theorem s_idle0 (l : Launch) (dC : Nat → ClassId) (dI : Nat → Nat → Nat) (j pl : Nat) (jc js jt : Int32) (k : Nat) (hk : k < 24) : Met l yX2_isIdle wsX2_isIdle ({ frames := 0, cells := 0, slots := 0, locals := 0 }) (va_Pc [.ref j] (pt_B (dC, dI) [(j, .inr (1, [.ref pl, .int (nI k), .int jc, .int js, .int jt]))] [])) (vp_Si (fun r : Int32 => r = 0)) 0 0 (fun _ => False) := by
  refine Met.ofW (cc := cX2_isIdle) (maxL := 1) (ret := (some .boolean)) (by decide) rfl ?_
  intro p e s m args below meth c s₁ B hml hv
  obtain ⟨rfl, hP, hK, hN⟩ := hv
  have hx := B.exec
  have hb := B.bytes
  have hr := B.returns
  have hts := atoms_spec (ws := wsX2_isIdle) B.pre
  have hown : s.vm.findClass RX2 = some m.cls := findClass_of_methodNamed B.named
  have hlocks := B.notSynchronized
  have iX2 : ∀ w ∈ wsX20, w ∈ wsX2_isIdle := by decide +kernel
  have hP : va_P (dC, dI) vwCl [(j, .inr (1, [.ref pl, .int (nI k), .int jc, .int js, .int jt]))] s.heap := hP
  have hK : va_K (dC, dI) vwCl [] s := hK
  have hl := lv_entry ([.ref j]) (n := 1) (Nat.le_of_ble_eq_true rfl)
  rw [lg_entry_eq]
  generalize (lg_sl ([.ref j]) ++ List.replicate (1 - (lg_sl ([.ref j])).length) Slot.unset).toArray = ls at hl ⊢
  have hl : lv_has ls 1 [(0, .ref j)] := hl
  have c_9 : ¬ (nI k = (-1)) := pt_nIm (by omega)
  refine lv_aload_n hx hb dX2_isIdle_0 rfl (lv_at hl 0 rfl) ?_
  refine va_get (D := (dC, dI)) (ci := 1) (v := .int (nI k)) (C := RX2) (T := TX2) (N := 5) hx hb hts iX2 hown hK hP 0 rfl rfl 1 (by decide) (hts (.fieldLink RX2 18 "ParkTower$Job" "order" "I") (by decide +kernel)) (fun _ h9 => h9) rfl dX2_isIdle_1 ?_
  refine lv_iconst (v := (-1)) hx hb dX2_isIdle_4 (by decide) ?_
  refine lv_icmp_ne (tgt := 12) hx hb dX2_isIdle_5 (by decide) (fun _ => ?_) (fun c => absurd c (by assumption))
  refine lv_iconst (v := 0) hx hb dX2_isIdle_12 (by decide) ?_
  exact W.zret (v := 0) (ty := .boolean) hx hb hr rfl (fun t ht hW => ⟨0, rfl, rfl, ht⟩) (fun q h => by cases h) dX2_isIdle_13
set_option maxHeartbeats 4000000 in
set_option maxRecDepth 100000 in
theorem s_end (l : Launch) (dC : Nat → ClassId) (dI : Nat → Nat → Nat) (sz : Nat) (j pl : Nat) (jo jc js jt : Int32) : Met l yX2_end wsX2_end ({ frames := 0, cells := 0, slots := 0, locals := 0 }) (va_Pc [.ref j] (pt_BQ (dC, dI) [(j, .inr (1, [.ref pl, .int jo, .int jc, .int js, .int jt]))] [] sz)) (va_Qv (fun (_ : Unit) => True) (fun _ t => pt_at (dC, dI) (va_A [(j, .inr (1, [.ref pl, .int jo, .int jc, .int js, .int jt]))] sz) [(j, .inr (1, [.ref pl, .int (-1), .int jc, .int 0, .int 0]))] [] t) (va_A [(j, .inr (1, [.ref pl, .int jo, .int jc, .int js, .int jt]))] sz)) 0 0 (va_A [(j, .inr (1, [.ref pl, .int jo, .int jc, .int js, .int jt]))] sz) := by
  refine Met.ofW (cc := cX2_end) (maxL := 1) (ret := none) (by decide) rfl ?_
  intro p e s m args below meth c s₁ B hml hv
  obtain ⟨rfl, hsz, hP, hK, hD0, hN⟩ := hv
  have hx := B.exec
  have hb := B.bytes
  have hr := B.returns
  have hts := atoms_spec (ws := wsX2_end) B.pre
  have hown : s.vm.findClass RX2 = some m.cls := findClass_of_methodNamed B.named
  have hlocks := B.notSynchronized
  have iX2 : ∀ w ∈ wsX20, w ∈ wsX2_end := by decide +kernel
  subst hsz
  have hD := hD0.self (sz := s.heap.size)
  generalize hAe : va_A [(j, .inr (1, [.ref pl, .int jo, .int jc, .int js, .int jt]))] s.heap.size = A at hD ⊢
  have hA : ∀ q : Nat, s.heap.size ≤ q → A q := fun q h => by rw [← hAe]; exact Or.inr h
  have hS : va_S A s.heap s.heap [] := va_S.rf
  have hP : va_P (dC, dI) vwCl [(j, .inr (1, [.ref pl, .int jo, .int jc, .int js, .int jt]))] s.heap := hP
  have hK : va_K (dC, dI) vwCl [] s := hK
  have hl := lv_entry ([.ref j]) (n := 1) (Nat.le_of_ble_eq_true rfl)
  rw [lg_entry_eq]
  generalize (lg_sl ([.ref j]) ++ List.replicate (1 - (lg_sl ([.ref j])).length) Slot.unset).toArray = ls at hl ⊢
  have hl : lv_has ls 1 [(0, .ref j)] := hl
  refine lv_aload_n hx hb dX2_end_0 rfl (lv_at hl 0 rfl) ?_
  refine lv_iconst (v := (-1)) hx hb dX2_end_1 (by decide) ?_
  refine va_put (D := (dC, dI)) (ci := 1) (v := .int (-1)) (ty := .int) (C := RX2) (T := TX2) (N := 5) hx hb hts iX2 tyX2 tyX2_ok nmX2 hown hK hP hD hS 0 rfl rfl 1 (by decide) (hts (.fieldLink RX2 18 "ParkTower$Job" "order" "I") (by decide +kernel)) (fun _ h9 => h9) rfl (by decide +kernel) rfl rfl (Nat.le_of_ble_eq_true rfl) dX2_end_2 (fun H locs hP hD hS => ?_)
  have hP : va_P (dC, dI) vwCl [(j, .inr (1, [.ref pl, .int (-1), .int jc, .int js, .int jt]))] H := hP
  have hD : va_D A [(j, .inr (1, [.ref pl, .int (-1), .int jc, .int js, .int jt]))] := hD
  refine lv_aload_n hx hb dX2_end_5 rfl (lv_at hl 0 rfl) ?_
  refine lv_iconst (v := 0) hx hb dX2_end_6 (by decide) ?_
  refine va_put (D := (dC, dI)) (ci := 1) (v := .int 0) (ty := .int) (C := RX2) (T := TX2) (N := 5) hx hb hts iX2 tyX2 tyX2_ok nmX2 hown hK hP hD hS 0 rfl rfl 3 (by decide) (hts (.fieldLink RX2 22 "ParkTower$Job" "stepsEnded" "I") (by decide +kernel)) (fun _ h9 => h9) rfl (by decide +kernel) rfl rfl (Nat.le_of_ble_eq_true rfl) dX2_end_7 (fun H locs hP hD hS => ?_)
  have hP : va_P (dC, dI) vwCl [(j, .inr (1, [.ref pl, .int (-1), .int jc, .int 0, .int jt]))] H := hP
  have hD : va_D A [(j, .inr (1, [.ref pl, .int (-1), .int jc, .int 0, .int jt]))] := hD
  refine lv_aload_n hx hb dX2_end_10 rfl (lv_at hl 0 rfl) ?_
  refine lv_iconst (v := 0) hx hb dX2_end_11 (by decide) ?_
  refine va_put (D := (dC, dI)) (ci := 1) (v := .int 0) (ty := .int) (C := RX2) (T := TX2) (N := 5) hx hb hts iX2 tyX2 tyX2_ok nmX2 hown hK hP hD hS 0 rfl rfl 4 (by decide) (hts (.fieldLink RX2 25 "ParkTower$Job" "ticksLeft" "I") (by decide +kernel)) (fun _ h9 => h9) rfl (by decide +kernel) rfl rfl (Nat.le_of_ble_eq_true rfl) dX2_end_12 (fun H locs hP hD hS => ?_)
  have hP : va_P (dC, dI) vwCl [(j, .inr (1, [.ref pl, .int (-1), .int jc, .int 0, .int 0]))] H := hP
  have hD : va_D A [(j, .inr (1, [.ref pl, .int (-1), .int jc, .int 0, .int 0]))] := hD
  have hP9 := hP.sub (ws' := [(j, .inr (1, [.ref pl, .int (-1), .int jc, .int 0, .int 0]))]) [0] rfl
  have hD9 := hD.sub (ws' := [(j, .inr (1, [.ref pl, .int (-1), .int jc, .int 0, .int 0]))]) [0] (by decide) rfl
  have hK9 := hK.sub (tys' := []) [] rfl
  refine W.widen (k := 0) (n := 0) (by omega) (by omega) ?_
  exact W.vret hx hb hr (fun t ht hW => ⟨⟨(), rfl, trivial, by rw [ht]; exact hP9, va_K.moved hW.alike hK9, hD9⟩, hS.F ht⟩) hS.2.2 dX2_end_15
