set_option maxHeartbeats 4000000 in
set_option maxRecDepth 100000 in
theorem n_Bay (l : Launch) (dC : Nat → ClassId) (dI : Nat → Nat → Nat) (sz : Nat) (h0 : Nat) : Met l yX1_init wsX1_init ({ frames := 1, cells := 0, slots := 0, locals := 20 }) (va_Pc [.ref h0] (pt_BQ (dC, dI) [(h0, .inr (0, [.int 0, .int 0, .int 0, .int 0, .int 0, .int 0]))] [] sz)) (va_Qv (fun (_ : Unit) => True) (fun _ t => pt_at (dC, dI) (va_A [(h0, .inr (0, [.int 0, .int 0, .int 0, .int 0, .int 0, .int 0]))] sz) [(h0, .inr (0, [.int 2, .int 0, .int 0, .int 0, .int 0, .int (-1)]))] [] t) (va_A [(h0, .inr (0, [.int 0, .int 0, .int 0, .int 0, .int 0, .int 0]))] sz)) 0 0 (va_A [(h0, .inr (0, [.int 0, .int 0, .int 0, .int 0, .int 0, .int 0]))] sz) := by
  refine Met.ofW (cc := cX1_init) (maxL := 1) (ret := none) (by decide) rfl ?_
  intro p e s m args below meth c s₁ B hml hv
  obtain ⟨rfl, hsz, hP, hK, hD0, hN⟩ := hv
  have hx := B.exec
  have hb := B.bytes
  have hr := B.returns
  have hts := atoms_spec (ws := wsX1_init) B.pre
  have hown : s.vm.findClass RX1 = some m.cls := findClass_of_methodNamed B.named
  have hlocks := B.notSynchronized
  have hin : meth.name = "<init>" := (name_of_methodNamed B.named B.method).1
  have iX1 : ∀ w ∈ wsX10, w ∈ wsX1_init := by decide +kernel
  subst hsz
  have hD := hD0.self (sz := s.heap.size)
  generalize hAe : va_A [(h0, .inr (0, [.int 0, .int 0, .int 0, .int 0, .int 0, .int 0]))] s.heap.size = A at hD ⊢
  have hA : ∀ q : Nat, s.heap.size ≤ q → A q := fun q h => by rw [← hAe]; exact Or.inr h
  have hS : va_S A s.heap s.heap [] := va_S.rf
  have hP : va_P (dC, dI) vwCl [(h0, .inr (0, [.int 0, .int 0, .int 0, .int 0, .int 0, .int 0]))] s.heap := hP
  have hK : va_K (dC, dI) vwCl [] s := hK
  have hl := lv_entry ([.ref h0]) (n := 1) (Nat.le_of_ble_eq_true rfl)
  rw [lg_entry_eq]
  generalize (lg_sl ([.ref h0]) ++ List.replicate (1 - (lg_sl ([.ref h0])).length) Slot.unset).toArray = ls at hl ⊢
  have hl : lv_has ls 1 [(0, .ref h0)] := hl
  refine lv_aload_n hx hb dX1_init_0 rfl (lv_at hl 0 rfl) ?_
  refine W.objInit hx hb hown (hts (.methodLink RX1 3 objectInit) (by decide +kernel)) (hts (.instanceMethod objectInit) (by decide +kernel)) (hts (.code objectInit ⟨#[0xb1]⟩ 1 none) (by decide +kernel)) rfl (by rw [hml]; exact hl.1) rfl dX1_init_1 (Nat.le_of_ble_eq_true rfl) (Nat.le_of_ble_eq_true rfl) ?_
  refine W.eq (g2 := F0 m 4 ls []) rfl ?_
  refine lv_aload_n hx hb dX1_init_4 rfl (lv_at hl 0 rfl) ?_
  refine lv_iconst (v := 2) hx hb dX1_init_5 (by decide) ?_
  refine va_put (D := (dC, dI)) (ci := 0) (v := .int 2) (ty := .int) (C := RX1) (T := TX1) (N := 6) hx hb hts iX1 tyX1 tyX1_ok nmX1 hown hK hP hD hS 0 rfl rfl 0 (by decide) (hts (.fieldLink RX1 9 "ParkTower$Bay" "door" "I") (by decide +kernel)) (fun _ h9 => h9) rfl (by decide +kernel) rfl rfl (Nat.le_of_ble_eq_true rfl) dX1_init_6 (fun H locs hP hD hS => ?_)
  have hP : va_P (dC, dI) vwCl [(h0, .inr (0, [.int 2, .int 0, .int 0, .int 0, .int 0, .int 0]))] H := hP
  have hD : va_D A [(h0, .inr (0, [.int 2, .int 0, .int 0, .int 0, .int 0, .int 0]))] := hD
  refine lv_aload_n hx hb dX1_init_9 rfl (lv_at hl 0 rfl) ?_
  refine lv_iconst (v := (-1)) hx hb dX1_init_10 (by decide) ?_
  refine va_put (D := (dC, dI)) (ci := 0) (v := .int (-1)) (ty := .int) (C := RX1) (T := TX1) (N := 6) hx hb hts iX1 tyX1 tyX1_ok nmX1 hown hK hP hD hS 0 rfl rfl 5 (by decide) (hts (.fieldLink RX1 15 "ParkTower$Bay" "keptCell" "I") (by decide +kernel)) (fun _ h9 => h9) rfl (by decide +kernel) rfl rfl (Nat.le_of_ble_eq_true rfl) dX1_init_11 (fun H locs hP hD hS => ?_)
  have hP : va_P (dC, dI) vwCl [(h0, .inr (0, [.int 2, .int 0, .int 0, .int 0, .int 0, .int (-1)]))] H := hP
  have hD : va_D A [(h0, .inr (0, [.int 2, .int 0, .int 0, .int 0, .int 0, .int (-1)]))] := hD
  have hP9 := hP.sub (ws' := [(h0, .inr (0, [.int 2, .int 0, .int 0, .int 0, .int 0, .int (-1)]))]) [0] rfl
  have hD9 := hD.sub (ws' := [(h0, .inr (0, [.int 2, .int 0, .int 0, .int 0, .int 0, .int (-1)]))]) [0] (by decide) rfl
  have hK9 := hK.sub (tys' := []) [] rfl
  refine W.widen (k := 0) (n := 0) (by omega) (by omega) ?_
  exact W.vret hx hb hr (fun t ht hW => ⟨⟨(), rfl, trivial, by rw [ht]; exact hP9, va_K.moved hW.alike hK9, hD9⟩, hS.F ht⟩) hS.2.2 dX1_init_14
set_option maxHeartbeats 4000000 in
set_option maxRecDepth 100000 in
theorem n_Rack (l : Launch) (dC : Nat → ClassId) (dI : Nat → Nat → Nat) (sz : Nat) (h0 : Nat) : Met l yX5_init wsX5_init ({ frames := 1, cells := 2, slots := 100, locals := 20 }) (va_Pc [.ref h0] (pt_BQ (dC, dI) [(h0, .inr (4, [.null, .null]))] [] sz)) (va_Qv (fun (_ : Unit) => True) (fun _ t => ∃ (q1 q2 : Nat) (y1 y2 : ClassId), pt_at (dC, dI) (va_A [(h0, .inr (4, [.null, .null]))] sz) [(h0, .inr (4, [.ref q1, .ref q2])), (q1, .inl (y1, 96, .inl (fun _ => 0))), (q2, .inl (y2, 4, .inl (fun _ => 0)))] [(y1, .int), (y2, .boolean)] t) (va_A [(h0, .inr (4, [.null, .null]))] sz)) 2 100 (va_A [(h0, .inr (4, [.null, .null]))] sz) := by
  refine Met.ofW (cc := cX5_init) (maxL := 1) (ret := none) (by decide) rfl ?_
  intro p e s m args below meth c s₁ B hml hv
  obtain ⟨rfl, hsz, hP, hK, hD0, hN⟩ := hv
  have hx := B.exec
  have hb := B.bytes
  have hr := B.returns
  have hts := atoms_spec (ws := wsX5_init) B.pre
  have hown : s.vm.findClass RX5 = some m.cls := findClass_of_methodNamed B.named
  have hlocks := B.notSynchronized
  have hin : meth.name = "<init>" := (name_of_methodNamed B.named B.method).1
  have iX5 : ∀ w ∈ wsX50, w ∈ wsX5_init := by decide +kernel
  subst hsz
  have hD := hD0.self (sz := s.heap.size)
  generalize hAe : va_A [(h0, .inr (4, [.null, .null]))] s.heap.size = A at hD ⊢
  have hA : ∀ q : Nat, s.heap.size ≤ q → A q := fun q h => by rw [← hAe]; exact Or.inr h
  have hS : va_S A s.heap s.heap [] := va_S.rf
  have hP : va_P (dC, dI) vwCl [(h0, .inr (4, [.null, .null]))] s.heap := hP
  have hK : va_K (dC, dI) vwCl [] s := hK
  have hl := lv_entry ([.ref h0]) (n := 1) (Nat.le_of_ble_eq_true rfl)
  rw [lg_entry_eq]
  generalize (lg_sl ([.ref h0]) ++ List.replicate (1 - (lg_sl ([.ref h0])).length) Slot.unset).toArray = ls at hl ⊢
  have hl : lv_has ls 1 [(0, .ref h0)] := hl
  refine lv_aload_n hx hb dX5_init_0 rfl (lv_at hl 0 rfl) ?_
  refine W.objInit hx hb hown (hts (.methodLink RX5 3 objectInit) (by decide +kernel)) (hts (.instanceMethod objectInit) (by decide +kernel)) (hts (.code objectInit ⟨#[0xb1]⟩ 1 none) (by decide +kernel)) rfl (by rw [hml]; exact hl.1) rfl dX5_init_1 (Nat.le_of_ble_eq_true rfl) (Nat.le_of_ble_eq_true rfl) ?_
  refine W.eq (g2 := F0 m 4 ls []) rfl ?_
  refine lv_aload_n hx hb dX5_init_4 rfl (lv_at hl 0 rfl) ?_
  refine lv_bipush (v := 96) hx hb dX5_init_5 (by decide) ?_
  refine va_newa (atype := .int) (ty := .int) (a0 := (96, .inl (fun _ => 0))) (N' := 96) hx hb (hts (.arrayClass .int) (by decide +kernel)) rfl hK hP hD hS hA (fun _ => rfl) (by decide) (show Int32.toNatClampNeg 96 = 96 by decide) (by decide) (Nat.le_of_ble_eq_true rfl) (Nat.le_of_ble_eq_true rfl) dX5_init_7 (fun q_1 y_1 H hK hP hD hS => ?_)
  have hP : va_P (dC, dI) vwCl [(h0, .inr (4, [.null, .null])), (q_1, .inl (y_1, 96, .inl (fun _ => 0)))] H := hP
  have hD : va_D A [(h0, .inr (4, [.null, .null])), (q_1, .inl (y_1, 96, .inl (fun _ => 0)))] := hD
  have hK : va_K (dC, dI) vwCl [(y_1, .int)] s := hK
  refine W.widen (k := 1) (n := 96) (by omega) (by omega) ?_
  refine va_putF (D := (dC, dI)) (ci := 4) (v := .ref q_1) (ty := .array .int) (C := RX5) (T := TX5) (N := 2) hx hb hts iX5 tyX5 tyX5_ok nmX5 hown hK hP hD hS 0 rfl rfl 0 (by decide) (hts (.fieldLink RX5 9 "ParkTower$Rack" "held" "[I") (by decide +kernel)) (fun _ h9 => h9) rfl hin rfl (by decide +kernel) rfl rfl (Nat.le_of_ble_eq_true rfl) dX5_init_9 (fun H locs hP hD hS => ?_)
  have hP : va_P (dC, dI) vwCl [(h0, .inr (4, [.ref q_1, .null])), (q_1, .inl (y_1, 96, .inl (fun _ => 0)))] H := hP
  have hD : va_D A [(h0, .inr (4, [.ref q_1, .null])), (q_1, .inl (y_1, 96, .inl (fun _ => 0)))] := hD
  refine lv_aload_n hx hb dX5_init_12 rfl (lv_at hl 0 rfl) ?_
  refine lv_iconst (v := 4) hx hb dX5_init_13 (by decide) ?_
  refine va_newa (atype := .boolean) (ty := .boolean) (a0 := (4, .inl (fun _ => 0))) (N' := 4) hx hb (hts (.arrayClass .boolean) (by decide +kernel)) rfl hK hP hD hS hA (fun _ => rfl) (by decide) (show Int32.toNatClampNeg 4 = 4 by decide) (by decide) (Nat.le_of_ble_eq_true rfl) (Nat.le_of_ble_eq_true rfl) dX5_init_14 (fun q_2 y_2 H hK hP hD hS => ?_)
  have hP : va_P (dC, dI) vwCl [(h0, .inr (4, [.ref q_1, .null])), (q_1, .inl (y_1, 96, .inl (fun _ => 0))), (q_2, .inl (y_2, 4, .inl (fun _ => 0)))] H := hP
  have hD : va_D A [(h0, .inr (4, [.ref q_1, .null])), (q_1, .inl (y_1, 96, .inl (fun _ => 0))), (q_2, .inl (y_2, 4, .inl (fun _ => 0)))] := hD
  have hK : va_K (dC, dI) vwCl [(y_1, .int), (y_2, .boolean)] s := hK
  refine W.widen (k := 2) (n := 100) (by omega) (by omega) ?_
  refine va_putF (D := (dC, dI)) (ci := 4) (v := .ref q_2) (ty := .array .boolean) (C := RX5) (T := TX5) (N := 2) hx hb hts iX5 tyX5 tyX5_ok nmX5 hown hK hP hD hS 0 rfl rfl 1 (by decide) (hts (.fieldLink RX5 15 "ParkTower$Rack" "jammed" "[Z") (by decide +kernel)) (fun _ h9 => h9) rfl hin rfl (by decide +kernel) rfl rfl (Nat.le_of_ble_eq_true rfl) dX5_init_16 (fun H locs hP hD hS => ?_)
  have hP : va_P (dC, dI) vwCl [(h0, .inr (4, [.ref q_1, .ref q_2])), (q_1, .inl (y_1, 96, .inl (fun _ => 0))), (q_2, .inl (y_2, 4, .inl (fun _ => 0)))] H := hP
  have hD : va_D A [(h0, .inr (4, [.ref q_1, .ref q_2])), (q_1, .inl (y_1, 96, .inl (fun _ => 0))), (q_2, .inl (y_2, 4, .inl (fun _ => 0)))] := hD
  have hP9 := hP.sub (ws' := [(h0, .inr (4, [.ref q_1, .ref q_2])), (q_1, .inl (y_1, 96, .inl (fun _ => 0))), (q_2, .inl (y_2, 4, .inl (fun _ => 0)))]) [0, 1, 2] rfl
  have hD9 := hD.sub (ws' := [(h0, .inr (4, [.ref q_1, .ref q_2])), (q_1, .inl (y_1, 96, .inl (fun _ => 0))), (q_2, .inl (y_2, 4, .inl (fun _ => 0)))]) [0, 1, 2] (by decide) rfl
  have hK9 := hK.sub (tys' := [(y_1, .int), (y_2, .boolean)]) [0, 1] rfl
  refine W.widen (k := 2) (n := 100) (by omega) (by omega) ?_
  exact W.vret hx hb hr (fun t ht hW => ⟨⟨(), rfl, trivial, q_1, q_2, y_1, y_2, by rw [ht]; exact hP9, va_K.moved hW.alike hK9, hD9⟩, hS.F ht⟩) hS.2.2 dX5_init_19
set_option maxHeartbeats 4000000 in
set_option maxRecDepth 100000 in
theorem n_Orders (l : Launch) (dC : Nat → ClassId) (dI : Nat → Nat → Nat) (sz : Nat) (h0 : Nat) : Met l yX3_init wsX3_init ({ frames := 1, cells := 3, slots := 72, locals := 20 }) (va_Pc [.ref h0] (pt_BQ (dC, dI) [(h0, .inr (2, [.null, .null, .null, .int 0]))] [] sz)) (va_Qv (fun (_ : Unit) => True) (fun _ t => ∃ (q1 q2 q3 : Nat), pt_at (dC, dI) (va_A [(h0, .inr (2, [.null, .null, .null, .int 0]))] sz) [(h0, .inr (2, [.ref q1, .ref q2, .ref q3, .int 0]))] [] t) (va_A [(h0, .inr (2, [.null, .null, .null, .int 0]))] sz)) 3 72 (va_A [(h0, .inr (2, [.null, .null, .null, .int 0]))] sz) := by
  refine Met.ofW (cc := cX3_init) (maxL := 1) (ret := none) (by decide) rfl ?_
  intro p e s m args below meth c s₁ B hml hv
  obtain ⟨rfl, hsz, hP, hK, hD0, hN⟩ := hv
  have hx := B.exec
  have hb := B.bytes
  have hr := B.returns
  have hts := atoms_spec (ws := wsX3_init) B.pre
  have hown : s.vm.findClass RX3 = some m.cls := findClass_of_methodNamed B.named
  have hlocks := B.notSynchronized
  have hin : meth.name = "<init>" := (name_of_methodNamed B.named B.method).1
  have iX3 : ∀ w ∈ wsX30, w ∈ wsX3_init := by decide +kernel
  subst hsz
  have hD := hD0.self (sz := s.heap.size)
  generalize hAe : va_A [(h0, .inr (2, [.null, .null, .null, .int 0]))] s.heap.size = A at hD ⊢
  have hA : ∀ q : Nat, s.heap.size ≤ q → A q := fun q h => by rw [← hAe]; exact Or.inr h
  have hS : va_S A s.heap s.heap [] := va_S.rf
  have hP : va_P (dC, dI) vwCl [(h0, .inr (2, [.null, .null, .null, .int 0]))] s.heap := hP
  have hK : va_K (dC, dI) vwCl [] s := hK
  have hl := lv_entry ([.ref h0]) (n := 1) (Nat.le_of_ble_eq_true rfl)
  rw [lg_entry_eq]
  generalize (lg_sl ([.ref h0]) ++ List.replicate (1 - (lg_sl ([.ref h0])).length) Slot.unset).toArray = ls at hl ⊢
  have hl : lv_has ls 1 [(0, .ref h0)] := hl
  refine lv_aload_n hx hb dX3_init_0 rfl (lv_at hl 0 rfl) ?_
  refine W.objInit hx hb hown (hts (.methodLink RX3 3 objectInit) (by decide +kernel)) (hts (.instanceMethod objectInit) (by decide +kernel)) (hts (.code objectInit ⟨#[0xb1]⟩ 1 none) (by decide +kernel)) rfl (by rw [hml]; exact hl.1) rfl dX3_init_1 (Nat.le_of_ble_eq_true rfl) (Nat.le_of_ble_eq_true rfl) ?_
  refine W.eq (g2 := F0 m 4 ls []) rfl ?_
  refine lv_aload_n hx hb dX3_init_4 rfl (lv_at hl 0 rfl) ?_
  refine lv_bipush (v := 24) hx hb dX3_init_5 (by decide) ?_
  refine va_newa (atype := .int) (ty := .int) (a0 := (24, .inl (fun _ => 0))) (N' := 24) hx hb (hts (.arrayClass .int) (by decide +kernel)) rfl hK hP hD hS hA (fun _ => rfl) (by decide) (show Int32.toNatClampNeg 24 = 24 by decide) (by decide) (Nat.le_of_ble_eq_true rfl) (Nat.le_of_ble_eq_true rfl) dX3_init_7 (fun q_1 y_1 H hK hP hD hS => ?_)
  have hP : va_P (dC, dI) vwCl [(h0, .inr (2, [.null, .null, .null, .int 0])), (q_1, .inl (y_1, 24, .inl (fun _ => 0)))] H := hP
  have hD : va_D A [(h0, .inr (2, [.null, .null, .null, .int 0])), (q_1, .inl (y_1, 24, .inl (fun _ => 0)))] := hD
  have hK : va_K (dC, dI) vwCl [(y_1, .int)] s := hK
  refine W.widen (k := 1) (n := 24) (by omega) (by omega) ?_
  refine va_putF (D := (dC, dI)) (ci := 2) (v := .ref q_1) (ty := .array .int) (C := RX3) (T := TX3) (N := 4) hx hb hts iX3 tyX3 tyX3_ok nmX3 hown hK hP hD hS 0 rfl rfl 0 (by decide) (hts (.fieldLink RX3 9 "ParkTower$Orders" "tickets" "[I") (by decide +kernel)) (fun _ h9 => h9) rfl hin rfl (by decide +kernel) rfl rfl (Nat.le_of_ble_eq_true rfl) dX3_init_9 (fun H locs hP hD hS => ?_)
  have hP : va_P (dC, dI) vwCl [(h0, .inr (2, [.ref q_1, .null, .null, .int 0])), (q_1, .inl (y_1, 24, .inl (fun _ => 0)))] H := hP
  have hD : va_D A [(h0, .inr (2, [.ref q_1, .null, .null, .int 0])), (q_1, .inl (y_1, 24, .inl (fun _ => 0)))] := hD
  refine lv_aload_n hx hb dX3_init_12 rfl (lv_at hl 0 rfl) ?_
  refine lv_bipush (v := 24) hx hb dX3_init_13 (by decide) ?_
  refine va_newa (atype := .int) (ty := .int) (a0 := (24, .inl (fun _ => 0))) (N' := 24) hx hb (hts (.arrayClass .int) (by decide +kernel)) rfl hK hP hD hS hA (fun _ => rfl) (by decide) (show Int32.toNatClampNeg 24 = 24 by decide) (by decide) (Nat.le_of_ble_eq_true rfl) (Nat.le_of_ble_eq_true rfl) dX3_init_15 (fun q_2 y_2 H hK hP hD hS => ?_)
  have hP : va_P (dC, dI) vwCl [(h0, .inr (2, [.ref q_1, .null, .null, .int 0])), (q_1, .inl (y_1, 24, .inl (fun _ => 0))), (q_2, .inl (y_2, 24, .inl (fun _ => 0)))] H := hP
  have hD : va_D A [(h0, .inr (2, [.ref q_1, .null, .null, .int 0])), (q_1, .inl (y_1, 24, .inl (fun _ => 0))), (q_2, .inl (y_2, 24, .inl (fun _ => 0)))] := hD
  have hK : va_K (dC, dI) vwCl [(y_1, .int), (y_2, .int)] s := hK
  refine W.widen (k := 2) (n := 48) (by omega) (by omega) ?_
  refine va_putF (D := (dC, dI)) (ci := 2) (v := .ref q_2) (ty := .array .int) (C := RX3) (T := TX3) (N := 4) hx hb hts iX3 tyX3 tyX3_ok nmX3 hown hK hP hD hS 0 rfl rfl 1 (by decide) (hts (.fieldLink RX3 15 "ParkTower$Orders" "bays" "[I") (by decide +kernel)) (fun _ h9 => h9) rfl hin rfl (by decide +kernel) rfl rfl (Nat.le_of_ble_eq_true rfl) dX3_init_17 (fun H locs hP hD hS => ?_)
  have hP : va_P (dC, dI) vwCl [(h0, .inr (2, [.ref q_1, .ref q_2, .null, .int 0])), (q_1, .inl (y_1, 24, .inl (fun _ => 0))), (q_2, .inl (y_2, 24, .inl (fun _ => 0)))] H := hP
  have hD : va_D A [(h0, .inr (2, [.ref q_1, .ref q_2, .null, .int 0])), (q_1, .inl (y_1, 24, .inl (fun _ => 0))), (q_2, .inl (y_2, 24, .inl (fun _ => 0)))] := hD
  refine lv_aload_n hx hb dX3_init_20 rfl (lv_at hl 0 rfl) ?_
  refine lv_bipush (v := 24) hx hb dX3_init_21 (by decide) ?_
  refine va_newa (atype := .int) (ty := .int) (a0 := (24, .inl (fun _ => 0))) (N' := 24) hx hb (hts (.arrayClass .int) (by decide +kernel)) rfl hK hP hD hS hA (fun _ => rfl) (by decide) (show Int32.toNatClampNeg 24 = 24 by decide) (by decide) (Nat.le_of_ble_eq_true rfl) (Nat.le_of_ble_eq_true rfl) dX3_init_23 (fun q_3 y_3 H hK hP hD hS => ?_)
  have hP : va_P (dC, dI) vwCl [(h0, .inr (2, [.ref q_1, .ref q_2, .null, .int 0])), (q_1, .inl (y_1, 24, .inl (fun _ => 0))), (q_2, .inl (y_2, 24, .inl (fun _ => 0))), (q_3, .inl (y_3, 24, .inl (fun _ => 0)))] H := hP
  have hD : va_D A [(h0, .inr (2, [.ref q_1, .ref q_2, .null, .int 0])), (q_1, .inl (y_1, 24, .inl (fun _ => 0))), (q_2, .inl (y_2, 24, .inl (fun _ => 0))), (q_3, .inl (y_3, 24, .inl (fun _ => 0)))] := hD
  have hK : va_K (dC, dI) vwCl [(y_1, .int), (y_2, .int), (y_3, .int)] s := hK
  refine W.widen (k := 3) (n := 72) (by omega) (by omega) ?_
  refine va_putF (D := (dC, dI)) (ci := 2) (v := .ref q_3) (ty := .array .int) (C := RX3) (T := TX3) (N := 4) hx hb hts iX3 tyX3 tyX3_ok nmX3 hown hK hP hD hS 0 rfl rfl 2 (by decide) (hts (.fieldLink RX3 18 "ParkTower$Orders" "keptCells" "[I") (by decide +kernel)) (fun _ h9 => h9) rfl hin rfl (by decide +kernel) rfl rfl (Nat.le_of_ble_eq_true rfl) dX3_init_25 (fun H locs hP hD hS => ?_)
  have hP : va_P (dC, dI) vwCl [(h0, .inr (2, [.ref q_1, .ref q_2, .ref q_3, .int 0])), (q_1, .inl (y_1, 24, .inl (fun _ => 0))), (q_2, .inl (y_2, 24, .inl (fun _ => 0))), (q_3, .inl (y_3, 24, .inl (fun _ => 0)))] H := hP
  have hD : va_D A [(h0, .inr (2, [.ref q_1, .ref q_2, .ref q_3, .int 0])), (q_1, .inl (y_1, 24, .inl (fun _ => 0))), (q_2, .inl (y_2, 24, .inl (fun _ => 0))), (q_3, .inl (y_3, 24, .inl (fun _ => 0)))] := hD
  have hP9 := hP.sub (ws' := [(h0, .inr (2, [.ref q_1, .ref q_2, .ref q_3, .int 0]))]) [0] rfl
  have hD9 := hD.sub (ws' := [(h0, .inr (2, [.ref q_1, .ref q_2, .ref q_3, .int 0]))]) [0] (by decide) rfl
  have hK9 := hK.sub (tys' := []) [] rfl
  refine W.widen (k := 3) (n := 72) (by omega) (by omega) ?_
  exact W.vret hx hb hr (fun t ht hW => ⟨⟨(), rfl, trivial, q_1, q_2, q_3, by rw [ht]; exact hP9, va_K.moved hW.alike hK9, hD9⟩, hS.F ht⟩) hS.2.2 dX3_init_28
set_option maxHeartbeats 4000000 in
set_option maxRecDepth 100000 in
theorem n_Plan (l : Launch) (dC : Nat → ClassId) (dI : Nat → Nat → Nat) (sz : Nat) (h0 : Nat) : Met l yX4_init wsX4_init ({ frames := 1, cells := 2, slots := 4, locals := 20 }) (va_Pc [.ref h0] (pt_BQ (dC, dI) [(h0, .inr (3, [.null, .null, .int 0]))] [] sz)) (va_Qv (fun (_ : Unit) => True) (fun _ t => pt_at (dC, dI) (va_A [(h0, .inr (3, [.null, .null, .int 0]))] sz) [] [] t) (va_A [(h0, .inr (3, [.null, .null, .int 0]))] sz)) 2 4 (va_A [(h0, .inr (3, [.null, .null, .int 0]))] sz) := by
  refine Met.ofW (cc := cX4_init) (maxL := 1) (ret := none) (by decide) rfl ?_
  intro p e s m args below meth c s₁ B hml hv
  obtain ⟨rfl, hsz, hP, hK, hD0, hN⟩ := hv
  have hx := B.exec
  have hb := B.bytes
  have hr := B.returns
  have hts := atoms_spec (ws := wsX4_init) B.pre
  have hown : s.vm.findClass RX4 = some m.cls := findClass_of_methodNamed B.named
  have hlocks := B.notSynchronized
  have hin : meth.name = "<init>" := (name_of_methodNamed B.named B.method).1
  have iX4 : ∀ w ∈ wsX40, w ∈ wsX4_init := by decide +kernel
  subst hsz
  have hD := hD0.self (sz := s.heap.size)
  generalize hAe : va_A [(h0, .inr (3, [.null, .null, .int 0]))] s.heap.size = A at hD ⊢
  have hA : ∀ q : Nat, s.heap.size ≤ q → A q := fun q h => by rw [← hAe]; exact Or.inr h
  have hS : va_S A s.heap s.heap [] := va_S.rf
  have hP : va_P (dC, dI) vwCl [(h0, .inr (3, [.null, .null, .int 0]))] s.heap := hP
  have hK : va_K (dC, dI) vwCl [] s := hK
  have hl := lv_entry ([.ref h0]) (n := 1) (Nat.le_of_ble_eq_true rfl)
  rw [lg_entry_eq]
  generalize (lg_sl ([.ref h0]) ++ List.replicate (1 - (lg_sl ([.ref h0])).length) Slot.unset).toArray = ls at hl ⊢
  have hl : lv_has ls 1 [(0, .ref h0)] := hl
  refine lv_aload_n hx hb dX4_init_0 rfl (lv_at hl 0 rfl) ?_
  refine W.objInit hx hb hown (hts (.methodLink RX4 3 objectInit) (by decide +kernel)) (hts (.instanceMethod objectInit) (by decide +kernel)) (hts (.code objectInit ⟨#[0xb1]⟩ 1 none) (by decide +kernel)) rfl (by rw [hml]; exact hl.1) rfl dX4_init_1 (Nat.le_of_ble_eq_true rfl) (Nat.le_of_ble_eq_true rfl) ?_
  refine W.eq (g2 := F0 m 4 ls []) rfl ?_
  refine lv_aload_n hx hb dX4_init_4 rfl (lv_at hl 0 rfl) ?_
  refine lv_iconst (v := 2) hx hb dX4_init_5 (by decide) ?_
  refine va_newa (atype := .int) (ty := .int) (a0 := (2, .inl (fun _ => 0))) (N' := 2) hx hb (hts (.arrayClass .int) (by decide +kernel)) rfl hK hP hD hS hA (fun _ => rfl) (by decide) (show Int32.toNatClampNeg 2 = 2 by decide) (by decide) (Nat.le_of_ble_eq_true rfl) (Nat.le_of_ble_eq_true rfl) dX4_init_6 (fun q_1 y_1 H hK hP hD hS => ?_)
  have hP : va_P (dC, dI) vwCl [(h0, .inr (3, [.null, .null, .int 0])), (q_1, .inl (y_1, 2, .inl (fun _ => 0)))] H := hP
  have hD : va_D A [(h0, .inr (3, [.null, .null, .int 0])), (q_1, .inl (y_1, 2, .inl (fun _ => 0)))] := hD
  have hK : va_K (dC, dI) vwCl [(y_1, .int)] s := hK
  refine W.widen (k := 1) (n := 2) (by omega) (by omega) ?_
  refine va_putF (D := (dC, dI)) (ci := 3) (v := .ref q_1) (ty := .array .int) (C := RX4) (T := TX4) (N := 3) hx hb hts iX4 tyX4 tyX4_ok nmX4 hown hK hP hD hS 0 rfl rfl 0 (by decide) (hts (.fieldLink RX4 11 "ParkTower$Plan" "from" "[I") (by decide +kernel)) (fun _ h9 => h9) rfl hin rfl (by decide +kernel) rfl rfl (Nat.le_of_ble_eq_true rfl) dX4_init_8 (fun H locs hP hD hS => ?_)
  have hP : va_P (dC, dI) vwCl [(h0, .inr (3, [.ref q_1, .null, .int 0])), (q_1, .inl (y_1, 2, .inl (fun _ => 0)))] H := hP
  have hD : va_D A [(h0, .inr (3, [.ref q_1, .null, .int 0])), (q_1, .inl (y_1, 2, .inl (fun _ => 0)))] := hD
  refine lv_aload_n hx hb dX4_init_11 rfl (lv_at hl 0 rfl) ?_
  refine lv_iconst (v := 2) hx hb dX4_init_12 (by decide) ?_
  refine va_newa (atype := .int) (ty := .int) (a0 := (2, .inl (fun _ => 0))) (N' := 2) hx hb (hts (.arrayClass .int) (by decide +kernel)) rfl hK hP hD hS hA (fun _ => rfl) (by decide) (show Int32.toNatClampNeg 2 = 2 by decide) (by decide) (Nat.le_of_ble_eq_true rfl) (Nat.le_of_ble_eq_true rfl) dX4_init_13 (fun q_2 y_2 H hK hP hD hS => ?_)
  have hP : va_P (dC, dI) vwCl [(h0, .inr (3, [.ref q_1, .null, .int 0])), (q_1, .inl (y_1, 2, .inl (fun _ => 0))), (q_2, .inl (y_2, 2, .inl (fun _ => 0)))] H := hP
  have hD : va_D A [(h0, .inr (3, [.ref q_1, .null, .int 0])), (q_1, .inl (y_1, 2, .inl (fun _ => 0))), (q_2, .inl (y_2, 2, .inl (fun _ => 0)))] := hD
  have hK : va_K (dC, dI) vwCl [(y_1, .int), (y_2, .int)] s := hK
  refine W.widen (k := 2) (n := 4) (by omega) (by omega) ?_
  refine va_putF (D := (dC, dI)) (ci := 3) (v := .ref q_2) (ty := .array .int) (C := RX4) (T := TX4) (N := 3) hx hb hts iX4 tyX4 tyX4_ok nmX4 hown hK hP hD hS 0 rfl rfl 1 (by decide) (hts (.fieldLink RX4 15 "ParkTower$Plan" "to" "[I") (by decide +kernel)) (fun _ h9 => h9) rfl hin rfl (by decide +kernel) rfl rfl (Nat.le_of_ble_eq_true rfl) dX4_init_15 (fun H locs hP hD hS => ?_)
  have hP : va_P (dC, dI) vwCl [(h0, .inr (3, [.ref q_1, .ref q_2, .int 0])), (q_1, .inl (y_1, 2, .inl (fun _ => 0))), (q_2, .inl (y_2, 2, .inl (fun _ => 0)))] H := hP
  have hD : va_D A [(h0, .inr (3, [.ref q_1, .ref q_2, .int 0])), (q_1, .inl (y_1, 2, .inl (fun _ => 0))), (q_2, .inl (y_2, 2, .inl (fun _ => 0)))] := hD
  have hP9 := hP.sub (ws' := []) [] rfl
  have hD9 := hD.sub (ws' := []) [] (by decide) rfl
  have hK9 := hK.sub (tys' := []) [] rfl
  refine W.widen (k := 2) (n := 4) (by omega) (by omega) ?_
  exact W.vret hx hb hr (fun t ht hW => ⟨⟨(), rfl, trivial, by rw [ht]; exact hP9, va_K.moved hW.alike hK9, hD9⟩, hS.F ht⟩) hS.2.2 dX4_init_18
set_option maxHeartbeats 4000000 in
set_option maxRecDepth 100000 in
theorem n_Job (l : Launch) (dC : Nat → ClassId) (dI : Nat → Nat → Nat) (sz : Nat) (h0 : Nat) : Met l yX2_init wsX2_init ({ frames := 2, cells := 3, slots := 7, locals := 40 }) (va_Pc [.ref h0] (pt_BQ (dC, dI) [(h0, .inr (1, [.null, .int 0, .int 0, .int 0, .int 0]))] [] sz)) (va_Qv (fun (_ : Unit) => True) (fun _ t => ∃ (q1 : Nat), pt_at (dC, dI) (va_A [(h0, .inr (1, [.null, .int 0, .int 0, .int 0, .int 0]))] sz) [(h0, .inr (1, [.ref q1, .int (-1), .int 0, .int 0, .int 0]))] [] t) (va_A [(h0, .inr (1, [.null, .int 0, .int 0, .int 0, .int 0]))] sz)) 3 7 (va_A [(h0, .inr (1, [.null, .int 0, .int 0, .int 0, .int 0]))] sz) := by
  refine Met.ofW (cc := cX2_init) (maxL := 1) (ret := none) (by decide) rfl ?_
  intro p e s m args below meth c s₁ B hml hv
  obtain ⟨rfl, hsz, hP, hK, hD0, hN⟩ := hv
  have hx := B.exec
  have hb := B.bytes
  have hr := B.returns
  have hts := atoms_spec (ws := wsX2_init) B.pre
  have hown : s.vm.findClass RX2 = some m.cls := findClass_of_methodNamed B.named
  have hlocks := B.notSynchronized
  have hin : meth.name = "<init>" := (name_of_methodNamed B.named B.method).1
  have iX2 : ∀ w ∈ wsX20, w ∈ wsX2_init := by decide +kernel
  have iX4 : ∀ w ∈ wsX40, w ∈ wsX2_init := by decide +kernel
  subst hsz
  have hD := hD0.self (sz := s.heap.size)
  generalize hAe : va_A [(h0, .inr (1, [.null, .int 0, .int 0, .int 0, .int 0]))] s.heap.size = A at hD ⊢
  have hA : ∀ q : Nat, s.heap.size ≤ q → A q := fun q h => by rw [← hAe]; exact Or.inr h
  have hS : va_S A s.heap s.heap [] := va_S.rf
  have hP : va_P (dC, dI) vwCl [(h0, .inr (1, [.null, .int 0, .int 0, .int 0, .int 0]))] s.heap := hP
  have hK : va_K (dC, dI) vwCl [] s := hK
  have hl := lv_entry ([.ref h0]) (n := 1) (Nat.le_of_ble_eq_true rfl)
  rw [lg_entry_eq]
  generalize (lg_sl ([.ref h0]) ++ List.replicate (1 - (lg_sl ([.ref h0])).length) Slot.unset).toArray = ls at hl ⊢
  have hl : lv_has ls 1 [(0, .ref h0)] := hl
  refine lv_aload_n hx hb dX2_init_0 rfl (lv_at hl 0 rfl) ?_
  refine W.objInit hx hb hown (hts (.methodLink RX2 3 objectInit) (by decide +kernel)) (hts (.instanceMethod objectInit) (by decide +kernel)) (hts (.code objectInit ⟨#[0xb1]⟩ 1 none) (by decide +kernel)) rfl (by rw [hml]; exact hl.1) rfl dX2_init_1 (Nat.le_of_ble_eq_true rfl) (Nat.le_of_ble_eq_true rfl) ?_
  refine W.eq (g2 := F0 m 4 ls []) rfl ?_
  refine lv_aload_n hx hb dX2_init_4 rfl (lv_at hl 0 rfl) ?_
  refine va_new (ci := 3) (fs := [.null, .null, .int 0]) (C := RX4) (T := TX4) (N := 3) hx hb hts iX4 tyX4 tyX4_ok hown (hts (.classLink RX2 9 RX4) (by decide +kernel)) (hts (.instantiable RX4 3) (by decide +kernel)) (hts (.initialized RX4) (by decide +kernel)) hK hP hD hS hA rfl (fun j hj => by rcases (show j = 0 ∨ j = 1 ∨ j = 2 by omega) with rfl | rfl | rfl <;> rfl) (Nat.le_of_ble_eq_true rfl) (Nat.le_of_ble_eq_true rfl) dX2_init_5 (fun q_1 H hP hD hS => ?_)
  have hP : va_P (dC, dI) vwCl [(h0, .inr (1, [.null, .int 0, .int 0, .int 0, .int 0])), (q_1, .inr (3, [.null, .null, .int 0]))] H := hP
  have hD : va_D A [(h0, .inr (1, [.null, .int 0, .int 0, .int 0, .int 0])), (q_1, .inr (3, [.null, .null, .int 0]))] := hD
  refine W.widen (k := 1) (n := 3) (by omega) (by omega) ?_
  refine lv_dup hx hb dX2_init_8 rfl ?_
  have hPc := hP.sub (ws' := [(q_1, .inr (3, [.null, .null, .int 0]))]) [1] rfl
  have hDc := hD.sub (ws' := [(q_1, .inr (3, [.null, .null, .int 0]))]) [1] (by decide) rfl
  have hKc := hK.sub (tys' := []) [] rfl
  have hFc := va_free (wc := [(q_1, .inr (3, [.null, .null, .int 0]))]) hD hS hA [1] rfl
  refine va_callv (va_runI (As := []) (rest := [.ref q_1, .ref h0]) ⟨hx, hb, hml, hown, hts⟩ (n_Plan l dC dI _ q_1) (cwI 0 hts gX2_init_X4_init rfl rfl rfl (hts (.initialized RX4) (by decide +kernel)) (hts (.methodLink RX2 11 yX4_init) (by decide +kernel)) (hts (.instanceMethod yX4_init) (by decide +kernel)) rfl (by decide +kernel) ⟨Nat.le_of_ble_eq_true rfl, Nat.le_of_ble_eq_true rfl⟩) ⟨pt_blindQ, pt_preQ hPc hKc hDc hN⟩ rfl rfl hl.1 rfl (lv_room (Nat.le_of_ble_eq_true rfl)) dX2_init_9 ⟨Nat.le_of_ble_eq_true rfl, Nat.le_of_ble_eq_true rfl⟩) hS (fun q _ h => hFc q h) hFc (fun u_2 t H1 locs ht hvm hw_2 hB hz1 hk1 hS => ?_)
  obtain ⟨hP1, hK1, hD1⟩ := hB
  rw [ht] at hP1
  have hK1 := va_K.moved hvm.symm hK1
  obtain ⟨hP, hD⟩ := va_join (wr := [(h0, .inr (1, [.null, .int 0, .int 0, .int 0, .int 0]))]) (w1 := []) hP hD [1] [0] rfl rfl (by decide) (by decide) hk1 hFc hP1 hD1
  have hK := hK.app hK1
  generalize H1 = H at hP hS ⊢
  have hP : va_P (dC, dI) vwCl [(h0, .inr (1, [.null, .int 0, .int 0, .int 0, .int 0]))] H := hP
  have hD : va_D A [(h0, .inr (1, [.null, .int 0, .int 0, .int 0, .int 0]))] := hD
  have hK : va_K (dC, dI) vwCl [] s := hK
  refine W.widen (k := 3) (n := 7) (by omega) (by omega) ?_
  refine va_putF (D := (dC, dI)) (ci := 1) (v := .ref q_1) (ty := .object "ParkTower$Plan") (C := RX2) (T := TX2) (N := 5) hx hb hts iX2 tyX2 tyX2_ok nmX2 hown hK hP hD hS 0 rfl rfl 0 (by decide) (hts (.fieldLink RX2 12 "ParkTower$Job" "plan" "LParkTower$Plan;") (by decide +kernel)) (fun _ h9 => h9) rfl hin rfl (by decide +kernel) rfl rfl (Nat.le_of_ble_eq_true rfl) dX2_init_12 (fun H locs hP hD hS => ?_)
  have hP : va_P (dC, dI) vwCl [(h0, .inr (1, [.ref q_1, .int 0, .int 0, .int 0, .int 0]))] H := hP
  have hD : va_D A [(h0, .inr (1, [.ref q_1, .int 0, .int 0, .int 0, .int 0]))] := hD
  refine lv_aload_n hx hb dX2_init_15 rfl (lv_at hl 0 rfl) ?_
  refine lv_iconst (v := (-1)) hx hb dX2_init_16 (by decide) ?_
  refine va_put (D := (dC, dI)) (ci := 1) (v := .int (-1)) (ty := .int) (C := RX2) (T := TX2) (N := 5) hx hb hts iX2 tyX2 tyX2_ok nmX2 hown hK hP hD hS 0 rfl rfl 1 (by decide) (hts (.fieldLink RX2 18 "ParkTower$Job" "order" "I") (by decide +kernel)) (fun _ h9 => h9) rfl (by decide +kernel) rfl rfl (Nat.le_of_ble_eq_true rfl) dX2_init_17 (fun H locs hP hD hS => ?_)
  have hP : va_P (dC, dI) vwCl [(h0, .inr (1, [.ref q_1, .int (-1), .int 0, .int 0, .int 0]))] H := hP
  have hD : va_D A [(h0, .inr (1, [.ref q_1, .int (-1), .int 0, .int 0, .int 0]))] := hD
  have hP9 := hP.sub (ws' := [(h0, .inr (1, [.ref q_1, .int (-1), .int 0, .int 0, .int 0]))]) [0] rfl
  have hD9 := hD.sub (ws' := [(h0, .inr (1, [.ref q_1, .int (-1), .int 0, .int 0, .int 0]))]) [0] (by decide) rfl
  have hK9 := hK.sub (tys' := []) [] rfl
  refine W.widen (k := 3) (n := 7) (by omega) (by omega) ?_
  exact W.vret hx hb hr (fun t ht hW => ⟨⟨(), rfl, trivial, q_1, by rw [ht]; exact hP9, va_K.moved hW.alike hK9, hD9⟩, hS.F ht⟩) hS.2.2 dX2_init_20
set_option maxHeartbeats 4000000 in
set_option maxRecDepth 100000 in
theorem n_Tower (l : Launch) (dC : Nat → ClassId) (dI : Nat → Nat → Nat) (sz : Nat) (h0 : Nat) : Met l yX7_init wsX7_init ({ frames := 3, cells := 17, slots := 211, locals := 60 }) (va_Pc [.ref h0] (pt_BQ (dC, dI) [(h0, .inr (5, [.null, .null, .null, .null, .null, .int 0, .int 0, .int 0, .int 0, .int 0]))] [] sz)) (va_Qv (fun (_ : Unit) => True) (fun _ t => ∃ (rk hd jm bs b0 b1 od o1 o2 o3 jb pl ap : Nat) (cI cZ cB : ClassId), pt_at (dC, dI) (va_A [(h0, .inr (5, [.null, .null, .null, .null, .null, .int 0, .int 0, .int 0, .int 0, .int 0]))] sz) [(h0, .inr (5, [.ref rk, .ref bs, .ref od, .ref jb, .ref ap, .int 0, .int 1, .int 0, .int 0, .int 0])), (rk, .inr (4, [.ref hd, .ref jm])), (hd, .inl (cI, 96, .inl (fun _ => 0))), (jm, .inl (cZ, 4, .inl (fun _ => 0))), (bs, .inl (cB, 2, .inr (.inr (.inr (.inr (va_up (va_up (fun _ => none) 0 (some b0)) 1 (some b1))))))), (b0, .inr (0, [.int 2, .int 0, .int 0, .int 0, .int 0, .int (-1)])), (b1, .inr (0, [.int 2, .int 0, .int 0, .int 0, .int 0, .int (-1)])), (od, .inr (2, [.ref o1, .ref o2, .ref o3, .int 0])), (jb, .inr (1, [.ref pl, .int (-1), .int 0, .int 0, .int 0]))] [(cI, .int), (cZ, .boolean), (cB, .object "ParkTower$Bay")] t) (va_A [(h0, .inr (5, [.null, .null, .null, .null, .null, .int 0, .int 0, .int 0, .int 0, .int 0]))] sz)) 17 211 (va_A [(h0, .inr (5, [.null, .null, .null, .null, .null, .int 0, .int 0, .int 0, .int 0, .int 0]))] sz) := by
  refine Met.ofW (cc := cX7_init) (maxL := 2) (ret := none) (by decide) rfl ?_
  intro p e s m args below meth c s₁ B hml hv
  obtain ⟨rfl, hsz, hP, hK, hD0, hN⟩ := hv
  have hx := B.exec
  have hb := B.bytes
  have hr := B.returns
  have hts := atoms_spec (ws := wsX7_init) B.pre
  have hown : s.vm.findClass RX7 = some m.cls := findClass_of_methodNamed B.named
  have hlocks := B.notSynchronized
  have hin : meth.name = "<init>" := (name_of_methodNamed B.named B.method).1
  have iX1 : ∀ w ∈ wsX10, w ∈ wsX7_init := by decide +kernel
  have iX2 : ∀ w ∈ wsX20, w ∈ wsX7_init := by decide +kernel
  have iX3 : ∀ w ∈ wsX30, w ∈ wsX7_init := by decide +kernel
  have iX4 : ∀ w ∈ wsX40, w ∈ wsX7_init := by decide +kernel
  have iX5 : ∀ w ∈ wsX50, w ∈ wsX7_init := by decide +kernel
  have iX7 : ∀ w ∈ wsX70, w ∈ wsX7_init := by decide +kernel
  subst hsz
  have hD := hD0.self (sz := s.heap.size)
  generalize hAe : va_A [(h0, .inr (5, [.null, .null, .null, .null, .null, .int 0, .int 0, .int 0, .int 0, .int 0]))] s.heap.size = A at hD ⊢
  have hA : ∀ q : Nat, s.heap.size ≤ q → A q := fun q h => by rw [← hAe]; exact Or.inr h
  have hS : va_S A s.heap s.heap [] := va_S.rf
  have hP : va_P (dC, dI) vwCl [(h0, .inr (5, [.null, .null, .null, .null, .null, .int 0, .int 0, .int 0, .int 0, .int 0]))] s.heap := hP
  have hK : va_K (dC, dI) vwCl [] s := hK
  have hl := lv_entry ([.ref h0]) (n := 2) (Nat.le_of_ble_eq_true rfl)
  rw [lg_entry_eq]
  generalize (lg_sl ([.ref h0]) ++ List.replicate (2 - (lg_sl ([.ref h0])).length) Slot.unset).toArray = ls at hl ⊢
  have hl : lv_has ls 2 [(0, .ref h0)] := hl
  refine lv_aload_n hx hb dX7_init_0 rfl (lv_at hl 0 rfl) ?_
  refine W.objInit hx hb hown (hts (.methodLink RX7 1 objectInit) (by decide +kernel)) (hts (.instanceMethod objectInit) (by decide +kernel)) (hts (.code objectInit ⟨#[0xb1]⟩ 1 none) (by decide +kernel)) rfl (by rw [hml]; exact hl.1) rfl dX7_init_1 (Nat.le_of_ble_eq_true rfl) (Nat.le_of_ble_eq_true rfl) ?_
  refine W.eq (g2 := F0 m 4 ls []) rfl ?_
  refine lv_aload_n hx hb dX7_init_4 rfl (lv_at hl 0 rfl) ?_
  refine va_new (ci := 4) (fs := [.null, .null]) (C := RX5) (T := TX5) (N := 2) hx hb hts iX5 tyX5 tyX5_ok hown (hts (.classLink RX7 7 RX5) (by decide +kernel)) (hts (.instantiable RX5 2) (by decide +kernel)) (hts (.initialized RX5) (by decide +kernel)) hK hP hD hS hA rfl (fun j hj => by rcases (show j = 0 ∨ j = 1 by omega) with rfl | rfl <;> rfl) (Nat.le_of_ble_eq_true rfl) (Nat.le_of_ble_eq_true rfl) dX7_init_5 (fun q_1 H hP hD hS => ?_)
  have hP : va_P (dC, dI) vwCl [(h0, .inr (5, [.null, .null, .null, .null, .null, .int 0, .int 0, .int 0, .int 0, .int 0])), (q_1, .inr (4, [.null, .null]))] H := hP
  have hD : va_D A [(h0, .inr (5, [.null, .null, .null, .null, .null, .int 0, .int 0, .int 0, .int 0, .int 0])), (q_1, .inr (4, [.null, .null]))] := hD
  refine W.widen (k := 1) (n := 2) (by omega) (by omega) ?_
  refine lv_dup hx hb dX7_init_8 rfl ?_
  have hPc := hP.sub (ws' := [(q_1, .inr (4, [.null, .null]))]) [1] rfl
  have hDc := hD.sub (ws' := [(q_1, .inr (4, [.null, .null]))]) [1] (by decide) rfl
  have hKc := hK.sub (tys' := []) [] rfl
  have hFc := va_free (wc := [(q_1, .inr (4, [.null, .null]))]) hD hS hA [1] rfl
  refine va_callv (va_runI (As := []) (rest := [.ref q_1, .ref h0]) ⟨hx, hb, hml, hown, hts⟩ (n_Rack l dC dI _ q_1) (cwI 0 hts gX7_init_X5_init rfl rfl rfl (hts (.initialized RX5) (by decide +kernel)) (hts (.methodLink RX7 9 yX5_init) (by decide +kernel)) (hts (.instanceMethod yX5_init) (by decide +kernel)) rfl (by decide +kernel) ⟨Nat.le_of_ble_eq_true rfl, Nat.le_of_ble_eq_true rfl⟩) ⟨pt_blindQ, pt_preQ hPc hKc hDc hN⟩ rfl rfl hl.1 rfl (lv_room (Nat.le_of_ble_eq_true rfl)) dX7_init_9 ⟨Nat.le_of_ble_eq_true rfl, Nat.le_of_ble_eq_true rfl⟩) hS (fun q _ h => hFc q h) hFc (fun u_2 t H1 locs ht hvm hw_2 hB hz1 hk1 hS => ?_)
  obtain ⟨hd, jm, cI, cZ, hP1, hK1, hD1⟩ := hB
  rw [ht] at hP1
  have hK1 := va_K.moved hvm.symm hK1
  obtain ⟨hP, hD⟩ := va_join (wr := [(h0, .inr (5, [.null, .null, .null, .null, .null, .int 0, .int 0, .int 0, .int 0, .int 0]))]) (w1 := [(q_1, .inr (4, [.ref hd, .ref jm])), (hd, .inl (cI, 96, .inl (fun _ => 0))), (jm, .inl (cZ, 4, .inl (fun _ => 0)))]) hP hD [1] [0] rfl rfl (by decide) (by decide) hk1 hFc hP1 hD1
  have hK := hK.app hK1
  generalize H1 = H at hP hS ⊢
  have hP : va_P (dC, dI) vwCl [(h0, .inr (5, [.null, .null, .null, .null, .null, .int 0, .int 0, .int 0, .int 0, .int 0])), (q_1, .inr (4, [.ref hd, .ref jm])), (hd, .inl (cI, 96, .inl (fun _ => 0))), (jm, .inl (cZ, 4, .inl (fun _ => 0)))] H := hP
  have hD : va_D A [(h0, .inr (5, [.null, .null, .null, .null, .null, .int 0, .int 0, .int 0, .int 0, .int 0])), (q_1, .inr (4, [.ref hd, .ref jm])), (hd, .inl (cI, 96, .inl (fun _ => 0))), (jm, .inl (cZ, 4, .inl (fun _ => 0)))] := hD
  have hK : va_K (dC, dI) vwCl [(cI, .int), (cZ, .boolean)] s := hK
  refine W.widen (k := 3) (n := 102) (by omega) (by omega) ?_
  refine va_putF (D := (dC, dI)) (ci := 5) (v := .ref q_1) (ty := .object "ParkTower$Rack") (C := RX7) (T := TX7) (N := 10) hx hb hts iX7 tyX7 tyX7_ok nmX7 hown hK hP hD hS 0 rfl rfl 0 (by decide) (hts (.fieldLink RX7 10 "ParkTower" "rack" "LParkTower$Rack;") (by decide +kernel)) (fun _ h9 => h9) rfl hin rfl (by decide +kernel) rfl rfl (Nat.le_of_ble_eq_true rfl) dX7_init_12 (fun H locs hP hD hS => ?_)
  have hP : va_P (dC, dI) vwCl [(h0, .inr (5, [.ref q_1, .null, .null, .null, .null, .int 0, .int 0, .int 0, .int 0, .int 0])), (q_1, .inr (4, [.ref hd, .ref jm])), (hd, .inl (cI, 96, .inl (fun _ => 0))), (jm, .inl (cZ, 4, .inl (fun _ => 0)))] H := hP
  have hD : va_D A [(h0, .inr (5, [.ref q_1, .null, .null, .null, .null, .int 0, .int 0, .int 0, .int 0, .int 0])), (q_1, .inr (4, [.ref hd, .ref jm])), (hd, .inl (cI, 96, .inl (fun _ => 0))), (jm, .inl (cZ, 4, .inl (fun _ => 0)))] := hD
  refine lv_aload_n hx hb dX7_init_15 rfl (lv_at hl 0 rfl) ?_
  refine lv_iconst (v := 2) hx hb dX7_init_16 (by decide) ?_
  refine va_newq (C := "ParkTower$Bay") hx hb hown (hts (.classLink RX7 16 "ParkTower$Bay") (by decide +kernel)) hN.2 hK hP hD hS hA (by decide) (show Int32.toNatClampNeg 2 = 2 by decide) (by decide) (Nat.le_of_ble_eq_true rfl) (Nat.le_of_ble_eq_true rfl) dX7_init_17 (fun q_3 y_3 H hK hP hD hS => ?_)
  have hP : va_P (dC, dI) vwCl [(h0, .inr (5, [.ref q_1, .null, .null, .null, .null, .int 0, .int 0, .int 0, .int 0, .int 0])), (q_1, .inr (4, [.ref hd, .ref jm])), (hd, .inl (cI, 96, .inl (fun _ => 0))), (jm, .inl (cZ, 4, .inl (fun _ => 0))), (q_3, .inl (y_3, 2, .inr (.inr (.inr (.inr (fun _ => none))))))] H := hP
  have hD : va_D A [(h0, .inr (5, [.ref q_1, .null, .null, .null, .null, .int 0, .int 0, .int 0, .int 0, .int 0])), (q_1, .inr (4, [.ref hd, .ref jm])), (hd, .inl (cI, 96, .inl (fun _ => 0))), (jm, .inl (cZ, 4, .inl (fun _ => 0))), (q_3, .inl (y_3, 2, .inr (.inr (.inr (.inr (fun _ => none))))))] := hD
  have hK : va_K (dC, dI) vwCl [(cI, .int), (cZ, .boolean), (y_3, .object "ParkTower$Bay")] s := hK
  refine W.widen (k := 4) (n := 104) (by omega) (by omega) ?_
  refine va_putF (D := (dC, dI)) (ci := 5) (v := .ref q_3) (ty := .array (.object "ParkTower$Bay")) (C := RX7) (T := TX7) (N := 10) hx hb hts iX7 tyX7 tyX7_ok nmX7 hown hK hP hD hS 0 rfl rfl 1 (by decide) (hts (.fieldLink RX7 18 "ParkTower" "bays" "[LParkTower$Bay;") (by decide +kernel)) (fun _ h9 => h9) rfl hin rfl (by decide +kernel) rfl rfl (Nat.le_of_ble_eq_true rfl) dX7_init_20 (fun H locs hP hD hS => ?_)
  have hP : va_P (dC, dI) vwCl [(h0, .inr (5, [.ref q_1, .ref q_3, .null, .null, .null, .int 0, .int 0, .int 0, .int 0, .int 0])), (q_1, .inr (4, [.ref hd, .ref jm])), (hd, .inl (cI, 96, .inl (fun _ => 0))), (jm, .inl (cZ, 4, .inl (fun _ => 0))), (q_3, .inl (y_3, 2, .inr (.inr (.inr (.inr (fun _ => none))))))] H := hP
  have hD : va_D A [(h0, .inr (5, [.ref q_1, .ref q_3, .null, .null, .null, .int 0, .int 0, .int 0, .int 0, .int 0])), (q_1, .inr (4, [.ref hd, .ref jm])), (hd, .inl (cI, 96, .inl (fun _ => 0))), (jm, .inl (cZ, 4, .inl (fun _ => 0))), (q_3, .inl (y_3, 2, .inr (.inr (.inr (.inr (fun _ => none))))))] := hD
  refine lv_iconst (v := 0) hx hb dX7_init_23 (by decide) ?_
  refine lv_istore_n (lv' := [(1, .int 0), (0, .ref h0)]) hx hb dX7_init_24 rfl hl (by decide) rfl (fun ls hl => ?_)
  refine lv_iload_n hx hb dX7_init_25 rfl (lv_at hl 0 rfl) ?_
  refine lv_iconst (v := 2) hx hb dX7_init_26 (by decide) ?_
  refine lv_icmp_ge (tgt := 49) hx hb dX7_init_27 (by decide) (fun c => absurd c (by decide)) (fun _ => ?_)
  refine lv_aload_n hx hb dX7_init_30 rfl (lv_at hl 1 rfl) ?_
  refine va_get (D := (dC, dI)) (ci := 5) (v := .ref q_3) (C := RX7) (T := TX7) (N := 10) hx hb hts iX7 hown hK hP 0 rfl rfl 1 (by decide) (hts (.fieldLink RX7 18 "ParkTower" "bays" "[LParkTower$Bay;") (by decide +kernel)) (fun _ h9 => h9) rfl dX7_init_31 ?_
  refine lv_iload_n hx hb dX7_init_34 rfl (lv_at hl 0 rfl) ?_
  refine va_new (ci := 0) (fs := [.int 0, .int 0, .int 0, .int 0, .int 0, .int 0]) (C := RX1) (T := TX1) (N := 6) hx hb hts iX1 tyX1 tyX1_ok hown (hts (.classLink RX7 16 RX1) (by decide +kernel)) (hts (.instantiable RX1 6) (by decide +kernel)) (hts (.initialized RX1) (by decide +kernel)) hK hP hD hS hA rfl (fun j hj => by rcases (show j = 0 ∨ j = 1 ∨ j = 2 ∨ j = 3 ∨ j = 4 ∨ j = 5 by omega) with rfl | rfl | rfl | rfl | rfl | rfl <;> rfl) (Nat.le_of_ble_eq_true rfl) (Nat.le_of_ble_eq_true rfl) dX7_init_35 (fun q_4 H hP hD hS => ?_)
  have hP : va_P (dC, dI) vwCl [(h0, .inr (5, [.ref q_1, .ref q_3, .null, .null, .null, .int 0, .int 0, .int 0, .int 0, .int 0])), (q_1, .inr (4, [.ref hd, .ref jm])), (hd, .inl (cI, 96, .inl (fun _ => 0))), (jm, .inl (cZ, 4, .inl (fun _ => 0))), (q_3, .inl (y_3, 2, .inr (.inr (.inr (.inr (fun _ => none)))))), (q_4, .inr (0, [.int 0, .int 0, .int 0, .int 0, .int 0, .int 0]))] H := hP
  have hD : va_D A [(h0, .inr (5, [.ref q_1, .ref q_3, .null, .null, .null, .int 0, .int 0, .int 0, .int 0, .int 0])), (q_1, .inr (4, [.ref hd, .ref jm])), (hd, .inl (cI, 96, .inl (fun _ => 0))), (jm, .inl (cZ, 4, .inl (fun _ => 0))), (q_3, .inl (y_3, 2, .inr (.inr (.inr (.inr (fun _ => none)))))), (q_4, .inr (0, [.int 0, .int 0, .int 0, .int 0, .int 0, .int 0]))] := hD
  refine W.widen (k := 5) (n := 110) (by omega) (by omega) ?_
  refine lv_dup hx hb dX7_init_38 rfl ?_
  have hPc := hP.sub (ws' := [(q_4, .inr (0, [.int 0, .int 0, .int 0, .int 0, .int 0, .int 0]))]) [5] rfl
  have hDc := hD.sub (ws' := [(q_4, .inr (0, [.int 0, .int 0, .int 0, .int 0, .int 0, .int 0]))]) [5] (by decide) rfl
  have hKc := hK.sub (tys' := []) [] rfl
  have hFc := va_free (wc := [(q_4, .inr (0, [.int 0, .int 0, .int 0, .int 0, .int 0, .int 0]))]) hD hS hA [5] rfl
  refine va_callv (va_runI (As := []) (rest := [.ref q_4, .int 0, .ref q_3]) ⟨hx, hb, hml, hown, hts⟩ (n_Bay l dC dI _ q_4) (cwI 0 hts gX7_init_X1_init rfl rfl rfl (hts (.initialized RX1) (by decide +kernel)) (hts (.methodLink RX7 22 yX1_init) (by decide +kernel)) (hts (.instanceMethod yX1_init) (by decide +kernel)) rfl (by decide +kernel) ⟨Nat.le_of_ble_eq_true rfl, Nat.le_of_ble_eq_true rfl⟩) ⟨pt_blindQ, pt_preQ hPc hKc hDc hN⟩ rfl rfl hl.1 rfl (lv_room (Nat.le_of_ble_eq_true rfl)) dX7_init_39 ⟨Nat.le_of_ble_eq_true rfl, Nat.le_of_ble_eq_true rfl⟩) hS (fun q _ h => hFc q h) hFc (fun u_5 t H1 locs ht hvm hw_5 hB hz1 hk1 hS => ?_)
  obtain ⟨hP1, hK1, hD1⟩ := hB
  rw [ht] at hP1
  have hK1 := va_K.moved hvm.symm hK1
  obtain ⟨hP, hD⟩ := va_join (wr := [(h0, .inr (5, [.ref q_1, .ref q_3, .null, .null, .null, .int 0, .int 0, .int 0, .int 0, .int 0])), (q_1, .inr (4, [.ref hd, .ref jm])), (hd, .inl (cI, 96, .inl (fun _ => 0))), (jm, .inl (cZ, 4, .inl (fun _ => 0))), (q_3, .inl (y_3, 2, .inr (.inr (.inr (.inr (fun _ => none))))))]) (w1 := [(q_4, .inr (0, [.int 2, .int 0, .int 0, .int 0, .int 0, .int (-1)]))]) hP hD [5] [0, 1, 2, 3, 4] rfl rfl (by decide) (by decide) hk1 hFc hP1 hD1
  have hK := hK.app hK1
  generalize H1 = H at hP hS ⊢
  have hP : va_P (dC, dI) vwCl [(h0, .inr (5, [.ref q_1, .ref q_3, .null, .null, .null, .int 0, .int 0, .int 0, .int 0, .int 0])), (q_1, .inr (4, [.ref hd, .ref jm])), (hd, .inl (cI, 96, .inl (fun _ => 0))), (jm, .inl (cZ, 4, .inl (fun _ => 0))), (q_3, .inl (y_3, 2, .inr (.inr (.inr (.inr (fun _ => none)))))), (q_4, .inr (0, [.int 2, .int 0, .int 0, .int 0, .int 0, .int (-1)]))] H := hP
  have hD : va_D A [(h0, .inr (5, [.ref q_1, .ref q_3, .null, .null, .null, .int 0, .int 0, .int 0, .int 0, .int 0])), (q_1, .inr (4, [.ref hd, .ref jm])), (hd, .inl (cI, 96, .inl (fun _ => 0))), (jm, .inl (cZ, 4, .inl (fun _ => 0))), (q_3, .inl (y_3, 2, .inr (.inr (.inr (.inr (fun _ => none)))))), (q_4, .inr (0, [.int 2, .int 0, .int 0, .int 0, .int 0, .int (-1)]))] := hD
  have hK : va_K (dC, dI) vwCl [(cI, .int), (cZ, .boolean), (y_3, .object "ParkTower$Bay")] s := hK
  refine va_astq hx hb hK hP hD hS 4 2 5 0 rfl rfl rfl rfl (vp_in_iff.mpr (by decide)) dX7_init_42 (fun H locs hP hD hS => ?_)
  have hP : va_P (dC, dI) vwCl [(h0, .inr (5, [.ref q_1, .ref q_3, .null, .null, .null, .int 0, .int 0, .int 0, .int 0, .int 0])), (q_1, .inr (4, [.ref hd, .ref jm])), (hd, .inl (cI, 96, .inl (fun _ => 0))), (jm, .inl (cZ, 4, .inl (fun _ => 0))), (q_3, .inl (y_3, 2, .inr (.inr (.inr (.inr (va_up (fun _ => none) 0 (some q_4))))))), (q_4, .inr (0, [.int 2, .int 0, .int 0, .int 0, .int 0, .int (-1)]))] H := hP
  have hD : va_D A [(h0, .inr (5, [.ref q_1, .ref q_3, .null, .null, .null, .int 0, .int 0, .int 0, .int 0, .int 0])), (q_1, .inr (4, [.ref hd, .ref jm])), (hd, .inl (cI, 96, .inl (fun _ => 0))), (jm, .inl (cZ, 4, .inl (fun _ => 0))), (q_3, .inl (y_3, 2, .inr (.inr (.inr (.inr (va_up (fun _ => none) 0 (some q_4))))))), (q_4, .inr (0, [.int 2, .int 0, .int 0, .int 0, .int 0, .int (-1)]))] := hD
  refine lv_iinc (v := 1) (lv' := [(1, .int 1), (0, .ref h0)]) hx hb dX7_init_43 hl (k := 0) rfl (by decide) (by decide) rfl (fun ls hl => ?_)
  refine lv_goto (tgt := 25) hx hb dX7_init_46 (by decide) ?_
  refine lv_iload_n hx hb dX7_init_25 rfl (lv_at hl 0 rfl) ?_
  refine lv_iconst (v := 2) hx hb dX7_init_26 (by decide) ?_
  refine lv_icmp_ge (tgt := 49) hx hb dX7_init_27 (by decide) (fun c => absurd c (by decide)) (fun _ => ?_)
  refine lv_aload_n hx hb dX7_init_30 rfl (lv_at hl 1 rfl) ?_
  refine va_get (D := (dC, dI)) (ci := 5) (v := .ref q_3) (C := RX7) (T := TX7) (N := 10) hx hb hts iX7 hown hK hP 0 rfl rfl 1 (by decide) (hts (.fieldLink RX7 18 "ParkTower" "bays" "[LParkTower$Bay;") (by decide +kernel)) (fun _ h9 => h9) rfl dX7_init_31 ?_
  refine lv_iload_n hx hb dX7_init_34 rfl (lv_at hl 0 rfl) ?_
  refine va_new (ci := 0) (fs := [.int 0, .int 0, .int 0, .int 0, .int 0, .int 0]) (C := RX1) (T := TX1) (N := 6) hx hb hts iX1 tyX1 tyX1_ok hown (hts (.classLink RX7 16 RX1) (by decide +kernel)) (hts (.instantiable RX1 6) (by decide +kernel)) (hts (.initialized RX1) (by decide +kernel)) hK hP hD hS hA rfl (fun j hj => by rcases (show j = 0 ∨ j = 1 ∨ j = 2 ∨ j = 3 ∨ j = 4 ∨ j = 5 by omega) with rfl | rfl | rfl | rfl | rfl | rfl <;> rfl) (Nat.le_of_ble_eq_true rfl) (Nat.le_of_ble_eq_true rfl) dX7_init_35 (fun q_6 H hP hD hS => ?_)
  have hP : va_P (dC, dI) vwCl [(h0, .inr (5, [.ref q_1, .ref q_3, .null, .null, .null, .int 0, .int 0, .int 0, .int 0, .int 0])), (q_1, .inr (4, [.ref hd, .ref jm])), (hd, .inl (cI, 96, .inl (fun _ => 0))), (jm, .inl (cZ, 4, .inl (fun _ => 0))), (q_3, .inl (y_3, 2, .inr (.inr (.inr (.inr (va_up (fun _ => none) 0 (some q_4))))))), (q_4, .inr (0, [.int 2, .int 0, .int 0, .int 0, .int 0, .int (-1)])), (q_6, .inr (0, [.int 0, .int 0, .int 0, .int 0, .int 0, .int 0]))] H := hP
  have hD : va_D A [(h0, .inr (5, [.ref q_1, .ref q_3, .null, .null, .null, .int 0, .int 0, .int 0, .int 0, .int 0])), (q_1, .inr (4, [.ref hd, .ref jm])), (hd, .inl (cI, 96, .inl (fun _ => 0))), (jm, .inl (cZ, 4, .inl (fun _ => 0))), (q_3, .inl (y_3, 2, .inr (.inr (.inr (.inr (va_up (fun _ => none) 0 (some q_4))))))), (q_4, .inr (0, [.int 2, .int 0, .int 0, .int 0, .int 0, .int (-1)])), (q_6, .inr (0, [.int 0, .int 0, .int 0, .int 0, .int 0, .int 0]))] := hD
  refine W.widen (k := 6) (n := 116) (by omega) (by omega) ?_
  refine lv_dup hx hb dX7_init_38 rfl ?_
  have hPc := hP.sub (ws' := [(q_6, .inr (0, [.int 0, .int 0, .int 0, .int 0, .int 0, .int 0]))]) [6] rfl
  have hDc := hD.sub (ws' := [(q_6, .inr (0, [.int 0, .int 0, .int 0, .int 0, .int 0, .int 0]))]) [6] (by decide) rfl
  have hKc := hK.sub (tys' := []) [] rfl
  have hFc := va_free (wc := [(q_6, .inr (0, [.int 0, .int 0, .int 0, .int 0, .int 0, .int 0]))]) hD hS hA [6] rfl
  refine va_callv (va_runI (As := []) (rest := [.ref q_6, .int 1, .ref q_3]) ⟨hx, hb, hml, hown, hts⟩ (n_Bay l dC dI _ q_6) (cwI 0 hts gX7_init_X1_init rfl rfl rfl (hts (.initialized RX1) (by decide +kernel)) (hts (.methodLink RX7 22 yX1_init) (by decide +kernel)) (hts (.instanceMethod yX1_init) (by decide +kernel)) rfl (by decide +kernel) ⟨Nat.le_of_ble_eq_true rfl, Nat.le_of_ble_eq_true rfl⟩) ⟨pt_blindQ, pt_preQ hPc hKc hDc hN⟩ rfl rfl hl.1 rfl (lv_room (Nat.le_of_ble_eq_true rfl)) dX7_init_39 ⟨Nat.le_of_ble_eq_true rfl, Nat.le_of_ble_eq_true rfl⟩) hS (fun q _ h => hFc q h) hFc (fun u_7 t H1 locs ht hvm hw_7 hB hz1 hk1 hS => ?_)
  obtain ⟨hP1, hK1, hD1⟩ := hB
  rw [ht] at hP1
  have hK1 := va_K.moved hvm.symm hK1
  obtain ⟨hP, hD⟩ := va_join (wr := [(h0, .inr (5, [.ref q_1, .ref q_3, .null, .null, .null, .int 0, .int 0, .int 0, .int 0, .int 0])), (q_1, .inr (4, [.ref hd, .ref jm])), (hd, .inl (cI, 96, .inl (fun _ => 0))), (jm, .inl (cZ, 4, .inl (fun _ => 0))), (q_3, .inl (y_3, 2, .inr (.inr (.inr (.inr (va_up (fun _ => none) 0 (some q_4))))))), (q_4, .inr (0, [.int 2, .int 0, .int 0, .int 0, .int 0, .int (-1)]))]) (w1 := [(q_6, .inr (0, [.int 2, .int 0, .int 0, .int 0, .int 0, .int (-1)]))]) hP hD [6] [0, 1, 2, 3, 4, 5] rfl rfl (by decide) (by decide) hk1 hFc hP1 hD1
  have hK := hK.app hK1
  generalize H1 = H at hP hS ⊢
  have hP : va_P (dC, dI) vwCl [(h0, .inr (5, [.ref q_1, .ref q_3, .null, .null, .null, .int 0, .int 0, .int 0, .int 0, .int 0])), (q_1, .inr (4, [.ref hd, .ref jm])), (hd, .inl (cI, 96, .inl (fun _ => 0))), (jm, .inl (cZ, 4, .inl (fun _ => 0))), (q_3, .inl (y_3, 2, .inr (.inr (.inr (.inr (va_up (fun _ => none) 0 (some q_4))))))), (q_4, .inr (0, [.int 2, .int 0, .int 0, .int 0, .int 0, .int (-1)])), (q_6, .inr (0, [.int 2, .int 0, .int 0, .int 0, .int 0, .int (-1)]))] H := hP
  have hD : va_D A [(h0, .inr (5, [.ref q_1, .ref q_3, .null, .null, .null, .int 0, .int 0, .int 0, .int 0, .int 0])), (q_1, .inr (4, [.ref hd, .ref jm])), (hd, .inl (cI, 96, .inl (fun _ => 0))), (jm, .inl (cZ, 4, .inl (fun _ => 0))), (q_3, .inl (y_3, 2, .inr (.inr (.inr (.inr (va_up (fun _ => none) 0 (some q_4))))))), (q_4, .inr (0, [.int 2, .int 0, .int 0, .int 0, .int 0, .int (-1)])), (q_6, .inr (0, [.int 2, .int 0, .int 0, .int 0, .int 0, .int (-1)]))] := hD
  have hK : va_K (dC, dI) vwCl [(cI, .int), (cZ, .boolean), (y_3, .object "ParkTower$Bay")] s := hK
  refine va_astq hx hb hK hP hD hS 4 2 6 0 rfl rfl rfl rfl (vp_in_iff.mpr (by decide)) dX7_init_42 (fun H locs hP hD hS => ?_)
  have hP : va_P (dC, dI) vwCl [(h0, .inr (5, [.ref q_1, .ref q_3, .null, .null, .null, .int 0, .int 0, .int 0, .int 0, .int 0])), (q_1, .inr (4, [.ref hd, .ref jm])), (hd, .inl (cI, 96, .inl (fun _ => 0))), (jm, .inl (cZ, 4, .inl (fun _ => 0))), (q_3, .inl (y_3, 2, .inr (.inr (.inr (.inr (va_up (va_up (fun _ => none) 0 (some q_4)) 1 (some q_6))))))), (q_4, .inr (0, [.int 2, .int 0, .int 0, .int 0, .int 0, .int (-1)])), (q_6, .inr (0, [.int 2, .int 0, .int 0, .int 0, .int 0, .int (-1)]))] H := hP
  have hD : va_D A [(h0, .inr (5, [.ref q_1, .ref q_3, .null, .null, .null, .int 0, .int 0, .int 0, .int 0, .int 0])), (q_1, .inr (4, [.ref hd, .ref jm])), (hd, .inl (cI, 96, .inl (fun _ => 0))), (jm, .inl (cZ, 4, .inl (fun _ => 0))), (q_3, .inl (y_3, 2, .inr (.inr (.inr (.inr (va_up (va_up (fun _ => none) 0 (some q_4)) 1 (some q_6))))))), (q_4, .inr (0, [.int 2, .int 0, .int 0, .int 0, .int 0, .int (-1)])), (q_6, .inr (0, [.int 2, .int 0, .int 0, .int 0, .int 0, .int (-1)]))] := hD
  refine lv_iinc (v := 2) (lv' := [(1, .int 2), (0, .ref h0)]) hx hb dX7_init_43 hl (k := 0) rfl (by decide) (by decide) rfl (fun ls hl => ?_)
  refine lv_goto (tgt := 25) hx hb dX7_init_46 (by decide) ?_
  refine lv_iload_n hx hb dX7_init_25 rfl (lv_at hl 0 rfl) ?_
  refine lv_iconst (v := 2) hx hb dX7_init_26 (by decide) ?_
  refine lv_icmp_ge (tgt := 49) hx hb dX7_init_27 (by decide) (fun _ => ?_) (fun c => absurd (by decide) c)
  refine lv_aload_n hx hb dX7_init_49 rfl (lv_at hl 1 rfl) ?_
  refine va_new (ci := 2) (fs := [.null, .null, .null, .int 0]) (C := RX3) (T := TX3) (N := 4) hx hb hts iX3 tyX3 tyX3_ok hown (hts (.classLink RX7 23 RX3) (by decide +kernel)) (hts (.instantiable RX3 4) (by decide +kernel)) (hts (.initialized RX3) (by decide +kernel)) hK hP hD hS hA rfl (fun j hj => by rcases (show j = 0 ∨ j = 1 ∨ j = 2 ∨ j = 3 by omega) with rfl | rfl | rfl | rfl <;> rfl) (Nat.le_of_ble_eq_true rfl) (Nat.le_of_ble_eq_true rfl) dX7_init_50 (fun q_8 H hP hD hS => ?_)
  have hP : va_P (dC, dI) vwCl [(h0, .inr (5, [.ref q_1, .ref q_3, .null, .null, .null, .int 0, .int 0, .int 0, .int 0, .int 0])), (q_1, .inr (4, [.ref hd, .ref jm])), (hd, .inl (cI, 96, .inl (fun _ => 0))), (jm, .inl (cZ, 4, .inl (fun _ => 0))), (q_3, .inl (y_3, 2, .inr (.inr (.inr (.inr (va_up (va_up (fun _ => none) 0 (some q_4)) 1 (some q_6))))))), (q_4, .inr (0, [.int 2, .int 0, .int 0, .int 0, .int 0, .int (-1)])), (q_6, .inr (0, [.int 2, .int 0, .int 0, .int 0, .int 0, .int (-1)])), (q_8, .inr (2, [.null, .null, .null, .int 0]))] H := hP
  have hD : va_D A [(h0, .inr (5, [.ref q_1, .ref q_3, .null, .null, .null, .int 0, .int 0, .int 0, .int 0, .int 0])), (q_1, .inr (4, [.ref hd, .ref jm])), (hd, .inl (cI, 96, .inl (fun _ => 0))), (jm, .inl (cZ, 4, .inl (fun _ => 0))), (q_3, .inl (y_3, 2, .inr (.inr (.inr (.inr (va_up (va_up (fun _ => none) 0 (some q_4)) 1 (some q_6))))))), (q_4, .inr (0, [.int 2, .int 0, .int 0, .int 0, .int 0, .int (-1)])), (q_6, .inr (0, [.int 2, .int 0, .int 0, .int 0, .int 0, .int (-1)])), (q_8, .inr (2, [.null, .null, .null, .int 0]))] := hD
  refine W.widen (k := 7) (n := 120) (by omega) (by omega) ?_
  refine lv_dup hx hb dX7_init_53 rfl ?_
  have hPc := hP.sub (ws' := [(q_8, .inr (2, [.null, .null, .null, .int 0]))]) [7] rfl
  have hDc := hD.sub (ws' := [(q_8, .inr (2, [.null, .null, .null, .int 0]))]) [7] (by decide) rfl
  have hKc := hK.sub (tys' := []) [] rfl
  have hFc := va_free (wc := [(q_8, .inr (2, [.null, .null, .null, .int 0]))]) hD hS hA [7] rfl
  refine va_callv (va_runI (As := []) (rest := [.ref q_8, .ref h0]) ⟨hx, hb, hml, hown, hts⟩ (n_Orders l dC dI _ q_8) (cwI 0 hts gX7_init_X3_init rfl rfl rfl (hts (.initialized RX3) (by decide +kernel)) (hts (.methodLink RX7 25 yX3_init) (by decide +kernel)) (hts (.instanceMethod yX3_init) (by decide +kernel)) rfl (by decide +kernel) ⟨Nat.le_of_ble_eq_true rfl, Nat.le_of_ble_eq_true rfl⟩) ⟨pt_blindQ, pt_preQ hPc hKc hDc hN⟩ rfl rfl hl.1 rfl (lv_room (Nat.le_of_ble_eq_true rfl)) dX7_init_54 ⟨Nat.le_of_ble_eq_true rfl, Nat.le_of_ble_eq_true rfl⟩) hS (fun q _ h => hFc q h) hFc (fun u_9 t H1 locs ht hvm hw_9 hB hz1 hk1 hS => ?_)
  obtain ⟨o1, o2, o3, hP1, hK1, hD1⟩ := hB
  rw [ht] at hP1
  have hK1 := va_K.moved hvm.symm hK1
  obtain ⟨hP, hD⟩ := va_join (wr := [(h0, .inr (5, [.ref q_1, .ref q_3, .null, .null, .null, .int 0, .int 0, .int 0, .int 0, .int 0])), (q_1, .inr (4, [.ref hd, .ref jm])), (hd, .inl (cI, 96, .inl (fun _ => 0))), (jm, .inl (cZ, 4, .inl (fun _ => 0))), (q_3, .inl (y_3, 2, .inr (.inr (.inr (.inr (va_up (va_up (fun _ => none) 0 (some q_4)) 1 (some q_6))))))), (q_4, .inr (0, [.int 2, .int 0, .int 0, .int 0, .int 0, .int (-1)])), (q_6, .inr (0, [.int 2, .int 0, .int 0, .int 0, .int 0, .int (-1)]))]) (w1 := [(q_8, .inr (2, [.ref o1, .ref o2, .ref o3, .int 0]))]) hP hD [7] [0, 1, 2, 3, 4, 5, 6] rfl rfl (by decide) (by decide) hk1 hFc hP1 hD1
  have hK := hK.app hK1
  generalize H1 = H at hP hS ⊢
  have hP : va_P (dC, dI) vwCl [(h0, .inr (5, [.ref q_1, .ref q_3, .null, .null, .null, .int 0, .int 0, .int 0, .int 0, .int 0])), (q_1, .inr (4, [.ref hd, .ref jm])), (hd, .inl (cI, 96, .inl (fun _ => 0))), (jm, .inl (cZ, 4, .inl (fun _ => 0))), (q_3, .inl (y_3, 2, .inr (.inr (.inr (.inr (va_up (va_up (fun _ => none) 0 (some q_4)) 1 (some q_6))))))), (q_4, .inr (0, [.int 2, .int 0, .int 0, .int 0, .int 0, .int (-1)])), (q_6, .inr (0, [.int 2, .int 0, .int 0, .int 0, .int 0, .int (-1)])), (q_8, .inr (2, [.ref o1, .ref o2, .ref o3, .int 0]))] H := hP
  have hD : va_D A [(h0, .inr (5, [.ref q_1, .ref q_3, .null, .null, .null, .int 0, .int 0, .int 0, .int 0, .int 0])), (q_1, .inr (4, [.ref hd, .ref jm])), (hd, .inl (cI, 96, .inl (fun _ => 0))), (jm, .inl (cZ, 4, .inl (fun _ => 0))), (q_3, .inl (y_3, 2, .inr (.inr (.inr (.inr (va_up (va_up (fun _ => none) 0 (some q_4)) 1 (some q_6))))))), (q_4, .inr (0, [.int 2, .int 0, .int 0, .int 0, .int 0, .int (-1)])), (q_6, .inr (0, [.int 2, .int 0, .int 0, .int 0, .int 0, .int (-1)])), (q_8, .inr (2, [.ref o1, .ref o2, .ref o3, .int 0]))] := hD
  have hK : va_K (dC, dI) vwCl [(cI, .int), (cZ, .boolean), (y_3, .object "ParkTower$Bay")] s := hK
  refine W.widen (k := 10) (n := 192) (by omega) (by omega) ?_
  refine va_putF (D := (dC, dI)) (ci := 5) (v := .ref q_8) (ty := .object "ParkTower$Orders") (C := RX7) (T := TX7) (N := 10) hx hb hts iX7 tyX7 tyX7_ok nmX7 hown hK hP hD hS 0 rfl rfl 2 (by decide) (hts (.fieldLink RX7 26 "ParkTower" "orders" "LParkTower$Orders;") (by decide +kernel)) (fun _ h9 => h9) rfl hin rfl (by decide +kernel) rfl rfl (Nat.le_of_ble_eq_true rfl) dX7_init_57 (fun H locs hP hD hS => ?_)
  have hP : va_P (dC, dI) vwCl [(h0, .inr (5, [.ref q_1, .ref q_3, .ref q_8, .null, .null, .int 0, .int 0, .int 0, .int 0, .int 0])), (q_1, .inr (4, [.ref hd, .ref jm])), (hd, .inl (cI, 96, .inl (fun _ => 0))), (jm, .inl (cZ, 4, .inl (fun _ => 0))), (q_3, .inl (y_3, 2, .inr (.inr (.inr (.inr (va_up (va_up (fun _ => none) 0 (some q_4)) 1 (some q_6))))))), (q_4, .inr (0, [.int 2, .int 0, .int 0, .int 0, .int 0, .int (-1)])), (q_6, .inr (0, [.int 2, .int 0, .int 0, .int 0, .int 0, .int (-1)])), (q_8, .inr (2, [.ref o1, .ref o2, .ref o3, .int 0]))] H := hP
  have hD : va_D A [(h0, .inr (5, [.ref q_1, .ref q_3, .ref q_8, .null, .null, .int 0, .int 0, .int 0, .int 0, .int 0])), (q_1, .inr (4, [.ref hd, .ref jm])), (hd, .inl (cI, 96, .inl (fun _ => 0))), (jm, .inl (cZ, 4, .inl (fun _ => 0))), (q_3, .inl (y_3, 2, .inr (.inr (.inr (.inr (va_up (va_up (fun _ => none) 0 (some q_4)) 1 (some q_6))))))), (q_4, .inr (0, [.int 2, .int 0, .int 0, .int 0, .int 0, .int (-1)])), (q_6, .inr (0, [.int 2, .int 0, .int 0, .int 0, .int 0, .int (-1)])), (q_8, .inr (2, [.ref o1, .ref o2, .ref o3, .int 0]))] := hD
  refine lv_aload_n hx hb dX7_init_60 rfl (lv_at hl 1 rfl) ?_
  refine va_new (ci := 1) (fs := [.null, .int 0, .int 0, .int 0, .int 0]) (C := RX2) (T := TX2) (N := 5) hx hb hts iX2 tyX2 tyX2_ok hown (hts (.classLink RX7 30 RX2) (by decide +kernel)) (hts (.instantiable RX2 5) (by decide +kernel)) (hts (.initialized RX2) (by decide +kernel)) hK hP hD hS hA rfl (fun j hj => by rcases (show j = 0 ∨ j = 1 ∨ j = 2 ∨ j = 3 ∨ j = 4 by omega) with rfl | rfl | rfl | rfl | rfl <;> rfl) (Nat.le_of_ble_eq_true rfl) (Nat.le_of_ble_eq_true rfl) dX7_init_61 (fun q_10 H hP hD hS => ?_)
  have hP : va_P (dC, dI) vwCl [(h0, .inr (5, [.ref q_1, .ref q_3, .ref q_8, .null, .null, .int 0, .int 0, .int 0, .int 0, .int 0])), (q_1, .inr (4, [.ref hd, .ref jm])), (hd, .inl (cI, 96, .inl (fun _ => 0))), (jm, .inl (cZ, 4, .inl (fun _ => 0))), (q_3, .inl (y_3, 2, .inr (.inr (.inr (.inr (va_up (va_up (fun _ => none) 0 (some q_4)) 1 (some q_6))))))), (q_4, .inr (0, [.int 2, .int 0, .int 0, .int 0, .int 0, .int (-1)])), (q_6, .inr (0, [.int 2, .int 0, .int 0, .int 0, .int 0, .int (-1)])), (q_8, .inr (2, [.ref o1, .ref o2, .ref o3, .int 0])), (q_10, .inr (1, [.null, .int 0, .int 0, .int 0, .int 0]))] H := hP
  have hD : va_D A [(h0, .inr (5, [.ref q_1, .ref q_3, .ref q_8, .null, .null, .int 0, .int 0, .int 0, .int 0, .int 0])), (q_1, .inr (4, [.ref hd, .ref jm])), (hd, .inl (cI, 96, .inl (fun _ => 0))), (jm, .inl (cZ, 4, .inl (fun _ => 0))), (q_3, .inl (y_3, 2, .inr (.inr (.inr (.inr (va_up (va_up (fun _ => none) 0 (some q_4)) 1 (some q_6))))))), (q_4, .inr (0, [.int 2, .int 0, .int 0, .int 0, .int 0, .int (-1)])), (q_6, .inr (0, [.int 2, .int 0, .int 0, .int 0, .int 0, .int (-1)])), (q_8, .inr (2, [.ref o1, .ref o2, .ref o3, .int 0])), (q_10, .inr (1, [.null, .int 0, .int 0, .int 0, .int 0]))] := hD
  refine W.widen (k := 11) (n := 197) (by omega) (by omega) ?_
  refine lv_dup hx hb dX7_init_64 rfl ?_
  have hPc := hP.sub (ws' := [(q_10, .inr (1, [.null, .int 0, .int 0, .int 0, .int 0]))]) [8] rfl
  have hDc := hD.sub (ws' := [(q_10, .inr (1, [.null, .int 0, .int 0, .int 0, .int 0]))]) [8] (by decide) rfl
  have hKc := hK.sub (tys' := []) [] rfl
  have hFc := va_free (wc := [(q_10, .inr (1, [.null, .int 0, .int 0, .int 0, .int 0]))]) hD hS hA [8] rfl
  refine va_callv (va_runI (As := []) (rest := [.ref q_10, .ref h0]) ⟨hx, hb, hml, hown, hts⟩ (n_Job l dC dI _ q_10) (cwI 0 hts gX7_init_X2_init rfl rfl rfl (hts (.initialized RX2) (by decide +kernel)) (hts (.methodLink RX7 32 yX2_init) (by decide +kernel)) (hts (.instanceMethod yX2_init) (by decide +kernel)) rfl (by decide +kernel) ⟨Nat.le_of_ble_eq_true rfl, Nat.le_of_ble_eq_true rfl⟩) ⟨pt_blindQ, pt_preQ hPc hKc hDc hN⟩ rfl rfl hl.1 rfl (lv_room (Nat.le_of_ble_eq_true rfl)) dX7_init_65 ⟨Nat.le_of_ble_eq_true rfl, Nat.le_of_ble_eq_true rfl⟩) hS (fun q _ h => hFc q h) hFc (fun u_11 t H1 locs ht hvm hw_11 hB hz1 hk1 hS => ?_)
  obtain ⟨pl, hP1, hK1, hD1⟩ := hB
  rw [ht] at hP1
  have hK1 := va_K.moved hvm.symm hK1
  obtain ⟨hP, hD⟩ := va_join (wr := [(h0, .inr (5, [.ref q_1, .ref q_3, .ref q_8, .null, .null, .int 0, .int 0, .int 0, .int 0, .int 0])), (q_1, .inr (4, [.ref hd, .ref jm])), (hd, .inl (cI, 96, .inl (fun _ => 0))), (jm, .inl (cZ, 4, .inl (fun _ => 0))), (q_3, .inl (y_3, 2, .inr (.inr (.inr (.inr (va_up (va_up (fun _ => none) 0 (some q_4)) 1 (some q_6))))))), (q_4, .inr (0, [.int 2, .int 0, .int 0, .int 0, .int 0, .int (-1)])), (q_6, .inr (0, [.int 2, .int 0, .int 0, .int 0, .int 0, .int (-1)])), (q_8, .inr (2, [.ref o1, .ref o2, .ref o3, .int 0]))]) (w1 := [(q_10, .inr (1, [.ref pl, .int (-1), .int 0, .int 0, .int 0]))]) hP hD [8] [0, 1, 2, 3, 4, 5, 6, 7] rfl rfl (by decide) (by decide) hk1 hFc hP1 hD1
  have hK := hK.app hK1
  generalize H1 = H at hP hS ⊢
  have hP : va_P (dC, dI) vwCl [(h0, .inr (5, [.ref q_1, .ref q_3, .ref q_8, .null, .null, .int 0, .int 0, .int 0, .int 0, .int 0])), (q_1, .inr (4, [.ref hd, .ref jm])), (hd, .inl (cI, 96, .inl (fun _ => 0))), (jm, .inl (cZ, 4, .inl (fun _ => 0))), (q_3, .inl (y_3, 2, .inr (.inr (.inr (.inr (va_up (va_up (fun _ => none) 0 (some q_4)) 1 (some q_6))))))), (q_4, .inr (0, [.int 2, .int 0, .int 0, .int 0, .int 0, .int (-1)])), (q_6, .inr (0, [.int 2, .int 0, .int 0, .int 0, .int 0, .int (-1)])), (q_8, .inr (2, [.ref o1, .ref o2, .ref o3, .int 0])), (q_10, .inr (1, [.ref pl, .int (-1), .int 0, .int 0, .int 0]))] H := hP
  have hD : va_D A [(h0, .inr (5, [.ref q_1, .ref q_3, .ref q_8, .null, .null, .int 0, .int 0, .int 0, .int 0, .int 0])), (q_1, .inr (4, [.ref hd, .ref jm])), (hd, .inl (cI, 96, .inl (fun _ => 0))), (jm, .inl (cZ, 4, .inl (fun _ => 0))), (q_3, .inl (y_3, 2, .inr (.inr (.inr (.inr (va_up (va_up (fun _ => none) 0 (some q_4)) 1 (some q_6))))))), (q_4, .inr (0, [.int 2, .int 0, .int 0, .int 0, .int 0, .int (-1)])), (q_6, .inr (0, [.int 2, .int 0, .int 0, .int 0, .int 0, .int (-1)])), (q_8, .inr (2, [.ref o1, .ref o2, .ref o3, .int 0])), (q_10, .inr (1, [.ref pl, .int (-1), .int 0, .int 0, .int 0]))] := hD
  have hK : va_K (dC, dI) vwCl [(cI, .int), (cZ, .boolean), (y_3, .object "ParkTower$Bay")] s := hK
  refine W.widen (k := 14) (n := 204) (by omega) (by omega) ?_
  refine va_putF (D := (dC, dI)) (ci := 5) (v := .ref q_10) (ty := .object "ParkTower$Job") (C := RX7) (T := TX7) (N := 10) hx hb hts iX7 tyX7 tyX7_ok nmX7 hown hK hP hD hS 0 rfl rfl 3 (by decide) (hts (.fieldLink RX7 33 "ParkTower" "job" "LParkTower$Job;") (by decide +kernel)) (fun _ h9 => h9) rfl hin rfl (by decide +kernel) rfl rfl (Nat.le_of_ble_eq_true rfl) dX7_init_68 (fun H locs hP hD hS => ?_)
  have hP : va_P (dC, dI) vwCl [(h0, .inr (5, [.ref q_1, .ref q_3, .ref q_8, .ref q_10, .null, .int 0, .int 0, .int 0, .int 0, .int 0])), (q_1, .inr (4, [.ref hd, .ref jm])), (hd, .inl (cI, 96, .inl (fun _ => 0))), (jm, .inl (cZ, 4, .inl (fun _ => 0))), (q_3, .inl (y_3, 2, .inr (.inr (.inr (.inr (va_up (va_up (fun _ => none) 0 (some q_4)) 1 (some q_6))))))), (q_4, .inr (0, [.int 2, .int 0, .int 0, .int 0, .int 0, .int (-1)])), (q_6, .inr (0, [.int 2, .int 0, .int 0, .int 0, .int 0, .int (-1)])), (q_8, .inr (2, [.ref o1, .ref o2, .ref o3, .int 0])), (q_10, .inr (1, [.ref pl, .int (-1), .int 0, .int 0, .int 0]))] H := hP
  have hD : va_D A [(h0, .inr (5, [.ref q_1, .ref q_3, .ref q_8, .ref q_10, .null, .int 0, .int 0, .int 0, .int 0, .int 0])), (q_1, .inr (4, [.ref hd, .ref jm])), (hd, .inl (cI, 96, .inl (fun _ => 0))), (jm, .inl (cZ, 4, .inl (fun _ => 0))), (q_3, .inl (y_3, 2, .inr (.inr (.inr (.inr (va_up (va_up (fun _ => none) 0 (some q_4)) 1 (some q_6))))))), (q_4, .inr (0, [.int 2, .int 0, .int 0, .int 0, .int 0, .int (-1)])), (q_6, .inr (0, [.int 2, .int 0, .int 0, .int 0, .int 0, .int (-1)])), (q_8, .inr (2, [.ref o1, .ref o2, .ref o3, .int 0])), (q_10, .inr (1, [.ref pl, .int (-1), .int 0, .int 0, .int 0]))] := hD
  refine lv_aload_n hx hb dX7_init_71 rfl (lv_at hl 1 rfl) ?_
  refine va_new (ci := 3) (fs := [.null, .null, .int 0]) (C := RX4) (T := TX4) (N := 3) hx hb hts iX4 tyX4 tyX4_ok hown (hts (.classLink RX7 37 RX4) (by decide +kernel)) (hts (.instantiable RX4 3) (by decide +kernel)) (hts (.initialized RX4) (by decide +kernel)) hK hP hD hS hA rfl (fun j hj => by rcases (show j = 0 ∨ j = 1 ∨ j = 2 by omega) with rfl | rfl | rfl <;> rfl) (Nat.le_of_ble_eq_true rfl) (Nat.le_of_ble_eq_true rfl) dX7_init_72 (fun q_12 H hP hD hS => ?_)
  have hP : va_P (dC, dI) vwCl [(h0, .inr (5, [.ref q_1, .ref q_3, .ref q_8, .ref q_10, .null, .int 0, .int 0, .int 0, .int 0, .int 0])), (q_1, .inr (4, [.ref hd, .ref jm])), (hd, .inl (cI, 96, .inl (fun _ => 0))), (jm, .inl (cZ, 4, .inl (fun _ => 0))), (q_3, .inl (y_3, 2, .inr (.inr (.inr (.inr (va_up (va_up (fun _ => none) 0 (some q_4)) 1 (some q_6))))))), (q_4, .inr (0, [.int 2, .int 0, .int 0, .int 0, .int 0, .int (-1)])), (q_6, .inr (0, [.int 2, .int 0, .int 0, .int 0, .int 0, .int (-1)])), (q_8, .inr (2, [.ref o1, .ref o2, .ref o3, .int 0])), (q_10, .inr (1, [.ref pl, .int (-1), .int 0, .int 0, .int 0])), (q_12, .inr (3, [.null, .null, .int 0]))] H := hP
  have hD : va_D A [(h0, .inr (5, [.ref q_1, .ref q_3, .ref q_8, .ref q_10, .null, .int 0, .int 0, .int 0, .int 0, .int 0])), (q_1, .inr (4, [.ref hd, .ref jm])), (hd, .inl (cI, 96, .inl (fun _ => 0))), (jm, .inl (cZ, 4, .inl (fun _ => 0))), (q_3, .inl (y_3, 2, .inr (.inr (.inr (.inr (va_up (va_up (fun _ => none) 0 (some q_4)) 1 (some q_6))))))), (q_4, .inr (0, [.int 2, .int 0, .int 0, .int 0, .int 0, .int (-1)])), (q_6, .inr (0, [.int 2, .int 0, .int 0, .int 0, .int 0, .int (-1)])), (q_8, .inr (2, [.ref o1, .ref o2, .ref o3, .int 0])), (q_10, .inr (1, [.ref pl, .int (-1), .int 0, .int 0, .int 0])), (q_12, .inr (3, [.null, .null, .int 0]))] := hD
  refine W.widen (k := 15) (n := 207) (by omega) (by omega) ?_
  refine lv_dup hx hb dX7_init_75 rfl ?_
  have hPc := hP.sub (ws' := [(q_12, .inr (3, [.null, .null, .int 0]))]) [9] rfl
  have hDc := hD.sub (ws' := [(q_12, .inr (3, [.null, .null, .int 0]))]) [9] (by decide) rfl
  have hKc := hK.sub (tys' := []) [] rfl
  have hFc := va_free (wc := [(q_12, .inr (3, [.null, .null, .int 0]))]) hD hS hA [9] rfl
  refine va_callv (va_runI (As := []) (rest := [.ref q_12, .ref h0]) ⟨hx, hb, hml, hown, hts⟩ (n_Plan l dC dI _ q_12) (cwI 0 hts gX7_init_X4_init rfl rfl rfl (hts (.initialized RX4) (by decide +kernel)) (hts (.methodLink RX7 39 yX4_init) (by decide +kernel)) (hts (.instanceMethod yX4_init) (by decide +kernel)) rfl (by decide +kernel) ⟨Nat.le_of_ble_eq_true rfl, Nat.le_of_ble_eq_true rfl⟩) ⟨pt_blindQ, pt_preQ hPc hKc hDc hN⟩ rfl rfl hl.1 rfl (lv_room (Nat.le_of_ble_eq_true rfl)) dX7_init_76 ⟨Nat.le_of_ble_eq_true rfl, Nat.le_of_ble_eq_true rfl⟩) hS (fun q _ h => hFc q h) hFc (fun u_13 t H1 locs ht hvm hw_13 hB hz1 hk1 hS => ?_)
  obtain ⟨hP1, hK1, hD1⟩ := hB
  rw [ht] at hP1
  have hK1 := va_K.moved hvm.symm hK1
  obtain ⟨hP, hD⟩ := va_join (wr := [(h0, .inr (5, [.ref q_1, .ref q_3, .ref q_8, .ref q_10, .null, .int 0, .int 0, .int 0, .int 0, .int 0])), (q_1, .inr (4, [.ref hd, .ref jm])), (hd, .inl (cI, 96, .inl (fun _ => 0))), (jm, .inl (cZ, 4, .inl (fun _ => 0))), (q_3, .inl (y_3, 2, .inr (.inr (.inr (.inr (va_up (va_up (fun _ => none) 0 (some q_4)) 1 (some q_6))))))), (q_4, .inr (0, [.int 2, .int 0, .int 0, .int 0, .int 0, .int (-1)])), (q_6, .inr (0, [.int 2, .int 0, .int 0, .int 0, .int 0, .int (-1)])), (q_8, .inr (2, [.ref o1, .ref o2, .ref o3, .int 0])), (q_10, .inr (1, [.ref pl, .int (-1), .int 0, .int 0, .int 0]))]) (w1 := []) hP hD [9] [0, 1, 2, 3, 4, 5, 6, 7, 8] rfl rfl (by decide) (by decide) hk1 hFc hP1 hD1
  have hK := hK.app hK1
  generalize H1 = H at hP hS ⊢
  have hP : va_P (dC, dI) vwCl [(h0, .inr (5, [.ref q_1, .ref q_3, .ref q_8, .ref q_10, .null, .int 0, .int 0, .int 0, .int 0, .int 0])), (q_1, .inr (4, [.ref hd, .ref jm])), (hd, .inl (cI, 96, .inl (fun _ => 0))), (jm, .inl (cZ, 4, .inl (fun _ => 0))), (q_3, .inl (y_3, 2, .inr (.inr (.inr (.inr (va_up (va_up (fun _ => none) 0 (some q_4)) 1 (some q_6))))))), (q_4, .inr (0, [.int 2, .int 0, .int 0, .int 0, .int 0, .int (-1)])), (q_6, .inr (0, [.int 2, .int 0, .int 0, .int 0, .int 0, .int (-1)])), (q_8, .inr (2, [.ref o1, .ref o2, .ref o3, .int 0])), (q_10, .inr (1, [.ref pl, .int (-1), .int 0, .int 0, .int 0]))] H := hP
  have hD : va_D A [(h0, .inr (5, [.ref q_1, .ref q_3, .ref q_8, .ref q_10, .null, .int 0, .int 0, .int 0, .int 0, .int 0])), (q_1, .inr (4, [.ref hd, .ref jm])), (hd, .inl (cI, 96, .inl (fun _ => 0))), (jm, .inl (cZ, 4, .inl (fun _ => 0))), (q_3, .inl (y_3, 2, .inr (.inr (.inr (.inr (va_up (va_up (fun _ => none) 0 (some q_4)) 1 (some q_6))))))), (q_4, .inr (0, [.int 2, .int 0, .int 0, .int 0, .int 0, .int (-1)])), (q_6, .inr (0, [.int 2, .int 0, .int 0, .int 0, .int 0, .int (-1)])), (q_8, .inr (2, [.ref o1, .ref o2, .ref o3, .int 0])), (q_10, .inr (1, [.ref pl, .int (-1), .int 0, .int 0, .int 0]))] := hD
  have hK : va_K (dC, dI) vwCl [(cI, .int), (cZ, .boolean), (y_3, .object "ParkTower$Bay")] s := hK
  refine W.widen (k := 17) (n := 211) (by omega) (by omega) ?_
  refine va_putF (D := (dC, dI)) (ci := 5) (v := .ref q_12) (ty := .object "ParkTower$Plan") (C := RX7) (T := TX7) (N := 10) hx hb hts iX7 tyX7 tyX7_ok nmX7 hown hK hP hD hS 0 rfl rfl 4 (by decide) (hts (.fieldLink RX7 40 "ParkTower" "askedPlan" "LParkTower$Plan;") (by decide +kernel)) (fun _ h9 => h9) rfl hin rfl (by decide +kernel) rfl rfl (Nat.le_of_ble_eq_true rfl) dX7_init_79 (fun H locs hP hD hS => ?_)
  have hP : va_P (dC, dI) vwCl [(h0, .inr (5, [.ref q_1, .ref q_3, .ref q_8, .ref q_10, .ref q_12, .int 0, .int 0, .int 0, .int 0, .int 0])), (q_1, .inr (4, [.ref hd, .ref jm])), (hd, .inl (cI, 96, .inl (fun _ => 0))), (jm, .inl (cZ, 4, .inl (fun _ => 0))), (q_3, .inl (y_3, 2, .inr (.inr (.inr (.inr (va_up (va_up (fun _ => none) 0 (some q_4)) 1 (some q_6))))))), (q_4, .inr (0, [.int 2, .int 0, .int 0, .int 0, .int 0, .int (-1)])), (q_6, .inr (0, [.int 2, .int 0, .int 0, .int 0, .int 0, .int (-1)])), (q_8, .inr (2, [.ref o1, .ref o2, .ref o3, .int 0])), (q_10, .inr (1, [.ref pl, .int (-1), .int 0, .int 0, .int 0]))] H := hP
  have hD : va_D A [(h0, .inr (5, [.ref q_1, .ref q_3, .ref q_8, .ref q_10, .ref q_12, .int 0, .int 0, .int 0, .int 0, .int 0])), (q_1, .inr (4, [.ref hd, .ref jm])), (hd, .inl (cI, 96, .inl (fun _ => 0))), (jm, .inl (cZ, 4, .inl (fun _ => 0))), (q_3, .inl (y_3, 2, .inr (.inr (.inr (.inr (va_up (va_up (fun _ => none) 0 (some q_4)) 1 (some q_6))))))), (q_4, .inr (0, [.int 2, .int 0, .int 0, .int 0, .int 0, .int (-1)])), (q_6, .inr (0, [.int 2, .int 0, .int 0, .int 0, .int 0, .int (-1)])), (q_8, .inr (2, [.ref o1, .ref o2, .ref o3, .int 0])), (q_10, .inr (1, [.ref pl, .int (-1), .int 0, .int 0, .int 0]))] := hD
  refine lv_aload_n hx hb dX7_init_82 rfl (lv_at hl 1 rfl) ?_
  refine lv_iconst (v := 1) hx hb dX7_init_83 (by decide) ?_
  refine va_put (D := (dC, dI)) (ci := 5) (v := .int 1) (ty := .boolean) (C := RX7) (T := TX7) (N := 10) hx hb hts iX7 tyX7 tyX7_ok nmX7 hown hK hP hD hS 0 rfl rfl 6 (by decide) (hts (.fieldLink RX7 44 "ParkTower" "powered" "Z") (by decide +kernel)) (fun _ h9 => h9) rfl (by decide +kernel) rfl rfl (Nat.le_of_ble_eq_true rfl) dX7_init_84 (fun H locs hP hD hS => ?_)
  have hP : va_P (dC, dI) vwCl [(h0, .inr (5, [.ref q_1, .ref q_3, .ref q_8, .ref q_10, .ref q_12, .int 0, .int 1, .int 0, .int 0, .int 0])), (q_1, .inr (4, [.ref hd, .ref jm])), (hd, .inl (cI, 96, .inl (fun _ => 0))), (jm, .inl (cZ, 4, .inl (fun _ => 0))), (q_3, .inl (y_3, 2, .inr (.inr (.inr (.inr (va_up (va_up (fun _ => none) 0 (some q_4)) 1 (some q_6))))))), (q_4, .inr (0, [.int 2, .int 0, .int 0, .int 0, .int 0, .int (-1)])), (q_6, .inr (0, [.int 2, .int 0, .int 0, .int 0, .int 0, .int (-1)])), (q_8, .inr (2, [.ref o1, .ref o2, .ref o3, .int 0])), (q_10, .inr (1, [.ref pl, .int (-1), .int 0, .int 0, .int 0]))] H := hP
  have hD : va_D A [(h0, .inr (5, [.ref q_1, .ref q_3, .ref q_8, .ref q_10, .ref q_12, .int 0, .int 1, .int 0, .int 0, .int 0])), (q_1, .inr (4, [.ref hd, .ref jm])), (hd, .inl (cI, 96, .inl (fun _ => 0))), (jm, .inl (cZ, 4, .inl (fun _ => 0))), (q_3, .inl (y_3, 2, .inr (.inr (.inr (.inr (va_up (va_up (fun _ => none) 0 (some q_4)) 1 (some q_6))))))), (q_4, .inr (0, [.int 2, .int 0, .int 0, .int 0, .int 0, .int (-1)])), (q_6, .inr (0, [.int 2, .int 0, .int 0, .int 0, .int 0, .int (-1)])), (q_8, .inr (2, [.ref o1, .ref o2, .ref o3, .int 0])), (q_10, .inr (1, [.ref pl, .int (-1), .int 0, .int 0, .int 0]))] := hD
  have hP9 := hP.sub (ws' := [(h0, .inr (5, [.ref q_1, .ref q_3, .ref q_8, .ref q_10, .ref q_12, .int 0, .int 1, .int 0, .int 0, .int 0])), (q_1, .inr (4, [.ref hd, .ref jm])), (hd, .inl (cI, 96, .inl (fun _ => 0))), (jm, .inl (cZ, 4, .inl (fun _ => 0))), (q_3, .inl (y_3, 2, .inr (.inr (.inr (.inr (va_up (va_up (fun _ => none) 0 (some q_4)) 1 (some q_6))))))), (q_4, .inr (0, [.int 2, .int 0, .int 0, .int 0, .int 0, .int (-1)])), (q_6, .inr (0, [.int 2, .int 0, .int 0, .int 0, .int 0, .int (-1)])), (q_8, .inr (2, [.ref o1, .ref o2, .ref o3, .int 0])), (q_10, .inr (1, [.ref pl, .int (-1), .int 0, .int 0, .int 0]))]) [0, 1, 2, 3, 4, 5, 6, 7, 8] rfl
  have hD9 := hD.sub (ws' := [(h0, .inr (5, [.ref q_1, .ref q_3, .ref q_8, .ref q_10, .ref q_12, .int 0, .int 1, .int 0, .int 0, .int 0])), (q_1, .inr (4, [.ref hd, .ref jm])), (hd, .inl (cI, 96, .inl (fun _ => 0))), (jm, .inl (cZ, 4, .inl (fun _ => 0))), (q_3, .inl (y_3, 2, .inr (.inr (.inr (.inr (va_up (va_up (fun _ => none) 0 (some q_4)) 1 (some q_6))))))), (q_4, .inr (0, [.int 2, .int 0, .int 0, .int 0, .int 0, .int (-1)])), (q_6, .inr (0, [.int 2, .int 0, .int 0, .int 0, .int 0, .int (-1)])), (q_8, .inr (2, [.ref o1, .ref o2, .ref o3, .int 0])), (q_10, .inr (1, [.ref pl, .int (-1), .int 0, .int 0, .int 0]))]) [0, 1, 2, 3, 4, 5, 6, 7, 8] (by decide) rfl
  have hK9 := hK.sub (tys' := [(cI, .int), (cZ, .boolean), (y_3, .object "ParkTower$Bay")]) [0, 1, 2] rfl
  refine W.widen (k := 17) (n := 211) (by omega) (by omega) ?_
  exact W.vret hx hb hr (fun t ht hW => ⟨⟨(), rfl, trivial, q_1, hd, jm, q_3, q_4, q_6, q_8, o1, o2, o3, q_10, pl, q_12, cI, cZ, y_3, by rw [ht]; exact hP9, va_K.moved hW.alike hK9, hD9⟩, hS.F ht⟩) hS.2.2 dX7_init_87
