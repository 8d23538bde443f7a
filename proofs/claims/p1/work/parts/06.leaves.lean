set_option maxHeartbeats 4000000 in
set_option maxRecDepth 100000 in
theorem c_holds (l : Launch) (dC : Nat → ClassId) (dI : Nat → Nat → Nat) (b : Nat) : Met l yX1_holdsCarWithoutOrder wsX1_holdsCarWithoutOrder ({ frames := 0, cells := 0, slots := 0, locals := 0 }) (va_Pc [.ref b] (pt_B (dC, dI) [(b, .inr (0, [.int 2, .int 0, .int 0, .int 0, .int 0, .int (-1)]))] [])) (vp_Si (fun r : Int32 => r = 0)) 0 0 (fun _ => False) := by
  refine Met.ofW (cc := cX1_holdsCarWithoutOrder) (maxL := 1) (ret := (some .boolean)) (by decide) rfl ?_
  intro p e s m args below meth c s₁ B hml hv
  obtain ⟨rfl, hP, hK, hN⟩ := hv
  have hx := B.exec
  have hb := B.bytes
  have hr := B.returns
  have hts := atoms_spec (ws := wsX1_holdsCarWithoutOrder) B.pre
  have hown : s.vm.findClass RX1 = some m.cls := findClass_of_methodNamed B.named
  have hlocks := B.notSynchronized
  have iX1 : ∀ w ∈ wsX10, w ∈ wsX1_holdsCarWithoutOrder := by decide +kernel
  have hP : va_P (dC, dI) vwCl [(b, .inr (0, [.int 2, .int 0, .int 0, .int 0, .int 0, .int (-1)]))] s.heap := hP
  have hK : va_K (dC, dI) vwCl [] s := hK
  have hl := lv_entry ([.ref b]) (n := 1) (Nat.le_of_ble_eq_true rfl)
  rw [lg_entry_eq]
  generalize (lg_sl ([.ref b]) ++ List.replicate (1 - (lg_sl ([.ref b])).length) Slot.unset).toArray = ls at hl ⊢
  have hl : lv_has ls 1 [(0, .ref b)] := hl
  refine lv_aload_n hx hb dX1_holdsCarWithoutOrder_0 rfl (lv_at hl 0 rfl) ?_
  refine va_get (D := (dC, dI)) (ci := 0) (v := .int 0) (C := RX1) (T := TX1) (N := 6) hx hb hts iX1 hown hK hP 0 rfl rfl 3 (by decide) (hts (.fieldLink RX1 21 "ParkTower$Bay" "ticket" "I") (by decide +kernel)) (fun _ h9 => h9) rfl dX1_holdsCarWithoutOrder_1 ?_
  refine lv_if_eq (tgt := 25) hx hb dX1_holdsCarWithoutOrder_4 (by decide) (fun _ => ?_) (fun c => absurd (by decide) c)
  refine lv_iconst (v := 0) hx hb dX1_holdsCarWithoutOrder_25 (by decide) ?_
  exact W.zret (v := 0) (ty := .boolean) hx hb hr rfl (fun t ht hW => ⟨0, rfl, rfl, ht⟩) (fun q h => by cases h) dX1_holdsCarWithoutOrder_26
set_option maxHeartbeats 4000000 in
set_option maxRecDepth 100000 in
theorem c_openClear (l : Launch) (dC : Nat → ClassId) (dI : Nat → Nat → Nat) (b : Nat) : Met l yX1_isOpenAndClear wsX1_isOpenAndClear ({ frames := 0, cells := 0, slots := 0, locals := 0 }) (va_Pc [.ref b] (pt_B (dC, dI) [(b, .inr (0, [.int 2, .int 0, .int 0, .int 0, .int 0, .int (-1)]))] [])) (vp_Si (fun r : Int32 => r = 1)) 0 0 (fun _ => False) := by
  refine Met.ofW (cc := cX1_isOpenAndClear) (maxL := 1) (ret := (some .boolean)) (by decide) rfl ?_
  intro p e s m args below meth c s₁ B hml hv
  obtain ⟨rfl, hP, hK, hN⟩ := hv
  have hx := B.exec
  have hb := B.bytes
  have hr := B.returns
  have hts := atoms_spec (ws := wsX1_isOpenAndClear) B.pre
  have hown : s.vm.findClass RX1 = some m.cls := findClass_of_methodNamed B.named
  have hlocks := B.notSynchronized
  have iX1 : ∀ w ∈ wsX10, w ∈ wsX1_isOpenAndClear := by decide +kernel
  have hP : va_P (dC, dI) vwCl [(b, .inr (0, [.int 2, .int 0, .int 0, .int 0, .int 0, .int (-1)]))] s.heap := hP
  have hK : va_K (dC, dI) vwCl [] s := hK
  have hl := lv_entry ([.ref b]) (n := 1) (Nat.le_of_ble_eq_true rfl)
  rw [lg_entry_eq]
  generalize (lg_sl ([.ref b]) ++ List.replicate (1 - (lg_sl ([.ref b])).length) Slot.unset).toArray = ls at hl ⊢
  have hl : lv_has ls 1 [(0, .ref b)] := hl
  refine lv_aload_n hx hb dX1_isOpenAndClear_0 rfl (lv_at hl 0 rfl) ?_
  refine va_get (D := (dC, dI)) (ci := 0) (v := .int 2) (C := RX1) (T := TX1) (N := 6) hx hb hts iX1 hown hK hP 0 rfl rfl 0 (by decide) (hts (.fieldLink RX1 9 "ParkTower$Bay" "door" "I") (by decide +kernel)) (fun _ h9 => h9) rfl dX1_isOpenAndClear_1 ?_
  refine lv_iconst (v := 2) hx hb dX1_isOpenAndClear_4 (by decide) ?_
  refine lv_icmp_ne (tgt := 26) hx hb dX1_isOpenAndClear_5 (by decide) (fun c => absurd (by decide) c) (fun _ => ?_)
  refine lv_aload_n hx hb dX1_isOpenAndClear_8 rfl (lv_at hl 0 rfl) ?_
  refine va_get (D := (dC, dI)) (ci := 0) (v := .int 0) (C := RX1) (T := TX1) (N := 6) hx hb hts iX1 hown hK hP 0 rfl rfl 3 (by decide) (hts (.fieldLink RX1 21 "ParkTower$Bay" "ticket" "I") (by decide +kernel)) (fun _ h9 => h9) rfl dX1_isOpenAndClear_9 ?_
  refine lv_if_ne (tgt := 26) hx hb dX1_isOpenAndClear_12 (by decide) (fun c => absurd (by decide) c) (fun _ => ?_)
  refine lv_aload_n hx hb dX1_isOpenAndClear_15 rfl (lv_at hl 0 rfl) ?_
  refine va_get (D := (dC, dI)) (ci := 0) (v := .int 0) (C := RX1) (T := TX1) (N := 6) hx hb hts iX1 hown hK hP 0 rfl rfl 2 (by decide) (hts (.fieldLink RX1 28 "ParkTower$Bay" "personIn" "Z") (by decide +kernel)) (fun _ h9 => h9) rfl dX1_isOpenAndClear_16 ?_
  refine lv_if_ne (tgt := 26) hx hb dX1_isOpenAndClear_19 (by decide) (fun c => absurd (by decide) c) (fun _ => ?_)
  refine lv_iconst (v := 1) hx hb dX1_isOpenAndClear_22 (by decide) ?_
  refine lv_goto (tgt := 27) hx hb dX1_isOpenAndClear_23 (by decide) ?_
  exact W.zret (v := 1) (ty := .boolean) hx hb hr rfl (fun t ht hW => ⟨1, rfl, rfl, ht⟩) (fun q h => by cases h) dX1_isOpenAndClear_27
set_option maxHeartbeats 4000000 in
set_option maxRecDepth 100000 in
theorem c_moveDoor (l : Launch) (dC : Nat → ClassId) (dI : Nat → Nat → Nat) (b : Nat) : Met l yX1_moveDoor wsX1_moveDoor ({ frames := 0, cells := 0, slots := 0, locals := 0 }) (va_Pc [.ref b] (pt_B (dC, dI) [(b, .inr (0, [.int 2, .int 0, .int 0, .int 0, .int 0, .int (-1)]))] [])) (va_Sv (fun _ => True)) 0 0 (fun _ => False) := by
  refine Met.ofW (cc := cX1_moveDoor) (maxL := 1) (ret := none) (by decide) rfl ?_
  intro p e s m args below meth c s₁ B hml hv
  obtain ⟨rfl, hP, hK, hN⟩ := hv
  have hx := B.exec
  have hb := B.bytes
  have hr := B.returns
  have hts := atoms_spec (ws := wsX1_moveDoor) B.pre
  have hown : s.vm.findClass RX1 = some m.cls := findClass_of_methodNamed B.named
  have hlocks := B.notSynchronized
  have iX1 : ∀ w ∈ wsX10, w ∈ wsX1_moveDoor := by decide +kernel
  have hP : va_P (dC, dI) vwCl [(b, .inr (0, [.int 2, .int 0, .int 0, .int 0, .int 0, .int (-1)]))] s.heap := hP
  have hK : va_K (dC, dI) vwCl [] s := hK
  have hl := lv_entry ([.ref b]) (n := 1) (Nat.le_of_ble_eq_true rfl)
  rw [lg_entry_eq]
  generalize (lg_sl ([.ref b]) ++ List.replicate (1 - (lg_sl ([.ref b])).length) Slot.unset).toArray = ls at hl ⊢
  have hl : lv_has ls 1 [(0, .ref b)] := hl
  refine lv_aload_n hx hb dX1_moveDoor_0 rfl (lv_at hl 0 rfl) ?_
  refine va_get (D := (dC, dI)) (ci := 0) (v := .int 0) (C := RX1) (T := TX1) (N := 6) hx hb hts iX1 hown hK hP 0 rfl rfl 1 (by decide) (hts (.fieldLink RX1 18 "ParkTower$Bay" "doorTicks" "I") (by decide +kernel)) (fun _ h9 => h9) rfl dX1_moveDoor_1 ?_
  refine lv_if_ne (tgt := 8) hx hb dX1_moveDoor_4 (by decide) (fun c => absurd (by decide) c) (fun _ => ?_)
  exact W.vret hx hb hr (fun t ht hW => ⟨rfl, trivial, ht⟩) (fun q h => by cases h) dX1_moveDoor_7
set_option maxHeartbeats 4000000 in
set_option maxRecDepth 100000 in
theorem c_isIdle (l : Launch) (dC : Nat → ClassId) (dI : Nat → Nat → Nat) (j pl : Nat) : Met l yX2_isIdle wsX2_isIdle ({ frames := 0, cells := 0, slots := 0, locals := 0 }) (va_Pc [.ref j] (pt_B (dC, dI) [(j, .inr (1, [.ref pl, .int (-1), .int 0, .int 0, .int 0]))] [])) (vp_Si (fun r : Int32 => r = 1)) 0 0 (fun _ => False) := by
  refine Met.ofW (cc := cX2_isIdle) (maxL := 1) (ret := (some .boolean)) (by decide) rfl ?_
  intro p e s m args below meth c s₁ B hml hv
  obtain ⟨rfl, hP, hK, hN⟩ := hv
  have hx := B.exec
  have hb := B.bytes
  have hr := B.returns
  have hts := atoms_spec (ws := wsX2_isIdle) B.pre
  have hown : s.vm.findClass RX2 = some m.cls := findClass_of_methodNamed B.named
  have hlocks := B.notSynchronized
  have iX2 : ∀ w ∈ wsX20, w ∈ wsX2_isIdle := by decide +kernel
  have hP : va_P (dC, dI) vwCl [(j, .inr (1, [.ref pl, .int (-1), .int 0, .int 0, .int 0]))] s.heap := hP
  have hK : va_K (dC, dI) vwCl [] s := hK
  have hl := lv_entry ([.ref j]) (n := 1) (Nat.le_of_ble_eq_true rfl)
  rw [lg_entry_eq]
  generalize (lg_sl ([.ref j]) ++ List.replicate (1 - (lg_sl ([.ref j])).length) Slot.unset).toArray = ls at hl ⊢
  have hl : lv_has ls 1 [(0, .ref j)] := hl
  refine lv_aload_n hx hb dX2_isIdle_0 rfl (lv_at hl 0 rfl) ?_
  refine va_get (D := (dC, dI)) (ci := 1) (v := .int (-1)) (C := RX2) (T := TX2) (N := 5) hx hb hts iX2 hown hK hP 0 rfl rfl 1 (by decide) (hts (.fieldLink RX2 18 "ParkTower$Job" "order" "I") (by decide +kernel)) (fun _ h9 => h9) rfl dX2_isIdle_1 ?_
  refine lv_iconst (v := (-1)) hx hb dX2_isIdle_4 (by decide) ?_
  refine lv_icmp_ne (tgt := 12) hx hb dX2_isIdle_5 (by decide) (fun c => absurd (by decide) c) (fun _ => ?_)
  refine lv_iconst (v := 1) hx hb dX2_isIdle_8 (by decide) ?_
  refine lv_goto (tgt := 13) hx hb dX2_isIdle_9 (by decide) ?_
  exact W.zret (v := 1) (ty := .boolean) hx hb hr rfl (fun t ht hW => ⟨1, rfl, rfl, ht⟩) (fun q h => by cases h) dX2_isIdle_13
set_option maxHeartbeats 4000000 in
set_option maxRecDepth 100000 in
theorem c_countFor (l : Launch) (dC : Nat → ClassId) (dI : Nat → Nat → Nat) (o o1 o2 o3 : Nat) (b : Int32) : Met l yX3_countFor wsX3_countFor ({ frames := 0, cells := 0, slots := 0, locals := 0 }) (va_Pc [.ref o, .int b] (pt_B (dC, dI) [(o, .inr (2, [.ref o1, .ref o2, .ref o3, .int 0]))] [])) (vp_Si (fun r : Int32 => r = 0)) 0 0 (fun _ => False) := by
  refine Met.ofW (cc := cX3_countFor) (maxL := 4) (ret := (some .int)) (by decide) rfl ?_
  intro p e s m args below meth c s₁ B hml hv
  obtain ⟨rfl, hP, hK, hN⟩ := hv
  have hx := B.exec
  have hb := B.bytes
  have hr := B.returns
  have hts := atoms_spec (ws := wsX3_countFor) B.pre
  have hown : s.vm.findClass RX3 = some m.cls := findClass_of_methodNamed B.named
  have hlocks := B.notSynchronized
  have iX3 : ∀ w ∈ wsX30, w ∈ wsX3_countFor := by decide +kernel
  have hP : va_P (dC, dI) vwCl [(o, .inr (2, [.ref o1, .ref o2, .ref o3, .int 0]))] s.heap := hP
  have hK : va_K (dC, dI) vwCl [] s := hK
  have hl := lv_entry ([.ref o, .int b]) (n := 4) (Nat.le_of_ble_eq_true rfl)
  rw [lg_entry_eq]
  generalize (lg_sl ([.ref o, .int b]) ++ List.replicate (4 - (lg_sl ([.ref o, .int b])).length) Slot.unset).toArray = ls at hl ⊢
  have hl : lv_has ls 4 [(0, .ref o), (1, .int b)] := hl
  refine lv_iconst (v := 0) hx hb dX3_countFor_0 (by decide) ?_
  refine lv_istore_n (lv' := [(2, .int 0), (0, .ref o), (1, .int b)]) hx hb dX3_countFor_1 rfl hl (by decide) rfl (fun ls hl => ?_)
  refine lv_iconst (v := 0) hx hb dX3_countFor_2 (by decide) ?_
  refine lv_istore_n (lv' := [(3, .int 0), (2, .int 0), (0, .ref o), (1, .int b)]) hx hb dX3_countFor_3 rfl hl (by decide) rfl (fun ls hl => ?_)
  refine lv_iload_n hx hb dX3_countFor_4 rfl (lv_at hl 0 rfl) ?_
  refine lv_aload_n hx hb dX3_countFor_5 rfl (lv_at hl 2 rfl) ?_
  refine va_get (D := (dC, dI)) (ci := 2) (v := .int 0) (C := RX3) (T := TX3) (N := 4) hx hb hts iX3 hown hK hP 0 rfl rfl 3 (by decide) (hts (.fieldLink RX3 21 "ParkTower$Orders" "count" "I") (by decide +kernel)) (fun _ h9 => h9) rfl dX3_countFor_6 ?_
  refine lv_icmp_ge (tgt := 31) hx hb dX3_countFor_9 (by decide) (fun _ => ?_) (fun c => absurd (by decide) c)
  refine lv_iload_n hx hb dX3_countFor_31 rfl (lv_at hl 1 rfl) ?_
  exact W.iret (v := 0) hx hb hr (fun t ht hW => ⟨0, rfl, rfl, ht⟩) (fun q h => by cases h) dX3_countFor_32
set_option maxHeartbeats 4000000 in
set_option maxRecDepth 100000 in
theorem c_firstWaiting (l : Launch) (dC : Nat → ClassId) (dI : Nat → Nat → Nat) (o o1 o2 o3 : Nat) (b d : Int32) : Met l yX3_firstWaitingIsFetch wsX3_firstWaitingIsFetch ({ frames := 0, cells := 0, slots := 0, locals := 0 }) (va_Pc [.ref o, .int b, .int d] (pt_B (dC, dI) [(o, .inr (2, [.ref o1, .ref o2, .ref o3, .int 0]))] [])) (vp_Si (fun r : Int32 => r = 0)) 0 0 (fun _ => False) := by
  refine Met.ofW (cc := cX3_firstWaitingIsFetch) (maxL := 4) (ret := (some .boolean)) (by decide) rfl ?_
  intro p e s m args below meth c s₁ B hml hv
  obtain ⟨rfl, hP, hK, hN⟩ := hv
  have hx := B.exec
  have hb := B.bytes
  have hr := B.returns
  have hts := atoms_spec (ws := wsX3_firstWaitingIsFetch) B.pre
  have hown : s.vm.findClass RX3 = some m.cls := findClass_of_methodNamed B.named
  have hlocks := B.notSynchronized
  have iX3 : ∀ w ∈ wsX30, w ∈ wsX3_firstWaitingIsFetch := by decide +kernel
  have hP : va_P (dC, dI) vwCl [(o, .inr (2, [.ref o1, .ref o2, .ref o3, .int 0]))] s.heap := hP
  have hK : va_K (dC, dI) vwCl [] s := hK
  have hl := lv_entry ([.ref o, .int b, .int d]) (n := 4) (Nat.le_of_ble_eq_true rfl)
  rw [lg_entry_eq]
  generalize (lg_sl ([.ref o, .int b, .int d]) ++ List.replicate (4 - (lg_sl ([.ref o, .int b, .int d])).length) Slot.unset).toArray = ls at hl ⊢
  have hl : lv_has ls 4 [(0, .ref o), (1, .int b), (2, .int d)] := hl
  refine lv_iconst (v := 0) hx hb dX3_firstWaitingIsFetch_0 (by decide) ?_
  refine lv_istore_n (lv' := [(3, .int 0), (0, .ref o), (1, .int b), (2, .int d)]) hx hb dX3_firstWaitingIsFetch_1 rfl hl (by decide) rfl (fun ls hl => ?_)
  refine lv_iload_n hx hb dX3_firstWaitingIsFetch_2 rfl (lv_at hl 0 rfl) ?_
  refine lv_aload_n hx hb dX3_firstWaitingIsFetch_3 rfl (lv_at hl 1 rfl) ?_
  refine va_get (D := (dC, dI)) (ci := 2) (v := .int 0) (C := RX3) (T := TX3) (N := 4) hx hb hts iX3 hown hK hP 0 rfl rfl 3 (by decide) (hts (.fieldLink RX3 21 "ParkTower$Orders" "count" "I") (by decide +kernel)) (fun _ h9 => h9) rfl dX3_firstWaitingIsFetch_4 ?_
  refine lv_icmp_ge (tgt := 37) hx hb dX3_firstWaitingIsFetch_7 (by decide) (fun _ => ?_) (fun c => absurd (by decide) c)
  refine lv_iconst (v := 0) hx hb dX3_firstWaitingIsFetch_37 (by decide) ?_
  exact W.zret (v := 0) (ty := .boolean) hx hb hr rfl (fun t ht hW => ⟨0, rfl, rfl, ht⟩) (fun q h => by cases h) dX3_firstWaitingIsFetch_38
set_option maxHeartbeats 4000000 in
set_option maxRecDepth 100000 in
theorem c_hasCar (l : Launch) (dC : Nat → ClassId) (dI : Nat → Nat → Nat) (rk hd jm : Nat) (cI : ClassId) (k : Int32) (hk : vp_in k 96) : Met l yX5_hasCar wsX5_hasCar ({ frames := 0, cells := 0, slots := 0, locals := 0 }) (va_Pc [.ref rk, .int k] (pt_B (dC, dI) [(rk, .inr (4, [.ref hd, .ref jm])), (hd, .inl (cI, 96, .inl (fun _ => 0)))] [(cI, .int)])) (vp_Si (fun r : Int32 => r = 0)) 0 0 (fun _ => False) := by
  refine Met.ofW (cc := cX5_hasCar) (maxL := 2) (ret := (some .boolean)) (by decide) rfl ?_
  intro p e s m args below meth c s₁ B hml hv
  obtain ⟨rfl, hP, hK, hN⟩ := hv
  have hx := B.exec
  have hb := B.bytes
  have hr := B.returns
  have hts := atoms_spec (ws := wsX5_hasCar) B.pre
  have hown : s.vm.findClass RX5 = some m.cls := findClass_of_methodNamed B.named
  have hlocks := B.notSynchronized
  have iX5 : ∀ w ∈ wsX50, w ∈ wsX5_hasCar := by decide +kernel
  have hP : va_P (dC, dI) vwCl [(rk, .inr (4, [.ref hd, .ref jm])), (hd, .inl (cI, 96, .inl (fun _ => 0)))] s.heap := hP
  have hK : va_K (dC, dI) vwCl [(cI, .int)] s := hK
  have hl := lv_entry ([.ref rk, .int k]) (n := 2) (Nat.le_of_ble_eq_true rfl)
  rw [lg_entry_eq]
  generalize (lg_sl ([.ref rk, .int k]) ++ List.replicate (2 - (lg_sl ([.ref rk, .int k])).length) Slot.unset).toArray = ls at hl ⊢
  have hl : lv_has ls 2 [(0, .ref rk), (1, .int k)] := hl
  refine lv_aload_n hx hb dX5_hasCar_0 rfl (lv_at hl 0 rfl) ?_
  refine va_get (D := (dC, dI)) (ci := 4) (v := .ref hd) (C := RX5) (T := TX5) (N := 2) hx hb hts iX5 hown hK hP 0 rfl rfl 0 (by decide) (hts (.fieldLink RX5 9 "ParkTower$Rack" "held" "[I") (by decide +kernel)) (fun _ h9 => h9) rfl dX5_hasCar_1 ?_
  refine lv_iload_n hx hb dX5_hasCar_4 rfl (lv_at hl 1 rfl) ?_
  refine va_iald hx hb hK hP 1 0 rfl rfl hk dX5_hasCar_5 ?_
  refine pt_topi 0 rfl ?_
  refine lv_if_le (tgt := 13) hx hb dX5_hasCar_6 (by decide) (fun _ => ?_) (fun c => absurd (by decide) c)
  refine lv_iconst (v := 0) hx hb dX5_hasCar_13 (by decide) ?_
  exact W.zret (v := 0) (ty := .boolean) hx hb hr rfl (fun t ht hW => ⟨0, rfl, rfl, ht⟩) (fun q h => by cases h) dX5_hasCar_14
set_option maxHeartbeats 4000000 in
set_option maxRecDepth 100000 in
theorem c_isBay (l : Launch) (dC : Nat → ClassId) (dI : Nat → Nat → Nat) (b : Int32) : Met l yX7_isBay wsX7_isBay ({ frames := 0, cells := 0, slots := 0, locals := 0 }) (va_Pc [.int b] (pt_B (dC, dI) [] [])) (vp_Si (fun r : Int32 => r = (if b = 0 ∨ b = 1 then 1 else 0))) 0 0 (fun _ => False) := by
  refine Met.ofW (cc := cX7_isBay) (maxL := 1) (ret := (some .boolean)) (by decide) rfl ?_
  intro p e s m args below meth c s₁ B hml hv
  obtain ⟨rfl, hP, hK, hN⟩ := hv
  have hx := B.exec
  have hb := B.bytes
  have hr := B.returns
  have hts := atoms_spec (ws := wsX7_isBay) B.pre
  have hown : s.vm.findClass RX7 = some m.cls := findClass_of_methodNamed B.named
  have hlocks := B.notSynchronized
  have hP : va_P (dC, dI) vwCl [] s.heap := hP
  have hK : va_K (dC, dI) vwCl [] s := hK
  have hl := lv_entry ([.int b]) (n := 1) (Nat.le_of_ble_eq_true rfl)
  rw [lg_entry_eq]
  generalize (lg_sl ([.int b]) ++ List.replicate (1 - (lg_sl ([.int b])).length) Slot.unset).toArray = ls at hl ⊢
  have hl : lv_has ls 1 [(0, .int b)] := hl
  refine lv_iload_n hx hb dX7_isBay_0 rfl (lv_at hl 0 rfl) ?_
  refine lv_if_lt (tgt := 13) hx hb dX7_isBay_1 (by decide) (fun c_1 => ?_) (fun c_1 => ?_)
  · have c_1 : (b < 0) := c_1
    refine lv_iconst (v := 0) hx hb dX7_isBay_13 (by decide) ?_
    exact W.zret (v := 0) (ty := .boolean) hx hb hr rfl (fun t ht hW => ⟨0, rfl, (if_neg (by intro h; rcases h with rfl | rfl <;> revert c_1 <;> decide)).symm, ht⟩) (fun q h => by cases h) dX7_isBay_14
  · have c_1 : ¬ (b < 0) := c_1
    refine lv_iload_n hx hb dX7_isBay_4 rfl (lv_at hl 0 rfl) ?_
    refine lv_iconst (v := 2) hx hb dX7_isBay_5 (by decide) ?_
    refine lv_icmp_ge (tgt := 13) hx hb dX7_isBay_6 (by decide) (fun c_2 => ?_) (fun c_2 => ?_)
    · have c_2 : (2 ≤ b) := c_2
      refine lv_iconst (v := 0) hx hb dX7_isBay_13 (by decide) ?_
      exact W.zret (v := 0) (ty := .boolean) hx hb hr rfl (fun t ht hW => ⟨0, rfl, (if_neg (by intro h; rcases h with rfl | rfl <;> revert c_2 <;> decide)).symm, ht⟩) (fun q h => by cases h) dX7_isBay_14
    · have c_2 : ¬ (2 ≤ b) := c_2
      refine lv_iconst (v := 1) hx hb dX7_isBay_9 (by decide) ?_
      refine lv_goto (tgt := 14) hx hb dX7_isBay_10 (by decide) ?_
      exact W.zret (v := 1) (ty := .boolean) hx hb hr rfl (fun t ht hW => ⟨1, rfl, (if_pos (pt_bay (pt_lt (by assumption)) (Int32.not_le.mp (by assumption)))).symm, ht⟩) (fun q h => by cases h) dX7_isBay_14
set_option maxHeartbeats 4000000 in
set_option maxRecDepth 100000 in
theorem c_fits0 (l : Launch) (dC : Nat → ClassId) (dI : Nat → Nat → Nat) (h w : Int32) : Met l yX7_fitsLevel wsX7_fitsLevel ({ frames := 0, cells := 0, slots := 0, locals := 0 }) (va_Pc [.int 0, .int h, .int w] (pt_B (dC, dI) [] [])) (vp_Si (fun r : Int32 => r = (if h ≤ 160 ∧ w ≤ 2000 then 1 else 0))) 0 0 (fun _ => False) := by
  refine Met.ofW (cc := cX7_fitsLevel) (maxL := 5) (ret := (some .boolean)) (by decide) rfl ?_
  intro p e s m args below meth c s₁ B hml hv
  obtain ⟨rfl, hP, hK, hN⟩ := hv
  have hx := B.exec
  have hb := B.bytes
  have hr := B.returns
  have hts := atoms_spec (ws := wsX7_fitsLevel) B.pre
  have hown : s.vm.findClass RX7 = some m.cls := findClass_of_methodNamed B.named
  have hlocks := B.notSynchronized
  have hP : va_P (dC, dI) vwCl [] s.heap := hP
  have hK : va_K (dC, dI) vwCl [] s := hK
  have hl := lv_entry ([.int 0, .int h, .int w]) (n := 5) (Nat.le_of_ble_eq_true rfl)
  rw [lg_entry_eq]
  generalize (lg_sl ([.int 0, .int h, .int w]) ++ List.replicate (5 - (lg_sl ([.int 0, .int h, .int w])).length) Slot.unset).toArray = ls at hl ⊢
  have hl : lv_has ls 5 [(0, .int 0), (1, .int h), (2, .int w)] := hl
  refine lv_iload_n hx hb dX7_fitsLevel_0 rfl (lv_at hl 0 rfl) ?_
  refine lv_iconst (v := 2) hx hb dX7_fitsLevel_1 (by decide) ?_
  refine lv_icmp_ge (tgt := 11) hx hb dX7_fitsLevel_2 (by decide) (fun c => absurd c (by decide)) (fun _ => ?_)
  refine lv_sipush (v := 160) hx hb dX7_fitsLevel_5 (by decide) ?_
  refine lv_goto (tgt := 14) hx hb dX7_fitsLevel_8 (by decide) ?_
  refine lv_istore_n (lv' := [(3, .int 160), (0, .int 0), (1, .int h), (2, .int w)]) hx hb dX7_fitsLevel_14 rfl hl (by decide) rfl (fun ls hl => ?_)
  refine lv_iload_n hx hb dX7_fitsLevel_15 rfl (lv_at hl 1 rfl) ?_
  refine lv_iconst (v := 2) hx hb dX7_fitsLevel_16 (by decide) ?_
  refine lv_irem hx hb dX7_fitsLevel_17 (by decide) ?_
  refine pt_topi 0 (by decide) ?_
  refine lv_if_ne (tgt := 27) hx hb dX7_fitsLevel_18 (by decide) (fun c => absurd (by decide) c) (fun _ => ?_)
  refine lv_sipush (v := 2000) hx hb dX7_fitsLevel_21 (by decide) ?_
  refine lv_goto (tgt := 30) hx hb dX7_fitsLevel_24 (by decide) ?_
  refine lv_istore (lv' := [(4, .int 2000), (3, .int 160), (0, .int 0), (1, .int h), (2, .int w)]) hx hb dX7_fitsLevel_30 hl (by decide) rfl (fun ls hl => ?_)
  refine lv_iload_n hx hb dX7_fitsLevel_32 rfl (lv_at hl 3 rfl) ?_
  refine lv_iload_n hx hb dX7_fitsLevel_33 rfl (lv_at hl 1 rfl) ?_
  refine lv_icmp_gt (tgt := 47) hx hb dX7_fitsLevel_34 (by decide) (fun c_1 => ?_) (fun c_1 => ?_)
  · have c_1 : (160 < h) := c_1
    refine lv_iconst (v := 0) hx hb dX7_fitsLevel_47 (by decide) ?_
    exact W.zret (v := 0) (ty := .boolean) hx hb hr rfl (fun t ht hW => ⟨0, rfl, (if_neg (fun q => by first | exact absurd q.1 (Int32.not_le.mpr (by assumption)) | exact absurd q.2 (Int32.not_le.mpr (by assumption)))).symm, ht⟩) (fun q h => by cases h) dX7_fitsLevel_48
  · have c_1 : ¬ (160 < h) := c_1
    refine lv_iload_n hx hb dX7_fitsLevel_37 rfl (lv_at hl 4 rfl) ?_
    refine lv_iload hx hb dX7_fitsLevel_38 (lv_at hl 0 rfl) ?_
    refine lv_icmp_gt (tgt := 47) hx hb dX7_fitsLevel_40 (by decide) (fun c_2 => ?_) (fun c_2 => ?_)
    · have c_2 : (2000 < w) := c_2
      refine lv_iconst (v := 0) hx hb dX7_fitsLevel_47 (by decide) ?_
      exact W.zret (v := 0) (ty := .boolean) hx hb hr rfl (fun t ht hW => ⟨0, rfl, (if_neg (fun q => by first | exact absurd q.1 (Int32.not_le.mpr (by assumption)) | exact absurd q.2 (Int32.not_le.mpr (by assumption)))).symm, ht⟩) (fun q h => by cases h) dX7_fitsLevel_48
    · have c_2 : ¬ (2000 < w) := c_2
      refine lv_iconst (v := 1) hx hb dX7_fitsLevel_43 (by decide) ?_
      refine lv_goto (tgt := 48) hx hb dX7_fitsLevel_44 (by decide) ?_
      exact W.zret (v := 1) (ty := .boolean) hx hb hr rfl (fun t ht hW => ⟨1, rfl, (if_pos ⟨pt_lt (by assumption), pt_lt (by assumption)⟩).symm, ht⟩) (fun q h => by cases h) dX7_fitsLevel_48
set_option maxHeartbeats 4000000 in
set_option maxRecDepth 100000 in
theorem c_fits1 (l : Launch) (dC : Nat → ClassId) (dI : Nat → Nat → Nat) (h w : Int32) : Met l yX7_fitsLevel wsX7_fitsLevel ({ frames := 0, cells := 0, slots := 0, locals := 0 }) (va_Pc [.int 1, .int h, .int w] (pt_B (dC, dI) [] [])) (vp_Si (fun r : Int32 => r = (if h ≤ 160 ∧ w ≤ 3000 then 1 else 0))) 0 0 (fun _ => False) := by
  refine Met.ofW (cc := cX7_fitsLevel) (maxL := 5) (ret := (some .boolean)) (by decide) rfl ?_
  intro p e s m args below meth c s₁ B hml hv
  obtain ⟨rfl, hP, hK, hN⟩ := hv
  have hx := B.exec
  have hb := B.bytes
  have hr := B.returns
  have hts := atoms_spec (ws := wsX7_fitsLevel) B.pre
  have hown : s.vm.findClass RX7 = some m.cls := findClass_of_methodNamed B.named
  have hlocks := B.notSynchronized
  have hP : va_P (dC, dI) vwCl [] s.heap := hP
  have hK : va_K (dC, dI) vwCl [] s := hK
  have hl := lv_entry ([.int 1, .int h, .int w]) (n := 5) (Nat.le_of_ble_eq_true rfl)
  rw [lg_entry_eq]
  generalize (lg_sl ([.int 1, .int h, .int w]) ++ List.replicate (5 - (lg_sl ([.int 1, .int h, .int w])).length) Slot.unset).toArray = ls at hl ⊢
  have hl : lv_has ls 5 [(0, .int 1), (1, .int h), (2, .int w)] := hl
  refine lv_iload_n hx hb dX7_fitsLevel_0 rfl (lv_at hl 0 rfl) ?_
  refine lv_iconst (v := 2) hx hb dX7_fitsLevel_1 (by decide) ?_
  refine lv_icmp_ge (tgt := 11) hx hb dX7_fitsLevel_2 (by decide) (fun c => absurd c (by decide)) (fun _ => ?_)
  refine lv_sipush (v := 160) hx hb dX7_fitsLevel_5 (by decide) ?_
  refine lv_goto (tgt := 14) hx hb dX7_fitsLevel_8 (by decide) ?_
  refine lv_istore_n (lv' := [(3, .int 160), (0, .int 1), (1, .int h), (2, .int w)]) hx hb dX7_fitsLevel_14 rfl hl (by decide) rfl (fun ls hl => ?_)
  refine lv_iload_n hx hb dX7_fitsLevel_15 rfl (lv_at hl 1 rfl) ?_
  refine lv_iconst (v := 2) hx hb dX7_fitsLevel_16 (by decide) ?_
  refine lv_irem hx hb dX7_fitsLevel_17 (by decide) ?_
  refine pt_topi 1 (by decide) ?_
  refine lv_if_ne (tgt := 27) hx hb dX7_fitsLevel_18 (by decide) (fun _ => ?_) (fun c => absurd c (by decide))
  refine lv_sipush (v := 3000) hx hb dX7_fitsLevel_27 (by decide) ?_
  refine lv_istore (lv' := [(4, .int 3000), (3, .int 160), (0, .int 1), (1, .int h), (2, .int w)]) hx hb dX7_fitsLevel_30 hl (by decide) rfl (fun ls hl => ?_)
  refine lv_iload_n hx hb dX7_fitsLevel_32 rfl (lv_at hl 3 rfl) ?_
  refine lv_iload_n hx hb dX7_fitsLevel_33 rfl (lv_at hl 1 rfl) ?_
  refine lv_icmp_gt (tgt := 47) hx hb dX7_fitsLevel_34 (by decide) (fun c_1 => ?_) (fun c_1 => ?_)
  · have c_1 : (160 < h) := c_1
    refine lv_iconst (v := 0) hx hb dX7_fitsLevel_47 (by decide) ?_
    exact W.zret (v := 0) (ty := .boolean) hx hb hr rfl (fun t ht hW => ⟨0, rfl, (if_neg (fun q => by first | exact absurd q.1 (Int32.not_le.mpr (by assumption)) | exact absurd q.2 (Int32.not_le.mpr (by assumption)))).symm, ht⟩) (fun q h => by cases h) dX7_fitsLevel_48
  · have c_1 : ¬ (160 < h) := c_1
    refine lv_iload_n hx hb dX7_fitsLevel_37 rfl (lv_at hl 4 rfl) ?_
    refine lv_iload hx hb dX7_fitsLevel_38 (lv_at hl 0 rfl) ?_
    refine lv_icmp_gt (tgt := 47) hx hb dX7_fitsLevel_40 (by decide) (fun c_2 => ?_) (fun c_2 => ?_)
    · have c_2 : (3000 < w) := c_2
      refine lv_iconst (v := 0) hx hb dX7_fitsLevel_47 (by decide) ?_
      exact W.zret (v := 0) (ty := .boolean) hx hb hr rfl (fun t ht hW => ⟨0, rfl, (if_neg (fun q => by first | exact absurd q.1 (Int32.not_le.mpr (by assumption)) | exact absurd q.2 (Int32.not_le.mpr (by assumption)))).symm, ht⟩) (fun q h => by cases h) dX7_fitsLevel_48
    · have c_2 : ¬ (3000 < w) := c_2
      refine lv_iconst (v := 1) hx hb dX7_fitsLevel_43 (by decide) ?_
      refine lv_goto (tgt := 48) hx hb dX7_fitsLevel_44 (by decide) ?_
      exact W.zret (v := 1) (ty := .boolean) hx hb hr rfl (fun t ht hW => ⟨1, rfl, (if_pos ⟨pt_lt (by assumption), pt_lt (by assumption)⟩).symm, ht⟩) (fun q h => by cases h) dX7_fitsLevel_48
set_option maxHeartbeats 4000000 in
set_option maxRecDepth 100000 in
theorem c_fits2 (l : Launch) (dC : Nat → ClassId) (dI : Nat → Nat → Nat) (h w : Int32) : Met l yX7_fitsLevel wsX7_fitsLevel ({ frames := 0, cells := 0, slots := 0, locals := 0 }) (va_Pc [.int 2, .int h, .int w] (pt_B (dC, dI) [] [])) (vp_Si (fun r : Int32 => r = (if h ≤ 210 ∧ w ≤ 2000 then 1 else 0))) 0 0 (fun _ => False) := by
  refine Met.ofW (cc := cX7_fitsLevel) (maxL := 5) (ret := (some .boolean)) (by decide) rfl ?_
  intro p e s m args below meth c s₁ B hml hv
  obtain ⟨rfl, hP, hK, hN⟩ := hv
  have hx := B.exec
  have hb := B.bytes
  have hr := B.returns
  have hts := atoms_spec (ws := wsX7_fitsLevel) B.pre
  have hown : s.vm.findClass RX7 = some m.cls := findClass_of_methodNamed B.named
  have hlocks := B.notSynchronized
  have hP : va_P (dC, dI) vwCl [] s.heap := hP
  have hK : va_K (dC, dI) vwCl [] s := hK
  have hl := lv_entry ([.int 2, .int h, .int w]) (n := 5) (Nat.le_of_ble_eq_true rfl)
  rw [lg_entry_eq]
  generalize (lg_sl ([.int 2, .int h, .int w]) ++ List.replicate (5 - (lg_sl ([.int 2, .int h, .int w])).length) Slot.unset).toArray = ls at hl ⊢
  have hl : lv_has ls 5 [(0, .int 2), (1, .int h), (2, .int w)] := hl
  refine lv_iload_n hx hb dX7_fitsLevel_0 rfl (lv_at hl 0 rfl) ?_
  refine lv_iconst (v := 2) hx hb dX7_fitsLevel_1 (by decide) ?_
  refine lv_icmp_ge (tgt := 11) hx hb dX7_fitsLevel_2 (by decide) (fun _ => ?_) (fun c => absurd (by decide) c)
  refine lv_sipush (v := 210) hx hb dX7_fitsLevel_11 (by decide) ?_
  refine lv_istore_n (lv' := [(3, .int 210), (0, .int 2), (1, .int h), (2, .int w)]) hx hb dX7_fitsLevel_14 rfl hl (by decide) rfl (fun ls hl => ?_)
  refine lv_iload_n hx hb dX7_fitsLevel_15 rfl (lv_at hl 1 rfl) ?_
  refine lv_iconst (v := 2) hx hb dX7_fitsLevel_16 (by decide) ?_
  refine lv_irem hx hb dX7_fitsLevel_17 (by decide) ?_
  refine pt_topi 0 (by decide) ?_
  refine lv_if_ne (tgt := 27) hx hb dX7_fitsLevel_18 (by decide) (fun c => absurd (by decide) c) (fun _ => ?_)
  refine lv_sipush (v := 2000) hx hb dX7_fitsLevel_21 (by decide) ?_
  refine lv_goto (tgt := 30) hx hb dX7_fitsLevel_24 (by decide) ?_
  refine lv_istore (lv' := [(4, .int 2000), (3, .int 210), (0, .int 2), (1, .int h), (2, .int w)]) hx hb dX7_fitsLevel_30 hl (by decide) rfl (fun ls hl => ?_)
  refine lv_iload_n hx hb dX7_fitsLevel_32 rfl (lv_at hl 3 rfl) ?_
  refine lv_iload_n hx hb dX7_fitsLevel_33 rfl (lv_at hl 1 rfl) ?_
  refine lv_icmp_gt (tgt := 47) hx hb dX7_fitsLevel_34 (by decide) (fun c_1 => ?_) (fun c_1 => ?_)
  · have c_1 : (210 < h) := c_1
    refine lv_iconst (v := 0) hx hb dX7_fitsLevel_47 (by decide) ?_
    exact W.zret (v := 0) (ty := .boolean) hx hb hr rfl (fun t ht hW => ⟨0, rfl, (if_neg (fun q => by first | exact absurd q.1 (Int32.not_le.mpr (by assumption)) | exact absurd q.2 (Int32.not_le.mpr (by assumption)))).symm, ht⟩) (fun q h => by cases h) dX7_fitsLevel_48
  · have c_1 : ¬ (210 < h) := c_1
    refine lv_iload_n hx hb dX7_fitsLevel_37 rfl (lv_at hl 4 rfl) ?_
    refine lv_iload hx hb dX7_fitsLevel_38 (lv_at hl 0 rfl) ?_
    refine lv_icmp_gt (tgt := 47) hx hb dX7_fitsLevel_40 (by decide) (fun c_2 => ?_) (fun c_2 => ?_)
    · have c_2 : (2000 < w) := c_2
      refine lv_iconst (v := 0) hx hb dX7_fitsLevel_47 (by decide) ?_
      exact W.zret (v := 0) (ty := .boolean) hx hb hr rfl (fun t ht hW => ⟨0, rfl, (if_neg (fun q => by first | exact absurd q.1 (Int32.not_le.mpr (by assumption)) | exact absurd q.2 (Int32.not_le.mpr (by assumption)))).symm, ht⟩) (fun q h => by cases h) dX7_fitsLevel_48
    · have c_2 : ¬ (2000 < w) := c_2
      refine lv_iconst (v := 1) hx hb dX7_fitsLevel_43 (by decide) ?_
      refine lv_goto (tgt := 48) hx hb dX7_fitsLevel_44 (by decide) ?_
      exact W.zret (v := 1) (ty := .boolean) hx hb hr rfl (fun t ht hW => ⟨1, rfl, (if_pos ⟨pt_lt (by assumption), pt_lt (by assumption)⟩).symm, ht⟩) (fun q h => by cases h) dX7_fitsLevel_48
set_option maxHeartbeats 4000000 in
set_option maxRecDepth 100000 in
theorem c_fits3 (l : Launch) (dC : Nat → ClassId) (dI : Nat → Nat → Nat) (h w : Int32) : Met l yX7_fitsLevel wsX7_fitsLevel ({ frames := 0, cells := 0, slots := 0, locals := 0 }) (va_Pc [.int 3, .int h, .int w] (pt_B (dC, dI) [] [])) (vp_Si (fun r : Int32 => r = (if h ≤ 210 ∧ w ≤ 3000 then 1 else 0))) 0 0 (fun _ => False) := by
  refine Met.ofW (cc := cX7_fitsLevel) (maxL := 5) (ret := (some .boolean)) (by decide) rfl ?_
  intro p e s m args below meth c s₁ B hml hv
  obtain ⟨rfl, hP, hK, hN⟩ := hv
  have hx := B.exec
  have hb := B.bytes
  have hr := B.returns
  have hts := atoms_spec (ws := wsX7_fitsLevel) B.pre
  have hown : s.vm.findClass RX7 = some m.cls := findClass_of_methodNamed B.named
  have hlocks := B.notSynchronized
  have hP : va_P (dC, dI) vwCl [] s.heap := hP
  have hK : va_K (dC, dI) vwCl [] s := hK
  have hl := lv_entry ([.int 3, .int h, .int w]) (n := 5) (Nat.le_of_ble_eq_true rfl)
  rw [lg_entry_eq]
  generalize (lg_sl ([.int 3, .int h, .int w]) ++ List.replicate (5 - (lg_sl ([.int 3, .int h, .int w])).length) Slot.unset).toArray = ls at hl ⊢
  have hl : lv_has ls 5 [(0, .int 3), (1, .int h), (2, .int w)] := hl
  refine lv_iload_n hx hb dX7_fitsLevel_0 rfl (lv_at hl 0 rfl) ?_
  refine lv_iconst (v := 2) hx hb dX7_fitsLevel_1 (by decide) ?_
  refine lv_icmp_ge (tgt := 11) hx hb dX7_fitsLevel_2 (by decide) (fun _ => ?_) (fun c => absurd (by decide) c)
  refine lv_sipush (v := 210) hx hb dX7_fitsLevel_11 (by decide) ?_
  refine lv_istore_n (lv' := [(3, .int 210), (0, .int 3), (1, .int h), (2, .int w)]) hx hb dX7_fitsLevel_14 rfl hl (by decide) rfl (fun ls hl => ?_)
  refine lv_iload_n hx hb dX7_fitsLevel_15 rfl (lv_at hl 1 rfl) ?_
  refine lv_iconst (v := 2) hx hb dX7_fitsLevel_16 (by decide) ?_
  refine lv_irem hx hb dX7_fitsLevel_17 (by decide) ?_
  refine pt_topi 1 (by decide) ?_
  refine lv_if_ne (tgt := 27) hx hb dX7_fitsLevel_18 (by decide) (fun _ => ?_) (fun c => absurd c (by decide))
  refine lv_sipush (v := 3000) hx hb dX7_fitsLevel_27 (by decide) ?_
  refine lv_istore (lv' := [(4, .int 3000), (3, .int 210), (0, .int 3), (1, .int h), (2, .int w)]) hx hb dX7_fitsLevel_30 hl (by decide) rfl (fun ls hl => ?_)
  refine lv_iload_n hx hb dX7_fitsLevel_32 rfl (lv_at hl 3 rfl) ?_
  refine lv_iload_n hx hb dX7_fitsLevel_33 rfl (lv_at hl 1 rfl) ?_
  refine lv_icmp_gt (tgt := 47) hx hb dX7_fitsLevel_34 (by decide) (fun c_1 => ?_) (fun c_1 => ?_)
  · have c_1 : (210 < h) := c_1
    refine lv_iconst (v := 0) hx hb dX7_fitsLevel_47 (by decide) ?_
    exact W.zret (v := 0) (ty := .boolean) hx hb hr rfl (fun t ht hW => ⟨0, rfl, (if_neg (fun q => by first | exact absurd q.1 (Int32.not_le.mpr (by assumption)) | exact absurd q.2 (Int32.not_le.mpr (by assumption)))).symm, ht⟩) (fun q h => by cases h) dX7_fitsLevel_48
  · have c_1 : ¬ (210 < h) := c_1
    refine lv_iload_n hx hb dX7_fitsLevel_37 rfl (lv_at hl 4 rfl) ?_
    refine lv_iload hx hb dX7_fitsLevel_38 (lv_at hl 0 rfl) ?_
    refine lv_icmp_gt (tgt := 47) hx hb dX7_fitsLevel_40 (by decide) (fun c_2 => ?_) (fun c_2 => ?_)
    · have c_2 : (3000 < w) := c_2
      refine lv_iconst (v := 0) hx hb dX7_fitsLevel_47 (by decide) ?_
      exact W.zret (v := 0) (ty := .boolean) hx hb hr rfl (fun t ht hW => ⟨0, rfl, (if_neg (fun q => by first | exact absurd q.1 (Int32.not_le.mpr (by assumption)) | exact absurd q.2 (Int32.not_le.mpr (by assumption)))).symm, ht⟩) (fun q h => by cases h) dX7_fitsLevel_48
    · have c_2 : ¬ (3000 < w) := c_2
      refine lv_iconst (v := 1) hx hb dX7_fitsLevel_43 (by decide) ?_
      refine lv_goto (tgt := 48) hx hb dX7_fitsLevel_44 (by decide) ?_
      exact W.zret (v := 1) (ty := .boolean) hx hb hr rfl (fun t ht hW => ⟨1, rfl, (if_pos ⟨pt_lt (by assumption), pt_lt (by assumption)⟩).symm, ht⟩) (fun q h => by cases h) dX7_fitsLevel_48
