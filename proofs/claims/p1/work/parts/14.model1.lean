set_option maxHeartbeats 4000000 in
set_option maxRecDepth 100000 in
theorem c_thrown (l : Launch) (dC : Nat → ClassId) (dI : Nat → Nat → Nat) (mo : Nat) (k : Int32) (tl : List Value) : Met l yX8_thrown wsX8_thrown ({ frames := 0, cells := 0, slots := 0, locals := 0 }) (va_Pc [.ref mo] (pt_B (dC, dI) [(mo, .inr (6, .int k :: tl))] [])) (vp_Si (fun r : Int32 => r = k)) 0 0 (fun _ => False) := by
  refine Met.ofW (cc := cX8_thrown) (maxL := 1) (ret := (some .int)) (by decide) rfl ?_
  intro p e s m args below meth c s₁ B hml hv
  obtain ⟨rfl, hP, hK, hN⟩ := hv
  have hx := B.exec
  have hb := B.bytes
  have hr := B.returns
  have hts := atoms_spec (ws := wsX8_thrown) B.pre
  have hown : s.vm.findClass RX8 = some m.cls := findClass_of_methodNamed B.named
  have hlocks := B.notSynchronized
  have iX8 : ∀ w ∈ wsX80, w ∈ wsX8_thrown := by decide +kernel
  have hP : va_P (dC, dI) vwCl [(mo, .inr (6, .int k :: tl))] s.heap := hP
  have hK : va_K (dC, dI) vwCl [] s := hK
  have hl := lv_entry ([.ref mo]) (n := 1) (Nat.le_of_ble_eq_true rfl)
  rw [lg_entry_eq]
  generalize (lg_sl ([.ref mo]) ++ List.replicate (1 - (lg_sl ([.ref mo])).length) Slot.unset).toArray = ls at hl ⊢
  have hl : lv_has ls 1 [(0, .ref mo)] := hl
  refine lv_aload_n hx hb dX8_thrown_0 rfl (lv_at hl 0 rfl) ?_
  refine va_get (D := (dC, dI)) (ci := 6) (v := .int k) (C := RX8) (T := TX8) (N := 32) hx hb hts iX8 hown hK hP 0 rfl rfl 0 (by decide) (hts (.fieldLink RX8 63 "ParkTowerModel" "thrown" "I") (by decide +kernel)) (fun _ h9 => h9) rfl dX8_thrown_1 ?_
  exact W.iret (v := k) hx hb hr (fun t ht hW => ⟨k, rfl, rfl, ht⟩) (fun q h => by cases h) dX8_thrown_4
set_option maxHeartbeats 4000000 in
set_option maxRecDepth 100000 in
theorem c_in (l : Launch) (dC : Nat → ClassId) (dI : Nat → Nat → Nat) (k lo hi : Int32) : Met l yX8_in wsX8_in ({ frames := 0, cells := 0, slots := 0, locals := 0 }) (va_Pc [.int k, .int lo, .int hi] (pt_B (dC, dI) [] [])) (vp_Si (fun r : Int32 => r = (if ¬ k < lo ∧ ¬ hi < k then 1 else 0))) 0 0 (fun _ => False) := by
  refine Met.ofW (cc := cX8_in) (maxL := 3) (ret := (some .boolean)) (by decide) rfl ?_
  intro p e s m args below meth c s₁ B hml hv
  obtain ⟨rfl, hP, hK, hN⟩ := hv
  have hx := B.exec
  have hb := B.bytes
  have hr := B.returns
  have hts := atoms_spec (ws := wsX8_in) B.pre
  have hown : s.vm.findClass RX8 = some m.cls := findClass_of_methodNamed B.named
  have hlocks := B.notSynchronized
  have hP : va_P (dC, dI) vwCl [] s.heap := hP
  have hK : va_K (dC, dI) vwCl [] s := hK
  have hl := lv_entry ([.int k, .int lo, .int hi]) (n := 3) (Nat.le_of_ble_eq_true rfl)
  rw [lg_entry_eq]
  generalize (lg_sl ([.int k, .int lo, .int hi]) ++ List.replicate (3 - (lg_sl ([.int k, .int lo, .int hi])).length) Slot.unset).toArray = ls at hl ⊢
  have hl : lv_has ls 3 [(0, .int k), (1, .int lo), (2, .int hi)] := hl
  refine lv_iload_n hx hb dX8_in_0 rfl (lv_at hl 0 rfl) ?_
  refine lv_iload_n hx hb dX8_in_1 rfl (lv_at hl 1 rfl) ?_
  refine lv_icmp_lt (tgt := 14) hx hb dX8_in_2 (by decide) (fun c_1 => ?_) (fun c_1 => ?_)
  · have c_1 : (k < lo) := c_1
    refine lv_iconst (v := 0) hx hb dX8_in_14 (by decide) ?_
    exact W.zret (v := 0) (ty := .boolean) hx hb hr rfl (fun t ht hW => ⟨0, rfl, (if_neg (fun q => by first | exact absurd (by assumption) q.1 | exact absurd (by assumption) q.2)).symm, ht⟩) (fun q h => by cases h) dX8_in_15
  · have c_1 : ¬ (k < lo) := c_1
    refine lv_iload_n hx hb dX8_in_5 rfl (lv_at hl 0 rfl) ?_
    refine lv_iload_n hx hb dX8_in_6 rfl (lv_at hl 2 rfl) ?_
    refine lv_icmp_gt (tgt := 14) hx hb dX8_in_7 (by decide) (fun c_2 => ?_) (fun c_2 => ?_)
    · have c_2 : (hi < k) := c_2
      refine lv_iconst (v := 0) hx hb dX8_in_14 (by decide) ?_
      exact W.zret (v := 0) (ty := .boolean) hx hb hr rfl (fun t ht hW => ⟨0, rfl, (if_neg (fun q => by first | exact absurd (by assumption) q.1 | exact absurd (by assumption) q.2)).symm, ht⟩) (fun q h => by cases h) dX8_in_15
    · have c_2 : ¬ (hi < k) := c_2
      refine lv_iconst (v := 1) hx hb dX8_in_10 (by decide) ?_
      refine lv_goto (tgt := 15) hx hb dX8_in_11 (by decide) ?_
      exact W.zret (v := 1) (ty := .boolean) hx hb hr rfl (fun t ht hW => ⟨1, rfl, (if_pos ⟨by assumption, by assumption⟩).symm, ht⟩) (fun q h => by cases h) dX8_in_15
set_option maxHeartbeats 4000000 in
set_option maxRecDepth 100000 in
theorem n_says0 (l : Launch) (dC : Nat → ClassId) (dI : Nat → Nat → Nat) (sz : Nat) (mo m4 m5 m6 m7 m8 m9 m10 m11 m12 m16 m17 m18 m27 m29 m30 m31 : Nat) : Met l yX8_says wsX8_says ({ frames := 0, cells := 0, slots := 0, locals := 0 }) (va_Pc [.ref mo, .int 0] (pt_BQ (dC, dI) [(mo, .inr (6, [.int 0, .int 0, .int 0, .int 0, .ref m4, .ref m5, .ref m6, .ref m7, .ref m8, .ref m9, .ref m10, .ref m11, .ref m12, .int 1, .int 0, .int 0, .ref m16, .ref m17, .ref m18, .int 0, .int 0, .int 0, .int 0, .int 0, .int 0, .int 0, .int 0, .ref m27, .int 0, .ref m29, .ref m30, .ref m31]))] [] sz)) (va_Qi (fun (r : Int32) (_ : Unit) => r = 0) (fun _ t => pt_at (dC, dI) (va_A [(mo, .inr (6, [.int 0, .int 0, .int 0, .int 0, .ref m4, .ref m5, .ref m6, .ref m7, .ref m8, .ref m9, .ref m10, .ref m11, .ref m12, .int 1, .int 0, .int 0, .ref m16, .ref m17, .ref m18, .int 0, .int 0, .int 0, .int 0, .int 0, .int 0, .int 0, .int 0, .ref m27, .int 0, .ref m29, .ref m30, .ref m31]))] sz) [(mo, .inr (6, [.int 1, .int 0, .int 0, .int 0, .ref m4, .ref m5, .ref m6, .ref m7, .ref m8, .ref m9, .ref m10, .ref m11, .ref m12, .int 1, .int 0, .int 0, .ref m16, .ref m17, .ref m18, .int 0, .int 0, .int 0, .int 0, .int 0, .int 0, .int 0, .int 0, .ref m27, .int 0, .ref m29, .ref m30, .ref m31]))] [] t) (va_A [(mo, .inr (6, [.int 0, .int 0, .int 0, .int 0, .ref m4, .ref m5, .ref m6, .ref m7, .ref m8, .ref m9, .ref m10, .ref m11, .ref m12, .int 1, .int 0, .int 0, .ref m16, .ref m17, .ref m18, .int 0, .int 0, .int 0, .int 0, .int 0, .int 0, .int 0, .int 0, .ref m27, .int 0, .ref m29, .ref m30, .ref m31]))] sz)) 0 0 (va_A [(mo, .inr (6, [.int 0, .int 0, .int 0, .int 0, .ref m4, .ref m5, .ref m6, .ref m7, .ref m8, .ref m9, .ref m10, .ref m11, .ref m12, .int 1, .int 0, .int 0, .ref m16, .ref m17, .ref m18, .int 0, .int 0, .int 0, .int 0, .int 0, .int 0, .int 0, .int 0, .ref m27, .int 0, .ref m29, .ref m30, .ref m31]))] sz) := by
  refine Met.ofW (cc := cX8_says) (maxL := 2) (ret := (some .boolean)) (by decide) rfl ?_
  intro p e s m args below meth c s₁ B hml hv
  obtain ⟨rfl, hsz, hP, hK, hD0, hN⟩ := hv
  have hx := B.exec
  have hb := B.bytes
  have hr := B.returns
  have hts := atoms_spec (ws := wsX8_says) B.pre
  have hown : s.vm.findClass RX8 = some m.cls := findClass_of_methodNamed B.named
  have hlocks := B.notSynchronized
  have iX8 : ∀ w ∈ wsX80, w ∈ wsX8_says := by decide +kernel
  subst hsz
  have hD := hD0.self (sz := s.heap.size)
  generalize hAe : va_A [(mo, .inr (6, [.int 0, .int 0, .int 0, .int 0, .ref m4, .ref m5, .ref m6, .ref m7, .ref m8, .ref m9, .ref m10, .ref m11, .ref m12, .int 1, .int 0, .int 0, .ref m16, .ref m17, .ref m18, .int 0, .int 0, .int 0, .int 0, .int 0, .int 0, .int 0, .int 0, .ref m27, .int 0, .ref m29, .ref m30, .ref m31]))] s.heap.size = A at hD ⊢
  have hA : ∀ q : Nat, s.heap.size ≤ q → A q := fun q h => by rw [← hAe]; exact Or.inr h
  have hS : va_S A s.heap s.heap [] := va_S.rf
  have hP : va_P (dC, dI) vwCl [(mo, .inr (6, [.int 0, .int 0, .int 0, .int 0, .ref m4, .ref m5, .ref m6, .ref m7, .ref m8, .ref m9, .ref m10, .ref m11, .ref m12, .int 1, .int 0, .int 0, .ref m16, .ref m17, .ref m18, .int 0, .int 0, .int 0, .int 0, .int 0, .int 0, .int 0, .int 0, .ref m27, .int 0, .ref m29, .ref m30, .ref m31]))] s.heap := hP
  have hK : va_K (dC, dI) vwCl [] s := hK
  have hl := lv_entry ([.ref mo, .int 0]) (n := 2) (Nat.le_of_ble_eq_true rfl)
  rw [lg_entry_eq]
  generalize (lg_sl ([.ref mo, .int 0]) ++ List.replicate (2 - (lg_sl ([.ref mo, .int 0])).length) Slot.unset).toArray = ls at hl ⊢
  have hl : lv_has ls 2 [(0, .ref mo), (1, .int 0)] := hl
  refine lv_aload_n hx hb dX8_says_0 rfl (lv_at hl 0 rfl) ?_
  refine lv_iload_n hx hb dX8_says_1 rfl (lv_at hl 1 rfl) ?_
  refine lv_if_eq (tgt := 9) hx hb dX8_says_2 (by decide) (fun _ => ?_) (fun c => absurd (by decide) c)
  refine lv_iconst (v := 1) hx hb dX8_says_9 (by decide) ?_
  refine va_put (D := (dC, dI)) (ci := 6) (v := .int 1) (ty := .int) (C := RX8) (T := TX8) (N := 32) hx hb hts iX8 tyX8 tyX8_ok nmX8 hown hK hP hD hS 0 rfl rfl 0 (by decide) (hts (.fieldLink RX8 63 "ParkTowerModel" "thrown" "I") (by decide +kernel)) (fun _ h9 => h9) rfl (by decide +kernel) rfl rfl (Nat.le_of_ble_eq_true rfl) dX8_says_10 (fun H locs hP hD hS => ?_)
  have hP : va_P (dC, dI) vwCl [(mo, .inr (6, [.int 1, .int 0, .int 0, .int 0, .ref m4, .ref m5, .ref m6, .ref m7, .ref m8, .ref m9, .ref m10, .ref m11, .ref m12, .int 1, .int 0, .int 0, .ref m16, .ref m17, .ref m18, .int 0, .int 0, .int 0, .int 0, .int 0, .int 0, .int 0, .int 0, .ref m27, .int 0, .ref m29, .ref m30, .ref m31]))] H := hP
  have hD : va_D A [(mo, .inr (6, [.int 1, .int 0, .int 0, .int 0, .ref m4, .ref m5, .ref m6, .ref m7, .ref m8, .ref m9, .ref m10, .ref m11, .ref m12, .int 1, .int 0, .int 0, .ref m16, .ref m17, .ref m18, .int 0, .int 0, .int 0, .int 0, .int 0, .int 0, .int 0, .int 0, .ref m27, .int 0, .ref m29, .ref m30, .ref m31]))] := hD
  refine lv_iload_n hx hb dX8_says_13 rfl (lv_at hl 1 rfl) ?_
  have hP9 := hP.sub (ws' := [(mo, .inr (6, [.int 1, .int 0, .int 0, .int 0, .ref m4, .ref m5, .ref m6, .ref m7, .ref m8, .ref m9, .ref m10, .ref m11, .ref m12, .int 1, .int 0, .int 0, .ref m16, .ref m17, .ref m18, .int 0, .int 0, .int 0, .int 0, .int 0, .int 0, .int 0, .int 0, .ref m27, .int 0, .ref m29, .ref m30, .ref m31]))]) [0] rfl
  have hD9 := hD.sub (ws' := [(mo, .inr (6, [.int 1, .int 0, .int 0, .int 0, .ref m4, .ref m5, .ref m6, .ref m7, .ref m8, .ref m9, .ref m10, .ref m11, .ref m12, .int 1, .int 0, .int 0, .ref m16, .ref m17, .ref m18, .int 0, .int 0, .int 0, .int 0, .int 0, .int 0, .int 0, .int 0, .ref m27, .int 0, .ref m29, .ref m30, .ref m31]))]) [0] (by decide) rfl
  have hK9 := hK.sub (tys' := []) [] rfl
  refine W.widen (k := 0) (n := 0) (by omega) (by omega) ?_
  exact W.zret (v := 0) (ty := .boolean) hx hb hr rfl (fun t ht hW => ⟨⟨0, (), rfl, rfl, by rw [ht]; exact hP9, va_K.moved hW.alike hK9, hD9⟩, hS.F ht⟩) hS.2.2 dX8_says_14
set_option maxHeartbeats 4000000 in
set_option maxRecDepth 100000 in
theorem n_says1 (l : Launch) (dC : Nat → ClassId) (dI : Nat → Nat → Nat) (sz : Nat) (mo m4 m5 m6 m7 m8 m9 m10 m11 m12 m16 m17 m18 m27 m29 m30 m31 : Nat) : Met l yX8_says wsX8_says ({ frames := 0, cells := 0, slots := 0, locals := 0 }) (va_Pc [.ref mo, .int 1] (pt_BQ (dC, dI) [(mo, .inr (6, [.int 0, .int 0, .int 0, .int 0, .ref m4, .ref m5, .ref m6, .ref m7, .ref m8, .ref m9, .ref m10, .ref m11, .ref m12, .int 1, .int 0, .int 0, .ref m16, .ref m17, .ref m18, .int 0, .int 0, .int 0, .int 0, .int 0, .int 0, .int 0, .int 0, .ref m27, .int 0, .ref m29, .ref m30, .ref m31]))] [] sz)) (va_Qi (fun (r : Int32) (_ : Unit) => r = 1) (fun _ t => pt_at (dC, dI) (va_A [(mo, .inr (6, [.int 0, .int 0, .int 0, .int 0, .ref m4, .ref m5, .ref m6, .ref m7, .ref m8, .ref m9, .ref m10, .ref m11, .ref m12, .int 1, .int 0, .int 0, .ref m16, .ref m17, .ref m18, .int 0, .int 0, .int 0, .int 0, .int 0, .int 0, .int 0, .int 0, .ref m27, .int 0, .ref m29, .ref m30, .ref m31]))] sz) [(mo, .inr (6, [.int 0, .int 0, .int 0, .int 0, .ref m4, .ref m5, .ref m6, .ref m7, .ref m8, .ref m9, .ref m10, .ref m11, .ref m12, .int 1, .int 0, .int 0, .ref m16, .ref m17, .ref m18, .int 0, .int 0, .int 0, .int 0, .int 0, .int 0, .int 0, .int 0, .ref m27, .int 0, .ref m29, .ref m30, .ref m31]))] [] t) (va_A [(mo, .inr (6, [.int 0, .int 0, .int 0, .int 0, .ref m4, .ref m5, .ref m6, .ref m7, .ref m8, .ref m9, .ref m10, .ref m11, .ref m12, .int 1, .int 0, .int 0, .ref m16, .ref m17, .ref m18, .int 0, .int 0, .int 0, .int 0, .int 0, .int 0, .int 0, .int 0, .ref m27, .int 0, .ref m29, .ref m30, .ref m31]))] sz)) 0 0 (va_A [(mo, .inr (6, [.int 0, .int 0, .int 0, .int 0, .ref m4, .ref m5, .ref m6, .ref m7, .ref m8, .ref m9, .ref m10, .ref m11, .ref m12, .int 1, .int 0, .int 0, .ref m16, .ref m17, .ref m18, .int 0, .int 0, .int 0, .int 0, .int 0, .int 0, .int 0, .int 0, .ref m27, .int 0, .ref m29, .ref m30, .ref m31]))] sz) := by
  refine Met.ofW (cc := cX8_says) (maxL := 2) (ret := (some .boolean)) (by decide) rfl ?_
  intro p e s m args below meth c s₁ B hml hv
  obtain ⟨rfl, hsz, hP, hK, hD0, hN⟩ := hv
  have hx := B.exec
  have hb := B.bytes
  have hr := B.returns
  have hts := atoms_spec (ws := wsX8_says) B.pre
  have hown : s.vm.findClass RX8 = some m.cls := findClass_of_methodNamed B.named
  have hlocks := B.notSynchronized
  have iX8 : ∀ w ∈ wsX80, w ∈ wsX8_says := by decide +kernel
  subst hsz
  have hD := hD0.self (sz := s.heap.size)
  generalize hAe : va_A [(mo, .inr (6, [.int 0, .int 0, .int 0, .int 0, .ref m4, .ref m5, .ref m6, .ref m7, .ref m8, .ref m9, .ref m10, .ref m11, .ref m12, .int 1, .int 0, .int 0, .ref m16, .ref m17, .ref m18, .int 0, .int 0, .int 0, .int 0, .int 0, .int 0, .int 0, .int 0, .ref m27, .int 0, .ref m29, .ref m30, .ref m31]))] s.heap.size = A at hD ⊢
  have hA : ∀ q : Nat, s.heap.size ≤ q → A q := fun q h => by rw [← hAe]; exact Or.inr h
  have hS : va_S A s.heap s.heap [] := va_S.rf
  have hP : va_P (dC, dI) vwCl [(mo, .inr (6, [.int 0, .int 0, .int 0, .int 0, .ref m4, .ref m5, .ref m6, .ref m7, .ref m8, .ref m9, .ref m10, .ref m11, .ref m12, .int 1, .int 0, .int 0, .ref m16, .ref m17, .ref m18, .int 0, .int 0, .int 0, .int 0, .int 0, .int 0, .int 0, .int 0, .ref m27, .int 0, .ref m29, .ref m30, .ref m31]))] s.heap := hP
  have hK : va_K (dC, dI) vwCl [] s := hK
  have hl := lv_entry ([.ref mo, .int 1]) (n := 2) (Nat.le_of_ble_eq_true rfl)
  rw [lg_entry_eq]
  generalize (lg_sl ([.ref mo, .int 1]) ++ List.replicate (2 - (lg_sl ([.ref mo, .int 1])).length) Slot.unset).toArray = ls at hl ⊢
  have hl : lv_has ls 2 [(0, .ref mo), (1, .int 1)] := hl
  refine lv_aload_n hx hb dX8_says_0 rfl (lv_at hl 0 rfl) ?_
  refine lv_iload_n hx hb dX8_says_1 rfl (lv_at hl 1 rfl) ?_
  refine lv_if_eq (tgt := 9) hx hb dX8_says_2 (by decide) (fun c => absurd c (by decide)) (fun _ => ?_)
  refine lv_iconst (v := 0) hx hb dX8_says_5 (by decide) ?_
  refine lv_goto (tgt := 10) hx hb dX8_says_6 (by decide) ?_
  refine va_put (D := (dC, dI)) (ci := 6) (v := .int 0) (ty := .int) (C := RX8) (T := TX8) (N := 32) hx hb hts iX8 tyX8 tyX8_ok nmX8 hown hK hP hD hS 0 rfl rfl 0 (by decide) (hts (.fieldLink RX8 63 "ParkTowerModel" "thrown" "I") (by decide +kernel)) (fun _ h9 => h9) rfl (by decide +kernel) rfl rfl (Nat.le_of_ble_eq_true rfl) dX8_says_10 (fun H locs hP hD hS => ?_)
  have hP : va_P (dC, dI) vwCl [(mo, .inr (6, [.int 0, .int 0, .int 0, .int 0, .ref m4, .ref m5, .ref m6, .ref m7, .ref m8, .ref m9, .ref m10, .ref m11, .ref m12, .int 1, .int 0, .int 0, .ref m16, .ref m17, .ref m18, .int 0, .int 0, .int 0, .int 0, .int 0, .int 0, .int 0, .int 0, .ref m27, .int 0, .ref m29, .ref m30, .ref m31]))] H := hP
  have hD : va_D A [(mo, .inr (6, [.int 0, .int 0, .int 0, .int 0, .ref m4, .ref m5, .ref m6, .ref m7, .ref m8, .ref m9, .ref m10, .ref m11, .ref m12, .int 1, .int 0, .int 0, .ref m16, .ref m17, .ref m18, .int 0, .int 0, .int 0, .int 0, .int 0, .int 0, .int 0, .int 0, .ref m27, .int 0, .ref m29, .ref m30, .ref m31]))] := hD
  refine lv_iload_n hx hb dX8_says_13 rfl (lv_at hl 1 rfl) ?_
  have hP9 := hP.sub (ws' := [(mo, .inr (6, [.int 0, .int 0, .int 0, .int 0, .ref m4, .ref m5, .ref m6, .ref m7, .ref m8, .ref m9, .ref m10, .ref m11, .ref m12, .int 1, .int 0, .int 0, .ref m16, .ref m17, .ref m18, .int 0, .int 0, .int 0, .int 0, .int 0, .int 0, .int 0, .int 0, .ref m27, .int 0, .ref m29, .ref m30, .ref m31]))]) [0] rfl
  have hD9 := hD.sub (ws' := [(mo, .inr (6, [.int 0, .int 0, .int 0, .int 0, .ref m4, .ref m5, .ref m6, .ref m7, .ref m8, .ref m9, .ref m10, .ref m11, .ref m12, .int 1, .int 0, .int 0, .ref m16, .ref m17, .ref m18, .int 0, .int 0, .int 0, .int 0, .int 0, .int 0, .int 0, .int 0, .ref m27, .int 0, .ref m29, .ref m30, .ref m31]))]) [0] (by decide) rfl
  have hK9 := hK.sub (tys' := []) [] rfl
  refine W.widen (k := 0) (n := 0) (by omega) (by omega) ?_
  exact W.zret (v := 1) (ty := .boolean) hx hb hr rfl (fun t ht hW => ⟨⟨1, (), rfl, rfl, by rw [ht]; exact hP9, va_K.moved hW.alike hK9, hD9⟩, hS.F ht⟩) hS.2.2 dX8_says_14
set_option maxHeartbeats 4000000 in
set_option maxRecDepth 100000 in
theorem c_depth (l : Launch) (dC : Nat → ClassId) (dI : Nat → Nat → Nat) (k : Int32) (hk : k = 1 ∨ k = 25 ∨ k = 49 ∨ k = 73) : Met l yX8_depth wsX8_depth ({ frames := 0, cells := 0, slots := 0, locals := 0 }) (va_Pc [.int k] (pt_B (dC, dI) [] [])) (vp_Si (fun r : Int32 => r = 1)) 0 0 (fun _ => False) := by
  refine Met.ofW (cc := cX8_depth) (maxL := 1) (ret := (some .int)) (by decide) rfl ?_
  intro p e s m args below meth c s₁ B hml hv
  obtain ⟨rfl, hP, hK, hN⟩ := hv
  have hx := B.exec
  have hb := B.bytes
  have hr := B.returns
  have hts := atoms_spec (ws := wsX8_depth) B.pre
  have hown : s.vm.findClass RX8 = some m.cls := findClass_of_methodNamed B.named
  have hlocks := B.notSynchronized
  have hP : va_P (dC, dI) vwCl [] s.heap := hP
  have hK : va_K (dC, dI) vwCl [] s := hK
  have hl := lv_entry ([.int k]) (n := 1) (Nat.le_of_ble_eq_true rfl)
  rw [lg_entry_eq]
  generalize (lg_sl ([.int k]) ++ List.replicate (1 - (lg_sl ([.int k])).length) Slot.unset).toArray = ls at hl ⊢
  have hl : lv_has ls 1 [(0, .int k)] := hl
  refine lv_iload_n hx hb dX8_depth_0 rfl (lv_at hl 0 rfl) ?_
  refine lv_iconst (v := 2) hx hb dX8_depth_1 (by decide) ?_
  refine lv_irem hx hb dX8_depth_2 (by decide) ?_
  exact W.iret (v := k - k / 2 * 2) hx hb hr (fun t ht hW => ⟨k - k / 2 * 2, rfl, (by rcases hk with rfl | rfl | rfl | rfl <;> decide), ht⟩) (fun q h => by cases h) dX8_depth_3
set_option maxHeartbeats 4000000 in
set_option maxRecDepth 100000 in
theorem c_mfits0 (l : Launch) (dC : Nat → ClassId) (dI : Nat → Nat → Nat) (len h w : Int32) : Met l yX8_fits wsX8_fits ({ frames := 0, cells := 0, slots := 0, locals := 0 }) (va_Pc [.int 0, .int len, .int h, .int w] (pt_B (dC, dI) [] [])) (vp_Si (fun r : Int32 => r = (if ¬ 520 < len ∧ h ≤ 160 ∧ w ≤ 2000 then 1 else 0))) 0 0 (fun _ => False) := by
  refine Met.ofW (cc := cX8_fits) (maxL := 4) (ret := (some .boolean)) (by decide) rfl ?_
  intro p e s m args below meth c s₁ B hml hv
  obtain ⟨rfl, hP, hK, hN⟩ := hv
  have hx := B.exec
  have hb := B.bytes
  have hr := B.returns
  have hts := atoms_spec (ws := wsX8_fits) B.pre
  have hown : s.vm.findClass RX8 = some m.cls := findClass_of_methodNamed B.named
  have hlocks := B.notSynchronized
  have hP : va_P (dC, dI) vwCl [] s.heap := hP
  have hK : va_K (dC, dI) vwCl [] s := hK
  have hl := lv_entry ([.int 0, .int len, .int h, .int w]) (n := 4) (Nat.le_of_ble_eq_true rfl)
  rw [lg_entry_eq]
  generalize (lg_sl ([.int 0, .int len, .int h, .int w]) ++ List.replicate (4 - (lg_sl ([.int 0, .int len, .int h, .int w])).length) Slot.unset).toArray = ls at hl ⊢
  have hl : lv_has ls 4 [(0, .int 0), (1, .int len), (2, .int h), (3, .int w)] := hl
  refine lv_iload_n hx hb dX8_fits_0 rfl (lv_at hl 1 rfl) ?_
  refine lv_sipush (v := 520) hx hb dX8_fits_1 (by decide) ?_
  refine lv_icmp_gt (tgt := 48) hx hb dX8_fits_4 (by decide) (fun c_1 => ?_) (fun c_1 => ?_)
  · have c_1 : (520 < len) := c_1
    refine lv_iconst (v := 0) hx hb dX8_fits_48 (by decide) ?_
    exact W.zret (v := 0) (ty := .boolean) hx hb hr rfl (fun t ht hW => ⟨0, rfl, (if_neg (fun q => by first | exact absurd (by assumption) q.1 | exact absurd q.2.1 (Int32.not_le.mpr (by assumption)) | exact absurd q.2.2 (Int32.not_le.mpr (by assumption)))).symm, ht⟩) (fun q h => by cases h) dX8_fits_49
  · have c_1 : ¬ (520 < len) := c_1
    refine lv_iload_n hx hb dX8_fits_7 rfl (lv_at hl 2 rfl) ?_
    refine lv_iload_n hx hb dX8_fits_8 rfl (lv_at hl 0 rfl) ?_
    refine lv_iconst (v := 2) hx hb dX8_fits_9 (by decide) ?_
    refine lv_icmp_ge (tgt := 19) hx hb dX8_fits_10 (by decide) (fun c => absurd c (by decide)) (fun _ => ?_)
    refine lv_sipush (v := 160) hx hb dX8_fits_13 (by decide) ?_
    refine lv_goto (tgt := 22) hx hb dX8_fits_16 (by decide) ?_
    refine lv_icmp_gt (tgt := 48) hx hb dX8_fits_22 (by decide) (fun c_2 => ?_) (fun c_2 => ?_)
    · have c_2 : (160 < h) := c_2
      refine lv_iconst (v := 0) hx hb dX8_fits_48 (by decide) ?_
      exact W.zret (v := 0) (ty := .boolean) hx hb hr rfl (fun t ht hW => ⟨0, rfl, (if_neg (fun q => by first | exact absurd (by assumption) q.1 | exact absurd q.2.1 (Int32.not_le.mpr (by assumption)) | exact absurd q.2.2 (Int32.not_le.mpr (by assumption)))).symm, ht⟩) (fun q h => by cases h) dX8_fits_49
    · have c_2 : ¬ (160 < h) := c_2
      refine lv_iload_n hx hb dX8_fits_25 rfl (lv_at hl 3 rfl) ?_
      refine lv_iload_n hx hb dX8_fits_26 rfl (lv_at hl 0 rfl) ?_
      refine lv_iconst (v := 2) hx hb dX8_fits_27 (by decide) ?_
      refine lv_irem hx hb dX8_fits_28 (by decide) ?_
      refine pt_topi 0 (by decide) ?_
      refine lv_if_ne (tgt := 38) hx hb dX8_fits_29 (by decide) (fun c => absurd (by decide) c) (fun _ => ?_)
      refine lv_sipush (v := 2000) hx hb dX8_fits_32 (by decide) ?_
      refine lv_goto (tgt := 41) hx hb dX8_fits_35 (by decide) ?_
      refine lv_icmp_gt (tgt := 48) hx hb dX8_fits_41 (by decide) (fun c_3 => ?_) (fun c_3 => ?_)
      · have c_3 : (2000 < w) := c_3
        refine lv_iconst (v := 0) hx hb dX8_fits_48 (by decide) ?_
        exact W.zret (v := 0) (ty := .boolean) hx hb hr rfl (fun t ht hW => ⟨0, rfl, (if_neg (fun q => by first | exact absurd (by assumption) q.1 | exact absurd q.2.1 (Int32.not_le.mpr (by assumption)) | exact absurd q.2.2 (Int32.not_le.mpr (by assumption)))).symm, ht⟩) (fun q h => by cases h) dX8_fits_49
      · have c_3 : ¬ (2000 < w) := c_3
        refine lv_iconst (v := 1) hx hb dX8_fits_44 (by decide) ?_
        refine lv_goto (tgt := 49) hx hb dX8_fits_45 (by decide) ?_
        exact W.zret (v := 1) (ty := .boolean) hx hb hr rfl (fun t ht hW => ⟨1, rfl, (if_pos ⟨by assumption, pt_lt (by assumption), pt_lt (by assumption)⟩).symm, ht⟩) (fun q h => by cases h) dX8_fits_49
set_option maxHeartbeats 4000000 in
set_option maxRecDepth 100000 in
theorem c_mfits1 (l : Launch) (dC : Nat → ClassId) (dI : Nat → Nat → Nat) (len h w : Int32) : Met l yX8_fits wsX8_fits ({ frames := 0, cells := 0, slots := 0, locals := 0 }) (va_Pc [.int 1, .int len, .int h, .int w] (pt_B (dC, dI) [] [])) (vp_Si (fun r : Int32 => r = (if ¬ 520 < len ∧ h ≤ 160 ∧ w ≤ 3000 then 1 else 0))) 0 0 (fun _ => False) := by
  refine Met.ofW (cc := cX8_fits) (maxL := 4) (ret := (some .boolean)) (by decide) rfl ?_
  intro p e s m args below meth c s₁ B hml hv
  obtain ⟨rfl, hP, hK, hN⟩ := hv
  have hx := B.exec
  have hb := B.bytes
  have hr := B.returns
  have hts := atoms_spec (ws := wsX8_fits) B.pre
  have hown : s.vm.findClass RX8 = some m.cls := findClass_of_methodNamed B.named
  have hlocks := B.notSynchronized
  have hP : va_P (dC, dI) vwCl [] s.heap := hP
  have hK : va_K (dC, dI) vwCl [] s := hK
  have hl := lv_entry ([.int 1, .int len, .int h, .int w]) (n := 4) (Nat.le_of_ble_eq_true rfl)
  rw [lg_entry_eq]
  generalize (lg_sl ([.int 1, .int len, .int h, .int w]) ++ List.replicate (4 - (lg_sl ([.int 1, .int len, .int h, .int w])).length) Slot.unset).toArray = ls at hl ⊢
  have hl : lv_has ls 4 [(0, .int 1), (1, .int len), (2, .int h), (3, .int w)] := hl
  refine lv_iload_n hx hb dX8_fits_0 rfl (lv_at hl 1 rfl) ?_
  refine lv_sipush (v := 520) hx hb dX8_fits_1 (by decide) ?_
  refine lv_icmp_gt (tgt := 48) hx hb dX8_fits_4 (by decide) (fun c_1 => ?_) (fun c_1 => ?_)
  · have c_1 : (520 < len) := c_1
    refine lv_iconst (v := 0) hx hb dX8_fits_48 (by decide) ?_
    exact W.zret (v := 0) (ty := .boolean) hx hb hr rfl (fun t ht hW => ⟨0, rfl, (if_neg (fun q => by first | exact absurd (by assumption) q.1 | exact absurd q.2.1 (Int32.not_le.mpr (by assumption)) | exact absurd q.2.2 (Int32.not_le.mpr (by assumption)))).symm, ht⟩) (fun q h => by cases h) dX8_fits_49
  · have c_1 : ¬ (520 < len) := c_1
    refine lv_iload_n hx hb dX8_fits_7 rfl (lv_at hl 2 rfl) ?_
    refine lv_iload_n hx hb dX8_fits_8 rfl (lv_at hl 0 rfl) ?_
    refine lv_iconst (v := 2) hx hb dX8_fits_9 (by decide) ?_
    refine lv_icmp_ge (tgt := 19) hx hb dX8_fits_10 (by decide) (fun c => absurd c (by decide)) (fun _ => ?_)
    refine lv_sipush (v := 160) hx hb dX8_fits_13 (by decide) ?_
    refine lv_goto (tgt := 22) hx hb dX8_fits_16 (by decide) ?_
    refine lv_icmp_gt (tgt := 48) hx hb dX8_fits_22 (by decide) (fun c_2 => ?_) (fun c_2 => ?_)
    · have c_2 : (160 < h) := c_2
      refine lv_iconst (v := 0) hx hb dX8_fits_48 (by decide) ?_
      exact W.zret (v := 0) (ty := .boolean) hx hb hr rfl (fun t ht hW => ⟨0, rfl, (if_neg (fun q => by first | exact absurd (by assumption) q.1 | exact absurd q.2.1 (Int32.not_le.mpr (by assumption)) | exact absurd q.2.2 (Int32.not_le.mpr (by assumption)))).symm, ht⟩) (fun q h => by cases h) dX8_fits_49
    · have c_2 : ¬ (160 < h) := c_2
      refine lv_iload_n hx hb dX8_fits_25 rfl (lv_at hl 3 rfl) ?_
      refine lv_iload_n hx hb dX8_fits_26 rfl (lv_at hl 0 rfl) ?_
      refine lv_iconst (v := 2) hx hb dX8_fits_27 (by decide) ?_
      refine lv_irem hx hb dX8_fits_28 (by decide) ?_
      refine pt_topi 1 (by decide) ?_
      refine lv_if_ne (tgt := 38) hx hb dX8_fits_29 (by decide) (fun _ => ?_) (fun c => absurd c (by decide))
      refine lv_sipush (v := 3000) hx hb dX8_fits_38 (by decide) ?_
      refine lv_icmp_gt (tgt := 48) hx hb dX8_fits_41 (by decide) (fun c_3 => ?_) (fun c_3 => ?_)
      · have c_3 : (3000 < w) := c_3
        refine lv_iconst (v := 0) hx hb dX8_fits_48 (by decide) ?_
        exact W.zret (v := 0) (ty := .boolean) hx hb hr rfl (fun t ht hW => ⟨0, rfl, (if_neg (fun q => by first | exact absurd (by assumption) q.1 | exact absurd q.2.1 (Int32.not_le.mpr (by assumption)) | exact absurd q.2.2 (Int32.not_le.mpr (by assumption)))).symm, ht⟩) (fun q h => by cases h) dX8_fits_49
      · have c_3 : ¬ (3000 < w) := c_3
        refine lv_iconst (v := 1) hx hb dX8_fits_44 (by decide) ?_
        refine lv_goto (tgt := 49) hx hb dX8_fits_45 (by decide) ?_
        exact W.zret (v := 1) (ty := .boolean) hx hb hr rfl (fun t ht hW => ⟨1, rfl, (if_pos ⟨by assumption, pt_lt (by assumption), pt_lt (by assumption)⟩).symm, ht⟩) (fun q h => by cases h) dX8_fits_49
set_option maxHeartbeats 4000000 in
set_option maxRecDepth 100000 in
theorem c_mfits2 (l : Launch) (dC : Nat → ClassId) (dI : Nat → Nat → Nat) (len h w : Int32) : Met l yX8_fits wsX8_fits ({ frames := 0, cells := 0, slots := 0, locals := 0 }) (va_Pc [.int 2, .int len, .int h, .int w] (pt_B (dC, dI) [] [])) (vp_Si (fun r : Int32 => r = (if ¬ 520 < len ∧ h ≤ 210 ∧ w ≤ 2000 then 1 else 0))) 0 0 (fun _ => False) := by
  refine Met.ofW (cc := cX8_fits) (maxL := 4) (ret := (some .boolean)) (by decide) rfl ?_
  intro p e s m args below meth c s₁ B hml hv
  obtain ⟨rfl, hP, hK, hN⟩ := hv
  have hx := B.exec
  have hb := B.bytes
  have hr := B.returns
  have hts := atoms_spec (ws := wsX8_fits) B.pre
  have hown : s.vm.findClass RX8 = some m.cls := findClass_of_methodNamed B.named
  have hlocks := B.notSynchronized
  have hP : va_P (dC, dI) vwCl [] s.heap := hP
  have hK : va_K (dC, dI) vwCl [] s := hK
  have hl := lv_entry ([.int 2, .int len, .int h, .int w]) (n := 4) (Nat.le_of_ble_eq_true rfl)
  rw [lg_entry_eq]
  generalize (lg_sl ([.int 2, .int len, .int h, .int w]) ++ List.replicate (4 - (lg_sl ([.int 2, .int len, .int h, .int w])).length) Slot.unset).toArray = ls at hl ⊢
  have hl : lv_has ls 4 [(0, .int 2), (1, .int len), (2, .int h), (3, .int w)] := hl
  refine lv_iload_n hx hb dX8_fits_0 rfl (lv_at hl 1 rfl) ?_
  refine lv_sipush (v := 520) hx hb dX8_fits_1 (by decide) ?_
  refine lv_icmp_gt (tgt := 48) hx hb dX8_fits_4 (by decide) (fun c_1 => ?_) (fun c_1 => ?_)
  · have c_1 : (520 < len) := c_1
    refine lv_iconst (v := 0) hx hb dX8_fits_48 (by decide) ?_
    exact W.zret (v := 0) (ty := .boolean) hx hb hr rfl (fun t ht hW => ⟨0, rfl, (if_neg (fun q => by first | exact absurd (by assumption) q.1 | exact absurd q.2.1 (Int32.not_le.mpr (by assumption)) | exact absurd q.2.2 (Int32.not_le.mpr (by assumption)))).symm, ht⟩) (fun q h => by cases h) dX8_fits_49
  · have c_1 : ¬ (520 < len) := c_1
    refine lv_iload_n hx hb dX8_fits_7 rfl (lv_at hl 2 rfl) ?_
    refine lv_iload_n hx hb dX8_fits_8 rfl (lv_at hl 0 rfl) ?_
    refine lv_iconst (v := 2) hx hb dX8_fits_9 (by decide) ?_
    refine lv_icmp_ge (tgt := 19) hx hb dX8_fits_10 (by decide) (fun _ => ?_) (fun c => absurd (by decide) c)
    refine lv_sipush (v := 210) hx hb dX8_fits_19 (by decide) ?_
    refine lv_icmp_gt (tgt := 48) hx hb dX8_fits_22 (by decide) (fun c_2 => ?_) (fun c_2 => ?_)
    · have c_2 : (210 < h) := c_2
      refine lv_iconst (v := 0) hx hb dX8_fits_48 (by decide) ?_
      exact W.zret (v := 0) (ty := .boolean) hx hb hr rfl (fun t ht hW => ⟨0, rfl, (if_neg (fun q => by first | exact absurd (by assumption) q.1 | exact absurd q.2.1 (Int32.not_le.mpr (by assumption)) | exact absurd q.2.2 (Int32.not_le.mpr (by assumption)))).symm, ht⟩) (fun q h => by cases h) dX8_fits_49
    · have c_2 : ¬ (210 < h) := c_2
      refine lv_iload_n hx hb dX8_fits_25 rfl (lv_at hl 3 rfl) ?_
      refine lv_iload_n hx hb dX8_fits_26 rfl (lv_at hl 0 rfl) ?_
      refine lv_iconst (v := 2) hx hb dX8_fits_27 (by decide) ?_
      refine lv_irem hx hb dX8_fits_28 (by decide) ?_
      refine pt_topi 0 (by decide) ?_
      refine lv_if_ne (tgt := 38) hx hb dX8_fits_29 (by decide) (fun c => absurd (by decide) c) (fun _ => ?_)
      refine lv_sipush (v := 2000) hx hb dX8_fits_32 (by decide) ?_
      refine lv_goto (tgt := 41) hx hb dX8_fits_35 (by decide) ?_
      refine lv_icmp_gt (tgt := 48) hx hb dX8_fits_41 (by decide) (fun c_3 => ?_) (fun c_3 => ?_)
      · have c_3 : (2000 < w) := c_3
        refine lv_iconst (v := 0) hx hb dX8_fits_48 (by decide) ?_
        exact W.zret (v := 0) (ty := .boolean) hx hb hr rfl (fun t ht hW => ⟨0, rfl, (if_neg (fun q => by first | exact absurd (by assumption) q.1 | exact absurd q.2.1 (Int32.not_le.mpr (by assumption)) | exact absurd q.2.2 (Int32.not_le.mpr (by assumption)))).symm, ht⟩) (fun q h => by cases h) dX8_fits_49
      · have c_3 : ¬ (2000 < w) := c_3
        refine lv_iconst (v := 1) hx hb dX8_fits_44 (by decide) ?_
        refine lv_goto (tgt := 49) hx hb dX8_fits_45 (by decide) ?_
        exact W.zret (v := 1) (ty := .boolean) hx hb hr rfl (fun t ht hW => ⟨1, rfl, (if_pos ⟨by assumption, pt_lt (by assumption), pt_lt (by assumption)⟩).symm, ht⟩) (fun q h => by cases h) dX8_fits_49
set_option maxHeartbeats 4000000 in
set_option maxRecDepth 100000 in
theorem c_mfits3 (l : Launch) (dC : Nat → ClassId) (dI : Nat → Nat → Nat) (len h w : Int32) : Met l yX8_fits wsX8_fits ({ frames := 0, cells := 0, slots := 0, locals := 0 }) (va_Pc [.int 3, .int len, .int h, .int w] (pt_B (dC, dI) [] [])) (vp_Si (fun r : Int32 => r = (if ¬ 520 < len ∧ h ≤ 210 ∧ w ≤ 3000 then 1 else 0))) 0 0 (fun _ => False) := by
  refine Met.ofW (cc := cX8_fits) (maxL := 4) (ret := (some .boolean)) (by decide) rfl ?_
  intro p e s m args below meth c s₁ B hml hv
  obtain ⟨rfl, hP, hK, hN⟩ := hv
  have hx := B.exec
  have hb := B.bytes
  have hr := B.returns
  have hts := atoms_spec (ws := wsX8_fits) B.pre
  have hown : s.vm.findClass RX8 = some m.cls := findClass_of_methodNamed B.named
  have hlocks := B.notSynchronized
  have hP : va_P (dC, dI) vwCl [] s.heap := hP
  have hK : va_K (dC, dI) vwCl [] s := hK
  have hl := lv_entry ([.int 3, .int len, .int h, .int w]) (n := 4) (Nat.le_of_ble_eq_true rfl)
  rw [lg_entry_eq]
  generalize (lg_sl ([.int 3, .int len, .int h, .int w]) ++ List.replicate (4 - (lg_sl ([.int 3, .int len, .int h, .int w])).length) Slot.unset).toArray = ls at hl ⊢
  have hl : lv_has ls 4 [(0, .int 3), (1, .int len), (2, .int h), (3, .int w)] := hl
  refine lv_iload_n hx hb dX8_fits_0 rfl (lv_at hl 1 rfl) ?_
  refine lv_sipush (v := 520) hx hb dX8_fits_1 (by decide) ?_
  refine lv_icmp_gt (tgt := 48) hx hb dX8_fits_4 (by decide) (fun c_1 => ?_) (fun c_1 => ?_)
  · have c_1 : (520 < len) := c_1
    refine lv_iconst (v := 0) hx hb dX8_fits_48 (by decide) ?_
    exact W.zret (v := 0) (ty := .boolean) hx hb hr rfl (fun t ht hW => ⟨0, rfl, (if_neg (fun q => by first | exact absurd (by assumption) q.1 | exact absurd q.2.1 (Int32.not_le.mpr (by assumption)) | exact absurd q.2.2 (Int32.not_le.mpr (by assumption)))).symm, ht⟩) (fun q h => by cases h) dX8_fits_49
  · have c_1 : ¬ (520 < len) := c_1
    refine lv_iload_n hx hb dX8_fits_7 rfl (lv_at hl 2 rfl) ?_
    refine lv_iload_n hx hb dX8_fits_8 rfl (lv_at hl 0 rfl) ?_
    refine lv_iconst (v := 2) hx hb dX8_fits_9 (by decide) ?_
    refine lv_icmp_ge (tgt := 19) hx hb dX8_fits_10 (by decide) (fun _ => ?_) (fun c => absurd (by decide) c)
    refine lv_sipush (v := 210) hx hb dX8_fits_19 (by decide) ?_
    refine lv_icmp_gt (tgt := 48) hx hb dX8_fits_22 (by decide) (fun c_2 => ?_) (fun c_2 => ?_)
    · have c_2 : (210 < h) := c_2
      refine lv_iconst (v := 0) hx hb dX8_fits_48 (by decide) ?_
      exact W.zret (v := 0) (ty := .boolean) hx hb hr rfl (fun t ht hW => ⟨0, rfl, (if_neg (fun q => by first | exact absurd (by assumption) q.1 | exact absurd q.2.1 (Int32.not_le.mpr (by assumption)) | exact absurd q.2.2 (Int32.not_le.mpr (by assumption)))).symm, ht⟩) (fun q h => by cases h) dX8_fits_49
    · have c_2 : ¬ (210 < h) := c_2
      refine lv_iload_n hx hb dX8_fits_25 rfl (lv_at hl 3 rfl) ?_
      refine lv_iload_n hx hb dX8_fits_26 rfl (lv_at hl 0 rfl) ?_
      refine lv_iconst (v := 2) hx hb dX8_fits_27 (by decide) ?_
      refine lv_irem hx hb dX8_fits_28 (by decide) ?_
      refine pt_topi 1 (by decide) ?_
      refine lv_if_ne (tgt := 38) hx hb dX8_fits_29 (by decide) (fun _ => ?_) (fun c => absurd c (by decide))
      refine lv_sipush (v := 3000) hx hb dX8_fits_38 (by decide) ?_
      refine lv_icmp_gt (tgt := 48) hx hb dX8_fits_41 (by decide) (fun c_3 => ?_) (fun c_3 => ?_)
      · have c_3 : (3000 < w) := c_3
        refine lv_iconst (v := 0) hx hb dX8_fits_48 (by decide) ?_
        exact W.zret (v := 0) (ty := .boolean) hx hb hr rfl (fun t ht hW => ⟨0, rfl, (if_neg (fun q => by first | exact absurd (by assumption) q.1 | exact absurd q.2.1 (Int32.not_le.mpr (by assumption)) | exact absurd q.2.2 (Int32.not_le.mpr (by assumption)))).symm, ht⟩) (fun q h => by cases h) dX8_fits_49
      · have c_3 : ¬ (3000 < w) := c_3
        refine lv_iconst (v := 1) hx hb dX8_fits_44 (by decide) ?_
        refine lv_goto (tgt := 49) hx hb dX8_fits_45 (by decide) ?_
        exact W.zret (v := 1) (ty := .boolean) hx hb hr rfl (fun t ht hW => ⟨1, rfl, (if_pos ⟨by assumption, pt_lt (by assumption), pt_lt (by assumption)⟩).symm, ht⟩) (fun q h => by cases h) dX8_fits_49
set_option maxHeartbeats 4000000 in
set_option maxRecDepth 100000 in
theorem c_freeOn0 (l : Launch) (dC : Nat → ClassId) (dI : Nat → Nat → Nat) (mo m4 m5 m6 m7 m8 m9 m10 m11 m12 m16 m17 m18 m27 m29 m30 m31 : Nat) (y4 y5 y6 y7 y8 y9 y10 y11 y12 : ClassId) : Met l yX8_freeOn wsX8_freeOn ({ frames := 0, cells := 0, slots := 0, locals := 0 }) (va_Pc [.ref mo, .int 0] (pt_B (dC, dI) [(mo, .inr (6, [.int 0, .int 0, .int 0, .int 0, .ref m4, .ref m5, .ref m6, .ref m7, .ref m8, .ref m9, .ref m10, .ref m11, .ref m12, .int 1, .int 0, .int 0, .ref m16, .ref m17, .ref m18, .int 0, .int 0, .int 0, .int 0, .int 0, .int 0, .int 0, .int 0, .ref m27, .int 0, .ref m29, .ref m30, .ref m31])), (m4, .inl (y4, 700, .inl (fun _ => 0))), (m5, .inl (y5, 700, .inl (fun _ => 0))), (m6, .inl (y6, 700, .inl (fun _ => 0))), (m7, .inl (y7, 96, .inl (fun _ => 0))), (m8, .inl (y8, 2, .inl (upd (upd (fun _ => 0) 0 2) 1 2))), (m9, .inl (y9, 2, .inl (fun _ => 0))), (m10, .inl (y10, 2, .inl (fun _ => 0))), (m11, .inl (y11, 2, .inl (upd (upd (fun _ => 0) 0 (-1)) 1 (-1)))), (m12, .inl (y12, 4, .inl (fun _ => 0)))] [(y4, .int), (y5, .int), (y6, .int), (y7, .int), (y8, .int), (y9, .int), (y10, .boolean), (y11, .int), (y12, .boolean)])) (vp_Si (fun r : Int32 => r = 24)) 0 0 (fun _ => False) := by
  refine Met.ofW (cc := cX8_freeOn) (maxL := 4) (ret := (some .int)) (by decide) rfl ?_
  intro p e s m args below meth c s₁ B hml hv
  obtain ⟨rfl, hP, hK, hN⟩ := hv
  have hx := B.exec
  have hb := B.bytes
  have hr := B.returns
  have hts := atoms_spec (ws := wsX8_freeOn) B.pre
  have hown : s.vm.findClass RX8 = some m.cls := findClass_of_methodNamed B.named
  have hlocks := B.notSynchronized
  have iX8 : ∀ w ∈ wsX80, w ∈ wsX8_freeOn := by decide +kernel
  have hP : va_P (dC, dI) vwCl [(mo, .inr (6, [.int 0, .int 0, .int 0, .int 0, .ref m4, .ref m5, .ref m6, .ref m7, .ref m8, .ref m9, .ref m10, .ref m11, .ref m12, .int 1, .int 0, .int 0, .ref m16, .ref m17, .ref m18, .int 0, .int 0, .int 0, .int 0, .int 0, .int 0, .int 0, .int 0, .ref m27, .int 0, .ref m29, .ref m30, .ref m31])), (m4, .inl (y4, 700, .inl (fun _ => 0))), (m5, .inl (y5, 700, .inl (fun _ => 0))), (m6, .inl (y6, 700, .inl (fun _ => 0))), (m7, .inl (y7, 96, .inl (fun _ => 0))), (m8, .inl (y8, 2, .inl (upd (upd (fun _ => 0) 0 2) 1 2))), (m9, .inl (y9, 2, .inl (fun _ => 0))), (m10, .inl (y10, 2, .inl (fun _ => 0))), (m11, .inl (y11, 2, .inl (upd (upd (fun _ => 0) 0 (-1)) 1 (-1)))), (m12, .inl (y12, 4, .inl (fun _ => 0)))] s.heap := hP
  have hK : va_K (dC, dI) vwCl [(y4, .int), (y5, .int), (y6, .int), (y7, .int), (y8, .int), (y9, .int), (y10, .boolean), (y11, .int), (y12, .boolean)] s := hK
  have hl := lv_entry ([.ref mo, .int 0]) (n := 4) (Nat.le_of_ble_eq_true rfl)
  rw [lg_entry_eq]
  generalize (lg_sl ([.ref mo, .int 0]) ++ List.replicate (4 - (lg_sl ([.ref mo, .int 0])).length) Slot.unset).toArray = ls at hl ⊢
  have hl : lv_has ls 4 [(0, .ref mo), (1, .int 0)] := hl
  refine lv_iconst (v := 0) hx hb dX8_freeOn_0 (by decide) ?_
  refine lv_istore_n (lv' := [(2, .int 0), (0, .ref mo), (1, .int 0)]) hx hb dX8_freeOn_1 rfl hl (by decide) rfl (fun ls hl => ?_)
  refine lv_bipush (v := 24) hx hb dX8_freeOn_2 (by decide) ?_
  refine lv_iload_n hx hb dX8_freeOn_4 rfl (lv_at hl 2 rfl) ?_
  refine lv_imul hx hb dX8_freeOn_5 ?_
  refine pt_topi 0 (by decide) ?_
  refine lv_istore_n (lv' := [(3, .int 0), (2, .int 0), (0, .ref mo), (1, .int 0)]) hx hb dX8_freeOn_6 rfl hl (by decide) rfl (fun ls hl => ?_)
  refine pt_loop 24 (fun k ls => lv_has ls 4 [(3, .int (nI (0 + k))), (2, .int (nI k)), (0, .ref mo), (1, .int 0)]) (fun ls hl => ?_) (fun k ls hk hl ih => ?_) (lv_sub hl [0, 1, 2, 3] rfl)
  · have hl : lv_has ls 4 [(3, .int 24), (2, .int 24), (0, .ref mo), (1, .int 0)] := hl
    refine lv_iload_n hx hb dX8_freeOn_7 rfl (lv_at hl 0 rfl) ?_
    refine lv_bipush (v := 24) hx hb dX8_freeOn_8 (by decide) ?_
    refine lv_iload_n hx hb dX8_freeOn_10 rfl (lv_at hl 3 rfl) ?_
    refine lv_imul hx hb dX8_freeOn_11 ?_
    refine pt_topi 0 (by decide) ?_
    refine lv_bipush (v := 24) hx hb dX8_freeOn_12 (by decide) ?_
    refine lv_iadd hx hb dX8_freeOn_14 ?_
    refine pt_topi 24 (by decide) ?_
    refine lv_icmp_ge (tgt := 41) hx hb dX8_freeOn_15 (by decide) (fun _ => ?_) (fun c => absurd (by decide) c)
    refine lv_iload_n hx hb dX8_freeOn_41 rfl (lv_at hl 1 rfl) ?_
    exact W.iret (v := 24) hx hb hr (fun t ht hW => ⟨24, rfl, rfl, ht⟩) (fun q h => by cases h) dX8_freeOn_42
  · have hl : lv_has ls 4 [(3, .int (nI (0 + k))), (2, .int (nI k)), (0, .ref mo), (1, .int 0)] := hl
    have c_0 : ¬ ((24 : Int32) ≤ nI (0 + k)) := nI_ge (b := 24) (by omega) (by decide)
    have h_in : vp_in (nI (0 + k)) 96 := vp_in_nI (by omega) (by decide)
    refine lv_iload_n hx hb dX8_freeOn_7 rfl (lv_at hl 0 rfl) ?_
    refine lv_bipush (v := 24) hx hb dX8_freeOn_8 (by decide) ?_
    refine lv_iload_n hx hb dX8_freeOn_10 rfl (lv_at hl 3 rfl) ?_
    refine lv_imul hx hb dX8_freeOn_11 ?_
    refine pt_topi 0 (by decide) ?_
    refine lv_bipush (v := 24) hx hb dX8_freeOn_12 (by decide) ?_
    refine lv_iadd hx hb dX8_freeOn_14 ?_
    refine pt_topi 24 (by decide) ?_
    refine lv_icmp_ge (tgt := 41) hx hb dX8_freeOn_15 (by decide) (fun c => absurd c (by assumption)) (fun _ => ?_)
    refine lv_aload_n hx hb dX8_freeOn_18 rfl (lv_at hl 2 rfl) ?_
    refine va_get (D := (dC, dI)) (ci := 6) (v := .ref m7) (C := RX8) (T := TX8) (N := 32) hx hb hts iX8 hown hK hP 0 rfl rfl 7 (by decide) (hts (.fieldLink RX8 19 "ParkTowerModel" "cell" "[I") (by decide +kernel)) (fun _ h9 => h9) rfl dX8_freeOn_19 ?_
    refine lv_iload_n hx hb dX8_freeOn_22 rfl (lv_at hl 0 rfl) ?_
    refine va_iald hx hb hK hP 4 3 rfl rfl h_in dX8_freeOn_23 ?_
    refine pt_topi 0 rfl ?_
    refine lv_if_ne (tgt := 33) hx hb dX8_freeOn_24 (by decide) (fun c => absurd (by decide) c) (fun _ => ?_)
    refine lv_iload_n hx hb dX8_freeOn_27 rfl (lv_at hl 1 rfl) ?_
    refine lv_iconst (v := 1) hx hb dX8_freeOn_28 (by decide) ?_
    refine lv_iadd hx hb dX8_freeOn_29 ?_
    refine lv_goto (tgt := 34) hx hb dX8_freeOn_30 (by decide) ?_
    refine lv_istore_n (lv' := [(2, .int ((nI k) + 1)), (3, .int (nI (0 + k))), (0, .ref mo), (1, .int 0)]) hx hb dX8_freeOn_34 rfl hl (by decide) rfl (fun ls hl => ?_)
    refine lv_iinc (v := (nI (0 + k)) + 1) (lv' := [(3, .int ((nI (0 + k)) + 1)), (2, .int ((nI k) + 1)), (0, .ref mo), (1, .int 0)]) hx hb dX8_freeOn_35 hl (k := 1) rfl rfl (by decide) rfl (fun ls hl => ?_)
    refine lv_goto (tgt := 7) hx hb dX8_freeOn_38 (by decide) ?_
    rw [nI_1, nI_1] at hl
    exact ih ls (lv_sub hl [0, 1, 2, 3] rfl)
set_option maxHeartbeats 4000000 in
set_option maxRecDepth 100000 in
theorem c_freeOn1 (l : Launch) (dC : Nat → ClassId) (dI : Nat → Nat → Nat) (mo m4 m5 m6 m7 m8 m9 m10 m11 m12 m16 m17 m18 m27 m29 m30 m31 : Nat) (y4 y5 y6 y7 y8 y9 y10 y11 y12 : ClassId) : Met l yX8_freeOn wsX8_freeOn ({ frames := 0, cells := 0, slots := 0, locals := 0 }) (va_Pc [.ref mo, .int 1] (pt_B (dC, dI) [(mo, .inr (6, [.int 0, .int 0, .int 0, .int 0, .ref m4, .ref m5, .ref m6, .ref m7, .ref m8, .ref m9, .ref m10, .ref m11, .ref m12, .int 1, .int 0, .int 0, .ref m16, .ref m17, .ref m18, .int 0, .int 0, .int 0, .int 0, .int 0, .int 0, .int 0, .int 0, .ref m27, .int 0, .ref m29, .ref m30, .ref m31])), (m4, .inl (y4, 700, .inl (fun _ => 0))), (m5, .inl (y5, 700, .inl (fun _ => 0))), (m6, .inl (y6, 700, .inl (fun _ => 0))), (m7, .inl (y7, 96, .inl (fun _ => 0))), (m8, .inl (y8, 2, .inl (upd (upd (fun _ => 0) 0 2) 1 2))), (m9, .inl (y9, 2, .inl (fun _ => 0))), (m10, .inl (y10, 2, .inl (fun _ => 0))), (m11, .inl (y11, 2, .inl (upd (upd (fun _ => 0) 0 (-1)) 1 (-1)))), (m12, .inl (y12, 4, .inl (fun _ => 0)))] [(y4, .int), (y5, .int), (y6, .int), (y7, .int), (y8, .int), (y9, .int), (y10, .boolean), (y11, .int), (y12, .boolean)])) (vp_Si (fun r : Int32 => r = 24)) 0 0 (fun _ => False) := by
  refine Met.ofW (cc := cX8_freeOn) (maxL := 4) (ret := (some .int)) (by decide) rfl ?_
  intro p e s m args below meth c s₁ B hml hv
  obtain ⟨rfl, hP, hK, hN⟩ := hv
  have hx := B.exec
  have hb := B.bytes
  have hr := B.returns
  have hts := atoms_spec (ws := wsX8_freeOn) B.pre
  have hown : s.vm.findClass RX8 = some m.cls := findClass_of_methodNamed B.named
  have hlocks := B.notSynchronized
  have iX8 : ∀ w ∈ wsX80, w ∈ wsX8_freeOn := by decide +kernel
  have hP : va_P (dC, dI) vwCl [(mo, .inr (6, [.int 0, .int 0, .int 0, .int 0, .ref m4, .ref m5, .ref m6, .ref m7, .ref m8, .ref m9, .ref m10, .ref m11, .ref m12, .int 1, .int 0, .int 0, .ref m16, .ref m17, .ref m18, .int 0, .int 0, .int 0, .int 0, .int 0, .int 0, .int 0, .int 0, .ref m27, .int 0, .ref m29, .ref m30, .ref m31])), (m4, .inl (y4, 700, .inl (fun _ => 0))), (m5, .inl (y5, 700, .inl (fun _ => 0))), (m6, .inl (y6, 700, .inl (fun _ => 0))), (m7, .inl (y7, 96, .inl (fun _ => 0))), (m8, .inl (y8, 2, .inl (upd (upd (fun _ => 0) 0 2) 1 2))), (m9, .inl (y9, 2, .inl (fun _ => 0))), (m10, .inl (y10, 2, .inl (fun _ => 0))), (m11, .inl (y11, 2, .inl (upd (upd (fun _ => 0) 0 (-1)) 1 (-1)))), (m12, .inl (y12, 4, .inl (fun _ => 0)))] s.heap := hP
  have hK : va_K (dC, dI) vwCl [(y4, .int), (y5, .int), (y6, .int), (y7, .int), (y8, .int), (y9, .int), (y10, .boolean), (y11, .int), (y12, .boolean)] s := hK
  have hl := lv_entry ([.ref mo, .int 1]) (n := 4) (Nat.le_of_ble_eq_true rfl)
  rw [lg_entry_eq]
  generalize (lg_sl ([.ref mo, .int 1]) ++ List.replicate (4 - (lg_sl ([.ref mo, .int 1])).length) Slot.unset).toArray = ls at hl ⊢
  have hl : lv_has ls 4 [(0, .ref mo), (1, .int 1)] := hl
  refine lv_iconst (v := 0) hx hb dX8_freeOn_0 (by decide) ?_
  refine lv_istore_n (lv' := [(2, .int 0), (0, .ref mo), (1, .int 1)]) hx hb dX8_freeOn_1 rfl hl (by decide) rfl (fun ls hl => ?_)
  refine lv_bipush (v := 24) hx hb dX8_freeOn_2 (by decide) ?_
  refine lv_iload_n hx hb dX8_freeOn_4 rfl (lv_at hl 2 rfl) ?_
  refine lv_imul hx hb dX8_freeOn_5 ?_
  refine pt_topi 24 (by decide) ?_
  refine lv_istore_n (lv' := [(3, .int 24), (2, .int 0), (0, .ref mo), (1, .int 1)]) hx hb dX8_freeOn_6 rfl hl (by decide) rfl (fun ls hl => ?_)
  refine pt_loop 24 (fun k ls => lv_has ls 4 [(3, .int (nI (24 + k))), (2, .int (nI k)), (0, .ref mo), (1, .int 1)]) (fun ls hl => ?_) (fun k ls hk hl ih => ?_) (lv_sub hl [0, 1, 2, 3] rfl)
  · have hl : lv_has ls 4 [(3, .int 48), (2, .int 24), (0, .ref mo), (1, .int 1)] := hl
    refine lv_iload_n hx hb dX8_freeOn_7 rfl (lv_at hl 0 rfl) ?_
    refine lv_bipush (v := 24) hx hb dX8_freeOn_8 (by decide) ?_
    refine lv_iload_n hx hb dX8_freeOn_10 rfl (lv_at hl 3 rfl) ?_
    refine lv_imul hx hb dX8_freeOn_11 ?_
    refine pt_topi 24 (by decide) ?_
    refine lv_bipush (v := 24) hx hb dX8_freeOn_12 (by decide) ?_
    refine lv_iadd hx hb dX8_freeOn_14 ?_
    refine pt_topi 48 (by decide) ?_
    refine lv_icmp_ge (tgt := 41) hx hb dX8_freeOn_15 (by decide) (fun _ => ?_) (fun c => absurd (by decide) c)
    refine lv_iload_n hx hb dX8_freeOn_41 rfl (lv_at hl 1 rfl) ?_
    exact W.iret (v := 24) hx hb hr (fun t ht hW => ⟨24, rfl, rfl, ht⟩) (fun q h => by cases h) dX8_freeOn_42
  · have hl : lv_has ls 4 [(3, .int (nI (24 + k))), (2, .int (nI k)), (0, .ref mo), (1, .int 1)] := hl
    have c_0 : ¬ ((48 : Int32) ≤ nI (24 + k)) := nI_ge (b := 48) (by omega) (by decide)
    have h_in : vp_in (nI (24 + k)) 96 := vp_in_nI (by omega) (by decide)
    refine lv_iload_n hx hb dX8_freeOn_7 rfl (lv_at hl 0 rfl) ?_
    refine lv_bipush (v := 24) hx hb dX8_freeOn_8 (by decide) ?_
    refine lv_iload_n hx hb dX8_freeOn_10 rfl (lv_at hl 3 rfl) ?_
    refine lv_imul hx hb dX8_freeOn_11 ?_
    refine pt_topi 24 (by decide) ?_
    refine lv_bipush (v := 24) hx hb dX8_freeOn_12 (by decide) ?_
    refine lv_iadd hx hb dX8_freeOn_14 ?_
    refine pt_topi 48 (by decide) ?_
    refine lv_icmp_ge (tgt := 41) hx hb dX8_freeOn_15 (by decide) (fun c => absurd c (by assumption)) (fun _ => ?_)
    refine lv_aload_n hx hb dX8_freeOn_18 rfl (lv_at hl 2 rfl) ?_
    refine va_get (D := (dC, dI)) (ci := 6) (v := .ref m7) (C := RX8) (T := TX8) (N := 32) hx hb hts iX8 hown hK hP 0 rfl rfl 7 (by decide) (hts (.fieldLink RX8 19 "ParkTowerModel" "cell" "[I") (by decide +kernel)) (fun _ h9 => h9) rfl dX8_freeOn_19 ?_
    refine lv_iload_n hx hb dX8_freeOn_22 rfl (lv_at hl 0 rfl) ?_
    refine va_iald hx hb hK hP 4 3 rfl rfl h_in dX8_freeOn_23 ?_
    refine pt_topi 0 rfl ?_
    refine lv_if_ne (tgt := 33) hx hb dX8_freeOn_24 (by decide) (fun c => absurd (by decide) c) (fun _ => ?_)
    refine lv_iload_n hx hb dX8_freeOn_27 rfl (lv_at hl 1 rfl) ?_
    refine lv_iconst (v := 1) hx hb dX8_freeOn_28 (by decide) ?_
    refine lv_iadd hx hb dX8_freeOn_29 ?_
    refine lv_goto (tgt := 34) hx hb dX8_freeOn_30 (by decide) ?_
    refine lv_istore_n (lv' := [(2, .int ((nI k) + 1)), (3, .int (nI (24 + k))), (0, .ref mo), (1, .int 1)]) hx hb dX8_freeOn_34 rfl hl (by decide) rfl (fun ls hl => ?_)
    refine lv_iinc (v := (nI (24 + k)) + 1) (lv' := [(3, .int ((nI (24 + k)) + 1)), (2, .int ((nI k) + 1)), (0, .ref mo), (1, .int 1)]) hx hb dX8_freeOn_35 hl (k := 1) rfl rfl (by decide) rfl (fun ls hl => ?_)
    refine lv_goto (tgt := 7) hx hb dX8_freeOn_38 (by decide) ?_
    rw [nI_1, nI_1] at hl
    exact ih ls (lv_sub hl [0, 1, 2, 3] rfl)
set_option maxHeartbeats 4000000 in
set_option maxRecDepth 100000 in
theorem c_freeOn2 (l : Launch) (dC : Nat → ClassId) (dI : Nat → Nat → Nat) (mo m4 m5 m6 m7 m8 m9 m10 m11 m12 m16 m17 m18 m27 m29 m30 m31 : Nat) (y4 y5 y6 y7 y8 y9 y10 y11 y12 : ClassId) : Met l yX8_freeOn wsX8_freeOn ({ frames := 0, cells := 0, slots := 0, locals := 0 }) (va_Pc [.ref mo, .int 2] (pt_B (dC, dI) [(mo, .inr (6, [.int 0, .int 0, .int 0, .int 0, .ref m4, .ref m5, .ref m6, .ref m7, .ref m8, .ref m9, .ref m10, .ref m11, .ref m12, .int 1, .int 0, .int 0, .ref m16, .ref m17, .ref m18, .int 0, .int 0, .int 0, .int 0, .int 0, .int 0, .int 0, .int 0, .ref m27, .int 0, .ref m29, .ref m30, .ref m31])), (m4, .inl (y4, 700, .inl (fun _ => 0))), (m5, .inl (y5, 700, .inl (fun _ => 0))), (m6, .inl (y6, 700, .inl (fun _ => 0))), (m7, .inl (y7, 96, .inl (fun _ => 0))), (m8, .inl (y8, 2, .inl (upd (upd (fun _ => 0) 0 2) 1 2))), (m9, .inl (y9, 2, .inl (fun _ => 0))), (m10, .inl (y10, 2, .inl (fun _ => 0))), (m11, .inl (y11, 2, .inl (upd (upd (fun _ => 0) 0 (-1)) 1 (-1)))), (m12, .inl (y12, 4, .inl (fun _ => 0)))] [(y4, .int), (y5, .int), (y6, .int), (y7, .int), (y8, .int), (y9, .int), (y10, .boolean), (y11, .int), (y12, .boolean)])) (vp_Si (fun r : Int32 => r = 24)) 0 0 (fun _ => False) := by
  refine Met.ofW (cc := cX8_freeOn) (maxL := 4) (ret := (some .int)) (by decide) rfl ?_
  intro p e s m args below meth c s₁ B hml hv
  obtain ⟨rfl, hP, hK, hN⟩ := hv
  have hx := B.exec
  have hb := B.bytes
  have hr := B.returns
  have hts := atoms_spec (ws := wsX8_freeOn) B.pre
  have hown : s.vm.findClass RX8 = some m.cls := findClass_of_methodNamed B.named
  have hlocks := B.notSynchronized
  have iX8 : ∀ w ∈ wsX80, w ∈ wsX8_freeOn := by decide +kernel
  have hP : va_P (dC, dI) vwCl [(mo, .inr (6, [.int 0, .int 0, .int 0, .int 0, .ref m4, .ref m5, .ref m6, .ref m7, .ref m8, .ref m9, .ref m10, .ref m11, .ref m12, .int 1, .int 0, .int 0, .ref m16, .ref m17, .ref m18, .int 0, .int 0, .int 0, .int 0, .int 0, .int 0, .int 0, .int 0, .ref m27, .int 0, .ref m29, .ref m30, .ref m31])), (m4, .inl (y4, 700, .inl (fun _ => 0))), (m5, .inl (y5, 700, .inl (fun _ => 0))), (m6, .inl (y6, 700, .inl (fun _ => 0))), (m7, .inl (y7, 96, .inl (fun _ => 0))), (m8, .inl (y8, 2, .inl (upd (upd (fun _ => 0) 0 2) 1 2))), (m9, .inl (y9, 2, .inl (fun _ => 0))), (m10, .inl (y10, 2, .inl (fun _ => 0))), (m11, .inl (y11, 2, .inl (upd (upd (fun _ => 0) 0 (-1)) 1 (-1)))), (m12, .inl (y12, 4, .inl (fun _ => 0)))] s.heap := hP
  have hK : va_K (dC, dI) vwCl [(y4, .int), (y5, .int), (y6, .int), (y7, .int), (y8, .int), (y9, .int), (y10, .boolean), (y11, .int), (y12, .boolean)] s := hK
  have hl := lv_entry ([.ref mo, .int 2]) (n := 4) (Nat.le_of_ble_eq_true rfl)
  rw [lg_entry_eq]
  generalize (lg_sl ([.ref mo, .int 2]) ++ List.replicate (4 - (lg_sl ([.ref mo, .int 2])).length) Slot.unset).toArray = ls at hl ⊢
  have hl : lv_has ls 4 [(0, .ref mo), (1, .int 2)] := hl
  refine lv_iconst (v := 0) hx hb dX8_freeOn_0 (by decide) ?_
  refine lv_istore_n (lv' := [(2, .int 0), (0, .ref mo), (1, .int 2)]) hx hb dX8_freeOn_1 rfl hl (by decide) rfl (fun ls hl => ?_)
  refine lv_bipush (v := 24) hx hb dX8_freeOn_2 (by decide) ?_
  refine lv_iload_n hx hb dX8_freeOn_4 rfl (lv_at hl 2 rfl) ?_
  refine lv_imul hx hb dX8_freeOn_5 ?_
  refine pt_topi 48 (by decide) ?_
  refine lv_istore_n (lv' := [(3, .int 48), (2, .int 0), (0, .ref mo), (1, .int 2)]) hx hb dX8_freeOn_6 rfl hl (by decide) rfl (fun ls hl => ?_)
  refine pt_loop 24 (fun k ls => lv_has ls 4 [(3, .int (nI (48 + k))), (2, .int (nI k)), (0, .ref mo), (1, .int 2)]) (fun ls hl => ?_) (fun k ls hk hl ih => ?_) (lv_sub hl [0, 1, 2, 3] rfl)
  · have hl : lv_has ls 4 [(3, .int 72), (2, .int 24), (0, .ref mo), (1, .int 2)] := hl
    refine lv_iload_n hx hb dX8_freeOn_7 rfl (lv_at hl 0 rfl) ?_
    refine lv_bipush (v := 24) hx hb dX8_freeOn_8 (by decide) ?_
    refine lv_iload_n hx hb dX8_freeOn_10 rfl (lv_at hl 3 rfl) ?_
    refine lv_imul hx hb dX8_freeOn_11 ?_
    refine pt_topi 48 (by decide) ?_
    refine lv_bipush (v := 24) hx hb dX8_freeOn_12 (by decide) ?_
    refine lv_iadd hx hb dX8_freeOn_14 ?_
    refine pt_topi 72 (by decide) ?_
    refine lv_icmp_ge (tgt := 41) hx hb dX8_freeOn_15 (by decide) (fun _ => ?_) (fun c => absurd (by decide) c)
    refine lv_iload_n hx hb dX8_freeOn_41 rfl (lv_at hl 1 rfl) ?_
    exact W.iret (v := 24) hx hb hr (fun t ht hW => ⟨24, rfl, rfl, ht⟩) (fun q h => by cases h) dX8_freeOn_42
  · have hl : lv_has ls 4 [(3, .int (nI (48 + k))), (2, .int (nI k)), (0, .ref mo), (1, .int 2)] := hl
    have c_0 : ¬ ((72 : Int32) ≤ nI (48 + k)) := nI_ge (b := 72) (by omega) (by decide)
    have h_in : vp_in (nI (48 + k)) 96 := vp_in_nI (by omega) (by decide)
    refine lv_iload_n hx hb dX8_freeOn_7 rfl (lv_at hl 0 rfl) ?_
    refine lv_bipush (v := 24) hx hb dX8_freeOn_8 (by decide) ?_
    refine lv_iload_n hx hb dX8_freeOn_10 rfl (lv_at hl 3 rfl) ?_
    refine lv_imul hx hb dX8_freeOn_11 ?_
    refine pt_topi 48 (by decide) ?_
    refine lv_bipush (v := 24) hx hb dX8_freeOn_12 (by decide) ?_
    refine lv_iadd hx hb dX8_freeOn_14 ?_
    refine pt_topi 72 (by decide) ?_
    refine lv_icmp_ge (tgt := 41) hx hb dX8_freeOn_15 (by decide) (fun c => absurd c (by assumption)) (fun _ => ?_)
    refine lv_aload_n hx hb dX8_freeOn_18 rfl (lv_at hl 2 rfl) ?_
    refine va_get (D := (dC, dI)) (ci := 6) (v := .ref m7) (C := RX8) (T := TX8) (N := 32) hx hb hts iX8 hown hK hP 0 rfl rfl 7 (by decide) (hts (.fieldLink RX8 19 "ParkTowerModel" "cell" "[I") (by decide +kernel)) (fun _ h9 => h9) rfl dX8_freeOn_19 ?_
    refine lv_iload_n hx hb dX8_freeOn_22 rfl (lv_at hl 0 rfl) ?_
    refine va_iald hx hb hK hP 4 3 rfl rfl h_in dX8_freeOn_23 ?_
    refine pt_topi 0 rfl ?_
    refine lv_if_ne (tgt := 33) hx hb dX8_freeOn_24 (by decide) (fun c => absurd (by decide) c) (fun _ => ?_)
    refine lv_iload_n hx hb dX8_freeOn_27 rfl (lv_at hl 1 rfl) ?_
    refine lv_iconst (v := 1) hx hb dX8_freeOn_28 (by decide) ?_
    refine lv_iadd hx hb dX8_freeOn_29 ?_
    refine lv_goto (tgt := 34) hx hb dX8_freeOn_30 (by decide) ?_
    refine lv_istore_n (lv' := [(2, .int ((nI k) + 1)), (3, .int (nI (48 + k))), (0, .ref mo), (1, .int 2)]) hx hb dX8_freeOn_34 rfl hl (by decide) rfl (fun ls hl => ?_)
    refine lv_iinc (v := (nI (48 + k)) + 1) (lv' := [(3, .int ((nI (48 + k)) + 1)), (2, .int ((nI k) + 1)), (0, .ref mo), (1, .int 2)]) hx hb dX8_freeOn_35 hl (k := 1) rfl rfl (by decide) rfl (fun ls hl => ?_)
    refine lv_goto (tgt := 7) hx hb dX8_freeOn_38 (by decide) ?_
    rw [nI_1, nI_1] at hl
    exact ih ls (lv_sub hl [0, 1, 2, 3] rfl)
set_option maxHeartbeats 4000000 in
set_option maxRecDepth 100000 in
theorem c_freeOn3 (l : Launch) (dC : Nat → ClassId) (dI : Nat → Nat → Nat) (mo m4 m5 m6 m7 m8 m9 m10 m11 m12 m16 m17 m18 m27 m29 m30 m31 : Nat) (y4 y5 y6 y7 y8 y9 y10 y11 y12 : ClassId) : Met l yX8_freeOn wsX8_freeOn ({ frames := 0, cells := 0, slots := 0, locals := 0 }) (va_Pc [.ref mo, .int 3] (pt_B (dC, dI) [(mo, .inr (6, [.int 0, .int 0, .int 0, .int 0, .ref m4, .ref m5, .ref m6, .ref m7, .ref m8, .ref m9, .ref m10, .ref m11, .ref m12, .int 1, .int 0, .int 0, .ref m16, .ref m17, .ref m18, .int 0, .int 0, .int 0, .int 0, .int 0, .int 0, .int 0, .int 0, .ref m27, .int 0, .ref m29, .ref m30, .ref m31])), (m4, .inl (y4, 700, .inl (fun _ => 0))), (m5, .inl (y5, 700, .inl (fun _ => 0))), (m6, .inl (y6, 700, .inl (fun _ => 0))), (m7, .inl (y7, 96, .inl (fun _ => 0))), (m8, .inl (y8, 2, .inl (upd (upd (fun _ => 0) 0 2) 1 2))), (m9, .inl (y9, 2, .inl (fun _ => 0))), (m10, .inl (y10, 2, .inl (fun _ => 0))), (m11, .inl (y11, 2, .inl (upd (upd (fun _ => 0) 0 (-1)) 1 (-1)))), (m12, .inl (y12, 4, .inl (fun _ => 0)))] [(y4, .int), (y5, .int), (y6, .int), (y7, .int), (y8, .int), (y9, .int), (y10, .boolean), (y11, .int), (y12, .boolean)])) (vp_Si (fun r : Int32 => r = 24)) 0 0 (fun _ => False) := by
  refine Met.ofW (cc := cX8_freeOn) (maxL := 4) (ret := (some .int)) (by decide) rfl ?_
  intro p e s m args below meth c s₁ B hml hv
  obtain ⟨rfl, hP, hK, hN⟩ := hv
  have hx := B.exec
  have hb := B.bytes
  have hr := B.returns
  have hts := atoms_spec (ws := wsX8_freeOn) B.pre
  have hown : s.vm.findClass RX8 = some m.cls := findClass_of_methodNamed B.named
  have hlocks := B.notSynchronized
  have iX8 : ∀ w ∈ wsX80, w ∈ wsX8_freeOn := by decide +kernel
  have hP : va_P (dC, dI) vwCl [(mo, .inr (6, [.int 0, .int 0, .int 0, .int 0, .ref m4, .ref m5, .ref m6, .ref m7, .ref m8, .ref m9, .ref m10, .ref m11, .ref m12, .int 1, .int 0, .int 0, .ref m16, .ref m17, .ref m18, .int 0, .int 0, .int 0, .int 0, .int 0, .int 0, .int 0, .int 0, .ref m27, .int 0, .ref m29, .ref m30, .ref m31])), (m4, .inl (y4, 700, .inl (fun _ => 0))), (m5, .inl (y5, 700, .inl (fun _ => 0))), (m6, .inl (y6, 700, .inl (fun _ => 0))), (m7, .inl (y7, 96, .inl (fun _ => 0))), (m8, .inl (y8, 2, .inl (upd (upd (fun _ => 0) 0 2) 1 2))), (m9, .inl (y9, 2, .inl (fun _ => 0))), (m10, .inl (y10, 2, .inl (fun _ => 0))), (m11, .inl (y11, 2, .inl (upd (upd (fun _ => 0) 0 (-1)) 1 (-1)))), (m12, .inl (y12, 4, .inl (fun _ => 0)))] s.heap := hP
  have hK : va_K (dC, dI) vwCl [(y4, .int), (y5, .int), (y6, .int), (y7, .int), (y8, .int), (y9, .int), (y10, .boolean), (y11, .int), (y12, .boolean)] s := hK
  have hl := lv_entry ([.ref mo, .int 3]) (n := 4) (Nat.le_of_ble_eq_true rfl)
  rw [lg_entry_eq]
  generalize (lg_sl ([.ref mo, .int 3]) ++ List.replicate (4 - (lg_sl ([.ref mo, .int 3])).length) Slot.unset).toArray = ls at hl ⊢
  have hl : lv_has ls 4 [(0, .ref mo), (1, .int 3)] := hl
  refine lv_iconst (v := 0) hx hb dX8_freeOn_0 (by decide) ?_
  refine lv_istore_n (lv' := [(2, .int 0), (0, .ref mo), (1, .int 3)]) hx hb dX8_freeOn_1 rfl hl (by decide) rfl (fun ls hl => ?_)
  refine lv_bipush (v := 24) hx hb dX8_freeOn_2 (by decide) ?_
  refine lv_iload_n hx hb dX8_freeOn_4 rfl (lv_at hl 2 rfl) ?_
  refine lv_imul hx hb dX8_freeOn_5 ?_
  refine pt_topi 72 (by decide) ?_
  refine lv_istore_n (lv' := [(3, .int 72), (2, .int 0), (0, .ref mo), (1, .int 3)]) hx hb dX8_freeOn_6 rfl hl (by decide) rfl (fun ls hl => ?_)
  refine pt_loop 24 (fun k ls => lv_has ls 4 [(3, .int (nI (72 + k))), (2, .int (nI k)), (0, .ref mo), (1, .int 3)]) (fun ls hl => ?_) (fun k ls hk hl ih => ?_) (lv_sub hl [0, 1, 2, 3] rfl)
  · have hl : lv_has ls 4 [(3, .int 96), (2, .int 24), (0, .ref mo), (1, .int 3)] := hl
    refine lv_iload_n hx hb dX8_freeOn_7 rfl (lv_at hl 0 rfl) ?_
    refine lv_bipush (v := 24) hx hb dX8_freeOn_8 (by decide) ?_
    refine lv_iload_n hx hb dX8_freeOn_10 rfl (lv_at hl 3 rfl) ?_
    refine lv_imul hx hb dX8_freeOn_11 ?_
    refine pt_topi 72 (by decide) ?_
    refine lv_bipush (v := 24) hx hb dX8_freeOn_12 (by decide) ?_
    refine lv_iadd hx hb dX8_freeOn_14 ?_
    refine pt_topi 96 (by decide) ?_
    refine lv_icmp_ge (tgt := 41) hx hb dX8_freeOn_15 (by decide) (fun _ => ?_) (fun c => absurd (by decide) c)
    refine lv_iload_n hx hb dX8_freeOn_41 rfl (lv_at hl 1 rfl) ?_
    exact W.iret (v := 24) hx hb hr (fun t ht hW => ⟨24, rfl, rfl, ht⟩) (fun q h => by cases h) dX8_freeOn_42
  · have hl : lv_has ls 4 [(3, .int (nI (72 + k))), (2, .int (nI k)), (0, .ref mo), (1, .int 3)] := hl
    have c_0 : ¬ ((96 : Int32) ≤ nI (72 + k)) := nI_ge (b := 96) (by omega) (by decide)
    have h_in : vp_in (nI (72 + k)) 96 := vp_in_nI (by omega) (by decide)
    refine lv_iload_n hx hb dX8_freeOn_7 rfl (lv_at hl 0 rfl) ?_
    refine lv_bipush (v := 24) hx hb dX8_freeOn_8 (by decide) ?_
    refine lv_iload_n hx hb dX8_freeOn_10 rfl (lv_at hl 3 rfl) ?_
    refine lv_imul hx hb dX8_freeOn_11 ?_
    refine pt_topi 72 (by decide) ?_
    refine lv_bipush (v := 24) hx hb dX8_freeOn_12 (by decide) ?_
    refine lv_iadd hx hb dX8_freeOn_14 ?_
    refine pt_topi 96 (by decide) ?_
    refine lv_icmp_ge (tgt := 41) hx hb dX8_freeOn_15 (by decide) (fun c => absurd c (by assumption)) (fun _ => ?_)
    refine lv_aload_n hx hb dX8_freeOn_18 rfl (lv_at hl 2 rfl) ?_
    refine va_get (D := (dC, dI)) (ci := 6) (v := .ref m7) (C := RX8) (T := TX8) (N := 32) hx hb hts iX8 hown hK hP 0 rfl rfl 7 (by decide) (hts (.fieldLink RX8 19 "ParkTowerModel" "cell" "[I") (by decide +kernel)) (fun _ h9 => h9) rfl dX8_freeOn_19 ?_
    refine lv_iload_n hx hb dX8_freeOn_22 rfl (lv_at hl 0 rfl) ?_
    refine va_iald hx hb hK hP 4 3 rfl rfl h_in dX8_freeOn_23 ?_
    refine pt_topi 0 rfl ?_
    refine lv_if_ne (tgt := 33) hx hb dX8_freeOn_24 (by decide) (fun c => absurd (by decide) c) (fun _ => ?_)
    refine lv_iload_n hx hb dX8_freeOn_27 rfl (lv_at hl 1 rfl) ?_
    refine lv_iconst (v := 1) hx hb dX8_freeOn_28 (by decide) ?_
    refine lv_iadd hx hb dX8_freeOn_29 ?_
    refine lv_goto (tgt := 34) hx hb dX8_freeOn_30 (by decide) ?_
    refine lv_istore_n (lv' := [(2, .int ((nI k) + 1)), (3, .int (nI (72 + k))), (0, .ref mo), (1, .int 3)]) hx hb dX8_freeOn_34 rfl hl (by decide) rfl (fun ls hl => ?_)
    refine lv_iinc (v := (nI (72 + k)) + 1) (lv' := [(3, .int ((nI (72 + k)) + 1)), (2, .int ((nI k) + 1)), (0, .ref mo), (1, .int 3)]) hx hb dX8_freeOn_35 hl (k := 1) rfl rfl (by decide) rfl (fun ls hl => ?_)
    refine lv_goto (tgt := 7) hx hb dX8_freeOn_38 (by decide) ?_
    rw [nI_1, nI_1] at hl
    exact ih ls (lv_sub hl [0, 1, 2, 3] rfl)
set_option maxHeartbeats 4000000 in
set_option maxRecDepth 100000 in
theorem c_find (l : Launch) (dC : Nat → ClassId) (dI : Nat → Nat → Nat) (mo m4 m5 m6 m7 m8 m9 m10 m11 m12 m16 m17 m18 m27 m29 m30 m31 : Nat) (y4 y5 y6 y7 y8 y9 y10 y11 y12 : ClassId) (len h w : Int32) (hL : ¬ 520 < len) (hF : h ≤ 210 ∧ w ≤ 3000) : Met l yX8_find wsX8_find ({ frames := 1, cells := 0, slots := 0, locals := 23 }) (va_Pc [.ref mo, .int len, .int h, .int w] (pt_B (dC, dI) [(mo, .inr (6, [.int 0, .int 0, .int 0, .int 0, .ref m4, .ref m5, .ref m6, .ref m7, .ref m8, .ref m9, .ref m10, .ref m11, .ref m12, .int 1, .int 0, .int 0, .ref m16, .ref m17, .ref m18, .int 0, .int 0, .int 0, .int 0, .int 0, .int 0, .int 0, .int 0, .ref m27, .int 0, .ref m29, .ref m30, .ref m31])), (m4, .inl (y4, 700, .inl (fun _ => 0))), (m5, .inl (y5, 700, .inl (fun _ => 0))), (m6, .inl (y6, 700, .inl (fun _ => 0))), (m7, .inl (y7, 96, .inl (fun _ => 0))), (m8, .inl (y8, 2, .inl (upd (upd (fun _ => 0) 0 2) 1 2))), (m9, .inl (y9, 2, .inl (fun _ => 0))), (m10, .inl (y10, 2, .inl (fun _ => 0))), (m11, .inl (y11, 2, .inl (upd (upd (fun _ => 0) 0 (-1)) 1 (-1)))), (m12, .inl (y12, 4, .inl (fun _ => 0)))] [(y4, .int), (y5, .int), (y6, .int), (y7, .int), (y8, .int), (y9, .int), (y10, .boolean), (y11, .int), (y12, .boolean)])) (vp_Si (fun r : Int32 => r = 1 ∨ r = 25 ∨ r = 49 ∨ r = 73)) 0 0 (fun _ => False) := by
  refine Met.ofW (cc := cX8_find) (maxL := 9) (ret := (some .int)) (by decide) rfl ?_
  intro p e s m args below meth c s₁ B hml hv
  obtain ⟨rfl, hP, hK, hN⟩ := hv
  have hx := B.exec
  have hb := B.bytes
  have hr := B.returns
  have hts := atoms_spec (ws := wsX8_find) B.pre
  have hown : s.vm.findClass RX8 = some m.cls := findClass_of_methodNamed B.named
  have hlocks := B.notSynchronized
  have iX8 : ∀ w ∈ wsX80, w ∈ wsX8_find := by decide +kernel
  have hP : va_P (dC, dI) vwCl [(mo, .inr (6, [.int 0, .int 0, .int 0, .int 0, .ref m4, .ref m5, .ref m6, .ref m7, .ref m8, .ref m9, .ref m10, .ref m11, .ref m12, .int 1, .int 0, .int 0, .ref m16, .ref m17, .ref m18, .int 0, .int 0, .int 0, .int 0, .int 0, .int 0, .int 0, .int 0, .ref m27, .int 0, .ref m29, .ref m30, .ref m31])), (m4, .inl (y4, 700, .inl (fun _ => 0))), (m5, .inl (y5, 700, .inl (fun _ => 0))), (m6, .inl (y6, 700, .inl (fun _ => 0))), (m7, .inl (y7, 96, .inl (fun _ => 0))), (m8, .inl (y8, 2, .inl (upd (upd (fun _ => 0) 0 2) 1 2))), (m9, .inl (y9, 2, .inl (fun _ => 0))), (m10, .inl (y10, 2, .inl (fun _ => 0))), (m11, .inl (y11, 2, .inl (upd (upd (fun _ => 0) 0 (-1)) 1 (-1)))), (m12, .inl (y12, 4, .inl (fun _ => 0)))] s.heap := hP
  have hK : va_K (dC, dI) vwCl [(y4, .int), (y5, .int), (y6, .int), (y7, .int), (y8, .int), (y9, .int), (y10, .boolean), (y11, .int), (y12, .boolean)] s := hK
  have hl := lv_entry ([.ref mo, .int len, .int h, .int w]) (n := 9) (Nat.le_of_ble_eq_true rfl)
  rw [lg_entry_eq]
  generalize (lg_sl ([.ref mo, .int len, .int h, .int w]) ++ List.replicate (9 - (lg_sl ([.ref mo, .int len, .int h, .int w])).length) Slot.unset).toArray = ls at hl ⊢
  have hl : lv_has ls 9 [(0, .ref mo), (1, .int len), (2, .int h), (3, .int w)] := hl
  refine lv_iconst (v := 0) hx hb dX8_find_0 (by decide) ?_
  refine lv_istore (lv' := [(4, .int 0), (0, .ref mo), (1, .int len), (2, .int h), (3, .int w)]) hx hb dX8_find_1 hl (by decide) rfl (fun ls hl => ?_)
  refine lv_iload hx hb dX8_find_3 (lv_at hl 0 rfl) ?_
  refine lv_iconst (v := 4) hx hb dX8_find_5 (by decide) ?_
  refine lv_icmp_ge (tgt := 200) hx hb dX8_find_6 (by decide) (fun c => absurd c (by decide)) (fun _ => ?_)
  refine lv_aload_n hx hb dX8_find_9 rfl (lv_at hl 1 rfl) ?_
  refine va_get (D := (dC, dI)) (ci := 6) (v := .int 0) (C := RX8) (T := TX8) (N := 32) hx hb hts iX8 hown hK hP 0 rfl rfl 19 (by decide) (hts (.fieldLink RX8 71 "ParkTowerModel" "busy" "Z") (by decide +kernel)) (fun _ h9 => h9) rfl dX8_find_10 ?_
  refine lv_if_eq (tgt := 44) hx hb dX8_find_13 (by decide) (fun _ => ?_) (fun c => absurd (by decide) c)
  refine lv_iconst (v := 0) hx hb dX8_find_44 (by decide) ?_
  refine lv_istore (lv' := [(5, .int 0), (4, .int 0), (0, .ref mo), (1, .int len), (2, .int h), (3, .int w)]) hx hb dX8_find_45 hl (by decide) rfl (fun ls hl => ?_)
  refine lv_iload hx hb dX8_find_47 (lv_at hl 1 rfl) ?_
  refine lv_iload_n hx hb dX8_find_49 rfl (lv_at hl 3 rfl) ?_
  refine lv_iload_n hx hb dX8_find_50 rfl (lv_at hl 4 rfl) ?_
  refine lv_iload_n hx hb dX8_find_51 rfl (lv_at hl 5 rfl) ?_
  refine pt_cSi (va_runS (As := [.int 0, .int len, .int h, .int w]) (rest := []) ⟨hx, hb, hml, hown, hts⟩ (c_mfits0 l dC dI len h w) (cwS 4 hts gX8_find_X8_fits rfl rfl rfl (by decide +kernel) ⟨Nat.le_of_ble_eq_true rfl, Nat.le_of_ble_eq_true rfl⟩) ⟨pt_blind, pt_pre (w := []) (tys := []) (hP.sub [] rfl) (hK.sub [] rfl) hN⟩ rfl rfl hl.1 rfl (lv_room (Nat.le_of_ble_eq_true rfl)) dX8_find_52 ⟨Nat.le_of_ble_eq_true rfl, Nat.le_of_ble_eq_true rfl⟩) (fun r_1 hr_1 => ?_)
  by_cases g_1 : h ≤ 160 ∧ w ≤ 2000
  · obtain rfl : r_1 = 1 := hr_1.trans (if_pos ⟨by assumption, g_1.1, g_1.2⟩)
    refine lv_if_eq (tgt := 194) hx hb dX8_find_55 (by decide) (fun c => absurd c (by decide)) (fun _ => ?_)
    refine lv_aload_n hx hb dX8_find_58 rfl (lv_at hl 2 rfl) ?_
    refine va_get (D := (dC, dI)) (ci := 6) (v := .ref m12) (C := RX8) (T := TX8) (N := 32) hx hb hts iX8 hown hK hP 0 rfl rfl 12 (by decide) (hts (.fieldLink RX8 35 "ParkTowerModel" "jammed" "[Z") (by decide +kernel)) (fun _ h9 => h9) rfl dX8_find_59 ?_
    refine lv_iload hx hb dX8_find_62 (lv_at hl 1 rfl) ?_
    refine va_zald hx hb hK hP 9 8 rfl rfl (vp_in_iff.mpr (by decide)) dX8_find_64 ?_
    refine pt_topi 0 rfl ?_
    refine lv_if_ne (tgt := 194) hx hb dX8_find_65 (by decide) (fun c => absurd (by decide) c) (fun _ => ?_)
    refine lv_iload hx hb dX8_find_68 (lv_at hl 0 rfl) ?_
    refine lv_if_ne (tgt := 194) hx hb dX8_find_70 (by decide) (fun c => absurd (by decide) c) (fun _ => ?_)
    refine lv_aload_n hx hb dX8_find_73 rfl (lv_at hl 2 rfl) ?_
    refine lv_iload hx hb dX8_find_74 (lv_at hl 1 rfl) ?_
    refine pt_cSi (va_runV (As := [.int 0]) (rest := []) ⟨hx, hb, hml, hown, hts⟩ (c_freeOn0 l dC dI mo m4 m5 m6 m7 m8 m9 m10 m11 m12 m16 m17 m18 m27 m29 m30 m31 y4 y5 y6 y7 y8 y9 y10 y11 y12) (cwV 1 hts gX8_find_X8_freeOn rfl rfl rfl (by decide +kernel) ⟨Nat.le_of_ble_eq_true rfl, Nat.le_of_ble_eq_true rfl⟩) ⟨pt_blind, va_recv hK hP (ci := 6) (q0 := 0) rfl rfl, pt_pre (w := [(mo, .inr (6, [.int 0, .int 0, .int 0, .int 0, .ref m4, .ref m5, .ref m6, .ref m7, .ref m8, .ref m9, .ref m10, .ref m11, .ref m12, .int 1, .int 0, .int 0, .ref m16, .ref m17, .ref m18, .int 0, .int 0, .int 0, .int 0, .int 0, .int 0, .int 0, .int 0, .ref m27, .int 0, .ref m29, .ref m30, .ref m31])), (m4, .inl (y4, 700, .inl (fun _ => 0))), (m5, .inl (y5, 700, .inl (fun _ => 0))), (m6, .inl (y6, 700, .inl (fun _ => 0))), (m7, .inl (y7, 96, .inl (fun _ => 0))), (m8, .inl (y8, 2, .inl (upd (upd (fun _ => 0) 0 2) 1 2))), (m9, .inl (y9, 2, .inl (fun _ => 0))), (m10, .inl (y10, 2, .inl (fun _ => 0))), (m11, .inl (y11, 2, .inl (upd (upd (fun _ => 0) 0 (-1)) 1 (-1)))), (m12, .inl (y12, 4, .inl (fun _ => 0)))]) (tys := [(y4, .int), (y5, .int), (y6, .int), (y7, .int), (y8, .int), (y9, .int), (y10, .boolean), (y11, .int), (y12, .boolean)]) (hP.sub [0, 1, 2, 3, 4, 5, 6, 7, 8, 9] rfl) (hK.sub [0, 1, 2, 3, 4, 5, 6, 7, 8] rfl) hN⟩ rfl rfl hl.1 rfl (lv_room (Nat.le_of_ble_eq_true rfl)) dX8_find_76 ⟨Nat.le_of_ble_eq_true rfl, Nat.le_of_ble_eq_true rfl⟩) (fun r_2 hr_2 => ?_)
    obtain rfl : r_2 = 24 := hr_2
    refine lv_iconst (v := 2) hx hb dX8_find_79 (by decide) ?_
    refine lv_icmp_ge (tgt := 86) hx hb dX8_find_80 (by decide) (fun _ => ?_) (fun c => absurd (by decide) c)
    refine lv_iconst (v := 0) hx hb dX8_find_86 (by decide) ?_
    refine lv_istore (lv' := [(6, .int 0), (5, .int 0), (4, .int 0), (0, .ref mo), (1, .int len), (2, .int h), (3, .int w)]) hx hb dX8_find_87 hl (by decide) rfl (fun ls hl => ?_)
    refine lv_iload hx hb dX8_find_89 (lv_at hl 0 rfl) ?_
    refine lv_bipush (v := 24) hx hb dX8_find_91 (by decide) ?_
    refine lv_icmp_ge (tgt := 194) hx hb dX8_find_93 (by decide) (fun c => absurd c (by decide)) (fun _ => ?_)
    refine lv_bipush (v := 24) hx hb dX8_find_96 (by decide) ?_
    refine lv_iload hx hb dX8_find_98 (lv_at hl 2 rfl) ?_
    refine lv_imul hx hb dX8_find_100 ?_
    refine pt_topi 0 (by decide) ?_
    refine lv_bipush (v := 12) hx hb dX8_find_101 (by decide) ?_
    refine lv_iload hx hb dX8_find_103 (lv_at hl 0 rfl) ?_
    refine lv_iconst (v := 2) hx hb dX8_find_105 (by decide) ?_
    refine lv_idiv hx hb dX8_find_106 (by decide) ?_
    refine pt_topi 0 (by decide) ?_
    refine lv_iconst (v := 2) hx hb dX8_find_107 (by decide) ?_
    refine lv_irem hx hb dX8_find_108 (by decide) ?_
    refine pt_topi 0 (by decide) ?_
    refine lv_imul hx hb dX8_find_109 ?_
    refine pt_topi 0 (by decide) ?_
    refine lv_iadd hx hb dX8_find_110 ?_
    refine pt_topi 0 (by decide) ?_
    refine lv_iconst (v := 2) hx hb dX8_find_111 (by decide) ?_
    refine lv_iload hx hb dX8_find_112 (lv_at hl 0 rfl) ?_
    refine lv_iconst (v := 4) hx hb dX8_find_114 (by decide) ?_
    refine lv_idiv hx hb dX8_find_115 (by decide) ?_
    refine pt_topi 0 (by decide) ?_
    refine lv_imul hx hb dX8_find_116 ?_
    refine pt_topi 0 (by decide) ?_
    refine lv_iadd hx hb dX8_find_117 ?_
    refine pt_topi 0 (by decide) ?_
    refine lv_iconst (v := 1) hx hb dX8_find_118 (by decide) ?_
    refine lv_iadd hx hb dX8_find_119 ?_
    refine pt_topi 1 (by decide) ?_
    refine lv_iload hx hb dX8_find_120 (lv_at hl 0 rfl) ?_
    refine lv_iconst (v := 2) hx hb dX8_find_122 (by decide) ?_
    refine lv_irem hx hb dX8_find_123 (by decide) ?_
    refine pt_topi 0 (by decide) ?_
    refine lv_isub hx hb dX8_find_124 ?_
    refine pt_topi 1 (by decide) ?_
    refine lv_istore (lv' := [(7, .int 1), (6, .int 0), (5, .int 0), (4, .int 0), (0, .ref mo), (1, .int len), (2, .int h), (3, .int w)]) hx hb dX8_find_125 hl (by decide) rfl (fun ls hl => ?_)
    refine lv_aload_n hx hb dX8_find_127 rfl (lv_at hl 4 rfl) ?_
    refine va_get (D := (dC, dI)) (ci := 6) (v := .ref m7) (C := RX8) (T := TX8) (N := 32) hx hb hts iX8 hown hK hP 0 rfl rfl 7 (by decide) (hts (.fieldLink RX8 19 "ParkTowerModel" "cell" "[I") (by decide +kernel)) (fun _ h9 => h9) rfl dX8_find_128 ?_
    refine lv_iload hx hb dX8_find_131 (lv_at hl 0 rfl) ?_
    refine va_iald hx hb hK hP 4 3 rfl rfl (vp_in_iff.mpr (by decide)) dX8_find_133 ?_
    refine pt_topi 0 rfl ?_
    refine lv_if_ne (tgt := 177) hx hb dX8_find_134 (by decide) (fun c => absurd (by decide) c) (fun _ => ?_)
    refine lv_iload hx hb dX8_find_137 (lv_at hl 0 rfl) ?_
    refine pt_cSi (va_runS (As := [.int 1]) (rest := []) ⟨hx, hb, hml, hown, hts⟩ (c_depth l dC dI 1 (by decide)) (cwS 1 hts gX8_find_X8_depth rfl rfl rfl (by decide +kernel) ⟨Nat.le_of_ble_eq_true rfl, Nat.le_of_ble_eq_true rfl⟩) ⟨pt_blind, pt_pre (w := []) (tys := []) (hP.sub [] rfl) (hK.sub [] rfl) hN⟩ rfl rfl hl.1 rfl (lv_room (Nat.le_of_ble_eq_true rfl)) dX8_find_139 ⟨Nat.le_of_ble_eq_true rfl, Nat.le_of_ble_eq_true rfl⟩) (fun r_3 hr_3 => ?_)
    obtain rfl : r_3 = 1 := hr_3
    refine lv_iconst (v := 1) hx hb dX8_find_142 (by decide) ?_
    refine lv_icmp_ne (tgt := 161) hx hb dX8_find_143 (by decide) (fun c => absurd (by decide) c) (fun _ => ?_)
    refine lv_aload_n hx hb dX8_find_146 rfl (lv_at hl 4 rfl) ?_
    refine va_get (D := (dC, dI)) (ci := 6) (v := .ref m7) (C := RX8) (T := TX8) (N := 32) hx hb hts iX8 hown hK hP 0 rfl rfl 7 (by decide) (hts (.fieldLink RX8 19 "ParkTowerModel" "cell" "[I") (by decide +kernel)) (fun _ h9 => h9) rfl dX8_find_147 ?_
    refine lv_iload hx hb dX8_find_150 (lv_at hl 0 rfl) ?_
    refine lv_iconst (v := 1) hx hb dX8_find_152 (by decide) ?_
    refine lv_isub hx hb dX8_find_153 ?_
    refine pt_topi 0 (by decide) ?_
    refine va_iald hx hb hK hP 4 3 rfl rfl (vp_in_iff.mpr (by decide)) dX8_find_154 ?_
    refine pt_topi 0 rfl ?_
    refine lv_if_ne (tgt := 177) hx hb dX8_find_155 (by decide) (fun c => absurd (by decide) c) (fun _ => ?_)
    refine lv_goto (tgt := 173) hx hb dX8_find_158 (by decide) ?_
    refine lv_iconst (v := 1) hx hb dX8_find_173 (by decide) ?_
    refine lv_goto (tgt := 178) hx hb dX8_find_174 (by decide) ?_
    refine lv_istore (lv' := [(8, .int 1), (7, .int 1), (6, .int 0), (5, .int 0), (4, .int 0), (0, .ref mo), (1, .int len), (2, .int h), (3, .int w)]) hx hb dX8_find_178 hl (by decide) rfl (fun ls hl => ?_)
    refine lv_iload hx hb dX8_find_180 (lv_at hl 0 rfl) ?_
    refine lv_if_eq (tgt := 188) hx hb dX8_find_182 (by decide) (fun c => absurd c (by decide)) (fun _ => ?_)
    refine lv_iload hx hb dX8_find_185 (lv_at hl 1 rfl) ?_
    exact W.iret (v := 1) hx hb hr (fun t ht hW => ⟨1, rfl, by decide, ht⟩) (fun q h => by cases h) dX8_find_187
  · obtain rfl : r_1 = 0 := hr_1.trans (if_neg (fun q => absurd q.2 g_1))
    refine lv_if_eq (tgt := 194) hx hb dX8_find_55 (by decide) (fun _ => ?_) (fun c => absurd (by decide) c)
    refine lv_iinc (v := 1) (lv' := [(4, .int 1), (5, .int 0), (0, .ref mo), (1, .int len), (2, .int h), (3, .int w)]) hx hb dX8_find_194 hl (k := 1) rfl (by decide) (by decide) rfl (fun ls hl => ?_)
    refine lv_goto (tgt := 3) hx hb dX8_find_197 (by decide) ?_
    refine lv_iload hx hb dX8_find_3 (lv_at hl 0 rfl) ?_
    refine lv_iconst (v := 4) hx hb dX8_find_5 (by decide) ?_
    refine lv_icmp_ge (tgt := 200) hx hb dX8_find_6 (by decide) (fun c => absurd c (by decide)) (fun _ => ?_)
    refine lv_aload_n hx hb dX8_find_9 rfl (lv_at hl 2 rfl) ?_
    refine va_get (D := (dC, dI)) (ci := 6) (v := .int 0) (C := RX8) (T := TX8) (N := 32) hx hb hts iX8 hown hK hP 0 rfl rfl 19 (by decide) (hts (.fieldLink RX8 71 "ParkTowerModel" "busy" "Z") (by decide +kernel)) (fun _ h9 => h9) rfl dX8_find_10 ?_
    refine lv_if_eq (tgt := 44) hx hb dX8_find_13 (by decide) (fun _ => ?_) (fun c => absurd (by decide) c)
    refine lv_iconst (v := 0) hx hb dX8_find_44 (by decide) ?_
    refine lv_istore (lv' := [(5, .int 0), (4, .int 1), (0, .ref mo), (1, .int len), (2, .int h), (3, .int w)]) hx hb dX8_find_45 hl (by decide) rfl (fun ls hl => ?_)
    refine lv_iload hx hb dX8_find_47 (lv_at hl 1 rfl) ?_
    refine lv_iload_n hx hb dX8_find_49 rfl (lv_at hl 3 rfl) ?_
    refine lv_iload_n hx hb dX8_find_50 rfl (lv_at hl 4 rfl) ?_
    refine lv_iload_n hx hb dX8_find_51 rfl (lv_at hl 5 rfl) ?_
    refine pt_cSi (va_runS (As := [.int 1, .int len, .int h, .int w]) (rest := []) ⟨hx, hb, hml, hown, hts⟩ (c_mfits1 l dC dI len h w) (cwS 4 hts gX8_find_X8_fits rfl rfl rfl (by decide +kernel) ⟨Nat.le_of_ble_eq_true rfl, Nat.le_of_ble_eq_true rfl⟩) ⟨pt_blind, pt_pre (w := []) (tys := []) (hP.sub [] rfl) (hK.sub [] rfl) hN⟩ rfl rfl hl.1 rfl (lv_room (Nat.le_of_ble_eq_true rfl)) dX8_find_52 ⟨Nat.le_of_ble_eq_true rfl, Nat.le_of_ble_eq_true rfl⟩) (fun r_4 hr_4 => ?_)
    by_cases g_4 : h ≤ 160 ∧ w ≤ 3000
    · obtain rfl : r_4 = 1 := hr_4.trans (if_pos ⟨by assumption, g_4.1, g_4.2⟩)
      refine lv_if_eq (tgt := 194) hx hb dX8_find_55 (by decide) (fun c => absurd c (by decide)) (fun _ => ?_)
      refine lv_aload_n hx hb dX8_find_58 rfl (lv_at hl 2 rfl) ?_
      refine va_get (D := (dC, dI)) (ci := 6) (v := .ref m12) (C := RX8) (T := TX8) (N := 32) hx hb hts iX8 hown hK hP 0 rfl rfl 12 (by decide) (hts (.fieldLink RX8 35 "ParkTowerModel" "jammed" "[Z") (by decide +kernel)) (fun _ h9 => h9) rfl dX8_find_59 ?_
      refine lv_iload hx hb dX8_find_62 (lv_at hl 1 rfl) ?_
      refine va_zald hx hb hK hP 9 8 rfl rfl (vp_in_iff.mpr (by decide)) dX8_find_64 ?_
      refine pt_topi 0 rfl ?_
      refine lv_if_ne (tgt := 194) hx hb dX8_find_65 (by decide) (fun c => absurd (by decide) c) (fun _ => ?_)
      refine lv_iload hx hb dX8_find_68 (lv_at hl 0 rfl) ?_
      refine lv_if_ne (tgt := 194) hx hb dX8_find_70 (by decide) (fun c => absurd (by decide) c) (fun _ => ?_)
      refine lv_aload_n hx hb dX8_find_73 rfl (lv_at hl 2 rfl) ?_
      refine lv_iload hx hb dX8_find_74 (lv_at hl 1 rfl) ?_
      refine pt_cSi (va_runV (As := [.int 1]) (rest := []) ⟨hx, hb, hml, hown, hts⟩ (c_freeOn1 l dC dI mo m4 m5 m6 m7 m8 m9 m10 m11 m12 m16 m17 m18 m27 m29 m30 m31 y4 y5 y6 y7 y8 y9 y10 y11 y12) (cwV 1 hts gX8_find_X8_freeOn rfl rfl rfl (by decide +kernel) ⟨Nat.le_of_ble_eq_true rfl, Nat.le_of_ble_eq_true rfl⟩) ⟨pt_blind, va_recv hK hP (ci := 6) (q0 := 0) rfl rfl, pt_pre (w := [(mo, .inr (6, [.int 0, .int 0, .int 0, .int 0, .ref m4, .ref m5, .ref m6, .ref m7, .ref m8, .ref m9, .ref m10, .ref m11, .ref m12, .int 1, .int 0, .int 0, .ref m16, .ref m17, .ref m18, .int 0, .int 0, .int 0, .int 0, .int 0, .int 0, .int 0, .int 0, .ref m27, .int 0, .ref m29, .ref m30, .ref m31])), (m4, .inl (y4, 700, .inl (fun _ => 0))), (m5, .inl (y5, 700, .inl (fun _ => 0))), (m6, .inl (y6, 700, .inl (fun _ => 0))), (m7, .inl (y7, 96, .inl (fun _ => 0))), (m8, .inl (y8, 2, .inl (upd (upd (fun _ => 0) 0 2) 1 2))), (m9, .inl (y9, 2, .inl (fun _ => 0))), (m10, .inl (y10, 2, .inl (fun _ => 0))), (m11, .inl (y11, 2, .inl (upd (upd (fun _ => 0) 0 (-1)) 1 (-1)))), (m12, .inl (y12, 4, .inl (fun _ => 0)))]) (tys := [(y4, .int), (y5, .int), (y6, .int), (y7, .int), (y8, .int), (y9, .int), (y10, .boolean), (y11, .int), (y12, .boolean)]) (hP.sub [0, 1, 2, 3, 4, 5, 6, 7, 8, 9] rfl) (hK.sub [0, 1, 2, 3, 4, 5, 6, 7, 8] rfl) hN⟩ rfl rfl hl.1 rfl (lv_room (Nat.le_of_ble_eq_true rfl)) dX8_find_76 ⟨Nat.le_of_ble_eq_true rfl, Nat.le_of_ble_eq_true rfl⟩) (fun r_5 hr_5 => ?_)
      obtain rfl : r_5 = 24 := hr_5
      refine lv_iconst (v := 2) hx hb dX8_find_79 (by decide) ?_
      refine lv_icmp_ge (tgt := 86) hx hb dX8_find_80 (by decide) (fun _ => ?_) (fun c => absurd (by decide) c)
      refine lv_iconst (v := 0) hx hb dX8_find_86 (by decide) ?_
      refine lv_istore (lv' := [(6, .int 0), (5, .int 0), (4, .int 1), (0, .ref mo), (1, .int len), (2, .int h), (3, .int w)]) hx hb dX8_find_87 hl (by decide) rfl (fun ls hl => ?_)
      refine lv_iload hx hb dX8_find_89 (lv_at hl 0 rfl) ?_
      refine lv_bipush (v := 24) hx hb dX8_find_91 (by decide) ?_
      refine lv_icmp_ge (tgt := 194) hx hb dX8_find_93 (by decide) (fun c => absurd c (by decide)) (fun _ => ?_)
      refine lv_bipush (v := 24) hx hb dX8_find_96 (by decide) ?_
      refine lv_iload hx hb dX8_find_98 (lv_at hl 2 rfl) ?_
      refine lv_imul hx hb dX8_find_100 ?_
      refine pt_topi 24 (by decide) ?_
      refine lv_bipush (v := 12) hx hb dX8_find_101 (by decide) ?_
      refine lv_iload hx hb dX8_find_103 (lv_at hl 0 rfl) ?_
      refine lv_iconst (v := 2) hx hb dX8_find_105 (by decide) ?_
      refine lv_idiv hx hb dX8_find_106 (by decide) ?_
      refine pt_topi 0 (by decide) ?_
      refine lv_iconst (v := 2) hx hb dX8_find_107 (by decide) ?_
      refine lv_irem hx hb dX8_find_108 (by decide) ?_
      refine pt_topi 0 (by decide) ?_
      refine lv_imul hx hb dX8_find_109 ?_
      refine pt_topi 0 (by decide) ?_
      refine lv_iadd hx hb dX8_find_110 ?_
      refine pt_topi 24 (by decide) ?_
      refine lv_iconst (v := 2) hx hb dX8_find_111 (by decide) ?_
      refine lv_iload hx hb dX8_find_112 (lv_at hl 0 rfl) ?_
      refine lv_iconst (v := 4) hx hb dX8_find_114 (by decide) ?_
      refine lv_idiv hx hb dX8_find_115 (by decide) ?_
      refine pt_topi 0 (by decide) ?_
      refine lv_imul hx hb dX8_find_116 ?_
      refine pt_topi 0 (by decide) ?_
      refine lv_iadd hx hb dX8_find_117 ?_
      refine pt_topi 24 (by decide) ?_
      refine lv_iconst (v := 1) hx hb dX8_find_118 (by decide) ?_
      refine lv_iadd hx hb dX8_find_119 ?_
      refine pt_topi 25 (by decide) ?_
      refine lv_iload hx hb dX8_find_120 (lv_at hl 0 rfl) ?_
      refine lv_iconst (v := 2) hx hb dX8_find_122 (by decide) ?_
      refine lv_irem hx hb dX8_find_123 (by decide) ?_
      refine pt_topi 0 (by decide) ?_
      refine lv_isub hx hb dX8_find_124 ?_
      refine pt_topi 25 (by decide) ?_
      refine lv_istore (lv' := [(7, .int 25), (6, .int 0), (5, .int 0), (4, .int 1), (0, .ref mo), (1, .int len), (2, .int h), (3, .int w)]) hx hb dX8_find_125 hl (by decide) rfl (fun ls hl => ?_)
      refine lv_aload_n hx hb dX8_find_127 rfl (lv_at hl 4 rfl) ?_
      refine va_get (D := (dC, dI)) (ci := 6) (v := .ref m7) (C := RX8) (T := TX8) (N := 32) hx hb hts iX8 hown hK hP 0 rfl rfl 7 (by decide) (hts (.fieldLink RX8 19 "ParkTowerModel" "cell" "[I") (by decide +kernel)) (fun _ h9 => h9) rfl dX8_find_128 ?_
      refine lv_iload hx hb dX8_find_131 (lv_at hl 0 rfl) ?_
      refine va_iald hx hb hK hP 4 3 rfl rfl (vp_in_iff.mpr (by decide)) dX8_find_133 ?_
      refine pt_topi 0 rfl ?_
      refine lv_if_ne (tgt := 177) hx hb dX8_find_134 (by decide) (fun c => absurd (by decide) c) (fun _ => ?_)
      refine lv_iload hx hb dX8_find_137 (lv_at hl 0 rfl) ?_
      refine pt_cSi (va_runS (As := [.int 25]) (rest := []) ⟨hx, hb, hml, hown, hts⟩ (c_depth l dC dI 25 (by decide)) (cwS 1 hts gX8_find_X8_depth rfl rfl rfl (by decide +kernel) ⟨Nat.le_of_ble_eq_true rfl, Nat.le_of_ble_eq_true rfl⟩) ⟨pt_blind, pt_pre (w := []) (tys := []) (hP.sub [] rfl) (hK.sub [] rfl) hN⟩ rfl rfl hl.1 rfl (lv_room (Nat.le_of_ble_eq_true rfl)) dX8_find_139 ⟨Nat.le_of_ble_eq_true rfl, Nat.le_of_ble_eq_true rfl⟩) (fun r_6 hr_6 => ?_)
      obtain rfl : r_6 = 1 := hr_6
      refine lv_iconst (v := 1) hx hb dX8_find_142 (by decide) ?_
      refine lv_icmp_ne (tgt := 161) hx hb dX8_find_143 (by decide) (fun c => absurd (by decide) c) (fun _ => ?_)
      refine lv_aload_n hx hb dX8_find_146 rfl (lv_at hl 4 rfl) ?_
      refine va_get (D := (dC, dI)) (ci := 6) (v := .ref m7) (C := RX8) (T := TX8) (N := 32) hx hb hts iX8 hown hK hP 0 rfl rfl 7 (by decide) (hts (.fieldLink RX8 19 "ParkTowerModel" "cell" "[I") (by decide +kernel)) (fun _ h9 => h9) rfl dX8_find_147 ?_
      refine lv_iload hx hb dX8_find_150 (lv_at hl 0 rfl) ?_
      refine lv_iconst (v := 1) hx hb dX8_find_152 (by decide) ?_
      refine lv_isub hx hb dX8_find_153 ?_
      refine pt_topi 24 (by decide) ?_
      refine va_iald hx hb hK hP 4 3 rfl rfl (vp_in_iff.mpr (by decide)) dX8_find_154 ?_
      refine pt_topi 0 rfl ?_
      refine lv_if_ne (tgt := 177) hx hb dX8_find_155 (by decide) (fun c => absurd (by decide) c) (fun _ => ?_)
      refine lv_goto (tgt := 173) hx hb dX8_find_158 (by decide) ?_
      refine lv_iconst (v := 1) hx hb dX8_find_173 (by decide) ?_
      refine lv_goto (tgt := 178) hx hb dX8_find_174 (by decide) ?_
      refine lv_istore (lv' := [(8, .int 1), (7, .int 25), (6, .int 0), (5, .int 0), (4, .int 1), (0, .ref mo), (1, .int len), (2, .int h), (3, .int w)]) hx hb dX8_find_178 hl (by decide) rfl (fun ls hl => ?_)
      refine lv_iload hx hb dX8_find_180 (lv_at hl 0 rfl) ?_
      refine lv_if_eq (tgt := 188) hx hb dX8_find_182 (by decide) (fun c => absurd c (by decide)) (fun _ => ?_)
      refine lv_iload hx hb dX8_find_185 (lv_at hl 1 rfl) ?_
      exact W.iret (v := 25) hx hb hr (fun t ht hW => ⟨25, rfl, by decide, ht⟩) (fun q h => by cases h) dX8_find_187
    · obtain rfl : r_4 = 0 := hr_4.trans (if_neg (fun q => absurd q.2 g_4))
      refine lv_if_eq (tgt := 194) hx hb dX8_find_55 (by decide) (fun _ => ?_) (fun c => absurd (by decide) c)
      refine lv_iinc (v := 2) (lv' := [(4, .int 2), (5, .int 0), (0, .ref mo), (1, .int len), (2, .int h), (3, .int w)]) hx hb dX8_find_194 hl (k := 1) rfl (by decide) (by decide) rfl (fun ls hl => ?_)
      refine lv_goto (tgt := 3) hx hb dX8_find_197 (by decide) ?_
      refine lv_iload hx hb dX8_find_3 (lv_at hl 0 rfl) ?_
      refine lv_iconst (v := 4) hx hb dX8_find_5 (by decide) ?_
      refine lv_icmp_ge (tgt := 200) hx hb dX8_find_6 (by decide) (fun c => absurd c (by decide)) (fun _ => ?_)
      refine lv_aload_n hx hb dX8_find_9 rfl (lv_at hl 2 rfl) ?_
      refine va_get (D := (dC, dI)) (ci := 6) (v := .int 0) (C := RX8) (T := TX8) (N := 32) hx hb hts iX8 hown hK hP 0 rfl rfl 19 (by decide) (hts (.fieldLink RX8 71 "ParkTowerModel" "busy" "Z") (by decide +kernel)) (fun _ h9 => h9) rfl dX8_find_10 ?_
      refine lv_if_eq (tgt := 44) hx hb dX8_find_13 (by decide) (fun _ => ?_) (fun c => absurd (by decide) c)
      refine lv_iconst (v := 0) hx hb dX8_find_44 (by decide) ?_
      refine lv_istore (lv' := [(5, .int 0), (4, .int 2), (0, .ref mo), (1, .int len), (2, .int h), (3, .int w)]) hx hb dX8_find_45 hl (by decide) rfl (fun ls hl => ?_)
      refine lv_iload hx hb dX8_find_47 (lv_at hl 1 rfl) ?_
      refine lv_iload_n hx hb dX8_find_49 rfl (lv_at hl 3 rfl) ?_
      refine lv_iload_n hx hb dX8_find_50 rfl (lv_at hl 4 rfl) ?_
      refine lv_iload_n hx hb dX8_find_51 rfl (lv_at hl 5 rfl) ?_
      refine pt_cSi (va_runS (As := [.int 2, .int len, .int h, .int w]) (rest := []) ⟨hx, hb, hml, hown, hts⟩ (c_mfits2 l dC dI len h w) (cwS 4 hts gX8_find_X8_fits rfl rfl rfl (by decide +kernel) ⟨Nat.le_of_ble_eq_true rfl, Nat.le_of_ble_eq_true rfl⟩) ⟨pt_blind, pt_pre (w := []) (tys := []) (hP.sub [] rfl) (hK.sub [] rfl) hN⟩ rfl rfl hl.1 rfl (lv_room (Nat.le_of_ble_eq_true rfl)) dX8_find_52 ⟨Nat.le_of_ble_eq_true rfl, Nat.le_of_ble_eq_true rfl⟩) (fun r_7 hr_7 => ?_)
      by_cases g_7 : h ≤ 210 ∧ w ≤ 2000
      · obtain rfl : r_7 = 1 := hr_7.trans (if_pos ⟨by assumption, g_7.1, g_7.2⟩)
        refine lv_if_eq (tgt := 194) hx hb dX8_find_55 (by decide) (fun c => absurd c (by decide)) (fun _ => ?_)
        refine lv_aload_n hx hb dX8_find_58 rfl (lv_at hl 2 rfl) ?_
        refine va_get (D := (dC, dI)) (ci := 6) (v := .ref m12) (C := RX8) (T := TX8) (N := 32) hx hb hts iX8 hown hK hP 0 rfl rfl 12 (by decide) (hts (.fieldLink RX8 35 "ParkTowerModel" "jammed" "[Z") (by decide +kernel)) (fun _ h9 => h9) rfl dX8_find_59 ?_
        refine lv_iload hx hb dX8_find_62 (lv_at hl 1 rfl) ?_
        refine va_zald hx hb hK hP 9 8 rfl rfl (vp_in_iff.mpr (by decide)) dX8_find_64 ?_
        refine pt_topi 0 rfl ?_
        refine lv_if_ne (tgt := 194) hx hb dX8_find_65 (by decide) (fun c => absurd (by decide) c) (fun _ => ?_)
        refine lv_iload hx hb dX8_find_68 (lv_at hl 0 rfl) ?_
        refine lv_if_ne (tgt := 194) hx hb dX8_find_70 (by decide) (fun c => absurd (by decide) c) (fun _ => ?_)
        refine lv_aload_n hx hb dX8_find_73 rfl (lv_at hl 2 rfl) ?_
        refine lv_iload hx hb dX8_find_74 (lv_at hl 1 rfl) ?_
        refine pt_cSi (va_runV (As := [.int 2]) (rest := []) ⟨hx, hb, hml, hown, hts⟩ (c_freeOn2 l dC dI mo m4 m5 m6 m7 m8 m9 m10 m11 m12 m16 m17 m18 m27 m29 m30 m31 y4 y5 y6 y7 y8 y9 y10 y11 y12) (cwV 1 hts gX8_find_X8_freeOn rfl rfl rfl (by decide +kernel) ⟨Nat.le_of_ble_eq_true rfl, Nat.le_of_ble_eq_true rfl⟩) ⟨pt_blind, va_recv hK hP (ci := 6) (q0 := 0) rfl rfl, pt_pre (w := [(mo, .inr (6, [.int 0, .int 0, .int 0, .int 0, .ref m4, .ref m5, .ref m6, .ref m7, .ref m8, .ref m9, .ref m10, .ref m11, .ref m12, .int 1, .int 0, .int 0, .ref m16, .ref m17, .ref m18, .int 0, .int 0, .int 0, .int 0, .int 0, .int 0, .int 0, .int 0, .ref m27, .int 0, .ref m29, .ref m30, .ref m31])), (m4, .inl (y4, 700, .inl (fun _ => 0))), (m5, .inl (y5, 700, .inl (fun _ => 0))), (m6, .inl (y6, 700, .inl (fun _ => 0))), (m7, .inl (y7, 96, .inl (fun _ => 0))), (m8, .inl (y8, 2, .inl (upd (upd (fun _ => 0) 0 2) 1 2))), (m9, .inl (y9, 2, .inl (fun _ => 0))), (m10, .inl (y10, 2, .inl (fun _ => 0))), (m11, .inl (y11, 2, .inl (upd (upd (fun _ => 0) 0 (-1)) 1 (-1)))), (m12, .inl (y12, 4, .inl (fun _ => 0)))]) (tys := [(y4, .int), (y5, .int), (y6, .int), (y7, .int), (y8, .int), (y9, .int), (y10, .boolean), (y11, .int), (y12, .boolean)]) (hP.sub [0, 1, 2, 3, 4, 5, 6, 7, 8, 9] rfl) (hK.sub [0, 1, 2, 3, 4, 5, 6, 7, 8] rfl) hN⟩ rfl rfl hl.1 rfl (lv_room (Nat.le_of_ble_eq_true rfl)) dX8_find_76 ⟨Nat.le_of_ble_eq_true rfl, Nat.le_of_ble_eq_true rfl⟩) (fun r_8 hr_8 => ?_)
        obtain rfl : r_8 = 24 := hr_8
        refine lv_iconst (v := 2) hx hb dX8_find_79 (by decide) ?_
        refine lv_icmp_ge (tgt := 86) hx hb dX8_find_80 (by decide) (fun _ => ?_) (fun c => absurd (by decide) c)
        refine lv_iconst (v := 0) hx hb dX8_find_86 (by decide) ?_
        refine lv_istore (lv' := [(6, .int 0), (5, .int 0), (4, .int 2), (0, .ref mo), (1, .int len), (2, .int h), (3, .int w)]) hx hb dX8_find_87 hl (by decide) rfl (fun ls hl => ?_)
        refine lv_iload hx hb dX8_find_89 (lv_at hl 0 rfl) ?_
        refine lv_bipush (v := 24) hx hb dX8_find_91 (by decide) ?_
        refine lv_icmp_ge (tgt := 194) hx hb dX8_find_93 (by decide) (fun c => absurd c (by decide)) (fun _ => ?_)
        refine lv_bipush (v := 24) hx hb dX8_find_96 (by decide) ?_
        refine lv_iload hx hb dX8_find_98 (lv_at hl 2 rfl) ?_
        refine lv_imul hx hb dX8_find_100 ?_
        refine pt_topi 48 (by decide) ?_
        refine lv_bipush (v := 12) hx hb dX8_find_101 (by decide) ?_
        refine lv_iload hx hb dX8_find_103 (lv_at hl 0 rfl) ?_
        refine lv_iconst (v := 2) hx hb dX8_find_105 (by decide) ?_
        refine lv_idiv hx hb dX8_find_106 (by decide) ?_
        refine pt_topi 0 (by decide) ?_
        refine lv_iconst (v := 2) hx hb dX8_find_107 (by decide) ?_
        refine lv_irem hx hb dX8_find_108 (by decide) ?_
        refine pt_topi 0 (by decide) ?_
        refine lv_imul hx hb dX8_find_109 ?_
        refine pt_topi 0 (by decide) ?_
        refine lv_iadd hx hb dX8_find_110 ?_
        refine pt_topi 48 (by decide) ?_
        refine lv_iconst (v := 2) hx hb dX8_find_111 (by decide) ?_
        refine lv_iload hx hb dX8_find_112 (lv_at hl 0 rfl) ?_
        refine lv_iconst (v := 4) hx hb dX8_find_114 (by decide) ?_
        refine lv_idiv hx hb dX8_find_115 (by decide) ?_
        refine pt_topi 0 (by decide) ?_
        refine lv_imul hx hb dX8_find_116 ?_
        refine pt_topi 0 (by decide) ?_
        refine lv_iadd hx hb dX8_find_117 ?_
        refine pt_topi 48 (by decide) ?_
        refine lv_iconst (v := 1) hx hb dX8_find_118 (by decide) ?_
        refine lv_iadd hx hb dX8_find_119 ?_
        refine pt_topi 49 (by decide) ?_
        refine lv_iload hx hb dX8_find_120 (lv_at hl 0 rfl) ?_
        refine lv_iconst (v := 2) hx hb dX8_find_122 (by decide) ?_
        refine lv_irem hx hb dX8_find_123 (by decide) ?_
        refine pt_topi 0 (by decide) ?_
        refine lv_isub hx hb dX8_find_124 ?_
        refine pt_topi 49 (by decide) ?_
        refine lv_istore (lv' := [(7, .int 49), (6, .int 0), (5, .int 0), (4, .int 2), (0, .ref mo), (1, .int len), (2, .int h), (3, .int w)]) hx hb dX8_find_125 hl (by decide) rfl (fun ls hl => ?_)
        refine lv_aload_n hx hb dX8_find_127 rfl (lv_at hl 4 rfl) ?_
        refine va_get (D := (dC, dI)) (ci := 6) (v := .ref m7) (C := RX8) (T := TX8) (N := 32) hx hb hts iX8 hown hK hP 0 rfl rfl 7 (by decide) (hts (.fieldLink RX8 19 "ParkTowerModel" "cell" "[I") (by decide +kernel)) (fun _ h9 => h9) rfl dX8_find_128 ?_
        refine lv_iload hx hb dX8_find_131 (lv_at hl 0 rfl) ?_
        refine va_iald hx hb hK hP 4 3 rfl rfl (vp_in_iff.mpr (by decide)) dX8_find_133 ?_
        refine pt_topi 0 rfl ?_
        refine lv_if_ne (tgt := 177) hx hb dX8_find_134 (by decide) (fun c => absurd (by decide) c) (fun _ => ?_)
        refine lv_iload hx hb dX8_find_137 (lv_at hl 0 rfl) ?_
        refine pt_cSi (va_runS (As := [.int 49]) (rest := []) ⟨hx, hb, hml, hown, hts⟩ (c_depth l dC dI 49 (by decide)) (cwS 1 hts gX8_find_X8_depth rfl rfl rfl (by decide +kernel) ⟨Nat.le_of_ble_eq_true rfl, Nat.le_of_ble_eq_true rfl⟩) ⟨pt_blind, pt_pre (w := []) (tys := []) (hP.sub [] rfl) (hK.sub [] rfl) hN⟩ rfl rfl hl.1 rfl (lv_room (Nat.le_of_ble_eq_true rfl)) dX8_find_139 ⟨Nat.le_of_ble_eq_true rfl, Nat.le_of_ble_eq_true rfl⟩) (fun r_9 hr_9 => ?_)
        obtain rfl : r_9 = 1 := hr_9
        refine lv_iconst (v := 1) hx hb dX8_find_142 (by decide) ?_
        refine lv_icmp_ne (tgt := 161) hx hb dX8_find_143 (by decide) (fun c => absurd (by decide) c) (fun _ => ?_)
        refine lv_aload_n hx hb dX8_find_146 rfl (lv_at hl 4 rfl) ?_
        refine va_get (D := (dC, dI)) (ci := 6) (v := .ref m7) (C := RX8) (T := TX8) (N := 32) hx hb hts iX8 hown hK hP 0 rfl rfl 7 (by decide) (hts (.fieldLink RX8 19 "ParkTowerModel" "cell" "[I") (by decide +kernel)) (fun _ h9 => h9) rfl dX8_find_147 ?_
        refine lv_iload hx hb dX8_find_150 (lv_at hl 0 rfl) ?_
        refine lv_iconst (v := 1) hx hb dX8_find_152 (by decide) ?_
        refine lv_isub hx hb dX8_find_153 ?_
        refine pt_topi 48 (by decide) ?_
        refine va_iald hx hb hK hP 4 3 rfl rfl (vp_in_iff.mpr (by decide)) dX8_find_154 ?_
        refine pt_topi 0 rfl ?_
        refine lv_if_ne (tgt := 177) hx hb dX8_find_155 (by decide) (fun c => absurd (by decide) c) (fun _ => ?_)
        refine lv_goto (tgt := 173) hx hb dX8_find_158 (by decide) ?_
        refine lv_iconst (v := 1) hx hb dX8_find_173 (by decide) ?_
        refine lv_goto (tgt := 178) hx hb dX8_find_174 (by decide) ?_
        refine lv_istore (lv' := [(8, .int 1), (7, .int 49), (6, .int 0), (5, .int 0), (4, .int 2), (0, .ref mo), (1, .int len), (2, .int h), (3, .int w)]) hx hb dX8_find_178 hl (by decide) rfl (fun ls hl => ?_)
        refine lv_iload hx hb dX8_find_180 (lv_at hl 0 rfl) ?_
        refine lv_if_eq (tgt := 188) hx hb dX8_find_182 (by decide) (fun c => absurd c (by decide)) (fun _ => ?_)
        refine lv_iload hx hb dX8_find_185 (lv_at hl 1 rfl) ?_
        exact W.iret (v := 49) hx hb hr (fun t ht hW => ⟨49, rfl, by decide, ht⟩) (fun q h => by cases h) dX8_find_187
      · obtain rfl : r_7 = 0 := hr_7.trans (if_neg (fun q => absurd q.2 g_7))
        refine lv_if_eq (tgt := 194) hx hb dX8_find_55 (by decide) (fun _ => ?_) (fun c => absurd (by decide) c)
        refine lv_iinc (v := 3) (lv' := [(4, .int 3), (5, .int 0), (0, .ref mo), (1, .int len), (2, .int h), (3, .int w)]) hx hb dX8_find_194 hl (k := 1) rfl (by decide) (by decide) rfl (fun ls hl => ?_)
        refine lv_goto (tgt := 3) hx hb dX8_find_197 (by decide) ?_
        refine lv_iload hx hb dX8_find_3 (lv_at hl 0 rfl) ?_
        refine lv_iconst (v := 4) hx hb dX8_find_5 (by decide) ?_
        refine lv_icmp_ge (tgt := 200) hx hb dX8_find_6 (by decide) (fun c => absurd c (by decide)) (fun _ => ?_)
        refine lv_aload_n hx hb dX8_find_9 rfl (lv_at hl 2 rfl) ?_
        refine va_get (D := (dC, dI)) (ci := 6) (v := .int 0) (C := RX8) (T := TX8) (N := 32) hx hb hts iX8 hown hK hP 0 rfl rfl 19 (by decide) (hts (.fieldLink RX8 71 "ParkTowerModel" "busy" "Z") (by decide +kernel)) (fun _ h9 => h9) rfl dX8_find_10 ?_
        refine lv_if_eq (tgt := 44) hx hb dX8_find_13 (by decide) (fun _ => ?_) (fun c => absurd (by decide) c)
        refine lv_iconst (v := 0) hx hb dX8_find_44 (by decide) ?_
        refine lv_istore (lv' := [(5, .int 0), (4, .int 3), (0, .ref mo), (1, .int len), (2, .int h), (3, .int w)]) hx hb dX8_find_45 hl (by decide) rfl (fun ls hl => ?_)
        refine lv_iload hx hb dX8_find_47 (lv_at hl 1 rfl) ?_
        refine lv_iload_n hx hb dX8_find_49 rfl (lv_at hl 3 rfl) ?_
        refine lv_iload_n hx hb dX8_find_50 rfl (lv_at hl 4 rfl) ?_
        refine lv_iload_n hx hb dX8_find_51 rfl (lv_at hl 5 rfl) ?_
        refine pt_cSi (va_runS (As := [.int 3, .int len, .int h, .int w]) (rest := []) ⟨hx, hb, hml, hown, hts⟩ (c_mfits3 l dC dI len h w) (cwS 4 hts gX8_find_X8_fits rfl rfl rfl (by decide +kernel) ⟨Nat.le_of_ble_eq_true rfl, Nat.le_of_ble_eq_true rfl⟩) ⟨pt_blind, pt_pre (w := []) (tys := []) (hP.sub [] rfl) (hK.sub [] rfl) hN⟩ rfl rfl hl.1 rfl (lv_room (Nat.le_of_ble_eq_true rfl)) dX8_find_52 ⟨Nat.le_of_ble_eq_true rfl, Nat.le_of_ble_eq_true rfl⟩) (fun r_10 hr_10 => ?_)
        obtain rfl : r_10 = 1 := hr_10.trans (if_pos ⟨by assumption, hF.1, hF.2⟩)
        refine lv_if_eq (tgt := 194) hx hb dX8_find_55 (by decide) (fun c => absurd c (by decide)) (fun _ => ?_)
        refine lv_aload_n hx hb dX8_find_58 rfl (lv_at hl 2 rfl) ?_
        refine va_get (D := (dC, dI)) (ci := 6) (v := .ref m12) (C := RX8) (T := TX8) (N := 32) hx hb hts iX8 hown hK hP 0 rfl rfl 12 (by decide) (hts (.fieldLink RX8 35 "ParkTowerModel" "jammed" "[Z") (by decide +kernel)) (fun _ h9 => h9) rfl dX8_find_59 ?_
        refine lv_iload hx hb dX8_find_62 (lv_at hl 1 rfl) ?_
        refine va_zald hx hb hK hP 9 8 rfl rfl (vp_in_iff.mpr (by decide)) dX8_find_64 ?_
        refine pt_topi 0 rfl ?_
        refine lv_if_ne (tgt := 194) hx hb dX8_find_65 (by decide) (fun c => absurd (by decide) c) (fun _ => ?_)
        refine lv_iload hx hb dX8_find_68 (lv_at hl 0 rfl) ?_
        refine lv_if_ne (tgt := 194) hx hb dX8_find_70 (by decide) (fun c => absurd (by decide) c) (fun _ => ?_)
        refine lv_aload_n hx hb dX8_find_73 rfl (lv_at hl 2 rfl) ?_
        refine lv_iload hx hb dX8_find_74 (lv_at hl 1 rfl) ?_
        refine pt_cSi (va_runV (As := [.int 3]) (rest := []) ⟨hx, hb, hml, hown, hts⟩ (c_freeOn3 l dC dI mo m4 m5 m6 m7 m8 m9 m10 m11 m12 m16 m17 m18 m27 m29 m30 m31 y4 y5 y6 y7 y8 y9 y10 y11 y12) (cwV 1 hts gX8_find_X8_freeOn rfl rfl rfl (by decide +kernel) ⟨Nat.le_of_ble_eq_true rfl, Nat.le_of_ble_eq_true rfl⟩) ⟨pt_blind, va_recv hK hP (ci := 6) (q0 := 0) rfl rfl, pt_pre (w := [(mo, .inr (6, [.int 0, .int 0, .int 0, .int 0, .ref m4, .ref m5, .ref m6, .ref m7, .ref m8, .ref m9, .ref m10, .ref m11, .ref m12, .int 1, .int 0, .int 0, .ref m16, .ref m17, .ref m18, .int 0, .int 0, .int 0, .int 0, .int 0, .int 0, .int 0, .int 0, .ref m27, .int 0, .ref m29, .ref m30, .ref m31])), (m4, .inl (y4, 700, .inl (fun _ => 0))), (m5, .inl (y5, 700, .inl (fun _ => 0))), (m6, .inl (y6, 700, .inl (fun _ => 0))), (m7, .inl (y7, 96, .inl (fun _ => 0))), (m8, .inl (y8, 2, .inl (upd (upd (fun _ => 0) 0 2) 1 2))), (m9, .inl (y9, 2, .inl (fun _ => 0))), (m10, .inl (y10, 2, .inl (fun _ => 0))), (m11, .inl (y11, 2, .inl (upd (upd (fun _ => 0) 0 (-1)) 1 (-1)))), (m12, .inl (y12, 4, .inl (fun _ => 0)))]) (tys := [(y4, .int), (y5, .int), (y6, .int), (y7, .int), (y8, .int), (y9, .int), (y10, .boolean), (y11, .int), (y12, .boolean)]) (hP.sub [0, 1, 2, 3, 4, 5, 6, 7, 8, 9] rfl) (hK.sub [0, 1, 2, 3, 4, 5, 6, 7, 8] rfl) hN⟩ rfl rfl hl.1 rfl (lv_room (Nat.le_of_ble_eq_true rfl)) dX8_find_76 ⟨Nat.le_of_ble_eq_true rfl, Nat.le_of_ble_eq_true rfl⟩) (fun r_11 hr_11 => ?_)
        obtain rfl : r_11 = 24 := hr_11
        refine lv_iconst (v := 2) hx hb dX8_find_79 (by decide) ?_
        refine lv_icmp_ge (tgt := 86) hx hb dX8_find_80 (by decide) (fun _ => ?_) (fun c => absurd (by decide) c)
        refine lv_iconst (v := 0) hx hb dX8_find_86 (by decide) ?_
        refine lv_istore (lv' := [(6, .int 0), (5, .int 0), (4, .int 3), (0, .ref mo), (1, .int len), (2, .int h), (3, .int w)]) hx hb dX8_find_87 hl (by decide) rfl (fun ls hl => ?_)
        refine lv_iload hx hb dX8_find_89 (lv_at hl 0 rfl) ?_
        refine lv_bipush (v := 24) hx hb dX8_find_91 (by decide) ?_
        refine lv_icmp_ge (tgt := 194) hx hb dX8_find_93 (by decide) (fun c => absurd c (by decide)) (fun _ => ?_)
        refine lv_bipush (v := 24) hx hb dX8_find_96 (by decide) ?_
        refine lv_iload hx hb dX8_find_98 (lv_at hl 2 rfl) ?_
        refine lv_imul hx hb dX8_find_100 ?_
        refine pt_topi 72 (by decide) ?_
        refine lv_bipush (v := 12) hx hb dX8_find_101 (by decide) ?_
        refine lv_iload hx hb dX8_find_103 (lv_at hl 0 rfl) ?_
        refine lv_iconst (v := 2) hx hb dX8_find_105 (by decide) ?_
        refine lv_idiv hx hb dX8_find_106 (by decide) ?_
        refine pt_topi 0 (by decide) ?_
        refine lv_iconst (v := 2) hx hb dX8_find_107 (by decide) ?_
        refine lv_irem hx hb dX8_find_108 (by decide) ?_
        refine pt_topi 0 (by decide) ?_
        refine lv_imul hx hb dX8_find_109 ?_
        refine pt_topi 0 (by decide) ?_
        refine lv_iadd hx hb dX8_find_110 ?_
        refine pt_topi 72 (by decide) ?_
        refine lv_iconst (v := 2) hx hb dX8_find_111 (by decide) ?_
        refine lv_iload hx hb dX8_find_112 (lv_at hl 0 rfl) ?_
        refine lv_iconst (v := 4) hx hb dX8_find_114 (by decide) ?_
        refine lv_idiv hx hb dX8_find_115 (by decide) ?_
        refine pt_topi 0 (by decide) ?_
        refine lv_imul hx hb dX8_find_116 ?_
        refine pt_topi 0 (by decide) ?_
        refine lv_iadd hx hb dX8_find_117 ?_
        refine pt_topi 72 (by decide) ?_
        refine lv_iconst (v := 1) hx hb dX8_find_118 (by decide) ?_
        refine lv_iadd hx hb dX8_find_119 ?_
        refine pt_topi 73 (by decide) ?_
        refine lv_iload hx hb dX8_find_120 (lv_at hl 0 rfl) ?_
        refine lv_iconst (v := 2) hx hb dX8_find_122 (by decide) ?_
        refine lv_irem hx hb dX8_find_123 (by decide) ?_
        refine pt_topi 0 (by decide) ?_
        refine lv_isub hx hb dX8_find_124 ?_
        refine pt_topi 73 (by decide) ?_
        refine lv_istore (lv' := [(7, .int 73), (6, .int 0), (5, .int 0), (4, .int 3), (0, .ref mo), (1, .int len), (2, .int h), (3, .int w)]) hx hb dX8_find_125 hl (by decide) rfl (fun ls hl => ?_)
        refine lv_aload_n hx hb dX8_find_127 rfl (lv_at hl 4 rfl) ?_
        refine va_get (D := (dC, dI)) (ci := 6) (v := .ref m7) (C := RX8) (T := TX8) (N := 32) hx hb hts iX8 hown hK hP 0 rfl rfl 7 (by decide) (hts (.fieldLink RX8 19 "ParkTowerModel" "cell" "[I") (by decide +kernel)) (fun _ h9 => h9) rfl dX8_find_128 ?_
        refine lv_iload hx hb dX8_find_131 (lv_at hl 0 rfl) ?_
        refine va_iald hx hb hK hP 4 3 rfl rfl (vp_in_iff.mpr (by decide)) dX8_find_133 ?_
        refine pt_topi 0 rfl ?_
        refine lv_if_ne (tgt := 177) hx hb dX8_find_134 (by decide) (fun c => absurd (by decide) c) (fun _ => ?_)
        refine lv_iload hx hb dX8_find_137 (lv_at hl 0 rfl) ?_
        refine pt_cSi (va_runS (As := [.int 73]) (rest := []) ⟨hx, hb, hml, hown, hts⟩ (c_depth l dC dI 73 (by decide)) (cwS 1 hts gX8_find_X8_depth rfl rfl rfl (by decide +kernel) ⟨Nat.le_of_ble_eq_true rfl, Nat.le_of_ble_eq_true rfl⟩) ⟨pt_blind, pt_pre (w := []) (tys := []) (hP.sub [] rfl) (hK.sub [] rfl) hN⟩ rfl rfl hl.1 rfl (lv_room (Nat.le_of_ble_eq_true rfl)) dX8_find_139 ⟨Nat.le_of_ble_eq_true rfl, Nat.le_of_ble_eq_true rfl⟩) (fun r_12 hr_12 => ?_)
        obtain rfl : r_12 = 1 := hr_12
        refine lv_iconst (v := 1) hx hb dX8_find_142 (by decide) ?_
        refine lv_icmp_ne (tgt := 161) hx hb dX8_find_143 (by decide) (fun c => absurd (by decide) c) (fun _ => ?_)
        refine lv_aload_n hx hb dX8_find_146 rfl (lv_at hl 4 rfl) ?_
        refine va_get (D := (dC, dI)) (ci := 6) (v := .ref m7) (C := RX8) (T := TX8) (N := 32) hx hb hts iX8 hown hK hP 0 rfl rfl 7 (by decide) (hts (.fieldLink RX8 19 "ParkTowerModel" "cell" "[I") (by decide +kernel)) (fun _ h9 => h9) rfl dX8_find_147 ?_
        refine lv_iload hx hb dX8_find_150 (lv_at hl 0 rfl) ?_
        refine lv_iconst (v := 1) hx hb dX8_find_152 (by decide) ?_
        refine lv_isub hx hb dX8_find_153 ?_
        refine pt_topi 72 (by decide) ?_
        refine va_iald hx hb hK hP 4 3 rfl rfl (vp_in_iff.mpr (by decide)) dX8_find_154 ?_
        refine pt_topi 0 rfl ?_
        refine lv_if_ne (tgt := 177) hx hb dX8_find_155 (by decide) (fun c => absurd (by decide) c) (fun _ => ?_)
        refine lv_goto (tgt := 173) hx hb dX8_find_158 (by decide) ?_
        refine lv_iconst (v := 1) hx hb dX8_find_173 (by decide) ?_
        refine lv_goto (tgt := 178) hx hb dX8_find_174 (by decide) ?_
        refine lv_istore (lv' := [(8, .int 1), (7, .int 73), (6, .int 0), (5, .int 0), (4, .int 3), (0, .ref mo), (1, .int len), (2, .int h), (3, .int w)]) hx hb dX8_find_178 hl (by decide) rfl (fun ls hl => ?_)
        refine lv_iload hx hb dX8_find_180 (lv_at hl 0 rfl) ?_
        refine lv_if_eq (tgt := 188) hx hb dX8_find_182 (by decide) (fun c => absurd c (by decide)) (fun _ => ?_)
        refine lv_iload hx hb dX8_find_185 (lv_at hl 1 rfl) ?_
        exact W.iret (v := 73) hx hb hr (fun t ht hW => ⟨73, rfl, by decide, ht⟩) (fun q h => by cases h) dX8_find_187
set_option maxHeartbeats 4000000 in
set_option maxRecDepth 100000 in
theorem c_digit1 (l : Launch) (dC : Nat → ClassId) (dI : Nat → Nat → Nat)  : Met l yX8_digit wsX8_digit ({ frames := 0, cells := 0, slots := 0, locals := 0 }) (va_Pc [.int 1] (pt_B (dC, dI) [] [])) (vp_Si (fun r : Int32 => r = 9)) 0 0 (fun _ => False) := by
  refine Met.ofW (cc := cX8_digit) (maxL := 2) (ret := (some .int)) (by decide) rfl ?_
  intro p e s m args below meth c s₁ B hml hv
  obtain ⟨rfl, hP, hK, hN⟩ := hv
  have hx := B.exec
  have hb := B.bytes
  have hr := B.returns
  have hts := atoms_spec (ws := wsX8_digit) B.pre
  have hown : s.vm.findClass RX8 = some m.cls := findClass_of_methodNamed B.named
  have hlocks := B.notSynchronized
  have hP : va_P (dC, dI) vwCl [] s.heap := hP
  have hK : va_K (dC, dI) vwCl [] s := hK
  have hl := lv_entry ([.int 1]) (n := 2) (Nat.le_of_ble_eq_true rfl)
  rw [lg_entry_eq]
  generalize (lg_sl ([.int 1]) ++ List.replicate (2 - (lg_sl ([.int 1])).length) Slot.unset).toArray = ls at hl ⊢
  have hl : lv_has ls 2 [(0, .int 1)] := hl
  refine lv_iconst (v := 5) hx hb dX8_digit_0 (by decide) ?_
  refine lv_iload_n hx hb dX8_digit_1 rfl (lv_at hl 0 rfl) ?_
  refine lv_sipush (v := 1000) hx hb dX8_digit_2 (by decide) ?_
  refine lv_idiv hx hb dX8_digit_5 (by decide) ?_
  refine pt_topi 0 (by decide) ?_
  refine lv_imul hx hb dX8_digit_6 ?_
  refine pt_topi 0 (by decide) ?_
  refine lv_iconst (v := 4) hx hb dX8_digit_7 (by decide) ?_
  refine lv_iload_n hx hb dX8_digit_8 rfl (lv_at hl 0 rfl) ?_
  refine lv_bipush (v := 100) hx hb dX8_digit_9 (by decide) ?_
  refine lv_idiv hx hb dX8_digit_11 (by decide) ?_
  refine pt_topi 0 (by decide) ?_
  refine lv_bipush (v := 10) hx hb dX8_digit_12 (by decide) ?_
  refine lv_irem hx hb dX8_digit_14 (by decide) ?_
  refine pt_topi 0 (by decide) ?_
  refine lv_imul hx hb dX8_digit_15 ?_
  refine pt_topi 0 (by decide) ?_
  refine lv_iadd hx hb dX8_digit_16 ?_
  refine pt_topi 0 (by decide) ?_
  refine lv_iconst (v := 3) hx hb dX8_digit_17 (by decide) ?_
  refine lv_iload_n hx hb dX8_digit_18 rfl (lv_at hl 0 rfl) ?_
  refine lv_bipush (v := 10) hx hb dX8_digit_19 (by decide) ?_
  refine lv_idiv hx hb dX8_digit_21 (by decide) ?_
  refine pt_topi 0 (by decide) ?_
  refine lv_bipush (v := 10) hx hb dX8_digit_22 (by decide) ?_
  refine lv_irem hx hb dX8_digit_24 (by decide) ?_
  refine pt_topi 0 (by decide) ?_
  refine lv_imul hx hb dX8_digit_25 ?_
  refine pt_topi 0 (by decide) ?_
  refine lv_iadd hx hb dX8_digit_26 ?_
  refine pt_topi 0 (by decide) ?_
  refine lv_iconst (v := 2) hx hb dX8_digit_27 (by decide) ?_
  refine lv_iload_n hx hb dX8_digit_28 rfl (lv_at hl 0 rfl) ?_
  refine lv_bipush (v := 10) hx hb dX8_digit_29 (by decide) ?_
  refine lv_irem hx hb dX8_digit_31 (by decide) ?_
  refine pt_topi 1 (by decide) ?_
  refine lv_imul hx hb dX8_digit_32 ?_
  refine pt_topi 2 (by decide) ?_
  refine lv_iadd hx hb dX8_digit_33 ?_
  refine pt_topi 2 (by decide) ?_
  refine lv_istore_n (lv' := [(1, .int 2), (0, .int 1)]) hx hb dX8_digit_34 rfl hl (by decide) rfl (fun ls hl => ?_)
  refine lv_bipush (v := 11) hx hb dX8_digit_35 (by decide) ?_
  refine lv_iload_n hx hb dX8_digit_37 rfl (lv_at hl 0 rfl) ?_
  refine lv_bipush (v := 11) hx hb dX8_digit_38 (by decide) ?_
  refine lv_irem hx hb dX8_digit_40 (by decide) ?_
  refine pt_topi 2 (by decide) ?_
  refine lv_isub hx hb dX8_digit_41 ?_
  refine pt_topi 9 (by decide) ?_
  refine lv_bipush (v := 11) hx hb dX8_digit_42 (by decide) ?_
  refine lv_irem hx hb dX8_digit_44 (by decide) ?_
  refine pt_topi 9 (by decide) ?_
  exact W.iret (v := 9) hx hb hr (fun t ht hW => ⟨9, rfl, rfl, ht⟩) (fun q h => by cases h) dX8_digit_45
set_option maxHeartbeats 4000000 in
set_option maxRecDepth 100000 in
theorem c_carOf (l : Launch) (dC : Nat → ClassId) (dI : Nat → Nat → Nat) (mo m4 m5 m6 m7 m8 m9 m10 m11 m12 m16 m17 m18 m27 m29 m30 m31 : Nat) (y4 y5 y6 y7 y8 y9 y10 y11 y12 : ClassId) (tk : Int32) : Met l yX8_carOf wsX8_carOf ({ frames := 0, cells := 0, slots := 0, locals := 0 }) (va_Pc [.ref mo, .int tk] (pt_B (dC, dI) [(mo, .inr (6, [.int 0, .int 0, .int 0, .int 0, .ref m4, .ref m5, .ref m6, .ref m7, .ref m8, .ref m9, .ref m10, .ref m11, .ref m12, .int 1, .int 0, .int 0, .ref m16, .ref m17, .ref m18, .int 0, .int 0, .int 0, .int 0, .int 0, .int 0, .int 0, .int 0, .ref m27, .int 0, .ref m29, .ref m30, .ref m31])), (m4, .inl (y4, 700, .inl (fun _ => 0))), (m5, .inl (y5, 700, .inl (fun _ => 0))), (m6, .inl (y6, 700, .inl (fun _ => 0))), (m7, .inl (y7, 96, .inl (fun _ => 0))), (m8, .inl (y8, 2, .inl (upd (upd (fun _ => 0) 0 2) 1 2))), (m9, .inl (y9, 2, .inl (fun _ => 0))), (m10, .inl (y10, 2, .inl (fun _ => 0))), (m11, .inl (y11, 2, .inl (upd (upd (fun _ => 0) 0 (-1)) 1 (-1)))), (m12, .inl (y12, 4, .inl (fun _ => 0)))] [(y4, .int), (y5, .int), (y6, .int), (y7, .int), (y8, .int), (y9, .int), (y10, .boolean), (y11, .int), (y12, .boolean)])) (vp_Si (fun r : Int32 => r = (-1))) 0 0 (fun _ => False) := by
  refine Met.ofW (cc := cX8_carOf) (maxL := 3) (ret := (some .int)) (by decide) rfl ?_
  intro p e s m args below meth c s₁ B hml hv
  obtain ⟨rfl, hP, hK, hN⟩ := hv
  have hx := B.exec
  have hb := B.bytes
  have hr := B.returns
  have hts := atoms_spec (ws := wsX8_carOf) B.pre
  have hown : s.vm.findClass RX8 = some m.cls := findClass_of_methodNamed B.named
  have hlocks := B.notSynchronized
  have iX8 : ∀ w ∈ wsX80, w ∈ wsX8_carOf := by decide +kernel
  have hP : va_P (dC, dI) vwCl [(mo, .inr (6, [.int 0, .int 0, .int 0, .int 0, .ref m4, .ref m5, .ref m6, .ref m7, .ref m8, .ref m9, .ref m10, .ref m11, .ref m12, .int 1, .int 0, .int 0, .ref m16, .ref m17, .ref m18, .int 0, .int 0, .int 0, .int 0, .int 0, .int 0, .int 0, .int 0, .ref m27, .int 0, .ref m29, .ref m30, .ref m31])), (m4, .inl (y4, 700, .inl (fun _ => 0))), (m5, .inl (y5, 700, .inl (fun _ => 0))), (m6, .inl (y6, 700, .inl (fun _ => 0))), (m7, .inl (y7, 96, .inl (fun _ => 0))), (m8, .inl (y8, 2, .inl (upd (upd (fun _ => 0) 0 2) 1 2))), (m9, .inl (y9, 2, .inl (fun _ => 0))), (m10, .inl (y10, 2, .inl (fun _ => 0))), (m11, .inl (y11, 2, .inl (upd (upd (fun _ => 0) 0 (-1)) 1 (-1)))), (m12, .inl (y12, 4, .inl (fun _ => 0)))] s.heap := hP
  have hK : va_K (dC, dI) vwCl [(y4, .int), (y5, .int), (y6, .int), (y7, .int), (y8, .int), (y9, .int), (y10, .boolean), (y11, .int), (y12, .boolean)] s := hK
  have hl := lv_entry ([.ref mo, .int tk]) (n := 3) (Nat.le_of_ble_eq_true rfl)
  rw [lg_entry_eq]
  generalize (lg_sl ([.ref mo, .int tk]) ++ List.replicate (3 - (lg_sl ([.ref mo, .int tk])).length) Slot.unset).toArray = ls at hl ⊢
  have hl : lv_has ls 3 [(0, .ref mo), (1, .int tk)] := hl
  refine lv_iconst (v := 0) hx hb dX8_carOf_0 (by decide) ?_
  refine lv_istore_n (lv' := [(2, .int 0), (0, .ref mo), (1, .int tk)]) hx hb dX8_carOf_1 rfl hl (by decide) rfl (fun ls hl => ?_)
  refine lv_iload_n hx hb dX8_carOf_2 rfl (lv_at hl 0 rfl) ?_
  refine lv_aload_n hx hb dX8_carOf_3 rfl (lv_at hl 1 rfl) ?_
  refine va_get (D := (dC, dI)) (ci := 6) (v := .int 0) (C := RX8) (T := TX8) (N := 32) hx hb hts iX8 hown hK hP 0 rfl rfl 3 (by decide) (hts (.fieldLink RX8 90 "ParkTowerModel" "cars" "I") (by decide +kernel)) (fun _ h9 => h9) rfl dX8_carOf_4 ?_
  refine lv_icmp_ge (tgt := 28) hx hb dX8_carOf_7 (by decide) (fun _ => ?_) (fun c => absurd (by decide) c)
  refine lv_iconst (v := (-1)) hx hb dX8_carOf_28 (by decide) ?_
  exact W.iret (v := (-1)) hx hb hr (fun t ht hW => ⟨(-1), rfl, rfl, ht⟩) (fun q h => by cases h) dX8_carOf_29
set_option maxHeartbeats 4000000 in
set_option maxRecDepth 100000 in
theorem c_counted (l : Launch) (dC : Nat → ClassId) (dI : Nat → Nat → Nat) (mo m4 m5 m6 m7 m8 m9 m10 m11 m12 m16 m17 m18 m27 m29 m30 m31 : Nat) (y4 y5 y6 y7 y8 y9 y10 y11 y12 : ClassId) : Met l yX8_counted wsX8_counted ({ frames := 0, cells := 0, slots := 0, locals := 0 }) (va_Pc [.ref mo] (pt_B (dC, dI) [(mo, .inr (6, [.int 0, .int 0, .int 0, .int 0, .ref m4, .ref m5, .ref m6, .ref m7, .ref m8, .ref m9, .ref m10, .ref m11, .ref m12, .int 1, .int 0, .int 0, .ref m16, .ref m17, .ref m18, .int 0, .int 0, .int 0, .int 0, .int 0, .int 0, .int 0, .int 0, .ref m27, .int 0, .ref m29, .ref m30, .ref m31])), (m4, .inl (y4, 700, .inl (fun _ => 0))), (m5, .inl (y5, 700, .inl (fun _ => 0))), (m6, .inl (y6, 700, .inl (fun _ => 0))), (m7, .inl (y7, 96, .inl (fun _ => 0))), (m8, .inl (y8, 2, .inl (upd (upd (fun _ => 0) 0 2) 1 2))), (m9, .inl (y9, 2, .inl (fun _ => 0))), (m10, .inl (y10, 2, .inl (fun _ => 0))), (m11, .inl (y11, 2, .inl (upd (upd (fun _ => 0) 0 (-1)) 1 (-1)))), (m12, .inl (y12, 4, .inl (fun _ => 0)))] [(y4, .int), (y5, .int), (y6, .int), (y7, .int), (y8, .int), (y9, .int), (y10, .boolean), (y11, .int), (y12, .boolean)])) (vp_Si (fun r : Int32 => r = 0)) 0 0 (fun _ => False) := by
  refine Met.ofW (cc := cX8_counted) (maxL := 5) (ret := (some .int)) (by decide) rfl ?_
  intro p e s m args below meth c s₁ B hml hv
  obtain ⟨rfl, hP, hK, hN⟩ := hv
  have hx := B.exec
  have hb := B.bytes
  have hr := B.returns
  have hts := atoms_spec (ws := wsX8_counted) B.pre
  have hown : s.vm.findClass RX8 = some m.cls := findClass_of_methodNamed B.named
  have hlocks := B.notSynchronized
  have iX8 : ∀ w ∈ wsX80, w ∈ wsX8_counted := by decide +kernel
  have hP : va_P (dC, dI) vwCl [(mo, .inr (6, [.int 0, .int 0, .int 0, .int 0, .ref m4, .ref m5, .ref m6, .ref m7, .ref m8, .ref m9, .ref m10, .ref m11, .ref m12, .int 1, .int 0, .int 0, .ref m16, .ref m17, .ref m18, .int 0, .int 0, .int 0, .int 0, .int 0, .int 0, .int 0, .int 0, .ref m27, .int 0, .ref m29, .ref m30, .ref m31])), (m4, .inl (y4, 700, .inl (fun _ => 0))), (m5, .inl (y5, 700, .inl (fun _ => 0))), (m6, .inl (y6, 700, .inl (fun _ => 0))), (m7, .inl (y7, 96, .inl (fun _ => 0))), (m8, .inl (y8, 2, .inl (upd (upd (fun _ => 0) 0 2) 1 2))), (m9, .inl (y9, 2, .inl (fun _ => 0))), (m10, .inl (y10, 2, .inl (fun _ => 0))), (m11, .inl (y11, 2, .inl (upd (upd (fun _ => 0) 0 (-1)) 1 (-1)))), (m12, .inl (y12, 4, .inl (fun _ => 0)))] s.heap := hP
  have hK : va_K (dC, dI) vwCl [(y4, .int), (y5, .int), (y6, .int), (y7, .int), (y8, .int), (y9, .int), (y10, .boolean), (y11, .int), (y12, .boolean)] s := hK
  have hl := lv_entry ([.ref mo]) (n := 5) (Nat.le_of_ble_eq_true rfl)
  rw [lg_entry_eq]
  generalize (lg_sl ([.ref mo]) ++ List.replicate (5 - (lg_sl ([.ref mo])).length) Slot.unset).toArray = ls at hl ⊢
  have hl : lv_has ls 5 [(0, .ref mo)] := hl
  refine lv_aload_n hx hb dX8_counted_0 rfl (lv_at hl 0 rfl) ?_
  refine va_get (D := (dC, dI)) (ci := 6) (v := .int 0) (C := RX8) (T := TX8) (N := 32) hx hb hts iX8 hown hK hP 0 rfl rfl 15 (by decide) (hts (.fieldLink RX8 93 "ParkTowerModel" "orders" "I") (by decide +kernel)) (fun _ h9 => h9) rfl dX8_counted_1 ?_
  refine lv_aload_n hx hb dX8_counted_4 rfl (lv_at hl 0 rfl) ?_
  refine va_get (D := (dC, dI)) (ci := 6) (v := .int 0) (C := RX8) (T := TX8) (N := 32) hx hb hts iX8 hown hK hP 0 rfl rfl 19 (by decide) (hts (.fieldLink RX8 71 "ParkTowerModel" "busy" "Z") (by decide +kernel)) (fun _ h9 => h9) rfl dX8_counted_5 ?_
  refine lv_if_eq (tgt := 15) hx hb dX8_counted_8 (by decide) (fun _ => ?_) (fun c => absurd (by decide) c)
  refine lv_iconst (v := 0) hx hb dX8_counted_15 (by decide) ?_
  refine lv_iadd hx hb dX8_counted_16 ?_
  refine pt_topi 0 (by decide) ?_
  refine lv_istore_n (lv' := [(1, .int 0), (0, .ref mo)]) hx hb dX8_counted_17 rfl hl (by decide) rfl (fun ls hl => ?_)
  refine lv_iconst (v := 0) hx hb dX8_counted_18 (by decide) ?_
  refine lv_istore_n (lv' := [(2, .int 0), (1, .int 0), (0, .ref mo)]) hx hb dX8_counted_19 rfl hl (by decide) rfl (fun ls hl => ?_)
  refine lv_iload_n hx hb dX8_counted_20 rfl (lv_at hl 0 rfl) ?_
  refine lv_iconst (v := 2) hx hb dX8_counted_21 (by decide) ?_
  refine lv_icmp_ge (tgt := 137) hx hb dX8_counted_22 (by decide) (fun c => absurd c (by decide)) (fun _ => ?_)
  refine lv_aload_n hx hb dX8_counted_25 rfl (lv_at hl 2 rfl) ?_
  refine va_get (D := (dC, dI)) (ci := 6) (v := .ref m11) (C := RX8) (T := TX8) (N := 32) hx hb hts iX8 hown hK hP 0 rfl rfl 11 (by decide) (hts (.fieldLink RX8 32 "ParkTowerModel" "bay" "[I") (by decide +kernel)) (fun _ h9 => h9) rfl dX8_counted_26 ?_
  refine lv_iload_n hx hb dX8_counted_29 rfl (lv_at hl 0 rfl) ?_
  refine va_iald hx hb hK hP 8 7 rfl rfl (vp_in_iff.mpr (by decide)) dX8_counted_30 ?_
  refine pt_topi (-1) rfl ?_
  refine lv_if_lt (tgt := 53) hx hb dX8_counted_31 (by decide) (fun _ => ?_) (fun c => absurd (by decide) c)
  refine lv_iconst (v := 0) hx hb dX8_counted_53 (by decide) ?_
  refine lv_istore_n (lv' := [(3, .int 0), (2, .int 0), (1, .int 0), (0, .ref mo)]) hx hb dX8_counted_54 rfl hl (by decide) rfl (fun ls hl => ?_)
  refine lv_iconst (v := 0) hx hb dX8_counted_55 (by decide) ?_
  refine lv_istore (lv' := [(4, .int 0), (3, .int 0), (2, .int 0), (1, .int 0), (0, .ref mo)]) hx hb dX8_counted_56 hl (by decide) rfl (fun ls hl => ?_)
  refine lv_iload hx hb dX8_counted_58 (lv_at hl 0 rfl) ?_
  refine lv_aload_n hx hb dX8_counted_60 rfl (lv_at hl 4 rfl) ?_
  refine va_get (D := (dC, dI)) (ci := 6) (v := .int 0) (C := RX8) (T := TX8) (N := 32) hx hb hts iX8 hown hK hP 0 rfl rfl 15 (by decide) (hts (.fieldLink RX8 93 "ParkTowerModel" "orders" "I") (by decide +kernel)) (fun _ h9 => h9) rfl dX8_counted_61 ?_
  refine lv_icmp_ge (tgt := 99) hx hb dX8_counted_64 (by decide) (fun _ => ?_) (fun c => absurd (by decide) c)
  refine lv_iload_n hx hb dX8_counted_99 rfl (lv_at hl 1 rfl) ?_
  refine lv_if_eq (tgt := 129) hx hb dX8_counted_100 (by decide) (fun _ => ?_) (fun c => absurd (by decide) c)
  refine lv_iload_n hx hb dX8_counted_129 rfl (lv_at hl 3 rfl) ?_
  refine lv_istore_n (lv' := [(1, .int 0), (4, .int 0), (3, .int 0), (2, .int 0), (0, .ref mo)]) hx hb dX8_counted_130 rfl hl (by decide) rfl (fun ls hl => ?_)
  refine lv_iinc (v := 1) (lv' := [(2, .int 1), (1, .int 0), (4, .int 0), (3, .int 0), (0, .ref mo)]) hx hb dX8_counted_131 hl (k := 3) rfl (by decide) (by decide) rfl (fun ls hl => ?_)
  refine lv_goto (tgt := 20) hx hb dX8_counted_134 (by decide) ?_
  refine lv_iload_n hx hb dX8_counted_20 rfl (lv_at hl 0 rfl) ?_
  refine lv_iconst (v := 2) hx hb dX8_counted_21 (by decide) ?_
  refine lv_icmp_ge (tgt := 137) hx hb dX8_counted_22 (by decide) (fun c => absurd c (by decide)) (fun _ => ?_)
  refine lv_aload_n hx hb dX8_counted_25 rfl (lv_at hl 4 rfl) ?_
  refine va_get (D := (dC, dI)) (ci := 6) (v := .ref m11) (C := RX8) (T := TX8) (N := 32) hx hb hts iX8 hown hK hP 0 rfl rfl 11 (by decide) (hts (.fieldLink RX8 32 "ParkTowerModel" "bay" "[I") (by decide +kernel)) (fun _ h9 => h9) rfl dX8_counted_26 ?_
  refine lv_iload_n hx hb dX8_counted_29 rfl (lv_at hl 0 rfl) ?_
  refine va_iald hx hb hK hP 8 7 rfl rfl (vp_in_iff.mpr (by decide)) dX8_counted_30 ?_
  refine pt_topi (-1) rfl ?_
  refine lv_if_lt (tgt := 53) hx hb dX8_counted_31 (by decide) (fun _ => ?_) (fun c => absurd (by decide) c)
  refine lv_iconst (v := 0) hx hb dX8_counted_53 (by decide) ?_
  refine lv_istore_n (lv' := [(3, .int 0), (2, .int 1), (1, .int 0), (4, .int 0), (0, .ref mo)]) hx hb dX8_counted_54 rfl hl (by decide) rfl (fun ls hl => ?_)
  refine lv_iconst (v := 0) hx hb dX8_counted_55 (by decide) ?_
  refine lv_istore (lv' := [(4, .int 0), (3, .int 0), (2, .int 1), (1, .int 0), (0, .ref mo)]) hx hb dX8_counted_56 hl (by decide) rfl (fun ls hl => ?_)
  refine lv_iload hx hb dX8_counted_58 (lv_at hl 0 rfl) ?_
  refine lv_aload_n hx hb dX8_counted_60 rfl (lv_at hl 4 rfl) ?_
  refine va_get (D := (dC, dI)) (ci := 6) (v := .int 0) (C := RX8) (T := TX8) (N := 32) hx hb hts iX8 hown hK hP 0 rfl rfl 15 (by decide) (hts (.fieldLink RX8 93 "ParkTowerModel" "orders" "I") (by decide +kernel)) (fun _ h9 => h9) rfl dX8_counted_61 ?_
  refine lv_icmp_ge (tgt := 99) hx hb dX8_counted_64 (by decide) (fun _ => ?_) (fun c => absurd (by decide) c)
  refine lv_iload_n hx hb dX8_counted_99 rfl (lv_at hl 1 rfl) ?_
  refine lv_if_eq (tgt := 129) hx hb dX8_counted_100 (by decide) (fun _ => ?_) (fun c => absurd (by decide) c)
  refine lv_iload_n hx hb dX8_counted_129 rfl (lv_at hl 3 rfl) ?_
  refine lv_istore_n (lv' := [(1, .int 0), (4, .int 0), (3, .int 0), (2, .int 1), (0, .ref mo)]) hx hb dX8_counted_130 rfl hl (by decide) rfl (fun ls hl => ?_)
  refine lv_iinc (v := 2) (lv' := [(2, .int 2), (1, .int 0), (4, .int 0), (3, .int 0), (0, .ref mo)]) hx hb dX8_counted_131 hl (k := 3) rfl (by decide) (by decide) rfl (fun ls hl => ?_)
  refine lv_goto (tgt := 20) hx hb dX8_counted_134 (by decide) ?_
  refine lv_iload_n hx hb dX8_counted_20 rfl (lv_at hl 0 rfl) ?_
  refine lv_iconst (v := 2) hx hb dX8_counted_21 (by decide) ?_
  refine lv_icmp_ge (tgt := 137) hx hb dX8_counted_22 (by decide) (fun _ => ?_) (fun c => absurd (by decide) c)
  refine lv_iload_n hx hb dX8_counted_137 rfl (lv_at hl 1 rfl) ?_
  exact W.iret (v := 0) hx hb hr (fun t ht hW => ⟨0, rfl, rfl, ht⟩) (fun q h => by cases h) dX8_counted_138
set_option maxHeartbeats 4000000 in
set_option maxRecDepth 100000 in
theorem c_doors (l : Launch) (dC : Nat → ClassId) (dI : Nat → Nat → Nat) (mo m4 m5 m6 m7 m8 m9 m10 m11 m12 m16 m17 m18 m27 m29 m30 m31 : Nat) (y4 y5 y6 y7 y8 y9 y10 y11 y12 : ClassId) (tm : Int32) : Met l yX8_doors wsX8_doors ({ frames := 0, cells := 0, slots := 0, locals := 0 }) (va_Pc [.ref mo] (pt_B (dC, dI) [(mo, .inr (6, [.int 0, .int tm, .int 0, .int 0, .ref m4, .ref m5, .ref m6, .ref m7, .ref m8, .ref m9, .ref m10, .ref m11, .ref m12, .int 1, .int 0, .int 0, .ref m16, .ref m17, .ref m18, .int 0, .int 0, .int 0, .int 0, .int 0, .int 0, .int 0, .int 0, .ref m27, .int 0, .ref m29, .ref m30, .ref m31])), (m4, .inl (y4, 700, .inl (fun _ => 0))), (m5, .inl (y5, 700, .inl (fun _ => 0))), (m6, .inl (y6, 700, .inl (fun _ => 0))), (m7, .inl (y7, 96, .inl (fun _ => 0))), (m8, .inl (y8, 2, .inl (upd (upd (fun _ => 0) 0 2) 1 2))), (m9, .inl (y9, 2, .inl (fun _ => 0))), (m10, .inl (y10, 2, .inl (fun _ => 0))), (m11, .inl (y11, 2, .inl (upd (upd (fun _ => 0) 0 (-1)) 1 (-1)))), (m12, .inl (y12, 4, .inl (fun _ => 0)))] [(y4, .int), (y5, .int), (y6, .int), (y7, .int), (y8, .int), (y9, .int), (y10, .boolean), (y11, .int), (y12, .boolean)])) (va_Sv (fun _ => True)) 0 0 (fun _ => False) := by
  refine Met.ofW (cc := cX8_doors) (maxL := 3) (ret := none) (by decide) rfl ?_
  intro p e s m args below meth c s₁ B hml hv
  obtain ⟨rfl, hP, hK, hN⟩ := hv
  have hx := B.exec
  have hb := B.bytes
  have hr := B.returns
  have hts := atoms_spec (ws := wsX8_doors) B.pre
  have hown : s.vm.findClass RX8 = some m.cls := findClass_of_methodNamed B.named
  have hlocks := B.notSynchronized
  have iX8 : ∀ w ∈ wsX80, w ∈ wsX8_doors := by decide +kernel
  have hP : va_P (dC, dI) vwCl [(mo, .inr (6, [.int 0, .int tm, .int 0, .int 0, .ref m4, .ref m5, .ref m6, .ref m7, .ref m8, .ref m9, .ref m10, .ref m11, .ref m12, .int 1, .int 0, .int 0, .ref m16, .ref m17, .ref m18, .int 0, .int 0, .int 0, .int 0, .int 0, .int 0, .int 0, .int 0, .ref m27, .int 0, .ref m29, .ref m30, .ref m31])), (m4, .inl (y4, 700, .inl (fun _ => 0))), (m5, .inl (y5, 700, .inl (fun _ => 0))), (m6, .inl (y6, 700, .inl (fun _ => 0))), (m7, .inl (y7, 96, .inl (fun _ => 0))), (m8, .inl (y8, 2, .inl (upd (upd (fun _ => 0) 0 2) 1 2))), (m9, .inl (y9, 2, .inl (fun _ => 0))), (m10, .inl (y10, 2, .inl (fun _ => 0))), (m11, .inl (y11, 2, .inl (upd (upd (fun _ => 0) 0 (-1)) 1 (-1)))), (m12, .inl (y12, 4, .inl (fun _ => 0)))] s.heap := hP
  have hK : va_K (dC, dI) vwCl [(y4, .int), (y5, .int), (y6, .int), (y7, .int), (y8, .int), (y9, .int), (y10, .boolean), (y11, .int), (y12, .boolean)] s := hK
  have hl := lv_entry ([.ref mo]) (n := 3) (Nat.le_of_ble_eq_true rfl)
  rw [lg_entry_eq]
  generalize (lg_sl ([.ref mo]) ++ List.replicate (3 - (lg_sl ([.ref mo])).length) Slot.unset).toArray = ls at hl ⊢
  have hl : lv_has ls 3 [(0, .ref mo)] := hl
  refine lv_iconst (v := 0) hx hb dX8_doors_0 (by decide) ?_
  refine lv_istore_n (lv' := [(1, .int 0), (0, .ref mo)]) hx hb dX8_doors_1 rfl hl (by decide) rfl (fun ls hl => ?_)
  refine lv_iload_n hx hb dX8_doors_2 rfl (lv_at hl 0 rfl) ?_
  refine lv_iconst (v := 2) hx hb dX8_doors_3 (by decide) ?_
  refine lv_icmp_ge (tgt := 218) hx hb dX8_doors_4 (by decide) (fun c => absurd c (by decide)) (fun _ => ?_)
  refine lv_aload_n hx hb dX8_doors_7 rfl (lv_at hl 1 rfl) ?_
  refine va_get (D := (dC, dI)) (ci := 6) (v := .int 1) (C := RX8) (T := TX8) (N := 32) hx hb hts iX8 hown hK hP 0 rfl rfl 13 (by decide) (hts (.fieldLink RX8 38 "ParkTowerModel" "power" "Z") (by decide +kernel)) (fun _ h9 => h9) rfl dX8_doors_8 ?_
  refine lv_if_eq (tgt := 128) hx hb dX8_doors_11 (by decide) (fun c => absurd c (by decide)) (fun _ => ?_)
  refine lv_aload_n hx hb dX8_doors_14 rfl (lv_at hl 1 rfl) ?_
  refine va_get (D := (dC, dI)) (ci := 6) (v := .ref m8) (C := RX8) (T := TX8) (N := 32) hx hb hts iX8 hown hK hP 0 rfl rfl 8 (by decide) (hts (.fieldLink RX8 22 "ParkTowerModel" "door" "[I") (by decide +kernel)) (fun _ h9 => h9) rfl dX8_doors_15 ?_
  refine lv_iload_n hx hb dX8_doors_18 rfl (lv_at hl 0 rfl) ?_
  refine va_iald hx hb hK hP 5 4 rfl rfl (vp_in_iff.mpr (by decide)) dX8_doors_19 ?_
  refine pt_topi 2 rfl ?_
  refine lv_iconst (v := 1) hx hb dX8_doors_20 (by decide) ?_
  refine lv_icmp_eq (tgt := 34) hx hb dX8_doors_21 (by decide) (fun c => absurd c (by decide)) (fun _ => ?_)
  refine lv_aload_n hx hb dX8_doors_24 rfl (lv_at hl 1 rfl) ?_
  refine va_get (D := (dC, dI)) (ci := 6) (v := .ref m8) (C := RX8) (T := TX8) (N := 32) hx hb hts iX8 hown hK hP 0 rfl rfl 8 (by decide) (hts (.fieldLink RX8 22 "ParkTowerModel" "door" "[I") (by decide +kernel)) (fun _ h9 => h9) rfl dX8_doors_25 ?_
  refine lv_iload_n hx hb dX8_doors_28 rfl (lv_at hl 0 rfl) ?_
  refine va_iald hx hb hK hP 5 4 rfl rfl (vp_in_iff.mpr (by decide)) dX8_doors_29 ?_
  refine pt_topi 2 rfl ?_
  refine lv_iconst (v := 3) hx hb dX8_doors_30 (by decide) ?_
  refine lv_icmp_ne (tgt := 128) hx hb dX8_doors_31 (by decide) (fun _ => ?_) (fun c => absurd c (by decide))
  refine lv_iconst (v := 0) hx hb dX8_doors_128 (by decide) ?_
  refine lv_istore_n (lv' := [(2, .int 0), (1, .int 0), (0, .ref mo)]) hx hb dX8_doors_129 rfl hl (by decide) rfl (fun ls hl => ?_)
  refine lv_iload_n hx hb dX8_doors_130 rfl (lv_at hl 0 rfl) ?_
  refine lv_aload_n hx hb dX8_doors_131 rfl (lv_at hl 2 rfl) ?_
  refine va_get (D := (dC, dI)) (ci := 6) (v := .int 0) (C := RX8) (T := TX8) (N := 32) hx hb hts iX8 hown hK hP 0 rfl rfl 15 (by decide) (hts (.fieldLink RX8 93 "ParkTowerModel" "orders" "I") (by decide +kernel)) (fun _ h9 => h9) rfl dX8_doors_132 ?_
  refine lv_icmp_ge (tgt := 154) hx hb dX8_doors_135 (by decide) (fun _ => ?_) (fun c => absurd (by decide) c)
  refine lv_aload_n hx hb dX8_doors_154 rfl (lv_at hl 2 rfl) ?_
  refine va_get (D := (dC, dI)) (ci := 6) (v := .int 1) (C := RX8) (T := TX8) (N := 32) hx hb hts iX8 hown hK hP 0 rfl rfl 13 (by decide) (hts (.fieldLink RX8 38 "ParkTowerModel" "power" "Z") (by decide +kernel)) (fun _ h9 => h9) rfl dX8_doors_155 ?_
  refine lv_if_eq (tgt := 212) hx hb dX8_doors_158 (by decide) (fun c => absurd c (by decide)) (fun _ => ?_)
  refine lv_aload_n hx hb dX8_doors_161 rfl (lv_at hl 2 rfl) ?_
  refine va_get (D := (dC, dI)) (ci := 6) (v := .ref m8) (C := RX8) (T := TX8) (N := 32) hx hb hts iX8 hown hK hP 0 rfl rfl 8 (by decide) (hts (.fieldLink RX8 22 "ParkTowerModel" "door" "[I") (by decide +kernel)) (fun _ h9 => h9) rfl dX8_doors_162 ?_
  refine lv_iload_n hx hb dX8_doors_165 rfl (lv_at hl 1 rfl) ?_
  refine va_iald hx hb hK hP 5 4 rfl rfl (vp_in_iff.mpr (by decide)) dX8_doors_166 ?_
  refine pt_topi 2 rfl ?_
  refine lv_iconst (v := 2) hx hb dX8_doors_167 (by decide) ?_
  refine lv_icmp_ne (tgt := 212) hx hb dX8_doors_168 (by decide) (fun c => absurd (by decide) c) (fun _ => ?_)
  refine lv_aload_n hx hb dX8_doors_171 rfl (lv_at hl 2 rfl) ?_
  refine va_get (D := (dC, dI)) (ci := 6) (v := .ref m11) (C := RX8) (T := TX8) (N := 32) hx hb hts iX8 hown hK hP 0 rfl rfl 11 (by decide) (hts (.fieldLink RX8 32 "ParkTowerModel" "bay" "[I") (by decide +kernel)) (fun _ h9 => h9) rfl dX8_doors_172 ?_
  refine lv_iload_n hx hb dX8_doors_175 rfl (lv_at hl 1 rfl) ?_
  refine va_iald hx hb hK hP 8 7 rfl rfl (vp_in_iff.mpr (by decide)) dX8_doors_176 ?_
  refine pt_topi (-1) rfl ?_
  refine lv_if_ge (tgt := 212) hx hb dX8_doors_177 (by decide) (fun c => absurd c (by decide)) (fun _ => ?_)
  refine lv_aload_n hx hb dX8_doors_180 rfl (lv_at hl 2 rfl) ?_
  refine va_get (D := (dC, dI)) (ci := 6) (v := .ref m10) (C := RX8) (T := TX8) (N := 32) hx hb hts iX8 hown hK hP 0 rfl rfl 10 (by decide) (hts (.fieldLink RX8 28 "ParkTowerModel" "person" "[Z") (by decide +kernel)) (fun _ h9 => h9) rfl dX8_doors_181 ?_
  refine lv_iload_n hx hb dX8_doors_184 rfl (lv_at hl 1 rfl) ?_
  refine va_zald hx hb hK hP 7 6 rfl rfl (vp_in_iff.mpr (by decide)) dX8_doors_185 ?_
  refine pt_topi 0 rfl ?_
  refine lv_if_ne (tgt := 212) hx hb dX8_doors_186 (by decide) (fun c => absurd (by decide) c) (fun _ => ?_)
  refine lv_iload_n hx hb dX8_doors_189 rfl (lv_at hl 0 rfl) ?_
  refine lv_aload_n hx hb dX8_doors_190 rfl (lv_at hl 2 rfl) ?_
  refine va_get (D := (dC, dI)) (ci := 6) (v := .int 0) (C := RX8) (T := TX8) (N := 32) hx hb hts iX8 hown hK hP 0 rfl rfl 15 (by decide) (hts (.fieldLink RX8 93 "ParkTowerModel" "orders" "I") (by decide +kernel)) (fun _ h9 => h9) rfl dX8_doors_191 ?_
  refine lv_icmp_ge (tgt := 212) hx hb dX8_doors_194 (by decide) (fun _ => ?_) (fun c => absurd (by decide) c)
  refine lv_iinc (v := 1) (lv' := [(1, .int 1), (2, .int 0), (0, .ref mo)]) hx hb dX8_doors_212 hl (k := 1) rfl (by decide) (by decide) rfl (fun ls hl => ?_)
  refine lv_goto (tgt := 2) hx hb dX8_doors_215 (by decide) ?_
  refine lv_iload_n hx hb dX8_doors_2 rfl (lv_at hl 0 rfl) ?_
  refine lv_iconst (v := 2) hx hb dX8_doors_3 (by decide) ?_
  refine lv_icmp_ge (tgt := 218) hx hb dX8_doors_4 (by decide) (fun c => absurd c (by decide)) (fun _ => ?_)
  refine lv_aload_n hx hb dX8_doors_7 rfl (lv_at hl 2 rfl) ?_
  refine va_get (D := (dC, dI)) (ci := 6) (v := .int 1) (C := RX8) (T := TX8) (N := 32) hx hb hts iX8 hown hK hP 0 rfl rfl 13 (by decide) (hts (.fieldLink RX8 38 "ParkTowerModel" "power" "Z") (by decide +kernel)) (fun _ h9 => h9) rfl dX8_doors_8 ?_
  refine lv_if_eq (tgt := 128) hx hb dX8_doors_11 (by decide) (fun c => absurd c (by decide)) (fun _ => ?_)
  refine lv_aload_n hx hb dX8_doors_14 rfl (lv_at hl 2 rfl) ?_
  refine va_get (D := (dC, dI)) (ci := 6) (v := .ref m8) (C := RX8) (T := TX8) (N := 32) hx hb hts iX8 hown hK hP 0 rfl rfl 8 (by decide) (hts (.fieldLink RX8 22 "ParkTowerModel" "door" "[I") (by decide +kernel)) (fun _ h9 => h9) rfl dX8_doors_15 ?_
  refine lv_iload_n hx hb dX8_doors_18 rfl (lv_at hl 0 rfl) ?_
  refine va_iald hx hb hK hP 5 4 rfl rfl (vp_in_iff.mpr (by decide)) dX8_doors_19 ?_
  refine pt_topi 2 rfl ?_
  refine lv_iconst (v := 1) hx hb dX8_doors_20 (by decide) ?_
  refine lv_icmp_eq (tgt := 34) hx hb dX8_doors_21 (by decide) (fun c => absurd c (by decide)) (fun _ => ?_)
  refine lv_aload_n hx hb dX8_doors_24 rfl (lv_at hl 2 rfl) ?_
  refine va_get (D := (dC, dI)) (ci := 6) (v := .ref m8) (C := RX8) (T := TX8) (N := 32) hx hb hts iX8 hown hK hP 0 rfl rfl 8 (by decide) (hts (.fieldLink RX8 22 "ParkTowerModel" "door" "[I") (by decide +kernel)) (fun _ h9 => h9) rfl dX8_doors_25 ?_
  refine lv_iload_n hx hb dX8_doors_28 rfl (lv_at hl 0 rfl) ?_
  refine va_iald hx hb hK hP 5 4 rfl rfl (vp_in_iff.mpr (by decide)) dX8_doors_29 ?_
  refine pt_topi 2 rfl ?_
  refine lv_iconst (v := 3) hx hb dX8_doors_30 (by decide) ?_
  refine lv_icmp_ne (tgt := 128) hx hb dX8_doors_31 (by decide) (fun _ => ?_) (fun c => absurd c (by decide))
  refine lv_iconst (v := 0) hx hb dX8_doors_128 (by decide) ?_
  refine lv_istore_n (lv' := [(2, .int 0), (1, .int 1), (0, .ref mo)]) hx hb dX8_doors_129 rfl hl (by decide) rfl (fun ls hl => ?_)
  refine lv_iload_n hx hb dX8_doors_130 rfl (lv_at hl 0 rfl) ?_
  refine lv_aload_n hx hb dX8_doors_131 rfl (lv_at hl 2 rfl) ?_
  refine va_get (D := (dC, dI)) (ci := 6) (v := .int 0) (C := RX8) (T := TX8) (N := 32) hx hb hts iX8 hown hK hP 0 rfl rfl 15 (by decide) (hts (.fieldLink RX8 93 "ParkTowerModel" "orders" "I") (by decide +kernel)) (fun _ h9 => h9) rfl dX8_doors_132 ?_
  refine lv_icmp_ge (tgt := 154) hx hb dX8_doors_135 (by decide) (fun _ => ?_) (fun c => absurd (by decide) c)
  refine lv_aload_n hx hb dX8_doors_154 rfl (lv_at hl 2 rfl) ?_
  refine va_get (D := (dC, dI)) (ci := 6) (v := .int 1) (C := RX8) (T := TX8) (N := 32) hx hb hts iX8 hown hK hP 0 rfl rfl 13 (by decide) (hts (.fieldLink RX8 38 "ParkTowerModel" "power" "Z") (by decide +kernel)) (fun _ h9 => h9) rfl dX8_doors_155 ?_
  refine lv_if_eq (tgt := 212) hx hb dX8_doors_158 (by decide) (fun c => absurd c (by decide)) (fun _ => ?_)
  refine lv_aload_n hx hb dX8_doors_161 rfl (lv_at hl 2 rfl) ?_
  refine va_get (D := (dC, dI)) (ci := 6) (v := .ref m8) (C := RX8) (T := TX8) (N := 32) hx hb hts iX8 hown hK hP 0 rfl rfl 8 (by decide) (hts (.fieldLink RX8 22 "ParkTowerModel" "door" "[I") (by decide +kernel)) (fun _ h9 => h9) rfl dX8_doors_162 ?_
  refine lv_iload_n hx hb dX8_doors_165 rfl (lv_at hl 1 rfl) ?_
  refine va_iald hx hb hK hP 5 4 rfl rfl (vp_in_iff.mpr (by decide)) dX8_doors_166 ?_
  refine pt_topi 2 rfl ?_
  refine lv_iconst (v := 2) hx hb dX8_doors_167 (by decide) ?_
  refine lv_icmp_ne (tgt := 212) hx hb dX8_doors_168 (by decide) (fun c => absurd (by decide) c) (fun _ => ?_)
  refine lv_aload_n hx hb dX8_doors_171 rfl (lv_at hl 2 rfl) ?_
  refine va_get (D := (dC, dI)) (ci := 6) (v := .ref m11) (C := RX8) (T := TX8) (N := 32) hx hb hts iX8 hown hK hP 0 rfl rfl 11 (by decide) (hts (.fieldLink RX8 32 "ParkTowerModel" "bay" "[I") (by decide +kernel)) (fun _ h9 => h9) rfl dX8_doors_172 ?_
  refine lv_iload_n hx hb dX8_doors_175 rfl (lv_at hl 1 rfl) ?_
  refine va_iald hx hb hK hP 8 7 rfl rfl (vp_in_iff.mpr (by decide)) dX8_doors_176 ?_
  refine pt_topi (-1) rfl ?_
  refine lv_if_ge (tgt := 212) hx hb dX8_doors_177 (by decide) (fun c => absurd c (by decide)) (fun _ => ?_)
  refine lv_aload_n hx hb dX8_doors_180 rfl (lv_at hl 2 rfl) ?_
  refine va_get (D := (dC, dI)) (ci := 6) (v := .ref m10) (C := RX8) (T := TX8) (N := 32) hx hb hts iX8 hown hK hP 0 rfl rfl 10 (by decide) (hts (.fieldLink RX8 28 "ParkTowerModel" "person" "[Z") (by decide +kernel)) (fun _ h9 => h9) rfl dX8_doors_181 ?_
  refine lv_iload_n hx hb dX8_doors_184 rfl (lv_at hl 1 rfl) ?_
  refine va_zald hx hb hK hP 7 6 rfl rfl (vp_in_iff.mpr (by decide)) dX8_doors_185 ?_
  refine pt_topi 0 rfl ?_
  refine lv_if_ne (tgt := 212) hx hb dX8_doors_186 (by decide) (fun c => absurd (by decide) c) (fun _ => ?_)
  refine lv_iload_n hx hb dX8_doors_189 rfl (lv_at hl 0 rfl) ?_
  refine lv_aload_n hx hb dX8_doors_190 rfl (lv_at hl 2 rfl) ?_
  refine va_get (D := (dC, dI)) (ci := 6) (v := .int 0) (C := RX8) (T := TX8) (N := 32) hx hb hts iX8 hown hK hP 0 rfl rfl 15 (by decide) (hts (.fieldLink RX8 93 "ParkTowerModel" "orders" "I") (by decide +kernel)) (fun _ h9 => h9) rfl dX8_doors_191 ?_
  refine lv_icmp_ge (tgt := 212) hx hb dX8_doors_194 (by decide) (fun _ => ?_) (fun c => absurd (by decide) c)
  refine lv_iinc (v := 2) (lv' := [(1, .int 2), (2, .int 0), (0, .ref mo)]) hx hb dX8_doors_212 hl (k := 1) rfl (by decide) (by decide) rfl (fun ls hl => ?_)
  refine lv_goto (tgt := 2) hx hb dX8_doors_215 (by decide) ?_
  refine lv_iload_n hx hb dX8_doors_2 rfl (lv_at hl 0 rfl) ?_
  refine lv_iconst (v := 2) hx hb dX8_doors_3 (by decide) ?_
  refine lv_icmp_ge (tgt := 218) hx hb dX8_doors_4 (by decide) (fun _ => ?_) (fun c => absurd (by decide) c)
  exact W.vret hx hb hr (fun t ht hW => ⟨rfl, trivial, ht⟩) (fun q h => by cases h) dX8_doors_218
set_option maxHeartbeats 4000000 in
set_option maxRecDepth 100000 in
theorem c_order (l : Launch) (dC : Nat → ClassId) (dI : Nat → Nat → Nat) (mo m4 m5 m6 m7 m8 m9 m10 m11 m12 m16 m17 m18 m27 m29 m30 m31 : Nat) (y4 y5 y6 y7 y8 y9 y10 y11 y12 : ClassId) (tm : Int32) : Met l yX8_order wsX8_order ({ frames := 0, cells := 0, slots := 0, locals := 0 }) (va_Pc [.ref mo] (pt_B (dC, dI) [(mo, .inr (6, [.int 0, .int tm, .int 0, .int 0, .ref m4, .ref m5, .ref m6, .ref m7, .ref m8, .ref m9, .ref m10, .ref m11, .ref m12, .int 1, .int 0, .int 0, .ref m16, .ref m17, .ref m18, .int 0, .int 0, .int 0, .int 0, .int 0, .int 0, .int 0, .int 0, .ref m27, .int 0, .ref m29, .ref m30, .ref m31])), (m4, .inl (y4, 700, .inl (fun _ => 0))), (m5, .inl (y5, 700, .inl (fun _ => 0))), (m6, .inl (y6, 700, .inl (fun _ => 0))), (m7, .inl (y7, 96, .inl (fun _ => 0))), (m8, .inl (y8, 2, .inl (upd (upd (fun _ => 0) 0 2) 1 2))), (m9, .inl (y9, 2, .inl (fun _ => 0))), (m10, .inl (y10, 2, .inl (fun _ => 0))), (m11, .inl (y11, 2, .inl (upd (upd (fun _ => 0) 0 (-1)) 1 (-1)))), (m12, .inl (y12, 4, .inl (fun _ => 0)))] [(y4, .int), (y5, .int), (y6, .int), (y7, .int), (y8, .int), (y9, .int), (y10, .boolean), (y11, .int), (y12, .boolean)])) (va_Sv (fun _ => True)) 0 0 (fun _ => False) := by
  refine Met.ofW (cc := cX8_order) (maxL := 3) (ret := none) (by decide) rfl ?_
  intro p e s m args below meth c s₁ B hml hv
  obtain ⟨rfl, hP, hK, hN⟩ := hv
  have hx := B.exec
  have hb := B.bytes
  have hr := B.returns
  have hts := atoms_spec (ws := wsX8_order) B.pre
  have hown : s.vm.findClass RX8 = some m.cls := findClass_of_methodNamed B.named
  have hlocks := B.notSynchronized
  have iX8 : ∀ w ∈ wsX80, w ∈ wsX8_order := by decide +kernel
  have hP : va_P (dC, dI) vwCl [(mo, .inr (6, [.int 0, .int tm, .int 0, .int 0, .ref m4, .ref m5, .ref m6, .ref m7, .ref m8, .ref m9, .ref m10, .ref m11, .ref m12, .int 1, .int 0, .int 0, .ref m16, .ref m17, .ref m18, .int 0, .int 0, .int 0, .int 0, .int 0, .int 0, .int 0, .int 0, .ref m27, .int 0, .ref m29, .ref m30, .ref m31])), (m4, .inl (y4, 700, .inl (fun _ => 0))), (m5, .inl (y5, 700, .inl (fun _ => 0))), (m6, .inl (y6, 700, .inl (fun _ => 0))), (m7, .inl (y7, 96, .inl (fun _ => 0))), (m8, .inl (y8, 2, .inl (upd (upd (fun _ => 0) 0 2) 1 2))), (m9, .inl (y9, 2, .inl (fun _ => 0))), (m10, .inl (y10, 2, .inl (fun _ => 0))), (m11, .inl (y11, 2, .inl (upd (upd (fun _ => 0) 0 (-1)) 1 (-1)))), (m12, .inl (y12, 4, .inl (fun _ => 0)))] s.heap := hP
  have hK : va_K (dC, dI) vwCl [(y4, .int), (y5, .int), (y6, .int), (y7, .int), (y8, .int), (y9, .int), (y10, .boolean), (y11, .int), (y12, .boolean)] s := hK
  have hl := lv_entry ([.ref mo]) (n := 3) (Nat.le_of_ble_eq_true rfl)
  rw [lg_entry_eq]
  generalize (lg_sl ([.ref mo]) ++ List.replicate (3 - (lg_sl ([.ref mo])).length) Slot.unset).toArray = ls at hl ⊢
  have hl : lv_has ls 3 [(0, .ref mo)] := hl
  refine lv_aload_n hx hb dX8_order_0 rfl (lv_at hl 0 rfl) ?_
  refine va_get (D := (dC, dI)) (ci := 6) (v := .int 0) (C := RX8) (T := TX8) (N := 32) hx hb hts iX8 hown hK hP 0 rfl rfl 19 (by decide) (hts (.fieldLink RX8 71 "ParkTowerModel" "busy" "Z") (by decide +kernel)) (fun _ h9 => h9) rfl dX8_order_1 ?_
  refine lv_if_ne (tgt := 204) hx hb dX8_order_4 (by decide) (fun c => absurd (by decide) c) (fun _ => ?_)
  refine lv_iconst (v := 0) hx hb dX8_order_7 (by decide) ?_
  refine lv_istore_n (lv' := [(1, .int 0), (0, .ref mo)]) hx hb dX8_order_8 rfl hl (by decide) rfl (fun ls hl => ?_)
  refine lv_iload_n hx hb dX8_order_9 rfl (lv_at hl 0 rfl) ?_
  refine lv_aload_n hx hb dX8_order_10 rfl (lv_at hl 1 rfl) ?_
  refine va_get (D := (dC, dI)) (ci := 6) (v := .int 0) (C := RX8) (T := TX8) (N := 32) hx hb hts iX8 hown hK hP 0 rfl rfl 15 (by decide) (hts (.fieldLink RX8 93 "ParkTowerModel" "orders" "I") (by decide +kernel)) (fun _ h9 => h9) rfl dX8_order_11 ?_
  refine lv_icmp_ge (tgt := 31) hx hb dX8_order_14 (by decide) (fun _ => ?_) (fun c => absurd (by decide) c)
  refine lv_iload_n hx hb dX8_order_31 rfl (lv_at hl 0 rfl) ?_
  refine lv_aload_n hx hb dX8_order_32 rfl (lv_at hl 1 rfl) ?_
  refine va_get (D := (dC, dI)) (ci := 6) (v := .int 0) (C := RX8) (T := TX8) (N := 32) hx hb hts iX8 hown hK hP 0 rfl rfl 15 (by decide) (hts (.fieldLink RX8 93 "ParkTowerModel" "orders" "I") (by decide +kernel)) (fun _ h9 => h9) rfl dX8_order_33 ?_
  refine lv_icmp_ne (tgt := 40) hx hb dX8_order_36 (by decide) (fun c => absurd (by decide) c) (fun _ => ?_)
  exact W.vret hx hb hr (fun t ht hW => ⟨rfl, trivial, ht⟩) (fun q h => by cases h) dX8_order_39
