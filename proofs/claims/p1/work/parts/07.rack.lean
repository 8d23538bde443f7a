set_option maxHeartbeats 4000000 in
set_option maxRecDepth 100000 in
theorem c_countFree0 (l : Launch) (dC : Nat → ClassId) (dI : Nat → Nat → Nat) (rk hd jm : Nat) (cI : ClassId) : Met l yX5_countFree wsX5_countFree ({ frames := 0, cells := 0, slots := 0, locals := 0 }) (va_Pc [.ref rk, .int 0] (pt_B (dC, dI) [(rk, .inr (4, [.ref hd, .ref jm])), (hd, .inl (cI, 96, .inl (fun _ => 0)))] [(cI, .int)])) (vp_Si (fun r : Int32 => r = 24)) 0 0 (fun _ => False) := by
  refine Met.ofW (cc := cX5_countFree) (maxL := 5) (ret := (some .int)) (by decide) rfl ?_
  intro p e s m args below meth c s₁ B hml hv
  obtain ⟨rfl, hP, hK, hN⟩ := hv
  have hx := B.exec
  have hb := B.bytes
  have hr := B.returns
  have hts := atoms_spec (ws := wsX5_countFree) B.pre
  have hown : s.vm.findClass RX5 = some m.cls := findClass_of_methodNamed B.named
  have hlocks := B.notSynchronized
  have iX5 : ∀ w ∈ wsX50, w ∈ wsX5_countFree := by decide +kernel
  have hP : va_P (dC, dI) vwCl [(rk, .inr (4, [.ref hd, .ref jm])), (hd, .inl (cI, 96, .inl (fun _ => 0)))] s.heap := hP
  have hK : va_K (dC, dI) vwCl [(cI, .int)] s := hK
  have hl := lv_entry ([.ref rk, .int 0]) (n := 5) (Nat.le_of_ble_eq_true rfl)
  rw [lg_entry_eq]
  generalize (lg_sl ([.ref rk, .int 0]) ++ List.replicate (5 - (lg_sl ([.ref rk, .int 0])).length) Slot.unset).toArray = ls at hl ⊢
  have hl : lv_has ls 5 [(0, .ref rk), (1, .int 0)] := hl
  refine lv_iconst (v := 0) hx hb dX5_countFree_0 (by decide) ?_
  refine lv_istore_n (lv' := [(2, .int 0), (0, .ref rk), (1, .int 0)]) hx hb dX5_countFree_1 rfl hl (by decide) rfl (fun ls hl => ?_)
  refine lv_iload_n hx hb dX5_countFree_2 rfl (lv_at hl 2 rfl) ?_
  refine lv_bipush (v := 24) hx hb dX5_countFree_3 (by decide) ?_
  refine lv_imul hx hb dX5_countFree_5 ?_
  refine pt_topi 0 (by decide) ?_
  refine lv_istore_n (lv' := [(3, .int 0), (2, .int 0), (0, .ref rk), (1, .int 0)]) hx hb dX5_countFree_6 rfl hl (by decide) rfl (fun ls hl => ?_)
  refine lv_iload_n hx hb dX5_countFree_7 rfl (lv_at hl 0 rfl) ?_
  refine lv_istore (lv' := [(4, .int 0), (3, .int 0), (2, .int 0), (0, .ref rk), (1, .int 0)]) hx hb dX5_countFree_8 hl (by decide) rfl (fun ls hl => ?_)
  refine pt_loop 24 (fun k ls => lv_has ls 5 [(4, .int (nI (0 + k))), (3, .int 0), (2, .int (nI k)), (0, .ref rk), (1, .int 0)]) (fun ls hl => ?_) (fun k ls hk hl ih => ?_) (lv_sub hl [0, 1, 2, 3, 4] rfl)
  · have hl : lv_has ls 5 [(4, .int 24), (3, .int 0), (2, .int 24), (0, .ref rk), (1, .int 0)] := hl
    refine lv_iload hx hb dX5_countFree_10 (lv_at hl 0 rfl) ?_
    refine lv_iload_n hx hb dX5_countFree_12 rfl (lv_at hl 1 rfl) ?_
    refine lv_bipush (v := 24) hx hb dX5_countFree_13 (by decide) ?_
    refine lv_iadd hx hb dX5_countFree_15 ?_
    refine pt_topi 24 (by decide) ?_
    refine lv_icmp_ge (tgt := 38) hx hb dX5_countFree_16 (by decide) (fun _ => ?_) (fun c => absurd (by decide) c)
    refine lv_iload_n hx hb dX5_countFree_38 rfl (lv_at hl 2 rfl) ?_
    exact W.iret (v := 24) hx hb hr (fun t ht hW => ⟨24, rfl, rfl, ht⟩) (fun q h => by cases h) dX5_countFree_39
  · have hl : lv_has ls 5 [(4, .int (nI (0 + k))), (3, .int 0), (2, .int (nI k)), (0, .ref rk), (1, .int 0)] := hl
    have c_0 : ¬ ((24 : Int32) ≤ nI (0 + k)) := nI_ge (b := 24) (by omega) (by decide)
    have h_in : vp_in (nI (0 + k)) 96 := vp_in_nI (by omega) (by decide)
    refine lv_iload hx hb dX5_countFree_10 (lv_at hl 0 rfl) ?_
    refine lv_iload_n hx hb dX5_countFree_12 rfl (lv_at hl 1 rfl) ?_
    refine lv_bipush (v := 24) hx hb dX5_countFree_13 (by decide) ?_
    refine lv_iadd hx hb dX5_countFree_15 ?_
    refine pt_topi 24 (by decide) ?_
    refine lv_icmp_ge (tgt := 38) hx hb dX5_countFree_16 (by decide) (fun c => absurd c (by assumption)) (fun _ => ?_)
    refine lv_aload_n hx hb dX5_countFree_19 rfl (lv_at hl 3 rfl) ?_
    refine va_get (D := (dC, dI)) (ci := 4) (v := .ref hd) (C := RX5) (T := TX5) (N := 2) hx hb hts iX5 hown hK hP 0 rfl rfl 0 (by decide) (hts (.fieldLink RX5 9 "ParkTower$Rack" "held" "[I") (by decide +kernel)) (fun _ h9 => h9) rfl dX5_countFree_20 ?_
    refine lv_iload hx hb dX5_countFree_23 (lv_at hl 0 rfl) ?_
    refine va_iald hx hb hK hP 1 0 rfl rfl h_in dX5_countFree_25 ?_
    refine pt_topi 0 rfl ?_
    refine lv_if_ne (tgt := 32) hx hb dX5_countFree_26 (by decide) (fun c => absurd (by decide) c) (fun _ => ?_)
    refine lv_iinc (v := (nI k) + 1) (lv' := [(2, .int ((nI k) + 1)), (4, .int (nI (0 + k))), (3, .int 0), (0, .ref rk), (1, .int 0)]) hx hb dX5_countFree_29 hl (k := 2) rfl rfl (by decide) rfl (fun ls hl => ?_)
    refine lv_iinc (v := (nI (0 + k)) + 1) (lv' := [(4, .int ((nI (0 + k)) + 1)), (2, .int ((nI k) + 1)), (3, .int 0), (0, .ref rk), (1, .int 0)]) hx hb dX5_countFree_32 hl (k := 1) rfl rfl (by decide) rfl (fun ls hl => ?_)
    refine lv_goto (tgt := 10) hx hb dX5_countFree_35 (by decide) ?_
    rw [nI_1, nI_1] at hl
    exact ih ls (lv_sub hl [0, 2, 1, 3, 4] rfl)
set_option maxHeartbeats 4000000 in
set_option maxRecDepth 100000 in
theorem c_countFree1 (l : Launch) (dC : Nat → ClassId) (dI : Nat → Nat → Nat) (rk hd jm : Nat) (cI : ClassId) : Met l yX5_countFree wsX5_countFree ({ frames := 0, cells := 0, slots := 0, locals := 0 }) (va_Pc [.ref rk, .int 1] (pt_B (dC, dI) [(rk, .inr (4, [.ref hd, .ref jm])), (hd, .inl (cI, 96, .inl (fun _ => 0)))] [(cI, .int)])) (vp_Si (fun r : Int32 => r = 24)) 0 0 (fun _ => False) := by
  refine Met.ofW (cc := cX5_countFree) (maxL := 5) (ret := (some .int)) (by decide) rfl ?_
  intro p e s m args below meth c s₁ B hml hv
  obtain ⟨rfl, hP, hK, hN⟩ := hv
  have hx := B.exec
  have hb := B.bytes
  have hr := B.returns
  have hts := atoms_spec (ws := wsX5_countFree) B.pre
  have hown : s.vm.findClass RX5 = some m.cls := findClass_of_methodNamed B.named
  have hlocks := B.notSynchronized
  have iX5 : ∀ w ∈ wsX50, w ∈ wsX5_countFree := by decide +kernel
  have hP : va_P (dC, dI) vwCl [(rk, .inr (4, [.ref hd, .ref jm])), (hd, .inl (cI, 96, .inl (fun _ => 0)))] s.heap := hP
  have hK : va_K (dC, dI) vwCl [(cI, .int)] s := hK
  have hl := lv_entry ([.ref rk, .int 1]) (n := 5) (Nat.le_of_ble_eq_true rfl)
  rw [lg_entry_eq]
  generalize (lg_sl ([.ref rk, .int 1]) ++ List.replicate (5 - (lg_sl ([.ref rk, .int 1])).length) Slot.unset).toArray = ls at hl ⊢
  have hl : lv_has ls 5 [(0, .ref rk), (1, .int 1)] := hl
  refine lv_iconst (v := 0) hx hb dX5_countFree_0 (by decide) ?_
  refine lv_istore_n (lv' := [(2, .int 0), (0, .ref rk), (1, .int 1)]) hx hb dX5_countFree_1 rfl hl (by decide) rfl (fun ls hl => ?_)
  refine lv_iload_n hx hb dX5_countFree_2 rfl (lv_at hl 2 rfl) ?_
  refine lv_bipush (v := 24) hx hb dX5_countFree_3 (by decide) ?_
  refine lv_imul hx hb dX5_countFree_5 ?_
  refine pt_topi 24 (by decide) ?_
  refine lv_istore_n (lv' := [(3, .int 24), (2, .int 0), (0, .ref rk), (1, .int 1)]) hx hb dX5_countFree_6 rfl hl (by decide) rfl (fun ls hl => ?_)
  refine lv_iload_n hx hb dX5_countFree_7 rfl (lv_at hl 0 rfl) ?_
  refine lv_istore (lv' := [(4, .int 24), (3, .int 24), (2, .int 0), (0, .ref rk), (1, .int 1)]) hx hb dX5_countFree_8 hl (by decide) rfl (fun ls hl => ?_)
  refine pt_loop 24 (fun k ls => lv_has ls 5 [(4, .int (nI (24 + k))), (3, .int 24), (2, .int (nI k)), (0, .ref rk), (1, .int 1)]) (fun ls hl => ?_) (fun k ls hk hl ih => ?_) (lv_sub hl [0, 1, 2, 3, 4] rfl)
  · have hl : lv_has ls 5 [(4, .int 48), (3, .int 24), (2, .int 24), (0, .ref rk), (1, .int 1)] := hl
    refine lv_iload hx hb dX5_countFree_10 (lv_at hl 0 rfl) ?_
    refine lv_iload_n hx hb dX5_countFree_12 rfl (lv_at hl 1 rfl) ?_
    refine lv_bipush (v := 24) hx hb dX5_countFree_13 (by decide) ?_
    refine lv_iadd hx hb dX5_countFree_15 ?_
    refine pt_topi 48 (by decide) ?_
    refine lv_icmp_ge (tgt := 38) hx hb dX5_countFree_16 (by decide) (fun _ => ?_) (fun c => absurd (by decide) c)
    refine lv_iload_n hx hb dX5_countFree_38 rfl (lv_at hl 2 rfl) ?_
    exact W.iret (v := 24) hx hb hr (fun t ht hW => ⟨24, rfl, rfl, ht⟩) (fun q h => by cases h) dX5_countFree_39
  · have hl : lv_has ls 5 [(4, .int (nI (24 + k))), (3, .int 24), (2, .int (nI k)), (0, .ref rk), (1, .int 1)] := hl
    have c_0 : ¬ ((48 : Int32) ≤ nI (24 + k)) := nI_ge (b := 48) (by omega) (by decide)
    have h_in : vp_in (nI (24 + k)) 96 := vp_in_nI (by omega) (by decide)
    refine lv_iload hx hb dX5_countFree_10 (lv_at hl 0 rfl) ?_
    refine lv_iload_n hx hb dX5_countFree_12 rfl (lv_at hl 1 rfl) ?_
    refine lv_bipush (v := 24) hx hb dX5_countFree_13 (by decide) ?_
    refine lv_iadd hx hb dX5_countFree_15 ?_
    refine pt_topi 48 (by decide) ?_
    refine lv_icmp_ge (tgt := 38) hx hb dX5_countFree_16 (by decide) (fun c => absurd c (by assumption)) (fun _ => ?_)
    refine lv_aload_n hx hb dX5_countFree_19 rfl (lv_at hl 3 rfl) ?_
    refine va_get (D := (dC, dI)) (ci := 4) (v := .ref hd) (C := RX5) (T := TX5) (N := 2) hx hb hts iX5 hown hK hP 0 rfl rfl 0 (by decide) (hts (.fieldLink RX5 9 "ParkTower$Rack" "held" "[I") (by decide +kernel)) (fun _ h9 => h9) rfl dX5_countFree_20 ?_
    refine lv_iload hx hb dX5_countFree_23 (lv_at hl 0 rfl) ?_
    refine va_iald hx hb hK hP 1 0 rfl rfl h_in dX5_countFree_25 ?_
    refine pt_topi 0 rfl ?_
    refine lv_if_ne (tgt := 32) hx hb dX5_countFree_26 (by decide) (fun c => absurd (by decide) c) (fun _ => ?_)
    refine lv_iinc (v := (nI k) + 1) (lv' := [(2, .int ((nI k) + 1)), (4, .int (nI (24 + k))), (3, .int 24), (0, .ref rk), (1, .int 1)]) hx hb dX5_countFree_29 hl (k := 2) rfl rfl (by decide) rfl (fun ls hl => ?_)
    refine lv_iinc (v := (nI (24 + k)) + 1) (lv' := [(4, .int ((nI (24 + k)) + 1)), (2, .int ((nI k) + 1)), (3, .int 24), (0, .ref rk), (1, .int 1)]) hx hb dX5_countFree_32 hl (k := 1) rfl rfl (by decide) rfl (fun ls hl => ?_)
    refine lv_goto (tgt := 10) hx hb dX5_countFree_35 (by decide) ?_
    rw [nI_1, nI_1] at hl
    exact ih ls (lv_sub hl [0, 2, 1, 3, 4] rfl)
set_option maxHeartbeats 4000000 in
set_option maxRecDepth 100000 in
theorem c_countFree2 (l : Launch) (dC : Nat → ClassId) (dI : Nat → Nat → Nat) (rk hd jm : Nat) (cI : ClassId) : Met l yX5_countFree wsX5_countFree ({ frames := 0, cells := 0, slots := 0, locals := 0 }) (va_Pc [.ref rk, .int 2] (pt_B (dC, dI) [(rk, .inr (4, [.ref hd, .ref jm])), (hd, .inl (cI, 96, .inl (fun _ => 0)))] [(cI, .int)])) (vp_Si (fun r : Int32 => r = 24)) 0 0 (fun _ => False) := by
  refine Met.ofW (cc := cX5_countFree) (maxL := 5) (ret := (some .int)) (by decide) rfl ?_
  intro p e s m args below meth c s₁ B hml hv
  obtain ⟨rfl, hP, hK, hN⟩ := hv
  have hx := B.exec
  have hb := B.bytes
  have hr := B.returns
  have hts := atoms_spec (ws := wsX5_countFree) B.pre
  have hown : s.vm.findClass RX5 = some m.cls := findClass_of_methodNamed B.named
  have hlocks := B.notSynchronized
  have iX5 : ∀ w ∈ wsX50, w ∈ wsX5_countFree := by decide +kernel
  have hP : va_P (dC, dI) vwCl [(rk, .inr (4, [.ref hd, .ref jm])), (hd, .inl (cI, 96, .inl (fun _ => 0)))] s.heap := hP
  have hK : va_K (dC, dI) vwCl [(cI, .int)] s := hK
  have hl := lv_entry ([.ref rk, .int 2]) (n := 5) (Nat.le_of_ble_eq_true rfl)
  rw [lg_entry_eq]
  generalize (lg_sl ([.ref rk, .int 2]) ++ List.replicate (5 - (lg_sl ([.ref rk, .int 2])).length) Slot.unset).toArray = ls at hl ⊢
  have hl : lv_has ls 5 [(0, .ref rk), (1, .int 2)] := hl
  refine lv_iconst (v := 0) hx hb dX5_countFree_0 (by decide) ?_
  refine lv_istore_n (lv' := [(2, .int 0), (0, .ref rk), (1, .int 2)]) hx hb dX5_countFree_1 rfl hl (by decide) rfl (fun ls hl => ?_)
  refine lv_iload_n hx hb dX5_countFree_2 rfl (lv_at hl 2 rfl) ?_
  refine lv_bipush (v := 24) hx hb dX5_countFree_3 (by decide) ?_
  refine lv_imul hx hb dX5_countFree_5 ?_
  refine pt_topi 48 (by decide) ?_
  refine lv_istore_n (lv' := [(3, .int 48), (2, .int 0), (0, .ref rk), (1, .int 2)]) hx hb dX5_countFree_6 rfl hl (by decide) rfl (fun ls hl => ?_)
  refine lv_iload_n hx hb dX5_countFree_7 rfl (lv_at hl 0 rfl) ?_
  refine lv_istore (lv' := [(4, .int 48), (3, .int 48), (2, .int 0), (0, .ref rk), (1, .int 2)]) hx hb dX5_countFree_8 hl (by decide) rfl (fun ls hl => ?_)
  refine pt_loop 24 (fun k ls => lv_has ls 5 [(4, .int (nI (48 + k))), (3, .int 48), (2, .int (nI k)), (0, .ref rk), (1, .int 2)]) (fun ls hl => ?_) (fun k ls hk hl ih => ?_) (lv_sub hl [0, 1, 2, 3, 4] rfl)
  · have hl : lv_has ls 5 [(4, .int 72), (3, .int 48), (2, .int 24), (0, .ref rk), (1, .int 2)] := hl
    refine lv_iload hx hb dX5_countFree_10 (lv_at hl 0 rfl) ?_
    refine lv_iload_n hx hb dX5_countFree_12 rfl (lv_at hl 1 rfl) ?_
    refine lv_bipush (v := 24) hx hb dX5_countFree_13 (by decide) ?_
    refine lv_iadd hx hb dX5_countFree_15 ?_
    refine pt_topi 72 (by decide) ?_
    refine lv_icmp_ge (tgt := 38) hx hb dX5_countFree_16 (by decide) (fun _ => ?_) (fun c => absurd (by decide) c)
    refine lv_iload_n hx hb dX5_countFree_38 rfl (lv_at hl 2 rfl) ?_
    exact W.iret (v := 24) hx hb hr (fun t ht hW => ⟨24, rfl, rfl, ht⟩) (fun q h => by cases h) dX5_countFree_39
  · have hl : lv_has ls 5 [(4, .int (nI (48 + k))), (3, .int 48), (2, .int (nI k)), (0, .ref rk), (1, .int 2)] := hl
    have c_0 : ¬ ((72 : Int32) ≤ nI (48 + k)) := nI_ge (b := 72) (by omega) (by decide)
    have h_in : vp_in (nI (48 + k)) 96 := vp_in_nI (by omega) (by decide)
    refine lv_iload hx hb dX5_countFree_10 (lv_at hl 0 rfl) ?_
    refine lv_iload_n hx hb dX5_countFree_12 rfl (lv_at hl 1 rfl) ?_
    refine lv_bipush (v := 24) hx hb dX5_countFree_13 (by decide) ?_
    refine lv_iadd hx hb dX5_countFree_15 ?_
    refine pt_topi 72 (by decide) ?_
    refine lv_icmp_ge (tgt := 38) hx hb dX5_countFree_16 (by decide) (fun c => absurd c (by assumption)) (fun _ => ?_)
    refine lv_aload_n hx hb dX5_countFree_19 rfl (lv_at hl 3 rfl) ?_
    refine va_get (D := (dC, dI)) (ci := 4) (v := .ref hd) (C := RX5) (T := TX5) (N := 2) hx hb hts iX5 hown hK hP 0 rfl rfl 0 (by decide) (hts (.fieldLink RX5 9 "ParkTower$Rack" "held" "[I") (by decide +kernel)) (fun _ h9 => h9) rfl dX5_countFree_20 ?_
    refine lv_iload hx hb dX5_countFree_23 (lv_at hl 0 rfl) ?_
    refine va_iald hx hb hK hP 1 0 rfl rfl h_in dX5_countFree_25 ?_
    refine pt_topi 0 rfl ?_
    refine lv_if_ne (tgt := 32) hx hb dX5_countFree_26 (by decide) (fun c => absurd (by decide) c) (fun _ => ?_)
    refine lv_iinc (v := (nI k) + 1) (lv' := [(2, .int ((nI k) + 1)), (4, .int (nI (48 + k))), (3, .int 48), (0, .ref rk), (1, .int 2)]) hx hb dX5_countFree_29 hl (k := 2) rfl rfl (by decide) rfl (fun ls hl => ?_)
    refine lv_iinc (v := (nI (48 + k)) + 1) (lv' := [(4, .int ((nI (48 + k)) + 1)), (2, .int ((nI k) + 1)), (3, .int 48), (0, .ref rk), (1, .int 2)]) hx hb dX5_countFree_32 hl (k := 1) rfl rfl (by decide) rfl (fun ls hl => ?_)
    refine lv_goto (tgt := 10) hx hb dX5_countFree_35 (by decide) ?_
    rw [nI_1, nI_1] at hl
    exact ih ls (lv_sub hl [0, 2, 1, 3, 4] rfl)
set_option maxHeartbeats 4000000 in
set_option maxRecDepth 100000 in
theorem c_countFree3 (l : Launch) (dC : Nat → ClassId) (dI : Nat → Nat → Nat) (rk hd jm : Nat) (cI : ClassId) : Met l yX5_countFree wsX5_countFree ({ frames := 0, cells := 0, slots := 0, locals := 0 }) (va_Pc [.ref rk, .int 3] (pt_B (dC, dI) [(rk, .inr (4, [.ref hd, .ref jm])), (hd, .inl (cI, 96, .inl (fun _ => 0)))] [(cI, .int)])) (vp_Si (fun r : Int32 => r = 24)) 0 0 (fun _ => False) := by
  refine Met.ofW (cc := cX5_countFree) (maxL := 5) (ret := (some .int)) (by decide) rfl ?_
  intro p e s m args below meth c s₁ B hml hv
  obtain ⟨rfl, hP, hK, hN⟩ := hv
  have hx := B.exec
  have hb := B.bytes
  have hr := B.returns
  have hts := atoms_spec (ws := wsX5_countFree) B.pre
  have hown : s.vm.findClass RX5 = some m.cls := findClass_of_methodNamed B.named
  have hlocks := B.notSynchronized
  have iX5 : ∀ w ∈ wsX50, w ∈ wsX5_countFree := by decide +kernel
  have hP : va_P (dC, dI) vwCl [(rk, .inr (4, [.ref hd, .ref jm])), (hd, .inl (cI, 96, .inl (fun _ => 0)))] s.heap := hP
  have hK : va_K (dC, dI) vwCl [(cI, .int)] s := hK
  have hl := lv_entry ([.ref rk, .int 3]) (n := 5) (Nat.le_of_ble_eq_true rfl)
  rw [lg_entry_eq]
  generalize (lg_sl ([.ref rk, .int 3]) ++ List.replicate (5 - (lg_sl ([.ref rk, .int 3])).length) Slot.unset).toArray = ls at hl ⊢
  have hl : lv_has ls 5 [(0, .ref rk), (1, .int 3)] := hl
  refine lv_iconst (v := 0) hx hb dX5_countFree_0 (by decide) ?_
  refine lv_istore_n (lv' := [(2, .int 0), (0, .ref rk), (1, .int 3)]) hx hb dX5_countFree_1 rfl hl (by decide) rfl (fun ls hl => ?_)
  refine lv_iload_n hx hb dX5_countFree_2 rfl (lv_at hl 2 rfl) ?_
  refine lv_bipush (v := 24) hx hb dX5_countFree_3 (by decide) ?_
  refine lv_imul hx hb dX5_countFree_5 ?_
  refine pt_topi 72 (by decide) ?_
  refine lv_istore_n (lv' := [(3, .int 72), (2, .int 0), (0, .ref rk), (1, .int 3)]) hx hb dX5_countFree_6 rfl hl (by decide) rfl (fun ls hl => ?_)
  refine lv_iload_n hx hb dX5_countFree_7 rfl (lv_at hl 0 rfl) ?_
  refine lv_istore (lv' := [(4, .int 72), (3, .int 72), (2, .int 0), (0, .ref rk), (1, .int 3)]) hx hb dX5_countFree_8 hl (by decide) rfl (fun ls hl => ?_)
  refine pt_loop 24 (fun k ls => lv_has ls 5 [(4, .int (nI (72 + k))), (3, .int 72), (2, .int (nI k)), (0, .ref rk), (1, .int 3)]) (fun ls hl => ?_) (fun k ls hk hl ih => ?_) (lv_sub hl [0, 1, 2, 3, 4] rfl)
  · have hl : lv_has ls 5 [(4, .int 96), (3, .int 72), (2, .int 24), (0, .ref rk), (1, .int 3)] := hl
    refine lv_iload hx hb dX5_countFree_10 (lv_at hl 0 rfl) ?_
    refine lv_iload_n hx hb dX5_countFree_12 rfl (lv_at hl 1 rfl) ?_
    refine lv_bipush (v := 24) hx hb dX5_countFree_13 (by decide) ?_
    refine lv_iadd hx hb dX5_countFree_15 ?_
    refine pt_topi 96 (by decide) ?_
    refine lv_icmp_ge (tgt := 38) hx hb dX5_countFree_16 (by decide) (fun _ => ?_) (fun c => absurd (by decide) c)
    refine lv_iload_n hx hb dX5_countFree_38 rfl (lv_at hl 2 rfl) ?_
    exact W.iret (v := 24) hx hb hr (fun t ht hW => ⟨24, rfl, rfl, ht⟩) (fun q h => by cases h) dX5_countFree_39
  · have hl : lv_has ls 5 [(4, .int (nI (72 + k))), (3, .int 72), (2, .int (nI k)), (0, .ref rk), (1, .int 3)] := hl
    have c_0 : ¬ ((96 : Int32) ≤ nI (72 + k)) := nI_ge (b := 96) (by omega) (by decide)
    have h_in : vp_in (nI (72 + k)) 96 := vp_in_nI (by omega) (by decide)
    refine lv_iload hx hb dX5_countFree_10 (lv_at hl 0 rfl) ?_
    refine lv_iload_n hx hb dX5_countFree_12 rfl (lv_at hl 1 rfl) ?_
    refine lv_bipush (v := 24) hx hb dX5_countFree_13 (by decide) ?_
    refine lv_iadd hx hb dX5_countFree_15 ?_
    refine pt_topi 96 (by decide) ?_
    refine lv_icmp_ge (tgt := 38) hx hb dX5_countFree_16 (by decide) (fun c => absurd c (by assumption)) (fun _ => ?_)
    refine lv_aload_n hx hb dX5_countFree_19 rfl (lv_at hl 3 rfl) ?_
    refine va_get (D := (dC, dI)) (ci := 4) (v := .ref hd) (C := RX5) (T := TX5) (N := 2) hx hb hts iX5 hown hK hP 0 rfl rfl 0 (by decide) (hts (.fieldLink RX5 9 "ParkTower$Rack" "held" "[I") (by decide +kernel)) (fun _ h9 => h9) rfl dX5_countFree_20 ?_
    refine lv_iload hx hb dX5_countFree_23 (lv_at hl 0 rfl) ?_
    refine va_iald hx hb hK hP 1 0 rfl rfl h_in dX5_countFree_25 ?_
    refine pt_topi 0 rfl ?_
    refine lv_if_ne (tgt := 32) hx hb dX5_countFree_26 (by decide) (fun c => absurd (by decide) c) (fun _ => ?_)
    refine lv_iinc (v := (nI k) + 1) (lv' := [(2, .int ((nI k) + 1)), (4, .int (nI (72 + k))), (3, .int 72), (0, .ref rk), (1, .int 3)]) hx hb dX5_countFree_29 hl (k := 2) rfl rfl (by decide) rfl (fun ls hl => ?_)
    refine lv_iinc (v := (nI (72 + k)) + 1) (lv' := [(4, .int ((nI (72 + k)) + 1)), (2, .int ((nI k) + 1)), (3, .int 72), (0, .ref rk), (1, .int 3)]) hx hb dX5_countFree_32 hl (k := 1) rfl rfl (by decide) rfl (fun ls hl => ?_)
    refine lv_goto (tgt := 10) hx hb dX5_countFree_35 (by decide) ?_
    rw [nI_1, nI_1] at hl
    exact ih ls (lv_sub hl [0, 2, 1, 3, 4] rfl)
set_option maxHeartbeats 4000000 in
set_option maxRecDepth 100000 in
theorem c_countCars (l : Launch) (dC : Nat → ClassId) (dI : Nat → Nat → Nat) (rk hd jm : Nat) (cI : ClassId) : Met l yX5_countCars wsX5_countCars ({ frames := 1, cells := 0, slots := 0, locals := 21 }) (va_Pc [.ref rk] (pt_B (dC, dI) [(rk, .inr (4, [.ref hd, .ref jm])), (hd, .inl (cI, 96, .inl (fun _ => 0)))] [(cI, .int)])) (vp_Si (fun r : Int32 => r = 0)) 0 0 (fun _ => False) := by
  refine Met.ofW (cc := cX5_countCars) (maxL := 3) (ret := (some .int)) (by decide) rfl ?_
  intro p e s m args below meth c s₁ B hml hv
  obtain ⟨rfl, hP, hK, hN⟩ := hv
  have hx := B.exec
  have hb := B.bytes
  have hr := B.returns
  have hts := atoms_spec (ws := wsX5_countCars) B.pre
  have hown : s.vm.findClass RX5 = some m.cls := findClass_of_methodNamed B.named
  have hlocks := B.notSynchronized
  have hP : va_P (dC, dI) vwCl [(rk, .inr (4, [.ref hd, .ref jm])), (hd, .inl (cI, 96, .inl (fun _ => 0)))] s.heap := hP
  have hK : va_K (dC, dI) vwCl [(cI, .int)] s := hK
  have hl := lv_entry ([.ref rk]) (n := 3) (Nat.le_of_ble_eq_true rfl)
  rw [lg_entry_eq]
  generalize (lg_sl ([.ref rk]) ++ List.replicate (3 - (lg_sl ([.ref rk])).length) Slot.unset).toArray = ls at hl ⊢
  have hl : lv_has ls 3 [(0, .ref rk)] := hl
  refine lv_iconst (v := 0) hx hb dX5_countCars_0 (by decide) ?_
  refine lv_istore_n (lv' := [(1, .int 0), (0, .ref rk)]) hx hb dX5_countCars_1 rfl hl (by decide) rfl (fun ls hl => ?_)
  refine lv_iconst (v := 0) hx hb dX5_countCars_2 (by decide) ?_
  refine lv_istore_n (lv' := [(2, .int 0), (1, .int 0), (0, .ref rk)]) hx hb dX5_countCars_3 rfl hl (by decide) rfl (fun ls hl => ?_)
  refine pt_loop 96 (fun k ls => lv_has ls 3 [(2, .int (nI k)), (1, .int 0), (0, .ref rk)]) (fun ls hl => ?_) (fun k ls hk hl ih => ?_) (lv_sub hl [0, 1, 2] rfl)
  · have hl : lv_has ls 3 [(2, .int 96), (1, .int 0), (0, .ref rk)] := hl
    refine lv_iload_n hx hb dX5_countCars_4 rfl (lv_at hl 0 rfl) ?_
    refine lv_bipush (v := 96) hx hb dX5_countCars_5 (by decide) ?_
    refine lv_icmp_ge (tgt := 27) hx hb dX5_countCars_7 (by decide) (fun _ => ?_) (fun c => absurd (by decide) c)
    refine lv_iload_n hx hb dX5_countCars_27 rfl (lv_at hl 1 rfl) ?_
    exact W.iret (v := 0) hx hb hr (fun t ht hW => ⟨0, rfl, rfl, ht⟩) (fun q h => by cases h) dX5_countCars_28
  · have hl : lv_has ls 3 [(2, .int (nI k)), (1, .int 0), (0, .ref rk)] := hl
    have c_0 : ¬ ((96 : Int32) ≤ nI k) := nI_ge (b := 96) (by omega) (by decide)
    have h_in : vp_in (nI k) 96 := vp_in_nI (by omega) (by decide)
    refine lv_iload_n hx hb dX5_countCars_4 rfl (lv_at hl 0 rfl) ?_
    refine lv_bipush (v := 96) hx hb dX5_countCars_5 (by decide) ?_
    refine lv_icmp_ge (tgt := 27) hx hb dX5_countCars_7 (by decide) (fun c => absurd c (by assumption)) (fun _ => ?_)
    refine lv_aload_n hx hb dX5_countCars_10 rfl (lv_at hl 2 rfl) ?_
    refine lv_iload_n hx hb dX5_countCars_11 rfl (lv_at hl 0 rfl) ?_
    refine pt_cSi (va_runV (As := [.int (nI k)]) (rest := []) ⟨hx, hb, hml, hown, hts⟩ (c_hasCar l dC dI rk hd jm cI (nI k) h_in) (cwV 1 hts gX5_countCars_X5_hasCar rfl rfl rfl (by decide +kernel) ⟨Nat.le_of_ble_eq_true rfl, Nat.le_of_ble_eq_true rfl⟩) ⟨pt_blind, va_recv hK hP (ci := 4) (q0 := 0) rfl rfl, pt_pre (w := [(rk, .inr (4, [.ref hd, .ref jm])), (hd, .inl (cI, 96, .inl (fun _ => 0)))]) (tys := [(cI, .int)]) (hP.sub [0, 1] rfl) (hK.sub [0] rfl) hN⟩ rfl rfl hl.1 rfl (lv_room (Nat.le_of_ble_eq_true rfl)) dX5_countCars_12 ⟨Nat.le_of_ble_eq_true rfl, Nat.le_of_ble_eq_true rfl⟩) (fun r_1 hr_1 => ?_)
    obtain rfl : r_1 = 0 := hr_1
    refine lv_if_eq (tgt := 21) hx hb dX5_countCars_15 (by decide) (fun _ => ?_) (fun c => absurd (by decide) c)
    refine lv_iinc (v := (nI k) + 1) (lv' := [(2, .int ((nI k) + 1)), (1, .int 0), (0, .ref rk)]) hx hb dX5_countCars_21 hl (k := 0) rfl rfl (by decide) rfl (fun ls hl => ?_)
    refine lv_goto (tgt := 4) hx hb dX5_countCars_24 (by decide) ?_
    rw [nI_1] at hl
    exact ih ls (lv_sub hl [0, 1, 2] rfl)
set_option maxHeartbeats 4000000 in
set_option maxRecDepth 100000 in
theorem c_hasRoom0 (l : Launch) (dC : Nat → ClassId) (dI : Nat → Nat → Nat) (rk hd jm : Nat) (cI cZ : ClassId) : Met l yX5_hasRoom wsX5_hasRoom ({ frames := 1, cells := 0, slots := 0, locals := 24 }) (va_Pc [.ref rk, .int 0] (pt_B (dC, dI) [(rk, .inr (4, [.ref hd, .ref jm])), (hd, .inl (cI, 96, .inl (fun _ => 0))), (jm, .inl (cZ, 4, .inl (fun _ => 0)))] [(cI, .int), (cZ, .boolean)])) (vp_Si (fun r : Int32 => r = 1)) 0 0 (fun _ => False) := by
  refine Met.ofW (cc := cX5_hasRoom) (maxL := 2) (ret := (some .boolean)) (by decide) rfl ?_
  intro p e s m args below meth c s₁ B hml hv
  obtain ⟨rfl, hP, hK, hN⟩ := hv
  have hx := B.exec
  have hb := B.bytes
  have hr := B.returns
  have hts := atoms_spec (ws := wsX5_hasRoom) B.pre
  have hown : s.vm.findClass RX5 = some m.cls := findClass_of_methodNamed B.named
  have hlocks := B.notSynchronized
  have iX5 : ∀ w ∈ wsX50, w ∈ wsX5_hasRoom := by decide +kernel
  have hP : va_P (dC, dI) vwCl [(rk, .inr (4, [.ref hd, .ref jm])), (hd, .inl (cI, 96, .inl (fun _ => 0))), (jm, .inl (cZ, 4, .inl (fun _ => 0)))] s.heap := hP
  have hK : va_K (dC, dI) vwCl [(cI, .int), (cZ, .boolean)] s := hK
  have hl := lv_entry ([.ref rk, .int 0]) (n := 2) (Nat.le_of_ble_eq_true rfl)
  rw [lg_entry_eq]
  generalize (lg_sl ([.ref rk, .int 0]) ++ List.replicate (2 - (lg_sl ([.ref rk, .int 0])).length) Slot.unset).toArray = ls at hl ⊢
  have hl : lv_has ls 2 [(0, .ref rk), (1, .int 0)] := hl
  refine lv_aload_n hx hb dX5_hasRoom_0 rfl (lv_at hl 0 rfl) ?_
  refine va_get (D := (dC, dI)) (ci := 4) (v := .ref jm) (C := RX5) (T := TX5) (N := 2) hx hb hts iX5 hown hK hP 0 rfl rfl 1 (by decide) (hts (.fieldLink RX5 15 "ParkTower$Rack" "jammed" "[Z") (by decide +kernel)) (fun _ h9 => h9) rfl dX5_hasRoom_1 ?_
  refine lv_iload_n hx hb dX5_hasRoom_4 rfl (lv_at hl 1 rfl) ?_
  refine va_zald hx hb hK hP 2 1 rfl rfl (vp_in_iff.mpr (by decide)) dX5_hasRoom_5 ?_
  refine pt_topi 0 rfl ?_
  refine lv_if_ne (tgt := 22) hx hb dX5_hasRoom_6 (by decide) (fun c => absurd (by decide) c) (fun _ => ?_)
  refine lv_aload_n hx hb dX5_hasRoom_9 rfl (lv_at hl 0 rfl) ?_
  refine lv_iload_n hx hb dX5_hasRoom_10 rfl (lv_at hl 1 rfl) ?_
  refine pt_cSi (va_runV (As := [.int 0]) (rest := []) ⟨hx, hb, hml, hown, hts⟩ (c_countFree0 l dC dI rk hd jm cI) (cwV 1 hts gX5_hasRoom_X5_countFree rfl rfl rfl (by decide +kernel) ⟨Nat.le_of_ble_eq_true rfl, Nat.le_of_ble_eq_true rfl⟩) ⟨pt_blind, va_recv hK hP (ci := 4) (q0 := 0) rfl rfl, pt_pre (w := [(rk, .inr (4, [.ref hd, .ref jm])), (hd, .inl (cI, 96, .inl (fun _ => 0)))]) (tys := [(cI, .int)]) (hP.sub [0, 1] rfl) (hK.sub [0] rfl) hN⟩ rfl rfl hl.1 rfl (lv_room (Nat.le_of_ble_eq_true rfl)) dX5_hasRoom_11 ⟨Nat.le_of_ble_eq_true rfl, Nat.le_of_ble_eq_true rfl⟩) (fun r_1 hr_1 => ?_)
  obtain rfl : r_1 = 24 := hr_1
  refine lv_iconst (v := 2) hx hb dX5_hasRoom_14 (by decide) ?_
  refine lv_icmp_lt (tgt := 22) hx hb dX5_hasRoom_15 (by decide) (fun c => absurd c (by decide)) (fun _ => ?_)
  refine lv_iconst (v := 1) hx hb dX5_hasRoom_18 (by decide) ?_
  refine lv_goto (tgt := 23) hx hb dX5_hasRoom_19 (by decide) ?_
  exact W.zret (v := 1) (ty := .boolean) hx hb hr rfl (fun t ht hW => ⟨1, rfl, rfl, ht⟩) (fun q h => by cases h) dX5_hasRoom_23
set_option maxHeartbeats 4000000 in
set_option maxRecDepth 100000 in
theorem c_firstCell0 (l : Launch) (dC : Nat → ClassId) (dI : Nat → Nat → Nat) (rk hd jm : Nat) (cI : ClassId) : Met l yX5_firstCellToStore wsX5_firstCellToStore ({ frames := 0, cells := 0, slots := 0, locals := 0 }) (va_Pc [.ref rk, .int 0] (pt_B (dC, dI) [(rk, .inr (4, [.ref hd, .ref jm])), (hd, .inl (cI, 96, .inl (fun _ => 0)))] [(cI, .int)])) (vp_Si (fun r : Int32 => r = 1)) 0 0 (fun _ => False) := by
  refine Met.ofW (cc := cX5_firstCellToStore) (maxL := 6) (ret := (some .int)) (by decide) rfl ?_
  intro p e s m args below meth c s₁ B hml hv
  obtain ⟨rfl, hP, hK, hN⟩ := hv
  have hx := B.exec
  have hb := B.bytes
  have hr := B.returns
  have hts := atoms_spec (ws := wsX5_firstCellToStore) B.pre
  have hown : s.vm.findClass RX5 = some m.cls := findClass_of_methodNamed B.named
  have hlocks := B.notSynchronized
  have iX5 : ∀ w ∈ wsX50, w ∈ wsX5_firstCellToStore := by decide +kernel
  have hP : va_P (dC, dI) vwCl [(rk, .inr (4, [.ref hd, .ref jm])), (hd, .inl (cI, 96, .inl (fun _ => 0)))] s.heap := hP
  have hK : va_K (dC, dI) vwCl [(cI, .int)] s := hK
  have hl := lv_entry ([.ref rk, .int 0]) (n := 6) (Nat.le_of_ble_eq_true rfl)
  rw [lg_entry_eq]
  generalize (lg_sl ([.ref rk, .int 0]) ++ List.replicate (6 - (lg_sl ([.ref rk, .int 0])).length) Slot.unset).toArray = ls at hl ⊢
  have hl : lv_has ls 6 [(0, .ref rk), (1, .int 0)] := hl
  refine lv_iconst (v := 0) hx hb dX5_firstCellToStore_0 (by decide) ?_
  refine lv_istore_n (lv' := [(2, .int 0), (0, .ref rk), (1, .int 0)]) hx hb dX5_firstCellToStore_1 rfl hl (by decide) rfl (fun ls hl => ?_)
  refine lv_iload_n hx hb dX5_firstCellToStore_2 rfl (lv_at hl 0 rfl) ?_
  refine lv_bipush (v := 6) hx hb dX5_firstCellToStore_3 (by decide) ?_
  refine lv_icmp_ge (tgt := 93) hx hb dX5_firstCellToStore_5 (by decide) (fun c => absurd c (by decide)) (fun _ => ?_)
  refine lv_iconst (v := 0) hx hb dX5_firstCellToStore_8 (by decide) ?_
  refine lv_istore_n (lv' := [(3, .int 0), (2, .int 0), (0, .ref rk), (1, .int 0)]) hx hb dX5_firstCellToStore_9 rfl hl (by decide) rfl (fun ls hl => ?_)
  refine lv_iload_n hx hb dX5_firstCellToStore_10 rfl (lv_at hl 0 rfl) ?_
  refine lv_iconst (v := 2) hx hb dX5_firstCellToStore_11 (by decide) ?_
  refine lv_icmp_ge (tgt := 87) hx hb dX5_firstCellToStore_12 (by decide) (fun c => absurd c (by decide)) (fun _ => ?_)
  refine lv_iload_n hx hb dX5_firstCellToStore_15 rfl (lv_at hl 3 rfl) ?_
  refine lv_bipush (v := 24) hx hb dX5_firstCellToStore_16 (by decide) ?_
  refine lv_imul hx hb dX5_firstCellToStore_18 ?_
  refine pt_topi 0 (by decide) ?_
  refine lv_iload_n hx hb dX5_firstCellToStore_19 rfl (lv_at hl 0 rfl) ?_
  refine lv_bipush (v := 12) hx hb dX5_firstCellToStore_20 (by decide) ?_
  refine lv_imul hx hb dX5_firstCellToStore_22 ?_
  refine pt_topi 0 (by decide) ?_
  refine lv_iadd hx hb dX5_firstCellToStore_23 ?_
  refine pt_topi 0 (by decide) ?_
  refine lv_iconst (v := 2) hx hb dX5_firstCellToStore_24 (by decide) ?_
  refine lv_iload_n hx hb dX5_firstCellToStore_25 rfl (lv_at hl 1 rfl) ?_
  refine lv_imul hx hb dX5_firstCellToStore_26 ?_
  refine pt_topi 0 (by decide) ?_
  refine lv_iadd hx hb dX5_firstCellToStore_27 ?_
  refine pt_topi 0 (by decide) ?_
  refine lv_istore (lv' := [(4, .int 0), (3, .int 0), (2, .int 0), (0, .ref rk), (1, .int 0)]) hx hb dX5_firstCellToStore_28 hl (by decide) rfl (fun ls hl => ?_)
  refine lv_iload hx hb dX5_firstCellToStore_30 (lv_at hl 0 rfl) ?_
  refine lv_iconst (v := 1) hx hb dX5_firstCellToStore_32 (by decide) ?_
  refine lv_iadd hx hb dX5_firstCellToStore_33 ?_
  refine pt_topi 1 (by decide) ?_
  refine lv_istore (lv' := [(5, .int 1), (4, .int 0), (3, .int 0), (2, .int 0), (0, .ref rk), (1, .int 0)]) hx hb dX5_firstCellToStore_34 hl (by decide) rfl (fun ls hl => ?_)
  refine lv_aload_n hx hb dX5_firstCellToStore_36 rfl (lv_at hl 4 rfl) ?_
  refine va_get (D := (dC, dI)) (ci := 4) (v := .ref hd) (C := RX5) (T := TX5) (N := 2) hx hb hts iX5 hown hK hP 0 rfl rfl 0 (by decide) (hts (.fieldLink RX5 9 "ParkTower$Rack" "held" "[I") (by decide +kernel)) (fun _ h9 => h9) rfl dX5_firstCellToStore_37 ?_
  refine lv_iload hx hb dX5_firstCellToStore_40 (lv_at hl 1 rfl) ?_
  refine va_iald hx hb hK hP 1 0 rfl rfl (vp_in_iff.mpr (by decide)) dX5_firstCellToStore_42 ?_
  refine pt_topi 0 rfl ?_
  refine lv_if_ne (tgt := 59) hx hb dX5_firstCellToStore_43 (by decide) (fun c => absurd (by decide) c) (fun _ => ?_)
  refine lv_aload_n hx hb dX5_firstCellToStore_46 rfl (lv_at hl 4 rfl) ?_
  refine va_get (D := (dC, dI)) (ci := 4) (v := .ref hd) (C := RX5) (T := TX5) (N := 2) hx hb hts iX5 hown hK hP 0 rfl rfl 0 (by decide) (hts (.fieldLink RX5 9 "ParkTower$Rack" "held" "[I") (by decide +kernel)) (fun _ h9 => h9) rfl dX5_firstCellToStore_47 ?_
  refine lv_iload hx hb dX5_firstCellToStore_50 (lv_at hl 0 rfl) ?_
  refine va_iald hx hb hK hP 1 0 rfl rfl (vp_in_iff.mpr (by decide)) dX5_firstCellToStore_52 ?_
  refine pt_topi 0 rfl ?_
  refine lv_if_ne (tgt := 59) hx hb dX5_firstCellToStore_53 (by decide) (fun c => absurd (by decide) c) (fun _ => ?_)
  refine lv_iload hx hb dX5_firstCellToStore_56 (lv_at hl 0 rfl) ?_
  exact W.iret (v := 1) hx hb hr (fun t ht hW => ⟨1, rfl, rfl, ht⟩) (fun q h => by cases h) dX5_firstCellToStore_58
set_option maxHeartbeats 4000000 in
set_option maxRecDepth 100000 in
theorem c_hasRoom1 (l : Launch) (dC : Nat → ClassId) (dI : Nat → Nat → Nat) (rk hd jm : Nat) (cI cZ : ClassId) : Met l yX5_hasRoom wsX5_hasRoom ({ frames := 1, cells := 0, slots := 0, locals := 24 }) (va_Pc [.ref rk, .int 1] (pt_B (dC, dI) [(rk, .inr (4, [.ref hd, .ref jm])), (hd, .inl (cI, 96, .inl (fun _ => 0))), (jm, .inl (cZ, 4, .inl (fun _ => 0)))] [(cI, .int), (cZ, .boolean)])) (vp_Si (fun r : Int32 => r = 1)) 0 0 (fun _ => False) := by
  refine Met.ofW (cc := cX5_hasRoom) (maxL := 2) (ret := (some .boolean)) (by decide) rfl ?_
  intro p e s m args below meth c s₁ B hml hv
  obtain ⟨rfl, hP, hK, hN⟩ := hv
  have hx := B.exec
  have hb := B.bytes
  have hr := B.returns
  have hts := atoms_spec (ws := wsX5_hasRoom) B.pre
  have hown : s.vm.findClass RX5 = some m.cls := findClass_of_methodNamed B.named
  have hlocks := B.notSynchronized
  have iX5 : ∀ w ∈ wsX50, w ∈ wsX5_hasRoom := by decide +kernel
  have hP : va_P (dC, dI) vwCl [(rk, .inr (4, [.ref hd, .ref jm])), (hd, .inl (cI, 96, .inl (fun _ => 0))), (jm, .inl (cZ, 4, .inl (fun _ => 0)))] s.heap := hP
  have hK : va_K (dC, dI) vwCl [(cI, .int), (cZ, .boolean)] s := hK
  have hl := lv_entry ([.ref rk, .int 1]) (n := 2) (Nat.le_of_ble_eq_true rfl)
  rw [lg_entry_eq]
  generalize (lg_sl ([.ref rk, .int 1]) ++ List.replicate (2 - (lg_sl ([.ref rk, .int 1])).length) Slot.unset).toArray = ls at hl ⊢
  have hl : lv_has ls 2 [(0, .ref rk), (1, .int 1)] := hl
  refine lv_aload_n hx hb dX5_hasRoom_0 rfl (lv_at hl 0 rfl) ?_
  refine va_get (D := (dC, dI)) (ci := 4) (v := .ref jm) (C := RX5) (T := TX5) (N := 2) hx hb hts iX5 hown hK hP 0 rfl rfl 1 (by decide) (hts (.fieldLink RX5 15 "ParkTower$Rack" "jammed" "[Z") (by decide +kernel)) (fun _ h9 => h9) rfl dX5_hasRoom_1 ?_
  refine lv_iload_n hx hb dX5_hasRoom_4 rfl (lv_at hl 1 rfl) ?_
  refine va_zald hx hb hK hP 2 1 rfl rfl (vp_in_iff.mpr (by decide)) dX5_hasRoom_5 ?_
  refine pt_topi 0 rfl ?_
  refine lv_if_ne (tgt := 22) hx hb dX5_hasRoom_6 (by decide) (fun c => absurd (by decide) c) (fun _ => ?_)
  refine lv_aload_n hx hb dX5_hasRoom_9 rfl (lv_at hl 0 rfl) ?_
  refine lv_iload_n hx hb dX5_hasRoom_10 rfl (lv_at hl 1 rfl) ?_
  refine pt_cSi (va_runV (As := [.int 1]) (rest := []) ⟨hx, hb, hml, hown, hts⟩ (c_countFree1 l dC dI rk hd jm cI) (cwV 1 hts gX5_hasRoom_X5_countFree rfl rfl rfl (by decide +kernel) ⟨Nat.le_of_ble_eq_true rfl, Nat.le_of_ble_eq_true rfl⟩) ⟨pt_blind, va_recv hK hP (ci := 4) (q0 := 0) rfl rfl, pt_pre (w := [(rk, .inr (4, [.ref hd, .ref jm])), (hd, .inl (cI, 96, .inl (fun _ => 0)))]) (tys := [(cI, .int)]) (hP.sub [0, 1] rfl) (hK.sub [0] rfl) hN⟩ rfl rfl hl.1 rfl (lv_room (Nat.le_of_ble_eq_true rfl)) dX5_hasRoom_11 ⟨Nat.le_of_ble_eq_true rfl, Nat.le_of_ble_eq_true rfl⟩) (fun r_1 hr_1 => ?_)
  obtain rfl : r_1 = 24 := hr_1
  refine lv_iconst (v := 2) hx hb dX5_hasRoom_14 (by decide) ?_
  refine lv_icmp_lt (tgt := 22) hx hb dX5_hasRoom_15 (by decide) (fun c => absurd c (by decide)) (fun _ => ?_)
  refine lv_iconst (v := 1) hx hb dX5_hasRoom_18 (by decide) ?_
  refine lv_goto (tgt := 23) hx hb dX5_hasRoom_19 (by decide) ?_
  exact W.zret (v := 1) (ty := .boolean) hx hb hr rfl (fun t ht hW => ⟨1, rfl, rfl, ht⟩) (fun q h => by cases h) dX5_hasRoom_23
set_option maxHeartbeats 4000000 in
set_option maxRecDepth 100000 in
theorem c_firstCell1 (l : Launch) (dC : Nat → ClassId) (dI : Nat → Nat → Nat) (rk hd jm : Nat) (cI : ClassId) : Met l yX5_firstCellToStore wsX5_firstCellToStore ({ frames := 0, cells := 0, slots := 0, locals := 0 }) (va_Pc [.ref rk, .int 1] (pt_B (dC, dI) [(rk, .inr (4, [.ref hd, .ref jm])), (hd, .inl (cI, 96, .inl (fun _ => 0)))] [(cI, .int)])) (vp_Si (fun r : Int32 => r = 25)) 0 0 (fun _ => False) := by
  refine Met.ofW (cc := cX5_firstCellToStore) (maxL := 6) (ret := (some .int)) (by decide) rfl ?_
  intro p e s m args below meth c s₁ B hml hv
  obtain ⟨rfl, hP, hK, hN⟩ := hv
  have hx := B.exec
  have hb := B.bytes
  have hr := B.returns
  have hts := atoms_spec (ws := wsX5_firstCellToStore) B.pre
  have hown : s.vm.findClass RX5 = some m.cls := findClass_of_methodNamed B.named
  have hlocks := B.notSynchronized
  have iX5 : ∀ w ∈ wsX50, w ∈ wsX5_firstCellToStore := by decide +kernel
  have hP : va_P (dC, dI) vwCl [(rk, .inr (4, [.ref hd, .ref jm])), (hd, .inl (cI, 96, .inl (fun _ => 0)))] s.heap := hP
  have hK : va_K (dC, dI) vwCl [(cI, .int)] s := hK
  have hl := lv_entry ([.ref rk, .int 1]) (n := 6) (Nat.le_of_ble_eq_true rfl)
  rw [lg_entry_eq]
  generalize (lg_sl ([.ref rk, .int 1]) ++ List.replicate (6 - (lg_sl ([.ref rk, .int 1])).length) Slot.unset).toArray = ls at hl ⊢
  have hl : lv_has ls 6 [(0, .ref rk), (1, .int 1)] := hl
  refine lv_iconst (v := 0) hx hb dX5_firstCellToStore_0 (by decide) ?_
  refine lv_istore_n (lv' := [(2, .int 0), (0, .ref rk), (1, .int 1)]) hx hb dX5_firstCellToStore_1 rfl hl (by decide) rfl (fun ls hl => ?_)
  refine lv_iload_n hx hb dX5_firstCellToStore_2 rfl (lv_at hl 0 rfl) ?_
  refine lv_bipush (v := 6) hx hb dX5_firstCellToStore_3 (by decide) ?_
  refine lv_icmp_ge (tgt := 93) hx hb dX5_firstCellToStore_5 (by decide) (fun c => absurd c (by decide)) (fun _ => ?_)
  refine lv_iconst (v := 0) hx hb dX5_firstCellToStore_8 (by decide) ?_
  refine lv_istore_n (lv' := [(3, .int 0), (2, .int 0), (0, .ref rk), (1, .int 1)]) hx hb dX5_firstCellToStore_9 rfl hl (by decide) rfl (fun ls hl => ?_)
  refine lv_iload_n hx hb dX5_firstCellToStore_10 rfl (lv_at hl 0 rfl) ?_
  refine lv_iconst (v := 2) hx hb dX5_firstCellToStore_11 (by decide) ?_
  refine lv_icmp_ge (tgt := 87) hx hb dX5_firstCellToStore_12 (by decide) (fun c => absurd c (by decide)) (fun _ => ?_)
  refine lv_iload_n hx hb dX5_firstCellToStore_15 rfl (lv_at hl 3 rfl) ?_
  refine lv_bipush (v := 24) hx hb dX5_firstCellToStore_16 (by decide) ?_
  refine lv_imul hx hb dX5_firstCellToStore_18 ?_
  refine pt_topi 24 (by decide) ?_
  refine lv_iload_n hx hb dX5_firstCellToStore_19 rfl (lv_at hl 0 rfl) ?_
  refine lv_bipush (v := 12) hx hb dX5_firstCellToStore_20 (by decide) ?_
  refine lv_imul hx hb dX5_firstCellToStore_22 ?_
  refine pt_topi 0 (by decide) ?_
  refine lv_iadd hx hb dX5_firstCellToStore_23 ?_
  refine pt_topi 24 (by decide) ?_
  refine lv_iconst (v := 2) hx hb dX5_firstCellToStore_24 (by decide) ?_
  refine lv_iload_n hx hb dX5_firstCellToStore_25 rfl (lv_at hl 1 rfl) ?_
  refine lv_imul hx hb dX5_firstCellToStore_26 ?_
  refine pt_topi 0 (by decide) ?_
  refine lv_iadd hx hb dX5_firstCellToStore_27 ?_
  refine pt_topi 24 (by decide) ?_
  refine lv_istore (lv' := [(4, .int 24), (3, .int 0), (2, .int 0), (0, .ref rk), (1, .int 1)]) hx hb dX5_firstCellToStore_28 hl (by decide) rfl (fun ls hl => ?_)
  refine lv_iload hx hb dX5_firstCellToStore_30 (lv_at hl 0 rfl) ?_
  refine lv_iconst (v := 1) hx hb dX5_firstCellToStore_32 (by decide) ?_
  refine lv_iadd hx hb dX5_firstCellToStore_33 ?_
  refine pt_topi 25 (by decide) ?_
  refine lv_istore (lv' := [(5, .int 25), (4, .int 24), (3, .int 0), (2, .int 0), (0, .ref rk), (1, .int 1)]) hx hb dX5_firstCellToStore_34 hl (by decide) rfl (fun ls hl => ?_)
  refine lv_aload_n hx hb dX5_firstCellToStore_36 rfl (lv_at hl 4 rfl) ?_
  refine va_get (D := (dC, dI)) (ci := 4) (v := .ref hd) (C := RX5) (T := TX5) (N := 2) hx hb hts iX5 hown hK hP 0 rfl rfl 0 (by decide) (hts (.fieldLink RX5 9 "ParkTower$Rack" "held" "[I") (by decide +kernel)) (fun _ h9 => h9) rfl dX5_firstCellToStore_37 ?_
  refine lv_iload hx hb dX5_firstCellToStore_40 (lv_at hl 1 rfl) ?_
  refine va_iald hx hb hK hP 1 0 rfl rfl (vp_in_iff.mpr (by decide)) dX5_firstCellToStore_42 ?_
  refine pt_topi 0 rfl ?_
  refine lv_if_ne (tgt := 59) hx hb dX5_firstCellToStore_43 (by decide) (fun c => absurd (by decide) c) (fun _ => ?_)
  refine lv_aload_n hx hb dX5_firstCellToStore_46 rfl (lv_at hl 4 rfl) ?_
  refine va_get (D := (dC, dI)) (ci := 4) (v := .ref hd) (C := RX5) (T := TX5) (N := 2) hx hb hts iX5 hown hK hP 0 rfl rfl 0 (by decide) (hts (.fieldLink RX5 9 "ParkTower$Rack" "held" "[I") (by decide +kernel)) (fun _ h9 => h9) rfl dX5_firstCellToStore_47 ?_
  refine lv_iload hx hb dX5_firstCellToStore_50 (lv_at hl 0 rfl) ?_
  refine va_iald hx hb hK hP 1 0 rfl rfl (vp_in_iff.mpr (by decide)) dX5_firstCellToStore_52 ?_
  refine pt_topi 0 rfl ?_
  refine lv_if_ne (tgt := 59) hx hb dX5_firstCellToStore_53 (by decide) (fun c => absurd (by decide) c) (fun _ => ?_)
  refine lv_iload hx hb dX5_firstCellToStore_56 (lv_at hl 0 rfl) ?_
  exact W.iret (v := 25) hx hb hr (fun t ht hW => ⟨25, rfl, rfl, ht⟩) (fun q h => by cases h) dX5_firstCellToStore_58
set_option maxHeartbeats 4000000 in
set_option maxRecDepth 100000 in
theorem c_hasRoom2 (l : Launch) (dC : Nat → ClassId) (dI : Nat → Nat → Nat) (rk hd jm : Nat) (cI cZ : ClassId) : Met l yX5_hasRoom wsX5_hasRoom ({ frames := 1, cells := 0, slots := 0, locals := 24 }) (va_Pc [.ref rk, .int 2] (pt_B (dC, dI) [(rk, .inr (4, [.ref hd, .ref jm])), (hd, .inl (cI, 96, .inl (fun _ => 0))), (jm, .inl (cZ, 4, .inl (fun _ => 0)))] [(cI, .int), (cZ, .boolean)])) (vp_Si (fun r : Int32 => r = 1)) 0 0 (fun _ => False) := by
  refine Met.ofW (cc := cX5_hasRoom) (maxL := 2) (ret := (some .boolean)) (by decide) rfl ?_
  intro p e s m args below meth c s₁ B hml hv
  obtain ⟨rfl, hP, hK, hN⟩ := hv
  have hx := B.exec
  have hb := B.bytes
  have hr := B.returns
  have hts := atoms_spec (ws := wsX5_hasRoom) B.pre
  have hown : s.vm.findClass RX5 = some m.cls := findClass_of_methodNamed B.named
  have hlocks := B.notSynchronized
  have iX5 : ∀ w ∈ wsX50, w ∈ wsX5_hasRoom := by decide +kernel
  have hP : va_P (dC, dI) vwCl [(rk, .inr (4, [.ref hd, .ref jm])), (hd, .inl (cI, 96, .inl (fun _ => 0))), (jm, .inl (cZ, 4, .inl (fun _ => 0)))] s.heap := hP
  have hK : va_K (dC, dI) vwCl [(cI, .int), (cZ, .boolean)] s := hK
  have hl := lv_entry ([.ref rk, .int 2]) (n := 2) (Nat.le_of_ble_eq_true rfl)
  rw [lg_entry_eq]
  generalize (lg_sl ([.ref rk, .int 2]) ++ List.replicate (2 - (lg_sl ([.ref rk, .int 2])).length) Slot.unset).toArray = ls at hl ⊢
  have hl : lv_has ls 2 [(0, .ref rk), (1, .int 2)] := hl
  refine lv_aload_n hx hb dX5_hasRoom_0 rfl (lv_at hl 0 rfl) ?_
  refine va_get (D := (dC, dI)) (ci := 4) (v := .ref jm) (C := RX5) (T := TX5) (N := 2) hx hb hts iX5 hown hK hP 0 rfl rfl 1 (by decide) (hts (.fieldLink RX5 15 "ParkTower$Rack" "jammed" "[Z") (by decide +kernel)) (fun _ h9 => h9) rfl dX5_hasRoom_1 ?_
  refine lv_iload_n hx hb dX5_hasRoom_4 rfl (lv_at hl 1 rfl) ?_
  refine va_zald hx hb hK hP 2 1 rfl rfl (vp_in_iff.mpr (by decide)) dX5_hasRoom_5 ?_
  refine pt_topi 0 rfl ?_
  refine lv_if_ne (tgt := 22) hx hb dX5_hasRoom_6 (by decide) (fun c => absurd (by decide) c) (fun _ => ?_)
  refine lv_aload_n hx hb dX5_hasRoom_9 rfl (lv_at hl 0 rfl) ?_
  refine lv_iload_n hx hb dX5_hasRoom_10 rfl (lv_at hl 1 rfl) ?_
  refine pt_cSi (va_runV (As := [.int 2]) (rest := []) ⟨hx, hb, hml, hown, hts⟩ (c_countFree2 l dC dI rk hd jm cI) (cwV 1 hts gX5_hasRoom_X5_countFree rfl rfl rfl (by decide +kernel) ⟨Nat.le_of_ble_eq_true rfl, Nat.le_of_ble_eq_true rfl⟩) ⟨pt_blind, va_recv hK hP (ci := 4) (q0 := 0) rfl rfl, pt_pre (w := [(rk, .inr (4, [.ref hd, .ref jm])), (hd, .inl (cI, 96, .inl (fun _ => 0)))]) (tys := [(cI, .int)]) (hP.sub [0, 1] rfl) (hK.sub [0] rfl) hN⟩ rfl rfl hl.1 rfl (lv_room (Nat.le_of_ble_eq_true rfl)) dX5_hasRoom_11 ⟨Nat.le_of_ble_eq_true rfl, Nat.le_of_ble_eq_true rfl⟩) (fun r_1 hr_1 => ?_)
  obtain rfl : r_1 = 24 := hr_1
  refine lv_iconst (v := 2) hx hb dX5_hasRoom_14 (by decide) ?_
  refine lv_icmp_lt (tgt := 22) hx hb dX5_hasRoom_15 (by decide) (fun c => absurd c (by decide)) (fun _ => ?_)
  refine lv_iconst (v := 1) hx hb dX5_hasRoom_18 (by decide) ?_
  refine lv_goto (tgt := 23) hx hb dX5_hasRoom_19 (by decide) ?_
  exact W.zret (v := 1) (ty := .boolean) hx hb hr rfl (fun t ht hW => ⟨1, rfl, rfl, ht⟩) (fun q h => by cases h) dX5_hasRoom_23
set_option maxHeartbeats 4000000 in
set_option maxRecDepth 100000 in
theorem c_firstCell2 (l : Launch) (dC : Nat → ClassId) (dI : Nat → Nat → Nat) (rk hd jm : Nat) (cI : ClassId) : Met l yX5_firstCellToStore wsX5_firstCellToStore ({ frames := 0, cells := 0, slots := 0, locals := 0 }) (va_Pc [.ref rk, .int 2] (pt_B (dC, dI) [(rk, .inr (4, [.ref hd, .ref jm])), (hd, .inl (cI, 96, .inl (fun _ => 0)))] [(cI, .int)])) (vp_Si (fun r : Int32 => r = 49)) 0 0 (fun _ => False) := by
  refine Met.ofW (cc := cX5_firstCellToStore) (maxL := 6) (ret := (some .int)) (by decide) rfl ?_
  intro p e s m args below meth c s₁ B hml hv
  obtain ⟨rfl, hP, hK, hN⟩ := hv
  have hx := B.exec
  have hb := B.bytes
  have hr := B.returns
  have hts := atoms_spec (ws := wsX5_firstCellToStore) B.pre
  have hown : s.vm.findClass RX5 = some m.cls := findClass_of_methodNamed B.named
  have hlocks := B.notSynchronized
  have iX5 : ∀ w ∈ wsX50, w ∈ wsX5_firstCellToStore := by decide +kernel
  have hP : va_P (dC, dI) vwCl [(rk, .inr (4, [.ref hd, .ref jm])), (hd, .inl (cI, 96, .inl (fun _ => 0)))] s.heap := hP
  have hK : va_K (dC, dI) vwCl [(cI, .int)] s := hK
  have hl := lv_entry ([.ref rk, .int 2]) (n := 6) (Nat.le_of_ble_eq_true rfl)
  rw [lg_entry_eq]
  generalize (lg_sl ([.ref rk, .int 2]) ++ List.replicate (6 - (lg_sl ([.ref rk, .int 2])).length) Slot.unset).toArray = ls at hl ⊢
  have hl : lv_has ls 6 [(0, .ref rk), (1, .int 2)] := hl
  refine lv_iconst (v := 0) hx hb dX5_firstCellToStore_0 (by decide) ?_
  refine lv_istore_n (lv' := [(2, .int 0), (0, .ref rk), (1, .int 2)]) hx hb dX5_firstCellToStore_1 rfl hl (by decide) rfl (fun ls hl => ?_)
  refine lv_iload_n hx hb dX5_firstCellToStore_2 rfl (lv_at hl 0 rfl) ?_
  refine lv_bipush (v := 6) hx hb dX5_firstCellToStore_3 (by decide) ?_
  refine lv_icmp_ge (tgt := 93) hx hb dX5_firstCellToStore_5 (by decide) (fun c => absurd c (by decide)) (fun _ => ?_)
  refine lv_iconst (v := 0) hx hb dX5_firstCellToStore_8 (by decide) ?_
  refine lv_istore_n (lv' := [(3, .int 0), (2, .int 0), (0, .ref rk), (1, .int 2)]) hx hb dX5_firstCellToStore_9 rfl hl (by decide) rfl (fun ls hl => ?_)
  refine lv_iload_n hx hb dX5_firstCellToStore_10 rfl (lv_at hl 0 rfl) ?_
  refine lv_iconst (v := 2) hx hb dX5_firstCellToStore_11 (by decide) ?_
  refine lv_icmp_ge (tgt := 87) hx hb dX5_firstCellToStore_12 (by decide) (fun c => absurd c (by decide)) (fun _ => ?_)
  refine lv_iload_n hx hb dX5_firstCellToStore_15 rfl (lv_at hl 3 rfl) ?_
  refine lv_bipush (v := 24) hx hb dX5_firstCellToStore_16 (by decide) ?_
  refine lv_imul hx hb dX5_firstCellToStore_18 ?_
  refine pt_topi 48 (by decide) ?_
  refine lv_iload_n hx hb dX5_firstCellToStore_19 rfl (lv_at hl 0 rfl) ?_
  refine lv_bipush (v := 12) hx hb dX5_firstCellToStore_20 (by decide) ?_
  refine lv_imul hx hb dX5_firstCellToStore_22 ?_
  refine pt_topi 0 (by decide) ?_
  refine lv_iadd hx hb dX5_firstCellToStore_23 ?_
  refine pt_topi 48 (by decide) ?_
  refine lv_iconst (v := 2) hx hb dX5_firstCellToStore_24 (by decide) ?_
  refine lv_iload_n hx hb dX5_firstCellToStore_25 rfl (lv_at hl 1 rfl) ?_
  refine lv_imul hx hb dX5_firstCellToStore_26 ?_
  refine pt_topi 0 (by decide) ?_
  refine lv_iadd hx hb dX5_firstCellToStore_27 ?_
  refine pt_topi 48 (by decide) ?_
  refine lv_istore (lv' := [(4, .int 48), (3, .int 0), (2, .int 0), (0, .ref rk), (1, .int 2)]) hx hb dX5_firstCellToStore_28 hl (by decide) rfl (fun ls hl => ?_)
  refine lv_iload hx hb dX5_firstCellToStore_30 (lv_at hl 0 rfl) ?_
  refine lv_iconst (v := 1) hx hb dX5_firstCellToStore_32 (by decide) ?_
  refine lv_iadd hx hb dX5_firstCellToStore_33 ?_
  refine pt_topi 49 (by decide) ?_
  refine lv_istore (lv' := [(5, .int 49), (4, .int 48), (3, .int 0), (2, .int 0), (0, .ref rk), (1, .int 2)]) hx hb dX5_firstCellToStore_34 hl (by decide) rfl (fun ls hl => ?_)
  refine lv_aload_n hx hb dX5_firstCellToStore_36 rfl (lv_at hl 4 rfl) ?_
  refine va_get (D := (dC, dI)) (ci := 4) (v := .ref hd) (C := RX5) (T := TX5) (N := 2) hx hb hts iX5 hown hK hP 0 rfl rfl 0 (by decide) (hts (.fieldLink RX5 9 "ParkTower$Rack" "held" "[I") (by decide +kernel)) (fun _ h9 => h9) rfl dX5_firstCellToStore_37 ?_
  refine lv_iload hx hb dX5_firstCellToStore_40 (lv_at hl 1 rfl) ?_
  refine va_iald hx hb hK hP 1 0 rfl rfl (vp_in_iff.mpr (by decide)) dX5_firstCellToStore_42 ?_
  refine pt_topi 0 rfl ?_
  refine lv_if_ne (tgt := 59) hx hb dX5_firstCellToStore_43 (by decide) (fun c => absurd (by decide) c) (fun _ => ?_)
  refine lv_aload_n hx hb dX5_firstCellToStore_46 rfl (lv_at hl 4 rfl) ?_
  refine va_get (D := (dC, dI)) (ci := 4) (v := .ref hd) (C := RX5) (T := TX5) (N := 2) hx hb hts iX5 hown hK hP 0 rfl rfl 0 (by decide) (hts (.fieldLink RX5 9 "ParkTower$Rack" "held" "[I") (by decide +kernel)) (fun _ h9 => h9) rfl dX5_firstCellToStore_47 ?_
  refine lv_iload hx hb dX5_firstCellToStore_50 (lv_at hl 0 rfl) ?_
  refine va_iald hx hb hK hP 1 0 rfl rfl (vp_in_iff.mpr (by decide)) dX5_firstCellToStore_52 ?_
  refine pt_topi 0 rfl ?_
  refine lv_if_ne (tgt := 59) hx hb dX5_firstCellToStore_53 (by decide) (fun c => absurd (by decide) c) (fun _ => ?_)
  refine lv_iload hx hb dX5_firstCellToStore_56 (lv_at hl 0 rfl) ?_
  exact W.iret (v := 49) hx hb hr (fun t ht hW => ⟨49, rfl, rfl, ht⟩) (fun q h => by cases h) dX5_firstCellToStore_58
set_option maxHeartbeats 4000000 in
set_option maxRecDepth 100000 in
theorem c_hasRoom3 (l : Launch) (dC : Nat → ClassId) (dI : Nat → Nat → Nat) (rk hd jm : Nat) (cI cZ : ClassId) : Met l yX5_hasRoom wsX5_hasRoom ({ frames := 1, cells := 0, slots := 0, locals := 24 }) (va_Pc [.ref rk, .int 3] (pt_B (dC, dI) [(rk, .inr (4, [.ref hd, .ref jm])), (hd, .inl (cI, 96, .inl (fun _ => 0))), (jm, .inl (cZ, 4, .inl (fun _ => 0)))] [(cI, .int), (cZ, .boolean)])) (vp_Si (fun r : Int32 => r = 1)) 0 0 (fun _ => False) := by
  refine Met.ofW (cc := cX5_hasRoom) (maxL := 2) (ret := (some .boolean)) (by decide) rfl ?_
  intro p e s m args below meth c s₁ B hml hv
  obtain ⟨rfl, hP, hK, hN⟩ := hv
  have hx := B.exec
  have hb := B.bytes
  have hr := B.returns
  have hts := atoms_spec (ws := wsX5_hasRoom) B.pre
  have hown : s.vm.findClass RX5 = some m.cls := findClass_of_methodNamed B.named
  have hlocks := B.notSynchronized
  have iX5 : ∀ w ∈ wsX50, w ∈ wsX5_hasRoom := by decide +kernel
  have hP : va_P (dC, dI) vwCl [(rk, .inr (4, [.ref hd, .ref jm])), (hd, .inl (cI, 96, .inl (fun _ => 0))), (jm, .inl (cZ, 4, .inl (fun _ => 0)))] s.heap := hP
  have hK : va_K (dC, dI) vwCl [(cI, .int), (cZ, .boolean)] s := hK
  have hl := lv_entry ([.ref rk, .int 3]) (n := 2) (Nat.le_of_ble_eq_true rfl)
  rw [lg_entry_eq]
  generalize (lg_sl ([.ref rk, .int 3]) ++ List.replicate (2 - (lg_sl ([.ref rk, .int 3])).length) Slot.unset).toArray = ls at hl ⊢
  have hl : lv_has ls 2 [(0, .ref rk), (1, .int 3)] := hl
  refine lv_aload_n hx hb dX5_hasRoom_0 rfl (lv_at hl 0 rfl) ?_
  refine va_get (D := (dC, dI)) (ci := 4) (v := .ref jm) (C := RX5) (T := TX5) (N := 2) hx hb hts iX5 hown hK hP 0 rfl rfl 1 (by decide) (hts (.fieldLink RX5 15 "ParkTower$Rack" "jammed" "[Z") (by decide +kernel)) (fun _ h9 => h9) rfl dX5_hasRoom_1 ?_
  refine lv_iload_n hx hb dX5_hasRoom_4 rfl (lv_at hl 1 rfl) ?_
  refine va_zald hx hb hK hP 2 1 rfl rfl (vp_in_iff.mpr (by decide)) dX5_hasRoom_5 ?_
  refine pt_topi 0 rfl ?_
  refine lv_if_ne (tgt := 22) hx hb dX5_hasRoom_6 (by decide) (fun c => absurd (by decide) c) (fun _ => ?_)
  refine lv_aload_n hx hb dX5_hasRoom_9 rfl (lv_at hl 0 rfl) ?_
  refine lv_iload_n hx hb dX5_hasRoom_10 rfl (lv_at hl 1 rfl) ?_
  refine pt_cSi (va_runV (As := [.int 3]) (rest := []) ⟨hx, hb, hml, hown, hts⟩ (c_countFree3 l dC dI rk hd jm cI) (cwV 1 hts gX5_hasRoom_X5_countFree rfl rfl rfl (by decide +kernel) ⟨Nat.le_of_ble_eq_true rfl, Nat.le_of_ble_eq_true rfl⟩) ⟨pt_blind, va_recv hK hP (ci := 4) (q0 := 0) rfl rfl, pt_pre (w := [(rk, .inr (4, [.ref hd, .ref jm])), (hd, .inl (cI, 96, .inl (fun _ => 0)))]) (tys := [(cI, .int)]) (hP.sub [0, 1] rfl) (hK.sub [0] rfl) hN⟩ rfl rfl hl.1 rfl (lv_room (Nat.le_of_ble_eq_true rfl)) dX5_hasRoom_11 ⟨Nat.le_of_ble_eq_true rfl, Nat.le_of_ble_eq_true rfl⟩) (fun r_1 hr_1 => ?_)
  obtain rfl : r_1 = 24 := hr_1
  refine lv_iconst (v := 2) hx hb dX5_hasRoom_14 (by decide) ?_
  refine lv_icmp_lt (tgt := 22) hx hb dX5_hasRoom_15 (by decide) (fun c => absurd c (by decide)) (fun _ => ?_)
  refine lv_iconst (v := 1) hx hb dX5_hasRoom_18 (by decide) ?_
  refine lv_goto (tgt := 23) hx hb dX5_hasRoom_19 (by decide) ?_
  exact W.zret (v := 1) (ty := .boolean) hx hb hr rfl (fun t ht hW => ⟨1, rfl, rfl, ht⟩) (fun q h => by cases h) dX5_hasRoom_23
set_option maxHeartbeats 4000000 in
set_option maxRecDepth 100000 in
theorem c_firstCell3 (l : Launch) (dC : Nat → ClassId) (dI : Nat → Nat → Nat) (rk hd jm : Nat) (cI : ClassId) : Met l yX5_firstCellToStore wsX5_firstCellToStore ({ frames := 0, cells := 0, slots := 0, locals := 0 }) (va_Pc [.ref rk, .int 3] (pt_B (dC, dI) [(rk, .inr (4, [.ref hd, .ref jm])), (hd, .inl (cI, 96, .inl (fun _ => 0)))] [(cI, .int)])) (vp_Si (fun r : Int32 => r = 73)) 0 0 (fun _ => False) := by
  refine Met.ofW (cc := cX5_firstCellToStore) (maxL := 6) (ret := (some .int)) (by decide) rfl ?_
  intro p e s m args below meth c s₁ B hml hv
  obtain ⟨rfl, hP, hK, hN⟩ := hv
  have hx := B.exec
  have hb := B.bytes
  have hr := B.returns
  have hts := atoms_spec (ws := wsX5_firstCellToStore) B.pre
  have hown : s.vm.findClass RX5 = some m.cls := findClass_of_methodNamed B.named
  have hlocks := B.notSynchronized
  have iX5 : ∀ w ∈ wsX50, w ∈ wsX5_firstCellToStore := by decide +kernel
  have hP : va_P (dC, dI) vwCl [(rk, .inr (4, [.ref hd, .ref jm])), (hd, .inl (cI, 96, .inl (fun _ => 0)))] s.heap := hP
  have hK : va_K (dC, dI) vwCl [(cI, .int)] s := hK
  have hl := lv_entry ([.ref rk, .int 3]) (n := 6) (Nat.le_of_ble_eq_true rfl)
  rw [lg_entry_eq]
  generalize (lg_sl ([.ref rk, .int 3]) ++ List.replicate (6 - (lg_sl ([.ref rk, .int 3])).length) Slot.unset).toArray = ls at hl ⊢
  have hl : lv_has ls 6 [(0, .ref rk), (1, .int 3)] := hl
  refine lv_iconst (v := 0) hx hb dX5_firstCellToStore_0 (by decide) ?_
  refine lv_istore_n (lv' := [(2, .int 0), (0, .ref rk), (1, .int 3)]) hx hb dX5_firstCellToStore_1 rfl hl (by decide) rfl (fun ls hl => ?_)
  refine lv_iload_n hx hb dX5_firstCellToStore_2 rfl (lv_at hl 0 rfl) ?_
  refine lv_bipush (v := 6) hx hb dX5_firstCellToStore_3 (by decide) ?_
  refine lv_icmp_ge (tgt := 93) hx hb dX5_firstCellToStore_5 (by decide) (fun c => absurd c (by decide)) (fun _ => ?_)
  refine lv_iconst (v := 0) hx hb dX5_firstCellToStore_8 (by decide) ?_
  refine lv_istore_n (lv' := [(3, .int 0), (2, .int 0), (0, .ref rk), (1, .int 3)]) hx hb dX5_firstCellToStore_9 rfl hl (by decide) rfl (fun ls hl => ?_)
  refine lv_iload_n hx hb dX5_firstCellToStore_10 rfl (lv_at hl 0 rfl) ?_
  refine lv_iconst (v := 2) hx hb dX5_firstCellToStore_11 (by decide) ?_
  refine lv_icmp_ge (tgt := 87) hx hb dX5_firstCellToStore_12 (by decide) (fun c => absurd c (by decide)) (fun _ => ?_)
  refine lv_iload_n hx hb dX5_firstCellToStore_15 rfl (lv_at hl 3 rfl) ?_
  refine lv_bipush (v := 24) hx hb dX5_firstCellToStore_16 (by decide) ?_
  refine lv_imul hx hb dX5_firstCellToStore_18 ?_
  refine pt_topi 72 (by decide) ?_
  refine lv_iload_n hx hb dX5_firstCellToStore_19 rfl (lv_at hl 0 rfl) ?_
  refine lv_bipush (v := 12) hx hb dX5_firstCellToStore_20 (by decide) ?_
  refine lv_imul hx hb dX5_firstCellToStore_22 ?_
  refine pt_topi 0 (by decide) ?_
  refine lv_iadd hx hb dX5_firstCellToStore_23 ?_
  refine pt_topi 72 (by decide) ?_
  refine lv_iconst (v := 2) hx hb dX5_firstCellToStore_24 (by decide) ?_
  refine lv_iload_n hx hb dX5_firstCellToStore_25 rfl (lv_at hl 1 rfl) ?_
  refine lv_imul hx hb dX5_firstCellToStore_26 ?_
  refine pt_topi 0 (by decide) ?_
  refine lv_iadd hx hb dX5_firstCellToStore_27 ?_
  refine pt_topi 72 (by decide) ?_
  refine lv_istore (lv' := [(4, .int 72), (3, .int 0), (2, .int 0), (0, .ref rk), (1, .int 3)]) hx hb dX5_firstCellToStore_28 hl (by decide) rfl (fun ls hl => ?_)
  refine lv_iload hx hb dX5_firstCellToStore_30 (lv_at hl 0 rfl) ?_
  refine lv_iconst (v := 1) hx hb dX5_firstCellToStore_32 (by decide) ?_
  refine lv_iadd hx hb dX5_firstCellToStore_33 ?_
  refine pt_topi 73 (by decide) ?_
  refine lv_istore (lv' := [(5, .int 73), (4, .int 72), (3, .int 0), (2, .int 0), (0, .ref rk), (1, .int 3)]) hx hb dX5_firstCellToStore_34 hl (by decide) rfl (fun ls hl => ?_)
  refine lv_aload_n hx hb dX5_firstCellToStore_36 rfl (lv_at hl 4 rfl) ?_
  refine va_get (D := (dC, dI)) (ci := 4) (v := .ref hd) (C := RX5) (T := TX5) (N := 2) hx hb hts iX5 hown hK hP 0 rfl rfl 0 (by decide) (hts (.fieldLink RX5 9 "ParkTower$Rack" "held" "[I") (by decide +kernel)) (fun _ h9 => h9) rfl dX5_firstCellToStore_37 ?_
  refine lv_iload hx hb dX5_firstCellToStore_40 (lv_at hl 1 rfl) ?_
  refine va_iald hx hb hK hP 1 0 rfl rfl (vp_in_iff.mpr (by decide)) dX5_firstCellToStore_42 ?_
  refine pt_topi 0 rfl ?_
  refine lv_if_ne (tgt := 59) hx hb dX5_firstCellToStore_43 (by decide) (fun c => absurd (by decide) c) (fun _ => ?_)
  refine lv_aload_n hx hb dX5_firstCellToStore_46 rfl (lv_at hl 4 rfl) ?_
  refine va_get (D := (dC, dI)) (ci := 4) (v := .ref hd) (C := RX5) (T := TX5) (N := 2) hx hb hts iX5 hown hK hP 0 rfl rfl 0 (by decide) (hts (.fieldLink RX5 9 "ParkTower$Rack" "held" "[I") (by decide +kernel)) (fun _ h9 => h9) rfl dX5_firstCellToStore_47 ?_
  refine lv_iload hx hb dX5_firstCellToStore_50 (lv_at hl 0 rfl) ?_
  refine va_iald hx hb hK hP 1 0 rfl rfl (vp_in_iff.mpr (by decide)) dX5_firstCellToStore_52 ?_
  refine pt_topi 0 rfl ?_
  refine lv_if_ne (tgt := 59) hx hb dX5_firstCellToStore_53 (by decide) (fun c => absurd (by decide) c) (fun _ => ?_)
  refine lv_iload hx hb dX5_firstCellToStore_56 (lv_at hl 0 rfl) ?_
  exact W.iret (v := 73) hx hb hr (fun t ht hW => ⟨73, rfl, rfl, ht⟩) (fun q h => by cases h) dX5_firstCellToStore_58
