set_option maxHeartbeats 4000000 in
set_option maxRecDepth 100000 in
theorem s_levelOf (l : Launch) (dC : Nat → ClassId) (dI : Nat → Nat → Nat) (k : Nat) (hk : k < 96) : Met l yX7_levelOf wsX7_levelOf ({ frames := 0, cells := 0, slots := 0, locals := 0 }) (va_Pc [.int (nI k)] (pt_B (dC, dI) [] [])) (vp_Si (fun r : Int32 => r = nI (k / 24))) 0 0 (fun _ => False) := by
  refine Met.ofW (cc := cX7_levelOf) (maxL := 1) (ret := (some .int)) (by decide) rfl ?_
  intro p e s m args below meth c s₁ B hml hv
  obtain ⟨rfl, hP, hK, hN⟩ := hv
  have hx := B.exec
  have hb := B.bytes
  have hr := B.returns
  have hts := atoms_spec (ws := wsX7_levelOf) B.pre
  have hown : s.vm.findClass RX7 = some m.cls := findClass_of_methodNamed B.named
  have hlocks := B.notSynchronized
  have hP : va_P (dC, dI) vwCl [] s.heap := hP
  have hK : va_K (dC, dI) vwCl [] s := hK
  have hl := lv_entry ([.int (nI k)]) (n := 1) (Nat.le_of_ble_eq_true rfl)
  rw [lg_entry_eq]
  generalize (lg_sl ([.int (nI k)]) ++ List.replicate (1 - (lg_sl ([.int (nI k)])).length) Slot.unset).toArray = ls at hl ⊢
  have hl : lv_has ls 1 [(0, .int (nI k))] := hl
  refine lv_iload_n hx hb dX7_levelOf_0 rfl (lv_at hl 0 rfl) ?_
  refine lv_bipush (v := 24) hx hb dX7_levelOf_1 (by decide) ?_
  refine lv_idiv hx hb dX7_levelOf_3 (by decide) ?_
  refine pt_topi (nI (k / 24)) (pk_div (a := k) (d := 24) (by omega) (by omega) (by omega)) ?_
  exact W.iret (v := nI (k / 24)) hx hb hr (fun t ht hW => ⟨nI (k / 24), rfl, rfl, ht⟩) (fun q h => by cases h) dX7_levelOf_4
set_option maxHeartbeats 4000000 in
set_option maxRecDepth 100000 in
theorem s_shuttle (l : Launch) (dC : Nat → ClassId) (dI : Nat → Nat → Nat) (k : Nat) (hk : k < 96) : Met l yX7_shuttleTicks wsX7_shuttleTicks ({ frames := 0, cells := 0, slots := 0, locals := 0 }) (va_Pc [.int (nI k)] (pt_B (dC, dI) [] [])) (vp_Si (fun r : Int32 => True)) 0 0 (fun _ => False) := by
  refine Met.ofW (cc := cX7_shuttleTicks) (maxL := 3) (ret := (some .int)) (by decide) rfl ?_
  intro p e s m args below meth c s₁ B hml hv
  obtain ⟨rfl, hP, hK, hN⟩ := hv
  have hx := B.exec
  have hb := B.bytes
  have hr := B.returns
  have hts := atoms_spec (ws := wsX7_shuttleTicks) B.pre
  have hown : s.vm.findClass RX7 = some m.cls := findClass_of_methodNamed B.named
  have hlocks := B.notSynchronized
  have hP : va_P (dC, dI) vwCl [] s.heap := hP
  have hK : va_K (dC, dI) vwCl [] s := hK
  have hl := lv_entry ([.int (nI k)]) (n := 3) (Nat.le_of_ble_eq_true rfl)
  rw [lg_entry_eq]
  generalize (lg_sl ([.int (nI k)]) ++ List.replicate (3 - (lg_sl ([.int (nI k)])).length) Slot.unset).toArray = ls at hl ⊢
  have hl : lv_has ls 3 [(0, .int (nI k))] := hl
  refine lv_iload_n hx hb dX7_shuttleTicks_0 rfl (lv_at hl 0 rfl) ?_
  refine lv_bipush (v := 12) hx hb dX7_shuttleTicks_1 (by decide) ?_
  refine lv_irem hx hb dX7_shuttleTicks_3 (by decide) ?_
  refine pt_topi (nI (k % 12)) (pk_rem (a := k) (d := 12) (by omega) (by omega) (by omega)) ?_
  refine lv_iconst (v := 2) hx hb dX7_shuttleTicks_4 (by decide) ?_
  refine lv_idiv hx hb dX7_shuttleTicks_5 (by decide) ?_
  refine pt_topi (nI ((k % 12) / 2)) (pk_div (a := k % 12) (d := 2) (by omega) (by omega) (by omega)) ?_
  refine lv_istore_n (lv' := [(1, .int (nI ((k % 12) / 2))), (0, .int (nI k))]) hx hb dX7_shuttleTicks_6 rfl hl (by decide) rfl (fun ls hl => ?_)
  refine lv_iload_n hx hb dX7_shuttleTicks_7 rfl (lv_at hl 1 rfl) ?_
  refine lv_iconst (v := 2) hx hb dX7_shuttleTicks_8 (by decide) ?_
  refine lv_irem hx hb dX7_shuttleTicks_9 (by decide) ?_
  refine pt_topi (nI (k % 2)) (pk_rem (a := k) (d := 2) (by omega) (by omega) (by omega)) ?_
  refine lv_istore_n (lv' := [(2, .int (nI (k % 2))), (1, .int (nI ((k % 12) / 2))), (0, .int (nI k))]) hx hb dX7_shuttleTicks_10 rfl hl (by decide) rfl (fun ls hl => ?_)
  refine lv_iconst (v := 2) hx hb dX7_shuttleTicks_11 (by decide) ?_
  refine lv_iload_n hx hb dX7_shuttleTicks_12 rfl (lv_at hl 1 rfl) ?_
  refine lv_iconst (v := 1) hx hb dX7_shuttleTicks_13 (by decide) ?_
  refine lv_iadd hx hb dX7_shuttleTicks_14 ?_
  refine pt_topi (nI ((k % 12) / 2 + 1)) (nI_add ((k % 12) / 2) 1) ?_
  refine lv_imul hx hb dX7_shuttleTicks_15 ?_
  refine pt_topi (nI (2 * ((k % 12) / 2 + 1))) (pk_mul 2 ((k % 12) / 2 + 1)) ?_
  refine lv_iconst (v := 2) hx hb dX7_shuttleTicks_16 (by decide) ?_
  refine lv_iadd hx hb dX7_shuttleTicks_17 ?_
  refine pt_topi (nI (2 * ((k % 12) / 2 + 1) + 2)) (nI_add (2 * ((k % 12) / 2 + 1)) 2) ?_
  refine lv_iload_n hx hb dX7_shuttleTicks_18 rfl (lv_at hl 0 rfl) ?_
  refine lv_iadd hx hb dX7_shuttleTicks_19 ?_
  refine pt_topi (nI (2 * ((k % 12) / 2 + 1) + 2 + (k % 2))) (nI_add (2 * ((k % 12) / 2 + 1) + 2) (k % 2)) ?_
  exact W.iret (v := nI (2 * ((k % 12) / 2 + 1) + 2 + (k % 2))) hx hb hr (fun t ht hW => ⟨nI (2 * ((k % 12) / 2 + 1) + 2 + (k % 2)), rfl, trivial, ht⟩) (fun q h => by cases h) dX7_shuttleTicks_20
set_option maxHeartbeats 4000000 in
set_option maxRecDepth 100000 in
theorem s_checkDigit (l : Launch) (dC : Nat → ClassId) (dI : Nat → Nat → Nat) (x : Int32) : Met l yX7_checkDigit wsX7_checkDigit ({ frames := 0, cells := 0, slots := 0, locals := 0 }) (va_Pc [.int x] (pt_B (dC, dI) [] [])) (vp_Si (fun r : Int32 => True)) 0 0 (fun _ => False) := by
  refine Met.ofW (cc := cX7_checkDigit) (maxL := 2) (ret := (some .int)) (by decide) rfl ?_
  intro p e s m args below meth c s₁ B hml hv
  obtain ⟨rfl, hP, hK, hN⟩ := hv
  have hx := B.exec
  have hb := B.bytes
  have hr := B.returns
  have hts := atoms_spec (ws := wsX7_checkDigit) B.pre
  have hown : s.vm.findClass RX7 = some m.cls := findClass_of_methodNamed B.named
  have hlocks := B.notSynchronized
  have hP : va_P (dC, dI) vwCl [] s.heap := hP
  have hK : va_K (dC, dI) vwCl [] s := hK
  have hl := lv_entry ([.int x]) (n := 2) (Nat.le_of_ble_eq_true rfl)
  rw [lg_entry_eq]
  generalize (lg_sl ([.int x]) ++ List.replicate (2 - (lg_sl ([.int x])).length) Slot.unset).toArray = ls at hl ⊢
  have hl : lv_has ls 2 [(0, .int x)] := hl
  refine lv_iconst (v := 5) hx hb dX7_checkDigit_0 (by decide) ?_
  refine lv_iload_n hx hb dX7_checkDigit_1 rfl (lv_at hl 0 rfl) ?_
  refine lv_sipush (v := 1000) hx hb dX7_checkDigit_2 (by decide) ?_
  refine lv_idiv hx hb dX7_checkDigit_5 (by decide) ?_
  refine lv_topi (fun z_1 ez_1 => ?_)
  refine lv_imul hx hb dX7_checkDigit_6 ?_
  refine lv_topi (fun z_2 ez_2 => ?_)
  refine lv_iconst (v := 4) hx hb dX7_checkDigit_7 (by decide) ?_
  refine lv_iload_n hx hb dX7_checkDigit_8 rfl (lv_at hl 0 rfl) ?_
  refine lv_bipush (v := 100) hx hb dX7_checkDigit_9 (by decide) ?_
  refine lv_idiv hx hb dX7_checkDigit_11 (by decide) ?_
  refine lv_topi (fun z_3 ez_3 => ?_)
  refine lv_bipush (v := 10) hx hb dX7_checkDigit_12 (by decide) ?_
  refine lv_irem hx hb dX7_checkDigit_14 (by decide) ?_
  refine lv_topi (fun z_4 ez_4 => ?_)
  refine lv_imul hx hb dX7_checkDigit_15 ?_
  refine lv_topi (fun z_5 ez_5 => ?_)
  refine lv_iadd hx hb dX7_checkDigit_16 ?_
  refine lv_topi (fun z_6 ez_6 => ?_)
  refine lv_iconst (v := 3) hx hb dX7_checkDigit_17 (by decide) ?_
  refine lv_iload_n hx hb dX7_checkDigit_18 rfl (lv_at hl 0 rfl) ?_
  refine lv_bipush (v := 10) hx hb dX7_checkDigit_19 (by decide) ?_
  refine lv_idiv hx hb dX7_checkDigit_21 (by decide) ?_
  refine lv_topi (fun z_7 ez_7 => ?_)
  refine lv_bipush (v := 10) hx hb dX7_checkDigit_22 (by decide) ?_
  refine lv_irem hx hb dX7_checkDigit_24 (by decide) ?_
  refine lv_topi (fun z_8 ez_8 => ?_)
  refine lv_imul hx hb dX7_checkDigit_25 ?_
  refine lv_topi (fun z_9 ez_9 => ?_)
  refine lv_iadd hx hb dX7_checkDigit_26 ?_
  refine lv_topi (fun z_10 ez_10 => ?_)
  refine lv_iconst (v := 2) hx hb dX7_checkDigit_27 (by decide) ?_
  refine lv_iload_n hx hb dX7_checkDigit_28 rfl (lv_at hl 0 rfl) ?_
  refine lv_bipush (v := 10) hx hb dX7_checkDigit_29 (by decide) ?_
  refine lv_irem hx hb dX7_checkDigit_31 (by decide) ?_
  refine lv_topi (fun z_11 ez_11 => ?_)
  refine lv_imul hx hb dX7_checkDigit_32 ?_
  refine lv_topi (fun z_12 ez_12 => ?_)
  refine lv_iadd hx hb dX7_checkDigit_33 ?_
  refine lv_topi (fun z_13 ez_13 => ?_)
  refine lv_istore_n (lv' := [(1, .int z_13), (0, .int x)]) hx hb dX7_checkDigit_34 rfl hl (by decide) rfl (fun ls hl => ?_)
  refine lv_bipush (v := 11) hx hb dX7_checkDigit_35 (by decide) ?_
  refine lv_iload_n hx hb dX7_checkDigit_37 rfl (lv_at hl 0 rfl) ?_
  refine lv_bipush (v := 11) hx hb dX7_checkDigit_38 (by decide) ?_
  refine lv_irem hx hb dX7_checkDigit_40 (by decide) ?_
  refine lv_topi (fun z_14 ez_14 => ?_)
  refine lv_isub hx hb dX7_checkDigit_41 ?_
  refine lv_topi (fun z_15 ez_15 => ?_)
  refine lv_bipush (v := 11) hx hb dX7_checkDigit_42 (by decide) ?_
  refine lv_irem hx hb dX7_checkDigit_44 (by decide) ?_
  refine lv_topi (fun z_16 ez_16 => ?_)
  exact W.iret (v := z_16) hx hb hr (fun t ht hW => ⟨z_16, rfl, trivial, ht⟩) (fun q h => by cases h) dX7_checkDigit_45
set_option maxHeartbeats 4000000 in
set_option maxRecDepth 100000 in
theorem s_ticketOf (l : Launch) (dC : Nat → ClassId) (dI : Nat → Nat → Nat) (x : Int32) : Met l yX7_ticketOf wsX7_ticketOf ({ frames := 1, cells := 0, slots := 0, locals := 21 }) (va_Pc [.int x] (pt_B (dC, dI) [] [])) (vp_Si (fun r : Int32 => True)) 0 0 (fun _ => False) := by
  refine Met.ofW (cc := cX7_ticketOf) (maxL := 1) (ret := (some .int)) (by decide) rfl ?_
  intro p e s m args below meth c s₁ B hml hv
  obtain ⟨rfl, hP, hK, hN⟩ := hv
  have hx := B.exec
  have hb := B.bytes
  have hr := B.returns
  have hts := atoms_spec (ws := wsX7_ticketOf) B.pre
  have hown : s.vm.findClass RX7 = some m.cls := findClass_of_methodNamed B.named
  have hlocks := B.notSynchronized
  have hP : va_P (dC, dI) vwCl [] s.heap := hP
  have hK : va_K (dC, dI) vwCl [] s := hK
  have hl := lv_entry ([.int x]) (n := 1) (Nat.le_of_ble_eq_true rfl)
  rw [lg_entry_eq]
  generalize (lg_sl ([.int x]) ++ List.replicate (1 - (lg_sl ([.int x])).length) Slot.unset).toArray = ls at hl ⊢
  have hl : lv_has ls 1 [(0, .int x)] := hl
  refine lv_bipush (v := 10) hx hb dX7_ticketOf_0 (by decide) ?_
  refine lv_iload_n hx hb dX7_ticketOf_2 rfl (lv_at hl 0 rfl) ?_
  refine lv_imul hx hb dX7_ticketOf_3 ?_
  refine lv_topi (fun z_1 ez_1 => ?_)
  refine lv_iload_n hx hb dX7_ticketOf_4 rfl (lv_at hl 0 rfl) ?_
  refine pt_cSi (va_runS (As := [.int x]) (rest := [.int z_1]) ⟨hx, hb, hml, hown, hts⟩ (s_checkDigit l dC dI x) (cwS 1 hts gX7_ticketOf_X7_checkDigit rfl rfl rfl (by decide +kernel) ⟨Nat.le_of_ble_eq_true rfl, Nat.le_of_ble_eq_true rfl⟩) ⟨pt_blind, pt_pre (w := []) (tys := []) (hP.sub [] rfl) (hK.sub [] rfl) hN⟩ rfl rfl hl.1 rfl (lv_room (Nat.le_of_ble_eq_true rfl)) dX7_ticketOf_5 ⟨Nat.le_of_ble_eq_true rfl, Nat.le_of_ble_eq_true rfl⟩) (fun r_2 hr_2 => ?_)
  refine lv_iadd hx hb dX7_ticketOf_8 ?_
  refine lv_topi (fun z_3 ez_3 => ?_)
  exact W.iret (v := z_3) hx hb hr (fun t ht hW => ⟨z_3, rfl, trivial, ht⟩) (fun q h => by cases h) dX7_ticketOf_9
set_option maxHeartbeats 4000000 in
set_option maxRecDepth 100000 in
theorem s_serialAfter (l : Launch) (dC : Nat → ClassId) (dI : Nat → Nat → Nat) (sr : Nat) (hq : sr ≤ 9999) : Met l yX7_serialAfter wsX7_serialAfter ({ frames := 1, cells := 0, slots := 0, locals := 21 }) (va_Pc [.int (nI sr)] (pt_B (dC, dI) [] [])) (vp_Si (fun r : Int32 => r = (-1) ∨ ∃ j : Nat, j ≤ 9999 ∧ r = nI j)) 0 0 (fun _ => False) := by
  refine Met.ofW (cc := cX7_serialAfter) (maxL := 2) (ret := (some .int)) (by decide) rfl ?_
  intro p e s m args below meth c s₁ B hml hv
  obtain ⟨rfl, hP, hK, hN⟩ := hv
  have hx := B.exec
  have hb := B.bytes
  have hr := B.returns
  have hts := atoms_spec (ws := wsX7_serialAfter) B.pre
  have hown : s.vm.findClass RX7 = some m.cls := findClass_of_methodNamed B.named
  have hlocks := B.notSynchronized
  have hP : va_P (dC, dI) vwCl [] s.heap := hP
  have hK : va_K (dC, dI) vwCl [] s := hK
  have hl := lv_entry ([.int (nI sr)]) (n := 2) (Nat.le_of_ble_eq_true rfl)
  rw [lg_entry_eq]
  generalize (lg_sl ([.int (nI sr)]) ++ List.replicate (2 - (lg_sl ([.int (nI sr)])).length) Slot.unset).toArray = ls at hl ⊢
  have hl : lv_has ls 2 [(0, .int (nI sr))] := hl
  refine lv_iload_n hx hb dX7_serialAfter_0 rfl (lv_at hl 0 rfl) ?_
  refine lv_iconst (v := 1) hx hb dX7_serialAfter_1 (by decide) ?_
  refine lv_iadd hx hb dX7_serialAfter_2 ?_
  refine pt_topi (nI (sr + 1)) (nI_add sr 1) ?_
  refine lv_istore_n (lv' := [(1, .int (nI (sr + 1))), (0, .int (nI sr))]) hx hb dX7_serialAfter_3 rfl hl (by decide) rfl (fun ls hl => ?_)
  refine pt_loop (9999 - sr) (fun k ls => lv_has ls 2 [(1, .int (nI (sr + 1 + k))), (0, .int (nI sr))]) (fun ls hI => ?_) (fun k ls hk hI ih => ?_) (lv_sub hl [0, 1] rfl)
  · have hl := hI
    have hl : lv_has ls 2 [(1, .int (nI (sr + 1 + (9999 - sr)))), (0, .int (nI sr))] := hl
    refine lv_iload_n hx hb dX7_serialAfter_4 rfl (lv_at hl 0 rfl) ?_
    refine lv_sipush (v := 9999) hx hb dX7_serialAfter_5 (by decide) ?_
    refine lv_icmp_gt (tgt := 28) hx hb dX7_serialAfter_8 (by decide) (fun c_1 => ?_) (fun c_1 => ?_)
    · have c_1 : 9999 < sr + 1 + (9999 - sr) := (nI_ltI (a := 9999) (b := sr + 1 + (9999 - sr)) (by omega) (by omega)).mp c_1
      refine lv_iconst (v := (-1)) hx hb dX7_serialAfter_28 (by decide) ?_
      exact W.iret (v := (-1)) hx hb hr (fun t ht hW => ⟨(-1), rfl, Or.inl rfl, ht⟩) (fun q h => by cases h) dX7_serialAfter_29
    · have c_1 : ¬ (9999 < sr + 1 + (9999 - sr)) := fun q_ => c_1 ((nI_ltI (a := 9999) (b := sr + 1 + (9999 - sr)) (by omega) (by omega)).mpr q_)
      exact (by omega : False).elim
  · have hl := hI
    have hl : lv_has ls 2 [(1, .int (nI (sr + 1 + k))), (0, .int (nI sr))] := hl
    refine lv_iload_n hx hb dX7_serialAfter_4 rfl (lv_at hl 0 rfl) ?_
    refine lv_sipush (v := 9999) hx hb dX7_serialAfter_5 (by decide) ?_
    refine lv_icmp_gt (tgt := 28) hx hb dX7_serialAfter_8 (by decide) (fun c_2 => ?_) (fun c_2 => ?_)
    · have c_2 : 9999 < sr + 1 + k := (nI_ltI (a := 9999) (b := sr + 1 + k) (by omega) (by omega)).mp c_2
      refine lv_iconst (v := (-1)) hx hb dX7_serialAfter_28 (by decide) ?_
      exact W.iret (v := (-1)) hx hb hr (fun t ht hW => ⟨(-1), rfl, Or.inl rfl, ht⟩) (fun q h => by cases h) dX7_serialAfter_29
    · have c_2 : ¬ (9999 < sr + 1 + k) := fun q_ => c_2 ((nI_ltI (a := 9999) (b := sr + 1 + k) (by omega) (by omega)).mpr q_)
      refine lv_iload_n hx hb dX7_serialAfter_11 rfl (lv_at hl 0 rfl) ?_
      refine pt_cSi (va_runS (As := [.int (nI (sr + 1 + k))]) (rest := []) ⟨hx, hb, hml, hown, hts⟩ (s_checkDigit l dC dI (nI (sr + 1 + k))) (cwS 1 hts gX7_serialAfter_X7_checkDigit rfl rfl rfl (by decide +kernel) ⟨Nat.le_of_ble_eq_true rfl, Nat.le_of_ble_eq_true rfl⟩) ⟨pt_blind, pt_pre (w := []) (tys := []) (hP.sub [] rfl) (hK.sub [] rfl) hN⟩ rfl rfl hl.1 rfl (lv_room (Nat.le_of_ble_eq_true rfl)) dX7_serialAfter_12 ⟨Nat.le_of_ble_eq_true rfl, Nat.le_of_ble_eq_true rfl⟩) (fun r_3 hr_3 => ?_)
      refine lv_bipush (v := 10) hx hb dX7_serialAfter_15 (by decide) ?_
      refine lv_icmp_eq (tgt := 22) hx hb dX7_serialAfter_17 (by decide) (fun c_4 => ?_) (fun c_4 => ?_)
      · have c_4 : (r_3 = 10) := c_4
        refine lv_iinc (v := nI (sr + 1 + k + 1)) (lv' := [(1, .int (nI (sr + 1 + k + 1))), (0, .int (nI sr))]) hx hb dX7_serialAfter_22 hl (k := 0) rfl (nI_add (sr + 1 + k) 1) (by decide) rfl (fun ls hl => ?_)
        refine lv_goto (tgt := 4) hx hb dX7_serialAfter_25 (by decide) ?_
        exact ih ls (lv_sub hl [0, 1] rfl)
      · have c_4 : ¬ (r_3 = 10) := c_4
        refine lv_iload_n hx hb dX7_serialAfter_20 rfl (lv_at hl 0 rfl) ?_
        exact W.iret (v := nI (sr + 1 + k)) hx hb hr (fun t ht hW => ⟨nI (sr + 1 + k), rfl, Or.inr ⟨sr + 1 + k, by omega, rfl⟩, ht⟩) (fun q h => by cases h) dX7_serialAfter_21
set_option maxHeartbeats 4000000 in
set_option maxRecDepth 100000 in
theorem s_isBay (l : Launch) (dC : Nat → ClassId) (dI : Nat → Nat → Nat) (x : Int32) : Met l yX7_isBay wsX7_isBay ({ frames := 0, cells := 0, slots := 0, locals := 0 }) (va_Pc [.int x] (pt_B (dC, dI) [] [])) (vp_Si (fun r : Int32 => (r = 1 ∧ sB x) ∨ r = 0)) 0 0 (fun _ => False) := by
  refine Met.ofW (cc := cX7_isBay) (maxL := 1) (ret := (some .boolean)) (by decide) rfl ?_
  intro p e s m args below meth c s₁ B hml hv
  obtain ⟨rfl, hP, hK, hN⟩ := hv
  have hx := B.exec
  have hb := B.bytes
  have hr := B.returns
  have hts := atoms_spec (ws := wsX7_isBay) B.pre
  have hown : s.vm.findClass RX7 = some m.cls := findClass_of_methodNamed B.named
  have hlocks := B.notSynchronized
  have hP : va_P (dC, dI) vwCl [] s.heap := hP
  have hK : va_K (dC, dI) vwCl [] s := hK
  have hl := lv_entry ([.int x]) (n := 1) (Nat.le_of_ble_eq_true rfl)
  rw [lg_entry_eq]
  generalize (lg_sl ([.int x]) ++ List.replicate (1 - (lg_sl ([.int x])).length) Slot.unset).toArray = ls at hl ⊢
  have hl : lv_has ls 1 [(0, .int x)] := hl
  refine lv_iload_n hx hb dX7_isBay_0 rfl (lv_at hl 0 rfl) ?_
  refine lv_if_lt (tgt := 13) hx hb dX7_isBay_1 (by decide) (fun c_1 => ?_) (fun c_1 => ?_)
  · have c_1 : (x < 0) := c_1
    refine lv_iconst (v := 0) hx hb dX7_isBay_13 (by decide) ?_
    exact W.zret (v := 0) (ty := .boolean) hx hb hr rfl (fun t ht hW => ⟨0, rfl, Or.inr rfl, ht⟩) (fun q h => by cases h) dX7_isBay_14
  · have c_1 : ¬ (x < 0) := c_1
    refine lv_iload_n hx hb dX7_isBay_4 rfl (lv_at hl 0 rfl) ?_
    refine lv_iconst (v := 2) hx hb dX7_isBay_5 (by decide) ?_
    refine lv_icmp_ge (tgt := 13) hx hb dX7_isBay_6 (by decide) (fun c_2 => ?_) (fun c_2 => ?_)
    · have c_2 : (2 ≤ x) := c_2
      refine lv_iconst (v := 0) hx hb dX7_isBay_13 (by decide) ?_
      exact W.zret (v := 0) (ty := .boolean) hx hb hr rfl (fun t ht hW => ⟨0, rfl, Or.inr rfl, ht⟩) (fun q h => by cases h) dX7_isBay_14
    · have c_2 : ¬ (2 ≤ x) := c_2
      refine lv_iconst (v := 1) hx hb dX7_isBay_9 (by decide) ?_
      refine lv_goto (tgt := 14) hx hb dX7_isBay_10 (by decide) ?_
      exact W.zret (v := 1) (ty := .boolean) hx hb hr rfl (fun t ht hW => ⟨1, rfl, Or.inl ⟨rfl, pt_bay (Int32.not_lt.mp (by assumption)) (Int32.not_le.mp (by assumption))⟩, ht⟩) (fun q h => by cases h) dX7_isBay_14
set_option maxHeartbeats 4000000 in
set_option maxRecDepth 100000 in
theorem s_fits (l : Launch) (dC : Nat → ClassId) (dI : Nat → Nat → Nat) (k : Nat) (x y : Int32) (hk : k < 4) : Met l yX7_fitsLevel wsX7_fitsLevel ({ frames := 0, cells := 0, slots := 0, locals := 0 }) (va_Pc [.int (nI k), .int x, .int y] (pt_B (dC, dI) [] [])) (vp_Si (fun r : Int32 => r = 0 ∨ r = 1)) 0 0 (fun _ => False) := by
  refine Met.ofW (cc := cX7_fitsLevel) (maxL := 5) (ret := (some .boolean)) (by decide) rfl ?_
  intro p e s m args below meth c s₁ B hml hv
  obtain ⟨rfl, hP, hK, hN⟩ := hv
  have hx := B.exec
  have hb := B.bytes
  have hr := B.returns
  have hts := atoms_spec (ws := wsX7_fitsLevel) B.pre
  have hown : s.vm.findClass RX7 = some m.cls := findClass_of_methodNamed B.named
  have hlocks := B.notSynchronized
  have hP : va_P (dC, dI) vwCl [] s.heap := hP
  have hK : va_K (dC, dI) vwCl [] s := hK
  have hl := lv_entry ([.int (nI k), .int x, .int y]) (n := 5) (Nat.le_of_ble_eq_true rfl)
  rw [lg_entry_eq]
  generalize (lg_sl ([.int (nI k), .int x, .int y]) ++ List.replicate (5 - (lg_sl ([.int (nI k), .int x, .int y])).length) Slot.unset).toArray = ls at hl ⊢
  have hl : lv_has ls 5 [(0, .int (nI k)), (1, .int x), (2, .int y)] := hl
  refine lv_iload_n hx hb dX7_fitsLevel_0 rfl (lv_at hl 0 rfl) ?_
  refine lv_iconst (v := 2) hx hb dX7_fitsLevel_1 (by decide) ?_
  refine lv_icmp_ge (tgt := 11) hx hb dX7_fitsLevel_2 (by decide) (fun c_1 => ?_) (fun c_1 => ?_)
  · have c_1 : 2 ≤ k := (nI_leI (a := 2) (b := k) (by omega) (by omega)).mp c_1
    refine lv_sipush (v := 210) hx hb dX7_fitsLevel_11 (by decide) ?_
    refine lv_istore_n (lv' := [(3, .int 210), (0, .int (nI k)), (1, .int x), (2, .int y)]) hx hb dX7_fitsLevel_14 rfl hl (by decide) rfl (fun ls hl => ?_)
    refine lv_iload_n hx hb dX7_fitsLevel_15 rfl (lv_at hl 1 rfl) ?_
    refine lv_iconst (v := 2) hx hb dX7_fitsLevel_16 (by decide) ?_
    refine lv_irem hx hb dX7_fitsLevel_17 (by decide) ?_
    refine pt_topi (nI (k % 2)) (pk_rem (a := k) (d := 2) (by omega) (by omega) (by omega)) ?_
    refine lv_if_ne (tgt := 27) hx hb dX7_fitsLevel_18 (by decide) (fun c_2 => ?_) (fun c_2 => ?_)
    · have c_2 : ¬ (k % 2 = 0) := fun q_ => c_2 ((nI_eq (a := k % 2) (b := 0) (by omega) (by omega)).mpr q_)
      refine lv_sipush (v := 3000) hx hb dX7_fitsLevel_27 (by decide) ?_
      refine lv_istore (lv' := [(4, .int 3000), (3, .int 210), (0, .int (nI k)), (1, .int x), (2, .int y)]) hx hb dX7_fitsLevel_30 hl (by decide) rfl (fun ls hl => ?_)
      refine lv_iload_n hx hb dX7_fitsLevel_32 rfl (lv_at hl 3 rfl) ?_
      refine lv_iload_n hx hb dX7_fitsLevel_33 rfl (lv_at hl 1 rfl) ?_
      refine lv_icmp_gt (tgt := 47) hx hb dX7_fitsLevel_34 (by decide) (fun c_3 => ?_) (fun c_3 => ?_)
      · have c_3 : (210 < x) := c_3
        refine lv_iconst (v := 0) hx hb dX7_fitsLevel_47 (by decide) ?_
        exact W.zret (v := 0) (ty := .boolean) hx hb hr rfl (fun t ht hW => ⟨0, rfl, Or.inl rfl, ht⟩) (fun q h => by cases h) dX7_fitsLevel_48
      · have c_3 : ¬ (210 < x) := c_3
        refine lv_iload_n hx hb dX7_fitsLevel_37 rfl (lv_at hl 4 rfl) ?_
        refine lv_iload hx hb dX7_fitsLevel_38 (lv_at hl 0 rfl) ?_
        refine lv_icmp_gt (tgt := 47) hx hb dX7_fitsLevel_40 (by decide) (fun c_4 => ?_) (fun c_4 => ?_)
        · have c_4 : (3000 < y) := c_4
          refine lv_iconst (v := 0) hx hb dX7_fitsLevel_47 (by decide) ?_
          exact W.zret (v := 0) (ty := .boolean) hx hb hr rfl (fun t ht hW => ⟨0, rfl, Or.inl rfl, ht⟩) (fun q h => by cases h) dX7_fitsLevel_48
        · have c_4 : ¬ (3000 < y) := c_4
          refine lv_iconst (v := 1) hx hb dX7_fitsLevel_43 (by decide) ?_
          refine lv_goto (tgt := 48) hx hb dX7_fitsLevel_44 (by decide) ?_
          exact W.zret (v := 1) (ty := .boolean) hx hb hr rfl (fun t ht hW => ⟨1, rfl, Or.inr rfl, ht⟩) (fun q h => by cases h) dX7_fitsLevel_48
    · have c_2 : k % 2 = 0 := (nI_eq (a := k % 2) (b := 0) (by omega) (by omega)).mp c_2
      refine lv_sipush (v := 2000) hx hb dX7_fitsLevel_21 (by decide) ?_
      refine lv_goto (tgt := 30) hx hb dX7_fitsLevel_24 (by decide) ?_
      refine lv_istore (lv' := [(4, .int 2000), (3, .int 210), (0, .int (nI k)), (1, .int x), (2, .int y)]) hx hb dX7_fitsLevel_30 hl (by decide) rfl (fun ls hl => ?_)
      refine lv_iload_n hx hb dX7_fitsLevel_32 rfl (lv_at hl 3 rfl) ?_
      refine lv_iload_n hx hb dX7_fitsLevel_33 rfl (lv_at hl 1 rfl) ?_
      refine lv_icmp_gt (tgt := 47) hx hb dX7_fitsLevel_34 (by decide) (fun c_5 => ?_) (fun c_5 => ?_)
      · have c_5 : (210 < x) := c_5
        refine lv_iconst (v := 0) hx hb dX7_fitsLevel_47 (by decide) ?_
        exact W.zret (v := 0) (ty := .boolean) hx hb hr rfl (fun t ht hW => ⟨0, rfl, Or.inl rfl, ht⟩) (fun q h => by cases h) dX7_fitsLevel_48
      · have c_5 : ¬ (210 < x) := c_5
        refine lv_iload_n hx hb dX7_fitsLevel_37 rfl (lv_at hl 4 rfl) ?_
        refine lv_iload hx hb dX7_fitsLevel_38 (lv_at hl 0 rfl) ?_
        refine lv_icmp_gt (tgt := 47) hx hb dX7_fitsLevel_40 (by decide) (fun c_6 => ?_) (fun c_6 => ?_)
        · have c_6 : (2000 < y) := c_6
          refine lv_iconst (v := 0) hx hb dX7_fitsLevel_47 (by decide) ?_
          exact W.zret (v := 0) (ty := .boolean) hx hb hr rfl (fun t ht hW => ⟨0, rfl, Or.inl rfl, ht⟩) (fun q h => by cases h) dX7_fitsLevel_48
        · have c_6 : ¬ (2000 < y) := c_6
          refine lv_iconst (v := 1) hx hb dX7_fitsLevel_43 (by decide) ?_
          refine lv_goto (tgt := 48) hx hb dX7_fitsLevel_44 (by decide) ?_
          exact W.zret (v := 1) (ty := .boolean) hx hb hr rfl (fun t ht hW => ⟨1, rfl, Or.inr rfl, ht⟩) (fun q h => by cases h) dX7_fitsLevel_48
  · have c_1 : ¬ (2 ≤ k) := fun q_ => c_1 ((nI_leI (a := 2) (b := k) (by omega) (by omega)).mpr q_)
    refine lv_sipush (v := 160) hx hb dX7_fitsLevel_5 (by decide) ?_
    refine lv_goto (tgt := 14) hx hb dX7_fitsLevel_8 (by decide) ?_
    refine lv_istore_n (lv' := [(3, .int 160), (0, .int (nI k)), (1, .int x), (2, .int y)]) hx hb dX7_fitsLevel_14 rfl hl (by decide) rfl (fun ls hl => ?_)
    refine lv_iload_n hx hb dX7_fitsLevel_15 rfl (lv_at hl 1 rfl) ?_
    refine lv_iconst (v := 2) hx hb dX7_fitsLevel_16 (by decide) ?_
    refine lv_irem hx hb dX7_fitsLevel_17 (by decide) ?_
    refine pt_topi (nI (k % 2)) (pk_rem (a := k) (d := 2) (by omega) (by omega) (by omega)) ?_
    refine lv_if_ne (tgt := 27) hx hb dX7_fitsLevel_18 (by decide) (fun c_7 => ?_) (fun c_7 => ?_)
    · have c_7 : ¬ (k % 2 = 0) := fun q_ => c_7 ((nI_eq (a := k % 2) (b := 0) (by omega) (by omega)).mpr q_)
      refine lv_sipush (v := 3000) hx hb dX7_fitsLevel_27 (by decide) ?_
      refine lv_istore (lv' := [(4, .int 3000), (3, .int 160), (0, .int (nI k)), (1, .int x), (2, .int y)]) hx hb dX7_fitsLevel_30 hl (by decide) rfl (fun ls hl => ?_)
      refine lv_iload_n hx hb dX7_fitsLevel_32 rfl (lv_at hl 3 rfl) ?_
      refine lv_iload_n hx hb dX7_fitsLevel_33 rfl (lv_at hl 1 rfl) ?_
      refine lv_icmp_gt (tgt := 47) hx hb dX7_fitsLevel_34 (by decide) (fun c_8 => ?_) (fun c_8 => ?_)
      · have c_8 : (160 < x) := c_8
        refine lv_iconst (v := 0) hx hb dX7_fitsLevel_47 (by decide) ?_
        exact W.zret (v := 0) (ty := .boolean) hx hb hr rfl (fun t ht hW => ⟨0, rfl, Or.inl rfl, ht⟩) (fun q h => by cases h) dX7_fitsLevel_48
      · have c_8 : ¬ (160 < x) := c_8
        refine lv_iload_n hx hb dX7_fitsLevel_37 rfl (lv_at hl 4 rfl) ?_
        refine lv_iload hx hb dX7_fitsLevel_38 (lv_at hl 0 rfl) ?_
        refine lv_icmp_gt (tgt := 47) hx hb dX7_fitsLevel_40 (by decide) (fun c_9 => ?_) (fun c_9 => ?_)
        · have c_9 : (3000 < y) := c_9
          refine lv_iconst (v := 0) hx hb dX7_fitsLevel_47 (by decide) ?_
          exact W.zret (v := 0) (ty := .boolean) hx hb hr rfl (fun t ht hW => ⟨0, rfl, Or.inl rfl, ht⟩) (fun q h => by cases h) dX7_fitsLevel_48
        · have c_9 : ¬ (3000 < y) := c_9
          refine lv_iconst (v := 1) hx hb dX7_fitsLevel_43 (by decide) ?_
          refine lv_goto (tgt := 48) hx hb dX7_fitsLevel_44 (by decide) ?_
          exact W.zret (v := 1) (ty := .boolean) hx hb hr rfl (fun t ht hW => ⟨1, rfl, Or.inr rfl, ht⟩) (fun q h => by cases h) dX7_fitsLevel_48
    · have c_7 : k % 2 = 0 := (nI_eq (a := k % 2) (b := 0) (by omega) (by omega)).mp c_7
      refine lv_sipush (v := 2000) hx hb dX7_fitsLevel_21 (by decide) ?_
      refine lv_goto (tgt := 30) hx hb dX7_fitsLevel_24 (by decide) ?_
      refine lv_istore (lv' := [(4, .int 2000), (3, .int 160), (0, .int (nI k)), (1, .int x), (2, .int y)]) hx hb dX7_fitsLevel_30 hl (by decide) rfl (fun ls hl => ?_)
      refine lv_iload_n hx hb dX7_fitsLevel_32 rfl (lv_at hl 3 rfl) ?_
      refine lv_iload_n hx hb dX7_fitsLevel_33 rfl (lv_at hl 1 rfl) ?_
      refine lv_icmp_gt (tgt := 47) hx hb dX7_fitsLevel_34 (by decide) (fun c_10 => ?_) (fun c_10 => ?_)
      · have c_10 : (160 < x) := c_10
        refine lv_iconst (v := 0) hx hb dX7_fitsLevel_47 (by decide) ?_
        exact W.zret (v := 0) (ty := .boolean) hx hb hr rfl (fun t ht hW => ⟨0, rfl, Or.inl rfl, ht⟩) (fun q h => by cases h) dX7_fitsLevel_48
      · have c_10 : ¬ (160 < x) := c_10
        refine lv_iload_n hx hb dX7_fitsLevel_37 rfl (lv_at hl 4 rfl) ?_
        refine lv_iload hx hb dX7_fitsLevel_38 (lv_at hl 0 rfl) ?_
        refine lv_icmp_gt (tgt := 47) hx hb dX7_fitsLevel_40 (by decide) (fun c_11 => ?_) (fun c_11 => ?_)
        · have c_11 : (2000 < y) := c_11
          refine lv_iconst (v := 0) hx hb dX7_fitsLevel_47 (by decide) ?_
          exact W.zret (v := 0) (ty := .boolean) hx hb hr rfl (fun t ht hW => ⟨0, rfl, Or.inl rfl, ht⟩) (fun q h => by cases h) dX7_fitsLevel_48
        · have c_11 : ¬ (2000 < y) := c_11
          refine lv_iconst (v := 1) hx hb dX7_fitsLevel_43 (by decide) ?_
          refine lv_goto (tgt := 48) hx hb dX7_fitsLevel_44 (by decide) ?_
          exact W.zret (v := 1) (ty := .boolean) hx hb hr rfl (fun t ht hW => ⟨1, rfl, Or.inr rfl, ht⟩) (fun q h => by cases h) dX7_fitsLevel_48
set_option maxHeartbeats 4000000 in
set_option maxRecDepth 100000 in
theorem s_fitsAny (l : Launch) (dC : Nat → ClassId) (dI : Nat → Nat → Nat) (x y : Int32) : Met l yX7_fitsAnyLevel wsX7_fitsAnyLevel ({ frames := 1, cells := 0, slots := 0, locals := 24 }) (va_Pc [.int x, .int y] (pt_B (dC, dI) [] [])) (vp_Si (fun r : Int32 => r = 0 ∨ r = 1)) 0 0 (fun _ => False) := by
  refine Met.ofW (cc := cX7_fitsAnyLevel) (maxL := 3) (ret := (some .boolean)) (by decide) rfl ?_
  intro p e s m args below meth c s₁ B hml hv
  obtain ⟨rfl, hP, hK, hN⟩ := hv
  have hx := B.exec
  have hb := B.bytes
  have hr := B.returns
  have hts := atoms_spec (ws := wsX7_fitsAnyLevel) B.pre
  have hown : s.vm.findClass RX7 = some m.cls := findClass_of_methodNamed B.named
  have hlocks := B.notSynchronized
  have hP : va_P (dC, dI) vwCl [] s.heap := hP
  have hK : va_K (dC, dI) vwCl [] s := hK
  have hl := lv_entry ([.int x, .int y]) (n := 3) (Nat.le_of_ble_eq_true rfl)
  rw [lg_entry_eq]
  generalize (lg_sl ([.int x, .int y]) ++ List.replicate (3 - (lg_sl ([.int x, .int y])).length) Slot.unset).toArray = ls at hl ⊢
  have hl : lv_has ls 3 [(0, .int x), (1, .int y)] := hl
  refine lv_iconst (v := 0) hx hb dX7_fitsAnyLevel_0 (by decide) ?_
  refine lv_istore_n (lv' := [(2, .int 0), (0, .int x), (1, .int y)]) hx hb dX7_fitsAnyLevel_1 rfl hl (by decide) rfl (fun ls hl => ?_)
  refine pt_loop 4 (fun k ls => lv_has ls 3 [(2, .int (nI k)), (0, .int x), (1, .int y)]) (fun ls hI => ?_) (fun k ls hk hI ih => ?_) (lv_sub hl [0, 1, 2] rfl)
  · have hl := hI
    have hl : lv_has ls 3 [(2, .int 4), (0, .int x), (1, .int y)] := hl
    refine lv_iload_n hx hb dX7_fitsAnyLevel_2 rfl (lv_at hl 0 rfl) ?_
    refine lv_iconst (v := 4) hx hb dX7_fitsAnyLevel_3 (by decide) ?_
    refine lv_icmp_ge (tgt := 24) hx hb dX7_fitsAnyLevel_4 (by decide) (fun _ => ?_) (fun c => absurd (by decide) c)
    refine lv_iconst (v := 0) hx hb dX7_fitsAnyLevel_24 (by decide) ?_
    exact W.zret (v := 0) (ty := .boolean) hx hb hr rfl (fun t ht hW => ⟨0, rfl, Or.inl rfl, ht⟩) (fun q h => by cases h) dX7_fitsAnyLevel_25
  · have hl := hI
    have hl : lv_has ls 3 [(2, .int (nI k)), (0, .int x), (1, .int y)] := hl
    refine lv_iload_n hx hb dX7_fitsAnyLevel_2 rfl (lv_at hl 0 rfl) ?_
    refine lv_iconst (v := 4) hx hb dX7_fitsAnyLevel_3 (by decide) ?_
    refine lv_icmp_ge (tgt := 24) hx hb dX7_fitsAnyLevel_4 (by decide) (fun c_1 => ?_) (fun c_1 => ?_)
    · have c_1 : 4 ≤ k := (nI_leI (a := 4) (b := k) (by omega) (by omega)).mp c_1
      exact (by omega : False).elim
    · have c_1 : ¬ (4 ≤ k) := fun q_ => c_1 ((nI_leI (a := 4) (b := k) (by omega) (by omega)).mpr q_)
      refine lv_iload_n hx hb dX7_fitsAnyLevel_7 rfl (lv_at hl 0 rfl) ?_
      refine lv_iload_n hx hb dX7_fitsAnyLevel_8 rfl (lv_at hl 1 rfl) ?_
      refine lv_iload_n hx hb dX7_fitsAnyLevel_9 rfl (lv_at hl 2 rfl) ?_
      refine pt_cSi (va_runS (As := [.int (nI k), .int x, .int y]) (rest := []) ⟨hx, hb, hml, hown, hts⟩ (s_fits l dC dI k x y (by omega)) (cwS 3 hts gX7_fitsAnyLevel_X7_fitsLevel rfl rfl rfl (by decide +kernel) ⟨Nat.le_of_ble_eq_true rfl, Nat.le_of_ble_eq_true rfl⟩) ⟨pt_blind, pt_pre (w := []) (tys := []) (hP.sub [] rfl) (hK.sub [] rfl) hN⟩ rfl rfl hl.1 rfl (lv_room (Nat.le_of_ble_eq_true rfl)) dX7_fitsAnyLevel_10 ⟨Nat.le_of_ble_eq_true rfl, Nat.le_of_ble_eq_true rfl⟩) (fun r_2 hr_2 => ?_)
      rcases hr_2 with rfl | rfl
      · skip
        refine lv_if_eq (tgt := 18) hx hb dX7_fitsAnyLevel_13 (by decide) (fun _ => ?_) (fun c => absurd (by decide) c)
        refine lv_iinc (v := nI (k + 1)) (lv' := [(2, .int (nI (k + 1))), (0, .int x), (1, .int y)]) hx hb dX7_fitsAnyLevel_18 hl (k := 0) rfl (nI_add k 1) (by decide) rfl (fun ls hl => ?_)
        refine lv_goto (tgt := 2) hx hb dX7_fitsAnyLevel_21 (by decide) ?_
        exact ih ls (lv_sub hl [0, 1, 2] rfl)
      · skip
        refine lv_if_eq (tgt := 18) hx hb dX7_fitsAnyLevel_13 (by decide) (fun c => absurd c (by decide)) (fun _ => ?_)
        refine lv_iconst (v := 1) hx hb dX7_fitsAnyLevel_16 (by decide) ?_
        exact W.zret (v := 1) (ty := .boolean) hx hb hr rfl (fun t ht hW => ⟨1, rfl, Or.inr rfl, ht⟩) (fun q h => by cases h) dX7_fitsAnyLevel_17
set_option maxHeartbeats 4000000 in
set_option maxRecDepth 100000 in
theorem s_keep (l : Launch) (dC : Nat → ClassId) (dI : Nat → Nat → Nat) (sz : Nat) (rk hd jm : Nat) (cI : ClassId) (fh : Nat → Int32) (k : Nat) (hk : k < 96) : Met l yX5_keep wsX5_keep ({ frames := 1, cells := 0, slots := 0, locals := 20 }) (va_Pc [.ref rk, .int (nI k)] (pt_BQ (dC, dI) [(rk, .inr (4, [.ref hd, .ref jm])), (hd, .inl (cI, 96, .inl fh))] [(cI, .int)] sz)) (va_Qv (fun (u : Nat → Int32) => True) (fun u t => pt_at (dC, dI) (va_A [(rk, .inr (4, [.ref hd, .ref jm])), (hd, .inl (cI, 96, .inl fh))] sz) [(hd, .inl (cI, 96, .inl u)), (rk, .inr (4, [.ref hd, .ref jm]))] [] t) (va_A [(rk, .inr (4, [.ref hd, .ref jm])), (hd, .inl (cI, 96, .inl fh))] sz)) 0 0 (va_A [(rk, .inr (4, [.ref hd, .ref jm])), (hd, .inl (cI, 96, .inl fh))] sz) := by
  refine Met.ofW (cc := cX5_keep) (maxL := 2) (ret := none) (by decide) rfl ?_
  intro p e s m args below meth c s₁ B hml hv
  obtain ⟨rfl, hsz, hP, hK, hD0, hN⟩ := hv
  have hx := B.exec
  have hb := B.bytes
  have hr := B.returns
  have hts := atoms_spec (ws := wsX5_keep) B.pre
  have hown : s.vm.findClass RX5 = some m.cls := findClass_of_methodNamed B.named
  have hlocks := B.notSynchronized
  have iX5 : ∀ w ∈ wsX50, w ∈ wsX5_keep := by decide +kernel
  subst hsz
  have hD := hD0.self (sz := s.heap.size)
  generalize hAe : va_A [(rk, .inr (4, [.ref hd, .ref jm])), (hd, .inl (cI, 96, .inl fh))] s.heap.size = A at hD ⊢
  have hA : ∀ q : Nat, s.heap.size ≤ q → A q := fun q h => by rw [← hAe]; exact Or.inr h
  have hS : va_S A s.heap s.heap [] := va_S.rf
  have hP : va_P (dC, dI) vwCl [(rk, .inr (4, [.ref hd, .ref jm])), (hd, .inl (cI, 96, .inl fh))] s.heap := hP
  have hK : va_K (dC, dI) vwCl [(cI, .int)] s := hK
  have hl := lv_entry ([.ref rk, .int (nI k)]) (n := 2) (Nat.le_of_ble_eq_true rfl)
  rw [lg_entry_eq]
  generalize (lg_sl ([.ref rk, .int (nI k)]) ++ List.replicate (2 - (lg_sl ([.ref rk, .int (nI k)])).length) Slot.unset).toArray = ls at hl ⊢
  have hl : lv_has ls 2 [(0, .ref rk), (1, .int (nI k))] := hl
  refine lv_aload_n hx hb dX5_keep_0 rfl (lv_at hl 0 rfl) ?_
  refine va_get (D := (dC, dI)) (ci := 4) (v := .ref hd) (C := RX5) (T := TX5) (N := 2) hx hb hts iX5 hown hK hP 0 rfl rfl 0 (by decide) (hts (.fieldLink RX5 9 "ParkTower$Rack" "held" "[I") (by decide +kernel)) (fun _ h9 => h9) rfl dX5_keep_1 ?_
  refine lv_iload_n hx hb dX5_keep_4 rfl (lv_at hl 1 rfl) ?_
  refine lv_iconst (v := (-1)) hx hb dX5_keep_5 (by decide) ?_
  refine va_iast hx hb hK hP hD hS 1 0 rfl rfl (vp_in_nI (n := k) (by omega) (by decide)) dX5_keep_6 (fun H locs hP hD hS => ?_)
  have hP : va_P (dC, dI) vwCl [(rk, .inr (4, [.ref hd, .ref jm])), (hd, .inl (cI, 96, .inl (upd fh (nI k).toNatClampNeg (-1))))] H := hP
  have hD : va_D A [(rk, .inr (4, [.ref hd, .ref jm])), (hd, .inl (cI, 96, .inl (upd fh (nI k).toNatClampNeg (-1))))] := hD
  refine lv_iload_n hx hb dX5_keep_7 rfl (lv_at hl 1 rfl) ?_
  refine pt_cSi (va_runSN (As := [.int (nI k)]) (rest := []) ⟨hx, hb, hml, hown, hts⟩ (s_isFront l dC dI k (by omega)) ⟨va_cnB 1 hts gX5_keep_X7_isFront_n19 rfl rfl rfl (hN.1 (.methodLinkNest RX5 19 yX7_isFront "ParkTower") (by decide +kernel)) (hts (.initialized RX7) (by decide +kernel)) (by decide +kernel) ⟨Nat.le_of_ble_eq_true rfl, Nat.le_of_ble_eq_true rfl⟩, hts (.static yX7_isFront) (by decide +kernel), trivial⟩ ⟨pt_blind, pt_pre (w := []) (tys := []) (hP.sub [] rfl) (hK.sub [] rfl) hN⟩ rfl rfl hl.1 rfl (lv_room (Nat.le_of_ble_eq_true rfl)) dX5_keep_8 ⟨Nat.le_of_ble_eq_true rfl, Nat.le_of_ble_eq_true rfl⟩) (fun r_1 hr_1 => ?_)
  by_cases g_1 : k % 2 = 0
  · obtain rfl : r_1 = 1 := hr_1.trans (if_pos g_1)
    refine lv_if_ne (tgt := 23) hx hb dX5_keep_11 (by decide) (fun _ => ?_) (fun c => absurd c (by decide))
    have hP9 := hP.sub (ws' := [(hd, .inl (cI, 96, .inl (upd fh (nI k).toNatClampNeg (-1)))), (rk, .inr (4, [.ref hd, .ref jm]))]) [1, 0] rfl
    have hD9 := hD.sub (ws' := [(hd, .inl (cI, 96, .inl (upd fh (nI k).toNatClampNeg (-1)))), (rk, .inr (4, [.ref hd, .ref jm]))]) [1, 0] (by decide) rfl
    have hK9 := hK.sub (tys' := []) [] rfl
    refine W.widen (k := 0) (n := 0) (by omega) (by omega) ?_
    exact W.vret hx hb hr (fun t ht hW => ⟨⟨upd fh (nI k).toNatClampNeg (-1), rfl, trivial, by rw [ht]; exact hP9, va_K.moved hW.alike hK9, hD9⟩, hS.F ht⟩) hS.2.2 dX5_keep_23
  · obtain rfl : r_1 = 0 := hr_1.trans (if_neg g_1)
    refine lv_if_ne (tgt := 23) hx hb dX5_keep_11 (by decide) (fun c => absurd (by decide) c) (fun _ => ?_)
    refine lv_aload_n hx hb dX5_keep_14 rfl (lv_at hl 0 rfl) ?_
    refine va_get (D := (dC, dI)) (ci := 4) (v := .ref hd) (C := RX5) (T := TX5) (N := 2) hx hb hts iX5 hown hK hP 0 rfl rfl 0 (by decide) (hts (.fieldLink RX5 9 "ParkTower$Rack" "held" "[I") (by decide +kernel)) (fun _ h9 => h9) rfl dX5_keep_15 ?_
    refine lv_iload_n hx hb dX5_keep_18 rfl (lv_at hl 1 rfl) ?_
    refine lv_iconst (v := 1) hx hb dX5_keep_19 (by decide) ?_
    refine lv_isub hx hb dX5_keep_20 ?_
    refine pt_topi (nI (k - 1)) (pk_sub (a := k) (b := 1) (by omega)) ?_
    refine lv_iconst (v := (-1)) hx hb dX5_keep_21 (by decide) ?_
    refine va_iast hx hb hK hP hD hS 1 0 rfl rfl (vp_in_nI (n := k - 1) (by omega) (by decide)) dX5_keep_22 (fun H locs hP hD hS => ?_)
    have hP : va_P (dC, dI) vwCl [(rk, .inr (4, [.ref hd, .ref jm])), (hd, .inl (cI, 96, .inl (upd (upd fh (nI k).toNatClampNeg (-1)) (nI (k - 1)).toNatClampNeg (-1))))] H := hP
    have hD : va_D A [(rk, .inr (4, [.ref hd, .ref jm])), (hd, .inl (cI, 96, .inl (upd (upd fh (nI k).toNatClampNeg (-1)) (nI (k - 1)).toNatClampNeg (-1))))] := hD
    have hP9 := hP.sub (ws' := [(hd, .inl (cI, 96, .inl (upd (upd fh (nI k).toNatClampNeg (-1)) (nI (k - 1)).toNatClampNeg (-1)))), (rk, .inr (4, [.ref hd, .ref jm]))]) [1, 0] rfl
    have hD9 := hD.sub (ws' := [(hd, .inl (cI, 96, .inl (upd (upd fh (nI k).toNatClampNeg (-1)) (nI (k - 1)).toNatClampNeg (-1)))), (rk, .inr (4, [.ref hd, .ref jm]))]) [1, 0] (by decide) rfl
    have hK9 := hK.sub (tys' := []) [] rfl
    refine W.widen (k := 0) (n := 0) (by omega) (by omega) ?_
    exact W.vret hx hb hr (fun t ht hW => ⟨⟨upd (upd fh (nI k).toNatClampNeg (-1)) (nI (k - 1)).toNatClampNeg (-1), rfl, trivial, by rw [ht]; exact hP9, va_K.moved hW.alike hK9, hD9⟩, hS.F ht⟩) hS.2.2 dX5_keep_23
set_option maxHeartbeats 4000000 in
set_option maxRecDepth 100000 in
theorem s_fillKept (l : Launch) (dC : Nat → ClassId) (dI : Nat → Nat → Nat) (sz : Nat) (rk hd jm : Nat) (cI : ClassId) (fh : Nat → Int32) (k : Nat) (x : Int32) (hk : k < 96) : Met l yX5_fillKept wsX5_fillKept ({ frames := 1, cells := 0, slots := 0, locals := 20 }) (va_Pc [.ref rk, .int (nI k), .int x] (pt_BQ (dC, dI) [(rk, .inr (4, [.ref hd, .ref jm])), (hd, .inl (cI, 96, .inl fh))] [(cI, .int)] sz)) (va_Qv (fun (u : Nat → Int32) => True) (fun u t => pt_at (dC, dI) (va_A [(rk, .inr (4, [.ref hd, .ref jm])), (hd, .inl (cI, 96, .inl fh))] sz) [(hd, .inl (cI, 96, .inl u)), (rk, .inr (4, [.ref hd, .ref jm]))] [] t) (va_A [(rk, .inr (4, [.ref hd, .ref jm])), (hd, .inl (cI, 96, .inl fh))] sz)) 0 0 (va_A [(rk, .inr (4, [.ref hd, .ref jm])), (hd, .inl (cI, 96, .inl fh))] sz) := by
  refine Met.ofW (cc := cX5_fillKept) (maxL := 3) (ret := none) (by decide) rfl ?_
  intro p e s m args below meth c s₁ B hml hv
  obtain ⟨rfl, hsz, hP, hK, hD0, hN⟩ := hv
  have hx := B.exec
  have hb := B.bytes
  have hr := B.returns
  have hts := atoms_spec (ws := wsX5_fillKept) B.pre
  have hown : s.vm.findClass RX5 = some m.cls := findClass_of_methodNamed B.named
  have hlocks := B.notSynchronized
  have iX5 : ∀ w ∈ wsX50, w ∈ wsX5_fillKept := by decide +kernel
  subst hsz
  have hD := hD0.self (sz := s.heap.size)
  generalize hAe : va_A [(rk, .inr (4, [.ref hd, .ref jm])), (hd, .inl (cI, 96, .inl fh))] s.heap.size = A at hD ⊢
  have hA : ∀ q : Nat, s.heap.size ≤ q → A q := fun q h => by rw [← hAe]; exact Or.inr h
  have hS : va_S A s.heap s.heap [] := va_S.rf
  have hP : va_P (dC, dI) vwCl [(rk, .inr (4, [.ref hd, .ref jm])), (hd, .inl (cI, 96, .inl fh))] s.heap := hP
  have hK : va_K (dC, dI) vwCl [(cI, .int)] s := hK
  have hl := lv_entry ([.ref rk, .int (nI k), .int x]) (n := 3) (Nat.le_of_ble_eq_true rfl)
  rw [lg_entry_eq]
  generalize (lg_sl ([.ref rk, .int (nI k), .int x]) ++ List.replicate (3 - (lg_sl ([.ref rk, .int (nI k), .int x])).length) Slot.unset).toArray = ls at hl ⊢
  have hl : lv_has ls 3 [(0, .ref rk), (1, .int (nI k)), (2, .int x)] := hl
  refine lv_aload_n hx hb dX5_fillKept_0 rfl (lv_at hl 0 rfl) ?_
  refine va_get (D := (dC, dI)) (ci := 4) (v := .ref hd) (C := RX5) (T := TX5) (N := 2) hx hb hts iX5 hown hK hP 0 rfl rfl 0 (by decide) (hts (.fieldLink RX5 9 "ParkTower$Rack" "held" "[I") (by decide +kernel)) (fun _ h9 => h9) rfl dX5_fillKept_1 ?_
  refine lv_iload_n hx hb dX5_fillKept_4 rfl (lv_at hl 1 rfl) ?_
  refine lv_iload_n hx hb dX5_fillKept_5 rfl (lv_at hl 2 rfl) ?_
  refine va_iast hx hb hK hP hD hS 1 0 rfl rfl (vp_in_nI (n := k) (by omega) (by decide)) dX5_fillKept_6 (fun H locs hP hD hS => ?_)
  have hP : va_P (dC, dI) vwCl [(rk, .inr (4, [.ref hd, .ref jm])), (hd, .inl (cI, 96, .inl (upd fh (nI k).toNatClampNeg x)))] H := hP
  have hD : va_D A [(rk, .inr (4, [.ref hd, .ref jm])), (hd, .inl (cI, 96, .inl (upd fh (nI k).toNatClampNeg x)))] := hD
  refine lv_iload_n hx hb dX5_fillKept_7 rfl (lv_at hl 1 rfl) ?_
  refine pt_cSi (va_runSN (As := [.int (nI k)]) (rest := []) ⟨hx, hb, hml, hown, hts⟩ (s_isFront l dC dI k (by omega)) ⟨va_cnB 1 hts gX5_fillKept_X7_isFront_n19 rfl rfl rfl (hN.1 (.methodLinkNest RX5 19 yX7_isFront "ParkTower") (by decide +kernel)) (hts (.initialized RX7) (by decide +kernel)) (by decide +kernel) ⟨Nat.le_of_ble_eq_true rfl, Nat.le_of_ble_eq_true rfl⟩, hts (.static yX7_isFront) (by decide +kernel), trivial⟩ ⟨pt_blind, pt_pre (w := []) (tys := []) (hP.sub [] rfl) (hK.sub [] rfl) hN⟩ rfl rfl hl.1 rfl (lv_room (Nat.le_of_ble_eq_true rfl)) dX5_fillKept_8 ⟨Nat.le_of_ble_eq_true rfl, Nat.le_of_ble_eq_true rfl⟩) (fun r_1 hr_1 => ?_)
  by_cases g_1 : k % 2 = 0
  · obtain rfl : r_1 = 1 := hr_1.trans (if_pos g_1)
    refine lv_if_ne (tgt := 23) hx hb dX5_fillKept_11 (by decide) (fun _ => ?_) (fun c => absurd c (by decide))
    have hP9 := hP.sub (ws' := [(hd, .inl (cI, 96, .inl (upd fh (nI k).toNatClampNeg x))), (rk, .inr (4, [.ref hd, .ref jm]))]) [1, 0] rfl
    have hD9 := hD.sub (ws' := [(hd, .inl (cI, 96, .inl (upd fh (nI k).toNatClampNeg x))), (rk, .inr (4, [.ref hd, .ref jm]))]) [1, 0] (by decide) rfl
    have hK9 := hK.sub (tys' := []) [] rfl
    refine W.widen (k := 0) (n := 0) (by omega) (by omega) ?_
    exact W.vret hx hb hr (fun t ht hW => ⟨⟨upd fh (nI k).toNatClampNeg x, rfl, trivial, by rw [ht]; exact hP9, va_K.moved hW.alike hK9, hD9⟩, hS.F ht⟩) hS.2.2 dX5_fillKept_23
  · obtain rfl : r_1 = 0 := hr_1.trans (if_neg g_1)
    refine lv_if_ne (tgt := 23) hx hb dX5_fillKept_11 (by decide) (fun c => absurd (by decide) c) (fun _ => ?_)
    refine lv_aload_n hx hb dX5_fillKept_14 rfl (lv_at hl 0 rfl) ?_
    refine va_get (D := (dC, dI)) (ci := 4) (v := .ref hd) (C := RX5) (T := TX5) (N := 2) hx hb hts iX5 hown hK hP 0 rfl rfl 0 (by decide) (hts (.fieldLink RX5 9 "ParkTower$Rack" "held" "[I") (by decide +kernel)) (fun _ h9 => h9) rfl dX5_fillKept_15 ?_
    refine lv_iload_n hx hb dX5_fillKept_18 rfl (lv_at hl 1 rfl) ?_
    refine lv_iconst (v := 1) hx hb dX5_fillKept_19 (by decide) ?_
    refine lv_isub hx hb dX5_fillKept_20 ?_
    refine pt_topi (nI (k - 1)) (pk_sub (a := k) (b := 1) (by omega)) ?_
    refine lv_iconst (v := 0) hx hb dX5_fillKept_21 (by decide) ?_
    refine va_iast hx hb hK hP hD hS 1 0 rfl rfl (vp_in_nI (n := k - 1) (by omega) (by decide)) dX5_fillKept_22 (fun H locs hP hD hS => ?_)
    have hP : va_P (dC, dI) vwCl [(rk, .inr (4, [.ref hd, .ref jm])), (hd, .inl (cI, 96, .inl (upd (upd fh (nI k).toNatClampNeg x) (nI (k - 1)).toNatClampNeg 0)))] H := hP
    have hD : va_D A [(rk, .inr (4, [.ref hd, .ref jm])), (hd, .inl (cI, 96, .inl (upd (upd fh (nI k).toNatClampNeg x) (nI (k - 1)).toNatClampNeg 0)))] := hD
    have hP9 := hP.sub (ws' := [(hd, .inl (cI, 96, .inl (upd (upd fh (nI k).toNatClampNeg x) (nI (k - 1)).toNatClampNeg 0))), (rk, .inr (4, [.ref hd, .ref jm]))]) [1, 0] rfl
    have hD9 := hD.sub (ws' := [(hd, .inl (cI, 96, .inl (upd (upd fh (nI k).toNatClampNeg x) (nI (k - 1)).toNatClampNeg 0))), (rk, .inr (4, [.ref hd, .ref jm]))]) [1, 0] (by decide) rfl
    have hK9 := hK.sub (tys' := []) [] rfl
    refine W.widen (k := 0) (n := 0) (by omega) (by omega) ?_
    exact W.vret hx hb hr (fun t ht hW => ⟨⟨upd (upd fh (nI k).toNatClampNeg x) (nI (k - 1)).toNatClampNeg 0, rfl, trivial, by rw [ht]; exact hP9, va_K.moved hW.alike hK9, hD9⟩, hS.F ht⟩) hS.2.2 dX5_fillKept_23
set_option maxHeartbeats 4000000 in
set_option maxRecDepth 100000 in
theorem s_move (l : Launch) (dC : Nat → ClassId) (dI : Nat → Nat → Nat) (sz : Nat) (rk hd jm : Nat) (cI : ClassId) (fh : Nat → Int32) (k k2 : Nat) (hk : k < 96) (hm : k2 < 96) : Met l yX5_move wsX5_move ({ frames := 0, cells := 0, slots := 0, locals := 0 }) (va_Pc [.ref rk, .int (nI k), .int (nI k2)] (pt_BQ (dC, dI) [(rk, .inr (4, [.ref hd, .ref jm])), (hd, .inl (cI, 96, .inl fh))] [(cI, .int)] sz)) (va_Qv (fun (u : Nat → Int32) => True) (fun u t => pt_at (dC, dI) (va_A [(rk, .inr (4, [.ref hd, .ref jm])), (hd, .inl (cI, 96, .inl fh))] sz) [(hd, .inl (cI, 96, .inl u)), (rk, .inr (4, [.ref hd, .ref jm]))] [] t) (va_A [(rk, .inr (4, [.ref hd, .ref jm])), (hd, .inl (cI, 96, .inl fh))] sz)) 0 0 (va_A [(rk, .inr (4, [.ref hd, .ref jm])), (hd, .inl (cI, 96, .inl fh))] sz) := by
  refine Met.ofW (cc := cX5_move) (maxL := 3) (ret := none) (by decide) rfl ?_
  intro p e s m args below meth c s₁ B hml hv
  obtain ⟨rfl, hsz, hP, hK, hD0, hN⟩ := hv
  have hx := B.exec
  have hb := B.bytes
  have hr := B.returns
  have hts := atoms_spec (ws := wsX5_move) B.pre
  have hown : s.vm.findClass RX5 = some m.cls := findClass_of_methodNamed B.named
  have hlocks := B.notSynchronized
  have iX5 : ∀ w ∈ wsX50, w ∈ wsX5_move := by decide +kernel
  subst hsz
  have hD := hD0.self (sz := s.heap.size)
  generalize hAe : va_A [(rk, .inr (4, [.ref hd, .ref jm])), (hd, .inl (cI, 96, .inl fh))] s.heap.size = A at hD ⊢
  have hA : ∀ q : Nat, s.heap.size ≤ q → A q := fun q h => by rw [← hAe]; exact Or.inr h
  have hS : va_S A s.heap s.heap [] := va_S.rf
  have hP : va_P (dC, dI) vwCl [(rk, .inr (4, [.ref hd, .ref jm])), (hd, .inl (cI, 96, .inl fh))] s.heap := hP
  have hK : va_K (dC, dI) vwCl [(cI, .int)] s := hK
  have hl := lv_entry ([.ref rk, .int (nI k), .int (nI k2)]) (n := 3) (Nat.le_of_ble_eq_true rfl)
  rw [lg_entry_eq]
  generalize (lg_sl ([.ref rk, .int (nI k), .int (nI k2)]) ++ List.replicate (3 - (lg_sl ([.ref rk, .int (nI k), .int (nI k2)])).length) Slot.unset).toArray = ls at hl ⊢
  have hl : lv_has ls 3 [(0, .ref rk), (1, .int (nI k)), (2, .int (nI k2))] := hl
  refine lv_aload_n hx hb dX5_move_0 rfl (lv_at hl 0 rfl) ?_
  refine va_get (D := (dC, dI)) (ci := 4) (v := .ref hd) (C := RX5) (T := TX5) (N := 2) hx hb hts iX5 hown hK hP 0 rfl rfl 0 (by decide) (hts (.fieldLink RX5 9 "ParkTower$Rack" "held" "[I") (by decide +kernel)) (fun _ h9 => h9) rfl dX5_move_1 ?_
  refine lv_iload_n hx hb dX5_move_4 rfl (lv_at hl 2 rfl) ?_
  refine lv_aload_n hx hb dX5_move_5 rfl (lv_at hl 0 rfl) ?_
  refine va_get (D := (dC, dI)) (ci := 4) (v := .ref hd) (C := RX5) (T := TX5) (N := 2) hx hb hts iX5 hown hK hP 0 rfl rfl 0 (by decide) (hts (.fieldLink RX5 9 "ParkTower$Rack" "held" "[I") (by decide +kernel)) (fun _ h9 => h9) rfl dX5_move_6 ?_
  refine lv_iload_n hx hb dX5_move_9 rfl (lv_at hl 1 rfl) ?_
  refine va_iald hx hb hK hP 1 0 rfl rfl (vp_in_nI (n := k) (by omega) (by decide)) dX5_move_10 ?_
  refine lv_topi (fun a_1 ea_1 => ?_)
  refine va_iast hx hb hK hP hD hS 1 0 rfl rfl (vp_in_nI (n := k2) (by omega) (by decide)) dX5_move_11 (fun H locs hP hD hS => ?_)
  have hP : va_P (dC, dI) vwCl [(rk, .inr (4, [.ref hd, .ref jm])), (hd, .inl (cI, 96, .inl (upd fh (nI k2).toNatClampNeg a_1)))] H := hP
  have hD : va_D A [(rk, .inr (4, [.ref hd, .ref jm])), (hd, .inl (cI, 96, .inl (upd fh (nI k2).toNatClampNeg a_1)))] := hD
  refine lv_aload_n hx hb dX5_move_12 rfl (lv_at hl 0 rfl) ?_
  refine va_get (D := (dC, dI)) (ci := 4) (v := .ref hd) (C := RX5) (T := TX5) (N := 2) hx hb hts iX5 hown hK hP 0 rfl rfl 0 (by decide) (hts (.fieldLink RX5 9 "ParkTower$Rack" "held" "[I") (by decide +kernel)) (fun _ h9 => h9) rfl dX5_move_13 ?_
  refine lv_iload_n hx hb dX5_move_16 rfl (lv_at hl 1 rfl) ?_
  refine lv_iconst (v := 0) hx hb dX5_move_17 (by decide) ?_
  refine va_iast hx hb hK hP hD hS 1 0 rfl rfl (vp_in_nI (n := k) (by omega) (by decide)) dX5_move_18 (fun H locs hP hD hS => ?_)
  have hP : va_P (dC, dI) vwCl [(rk, .inr (4, [.ref hd, .ref jm])), (hd, .inl (cI, 96, .inl (upd (upd fh (nI k2).toNatClampNeg a_1) (nI k).toNatClampNeg 0)))] H := hP
  have hD : va_D A [(rk, .inr (4, [.ref hd, .ref jm])), (hd, .inl (cI, 96, .inl (upd (upd fh (nI k2).toNatClampNeg a_1) (nI k).toNatClampNeg 0)))] := hD
  have hP9 := hP.sub (ws' := [(hd, .inl (cI, 96, .inl (upd (upd fh (nI k2).toNatClampNeg a_1) (nI k).toNatClampNeg 0))), (rk, .inr (4, [.ref hd, .ref jm]))]) [1, 0] rfl
  have hD9 := hD.sub (ws' := [(hd, .inl (cI, 96, .inl (upd (upd fh (nI k2).toNatClampNeg a_1) (nI k).toNatClampNeg 0))), (rk, .inr (4, [.ref hd, .ref jm]))]) [1, 0] (by decide) rfl
  have hK9 := hK.sub (tys' := []) [] rfl
  refine W.widen (k := 0) (n := 0) (by omega) (by omega) ?_
  exact W.vret hx hb hr (fun t ht hW => ⟨⟨upd (upd fh (nI k2).toNatClampNeg a_1) (nI k).toNatClampNeg 0, rfl, trivial, by rw [ht]; exact hP9, va_K.moved hW.alike hK9, hD9⟩, hS.F ht⟩) hS.2.2 dX5_move_19
set_option maxHeartbeats 4000000 in
set_option maxRecDepth 100000 in
theorem s_addMove (l : Launch) (dC : Nat → ClassId) (dI : Nat → Nat → Nat) (sz : Nat) (pl pf pg : Nat) (c4 c5 : ClassId) (ff fg : Nat → Int32) (pn : Nat) (x y : Int32) (hm : pn < 2) (h1 : ∀ i, sC (ff i)) (h2 : ∀ i, sC (fg i)) (h3 : sC x) (h4 : sC y) : Met l yX4_addMove wsX4_addMove ({ frames := 0, cells := 0, slots := 0, locals := 0 }) (va_Pc [.ref pl, .int x, .int y] (pt_BQ (dC, dI) [(pl, .inr (3, [.ref pf, .ref pg, .int (nI pn)])), (pf, .inl (c4, 2, .inl ff)), (pg, .inl (c5, 2, .inl fg))] [(c4, .int), (c5, .int)] sz)) (va_Qv (fun (u : (Nat → Int32) × (Nat → Int32)) => (∀ i, sC (u.1 i)) ∧ (∀ i, sC (u.2 i))) (fun u t => pt_at (dC, dI) (va_A [(pl, .inr (3, [.ref pf, .ref pg, .int (nI pn)])), (pf, .inl (c4, 2, .inl ff)), (pg, .inl (c5, 2, .inl fg))] sz) [(pl, .inr (3, [.ref pf, .ref pg, .int (nI (pn + 1))])), (pf, .inl (c4, 2, .inl u.1)), (pg, .inl (c5, 2, .inl u.2))] [] t) (va_A [(pl, .inr (3, [.ref pf, .ref pg, .int (nI pn)])), (pf, .inl (c4, 2, .inl ff)), (pg, .inl (c5, 2, .inl fg))] sz)) 0 0 (va_A [(pl, .inr (3, [.ref pf, .ref pg, .int (nI pn)])), (pf, .inl (c4, 2, .inl ff)), (pg, .inl (c5, 2, .inl fg))] sz) := by
  refine Met.ofW (cc := cX4_addMove) (maxL := 3) (ret := none) (by decide) rfl ?_
  intro p e s m args below meth c s₁ B hml hv
  obtain ⟨rfl, hsz, hP, hK, hD0, hN⟩ := hv
  have hx := B.exec
  have hb := B.bytes
  have hr := B.returns
  have hts := atoms_spec (ws := wsX4_addMove) B.pre
  have hown : s.vm.findClass RX4 = some m.cls := findClass_of_methodNamed B.named
  have hlocks := B.notSynchronized
  have iX4 : ∀ w ∈ wsX40, w ∈ wsX4_addMove := by decide +kernel
  subst hsz
  have hD := hD0.self (sz := s.heap.size)
  generalize hAe : va_A [(pl, .inr (3, [.ref pf, .ref pg, .int (nI pn)])), (pf, .inl (c4, 2, .inl ff)), (pg, .inl (c5, 2, .inl fg))] s.heap.size = A at hD ⊢
  have hA : ∀ q : Nat, s.heap.size ≤ q → A q := fun q h => by rw [← hAe]; exact Or.inr h
  have hS : va_S A s.heap s.heap [] := va_S.rf
  have hP : va_P (dC, dI) vwCl [(pl, .inr (3, [.ref pf, .ref pg, .int (nI pn)])), (pf, .inl (c4, 2, .inl ff)), (pg, .inl (c5, 2, .inl fg))] s.heap := hP
  have hK : va_K (dC, dI) vwCl [(c4, .int), (c5, .int)] s := hK
  have hl := lv_entry ([.ref pl, .int x, .int y]) (n := 3) (Nat.le_of_ble_eq_true rfl)
  rw [lg_entry_eq]
  generalize (lg_sl ([.ref pl, .int x, .int y]) ++ List.replicate (3 - (lg_sl ([.ref pl, .int x, .int y])).length) Slot.unset).toArray = ls at hl ⊢
  have hl : lv_has ls 3 [(0, .ref pl), (1, .int x), (2, .int y)] := hl
  refine lv_aload_n hx hb dX4_addMove_0 rfl (lv_at hl 0 rfl) ?_
  refine va_get (D := (dC, dI)) (ci := 3) (v := .ref pf) (C := RX4) (T := TX4) (N := 3) hx hb hts iX4 hown hK hP 0 rfl rfl 0 (by decide) (hts (.fieldLink RX4 11 "ParkTower$Plan" "from" "[I") (by decide +kernel)) (fun _ h9 => h9) rfl dX4_addMove_1 ?_
  refine lv_aload_n hx hb dX4_addMove_4 rfl (lv_at hl 0 rfl) ?_
  refine va_get (D := (dC, dI)) (ci := 3) (v := .int (nI pn)) (C := RX4) (T := TX4) (N := 3) hx hb hts iX4 hown hK hP 0 rfl rfl 2 (by decide) (hts (.fieldLink RX4 18 "ParkTower$Plan" "count" "I") (by decide +kernel)) (fun _ h9 => h9) rfl dX4_addMove_5 ?_
  refine lv_iload_n hx hb dX4_addMove_8 rfl (lv_at hl 1 rfl) ?_
  refine va_iast hx hb hK hP hD hS 1 0 rfl rfl (vp_in_nI (n := pn) (by omega) (by decide)) dX4_addMove_9 (fun H locs hP hD hS => ?_)
  have hP : va_P (dC, dI) vwCl [(pl, .inr (3, [.ref pf, .ref pg, .int (nI pn)])), (pf, .inl (c4, 2, .inl (upd ff (nI pn).toNatClampNeg x))), (pg, .inl (c5, 2, .inl fg))] H := hP
  have hD : va_D A [(pl, .inr (3, [.ref pf, .ref pg, .int (nI pn)])), (pf, .inl (c4, 2, .inl (upd ff (nI pn).toNatClampNeg x))), (pg, .inl (c5, 2, .inl fg))] := hD
  refine lv_aload_n hx hb dX4_addMove_10 rfl (lv_at hl 0 rfl) ?_
  refine va_get (D := (dC, dI)) (ci := 3) (v := .ref pg) (C := RX4) (T := TX4) (N := 3) hx hb hts iX4 hown hK hP 0 rfl rfl 1 (by decide) (hts (.fieldLink RX4 15 "ParkTower$Plan" "to" "[I") (by decide +kernel)) (fun _ h9 => h9) rfl dX4_addMove_11 ?_
  refine lv_aload_n hx hb dX4_addMove_14 rfl (lv_at hl 0 rfl) ?_
  refine va_get (D := (dC, dI)) (ci := 3) (v := .int (nI pn)) (C := RX4) (T := TX4) (N := 3) hx hb hts iX4 hown hK hP 0 rfl rfl 2 (by decide) (hts (.fieldLink RX4 18 "ParkTower$Plan" "count" "I") (by decide +kernel)) (fun _ h9 => h9) rfl dX4_addMove_15 ?_
  refine lv_iload_n hx hb dX4_addMove_18 rfl (lv_at hl 2 rfl) ?_
  refine va_iast hx hb hK hP hD hS 2 1 rfl rfl (vp_in_nI (n := pn) (by omega) (by decide)) dX4_addMove_19 (fun H locs hP hD hS => ?_)
  have hP : va_P (dC, dI) vwCl [(pl, .inr (3, [.ref pf, .ref pg, .int (nI pn)])), (pf, .inl (c4, 2, .inl (upd ff (nI pn).toNatClampNeg x))), (pg, .inl (c5, 2, .inl (upd fg (nI pn).toNatClampNeg y)))] H := hP
  have hD : va_D A [(pl, .inr (3, [.ref pf, .ref pg, .int (nI pn)])), (pf, .inl (c4, 2, .inl (upd ff (nI pn).toNatClampNeg x))), (pg, .inl (c5, 2, .inl (upd fg (nI pn).toNatClampNeg y)))] := hD
  refine lv_aload_n hx hb dX4_addMove_20 rfl (lv_at hl 0 rfl) ?_
  refine lv_dup hx hb dX4_addMove_21 rfl ?_
  refine va_get (D := (dC, dI)) (ci := 3) (v := .int (nI pn)) (C := RX4) (T := TX4) (N := 3) hx hb hts iX4 hown hK hP 0 rfl rfl 2 (by decide) (hts (.fieldLink RX4 18 "ParkTower$Plan" "count" "I") (by decide +kernel)) (fun _ h9 => h9) rfl dX4_addMove_22 ?_
  refine lv_iconst (v := 1) hx hb dX4_addMove_25 (by decide) ?_
  refine lv_iadd hx hb dX4_addMove_26 ?_
  refine pt_topi (nI (pn + 1)) (nI_add pn 1) ?_
  refine va_put (D := (dC, dI)) (ci := 3) (v := .int (nI (pn + 1))) (ty := .int) (C := RX4) (T := TX4) (N := 3) hx hb hts iX4 tyX4 tyX4_ok nmX4 hown hK hP hD hS 0 rfl rfl 2 (by decide) (hts (.fieldLink RX4 18 "ParkTower$Plan" "count" "I") (by decide +kernel)) (fun _ h9 => h9) rfl (by decide +kernel) rfl rfl (Nat.le_of_ble_eq_true rfl) dX4_addMove_27 (fun H locs hP hD hS => ?_)
  have hP : va_P (dC, dI) vwCl [(pl, .inr (3, [.ref pf, .ref pg, .int (nI (pn + 1))])), (pf, .inl (c4, 2, .inl (upd ff (nI pn).toNatClampNeg x))), (pg, .inl (c5, 2, .inl (upd fg (nI pn).toNatClampNeg y)))] H := hP
  have hD : va_D A [(pl, .inr (3, [.ref pf, .ref pg, .int (nI (pn + 1))])), (pf, .inl (c4, 2, .inl (upd ff (nI pn).toNatClampNeg x))), (pg, .inl (c5, 2, .inl (upd fg (nI pn).toNatClampNeg y)))] := hD
  have hP9 := hP.sub (ws' := [(pl, .inr (3, [.ref pf, .ref pg, .int (nI (pn + 1))])), (pf, .inl (c4, 2, .inl (upd ff (nI pn).toNatClampNeg x))), (pg, .inl (c5, 2, .inl (upd fg (nI pn).toNatClampNeg y)))]) [0, 1, 2] rfl
  have hD9 := hD.sub (ws' := [(pl, .inr (3, [.ref pf, .ref pg, .int (nI (pn + 1))])), (pf, .inl (c4, 2, .inl (upd ff (nI pn).toNatClampNeg x))), (pg, .inl (c5, 2, .inl (upd fg (nI pn).toNatClampNeg y)))]) [0, 1, 2] (by decide) rfl
  have hK9 := hK.sub (tys' := []) [] rfl
  refine W.widen (k := 0) (n := 0) (by omega) (by omega) ?_
  exact W.vret hx hb hr (fun t ht hW => ⟨⟨(upd ff (nI pn).toNatClampNeg x, upd fg (nI pn).toNatClampNeg y), rfl, ⟨fun i => s_upd h1 h3 i, fun i => s_upd h2 h4 i⟩, by rw [ht]; exact hP9, va_K.moved hW.alike hK9, hD9⟩, hS.F ht⟩) hS.2.2 dX4_addMove_30
set_option maxHeartbeats 4000000 in
set_option maxRecDepth 100000 in
theorem s_make (l : Launch) (dC : Nat → ClassId) (dI : Nat → Nat → Nat) (sz : Nat) (pl pf pg : Nat) (c4 c5 : ClassId) (ff fg : Nat → Int32) (rk hd jm : Nat) (cI : ClassId) (fh : Nat → Int32) (k : Nat) (pz : Int32) (hk : k < 96) (h1 : ∀ i, sC (ff i)) (h2 : ∀ i, sC (fg i)) : Met l yX4_make wsX4_make ({ frames := 3, cells := 0, slots := 0, locals := 66 }) (va_Pc [.ref pl, .ref rk, .int (nI k)] (pt_BQ (dC, dI) [(pl, .inr (3, [.ref pf, .ref pg, .int pz])), (pf, .inl (c4, 2, .inl ff)), (pg, .inl (c5, 2, .inl fg)), (rk, .inr (4, [.ref hd, .ref jm])), (hd, .inl (cI, 96, .inl fh))] [(c4, .int), (c5, .int), (cI, .int)] sz)) (va_Qi (fun (r : Int32) (u : Int32 × (Nat → Int32) × (Nat → Int32)) => (r = 0 ∨ r = 1) ∧ sP u.1 ∧ (∀ i, sC (u.2.1 i)) ∧ (∀ i, sC (u.2.2 i))) (fun u t => pt_at (dC, dI) (va_A [(pl, .inr (3, [.ref pf, .ref pg, .int pz])), (pf, .inl (c4, 2, .inl ff)), (pg, .inl (c5, 2, .inl fg)), (rk, .inr (4, [.ref hd, .ref jm])), (hd, .inl (cI, 96, .inl fh))] sz) [(pl, .inr (3, [.ref pf, .ref pg, .int u.1])), (pf, .inl (c4, 2, .inl u.2.1)), (pg, .inl (c5, 2, .inl u.2.2)), (rk, .inr (4, [.ref hd, .ref jm])), (hd, .inl (cI, 96, .inl fh))] [] t) (va_A [(pl, .inr (3, [.ref pf, .ref pg, .int pz])), (pf, .inl (c4, 2, .inl ff)), (pg, .inl (c5, 2, .inl fg)), (rk, .inr (4, [.ref hd, .ref jm])), (hd, .inl (cI, 96, .inl fh))] sz)) 0 0 (va_A [(pl, .inr (3, [.ref pf, .ref pg, .int pz])), (pf, .inl (c4, 2, .inl ff)), (pg, .inl (c5, 2, .inl fg)), (rk, .inr (4, [.ref hd, .ref jm])), (hd, .inl (cI, 96, .inl fh))] sz) := by
  refine Met.ofW (cc := cX4_make) (maxL := 5) (ret := (some .boolean)) (by decide) rfl ?_
  intro p e s m args below meth c s₁ B hml hv
  obtain ⟨rfl, hsz, hP, hK, hD0, hN⟩ := hv
  have hx := B.exec
  have hb := B.bytes
  have hr := B.returns
  have hts := atoms_spec (ws := wsX4_make) B.pre
  have hown : s.vm.findClass RX4 = some m.cls := findClass_of_methodNamed B.named
  have hlocks := B.notSynchronized
  have iX4 : ∀ w ∈ wsX40, w ∈ wsX4_make := by decide +kernel
  subst hsz
  have hD := hD0.self (sz := s.heap.size)
  generalize hAe : va_A [(pl, .inr (3, [.ref pf, .ref pg, .int pz])), (pf, .inl (c4, 2, .inl ff)), (pg, .inl (c5, 2, .inl fg)), (rk, .inr (4, [.ref hd, .ref jm])), (hd, .inl (cI, 96, .inl fh))] s.heap.size = A at hD ⊢
  have hA : ∀ q : Nat, s.heap.size ≤ q → A q := fun q h => by rw [← hAe]; exact Or.inr h
  have hS : va_S A s.heap s.heap [] := va_S.rf
  have hP : va_P (dC, dI) vwCl [(pl, .inr (3, [.ref pf, .ref pg, .int pz])), (pf, .inl (c4, 2, .inl ff)), (pg, .inl (c5, 2, .inl fg)), (rk, .inr (4, [.ref hd, .ref jm])), (hd, .inl (cI, 96, .inl fh))] s.heap := hP
  have hK : va_K (dC, dI) vwCl [(c4, .int), (c5, .int), (cI, .int)] s := hK
  have hl := lv_entry ([.ref pl, .ref rk, .int (nI k)]) (n := 5) (Nat.le_of_ble_eq_true rfl)
  rw [lg_entry_eq]
  generalize (lg_sl ([.ref pl, .ref rk, .int (nI k)]) ++ List.replicate (5 - (lg_sl ([.ref pl, .ref rk, .int (nI k)])).length) Slot.unset).toArray = ls at hl ⊢
  have hl : lv_has ls 5 [(0, .ref pl), (1, .ref rk), (2, .int (nI k))] := hl
  refine lv_aload_n hx hb dX4_make_0 rfl (lv_at hl 0 rfl) ?_
  refine lv_iconst (v := 0) hx hb dX4_make_1 (by decide) ?_
  refine va_put (D := (dC, dI)) (ci := 3) (v := .int 0) (ty := .int) (C := RX4) (T := TX4) (N := 3) hx hb hts iX4 tyX4 tyX4_ok nmX4 hown hK hP hD hS 0 rfl rfl 2 (by decide) (hts (.fieldLink RX4 18 "ParkTower$Plan" "count" "I") (by decide +kernel)) (fun _ h9 => h9) rfl (by decide +kernel) rfl rfl (Nat.le_of_ble_eq_true rfl) dX4_make_2 (fun H locs hP hD hS => ?_)
  have hP : va_P (dC, dI) vwCl [(pl, .inr (3, [.ref pf, .ref pg, .int 0])), (pf, .inl (c4, 2, .inl ff)), (pg, .inl (c5, 2, .inl fg)), (rk, .inr (4, [.ref hd, .ref jm])), (hd, .inl (cI, 96, .inl fh))] H := hP
  have hD : va_D A [(pl, .inr (3, [.ref pf, .ref pg, .int 0])), (pf, .inl (c4, 2, .inl ff)), (pg, .inl (c5, 2, .inl fg)), (rk, .inr (4, [.ref hd, .ref jm])), (hd, .inl (cI, 96, .inl fh))] := hD
  refine lv_aload_n hx hb dX4_make_5 rfl (lv_at hl 1 rfl) ?_
  refine lv_iload_n hx hb dX4_make_6 rfl (lv_at hl 2 rfl) ?_
  refine pt_cSi (va_runV (As := [.int (nI k)]) (rest := []) ⟨hx, hb, hml, hown, hts⟩ (s_isReached l dC dI rk hd jm cI fh k (by omega)) (cwV 1 hts gX4_make_X5_isReached rfl rfl rfl (by decide +kernel) ⟨Nat.le_of_ble_eq_true rfl, Nat.le_of_ble_eq_true rfl⟩) ⟨pt_blind, va_recv hK hP (ci := 4) (q0 := 3) rfl rfl, pt_pre (w := [(rk, .inr (4, [.ref hd, .ref jm])), (hd, .inl (cI, 96, .inl fh))]) (tys := [(cI, .int)]) (hP.sub [3, 4] rfl) (hK.sub [2] rfl) hN⟩ rfl rfl hl.1 rfl (lv_room (Nat.le_of_ble_eq_true rfl)) dX4_make_7 ⟨Nat.le_of_ble_eq_true rfl, Nat.le_of_ble_eq_true rfl⟩) (fun r_1 hr_1 => ?_)
  rcases hr_1 with rfl | ⟨rfl, ho_1⟩
  · skip
    refine lv_if_eq (tgt := 15) hx hb dX4_make_10 (by decide) (fun c => absurd c (by decide)) (fun _ => ?_)
    refine lv_iconst (v := 1) hx hb dX4_make_13 (by decide) ?_
    have hP9 := hP.sub (ws' := [(pl, .inr (3, [.ref pf, .ref pg, .int 0])), (pf, .inl (c4, 2, .inl ff)), (pg, .inl (c5, 2, .inl fg)), (rk, .inr (4, [.ref hd, .ref jm])), (hd, .inl (cI, 96, .inl fh))]) [0, 1, 2, 3, 4] rfl
    have hD9 := hD.sub (ws' := [(pl, .inr (3, [.ref pf, .ref pg, .int 0])), (pf, .inl (c4, 2, .inl ff)), (pg, .inl (c5, 2, .inl fg)), (rk, .inr (4, [.ref hd, .ref jm])), (hd, .inl (cI, 96, .inl fh))]) [0, 1, 2, 3, 4] (by decide) rfl
    have hK9 := hK.sub (tys' := []) [] rfl
    refine W.widen (k := 0) (n := 0) (by omega) (by omega) ?_
    exact W.zret (v := 1) (ty := .boolean) hx hb hr rfl (fun t ht hW => ⟨⟨1, (0, ff, fg), rfl, ⟨Or.inr rfl, Or.inr ⟨0, by decide, rfl⟩, h1, h2⟩, by rw [ht]; exact hP9, va_K.moved hW.alike hK9, hD9⟩, hS.F ht⟩) hS.2.2 dX4_make_14
  · skip
    refine lv_if_eq (tgt := 15) hx hb dX4_make_10 (by decide) (fun _ => ?_) (fun c => absurd (by decide) c)
    refine lv_iload_n hx hb dX4_make_15 rfl (lv_at hl 2 rfl) ?_
    refine pt_cSi (va_runSN (As := [.int (nI k)]) (rest := []) ⟨hx, hb, hml, hown, hts⟩ (s_levelOf l dC dI k (by omega)) ⟨va_cnB 1 hts gX4_make_X7_levelOf_n28 rfl rfl rfl (hN.1 (.methodLinkNest RX4 28 yX7_levelOf "ParkTower") (by decide +kernel)) (hts (.initialized RX7) (by decide +kernel)) (by decide +kernel) ⟨Nat.le_of_ble_eq_true rfl, Nat.le_of_ble_eq_true rfl⟩, hts (.static yX7_levelOf) (by decide +kernel), trivial⟩ ⟨pt_blind, pt_pre (w := []) (tys := []) (hP.sub [] rfl) (hK.sub [] rfl) hN⟩ rfl rfl hl.1 rfl (lv_room (Nat.le_of_ble_eq_true rfl)) dX4_make_16 ⟨Nat.le_of_ble_eq_true rfl, Nat.le_of_ble_eq_true rfl⟩) (fun r_2 hr_2 => ?_)
    obtain rfl : r_2 = nI (k / 24) := hr_2
    refine lv_istore_n (lv' := [(3, .int (nI (k / 24))), (0, .ref pl), (1, .ref rk), (2, .int (nI k))]) hx hb dX4_make_19 rfl hl (by decide) rfl (fun ls hl => ?_)
    refine lv_aload_n hx hb dX4_make_20 rfl (lv_at hl 2 rfl) ?_
    refine lv_iload_n hx hb dX4_make_21 rfl (lv_at hl 0 rfl) ?_
    refine pt_cSi (va_runV (As := [.int (nI (k / 24))]) (rest := []) ⟨hx, hb, hml, hown, hts⟩ (s_leastGoal l dC dI rk hd jm cI fh (k / 24) (by omega)) (cwV 1 hts gX4_make_X5_leastGoal rfl rfl rfl (by decide +kernel) ⟨Nat.le_of_ble_eq_true rfl, Nat.le_of_ble_eq_true rfl⟩) ⟨pt_blind, va_recv hK hP (ci := 4) (q0 := 3) rfl rfl, pt_pre (w := [(rk, .inr (4, [.ref hd, .ref jm])), (hd, .inl (cI, 96, .inl fh))]) (tys := [(cI, .int)]) (hP.sub [3, 4] rfl) (hK.sub [2] rfl) hN⟩ rfl rfl hl.1 rfl (lv_room (Nat.le_of_ble_eq_true rfl)) dX4_make_22 ⟨Nat.le_of_ble_eq_true rfl, Nat.le_of_ble_eq_true rfl⟩) (fun r_3 hr_3 => ?_)
    rcases hr_3 with rfl | ⟨j_3, hj_3, rfl⟩
    · skip
      refine lv_istore (lv' := [(4, .int (-1)), (3, .int (nI (k / 24))), (0, .ref pl), (1, .ref rk), (2, .int (nI k))]) hx hb dX4_make_25 hl (by decide) rfl (fun ls hl => ?_)
      refine lv_iload hx hb dX4_make_27 (lv_at hl 0 rfl) ?_
      refine lv_iconst (v := (-1)) hx hb dX4_make_29 (by decide) ?_
      refine lv_icmp_ne (tgt := 63) hx hb dX4_make_30 (by decide) (fun c => absurd (by decide) c) (fun _ => ?_)
      refine lv_aload_n hx hb dX4_make_33 rfl (lv_at hl 3 rfl) ?_
      refine lv_iload_n hx hb dX4_make_34 rfl (lv_at hl 1 rfl) ?_
      refine pt_cSi (va_runV (As := [.int (nI (k / 24))]) (rest := []) ⟨hx, hb, hml, hown, hts⟩ (s_leastStep l dC dI rk hd jm cI fh (k / 24) (by omega)) (cwV 1 hts gX4_make_X5_leastStepBack rfl rfl rfl (by decide +kernel) ⟨Nat.le_of_ble_eq_true rfl, Nat.le_of_ble_eq_true rfl⟩) ⟨pt_blind, va_recv hK hP (ci := 4) (q0 := 3) rfl rfl, pt_pre (w := [(rk, .inr (4, [.ref hd, .ref jm])), (hd, .inl (cI, 96, .inl fh))]) (tys := [(cI, .int)]) (hP.sub [3, 4] rfl) (hK.sub [2] rfl) hN⟩ rfl rfl hl.1 rfl (lv_room (Nat.le_of_ble_eq_true rfl)) dX4_make_35 ⟨Nat.le_of_ble_eq_true rfl, Nat.le_of_ble_eq_true rfl⟩) (fun r_4 hr_4 => ?_)
      rcases hr_4 with rfl | ⟨j_4, hj_4, rfl⟩
      · skip
        refine lv_istore (lv' := [(4, .int (-1)), (3, .int (nI (k / 24))), (0, .ref pl), (1, .ref rk), (2, .int (nI k))]) hx hb dX4_make_38 hl (by decide) rfl (fun ls hl => ?_)
        refine lv_iload hx hb dX4_make_40 (lv_at hl 0 rfl) ?_
        refine lv_iconst (v := (-1)) hx hb dX4_make_42 (by decide) ?_
        refine lv_icmp_ne (tgt := 53) hx hb dX4_make_43 (by decide) (fun c => absurd (by decide) c) (fun _ => ?_)
        refine lv_aload_n hx hb dX4_make_46 rfl (lv_at hl 2 rfl) ?_
        refine lv_iconst (v := (-1)) hx hb dX4_make_47 (by decide) ?_
        refine va_put (D := (dC, dI)) (ci := 3) (v := .int (-1)) (ty := .int) (C := RX4) (T := TX4) (N := 3) hx hb hts iX4 tyX4 tyX4_ok nmX4 hown hK hP hD hS 0 rfl rfl 2 (by decide) (hts (.fieldLink RX4 18 "ParkTower$Plan" "count" "I") (by decide +kernel)) (fun _ h9 => h9) rfl (by decide +kernel) rfl rfl (Nat.le_of_ble_eq_true rfl) dX4_make_48 (fun H locs hP hD hS => ?_)
        have hP : va_P (dC, dI) vwCl [(pl, .inr (3, [.ref pf, .ref pg, .int (-1)])), (pf, .inl (c4, 2, .inl ff)), (pg, .inl (c5, 2, .inl fg)), (rk, .inr (4, [.ref hd, .ref jm])), (hd, .inl (cI, 96, .inl fh))] H := hP
        have hD : va_D A [(pl, .inr (3, [.ref pf, .ref pg, .int (-1)])), (pf, .inl (c4, 2, .inl ff)), (pg, .inl (c5, 2, .inl fg)), (rk, .inr (4, [.ref hd, .ref jm])), (hd, .inl (cI, 96, .inl fh))] := hD
        refine lv_iconst (v := 0) hx hb dX4_make_51 (by decide) ?_
        have hP9 := hP.sub (ws' := [(pl, .inr (3, [.ref pf, .ref pg, .int (-1)])), (pf, .inl (c4, 2, .inl ff)), (pg, .inl (c5, 2, .inl fg)), (rk, .inr (4, [.ref hd, .ref jm])), (hd, .inl (cI, 96, .inl fh))]) [0, 1, 2, 3, 4] rfl
        have hD9 := hD.sub (ws' := [(pl, .inr (3, [.ref pf, .ref pg, .int (-1)])), (pf, .inl (c4, 2, .inl ff)), (pg, .inl (c5, 2, .inl fg)), (rk, .inr (4, [.ref hd, .ref jm])), (hd, .inl (cI, 96, .inl fh))]) [0, 1, 2, 3, 4] (by decide) rfl
        have hK9 := hK.sub (tys' := []) [] rfl
        refine W.widen (k := 0) (n := 0) (by omega) (by omega) ?_
        exact W.zret (v := 0) (ty := .boolean) hx hb hr rfl (fun t ht hW => ⟨⟨0, ((-1), ff, fg), rfl, ⟨Or.inl rfl, Or.inl rfl, h1, h2⟩, by rw [ht]; exact hP9, va_K.moved hW.alike hK9, hD9⟩, hS.F ht⟩) hS.2.2 dX4_make_52
      · have cm_4 : ¬ (nI j_4 = (-1)) := pt_nIm (by omega)
        refine lv_istore (lv' := [(4, .int (nI j_4)), (3, .int (nI (k / 24))), (0, .ref pl), (1, .ref rk), (2, .int (nI k))]) hx hb dX4_make_38 hl (by decide) rfl (fun ls hl => ?_)
        refine lv_iload hx hb dX4_make_40 (lv_at hl 0 rfl) ?_
        refine lv_iconst (v := (-1)) hx hb dX4_make_42 (by decide) ?_
        refine lv_icmp_ne (tgt := 53) hx hb dX4_make_43 (by decide) (fun _ => ?_) (fun c => absurd c (by assumption))
        refine lv_aload_n hx hb dX4_make_53 rfl (lv_at hl 2 rfl) ?_
        refine lv_iload hx hb dX4_make_54 (lv_at hl 0 rfl) ?_
        refine lv_iload hx hb dX4_make_56 (lv_at hl 0 rfl) ?_
        refine lv_iconst (v := 1) hx hb dX4_make_58 (by decide) ?_
        refine lv_iadd hx hb dX4_make_59 ?_
        refine pt_topi (nI (j_4 + 1)) (nI_add j_4 1) ?_
        have hPc := hP.sub (ws' := [(pl, .inr (3, [.ref pf, .ref pg, .int 0])), (pf, .inl (c4, 2, .inl ff)), (pg, .inl (c5, 2, .inl fg))]) [0, 1, 2] rfl
        have hDc := hD.sub (ws' := [(pl, .inr (3, [.ref pf, .ref pg, .int 0])), (pf, .inl (c4, 2, .inl ff)), (pg, .inl (c5, 2, .inl fg))]) [0, 1, 2] (by decide) rfl
        have hKc := hK.sub (tys' := [(c4, .int), (c5, .int)]) [0, 1] rfl
        have hFc := va_free (wc := [(pl, .inr (3, [.ref pf, .ref pg, .int 0])), (pf, .inl (c4, 2, .inl ff)), (pg, .inl (c5, 2, .inl fg))]) hD hS hA [0, 1, 2] rfl
        refine va_callv (va_runV (As := [.int (nI j_4), .int (nI (j_4 + 1))]) (rest := []) ⟨hx, hb, hml, hown, hts⟩ (s_addMove l dC dI _ pl pf pg c4 c5 ff fg 0 (nI j_4) (nI (j_4 + 1)) (by omega) h1 h2 ⟨j_4, by omega, rfl⟩ ⟨j_4 + 1, by omega, rfl⟩) (cwV 2 hts gX4_make_X4_addMove rfl rfl rfl (by decide +kernel) ⟨Nat.le_of_ble_eq_true rfl, Nat.le_of_ble_eq_true rfl⟩) ⟨pt_blindQ, va_recv hK hP (ci := 3) (q0 := 0) rfl rfl, pt_preQ hPc hKc hDc hN⟩ rfl rfl hl.1 rfl (lv_room (Nat.le_of_ble_eq_true rfl)) dX4_make_60 ⟨Nat.le_of_ble_eq_true rfl, Nat.le_of_ble_eq_true rfl⟩) hS (fun q _ h => hFc q h) hFc (fun u_5 t H1 locs ht hvm hw_5 hB hz1 hk1 hS => ?_)
        obtain ⟨f_5, g_5⟩ := u_5
        obtain ⟨hP1, hK1, hD1⟩ := hB
        obtain ⟨hf_5, hg_5⟩ := hw_5
        rw [ht] at hP1
        have hK1 := va_K.moved hvm.symm hK1
        obtain ⟨hP, hD⟩ := va_join (wr := [(rk, .inr (4, [.ref hd, .ref jm])), (hd, .inl (cI, 96, .inl fh))]) (w1 := [(pl, .inr (3, [.ref pf, .ref pg, .int 1])), (pf, .inl (c4, 2, .inl f_5)), (pg, .inl (c5, 2, .inl g_5))]) hP hD [0, 1, 2] [3, 4] rfl rfl (by decide) (by decide) hk1 hFc hP1 hD1
        have hK := hK.app hK1
        generalize H1 = H at hP hS ⊢
        have hP : va_P (dC, dI) vwCl [(rk, .inr (4, [.ref hd, .ref jm])), (hd, .inl (cI, 96, .inl fh)), (pl, .inr (3, [.ref pf, .ref pg, .int 1])), (pf, .inl (c4, 2, .inl f_5)), (pg, .inl (c5, 2, .inl g_5))] H := hP
        have hD : va_D A [(rk, .inr (4, [.ref hd, .ref jm])), (hd, .inl (cI, 96, .inl fh)), (pl, .inr (3, [.ref pf, .ref pg, .int 1])), (pf, .inl (c4, 2, .inl f_5)), (pg, .inl (c5, 2, .inl g_5))] := hD
        have hK : va_K (dC, dI) vwCl [(c4, .int), (c5, .int), (cI, .int)] s := hK
        refine lv_aload_n hx hb dX4_make_63 rfl (lv_at hl 2 rfl) ?_
        refine lv_iload_n hx hb dX4_make_64 rfl (lv_at hl 4 rfl) ?_
        refine lv_iconst (v := 1) hx hb dX4_make_65 (by decide) ?_
        refine lv_isub hx hb dX4_make_66 ?_
        refine pt_topi (nI (k - 1)) (pk_sub (a := k) (b := 1) (by omega)) ?_
        refine lv_iload hx hb dX4_make_67 (lv_at hl 0 rfl) ?_
        have hPc := hP.sub (ws' := [(pl, .inr (3, [.ref pf, .ref pg, .int 1])), (pf, .inl (c4, 2, .inl f_5)), (pg, .inl (c5, 2, .inl g_5))]) [2, 3, 4] rfl
        have hDc := hD.sub (ws' := [(pl, .inr (3, [.ref pf, .ref pg, .int 1])), (pf, .inl (c4, 2, .inl f_5)), (pg, .inl (c5, 2, .inl g_5))]) [2, 3, 4] (by decide) rfl
        have hKc := hK.sub (tys' := [(c4, .int), (c5, .int)]) [0, 1] rfl
        have hFc := va_free (wc := [(pl, .inr (3, [.ref pf, .ref pg, .int 1])), (pf, .inl (c4, 2, .inl f_5)), (pg, .inl (c5, 2, .inl g_5))]) hD hS hA [2, 3, 4] rfl
        refine va_callv (va_runV (As := [.int (nI (k - 1)), .int (nI j_4)]) (rest := []) ⟨hx, hb, hml, hown, hts⟩ (s_addMove l dC dI _ pl pf pg c4 c5 f_5 g_5 1 (nI (k - 1)) (nI j_4) (by omega) hf_5 hg_5 ⟨k - 1, by omega, rfl⟩ ⟨j_4, by omega, rfl⟩) (cwV 2 hts gX4_make_X4_addMove rfl rfl rfl (by decide +kernel) ⟨Nat.le_of_ble_eq_true rfl, Nat.le_of_ble_eq_true rfl⟩) ⟨pt_blindQ, va_recv hK hP (ci := 3) (q0 := 2) rfl rfl, pt_preQ hPc hKc hDc hN⟩ rfl rfl hl.1 rfl (lv_room (Nat.le_of_ble_eq_true rfl)) dX4_make_69 ⟨Nat.le_of_ble_eq_true rfl, Nat.le_of_ble_eq_true rfl⟩) hS (fun q _ h => hFc q h) hFc (fun u_6 t H1 locs ht hvm hw_6 hB hz1 hk1 hS => ?_)
        obtain ⟨f_6, g_6⟩ := u_6
        obtain ⟨hP1, hK1, hD1⟩ := hB
        obtain ⟨hf_6, hg_6⟩ := hw_6
        rw [ht] at hP1
        have hK1 := va_K.moved hvm.symm hK1
        obtain ⟨hP, hD⟩ := va_join (wr := [(rk, .inr (4, [.ref hd, .ref jm])), (hd, .inl (cI, 96, .inl fh))]) (w1 := [(pl, .inr (3, [.ref pf, .ref pg, .int 2])), (pf, .inl (c4, 2, .inl f_6)), (pg, .inl (c5, 2, .inl g_6))]) hP hD [2, 3, 4] [0, 1] rfl rfl (by decide) (by decide) hk1 hFc hP1 hD1
        have hK := hK.app hK1
        generalize H1 = H at hP hS ⊢
        have hP : va_P (dC, dI) vwCl [(rk, .inr (4, [.ref hd, .ref jm])), (hd, .inl (cI, 96, .inl fh)), (pl, .inr (3, [.ref pf, .ref pg, .int 2])), (pf, .inl (c4, 2, .inl f_6)), (pg, .inl (c5, 2, .inl g_6))] H := hP
        have hD : va_D A [(rk, .inr (4, [.ref hd, .ref jm])), (hd, .inl (cI, 96, .inl fh)), (pl, .inr (3, [.ref pf, .ref pg, .int 2])), (pf, .inl (c4, 2, .inl f_6)), (pg, .inl (c5, 2, .inl g_6))] := hD
        have hK : va_K (dC, dI) vwCl [(c4, .int), (c5, .int), (cI, .int)] s := hK
        refine lv_iconst (v := 1) hx hb dX4_make_72 (by decide) ?_
        have hP9 := hP.sub (ws' := [(pl, .inr (3, [.ref pf, .ref pg, .int 2])), (pf, .inl (c4, 2, .inl f_6)), (pg, .inl (c5, 2, .inl g_6)), (rk, .inr (4, [.ref hd, .ref jm])), (hd, .inl (cI, 96, .inl fh))]) [2, 3, 4, 0, 1] rfl
        have hD9 := hD.sub (ws' := [(pl, .inr (3, [.ref pf, .ref pg, .int 2])), (pf, .inl (c4, 2, .inl f_6)), (pg, .inl (c5, 2, .inl g_6)), (rk, .inr (4, [.ref hd, .ref jm])), (hd, .inl (cI, 96, .inl fh))]) [2, 3, 4, 0, 1] (by decide) rfl
        have hK9 := hK.sub (tys' := []) [] rfl
        refine W.widen (k := 0) (n := 0) (by omega) (by omega) ?_
        exact W.zret (v := 1) (ty := .boolean) hx hb hr rfl (fun t ht hW => ⟨⟨1, (2, f_6, g_6), rfl, ⟨Or.inr rfl, Or.inr ⟨2, by decide, rfl⟩, hf_6, hg_6⟩, by rw [ht]; exact hP9, va_K.moved hW.alike hK9, hD9⟩, hS.F ht⟩) hS.2.2 dX4_make_73
    · have cm_3 : ¬ (nI j_3 = (-1)) := pt_nIm (by omega)
      refine lv_istore (lv' := [(4, .int (nI j_3)), (3, .int (nI (k / 24))), (0, .ref pl), (1, .ref rk), (2, .int (nI k))]) hx hb dX4_make_25 hl (by decide) rfl (fun ls hl => ?_)
      refine lv_iload hx hb dX4_make_27 (lv_at hl 0 rfl) ?_
      refine lv_iconst (v := (-1)) hx hb dX4_make_29 (by decide) ?_
      refine lv_icmp_ne (tgt := 63) hx hb dX4_make_30 (by decide) (fun _ => ?_) (fun c => absurd c (by assumption))
      refine lv_aload_n hx hb dX4_make_63 rfl (lv_at hl 2 rfl) ?_
      refine lv_iload_n hx hb dX4_make_64 rfl (lv_at hl 4 rfl) ?_
      refine lv_iconst (v := 1) hx hb dX4_make_65 (by decide) ?_
      refine lv_isub hx hb dX4_make_66 ?_
      refine pt_topi (nI (k - 1)) (pk_sub (a := k) (b := 1) (by omega)) ?_
      refine lv_iload hx hb dX4_make_67 (lv_at hl 0 rfl) ?_
      have hPc := hP.sub (ws' := [(pl, .inr (3, [.ref pf, .ref pg, .int 0])), (pf, .inl (c4, 2, .inl ff)), (pg, .inl (c5, 2, .inl fg))]) [0, 1, 2] rfl
      have hDc := hD.sub (ws' := [(pl, .inr (3, [.ref pf, .ref pg, .int 0])), (pf, .inl (c4, 2, .inl ff)), (pg, .inl (c5, 2, .inl fg))]) [0, 1, 2] (by decide) rfl
      have hKc := hK.sub (tys' := [(c4, .int), (c5, .int)]) [0, 1] rfl
      have hFc := va_free (wc := [(pl, .inr (3, [.ref pf, .ref pg, .int 0])), (pf, .inl (c4, 2, .inl ff)), (pg, .inl (c5, 2, .inl fg))]) hD hS hA [0, 1, 2] rfl
      refine va_callv (va_runV (As := [.int (nI (k - 1)), .int (nI j_3)]) (rest := []) ⟨hx, hb, hml, hown, hts⟩ (s_addMove l dC dI _ pl pf pg c4 c5 ff fg 0 (nI (k - 1)) (nI j_3) (by omega) h1 h2 ⟨k - 1, by omega, rfl⟩ ⟨j_3, by omega, rfl⟩) (cwV 2 hts gX4_make_X4_addMove rfl rfl rfl (by decide +kernel) ⟨Nat.le_of_ble_eq_true rfl, Nat.le_of_ble_eq_true rfl⟩) ⟨pt_blindQ, va_recv hK hP (ci := 3) (q0 := 0) rfl rfl, pt_preQ hPc hKc hDc hN⟩ rfl rfl hl.1 rfl (lv_room (Nat.le_of_ble_eq_true rfl)) dX4_make_69 ⟨Nat.le_of_ble_eq_true rfl, Nat.le_of_ble_eq_true rfl⟩) hS (fun q _ h => hFc q h) hFc (fun u_7 t H1 locs ht hvm hw_7 hB hz1 hk1 hS => ?_)
      obtain ⟨f_7, g_7⟩ := u_7
      obtain ⟨hP1, hK1, hD1⟩ := hB
      obtain ⟨hf_7, hg_7⟩ := hw_7
      rw [ht] at hP1
      have hK1 := va_K.moved hvm.symm hK1
      obtain ⟨hP, hD⟩ := va_join (wr := [(rk, .inr (4, [.ref hd, .ref jm])), (hd, .inl (cI, 96, .inl fh))]) (w1 := [(pl, .inr (3, [.ref pf, .ref pg, .int 1])), (pf, .inl (c4, 2, .inl f_7)), (pg, .inl (c5, 2, .inl g_7))]) hP hD [0, 1, 2] [3, 4] rfl rfl (by decide) (by decide) hk1 hFc hP1 hD1
      have hK := hK.app hK1
      generalize H1 = H at hP hS ⊢
      have hP : va_P (dC, dI) vwCl [(rk, .inr (4, [.ref hd, .ref jm])), (hd, .inl (cI, 96, .inl fh)), (pl, .inr (3, [.ref pf, .ref pg, .int 1])), (pf, .inl (c4, 2, .inl f_7)), (pg, .inl (c5, 2, .inl g_7))] H := hP
      have hD : va_D A [(rk, .inr (4, [.ref hd, .ref jm])), (hd, .inl (cI, 96, .inl fh)), (pl, .inr (3, [.ref pf, .ref pg, .int 1])), (pf, .inl (c4, 2, .inl f_7)), (pg, .inl (c5, 2, .inl g_7))] := hD
      have hK : va_K (dC, dI) vwCl [(c4, .int), (c5, .int), (cI, .int)] s := hK
      refine lv_iconst (v := 1) hx hb dX4_make_72 (by decide) ?_
      have hP9 := hP.sub (ws' := [(pl, .inr (3, [.ref pf, .ref pg, .int 1])), (pf, .inl (c4, 2, .inl f_7)), (pg, .inl (c5, 2, .inl g_7)), (rk, .inr (4, [.ref hd, .ref jm])), (hd, .inl (cI, 96, .inl fh))]) [2, 3, 4, 0, 1] rfl
      have hD9 := hD.sub (ws' := [(pl, .inr (3, [.ref pf, .ref pg, .int 1])), (pf, .inl (c4, 2, .inl f_7)), (pg, .inl (c5, 2, .inl g_7)), (rk, .inr (4, [.ref hd, .ref jm])), (hd, .inl (cI, 96, .inl fh))]) [2, 3, 4, 0, 1] (by decide) rfl
      have hK9 := hK.sub (tys' := []) [] rfl
      refine W.widen (k := 0) (n := 0) (by omega) (by omega) ?_
      exact W.zret (v := 1) (ty := .boolean) hx hb hr rfl (fun t ht hW => ⟨⟨1, (1, f_7, g_7), rfl, ⟨Or.inr rfl, Or.inr ⟨1, by decide, rfl⟩, hf_7, hg_7⟩, by rw [ht]; exact hP9, va_K.moved hW.alike hK9, hD9⟩, hS.F ht⟩) hS.2.2 dX4_make_73
