set_option maxHeartbeats 4000000 in
set_option maxRecDepth 100000 in
theorem s_storeStep (l : Launch) (dC : Nat → ClassId) (dI : Nat → Nat → Nat) (ad : Nat → Nat) (sm : Nat) (x rk ba od j ap : Nat) (li pw rs tm : Int32) (sr : Nat) (pl s5 : Nat) (jo jc jt : Int32) (h5 : s5 ≤ 5) : Met l yX7_storeStep wsX7_storeStep ({ frames := 0, cells := 0, slots := 0, locals := 0 }) (va_Pc [.ref x] (pt_BE (dC, dI) [(x, .inr (5, [.ref rk, .ref ba, .ref od, .ref j, .ref ap, .int li, .int pw, .int rs, .int tm, .int (nI sr)])), (j, .inr (1, [.ref pl, .int jo, .int jc, .int (nI s5), .int jt]))] [] ad sm)) (va_Se ad (fun r : Option Nat => ∃ i : Nat, i < 7 ∧ r = some i ∧ (i = 6 → 1 ≤ s5 ∧ s5 ≤ 2))) 0 0 (fun _ => False) := by
  refine Met.ofW (cc := cX7_storeStep) (maxL := 1) (ret := (some (.object "ParkTower$Step"))) (by decide) rfl ?_
  intro p e s m args below meth c s₁ B hml hv
  obtain ⟨rfl, ⟨hP, hK, hN⟩, hEN⟩ := hv
  have hx := B.exec
  have hb := B.bytes
  have hr := B.returns
  have hts := atoms_spec (ws := wsX7_storeStep) B.pre
  have hown : s.vm.findClass RX7 = some m.cls := findClass_of_methodNamed B.named
  have hlocks := B.notSynchronized
  have iX2 : ∀ w ∈ wsX20, w ∈ wsX7_storeStep := by decide +kernel
  have iX7 : ∀ w ∈ wsX70, w ∈ wsX7_storeStep := by decide +kernel
  have hS : va_S (fun _ => False) s.heap s.heap [] := va_S.rf
  have hP : va_P (dC, dI) vwCl [(x, .inr (5, [.ref rk, .ref ba, .ref od, .ref j, .ref ap, .int li, .int pw, .int rs, .int tm, .int (nI sr)])), (j, .inr (1, [.ref pl, .int jo, .int jc, .int (nI s5), .int jt]))] s.heap := hP
  have hK : va_K (dC, dI) vwCl [] s := hK
  have hl := lv_entry ([.ref x]) (n := 1) (Nat.le_of_ble_eq_true rfl)
  rw [lg_entry_eq]
  generalize (lg_sl ([.ref x]) ++ List.replicate (1 - (lg_sl ([.ref x])).length) Slot.unset).toArray = ls at hl ⊢
  have hl : lv_has ls 1 [(0, .ref x)] := hl
  rcases (show s5 = 0 ∨ s5 = 1 ∨ s5 = 2 ∨ s5 = 3 ∨ s5 = 4 ∨ s5 = 5 by omega) with rfl | rfl | rfl | rfl | rfl | rfl
  · have hP : va_P (dC, dI) vwCl [(x, .inr (5, [.ref rk, .ref ba, .ref od, .ref j, .ref ap, .int li, .int pw, .int rs, .int tm, .int (nI sr)])), (j, .inr (1, [.ref pl, .int jo, .int jc, .int 0, .int jt]))] s.heap := hP
    refine lv_aload_n hx hb dX7_storeStep_0 rfl (lv_at hl 0 rfl) ?_
    refine va_get (D := (dC, dI)) (ci := 5) (v := .ref j) (C := RX7) (T := TX7) (N := 10) hx hb hts iX7 hown hK hP 0 rfl rfl 3 (by decide) (hts (.fieldLink RX7 33 "ParkTower" "job" "LParkTower$Job;") (by decide +kernel)) (fun _ h9 => h9) rfl dX7_storeStep_1 ?_
    refine va_getN (D := (dC, dI)) (ci := 1) (v := .int 0) (C := RX2) (T := TX2) (N := 5) hx hb hts iX2 hown hK hP 1 rfl rfl 3 (by decide) (va_Nw.use rfl (hN.1 (.fieldLinkNest RX7 173 "ParkTower$Job" "stepsEnded" "I" "ParkTower") (by decide +kernel))) (fun _ h9 => h9) rfl dX7_storeStep_4 ?_
    refine lv_tableIn (off := 25) (tgt := 32) hx hb dX7_storeStep_7 (by decide) (by decide) (by decide) (by decide) ?_
    refine va_gets (C := "ParkTower$Step") (n := "LIFT_TO_GROUND") (d := "LParkTower$Step;") (v := .ref (ad 0)) hx hb (hEN.1.1 0 (by decide)).1 hS hown (hts (.fieldLink RX7 292 "ParkTower$Step" "LIFT_TO_GROUND" "LParkTower$Step;") (by decide +kernel)) (fun _ h9 => h9) dX7_storeStep_32 ?_
    exact W.aret (v := .ref (ad 0)) (rt := .object "ParkTower$Step") hx hb hr (Or.inl ⟨_, rfl⟩) (Or.inr ⟨_, rfl⟩) (fun t ht hW => ⟨some 0, rfl, ⟨0, by decide, rfl, by omega⟩, ht⟩) (fun q h => by cases h) dX7_storeStep_35
  · have hP : va_P (dC, dI) vwCl [(x, .inr (5, [.ref rk, .ref ba, .ref od, .ref j, .ref ap, .int li, .int pw, .int rs, .int tm, .int (nI sr)])), (j, .inr (1, [.ref pl, .int jo, .int jc, .int 1, .int jt]))] s.heap := hP
    refine lv_aload_n hx hb dX7_storeStep_0 rfl (lv_at hl 0 rfl) ?_
    refine va_get (D := (dC, dI)) (ci := 5) (v := .ref j) (C := RX7) (T := TX7) (N := 10) hx hb hts iX7 hown hK hP 0 rfl rfl 3 (by decide) (hts (.fieldLink RX7 33 "ParkTower" "job" "LParkTower$Job;") (by decide +kernel)) (fun _ h9 => h9) rfl dX7_storeStep_1 ?_
    refine va_getN (D := (dC, dI)) (ci := 1) (v := .int 1) (C := RX2) (T := TX2) (N := 5) hx hb hts iX2 hown hK hP 1 rfl rfl 3 (by decide) (va_Nw.use rfl (hN.1 (.fieldLinkNest RX7 173 "ParkTower$Job" "stepsEnded" "I" "ParkTower") (by decide +kernel))) (fun _ h9 => h9) rfl dX7_storeStep_4 ?_
    refine lv_tableIn (off := 29) (tgt := 36) hx hb dX7_storeStep_7 (by decide) (by decide) (by decide) (by decide) ?_
    refine va_gets (C := "ParkTower$Step") (n := "FROM_BAY") (d := "LParkTower$Step;") (v := .ref (ad 2)) hx hb (hEN.1.1 2 (by decide)).1 hS hown (hts (.fieldLink RX7 296 "ParkTower$Step" "FROM_BAY" "LParkTower$Step;") (by decide +kernel)) (fun _ h9 => h9) dX7_storeStep_36 ?_
    exact W.aret (v := .ref (ad 2)) (rt := .object "ParkTower$Step") hx hb hr (Or.inl ⟨_, rfl⟩) (Or.inr ⟨_, rfl⟩) (fun t ht hW => ⟨some 2, rfl, ⟨2, by decide, rfl, by omega⟩, ht⟩) (fun q h => by cases h) dX7_storeStep_39
  · have hP : va_P (dC, dI) vwCl [(x, .inr (5, [.ref rk, .ref ba, .ref od, .ref j, .ref ap, .int li, .int pw, .int rs, .int tm, .int (nI sr)])), (j, .inr (1, [.ref pl, .int jo, .int jc, .int 2, .int jt]))] s.heap := hP
    refine lv_aload_n hx hb dX7_storeStep_0 rfl (lv_at hl 0 rfl) ?_
    refine va_get (D := (dC, dI)) (ci := 5) (v := .ref j) (C := RX7) (T := TX7) (N := 10) hx hb hts iX7 hown hK hP 0 rfl rfl 3 (by decide) (hts (.fieldLink RX7 33 "ParkTower" "job" "LParkTower$Job;") (by decide +kernel)) (fun _ h9 => h9) rfl dX7_storeStep_1 ?_
    refine va_getN (D := (dC, dI)) (ci := 1) (v := .int 2) (C := RX2) (T := TX2) (N := 5) hx hb hts iX2 hown hK hP 1 rfl rfl 3 (by decide) (va_Nw.use rfl (hN.1 (.fieldLinkNest RX7 173 "ParkTower$Job" "stepsEnded" "I" "ParkTower") (by decide +kernel))) (fun _ h9 => h9) rfl dX7_storeStep_4 ?_
    refine lv_tableIn (off := 33) (tgt := 40) hx hb dX7_storeStep_7 (by decide) (by decide) (by decide) (by decide) ?_
    refine va_gets (C := "ParkTower$Step") (n := "LIFT_TO_LEVEL") (d := "LParkTower$Step;") (v := .ref (ad 1)) hx hb (hEN.1.1 1 (by decide)).1 hS hown (hts (.fieldLink RX7 299 "ParkTower$Step" "LIFT_TO_LEVEL" "LParkTower$Step;") (by decide +kernel)) (fun _ h9 => h9) dX7_storeStep_40 ?_
    exact W.aret (v := .ref (ad 1)) (rt := .object "ParkTower$Step") hx hb hr (Or.inl ⟨_, rfl⟩) (Or.inr ⟨_, rfl⟩) (fun t ht hW => ⟨some 1, rfl, ⟨1, by decide, rfl, by omega⟩, ht⟩) (fun q h => by cases h) dX7_storeStep_43
  · have hP : va_P (dC, dI) vwCl [(x, .inr (5, [.ref rk, .ref ba, .ref od, .ref j, .ref ap, .int li, .int pw, .int rs, .int tm, .int (nI sr)])), (j, .inr (1, [.ref pl, .int jo, .int jc, .int 3, .int jt]))] s.heap := hP
    refine lv_aload_n hx hb dX7_storeStep_0 rfl (lv_at hl 0 rfl) ?_
    refine va_get (D := (dC, dI)) (ci := 5) (v := .ref j) (C := RX7) (T := TX7) (N := 10) hx hb hts iX7 hown hK hP 0 rfl rfl 3 (by decide) (hts (.fieldLink RX7 33 "ParkTower" "job" "LParkTower$Job;") (by decide +kernel)) (fun _ h9 => h9) rfl dX7_storeStep_1 ?_
    refine va_getN (D := (dC, dI)) (ci := 1) (v := .int 3) (C := RX2) (T := TX2) (N := 5) hx hb hts iX2 hown hK hP 1 rfl rfl 3 (by decide) (va_Nw.use rfl (hN.1 (.fieldLinkNest RX7 173 "ParkTower$Job" "stepsEnded" "I" "ParkTower") (by decide +kernel))) (fun _ h9 => h9) rfl dX7_storeStep_4 ?_
    refine lv_tableOut (tgt := 44) hx hb dX7_storeStep_7 (by decide) (by decide) ?_
    refine va_gets (C := "ParkTower$Step") (n := "INTO_CELL") (d := "LParkTower$Step;") (v := .ref (ad 5)) hx hb (hEN.1.1 5 (by decide)).1 hS hown (hts (.fieldLink RX7 302 "ParkTower$Step" "INTO_CELL" "LParkTower$Step;") (by decide +kernel)) (fun _ h9 => h9) dX7_storeStep_44 ?_
    exact W.aret (v := .ref (ad 5)) (rt := .object "ParkTower$Step") hx hb hr (Or.inl ⟨_, rfl⟩) (Or.inr ⟨_, rfl⟩) (fun t ht hW => ⟨some 5, rfl, ⟨5, by decide, rfl, by omega⟩, ht⟩) (fun q h => by cases h) dX7_storeStep_47
  · have hP : va_P (dC, dI) vwCl [(x, .inr (5, [.ref rk, .ref ba, .ref od, .ref j, .ref ap, .int li, .int pw, .int rs, .int tm, .int (nI sr)])), (j, .inr (1, [.ref pl, .int jo, .int jc, .int 4, .int jt]))] s.heap := hP
    refine lv_aload_n hx hb dX7_storeStep_0 rfl (lv_at hl 0 rfl) ?_
    refine va_get (D := (dC, dI)) (ci := 5) (v := .ref j) (C := RX7) (T := TX7) (N := 10) hx hb hts iX7 hown hK hP 0 rfl rfl 3 (by decide) (hts (.fieldLink RX7 33 "ParkTower" "job" "LParkTower$Job;") (by decide +kernel)) (fun _ h9 => h9) rfl dX7_storeStep_1 ?_
    refine va_getN (D := (dC, dI)) (ci := 1) (v := .int 4) (C := RX2) (T := TX2) (N := 5) hx hb hts iX2 hown hK hP 1 rfl rfl 3 (by decide) (va_Nw.use rfl (hN.1 (.fieldLinkNest RX7 173 "ParkTower$Job" "stepsEnded" "I" "ParkTower") (by decide +kernel))) (fun _ h9 => h9) rfl dX7_storeStep_4 ?_
    refine lv_tableOut (tgt := 44) hx hb dX7_storeStep_7 (by decide) (by decide) ?_
    refine va_gets (C := "ParkTower$Step") (n := "INTO_CELL") (d := "LParkTower$Step;") (v := .ref (ad 5)) hx hb (hEN.1.1 5 (by decide)).1 hS hown (hts (.fieldLink RX7 302 "ParkTower$Step" "INTO_CELL" "LParkTower$Step;") (by decide +kernel)) (fun _ h9 => h9) dX7_storeStep_44 ?_
    exact W.aret (v := .ref (ad 5)) (rt := .object "ParkTower$Step") hx hb hr (Or.inl ⟨_, rfl⟩) (Or.inr ⟨_, rfl⟩) (fun t ht hW => ⟨some 5, rfl, ⟨5, by decide, rfl, by omega⟩, ht⟩) (fun q h => by cases h) dX7_storeStep_47
  · have hP : va_P (dC, dI) vwCl [(x, .inr (5, [.ref rk, .ref ba, .ref od, .ref j, .ref ap, .int li, .int pw, .int rs, .int tm, .int (nI sr)])), (j, .inr (1, [.ref pl, .int jo, .int jc, .int 5, .int jt]))] s.heap := hP
    refine lv_aload_n hx hb dX7_storeStep_0 rfl (lv_at hl 0 rfl) ?_
    refine va_get (D := (dC, dI)) (ci := 5) (v := .ref j) (C := RX7) (T := TX7) (N := 10) hx hb hts iX7 hown hK hP 0 rfl rfl 3 (by decide) (hts (.fieldLink RX7 33 "ParkTower" "job" "LParkTower$Job;") (by decide +kernel)) (fun _ h9 => h9) rfl dX7_storeStep_1 ?_
    refine va_getN (D := (dC, dI)) (ci := 1) (v := .int 5) (C := RX2) (T := TX2) (N := 5) hx hb hts iX2 hown hK hP 1 rfl rfl 3 (by decide) (va_Nw.use rfl (hN.1 (.fieldLinkNest RX7 173 "ParkTower$Job" "stepsEnded" "I" "ParkTower") (by decide +kernel))) (fun _ h9 => h9) rfl dX7_storeStep_4 ?_
    refine lv_tableOut (tgt := 44) hx hb dX7_storeStep_7 (by decide) (by decide) ?_
    refine va_gets (C := "ParkTower$Step") (n := "INTO_CELL") (d := "LParkTower$Step;") (v := .ref (ad 5)) hx hb (hEN.1.1 5 (by decide)).1 hS hown (hts (.fieldLink RX7 302 "ParkTower$Step" "INTO_CELL" "LParkTower$Step;") (by decide +kernel)) (fun _ h9 => h9) dX7_storeStep_44 ?_
    exact W.aret (v := .ref (ad 5)) (rt := .object "ParkTower$Step") hx hb hr (Or.inl ⟨_, rfl⟩) (Or.inr ⟨_, rfl⟩) (fun t ht hW => ⟨some 5, rfl, ⟨5, by decide, rfl, by omega⟩, ht⟩) (fun q h => by cases h) dX7_storeStep_47
set_option maxHeartbeats 4000000 in
set_option maxRecDepth 100000 in
theorem s_fetchStep (l : Launch) (dC : Nat → ClassId) (dI : Nat → Nat → Nat) (ad : Nat → Nat) (sm : Nat) (x rk ba od j ap : Nat) (li pw rs tm : Int32) (sr : Nat) (pl s5 : Nat) (jo jc jt : Int32) (pf pg : Nat) (c4 c5 : ClassId) (ff fg : Nat → Int32) (pz : Int32) (h5 : s5 ≤ 5) (hz : sP pz) : Met l yX7_fetchStep wsX7_fetchStep ({ frames := 1, cells := 0, slots := 0, locals := 25 }) (va_Pc [.ref x] (pt_BE (dC, dI) [(x, .inr (5, [.ref rk, .ref ba, .ref od, .ref j, .ref ap, .int li, .int pw, .int rs, .int tm, .int (nI sr)])), (j, .inr (1, [.ref pl, .int jo, .int jc, .int (nI s5), .int jt])), (pl, .inr (3, [.ref pf, .ref pg, .int pz])), (pf, .inl (c4, 2, .inl ff)), (pg, .inl (c5, 2, .inl fg))] [(c4, .int), (c5, .int)] ad sm)) (va_Se ad (fun r : Option Nat => ∃ i : Nat, i < 7 ∧ r = some i ∧ (i = 6 → 1 ≤ s5 ∧ s5 ≤ 2))) 0 0 (fun _ => False) := by
  refine Met.ofW (cc := cX7_fetchStep) (maxL := 1) (ret := (some (.object "ParkTower$Step"))) (by decide) rfl ?_
  intro p e s m args below meth c s₁ B hml hv
  obtain ⟨rfl, ⟨hP, hK, hN⟩, hEN⟩ := hv
  have hx := B.exec
  have hb := B.bytes
  have hr := B.returns
  have hts := atoms_spec (ws := wsX7_fetchStep) B.pre
  have hown : s.vm.findClass RX7 = some m.cls := findClass_of_methodNamed B.named
  have hlocks := B.notSynchronized
  have iX2 : ∀ w ∈ wsX20, w ∈ wsX7_fetchStep := by decide +kernel
  have iX4 : ∀ w ∈ wsX40, w ∈ wsX7_fetchStep := by decide +kernel
  have iX7 : ∀ w ∈ wsX70, w ∈ wsX7_fetchStep := by decide +kernel
  have hS : va_S (fun _ => False) s.heap s.heap [] := va_S.rf
  have hP : va_P (dC, dI) vwCl [(x, .inr (5, [.ref rk, .ref ba, .ref od, .ref j, .ref ap, .int li, .int pw, .int rs, .int tm, .int (nI sr)])), (j, .inr (1, [.ref pl, .int jo, .int jc, .int (nI s5), .int jt])), (pl, .inr (3, [.ref pf, .ref pg, .int pz])), (pf, .inl (c4, 2, .inl ff)), (pg, .inl (c5, 2, .inl fg))] s.heap := hP
  have hK : va_K (dC, dI) vwCl [(c4, .int), (c5, .int)] s := hK
  have hl := lv_entry ([.ref x]) (n := 1) (Nat.le_of_ble_eq_true rfl)
  rw [lg_entry_eq]
  generalize (lg_sl ([.ref x]) ++ List.replicate (1 - (lg_sl ([.ref x])).length) Slot.unset).toArray = ls at hl ⊢
  have hl : lv_has ls 1 [(0, .ref x)] := hl
  rcases (show s5 = 0 ∨ s5 = 1 ∨ s5 = 2 ∨ s5 = 3 ∨ s5 = 4 ∨ s5 = 5 by omega) with rfl | rfl | rfl | rfl | rfl | rfl
  · have hP : va_P (dC, dI) vwCl [(x, .inr (5, [.ref rk, .ref ba, .ref od, .ref j, .ref ap, .int li, .int pw, .int rs, .int tm, .int (nI sr)])), (j, .inr (1, [.ref pl, .int jo, .int jc, .int 0, .int jt])), (pl, .inr (3, [.ref pf, .ref pg, .int pz])), (pf, .inl (c4, 2, .inl ff)), (pg, .inl (c5, 2, .inl fg))] s.heap := hP
    rcases hz with rfl | ⟨z, hz, rfl⟩
    · skip
      refine lv_aload_n hx hb dX7_fetchStep_0 rfl (lv_at hl 0 rfl) ?_
      refine va_get (D := (dC, dI)) (ci := 5) (v := .ref j) (C := RX7) (T := TX7) (N := 10) hx hb hts iX7 hown hK hP 0 rfl rfl 3 (by decide) (hts (.fieldLink RX7 33 "ParkTower" "job" "LParkTower$Job;") (by decide +kernel)) (fun _ h9 => h9) rfl dX7_fetchStep_1 ?_
      refine va_getN (D := (dC, dI)) (ci := 1) (v := .int 0) (C := RX2) (T := TX2) (N := 5) hx hb hts iX2 hown hK hP 1 rfl rfl 3 (by decide) (va_Nw.use rfl (hN.1 (.fieldLinkNest RX7 173 "ParkTower$Job" "stepsEnded" "I" "ParkTower") (by decide +kernel))) (fun _ h9 => h9) rfl dX7_fetchStep_4 ?_
      refine lv_if_ne (tgt := 14) hx hb dX7_fetchStep_7 (by decide) (fun c => absurd (by decide) c) (fun _ => ?_)
      refine va_gets (C := "ParkTower$Step") (n := "LIFT_TO_LEVEL") (d := "LParkTower$Step;") (v := .ref (ad 1)) hx hb (hEN.1.1 1 (by decide)).1 hS hown (hts (.fieldLink RX7 299 "ParkTower$Step" "LIFT_TO_LEVEL" "LParkTower$Step;") (by decide +kernel)) (fun _ h9 => h9) dX7_fetchStep_10 ?_
      exact W.aret (v := .ref (ad 1)) (rt := .object "ParkTower$Step") hx hb hr (Or.inl ⟨_, rfl⟩) (Or.inr ⟨_, rfl⟩) (fun t ht hW => ⟨some 1, rfl, ⟨1, by decide, rfl, by omega⟩, ht⟩) (fun q h => by cases h) dX7_fetchStep_13
    · rcases (show z = 0 ∨ z = 1 ∨ z = 2 by omega) with rfl | rfl | rfl
      · have hP : va_P (dC, dI) vwCl [(x, .inr (5, [.ref rk, .ref ba, .ref od, .ref j, .ref ap, .int li, .int pw, .int rs, .int tm, .int (nI sr)])), (j, .inr (1, [.ref pl, .int jo, .int jc, .int 0, .int jt])), (pl, .inr (3, [.ref pf, .ref pg, .int 0])), (pf, .inl (c4, 2, .inl ff)), (pg, .inl (c5, 2, .inl fg))] s.heap := hP
        refine lv_aload_n hx hb dX7_fetchStep_0 rfl (lv_at hl 0 rfl) ?_
        refine va_get (D := (dC, dI)) (ci := 5) (v := .ref j) (C := RX7) (T := TX7) (N := 10) hx hb hts iX7 hown hK hP 0 rfl rfl 3 (by decide) (hts (.fieldLink RX7 33 "ParkTower" "job" "LParkTower$Job;") (by decide +kernel)) (fun _ h9 => h9) rfl dX7_fetchStep_1 ?_
        refine va_getN (D := (dC, dI)) (ci := 1) (v := .int 0) (C := RX2) (T := TX2) (N := 5) hx hb hts iX2 hown hK hP 1 rfl rfl 3 (by decide) (va_Nw.use rfl (hN.1 (.fieldLinkNest RX7 173 "ParkTower$Job" "stepsEnded" "I" "ParkTower") (by decide +kernel))) (fun _ h9 => h9) rfl dX7_fetchStep_4 ?_
        refine lv_if_ne (tgt := 14) hx hb dX7_fetchStep_7 (by decide) (fun c => absurd (by decide) c) (fun _ => ?_)
        refine va_gets (C := "ParkTower$Step") (n := "LIFT_TO_LEVEL") (d := "LParkTower$Step;") (v := .ref (ad 1)) hx hb (hEN.1.1 1 (by decide)).1 hS hown (hts (.fieldLink RX7 299 "ParkTower$Step" "LIFT_TO_LEVEL" "LParkTower$Step;") (by decide +kernel)) (fun _ h9 => h9) dX7_fetchStep_10 ?_
        exact W.aret (v := .ref (ad 1)) (rt := .object "ParkTower$Step") hx hb hr (Or.inl ⟨_, rfl⟩) (Or.inr ⟨_, rfl⟩) (fun t ht hW => ⟨some 1, rfl, ⟨1, by decide, rfl, by omega⟩, ht⟩) (fun q h => by cases h) dX7_fetchStep_13
      · have hP : va_P (dC, dI) vwCl [(x, .inr (5, [.ref rk, .ref ba, .ref od, .ref j, .ref ap, .int li, .int pw, .int rs, .int tm, .int (nI sr)])), (j, .inr (1, [.ref pl, .int jo, .int jc, .int 0, .int jt])), (pl, .inr (3, [.ref pf, .ref pg, .int 1])), (pf, .inl (c4, 2, .inl ff)), (pg, .inl (c5, 2, .inl fg))] s.heap := hP
        refine lv_aload_n hx hb dX7_fetchStep_0 rfl (lv_at hl 0 rfl) ?_
        refine va_get (D := (dC, dI)) (ci := 5) (v := .ref j) (C := RX7) (T := TX7) (N := 10) hx hb hts iX7 hown hK hP 0 rfl rfl 3 (by decide) (hts (.fieldLink RX7 33 "ParkTower" "job" "LParkTower$Job;") (by decide +kernel)) (fun _ h9 => h9) rfl dX7_fetchStep_1 ?_
        refine va_getN (D := (dC, dI)) (ci := 1) (v := .int 0) (C := RX2) (T := TX2) (N := 5) hx hb hts iX2 hown hK hP 1 rfl rfl 3 (by decide) (va_Nw.use rfl (hN.1 (.fieldLinkNest RX7 173 "ParkTower$Job" "stepsEnded" "I" "ParkTower") (by decide +kernel))) (fun _ h9 => h9) rfl dX7_fetchStep_4 ?_
        refine lv_if_ne (tgt := 14) hx hb dX7_fetchStep_7 (by decide) (fun c => absurd (by decide) c) (fun _ => ?_)
        refine va_gets (C := "ParkTower$Step") (n := "LIFT_TO_LEVEL") (d := "LParkTower$Step;") (v := .ref (ad 1)) hx hb (hEN.1.1 1 (by decide)).1 hS hown (hts (.fieldLink RX7 299 "ParkTower$Step" "LIFT_TO_LEVEL" "LParkTower$Step;") (by decide +kernel)) (fun _ h9 => h9) dX7_fetchStep_10 ?_
        exact W.aret (v := .ref (ad 1)) (rt := .object "ParkTower$Step") hx hb hr (Or.inl ⟨_, rfl⟩) (Or.inr ⟨_, rfl⟩) (fun t ht hW => ⟨some 1, rfl, ⟨1, by decide, rfl, by omega⟩, ht⟩) (fun q h => by cases h) dX7_fetchStep_13
      · have hP : va_P (dC, dI) vwCl [(x, .inr (5, [.ref rk, .ref ba, .ref od, .ref j, .ref ap, .int li, .int pw, .int rs, .int tm, .int (nI sr)])), (j, .inr (1, [.ref pl, .int jo, .int jc, .int 0, .int jt])), (pl, .inr (3, [.ref pf, .ref pg, .int 2])), (pf, .inl (c4, 2, .inl ff)), (pg, .inl (c5, 2, .inl fg))] s.heap := hP
        refine lv_aload_n hx hb dX7_fetchStep_0 rfl (lv_at hl 0 rfl) ?_
        refine va_get (D := (dC, dI)) (ci := 5) (v := .ref j) (C := RX7) (T := TX7) (N := 10) hx hb hts iX7 hown hK hP 0 rfl rfl 3 (by decide) (hts (.fieldLink RX7 33 "ParkTower" "job" "LParkTower$Job;") (by decide +kernel)) (fun _ h9 => h9) rfl dX7_fetchStep_1 ?_
        refine va_getN (D := (dC, dI)) (ci := 1) (v := .int 0) (C := RX2) (T := TX2) (N := 5) hx hb hts iX2 hown hK hP 1 rfl rfl 3 (by decide) (va_Nw.use rfl (hN.1 (.fieldLinkNest RX7 173 "ParkTower$Job" "stepsEnded" "I" "ParkTower") (by decide +kernel))) (fun _ h9 => h9) rfl dX7_fetchStep_4 ?_
        refine lv_if_ne (tgt := 14) hx hb dX7_fetchStep_7 (by decide) (fun c => absurd (by decide) c) (fun _ => ?_)
        refine va_gets (C := "ParkTower$Step") (n := "LIFT_TO_LEVEL") (d := "LParkTower$Step;") (v := .ref (ad 1)) hx hb (hEN.1.1 1 (by decide)).1 hS hown (hts (.fieldLink RX7 299 "ParkTower$Step" "LIFT_TO_LEVEL" "LParkTower$Step;") (by decide +kernel)) (fun _ h9 => h9) dX7_fetchStep_10 ?_
        exact W.aret (v := .ref (ad 1)) (rt := .object "ParkTower$Step") hx hb hr (Or.inl ⟨_, rfl⟩) (Or.inr ⟨_, rfl⟩) (fun t ht hW => ⟨some 1, rfl, ⟨1, by decide, rfl, by omega⟩, ht⟩) (fun q h => by cases h) dX7_fetchStep_13
  · have hP : va_P (dC, dI) vwCl [(x, .inr (5, [.ref rk, .ref ba, .ref od, .ref j, .ref ap, .int li, .int pw, .int rs, .int tm, .int (nI sr)])), (j, .inr (1, [.ref pl, .int jo, .int jc, .int 1, .int jt])), (pl, .inr (3, [.ref pf, .ref pg, .int pz])), (pf, .inl (c4, 2, .inl ff)), (pg, .inl (c5, 2, .inl fg))] s.heap := hP
    rcases hz with rfl | ⟨z, hz, rfl⟩
    · skip
      refine lv_aload_n hx hb dX7_fetchStep_0 rfl (lv_at hl 0 rfl) ?_
      refine va_get (D := (dC, dI)) (ci := 5) (v := .ref j) (C := RX7) (T := TX7) (N := 10) hx hb hts iX7 hown hK hP 0 rfl rfl 3 (by decide) (hts (.fieldLink RX7 33 "ParkTower" "job" "LParkTower$Job;") (by decide +kernel)) (fun _ h9 => h9) rfl dX7_fetchStep_1 ?_
      refine va_getN (D := (dC, dI)) (ci := 1) (v := .int 1) (C := RX2) (T := TX2) (N := 5) hx hb hts iX2 hown hK hP 1 rfl rfl 3 (by decide) (va_Nw.use rfl (hN.1 (.fieldLinkNest RX7 173 "ParkTower$Job" "stepsEnded" "I" "ParkTower") (by decide +kernel))) (fun _ h9 => h9) rfl dX7_fetchStep_4 ?_
      refine lv_if_ne (tgt := 14) hx hb dX7_fetchStep_7 (by decide) (fun _ => ?_) (fun c => absurd c (by decide))
      refine lv_iconst (v := 0) hx hb dX7_fetchStep_14 (by decide) ?_
      refine lv_aload_n hx hb dX7_fetchStep_15 rfl (lv_at hl 0 rfl) ?_
      refine va_get (D := (dC, dI)) (ci := 5) (v := .ref j) (C := RX7) (T := TX7) (N := 10) hx hb hts iX7 hown hK hP 0 rfl rfl 3 (by decide) (hts (.fieldLink RX7 33 "ParkTower" "job" "LParkTower$Job;") (by decide +kernel)) (fun _ h9 => h9) rfl dX7_fetchStep_16 ?_
      refine va_getN (D := (dC, dI)) (ci := 1) (v := .int 1) (C := RX2) (T := TX2) (N := 5) hx hb hts iX2 hown hK hP 1 rfl rfl 3 (by decide) (va_Nw.use rfl (hN.1 (.fieldLinkNest RX7 173 "ParkTower$Job" "stepsEnded" "I" "ParkTower") (by decide +kernel))) (fun _ h9 => h9) rfl dX7_fetchStep_19 ?_
      refine lv_aload_n hx hb dX7_fetchStep_22 rfl (lv_at hl 0 rfl) ?_
      refine va_get (D := (dC, dI)) (ci := 5) (v := .ref j) (C := RX7) (T := TX7) (N := 10) hx hb hts iX7 hown hK hP 0 rfl rfl 3 (by decide) (hts (.fieldLink RX7 33 "ParkTower" "job" "LParkTower$Job;") (by decide +kernel)) (fun _ h9 => h9) rfl dX7_fetchStep_23 ?_
      refine va_getN (D := (dC, dI)) (ci := 1) (v := .ref pl) (C := RX2) (T := TX2) (N := 5) hx hb hts iX2 hown hK hP 1 rfl rfl 0 (by decide) (va_Nw.use rfl (hN.1 (.fieldLinkNest RX7 251 "ParkTower$Job" "plan" "LParkTower$Plan;" "ParkTower") (by decide +kernel))) (fun _ h9 => h9) rfl dX7_fetchStep_26 ?_
      refine va_getN (D := (dC, dI)) (ci := 3) (v := .int (-1)) (C := RX4) (T := TX4) (N := 3) hx hb hts iX4 hown hK hP 2 rfl rfl 2 (by decide) (va_Nw.use rfl (hN.1 (.fieldLinkNest RX7 147 "ParkTower$Plan" "count" "I" "ParkTower") (by decide +kernel))) (fun _ h9 => h9) rfl dX7_fetchStep_29 ?_
      refine lv_isub hx hb dX7_fetchStep_32 ?_
      refine pt_topi 2 (by decide) ?_
      refine va_mmax hx hb (hml.trans hl.1.symm) hown (hts (.methodLink RX7 305 Lib.Math.max.name) (by decide +kernel)) (hts (.static Lib.Math.max.name) (by decide +kernel)) (hts (.initialized "java/lang/Math") (by decide +kernel)) (hts (.code Lib.Math.max.name Lib.Math.max.code 2 (some .int)) (by decide +kernel)) (Nat.le_of_ble_eq_true rfl) (Nat.le_of_ble_eq_true rfl) (Nat.le_of_ble_eq_true rfl) (Nat.le_of_ble_eq_true rfl) dX7_fetchStep_33 ?_
      refine pt_topi 2 (by decide) ?_
      refine lv_tableIn (off := 36) (tgt := 72) hx hb dX7_fetchStep_36 (by decide) (by decide) (by decide) (by decide) ?_
      refine va_gets (C := "ParkTower$Step") (n := "LIFT_TO_GROUND") (d := "LParkTower$Step;") (v := .ref (ad 0)) hx hb (hEN.1.1 0 (by decide)).1 hS hown (hts (.fieldLink RX7 292 "ParkTower$Step" "LIFT_TO_GROUND" "LParkTower$Step;") (by decide +kernel)) (fun _ h9 => h9) dX7_fetchStep_72 ?_
      exact W.aret (v := .ref (ad 0)) (rt := .object "ParkTower$Step") hx hb hr (Or.inl ⟨_, rfl⟩) (Or.inr ⟨_, rfl⟩) (fun t ht hW => ⟨some 0, rfl, ⟨0, by decide, rfl, by omega⟩, ht⟩) (fun q h => by cases h) dX7_fetchStep_75
    · rcases (show z = 0 ∨ z = 1 ∨ z = 2 by omega) with rfl | rfl | rfl
      · have hP : va_P (dC, dI) vwCl [(x, .inr (5, [.ref rk, .ref ba, .ref od, .ref j, .ref ap, .int li, .int pw, .int rs, .int tm, .int (nI sr)])), (j, .inr (1, [.ref pl, .int jo, .int jc, .int 1, .int jt])), (pl, .inr (3, [.ref pf, .ref pg, .int 0])), (pf, .inl (c4, 2, .inl ff)), (pg, .inl (c5, 2, .inl fg))] s.heap := hP
        refine lv_aload_n hx hb dX7_fetchStep_0 rfl (lv_at hl 0 rfl) ?_
        refine va_get (D := (dC, dI)) (ci := 5) (v := .ref j) (C := RX7) (T := TX7) (N := 10) hx hb hts iX7 hown hK hP 0 rfl rfl 3 (by decide) (hts (.fieldLink RX7 33 "ParkTower" "job" "LParkTower$Job;") (by decide +kernel)) (fun _ h9 => h9) rfl dX7_fetchStep_1 ?_
        refine va_getN (D := (dC, dI)) (ci := 1) (v := .int 1) (C := RX2) (T := TX2) (N := 5) hx hb hts iX2 hown hK hP 1 rfl rfl 3 (by decide) (va_Nw.use rfl (hN.1 (.fieldLinkNest RX7 173 "ParkTower$Job" "stepsEnded" "I" "ParkTower") (by decide +kernel))) (fun _ h9 => h9) rfl dX7_fetchStep_4 ?_
        refine lv_if_ne (tgt := 14) hx hb dX7_fetchStep_7 (by decide) (fun _ => ?_) (fun c => absurd c (by decide))
        refine lv_iconst (v := 0) hx hb dX7_fetchStep_14 (by decide) ?_
        refine lv_aload_n hx hb dX7_fetchStep_15 rfl (lv_at hl 0 rfl) ?_
        refine va_get (D := (dC, dI)) (ci := 5) (v := .ref j) (C := RX7) (T := TX7) (N := 10) hx hb hts iX7 hown hK hP 0 rfl rfl 3 (by decide) (hts (.fieldLink RX7 33 "ParkTower" "job" "LParkTower$Job;") (by decide +kernel)) (fun _ h9 => h9) rfl dX7_fetchStep_16 ?_
        refine va_getN (D := (dC, dI)) (ci := 1) (v := .int 1) (C := RX2) (T := TX2) (N := 5) hx hb hts iX2 hown hK hP 1 rfl rfl 3 (by decide) (va_Nw.use rfl (hN.1 (.fieldLinkNest RX7 173 "ParkTower$Job" "stepsEnded" "I" "ParkTower") (by decide +kernel))) (fun _ h9 => h9) rfl dX7_fetchStep_19 ?_
        refine lv_aload_n hx hb dX7_fetchStep_22 rfl (lv_at hl 0 rfl) ?_
        refine va_get (D := (dC, dI)) (ci := 5) (v := .ref j) (C := RX7) (T := TX7) (N := 10) hx hb hts iX7 hown hK hP 0 rfl rfl 3 (by decide) (hts (.fieldLink RX7 33 "ParkTower" "job" "LParkTower$Job;") (by decide +kernel)) (fun _ h9 => h9) rfl dX7_fetchStep_23 ?_
        refine va_getN (D := (dC, dI)) (ci := 1) (v := .ref pl) (C := RX2) (T := TX2) (N := 5) hx hb hts iX2 hown hK hP 1 rfl rfl 0 (by decide) (va_Nw.use rfl (hN.1 (.fieldLinkNest RX7 251 "ParkTower$Job" "plan" "LParkTower$Plan;" "ParkTower") (by decide +kernel))) (fun _ h9 => h9) rfl dX7_fetchStep_26 ?_
        refine va_getN (D := (dC, dI)) (ci := 3) (v := .int 0) (C := RX4) (T := TX4) (N := 3) hx hb hts iX4 hown hK hP 2 rfl rfl 2 (by decide) (va_Nw.use rfl (hN.1 (.fieldLinkNest RX7 147 "ParkTower$Plan" "count" "I" "ParkTower") (by decide +kernel))) (fun _ h9 => h9) rfl dX7_fetchStep_29 ?_
        refine lv_isub hx hb dX7_fetchStep_32 ?_
        refine pt_topi 1 (by decide) ?_
        refine va_mmax hx hb (hml.trans hl.1.symm) hown (hts (.methodLink RX7 305 Lib.Math.max.name) (by decide +kernel)) (hts (.static Lib.Math.max.name) (by decide +kernel)) (hts (.initialized "java/lang/Math") (by decide +kernel)) (hts (.code Lib.Math.max.name Lib.Math.max.code 2 (some .int)) (by decide +kernel)) (Nat.le_of_ble_eq_true rfl) (Nat.le_of_ble_eq_true rfl) (Nat.le_of_ble_eq_true rfl) (Nat.le_of_ble_eq_true rfl) dX7_fetchStep_33 ?_
        refine pt_topi 1 (by decide) ?_
        refine lv_tableIn (off := 32) (tgt := 68) hx hb dX7_fetchStep_36 (by decide) (by decide) (by decide) (by decide) ?_
        refine va_gets (C := "ParkTower$Step") (n := "FROM_CELL") (d := "LParkTower$Step;") (v := .ref (ad 4)) hx hb (hEN.1.1 4 (by decide)).1 hS hown (hts (.fieldLink RX7 313 "ParkTower$Step" "FROM_CELL" "LParkTower$Step;") (by decide +kernel)) (fun _ h9 => h9) dX7_fetchStep_68 ?_
        exact W.aret (v := .ref (ad 4)) (rt := .object "ParkTower$Step") hx hb hr (Or.inl ⟨_, rfl⟩) (Or.inr ⟨_, rfl⟩) (fun t ht hW => ⟨some 4, rfl, ⟨4, by decide, rfl, by omega⟩, ht⟩) (fun q h => by cases h) dX7_fetchStep_71
      · have hP : va_P (dC, dI) vwCl [(x, .inr (5, [.ref rk, .ref ba, .ref od, .ref j, .ref ap, .int li, .int pw, .int rs, .int tm, .int (nI sr)])), (j, .inr (1, [.ref pl, .int jo, .int jc, .int 1, .int jt])), (pl, .inr (3, [.ref pf, .ref pg, .int 1])), (pf, .inl (c4, 2, .inl ff)), (pg, .inl (c5, 2, .inl fg))] s.heap := hP
        refine lv_aload_n hx hb dX7_fetchStep_0 rfl (lv_at hl 0 rfl) ?_
        refine va_get (D := (dC, dI)) (ci := 5) (v := .ref j) (C := RX7) (T := TX7) (N := 10) hx hb hts iX7 hown hK hP 0 rfl rfl 3 (by decide) (hts (.fieldLink RX7 33 "ParkTower" "job" "LParkTower$Job;") (by decide +kernel)) (fun _ h9 => h9) rfl dX7_fetchStep_1 ?_
        refine va_getN (D := (dC, dI)) (ci := 1) (v := .int 1) (C := RX2) (T := TX2) (N := 5) hx hb hts iX2 hown hK hP 1 rfl rfl 3 (by decide) (va_Nw.use rfl (hN.1 (.fieldLinkNest RX7 173 "ParkTower$Job" "stepsEnded" "I" "ParkTower") (by decide +kernel))) (fun _ h9 => h9) rfl dX7_fetchStep_4 ?_
        refine lv_if_ne (tgt := 14) hx hb dX7_fetchStep_7 (by decide) (fun _ => ?_) (fun c => absurd c (by decide))
        refine lv_iconst (v := 0) hx hb dX7_fetchStep_14 (by decide) ?_
        refine lv_aload_n hx hb dX7_fetchStep_15 rfl (lv_at hl 0 rfl) ?_
        refine va_get (D := (dC, dI)) (ci := 5) (v := .ref j) (C := RX7) (T := TX7) (N := 10) hx hb hts iX7 hown hK hP 0 rfl rfl 3 (by decide) (hts (.fieldLink RX7 33 "ParkTower" "job" "LParkTower$Job;") (by decide +kernel)) (fun _ h9 => h9) rfl dX7_fetchStep_16 ?_
        refine va_getN (D := (dC, dI)) (ci := 1) (v := .int 1) (C := RX2) (T := TX2) (N := 5) hx hb hts iX2 hown hK hP 1 rfl rfl 3 (by decide) (va_Nw.use rfl (hN.1 (.fieldLinkNest RX7 173 "ParkTower$Job" "stepsEnded" "I" "ParkTower") (by decide +kernel))) (fun _ h9 => h9) rfl dX7_fetchStep_19 ?_
        refine lv_aload_n hx hb dX7_fetchStep_22 rfl (lv_at hl 0 rfl) ?_
        refine va_get (D := (dC, dI)) (ci := 5) (v := .ref j) (C := RX7) (T := TX7) (N := 10) hx hb hts iX7 hown hK hP 0 rfl rfl 3 (by decide) (hts (.fieldLink RX7 33 "ParkTower" "job" "LParkTower$Job;") (by decide +kernel)) (fun _ h9 => h9) rfl dX7_fetchStep_23 ?_
        refine va_getN (D := (dC, dI)) (ci := 1) (v := .ref pl) (C := RX2) (T := TX2) (N := 5) hx hb hts iX2 hown hK hP 1 rfl rfl 0 (by decide) (va_Nw.use rfl (hN.1 (.fieldLinkNest RX7 251 "ParkTower$Job" "plan" "LParkTower$Plan;" "ParkTower") (by decide +kernel))) (fun _ h9 => h9) rfl dX7_fetchStep_26 ?_
        refine va_getN (D := (dC, dI)) (ci := 3) (v := .int 1) (C := RX4) (T := TX4) (N := 3) hx hb hts iX4 hown hK hP 2 rfl rfl 2 (by decide) (va_Nw.use rfl (hN.1 (.fieldLinkNest RX7 147 "ParkTower$Plan" "count" "I" "ParkTower") (by decide +kernel))) (fun _ h9 => h9) rfl dX7_fetchStep_29 ?_
        refine lv_isub hx hb dX7_fetchStep_32 ?_
        refine pt_topi 0 (by decide) ?_
        refine va_mmax hx hb (hml.trans hl.1.symm) hown (hts (.methodLink RX7 305 Lib.Math.max.name) (by decide +kernel)) (hts (.static Lib.Math.max.name) (by decide +kernel)) (hts (.initialized "java/lang/Math") (by decide +kernel)) (hts (.code Lib.Math.max.name Lib.Math.max.code 2 (some .int)) (by decide +kernel)) (Nat.le_of_ble_eq_true rfl) (Nat.le_of_ble_eq_true rfl) (Nat.le_of_ble_eq_true rfl) (Nat.le_of_ble_eq_true rfl) dX7_fetchStep_33 ?_
        refine pt_topi 0 (by decide) ?_
        refine lv_tableIn (off := 28) (tgt := 64) hx hb dX7_fetchStep_36 (by decide) (by decide) (by decide) (by decide) ?_
        refine va_gets (C := "ParkTower$Step") (n := "MOVE") (d := "LParkTower$Step;") (v := .ref (ad 6)) hx hb (hEN.1.1 6 (by decide)).1 hS hown (hts (.fieldLink RX7 310 "ParkTower$Step" "MOVE" "LParkTower$Step;") (by decide +kernel)) (fun _ h9 => h9) dX7_fetchStep_64 ?_
        exact W.aret (v := .ref (ad 6)) (rt := .object "ParkTower$Step") hx hb hr (Or.inl ⟨_, rfl⟩) (Or.inr ⟨_, rfl⟩) (fun t ht hW => ⟨some 6, rfl, ⟨6, by decide, rfl, by omega⟩, ht⟩) (fun q h => by cases h) dX7_fetchStep_67
      · have hP : va_P (dC, dI) vwCl [(x, .inr (5, [.ref rk, .ref ba, .ref od, .ref j, .ref ap, .int li, .int pw, .int rs, .int tm, .int (nI sr)])), (j, .inr (1, [.ref pl, .int jo, .int jc, .int 1, .int jt])), (pl, .inr (3, [.ref pf, .ref pg, .int 2])), (pf, .inl (c4, 2, .inl ff)), (pg, .inl (c5, 2, .inl fg))] s.heap := hP
        refine lv_aload_n hx hb dX7_fetchStep_0 rfl (lv_at hl 0 rfl) ?_
        refine va_get (D := (dC, dI)) (ci := 5) (v := .ref j) (C := RX7) (T := TX7) (N := 10) hx hb hts iX7 hown hK hP 0 rfl rfl 3 (by decide) (hts (.fieldLink RX7 33 "ParkTower" "job" "LParkTower$Job;") (by decide +kernel)) (fun _ h9 => h9) rfl dX7_fetchStep_1 ?_
        refine va_getN (D := (dC, dI)) (ci := 1) (v := .int 1) (C := RX2) (T := TX2) (N := 5) hx hb hts iX2 hown hK hP 1 rfl rfl 3 (by decide) (va_Nw.use rfl (hN.1 (.fieldLinkNest RX7 173 "ParkTower$Job" "stepsEnded" "I" "ParkTower") (by decide +kernel))) (fun _ h9 => h9) rfl dX7_fetchStep_4 ?_
        refine lv_if_ne (tgt := 14) hx hb dX7_fetchStep_7 (by decide) (fun _ => ?_) (fun c => absurd c (by decide))
        refine lv_iconst (v := 0) hx hb dX7_fetchStep_14 (by decide) ?_
        refine lv_aload_n hx hb dX7_fetchStep_15 rfl (lv_at hl 0 rfl) ?_
        refine va_get (D := (dC, dI)) (ci := 5) (v := .ref j) (C := RX7) (T := TX7) (N := 10) hx hb hts iX7 hown hK hP 0 rfl rfl 3 (by decide) (hts (.fieldLink RX7 33 "ParkTower" "job" "LParkTower$Job;") (by decide +kernel)) (fun _ h9 => h9) rfl dX7_fetchStep_16 ?_
        refine va_getN (D := (dC, dI)) (ci := 1) (v := .int 1) (C := RX2) (T := TX2) (N := 5) hx hb hts iX2 hown hK hP 1 rfl rfl 3 (by decide) (va_Nw.use rfl (hN.1 (.fieldLinkNest RX7 173 "ParkTower$Job" "stepsEnded" "I" "ParkTower") (by decide +kernel))) (fun _ h9 => h9) rfl dX7_fetchStep_19 ?_
        refine lv_aload_n hx hb dX7_fetchStep_22 rfl (lv_at hl 0 rfl) ?_
        refine va_get (D := (dC, dI)) (ci := 5) (v := .ref j) (C := RX7) (T := TX7) (N := 10) hx hb hts iX7 hown hK hP 0 rfl rfl 3 (by decide) (hts (.fieldLink RX7 33 "ParkTower" "job" "LParkTower$Job;") (by decide +kernel)) (fun _ h9 => h9) rfl dX7_fetchStep_23 ?_
        refine va_getN (D := (dC, dI)) (ci := 1) (v := .ref pl) (C := RX2) (T := TX2) (N := 5) hx hb hts iX2 hown hK hP 1 rfl rfl 0 (by decide) (va_Nw.use rfl (hN.1 (.fieldLinkNest RX7 251 "ParkTower$Job" "plan" "LParkTower$Plan;" "ParkTower") (by decide +kernel))) (fun _ h9 => h9) rfl dX7_fetchStep_26 ?_
        refine va_getN (D := (dC, dI)) (ci := 3) (v := .int 2) (C := RX4) (T := TX4) (N := 3) hx hb hts iX4 hown hK hP 2 rfl rfl 2 (by decide) (va_Nw.use rfl (hN.1 (.fieldLinkNest RX7 147 "ParkTower$Plan" "count" "I" "ParkTower") (by decide +kernel))) (fun _ h9 => h9) rfl dX7_fetchStep_29 ?_
        refine lv_isub hx hb dX7_fetchStep_32 ?_
        refine pt_topi (-1) (by decide) ?_
        refine va_mmax hx hb (hml.trans hl.1.symm) hown (hts (.methodLink RX7 305 Lib.Math.max.name) (by decide +kernel)) (hts (.static Lib.Math.max.name) (by decide +kernel)) (hts (.initialized "java/lang/Math") (by decide +kernel)) (hts (.code Lib.Math.max.name Lib.Math.max.code 2 (some .int)) (by decide +kernel)) (Nat.le_of_ble_eq_true rfl) (Nat.le_of_ble_eq_true rfl) (Nat.le_of_ble_eq_true rfl) (Nat.le_of_ble_eq_true rfl) dX7_fetchStep_33 ?_
        refine pt_topi 0 (by decide) ?_
        refine lv_tableIn (off := 28) (tgt := 64) hx hb dX7_fetchStep_36 (by decide) (by decide) (by decide) (by decide) ?_
        refine va_gets (C := "ParkTower$Step") (n := "MOVE") (d := "LParkTower$Step;") (v := .ref (ad 6)) hx hb (hEN.1.1 6 (by decide)).1 hS hown (hts (.fieldLink RX7 310 "ParkTower$Step" "MOVE" "LParkTower$Step;") (by decide +kernel)) (fun _ h9 => h9) dX7_fetchStep_64 ?_
        exact W.aret (v := .ref (ad 6)) (rt := .object "ParkTower$Step") hx hb hr (Or.inl ⟨_, rfl⟩) (Or.inr ⟨_, rfl⟩) (fun t ht hW => ⟨some 6, rfl, ⟨6, by decide, rfl, by omega⟩, ht⟩) (fun q h => by cases h) dX7_fetchStep_67
  · have hP : va_P (dC, dI) vwCl [(x, .inr (5, [.ref rk, .ref ba, .ref od, .ref j, .ref ap, .int li, .int pw, .int rs, .int tm, .int (nI sr)])), (j, .inr (1, [.ref pl, .int jo, .int jc, .int 2, .int jt])), (pl, .inr (3, [.ref pf, .ref pg, .int pz])), (pf, .inl (c4, 2, .inl ff)), (pg, .inl (c5, 2, .inl fg))] s.heap := hP
    rcases hz with rfl | ⟨z, hz, rfl⟩
    · skip
      refine lv_aload_n hx hb dX7_fetchStep_0 rfl (lv_at hl 0 rfl) ?_
      refine va_get (D := (dC, dI)) (ci := 5) (v := .ref j) (C := RX7) (T := TX7) (N := 10) hx hb hts iX7 hown hK hP 0 rfl rfl 3 (by decide) (hts (.fieldLink RX7 33 "ParkTower" "job" "LParkTower$Job;") (by decide +kernel)) (fun _ h9 => h9) rfl dX7_fetchStep_1 ?_
      refine va_getN (D := (dC, dI)) (ci := 1) (v := .int 2) (C := RX2) (T := TX2) (N := 5) hx hb hts iX2 hown hK hP 1 rfl rfl 3 (by decide) (va_Nw.use rfl (hN.1 (.fieldLinkNest RX7 173 "ParkTower$Job" "stepsEnded" "I" "ParkTower") (by decide +kernel))) (fun _ h9 => h9) rfl dX7_fetchStep_4 ?_
      refine lv_if_ne (tgt := 14) hx hb dX7_fetchStep_7 (by decide) (fun _ => ?_) (fun c => absurd c (by decide))
      refine lv_iconst (v := 0) hx hb dX7_fetchStep_14 (by decide) ?_
      refine lv_aload_n hx hb dX7_fetchStep_15 rfl (lv_at hl 0 rfl) ?_
      refine va_get (D := (dC, dI)) (ci := 5) (v := .ref j) (C := RX7) (T := TX7) (N := 10) hx hb hts iX7 hown hK hP 0 rfl rfl 3 (by decide) (hts (.fieldLink RX7 33 "ParkTower" "job" "LParkTower$Job;") (by decide +kernel)) (fun _ h9 => h9) rfl dX7_fetchStep_16 ?_
      refine va_getN (D := (dC, dI)) (ci := 1) (v := .int 2) (C := RX2) (T := TX2) (N := 5) hx hb hts iX2 hown hK hP 1 rfl rfl 3 (by decide) (va_Nw.use rfl (hN.1 (.fieldLinkNest RX7 173 "ParkTower$Job" "stepsEnded" "I" "ParkTower") (by decide +kernel))) (fun _ h9 => h9) rfl dX7_fetchStep_19 ?_
      refine lv_aload_n hx hb dX7_fetchStep_22 rfl (lv_at hl 0 rfl) ?_
      refine va_get (D := (dC, dI)) (ci := 5) (v := .ref j) (C := RX7) (T := TX7) (N := 10) hx hb hts iX7 hown hK hP 0 rfl rfl 3 (by decide) (hts (.fieldLink RX7 33 "ParkTower" "job" "LParkTower$Job;") (by decide +kernel)) (fun _ h9 => h9) rfl dX7_fetchStep_23 ?_
      refine va_getN (D := (dC, dI)) (ci := 1) (v := .ref pl) (C := RX2) (T := TX2) (N := 5) hx hb hts iX2 hown hK hP 1 rfl rfl 0 (by decide) (va_Nw.use rfl (hN.1 (.fieldLinkNest RX7 251 "ParkTower$Job" "plan" "LParkTower$Plan;" "ParkTower") (by decide +kernel))) (fun _ h9 => h9) rfl dX7_fetchStep_26 ?_
      refine va_getN (D := (dC, dI)) (ci := 3) (v := .int (-1)) (C := RX4) (T := TX4) (N := 3) hx hb hts iX4 hown hK hP 2 rfl rfl 2 (by decide) (va_Nw.use rfl (hN.1 (.fieldLinkNest RX7 147 "ParkTower$Plan" "count" "I" "ParkTower") (by decide +kernel))) (fun _ h9 => h9) rfl dX7_fetchStep_29 ?_
      refine lv_isub hx hb dX7_fetchStep_32 ?_
      refine pt_topi 3 (by decide) ?_
      refine va_mmax hx hb (hml.trans hl.1.symm) hown (hts (.methodLink RX7 305 Lib.Math.max.name) (by decide +kernel)) (hts (.static Lib.Math.max.name) (by decide +kernel)) (hts (.initialized "java/lang/Math") (by decide +kernel)) (hts (.code Lib.Math.max.name Lib.Math.max.code 2 (some .int)) (by decide +kernel)) (Nat.le_of_ble_eq_true rfl) (Nat.le_of_ble_eq_true rfl) (Nat.le_of_ble_eq_true rfl) (Nat.le_of_ble_eq_true rfl) dX7_fetchStep_33 ?_
      refine pt_topi 3 (by decide) ?_
      refine lv_tableOut (tgt := 76) hx hb dX7_fetchStep_36 (by decide) (by decide) ?_
      refine va_gets (C := "ParkTower$Step") (n := "INTO_BAY") (d := "LParkTower$Step;") (v := .ref (ad 3)) hx hb (hEN.1.1 3 (by decide)).1 hS hown (hts (.fieldLink RX7 316 "ParkTower$Step" "INTO_BAY" "LParkTower$Step;") (by decide +kernel)) (fun _ h9 => h9) dX7_fetchStep_76 ?_
      exact W.aret (v := .ref (ad 3)) (rt := .object "ParkTower$Step") hx hb hr (Or.inl ⟨_, rfl⟩) (Or.inr ⟨_, rfl⟩) (fun t ht hW => ⟨some 3, rfl, ⟨3, by decide, rfl, by omega⟩, ht⟩) (fun q h => by cases h) dX7_fetchStep_79
    · rcases (show z = 0 ∨ z = 1 ∨ z = 2 by omega) with rfl | rfl | rfl
      · have hP : va_P (dC, dI) vwCl [(x, .inr (5, [.ref rk, .ref ba, .ref od, .ref j, .ref ap, .int li, .int pw, .int rs, .int tm, .int (nI sr)])), (j, .inr (1, [.ref pl, .int jo, .int jc, .int 2, .int jt])), (pl, .inr (3, [.ref pf, .ref pg, .int 0])), (pf, .inl (c4, 2, .inl ff)), (pg, .inl (c5, 2, .inl fg))] s.heap := hP
        refine lv_aload_n hx hb dX7_fetchStep_0 rfl (lv_at hl 0 rfl) ?_
        refine va_get (D := (dC, dI)) (ci := 5) (v := .ref j) (C := RX7) (T := TX7) (N := 10) hx hb hts iX7 hown hK hP 0 rfl rfl 3 (by decide) (hts (.fieldLink RX7 33 "ParkTower" "job" "LParkTower$Job;") (by decide +kernel)) (fun _ h9 => h9) rfl dX7_fetchStep_1 ?_
        refine va_getN (D := (dC, dI)) (ci := 1) (v := .int 2) (C := RX2) (T := TX2) (N := 5) hx hb hts iX2 hown hK hP 1 rfl rfl 3 (by decide) (va_Nw.use rfl (hN.1 (.fieldLinkNest RX7 173 "ParkTower$Job" "stepsEnded" "I" "ParkTower") (by decide +kernel))) (fun _ h9 => h9) rfl dX7_fetchStep_4 ?_
        refine lv_if_ne (tgt := 14) hx hb dX7_fetchStep_7 (by decide) (fun _ => ?_) (fun c => absurd c (by decide))
        refine lv_iconst (v := 0) hx hb dX7_fetchStep_14 (by decide) ?_
        refine lv_aload_n hx hb dX7_fetchStep_15 rfl (lv_at hl 0 rfl) ?_
        refine va_get (D := (dC, dI)) (ci := 5) (v := .ref j) (C := RX7) (T := TX7) (N := 10) hx hb hts iX7 hown hK hP 0 rfl rfl 3 (by decide) (hts (.fieldLink RX7 33 "ParkTower" "job" "LParkTower$Job;") (by decide +kernel)) (fun _ h9 => h9) rfl dX7_fetchStep_16 ?_
        refine va_getN (D := (dC, dI)) (ci := 1) (v := .int 2) (C := RX2) (T := TX2) (N := 5) hx hb hts iX2 hown hK hP 1 rfl rfl 3 (by decide) (va_Nw.use rfl (hN.1 (.fieldLinkNest RX7 173 "ParkTower$Job" "stepsEnded" "I" "ParkTower") (by decide +kernel))) (fun _ h9 => h9) rfl dX7_fetchStep_19 ?_
        refine lv_aload_n hx hb dX7_fetchStep_22 rfl (lv_at hl 0 rfl) ?_
        refine va_get (D := (dC, dI)) (ci := 5) (v := .ref j) (C := RX7) (T := TX7) (N := 10) hx hb hts iX7 hown hK hP 0 rfl rfl 3 (by decide) (hts (.fieldLink RX7 33 "ParkTower" "job" "LParkTower$Job;") (by decide +kernel)) (fun _ h9 => h9) rfl dX7_fetchStep_23 ?_
        refine va_getN (D := (dC, dI)) (ci := 1) (v := .ref pl) (C := RX2) (T := TX2) (N := 5) hx hb hts iX2 hown hK hP 1 rfl rfl 0 (by decide) (va_Nw.use rfl (hN.1 (.fieldLinkNest RX7 251 "ParkTower$Job" "plan" "LParkTower$Plan;" "ParkTower") (by decide +kernel))) (fun _ h9 => h9) rfl dX7_fetchStep_26 ?_
        refine va_getN (D := (dC, dI)) (ci := 3) (v := .int 0) (C := RX4) (T := TX4) (N := 3) hx hb hts iX4 hown hK hP 2 rfl rfl 2 (by decide) (va_Nw.use rfl (hN.1 (.fieldLinkNest RX7 147 "ParkTower$Plan" "count" "I" "ParkTower") (by decide +kernel))) (fun _ h9 => h9) rfl dX7_fetchStep_29 ?_
        refine lv_isub hx hb dX7_fetchStep_32 ?_
        refine pt_topi 2 (by decide) ?_
        refine va_mmax hx hb (hml.trans hl.1.symm) hown (hts (.methodLink RX7 305 Lib.Math.max.name) (by decide +kernel)) (hts (.static Lib.Math.max.name) (by decide +kernel)) (hts (.initialized "java/lang/Math") (by decide +kernel)) (hts (.code Lib.Math.max.name Lib.Math.max.code 2 (some .int)) (by decide +kernel)) (Nat.le_of_ble_eq_true rfl) (Nat.le_of_ble_eq_true rfl) (Nat.le_of_ble_eq_true rfl) (Nat.le_of_ble_eq_true rfl) dX7_fetchStep_33 ?_
        refine pt_topi 2 (by decide) ?_
        refine lv_tableIn (off := 36) (tgt := 72) hx hb dX7_fetchStep_36 (by decide) (by decide) (by decide) (by decide) ?_
        refine va_gets (C := "ParkTower$Step") (n := "LIFT_TO_GROUND") (d := "LParkTower$Step;") (v := .ref (ad 0)) hx hb (hEN.1.1 0 (by decide)).1 hS hown (hts (.fieldLink RX7 292 "ParkTower$Step" "LIFT_TO_GROUND" "LParkTower$Step;") (by decide +kernel)) (fun _ h9 => h9) dX7_fetchStep_72 ?_
        exact W.aret (v := .ref (ad 0)) (rt := .object "ParkTower$Step") hx hb hr (Or.inl ⟨_, rfl⟩) (Or.inr ⟨_, rfl⟩) (fun t ht hW => ⟨some 0, rfl, ⟨0, by decide, rfl, by omega⟩, ht⟩) (fun q h => by cases h) dX7_fetchStep_75
      · have hP : va_P (dC, dI) vwCl [(x, .inr (5, [.ref rk, .ref ba, .ref od, .ref j, .ref ap, .int li, .int pw, .int rs, .int tm, .int (nI sr)])), (j, .inr (1, [.ref pl, .int jo, .int jc, .int 2, .int jt])), (pl, .inr (3, [.ref pf, .ref pg, .int 1])), (pf, .inl (c4, 2, .inl ff)), (pg, .inl (c5, 2, .inl fg))] s.heap := hP
        refine lv_aload_n hx hb dX7_fetchStep_0 rfl (lv_at hl 0 rfl) ?_
        refine va_get (D := (dC, dI)) (ci := 5) (v := .ref j) (C := RX7) (T := TX7) (N := 10) hx hb hts iX7 hown hK hP 0 rfl rfl 3 (by decide) (hts (.fieldLink RX7 33 "ParkTower" "job" "LParkTower$Job;") (by decide +kernel)) (fun _ h9 => h9) rfl dX7_fetchStep_1 ?_
        refine va_getN (D := (dC, dI)) (ci := 1) (v := .int 2) (C := RX2) (T := TX2) (N := 5) hx hb hts iX2 hown hK hP 1 rfl rfl 3 (by decide) (va_Nw.use rfl (hN.1 (.fieldLinkNest RX7 173 "ParkTower$Job" "stepsEnded" "I" "ParkTower") (by decide +kernel))) (fun _ h9 => h9) rfl dX7_fetchStep_4 ?_
        refine lv_if_ne (tgt := 14) hx hb dX7_fetchStep_7 (by decide) (fun _ => ?_) (fun c => absurd c (by decide))
        refine lv_iconst (v := 0) hx hb dX7_fetchStep_14 (by decide) ?_
        refine lv_aload_n hx hb dX7_fetchStep_15 rfl (lv_at hl 0 rfl) ?_
        refine va_get (D := (dC, dI)) (ci := 5) (v := .ref j) (C := RX7) (T := TX7) (N := 10) hx hb hts iX7 hown hK hP 0 rfl rfl 3 (by decide) (hts (.fieldLink RX7 33 "ParkTower" "job" "LParkTower$Job;") (by decide +kernel)) (fun _ h9 => h9) rfl dX7_fetchStep_16 ?_
        refine va_getN (D := (dC, dI)) (ci := 1) (v := .int 2) (C := RX2) (T := TX2) (N := 5) hx hb hts iX2 hown hK hP 1 rfl rfl 3 (by decide) (va_Nw.use rfl (hN.1 (.fieldLinkNest RX7 173 "ParkTower$Job" "stepsEnded" "I" "ParkTower") (by decide +kernel))) (fun _ h9 => h9) rfl dX7_fetchStep_19 ?_
        refine lv_aload_n hx hb dX7_fetchStep_22 rfl (lv_at hl 0 rfl) ?_
        refine va_get (D := (dC, dI)) (ci := 5) (v := .ref j) (C := RX7) (T := TX7) (N := 10) hx hb hts iX7 hown hK hP 0 rfl rfl 3 (by decide) (hts (.fieldLink RX7 33 "ParkTower" "job" "LParkTower$Job;") (by decide +kernel)) (fun _ h9 => h9) rfl dX7_fetchStep_23 ?_
        refine va_getN (D := (dC, dI)) (ci := 1) (v := .ref pl) (C := RX2) (T := TX2) (N := 5) hx hb hts iX2 hown hK hP 1 rfl rfl 0 (by decide) (va_Nw.use rfl (hN.1 (.fieldLinkNest RX7 251 "ParkTower$Job" "plan" "LParkTower$Plan;" "ParkTower") (by decide +kernel))) (fun _ h9 => h9) rfl dX7_fetchStep_26 ?_
        refine va_getN (D := (dC, dI)) (ci := 3) (v := .int 1) (C := RX4) (T := TX4) (N := 3) hx hb hts iX4 hown hK hP 2 rfl rfl 2 (by decide) (va_Nw.use rfl (hN.1 (.fieldLinkNest RX7 147 "ParkTower$Plan" "count" "I" "ParkTower") (by decide +kernel))) (fun _ h9 => h9) rfl dX7_fetchStep_29 ?_
        refine lv_isub hx hb dX7_fetchStep_32 ?_
        refine pt_topi 1 (by decide) ?_
        refine va_mmax hx hb (hml.trans hl.1.symm) hown (hts (.methodLink RX7 305 Lib.Math.max.name) (by decide +kernel)) (hts (.static Lib.Math.max.name) (by decide +kernel)) (hts (.initialized "java/lang/Math") (by decide +kernel)) (hts (.code Lib.Math.max.name Lib.Math.max.code 2 (some .int)) (by decide +kernel)) (Nat.le_of_ble_eq_true rfl) (Nat.le_of_ble_eq_true rfl) (Nat.le_of_ble_eq_true rfl) (Nat.le_of_ble_eq_true rfl) dX7_fetchStep_33 ?_
        refine pt_topi 1 (by decide) ?_
        refine lv_tableIn (off := 32) (tgt := 68) hx hb dX7_fetchStep_36 (by decide) (by decide) (by decide) (by decide) ?_
        refine va_gets (C := "ParkTower$Step") (n := "FROM_CELL") (d := "LParkTower$Step;") (v := .ref (ad 4)) hx hb (hEN.1.1 4 (by decide)).1 hS hown (hts (.fieldLink RX7 313 "ParkTower$Step" "FROM_CELL" "LParkTower$Step;") (by decide +kernel)) (fun _ h9 => h9) dX7_fetchStep_68 ?_
        exact W.aret (v := .ref (ad 4)) (rt := .object "ParkTower$Step") hx hb hr (Or.inl ⟨_, rfl⟩) (Or.inr ⟨_, rfl⟩) (fun t ht hW => ⟨some 4, rfl, ⟨4, by decide, rfl, by omega⟩, ht⟩) (fun q h => by cases h) dX7_fetchStep_71
      · have hP : va_P (dC, dI) vwCl [(x, .inr (5, [.ref rk, .ref ba, .ref od, .ref j, .ref ap, .int li, .int pw, .int rs, .int tm, .int (nI sr)])), (j, .inr (1, [.ref pl, .int jo, .int jc, .int 2, .int jt])), (pl, .inr (3, [.ref pf, .ref pg, .int 2])), (pf, .inl (c4, 2, .inl ff)), (pg, .inl (c5, 2, .inl fg))] s.heap := hP
        refine lv_aload_n hx hb dX7_fetchStep_0 rfl (lv_at hl 0 rfl) ?_
        refine va_get (D := (dC, dI)) (ci := 5) (v := .ref j) (C := RX7) (T := TX7) (N := 10) hx hb hts iX7 hown hK hP 0 rfl rfl 3 (by decide) (hts (.fieldLink RX7 33 "ParkTower" "job" "LParkTower$Job;") (by decide +kernel)) (fun _ h9 => h9) rfl dX7_fetchStep_1 ?_
        refine va_getN (D := (dC, dI)) (ci := 1) (v := .int 2) (C := RX2) (T := TX2) (N := 5) hx hb hts iX2 hown hK hP 1 rfl rfl 3 (by decide) (va_Nw.use rfl (hN.1 (.fieldLinkNest RX7 173 "ParkTower$Job" "stepsEnded" "I" "ParkTower") (by decide +kernel))) (fun _ h9 => h9) rfl dX7_fetchStep_4 ?_
        refine lv_if_ne (tgt := 14) hx hb dX7_fetchStep_7 (by decide) (fun _ => ?_) (fun c => absurd c (by decide))
        refine lv_iconst (v := 0) hx hb dX7_fetchStep_14 (by decide) ?_
        refine lv_aload_n hx hb dX7_fetchStep_15 rfl (lv_at hl 0 rfl) ?_
        refine va_get (D := (dC, dI)) (ci := 5) (v := .ref j) (C := RX7) (T := TX7) (N := 10) hx hb hts iX7 hown hK hP 0 rfl rfl 3 (by decide) (hts (.fieldLink RX7 33 "ParkTower" "job" "LParkTower$Job;") (by decide +kernel)) (fun _ h9 => h9) rfl dX7_fetchStep_16 ?_
        refine va_getN (D := (dC, dI)) (ci := 1) (v := .int 2) (C := RX2) (T := TX2) (N := 5) hx hb hts iX2 hown hK hP 1 rfl rfl 3 (by decide) (va_Nw.use rfl (hN.1 (.fieldLinkNest RX7 173 "ParkTower$Job" "stepsEnded" "I" "ParkTower") (by decide +kernel))) (fun _ h9 => h9) rfl dX7_fetchStep_19 ?_
        refine lv_aload_n hx hb dX7_fetchStep_22 rfl (lv_at hl 0 rfl) ?_
        refine va_get (D := (dC, dI)) (ci := 5) (v := .ref j) (C := RX7) (T := TX7) (N := 10) hx hb hts iX7 hown hK hP 0 rfl rfl 3 (by decide) (hts (.fieldLink RX7 33 "ParkTower" "job" "LParkTower$Job;") (by decide +kernel)) (fun _ h9 => h9) rfl dX7_fetchStep_23 ?_
        refine va_getN (D := (dC, dI)) (ci := 1) (v := .ref pl) (C := RX2) (T := TX2) (N := 5) hx hb hts iX2 hown hK hP 1 rfl rfl 0 (by decide) (va_Nw.use rfl (hN.1 (.fieldLinkNest RX7 251 "ParkTower$Job" "plan" "LParkTower$Plan;" "ParkTower") (by decide +kernel))) (fun _ h9 => h9) rfl dX7_fetchStep_26 ?_
        refine va_getN (D := (dC, dI)) (ci := 3) (v := .int 2) (C := RX4) (T := TX4) (N := 3) hx hb hts iX4 hown hK hP 2 rfl rfl 2 (by decide) (va_Nw.use rfl (hN.1 (.fieldLinkNest RX7 147 "ParkTower$Plan" "count" "I" "ParkTower") (by decide +kernel))) (fun _ h9 => h9) rfl dX7_fetchStep_29 ?_
        refine lv_isub hx hb dX7_fetchStep_32 ?_
        refine pt_topi 0 (by decide) ?_
        refine va_mmax hx hb (hml.trans hl.1.symm) hown (hts (.methodLink RX7 305 Lib.Math.max.name) (by decide +kernel)) (hts (.static Lib.Math.max.name) (by decide +kernel)) (hts (.initialized "java/lang/Math") (by decide +kernel)) (hts (.code Lib.Math.max.name Lib.Math.max.code 2 (some .int)) (by decide +kernel)) (Nat.le_of_ble_eq_true rfl) (Nat.le_of_ble_eq_true rfl) (Nat.le_of_ble_eq_true rfl) (Nat.le_of_ble_eq_true rfl) dX7_fetchStep_33 ?_
        refine pt_topi 0 (by decide) ?_
        refine lv_tableIn (off := 28) (tgt := 64) hx hb dX7_fetchStep_36 (by decide) (by decide) (by decide) (by decide) ?_
        refine va_gets (C := "ParkTower$Step") (n := "MOVE") (d := "LParkTower$Step;") (v := .ref (ad 6)) hx hb (hEN.1.1 6 (by decide)).1 hS hown (hts (.fieldLink RX7 310 "ParkTower$Step" "MOVE" "LParkTower$Step;") (by decide +kernel)) (fun _ h9 => h9) dX7_fetchStep_64 ?_
        exact W.aret (v := .ref (ad 6)) (rt := .object "ParkTower$Step") hx hb hr (Or.inl ⟨_, rfl⟩) (Or.inr ⟨_, rfl⟩) (fun t ht hW => ⟨some 6, rfl, ⟨6, by decide, rfl, by omega⟩, ht⟩) (fun q h => by cases h) dX7_fetchStep_67
  · have hP : va_P (dC, dI) vwCl [(x, .inr (5, [.ref rk, .ref ba, .ref od, .ref j, .ref ap, .int li, .int pw, .int rs, .int tm, .int (nI sr)])), (j, .inr (1, [.ref pl, .int jo, .int jc, .int 3, .int jt])), (pl, .inr (3, [.ref pf, .ref pg, .int pz])), (pf, .inl (c4, 2, .inl ff)), (pg, .inl (c5, 2, .inl fg))] s.heap := hP
    rcases hz with rfl | ⟨z, hz, rfl⟩
    · skip
      refine lv_aload_n hx hb dX7_fetchStep_0 rfl (lv_at hl 0 rfl) ?_
      refine va_get (D := (dC, dI)) (ci := 5) (v := .ref j) (C := RX7) (T := TX7) (N := 10) hx hb hts iX7 hown hK hP 0 rfl rfl 3 (by decide) (hts (.fieldLink RX7 33 "ParkTower" "job" "LParkTower$Job;") (by decide +kernel)) (fun _ h9 => h9) rfl dX7_fetchStep_1 ?_
      refine va_getN (D := (dC, dI)) (ci := 1) (v := .int 3) (C := RX2) (T := TX2) (N := 5) hx hb hts iX2 hown hK hP 1 rfl rfl 3 (by decide) (va_Nw.use rfl (hN.1 (.fieldLinkNest RX7 173 "ParkTower$Job" "stepsEnded" "I" "ParkTower") (by decide +kernel))) (fun _ h9 => h9) rfl dX7_fetchStep_4 ?_
      refine lv_if_ne (tgt := 14) hx hb dX7_fetchStep_7 (by decide) (fun _ => ?_) (fun c => absurd c (by decide))
      refine lv_iconst (v := 0) hx hb dX7_fetchStep_14 (by decide) ?_
      refine lv_aload_n hx hb dX7_fetchStep_15 rfl (lv_at hl 0 rfl) ?_
      refine va_get (D := (dC, dI)) (ci := 5) (v := .ref j) (C := RX7) (T := TX7) (N := 10) hx hb hts iX7 hown hK hP 0 rfl rfl 3 (by decide) (hts (.fieldLink RX7 33 "ParkTower" "job" "LParkTower$Job;") (by decide +kernel)) (fun _ h9 => h9) rfl dX7_fetchStep_16 ?_
      refine va_getN (D := (dC, dI)) (ci := 1) (v := .int 3) (C := RX2) (T := TX2) (N := 5) hx hb hts iX2 hown hK hP 1 rfl rfl 3 (by decide) (va_Nw.use rfl (hN.1 (.fieldLinkNest RX7 173 "ParkTower$Job" "stepsEnded" "I" "ParkTower") (by decide +kernel))) (fun _ h9 => h9) rfl dX7_fetchStep_19 ?_
      refine lv_aload_n hx hb dX7_fetchStep_22 rfl (lv_at hl 0 rfl) ?_
      refine va_get (D := (dC, dI)) (ci := 5) (v := .ref j) (C := RX7) (T := TX7) (N := 10) hx hb hts iX7 hown hK hP 0 rfl rfl 3 (by decide) (hts (.fieldLink RX7 33 "ParkTower" "job" "LParkTower$Job;") (by decide +kernel)) (fun _ h9 => h9) rfl dX7_fetchStep_23 ?_
      refine va_getN (D := (dC, dI)) (ci := 1) (v := .ref pl) (C := RX2) (T := TX2) (N := 5) hx hb hts iX2 hown hK hP 1 rfl rfl 0 (by decide) (va_Nw.use rfl (hN.1 (.fieldLinkNest RX7 251 "ParkTower$Job" "plan" "LParkTower$Plan;" "ParkTower") (by decide +kernel))) (fun _ h9 => h9) rfl dX7_fetchStep_26 ?_
      refine va_getN (D := (dC, dI)) (ci := 3) (v := .int (-1)) (C := RX4) (T := TX4) (N := 3) hx hb hts iX4 hown hK hP 2 rfl rfl 2 (by decide) (va_Nw.use rfl (hN.1 (.fieldLinkNest RX7 147 "ParkTower$Plan" "count" "I" "ParkTower") (by decide +kernel))) (fun _ h9 => h9) rfl dX7_fetchStep_29 ?_
      refine lv_isub hx hb dX7_fetchStep_32 ?_
      refine pt_topi 4 (by decide) ?_
      refine va_mmax hx hb (hml.trans hl.1.symm) hown (hts (.methodLink RX7 305 Lib.Math.max.name) (by decide +kernel)) (hts (.static Lib.Math.max.name) (by decide +kernel)) (hts (.initialized "java/lang/Math") (by decide +kernel)) (hts (.code Lib.Math.max.name Lib.Math.max.code 2 (some .int)) (by decide +kernel)) (Nat.le_of_ble_eq_true rfl) (Nat.le_of_ble_eq_true rfl) (Nat.le_of_ble_eq_true rfl) (Nat.le_of_ble_eq_true rfl) dX7_fetchStep_33 ?_
      refine pt_topi 4 (by decide) ?_
      refine lv_tableOut (tgt := 76) hx hb dX7_fetchStep_36 (by decide) (by decide) ?_
      refine va_gets (C := "ParkTower$Step") (n := "INTO_BAY") (d := "LParkTower$Step;") (v := .ref (ad 3)) hx hb (hEN.1.1 3 (by decide)).1 hS hown (hts (.fieldLink RX7 316 "ParkTower$Step" "INTO_BAY" "LParkTower$Step;") (by decide +kernel)) (fun _ h9 => h9) dX7_fetchStep_76 ?_
      exact W.aret (v := .ref (ad 3)) (rt := .object "ParkTower$Step") hx hb hr (Or.inl ⟨_, rfl⟩) (Or.inr ⟨_, rfl⟩) (fun t ht hW => ⟨some 3, rfl, ⟨3, by decide, rfl, by omega⟩, ht⟩) (fun q h => by cases h) dX7_fetchStep_79
    · rcases (show z = 0 ∨ z = 1 ∨ z = 2 by omega) with rfl | rfl | rfl
      · have hP : va_P (dC, dI) vwCl [(x, .inr (5, [.ref rk, .ref ba, .ref od, .ref j, .ref ap, .int li, .int pw, .int rs, .int tm, .int (nI sr)])), (j, .inr (1, [.ref pl, .int jo, .int jc, .int 3, .int jt])), (pl, .inr (3, [.ref pf, .ref pg, .int 0])), (pf, .inl (c4, 2, .inl ff)), (pg, .inl (c5, 2, .inl fg))] s.heap := hP
        refine lv_aload_n hx hb dX7_fetchStep_0 rfl (lv_at hl 0 rfl) ?_
        refine va_get (D := (dC, dI)) (ci := 5) (v := .ref j) (C := RX7) (T := TX7) (N := 10) hx hb hts iX7 hown hK hP 0 rfl rfl 3 (by decide) (hts (.fieldLink RX7 33 "ParkTower" "job" "LParkTower$Job;") (by decide +kernel)) (fun _ h9 => h9) rfl dX7_fetchStep_1 ?_
        refine va_getN (D := (dC, dI)) (ci := 1) (v := .int 3) (C := RX2) (T := TX2) (N := 5) hx hb hts iX2 hown hK hP 1 rfl rfl 3 (by decide) (va_Nw.use rfl (hN.1 (.fieldLinkNest RX7 173 "ParkTower$Job" "stepsEnded" "I" "ParkTower") (by decide +kernel))) (fun _ h9 => h9) rfl dX7_fetchStep_4 ?_
        refine lv_if_ne (tgt := 14) hx hb dX7_fetchStep_7 (by decide) (fun _ => ?_) (fun c => absurd c (by decide))
        refine lv_iconst (v := 0) hx hb dX7_fetchStep_14 (by decide) ?_
        refine lv_aload_n hx hb dX7_fetchStep_15 rfl (lv_at hl 0 rfl) ?_
        refine va_get (D := (dC, dI)) (ci := 5) (v := .ref j) (C := RX7) (T := TX7) (N := 10) hx hb hts iX7 hown hK hP 0 rfl rfl 3 (by decide) (hts (.fieldLink RX7 33 "ParkTower" "job" "LParkTower$Job;") (by decide +kernel)) (fun _ h9 => h9) rfl dX7_fetchStep_16 ?_
        refine va_getN (D := (dC, dI)) (ci := 1) (v := .int 3) (C := RX2) (T := TX2) (N := 5) hx hb hts iX2 hown hK hP 1 rfl rfl 3 (by decide) (va_Nw.use rfl (hN.1 (.fieldLinkNest RX7 173 "ParkTower$Job" "stepsEnded" "I" "ParkTower") (by decide +kernel))) (fun _ h9 => h9) rfl dX7_fetchStep_19 ?_
        refine lv_aload_n hx hb dX7_fetchStep_22 rfl (lv_at hl 0 rfl) ?_
        refine va_get (D := (dC, dI)) (ci := 5) (v := .ref j) (C := RX7) (T := TX7) (N := 10) hx hb hts iX7 hown hK hP 0 rfl rfl 3 (by decide) (hts (.fieldLink RX7 33 "ParkTower" "job" "LParkTower$Job;") (by decide +kernel)) (fun _ h9 => h9) rfl dX7_fetchStep_23 ?_
        refine va_getN (D := (dC, dI)) (ci := 1) (v := .ref pl) (C := RX2) (T := TX2) (N := 5) hx hb hts iX2 hown hK hP 1 rfl rfl 0 (by decide) (va_Nw.use rfl (hN.1 (.fieldLinkNest RX7 251 "ParkTower$Job" "plan" "LParkTower$Plan;" "ParkTower") (by decide +kernel))) (fun _ h9 => h9) rfl dX7_fetchStep_26 ?_
        refine va_getN (D := (dC, dI)) (ci := 3) (v := .int 0) (C := RX4) (T := TX4) (N := 3) hx hb hts iX4 hown hK hP 2 rfl rfl 2 (by decide) (va_Nw.use rfl (hN.1 (.fieldLinkNest RX7 147 "ParkTower$Plan" "count" "I" "ParkTower") (by decide +kernel))) (fun _ h9 => h9) rfl dX7_fetchStep_29 ?_
        refine lv_isub hx hb dX7_fetchStep_32 ?_
        refine pt_topi 3 (by decide) ?_
        refine va_mmax hx hb (hml.trans hl.1.symm) hown (hts (.methodLink RX7 305 Lib.Math.max.name) (by decide +kernel)) (hts (.static Lib.Math.max.name) (by decide +kernel)) (hts (.initialized "java/lang/Math") (by decide +kernel)) (hts (.code Lib.Math.max.name Lib.Math.max.code 2 (some .int)) (by decide +kernel)) (Nat.le_of_ble_eq_true rfl) (Nat.le_of_ble_eq_true rfl) (Nat.le_of_ble_eq_true rfl) (Nat.le_of_ble_eq_true rfl) dX7_fetchStep_33 ?_
        refine pt_topi 3 (by decide) ?_
        refine lv_tableOut (tgt := 76) hx hb dX7_fetchStep_36 (by decide) (by decide) ?_
        refine va_gets (C := "ParkTower$Step") (n := "INTO_BAY") (d := "LParkTower$Step;") (v := .ref (ad 3)) hx hb (hEN.1.1 3 (by decide)).1 hS hown (hts (.fieldLink RX7 316 "ParkTower$Step" "INTO_BAY" "LParkTower$Step;") (by decide +kernel)) (fun _ h9 => h9) dX7_fetchStep_76 ?_
        exact W.aret (v := .ref (ad 3)) (rt := .object "ParkTower$Step") hx hb hr (Or.inl ⟨_, rfl⟩) (Or.inr ⟨_, rfl⟩) (fun t ht hW => ⟨some 3, rfl, ⟨3, by decide, rfl, by omega⟩, ht⟩) (fun q h => by cases h) dX7_fetchStep_79
      · have hP : va_P (dC, dI) vwCl [(x, .inr (5, [.ref rk, .ref ba, .ref od, .ref j, .ref ap, .int li, .int pw, .int rs, .int tm, .int (nI sr)])), (j, .inr (1, [.ref pl, .int jo, .int jc, .int 3, .int jt])), (pl, .inr (3, [.ref pf, .ref pg, .int 1])), (pf, .inl (c4, 2, .inl ff)), (pg, .inl (c5, 2, .inl fg))] s.heap := hP
        refine lv_aload_n hx hb dX7_fetchStep_0 rfl (lv_at hl 0 rfl) ?_
        refine va_get (D := (dC, dI)) (ci := 5) (v := .ref j) (C := RX7) (T := TX7) (N := 10) hx hb hts iX7 hown hK hP 0 rfl rfl 3 (by decide) (hts (.fieldLink RX7 33 "ParkTower" "job" "LParkTower$Job;") (by decide +kernel)) (fun _ h9 => h9) rfl dX7_fetchStep_1 ?_
        refine va_getN (D := (dC, dI)) (ci := 1) (v := .int 3) (C := RX2) (T := TX2) (N := 5) hx hb hts iX2 hown hK hP 1 rfl rfl 3 (by decide) (va_Nw.use rfl (hN.1 (.fieldLinkNest RX7 173 "ParkTower$Job" "stepsEnded" "I" "ParkTower") (by decide +kernel))) (fun _ h9 => h9) rfl dX7_fetchStep_4 ?_
        refine lv_if_ne (tgt := 14) hx hb dX7_fetchStep_7 (by decide) (fun _ => ?_) (fun c => absurd c (by decide))
        refine lv_iconst (v := 0) hx hb dX7_fetchStep_14 (by decide) ?_
        refine lv_aload_n hx hb dX7_fetchStep_15 rfl (lv_at hl 0 rfl) ?_
        refine va_get (D := (dC, dI)) (ci := 5) (v := .ref j) (C := RX7) (T := TX7) (N := 10) hx hb hts iX7 hown hK hP 0 rfl rfl 3 (by decide) (hts (.fieldLink RX7 33 "ParkTower" "job" "LParkTower$Job;") (by decide +kernel)) (fun _ h9 => h9) rfl dX7_fetchStep_16 ?_
        refine va_getN (D := (dC, dI)) (ci := 1) (v := .int 3) (C := RX2) (T := TX2) (N := 5) hx hb hts iX2 hown hK hP 1 rfl rfl 3 (by decide) (va_Nw.use rfl (hN.1 (.fieldLinkNest RX7 173 "ParkTower$Job" "stepsEnded" "I" "ParkTower") (by decide +kernel))) (fun _ h9 => h9) rfl dX7_fetchStep_19 ?_
        refine lv_aload_n hx hb dX7_fetchStep_22 rfl (lv_at hl 0 rfl) ?_
        refine va_get (D := (dC, dI)) (ci := 5) (v := .ref j) (C := RX7) (T := TX7) (N := 10) hx hb hts iX7 hown hK hP 0 rfl rfl 3 (by decide) (hts (.fieldLink RX7 33 "ParkTower" "job" "LParkTower$Job;") (by decide +kernel)) (fun _ h9 => h9) rfl dX7_fetchStep_23 ?_
        refine va_getN (D := (dC, dI)) (ci := 1) (v := .ref pl) (C := RX2) (T := TX2) (N := 5) hx hb hts iX2 hown hK hP 1 rfl rfl 0 (by decide) (va_Nw.use rfl (hN.1 (.fieldLinkNest RX7 251 "ParkTower$Job" "plan" "LParkTower$Plan;" "ParkTower") (by decide +kernel))) (fun _ h9 => h9) rfl dX7_fetchStep_26 ?_
        refine va_getN (D := (dC, dI)) (ci := 3) (v := .int 1) (C := RX4) (T := TX4) (N := 3) hx hb hts iX4 hown hK hP 2 rfl rfl 2 (by decide) (va_Nw.use rfl (hN.1 (.fieldLinkNest RX7 147 "ParkTower$Plan" "count" "I" "ParkTower") (by decide +kernel))) (fun _ h9 => h9) rfl dX7_fetchStep_29 ?_
        refine lv_isub hx hb dX7_fetchStep_32 ?_
        refine pt_topi 2 (by decide) ?_
        refine va_mmax hx hb (hml.trans hl.1.symm) hown (hts (.methodLink RX7 305 Lib.Math.max.name) (by decide +kernel)) (hts (.static Lib.Math.max.name) (by decide +kernel)) (hts (.initialized "java/lang/Math") (by decide +kernel)) (hts (.code Lib.Math.max.name Lib.Math.max.code 2 (some .int)) (by decide +kernel)) (Nat.le_of_ble_eq_true rfl) (Nat.le_of_ble_eq_true rfl) (Nat.le_of_ble_eq_true rfl) (Nat.le_of_ble_eq_true rfl) dX7_fetchStep_33 ?_
        refine pt_topi 2 (by decide) ?_
        refine lv_tableIn (off := 36) (tgt := 72) hx hb dX7_fetchStep_36 (by decide) (by decide) (by decide) (by decide) ?_
        refine va_gets (C := "ParkTower$Step") (n := "LIFT_TO_GROUND") (d := "LParkTower$Step;") (v := .ref (ad 0)) hx hb (hEN.1.1 0 (by decide)).1 hS hown (hts (.fieldLink RX7 292 "ParkTower$Step" "LIFT_TO_GROUND" "LParkTower$Step;") (by decide +kernel)) (fun _ h9 => h9) dX7_fetchStep_72 ?_
        exact W.aret (v := .ref (ad 0)) (rt := .object "ParkTower$Step") hx hb hr (Or.inl ⟨_, rfl⟩) (Or.inr ⟨_, rfl⟩) (fun t ht hW => ⟨some 0, rfl, ⟨0, by decide, rfl, by omega⟩, ht⟩) (fun q h => by cases h) dX7_fetchStep_75
      · have hP : va_P (dC, dI) vwCl [(x, .inr (5, [.ref rk, .ref ba, .ref od, .ref j, .ref ap, .int li, .int pw, .int rs, .int tm, .int (nI sr)])), (j, .inr (1, [.ref pl, .int jo, .int jc, .int 3, .int jt])), (pl, .inr (3, [.ref pf, .ref pg, .int 2])), (pf, .inl (c4, 2, .inl ff)), (pg, .inl (c5, 2, .inl fg))] s.heap := hP
        refine lv_aload_n hx hb dX7_fetchStep_0 rfl (lv_at hl 0 rfl) ?_
        refine va_get (D := (dC, dI)) (ci := 5) (v := .ref j) (C := RX7) (T := TX7) (N := 10) hx hb hts iX7 hown hK hP 0 rfl rfl 3 (by decide) (hts (.fieldLink RX7 33 "ParkTower" "job" "LParkTower$Job;") (by decide +kernel)) (fun _ h9 => h9) rfl dX7_fetchStep_1 ?_
        refine va_getN (D := (dC, dI)) (ci := 1) (v := .int 3) (C := RX2) (T := TX2) (N := 5) hx hb hts iX2 hown hK hP 1 rfl rfl 3 (by decide) (va_Nw.use rfl (hN.1 (.fieldLinkNest RX7 173 "ParkTower$Job" "stepsEnded" "I" "ParkTower") (by decide +kernel))) (fun _ h9 => h9) rfl dX7_fetchStep_4 ?_
        refine lv_if_ne (tgt := 14) hx hb dX7_fetchStep_7 (by decide) (fun _ => ?_) (fun c => absurd c (by decide))
        refine lv_iconst (v := 0) hx hb dX7_fetchStep_14 (by decide) ?_
        refine lv_aload_n hx hb dX7_fetchStep_15 rfl (lv_at hl 0 rfl) ?_
        refine va_get (D := (dC, dI)) (ci := 5) (v := .ref j) (C := RX7) (T := TX7) (N := 10) hx hb hts iX7 hown hK hP 0 rfl rfl 3 (by decide) (hts (.fieldLink RX7 33 "ParkTower" "job" "LParkTower$Job;") (by decide +kernel)) (fun _ h9 => h9) rfl dX7_fetchStep_16 ?_
        refine va_getN (D := (dC, dI)) (ci := 1) (v := .int 3) (C := RX2) (T := TX2) (N := 5) hx hb hts iX2 hown hK hP 1 rfl rfl 3 (by decide) (va_Nw.use rfl (hN.1 (.fieldLinkNest RX7 173 "ParkTower$Job" "stepsEnded" "I" "ParkTower") (by decide +kernel))) (fun _ h9 => h9) rfl dX7_fetchStep_19 ?_
        refine lv_aload_n hx hb dX7_fetchStep_22 rfl (lv_at hl 0 rfl) ?_
        refine va_get (D := (dC, dI)) (ci := 5) (v := .ref j) (C := RX7) (T := TX7) (N := 10) hx hb hts iX7 hown hK hP 0 rfl rfl 3 (by decide) (hts (.fieldLink RX7 33 "ParkTower" "job" "LParkTower$Job;") (by decide +kernel)) (fun _ h9 => h9) rfl dX7_fetchStep_23 ?_
        refine va_getN (D := (dC, dI)) (ci := 1) (v := .ref pl) (C := RX2) (T := TX2) (N := 5) hx hb hts iX2 hown hK hP 1 rfl rfl 0 (by decide) (va_Nw.use rfl (hN.1 (.fieldLinkNest RX7 251 "ParkTower$Job" "plan" "LParkTower$Plan;" "ParkTower") (by decide +kernel))) (fun _ h9 => h9) rfl dX7_fetchStep_26 ?_
        refine va_getN (D := (dC, dI)) (ci := 3) (v := .int 2) (C := RX4) (T := TX4) (N := 3) hx hb hts iX4 hown hK hP 2 rfl rfl 2 (by decide) (va_Nw.use rfl (hN.1 (.fieldLinkNest RX7 147 "ParkTower$Plan" "count" "I" "ParkTower") (by decide +kernel))) (fun _ h9 => h9) rfl dX7_fetchStep_29 ?_
        refine lv_isub hx hb dX7_fetchStep_32 ?_
        refine pt_topi 1 (by decide) ?_
        refine va_mmax hx hb (hml.trans hl.1.symm) hown (hts (.methodLink RX7 305 Lib.Math.max.name) (by decide +kernel)) (hts (.static Lib.Math.max.name) (by decide +kernel)) (hts (.initialized "java/lang/Math") (by decide +kernel)) (hts (.code Lib.Math.max.name Lib.Math.max.code 2 (some .int)) (by decide +kernel)) (Nat.le_of_ble_eq_true rfl) (Nat.le_of_ble_eq_true rfl) (Nat.le_of_ble_eq_true rfl) (Nat.le_of_ble_eq_true rfl) dX7_fetchStep_33 ?_
        refine pt_topi 1 (by decide) ?_
        refine lv_tableIn (off := 32) (tgt := 68) hx hb dX7_fetchStep_36 (by decide) (by decide) (by decide) (by decide) ?_
        refine va_gets (C := "ParkTower$Step") (n := "FROM_CELL") (d := "LParkTower$Step;") (v := .ref (ad 4)) hx hb (hEN.1.1 4 (by decide)).1 hS hown (hts (.fieldLink RX7 313 "ParkTower$Step" "FROM_CELL" "LParkTower$Step;") (by decide +kernel)) (fun _ h9 => h9) dX7_fetchStep_68 ?_
        exact W.aret (v := .ref (ad 4)) (rt := .object "ParkTower$Step") hx hb hr (Or.inl ⟨_, rfl⟩) (Or.inr ⟨_, rfl⟩) (fun t ht hW => ⟨some 4, rfl, ⟨4, by decide, rfl, by omega⟩, ht⟩) (fun q h => by cases h) dX7_fetchStep_71
  · have hP : va_P (dC, dI) vwCl [(x, .inr (5, [.ref rk, .ref ba, .ref od, .ref j, .ref ap, .int li, .int pw, .int rs, .int tm, .int (nI sr)])), (j, .inr (1, [.ref pl, .int jo, .int jc, .int 4, .int jt])), (pl, .inr (3, [.ref pf, .ref pg, .int pz])), (pf, .inl (c4, 2, .inl ff)), (pg, .inl (c5, 2, .inl fg))] s.heap := hP
    rcases hz with rfl | ⟨z, hz, rfl⟩
    · skip
      refine lv_aload_n hx hb dX7_fetchStep_0 rfl (lv_at hl 0 rfl) ?_
      refine va_get (D := (dC, dI)) (ci := 5) (v := .ref j) (C := RX7) (T := TX7) (N := 10) hx hb hts iX7 hown hK hP 0 rfl rfl 3 (by decide) (hts (.fieldLink RX7 33 "ParkTower" "job" "LParkTower$Job;") (by decide +kernel)) (fun _ h9 => h9) rfl dX7_fetchStep_1 ?_
      refine va_getN (D := (dC, dI)) (ci := 1) (v := .int 4) (C := RX2) (T := TX2) (N := 5) hx hb hts iX2 hown hK hP 1 rfl rfl 3 (by decide) (va_Nw.use rfl (hN.1 (.fieldLinkNest RX7 173 "ParkTower$Job" "stepsEnded" "I" "ParkTower") (by decide +kernel))) (fun _ h9 => h9) rfl dX7_fetchStep_4 ?_
      refine lv_if_ne (tgt := 14) hx hb dX7_fetchStep_7 (by decide) (fun _ => ?_) (fun c => absurd c (by decide))
      refine lv_iconst (v := 0) hx hb dX7_fetchStep_14 (by decide) ?_
      refine lv_aload_n hx hb dX7_fetchStep_15 rfl (lv_at hl 0 rfl) ?_
      refine va_get (D := (dC, dI)) (ci := 5) (v := .ref j) (C := RX7) (T := TX7) (N := 10) hx hb hts iX7 hown hK hP 0 rfl rfl 3 (by decide) (hts (.fieldLink RX7 33 "ParkTower" "job" "LParkTower$Job;") (by decide +kernel)) (fun _ h9 => h9) rfl dX7_fetchStep_16 ?_
      refine va_getN (D := (dC, dI)) (ci := 1) (v := .int 4) (C := RX2) (T := TX2) (N := 5) hx hb hts iX2 hown hK hP 1 rfl rfl 3 (by decide) (va_Nw.use rfl (hN.1 (.fieldLinkNest RX7 173 "ParkTower$Job" "stepsEnded" "I" "ParkTower") (by decide +kernel))) (fun _ h9 => h9) rfl dX7_fetchStep_19 ?_
      refine lv_aload_n hx hb dX7_fetchStep_22 rfl (lv_at hl 0 rfl) ?_
      refine va_get (D := (dC, dI)) (ci := 5) (v := .ref j) (C := RX7) (T := TX7) (N := 10) hx hb hts iX7 hown hK hP 0 rfl rfl 3 (by decide) (hts (.fieldLink RX7 33 "ParkTower" "job" "LParkTower$Job;") (by decide +kernel)) (fun _ h9 => h9) rfl dX7_fetchStep_23 ?_
      refine va_getN (D := (dC, dI)) (ci := 1) (v := .ref pl) (C := RX2) (T := TX2) (N := 5) hx hb hts iX2 hown hK hP 1 rfl rfl 0 (by decide) (va_Nw.use rfl (hN.1 (.fieldLinkNest RX7 251 "ParkTower$Job" "plan" "LParkTower$Plan;" "ParkTower") (by decide +kernel))) (fun _ h9 => h9) rfl dX7_fetchStep_26 ?_
      refine va_getN (D := (dC, dI)) (ci := 3) (v := .int (-1)) (C := RX4) (T := TX4) (N := 3) hx hb hts iX4 hown hK hP 2 rfl rfl 2 (by decide) (va_Nw.use rfl (hN.1 (.fieldLinkNest RX7 147 "ParkTower$Plan" "count" "I" "ParkTower") (by decide +kernel))) (fun _ h9 => h9) rfl dX7_fetchStep_29 ?_
      refine lv_isub hx hb dX7_fetchStep_32 ?_
      refine pt_topi 5 (by decide) ?_
      refine va_mmax hx hb (hml.trans hl.1.symm) hown (hts (.methodLink RX7 305 Lib.Math.max.name) (by decide +kernel)) (hts (.static Lib.Math.max.name) (by decide +kernel)) (hts (.initialized "java/lang/Math") (by decide +kernel)) (hts (.code Lib.Math.max.name Lib.Math.max.code 2 (some .int)) (by decide +kernel)) (Nat.le_of_ble_eq_true rfl) (Nat.le_of_ble_eq_true rfl) (Nat.le_of_ble_eq_true rfl) (Nat.le_of_ble_eq_true rfl) dX7_fetchStep_33 ?_
      refine pt_topi 5 (by decide) ?_
      refine lv_tableOut (tgt := 76) hx hb dX7_fetchStep_36 (by decide) (by decide) ?_
      refine va_gets (C := "ParkTower$Step") (n := "INTO_BAY") (d := "LParkTower$Step;") (v := .ref (ad 3)) hx hb (hEN.1.1 3 (by decide)).1 hS hown (hts (.fieldLink RX7 316 "ParkTower$Step" "INTO_BAY" "LParkTower$Step;") (by decide +kernel)) (fun _ h9 => h9) dX7_fetchStep_76 ?_
      exact W.aret (v := .ref (ad 3)) (rt := .object "ParkTower$Step") hx hb hr (Or.inl ⟨_, rfl⟩) (Or.inr ⟨_, rfl⟩) (fun t ht hW => ⟨some 3, rfl, ⟨3, by decide, rfl, by omega⟩, ht⟩) (fun q h => by cases h) dX7_fetchStep_79
    · rcases (show z = 0 ∨ z = 1 ∨ z = 2 by omega) with rfl | rfl | rfl
      · have hP : va_P (dC, dI) vwCl [(x, .inr (5, [.ref rk, .ref ba, .ref od, .ref j, .ref ap, .int li, .int pw, .int rs, .int tm, .int (nI sr)])), (j, .inr (1, [.ref pl, .int jo, .int jc, .int 4, .int jt])), (pl, .inr (3, [.ref pf, .ref pg, .int 0])), (pf, .inl (c4, 2, .inl ff)), (pg, .inl (c5, 2, .inl fg))] s.heap := hP
        refine lv_aload_n hx hb dX7_fetchStep_0 rfl (lv_at hl 0 rfl) ?_
        refine va_get (D := (dC, dI)) (ci := 5) (v := .ref j) (C := RX7) (T := TX7) (N := 10) hx hb hts iX7 hown hK hP 0 rfl rfl 3 (by decide) (hts (.fieldLink RX7 33 "ParkTower" "job" "LParkTower$Job;") (by decide +kernel)) (fun _ h9 => h9) rfl dX7_fetchStep_1 ?_
        refine va_getN (D := (dC, dI)) (ci := 1) (v := .int 4) (C := RX2) (T := TX2) (N := 5) hx hb hts iX2 hown hK hP 1 rfl rfl 3 (by decide) (va_Nw.use rfl (hN.1 (.fieldLinkNest RX7 173 "ParkTower$Job" "stepsEnded" "I" "ParkTower") (by decide +kernel))) (fun _ h9 => h9) rfl dX7_fetchStep_4 ?_
        refine lv_if_ne (tgt := 14) hx hb dX7_fetchStep_7 (by decide) (fun _ => ?_) (fun c => absurd c (by decide))
        refine lv_iconst (v := 0) hx hb dX7_fetchStep_14 (by decide) ?_
        refine lv_aload_n hx hb dX7_fetchStep_15 rfl (lv_at hl 0 rfl) ?_
        refine va_get (D := (dC, dI)) (ci := 5) (v := .ref j) (C := RX7) (T := TX7) (N := 10) hx hb hts iX7 hown hK hP 0 rfl rfl 3 (by decide) (hts (.fieldLink RX7 33 "ParkTower" "job" "LParkTower$Job;") (by decide +kernel)) (fun _ h9 => h9) rfl dX7_fetchStep_16 ?_
        refine va_getN (D := (dC, dI)) (ci := 1) (v := .int 4) (C := RX2) (T := TX2) (N := 5) hx hb hts iX2 hown hK hP 1 rfl rfl 3 (by decide) (va_Nw.use rfl (hN.1 (.fieldLinkNest RX7 173 "ParkTower$Job" "stepsEnded" "I" "ParkTower") (by decide +kernel))) (fun _ h9 => h9) rfl dX7_fetchStep_19 ?_
        refine lv_aload_n hx hb dX7_fetchStep_22 rfl (lv_at hl 0 rfl) ?_
        refine va_get (D := (dC, dI)) (ci := 5) (v := .ref j) (C := RX7) (T := TX7) (N := 10) hx hb hts iX7 hown hK hP 0 rfl rfl 3 (by decide) (hts (.fieldLink RX7 33 "ParkTower" "job" "LParkTower$Job;") (by decide +kernel)) (fun _ h9 => h9) rfl dX7_fetchStep_23 ?_
        refine va_getN (D := (dC, dI)) (ci := 1) (v := .ref pl) (C := RX2) (T := TX2) (N := 5) hx hb hts iX2 hown hK hP 1 rfl rfl 0 (by decide) (va_Nw.use rfl (hN.1 (.fieldLinkNest RX7 251 "ParkTower$Job" "plan" "LParkTower$Plan;" "ParkTower") (by decide +kernel))) (fun _ h9 => h9) rfl dX7_fetchStep_26 ?_
        refine va_getN (D := (dC, dI)) (ci := 3) (v := .int 0) (C := RX4) (T := TX4) (N := 3) hx hb hts iX4 hown hK hP 2 rfl rfl 2 (by decide) (va_Nw.use rfl (hN.1 (.fieldLinkNest RX7 147 "ParkTower$Plan" "count" "I" "ParkTower") (by decide +kernel))) (fun _ h9 => h9) rfl dX7_fetchStep_29 ?_
        refine lv_isub hx hb dX7_fetchStep_32 ?_
        refine pt_topi 4 (by decide) ?_
        refine va_mmax hx hb (hml.trans hl.1.symm) hown (hts (.methodLink RX7 305 Lib.Math.max.name) (by decide +kernel)) (hts (.static Lib.Math.max.name) (by decide +kernel)) (hts (.initialized "java/lang/Math") (by decide +kernel)) (hts (.code Lib.Math.max.name Lib.Math.max.code 2 (some .int)) (by decide +kernel)) (Nat.le_of_ble_eq_true rfl) (Nat.le_of_ble_eq_true rfl) (Nat.le_of_ble_eq_true rfl) (Nat.le_of_ble_eq_true rfl) dX7_fetchStep_33 ?_
        refine pt_topi 4 (by decide) ?_
        refine lv_tableOut (tgt := 76) hx hb dX7_fetchStep_36 (by decide) (by decide) ?_
        refine va_gets (C := "ParkTower$Step") (n := "INTO_BAY") (d := "LParkTower$Step;") (v := .ref (ad 3)) hx hb (hEN.1.1 3 (by decide)).1 hS hown (hts (.fieldLink RX7 316 "ParkTower$Step" "INTO_BAY" "LParkTower$Step;") (by decide +kernel)) (fun _ h9 => h9) dX7_fetchStep_76 ?_
        exact W.aret (v := .ref (ad 3)) (rt := .object "ParkTower$Step") hx hb hr (Or.inl ⟨_, rfl⟩) (Or.inr ⟨_, rfl⟩) (fun t ht hW => ⟨some 3, rfl, ⟨3, by decide, rfl, by omega⟩, ht⟩) (fun q h => by cases h) dX7_fetchStep_79
      · have hP : va_P (dC, dI) vwCl [(x, .inr (5, [.ref rk, .ref ba, .ref od, .ref j, .ref ap, .int li, .int pw, .int rs, .int tm, .int (nI sr)])), (j, .inr (1, [.ref pl, .int jo, .int jc, .int 4, .int jt])), (pl, .inr (3, [.ref pf, .ref pg, .int 1])), (pf, .inl (c4, 2, .inl ff)), (pg, .inl (c5, 2, .inl fg))] s.heap := hP
        refine lv_aload_n hx hb dX7_fetchStep_0 rfl (lv_at hl 0 rfl) ?_
        refine va_get (D := (dC, dI)) (ci := 5) (v := .ref j) (C := RX7) (T := TX7) (N := 10) hx hb hts iX7 hown hK hP 0 rfl rfl 3 (by decide) (hts (.fieldLink RX7 33 "ParkTower" "job" "LParkTower$Job;") (by decide +kernel)) (fun _ h9 => h9) rfl dX7_fetchStep_1 ?_
        refine va_getN (D := (dC, dI)) (ci := 1) (v := .int 4) (C := RX2) (T := TX2) (N := 5) hx hb hts iX2 hown hK hP 1 rfl rfl 3 (by decide) (va_Nw.use rfl (hN.1 (.fieldLinkNest RX7 173 "ParkTower$Job" "stepsEnded" "I" "ParkTower") (by decide +kernel))) (fun _ h9 => h9) rfl dX7_fetchStep_4 ?_
        refine lv_if_ne (tgt := 14) hx hb dX7_fetchStep_7 (by decide) (fun _ => ?_) (fun c => absurd c (by decide))
        refine lv_iconst (v := 0) hx hb dX7_fetchStep_14 (by decide) ?_
        refine lv_aload_n hx hb dX7_fetchStep_15 rfl (lv_at hl 0 rfl) ?_
        refine va_get (D := (dC, dI)) (ci := 5) (v := .ref j) (C := RX7) (T := TX7) (N := 10) hx hb hts iX7 hown hK hP 0 rfl rfl 3 (by decide) (hts (.fieldLink RX7 33 "ParkTower" "job" "LParkTower$Job;") (by decide +kernel)) (fun _ h9 => h9) rfl dX7_fetchStep_16 ?_
        refine va_getN (D := (dC, dI)) (ci := 1) (v := .int 4) (C := RX2) (T := TX2) (N := 5) hx hb hts iX2 hown hK hP 1 rfl rfl 3 (by decide) (va_Nw.use rfl (hN.1 (.fieldLinkNest RX7 173 "ParkTower$Job" "stepsEnded" "I" "ParkTower") (by decide +kernel))) (fun _ h9 => h9) rfl dX7_fetchStep_19 ?_
        refine lv_aload_n hx hb dX7_fetchStep_22 rfl (lv_at hl 0 rfl) ?_
        refine va_get (D := (dC, dI)) (ci := 5) (v := .ref j) (C := RX7) (T := TX7) (N := 10) hx hb hts iX7 hown hK hP 0 rfl rfl 3 (by decide) (hts (.fieldLink RX7 33 "ParkTower" "job" "LParkTower$Job;") (by decide +kernel)) (fun _ h9 => h9) rfl dX7_fetchStep_23 ?_
        refine va_getN (D := (dC, dI)) (ci := 1) (v := .ref pl) (C := RX2) (T := TX2) (N := 5) hx hb hts iX2 hown hK hP 1 rfl rfl 0 (by decide) (va_Nw.use rfl (hN.1 (.fieldLinkNest RX7 251 "ParkTower$Job" "plan" "LParkTower$Plan;" "ParkTower") (by decide +kernel))) (fun _ h9 => h9) rfl dX7_fetchStep_26 ?_
        refine va_getN (D := (dC, dI)) (ci := 3) (v := .int 1) (C := RX4) (T := TX4) (N := 3) hx hb hts iX4 hown hK hP 2 rfl rfl 2 (by decide) (va_Nw.use rfl (hN.1 (.fieldLinkNest RX7 147 "ParkTower$Plan" "count" "I" "ParkTower") (by decide +kernel))) (fun _ h9 => h9) rfl dX7_fetchStep_29 ?_
        refine lv_isub hx hb dX7_fetchStep_32 ?_
        refine pt_topi 3 (by decide) ?_
        refine va_mmax hx hb (hml.trans hl.1.symm) hown (hts (.methodLink RX7 305 Lib.Math.max.name) (by decide +kernel)) (hts (.static Lib.Math.max.name) (by decide +kernel)) (hts (.initialized "java/lang/Math") (by decide +kernel)) (hts (.code Lib.Math.max.name Lib.Math.max.code 2 (some .int)) (by decide +kernel)) (Nat.le_of_ble_eq_true rfl) (Nat.le_of_ble_eq_true rfl) (Nat.le_of_ble_eq_true rfl) (Nat.le_of_ble_eq_true rfl) dX7_fetchStep_33 ?_
        refine pt_topi 3 (by decide) ?_
        refine lv_tableOut (tgt := 76) hx hb dX7_fetchStep_36 (by decide) (by decide) ?_
        refine va_gets (C := "ParkTower$Step") (n := "INTO_BAY") (d := "LParkTower$Step;") (v := .ref (ad 3)) hx hb (hEN.1.1 3 (by decide)).1 hS hown (hts (.fieldLink RX7 316 "ParkTower$Step" "INTO_BAY" "LParkTower$Step;") (by decide +kernel)) (fun _ h9 => h9) dX7_fetchStep_76 ?_
        exact W.aret (v := .ref (ad 3)) (rt := .object "ParkTower$Step") hx hb hr (Or.inl ⟨_, rfl⟩) (Or.inr ⟨_, rfl⟩) (fun t ht hW => ⟨some 3, rfl, ⟨3, by decide, rfl, by omega⟩, ht⟩) (fun q h => by cases h) dX7_fetchStep_79
      · have hP : va_P (dC, dI) vwCl [(x, .inr (5, [.ref rk, .ref ba, .ref od, .ref j, .ref ap, .int li, .int pw, .int rs, .int tm, .int (nI sr)])), (j, .inr (1, [.ref pl, .int jo, .int jc, .int 4, .int jt])), (pl, .inr (3, [.ref pf, .ref pg, .int 2])), (pf, .inl (c4, 2, .inl ff)), (pg, .inl (c5, 2, .inl fg))] s.heap := hP
        refine lv_aload_n hx hb dX7_fetchStep_0 rfl (lv_at hl 0 rfl) ?_
        refine va_get (D := (dC, dI)) (ci := 5) (v := .ref j) (C := RX7) (T := TX7) (N := 10) hx hb hts iX7 hown hK hP 0 rfl rfl 3 (by decide) (hts (.fieldLink RX7 33 "ParkTower" "job" "LParkTower$Job;") (by decide +kernel)) (fun _ h9 => h9) rfl dX7_fetchStep_1 ?_
        refine va_getN (D := (dC, dI)) (ci := 1) (v := .int 4) (C := RX2) (T := TX2) (N := 5) hx hb hts iX2 hown hK hP 1 rfl rfl 3 (by decide) (va_Nw.use rfl (hN.1 (.fieldLinkNest RX7 173 "ParkTower$Job" "stepsEnded" "I" "ParkTower") (by decide +kernel))) (fun _ h9 => h9) rfl dX7_fetchStep_4 ?_
        refine lv_if_ne (tgt := 14) hx hb dX7_fetchStep_7 (by decide) (fun _ => ?_) (fun c => absurd c (by decide))
        refine lv_iconst (v := 0) hx hb dX7_fetchStep_14 (by decide) ?_
        refine lv_aload_n hx hb dX7_fetchStep_15 rfl (lv_at hl 0 rfl) ?_
        refine va_get (D := (dC, dI)) (ci := 5) (v := .ref j) (C := RX7) (T := TX7) (N := 10) hx hb hts iX7 hown hK hP 0 rfl rfl 3 (by decide) (hts (.fieldLink RX7 33 "ParkTower" "job" "LParkTower$Job;") (by decide +kernel)) (fun _ h9 => h9) rfl dX7_fetchStep_16 ?_
        refine va_getN (D := (dC, dI)) (ci := 1) (v := .int 4) (C := RX2) (T := TX2) (N := 5) hx hb hts iX2 hown hK hP 1 rfl rfl 3 (by decide) (va_Nw.use rfl (hN.1 (.fieldLinkNest RX7 173 "ParkTower$Job" "stepsEnded" "I" "ParkTower") (by decide +kernel))) (fun _ h9 => h9) rfl dX7_fetchStep_19 ?_
        refine lv_aload_n hx hb dX7_fetchStep_22 rfl (lv_at hl 0 rfl) ?_
        refine va_get (D := (dC, dI)) (ci := 5) (v := .ref j) (C := RX7) (T := TX7) (N := 10) hx hb hts iX7 hown hK hP 0 rfl rfl 3 (by decide) (hts (.fieldLink RX7 33 "ParkTower" "job" "LParkTower$Job;") (by decide +kernel)) (fun _ h9 => h9) rfl dX7_fetchStep_23 ?_
        refine va_getN (D := (dC, dI)) (ci := 1) (v := .ref pl) (C := RX2) (T := TX2) (N := 5) hx hb hts iX2 hown hK hP 1 rfl rfl 0 (by decide) (va_Nw.use rfl (hN.1 (.fieldLinkNest RX7 251 "ParkTower$Job" "plan" "LParkTower$Plan;" "ParkTower") (by decide +kernel))) (fun _ h9 => h9) rfl dX7_fetchStep_26 ?_
        refine va_getN (D := (dC, dI)) (ci := 3) (v := .int 2) (C := RX4) (T := TX4) (N := 3) hx hb hts iX4 hown hK hP 2 rfl rfl 2 (by decide) (va_Nw.use rfl (hN.1 (.fieldLinkNest RX7 147 "ParkTower$Plan" "count" "I" "ParkTower") (by decide +kernel))) (fun _ h9 => h9) rfl dX7_fetchStep_29 ?_
        refine lv_isub hx hb dX7_fetchStep_32 ?_
        refine pt_topi 2 (by decide) ?_
        refine va_mmax hx hb (hml.trans hl.1.symm) hown (hts (.methodLink RX7 305 Lib.Math.max.name) (by decide +kernel)) (hts (.static Lib.Math.max.name) (by decide +kernel)) (hts (.initialized "java/lang/Math") (by decide +kernel)) (hts (.code Lib.Math.max.name Lib.Math.max.code 2 (some .int)) (by decide +kernel)) (Nat.le_of_ble_eq_true rfl) (Nat.le_of_ble_eq_true rfl) (Nat.le_of_ble_eq_true rfl) (Nat.le_of_ble_eq_true rfl) dX7_fetchStep_33 ?_
        refine pt_topi 2 (by decide) ?_
        refine lv_tableIn (off := 36) (tgt := 72) hx hb dX7_fetchStep_36 (by decide) (by decide) (by decide) (by decide) ?_
        refine va_gets (C := "ParkTower$Step") (n := "LIFT_TO_GROUND") (d := "LParkTower$Step;") (v := .ref (ad 0)) hx hb (hEN.1.1 0 (by decide)).1 hS hown (hts (.fieldLink RX7 292 "ParkTower$Step" "LIFT_TO_GROUND" "LParkTower$Step;") (by decide +kernel)) (fun _ h9 => h9) dX7_fetchStep_72 ?_
        exact W.aret (v := .ref (ad 0)) (rt := .object "ParkTower$Step") hx hb hr (Or.inl ⟨_, rfl⟩) (Or.inr ⟨_, rfl⟩) (fun t ht hW => ⟨some 0, rfl, ⟨0, by decide, rfl, by omega⟩, ht⟩) (fun q h => by cases h) dX7_fetchStep_75
  · have hP : va_P (dC, dI) vwCl [(x, .inr (5, [.ref rk, .ref ba, .ref od, .ref j, .ref ap, .int li, .int pw, .int rs, .int tm, .int (nI sr)])), (j, .inr (1, [.ref pl, .int jo, .int jc, .int 5, .int jt])), (pl, .inr (3, [.ref pf, .ref pg, .int pz])), (pf, .inl (c4, 2, .inl ff)), (pg, .inl (c5, 2, .inl fg))] s.heap := hP
    rcases hz with rfl | ⟨z, hz, rfl⟩
    · skip
      refine lv_aload_n hx hb dX7_fetchStep_0 rfl (lv_at hl 0 rfl) ?_
      refine va_get (D := (dC, dI)) (ci := 5) (v := .ref j) (C := RX7) (T := TX7) (N := 10) hx hb hts iX7 hown hK hP 0 rfl rfl 3 (by decide) (hts (.fieldLink RX7 33 "ParkTower" "job" "LParkTower$Job;") (by decide +kernel)) (fun _ h9 => h9) rfl dX7_fetchStep_1 ?_
      refine va_getN (D := (dC, dI)) (ci := 1) (v := .int 5) (C := RX2) (T := TX2) (N := 5) hx hb hts iX2 hown hK hP 1 rfl rfl 3 (by decide) (va_Nw.use rfl (hN.1 (.fieldLinkNest RX7 173 "ParkTower$Job" "stepsEnded" "I" "ParkTower") (by decide +kernel))) (fun _ h9 => h9) rfl dX7_fetchStep_4 ?_
      refine lv_if_ne (tgt := 14) hx hb dX7_fetchStep_7 (by decide) (fun _ => ?_) (fun c => absurd c (by decide))
      refine lv_iconst (v := 0) hx hb dX7_fetchStep_14 (by decide) ?_
      refine lv_aload_n hx hb dX7_fetchStep_15 rfl (lv_at hl 0 rfl) ?_
      refine va_get (D := (dC, dI)) (ci := 5) (v := .ref j) (C := RX7) (T := TX7) (N := 10) hx hb hts iX7 hown hK hP 0 rfl rfl 3 (by decide) (hts (.fieldLink RX7 33 "ParkTower" "job" "LParkTower$Job;") (by decide +kernel)) (fun _ h9 => h9) rfl dX7_fetchStep_16 ?_
      refine va_getN (D := (dC, dI)) (ci := 1) (v := .int 5) (C := RX2) (T := TX2) (N := 5) hx hb hts iX2 hown hK hP 1 rfl rfl 3 (by decide) (va_Nw.use rfl (hN.1 (.fieldLinkNest RX7 173 "ParkTower$Job" "stepsEnded" "I" "ParkTower") (by decide +kernel))) (fun _ h9 => h9) rfl dX7_fetchStep_19 ?_
      refine lv_aload_n hx hb dX7_fetchStep_22 rfl (lv_at hl 0 rfl) ?_
      refine va_get (D := (dC, dI)) (ci := 5) (v := .ref j) (C := RX7) (T := TX7) (N := 10) hx hb hts iX7 hown hK hP 0 rfl rfl 3 (by decide) (hts (.fieldLink RX7 33 "ParkTower" "job" "LParkTower$Job;") (by decide +kernel)) (fun _ h9 => h9) rfl dX7_fetchStep_23 ?_
      refine va_getN (D := (dC, dI)) (ci := 1) (v := .ref pl) (C := RX2) (T := TX2) (N := 5) hx hb hts iX2 hown hK hP 1 rfl rfl 0 (by decide) (va_Nw.use rfl (hN.1 (.fieldLinkNest RX7 251 "ParkTower$Job" "plan" "LParkTower$Plan;" "ParkTower") (by decide +kernel))) (fun _ h9 => h9) rfl dX7_fetchStep_26 ?_
      refine va_getN (D := (dC, dI)) (ci := 3) (v := .int (-1)) (C := RX4) (T := TX4) (N := 3) hx hb hts iX4 hown hK hP 2 rfl rfl 2 (by decide) (va_Nw.use rfl (hN.1 (.fieldLinkNest RX7 147 "ParkTower$Plan" "count" "I" "ParkTower") (by decide +kernel))) (fun _ h9 => h9) rfl dX7_fetchStep_29 ?_
      refine lv_isub hx hb dX7_fetchStep_32 ?_
      refine pt_topi 6 (by decide) ?_
      refine va_mmax hx hb (hml.trans hl.1.symm) hown (hts (.methodLink RX7 305 Lib.Math.max.name) (by decide +kernel)) (hts (.static Lib.Math.max.name) (by decide +kernel)) (hts (.initialized "java/lang/Math") (by decide +kernel)) (hts (.code Lib.Math.max.name Lib.Math.max.code 2 (some .int)) (by decide +kernel)) (Nat.le_of_ble_eq_true rfl) (Nat.le_of_ble_eq_true rfl) (Nat.le_of_ble_eq_true rfl) (Nat.le_of_ble_eq_true rfl) dX7_fetchStep_33 ?_
      refine pt_topi 6 (by decide) ?_
      refine lv_tableOut (tgt := 76) hx hb dX7_fetchStep_36 (by decide) (by decide) ?_
      refine va_gets (C := "ParkTower$Step") (n := "INTO_BAY") (d := "LParkTower$Step;") (v := .ref (ad 3)) hx hb (hEN.1.1 3 (by decide)).1 hS hown (hts (.fieldLink RX7 316 "ParkTower$Step" "INTO_BAY" "LParkTower$Step;") (by decide +kernel)) (fun _ h9 => h9) dX7_fetchStep_76 ?_
      exact W.aret (v := .ref (ad 3)) (rt := .object "ParkTower$Step") hx hb hr (Or.inl ⟨_, rfl⟩) (Or.inr ⟨_, rfl⟩) (fun t ht hW => ⟨some 3, rfl, ⟨3, by decide, rfl, by omega⟩, ht⟩) (fun q h => by cases h) dX7_fetchStep_79
    · rcases (show z = 0 ∨ z = 1 ∨ z = 2 by omega) with rfl | rfl | rfl
      · have hP : va_P (dC, dI) vwCl [(x, .inr (5, [.ref rk, .ref ba, .ref od, .ref j, .ref ap, .int li, .int pw, .int rs, .int tm, .int (nI sr)])), (j, .inr (1, [.ref pl, .int jo, .int jc, .int 5, .int jt])), (pl, .inr (3, [.ref pf, .ref pg, .int 0])), (pf, .inl (c4, 2, .inl ff)), (pg, .inl (c5, 2, .inl fg))] s.heap := hP
        refine lv_aload_n hx hb dX7_fetchStep_0 rfl (lv_at hl 0 rfl) ?_
        refine va_get (D := (dC, dI)) (ci := 5) (v := .ref j) (C := RX7) (T := TX7) (N := 10) hx hb hts iX7 hown hK hP 0 rfl rfl 3 (by decide) (hts (.fieldLink RX7 33 "ParkTower" "job" "LParkTower$Job;") (by decide +kernel)) (fun _ h9 => h9) rfl dX7_fetchStep_1 ?_
        refine va_getN (D := (dC, dI)) (ci := 1) (v := .int 5) (C := RX2) (T := TX2) (N := 5) hx hb hts iX2 hown hK hP 1 rfl rfl 3 (by decide) (va_Nw.use rfl (hN.1 (.fieldLinkNest RX7 173 "ParkTower$Job" "stepsEnded" "I" "ParkTower") (by decide +kernel))) (fun _ h9 => h9) rfl dX7_fetchStep_4 ?_
        refine lv_if_ne (tgt := 14) hx hb dX7_fetchStep_7 (by decide) (fun _ => ?_) (fun c => absurd c (by decide))
        refine lv_iconst (v := 0) hx hb dX7_fetchStep_14 (by decide) ?_
        refine lv_aload_n hx hb dX7_fetchStep_15 rfl (lv_at hl 0 rfl) ?_
        refine va_get (D := (dC, dI)) (ci := 5) (v := .ref j) (C := RX7) (T := TX7) (N := 10) hx hb hts iX7 hown hK hP 0 rfl rfl 3 (by decide) (hts (.fieldLink RX7 33 "ParkTower" "job" "LParkTower$Job;") (by decide +kernel)) (fun _ h9 => h9) rfl dX7_fetchStep_16 ?_
        refine va_getN (D := (dC, dI)) (ci := 1) (v := .int 5) (C := RX2) (T := TX2) (N := 5) hx hb hts iX2 hown hK hP 1 rfl rfl 3 (by decide) (va_Nw.use rfl (hN.1 (.fieldLinkNest RX7 173 "ParkTower$Job" "stepsEnded" "I" "ParkTower") (by decide +kernel))) (fun _ h9 => h9) rfl dX7_fetchStep_19 ?_
        refine lv_aload_n hx hb dX7_fetchStep_22 rfl (lv_at hl 0 rfl) ?_
        refine va_get (D := (dC, dI)) (ci := 5) (v := .ref j) (C := RX7) (T := TX7) (N := 10) hx hb hts iX7 hown hK hP 0 rfl rfl 3 (by decide) (hts (.fieldLink RX7 33 "ParkTower" "job" "LParkTower$Job;") (by decide +kernel)) (fun _ h9 => h9) rfl dX7_fetchStep_23 ?_
        refine va_getN (D := (dC, dI)) (ci := 1) (v := .ref pl) (C := RX2) (T := TX2) (N := 5) hx hb hts iX2 hown hK hP 1 rfl rfl 0 (by decide) (va_Nw.use rfl (hN.1 (.fieldLinkNest RX7 251 "ParkTower$Job" "plan" "LParkTower$Plan;" "ParkTower") (by decide +kernel))) (fun _ h9 => h9) rfl dX7_fetchStep_26 ?_
        refine va_getN (D := (dC, dI)) (ci := 3) (v := .int 0) (C := RX4) (T := TX4) (N := 3) hx hb hts iX4 hown hK hP 2 rfl rfl 2 (by decide) (va_Nw.use rfl (hN.1 (.fieldLinkNest RX7 147 "ParkTower$Plan" "count" "I" "ParkTower") (by decide +kernel))) (fun _ h9 => h9) rfl dX7_fetchStep_29 ?_
        refine lv_isub hx hb dX7_fetchStep_32 ?_
        refine pt_topi 5 (by decide) ?_
        refine va_mmax hx hb (hml.trans hl.1.symm) hown (hts (.methodLink RX7 305 Lib.Math.max.name) (by decide +kernel)) (hts (.static Lib.Math.max.name) (by decide +kernel)) (hts (.initialized "java/lang/Math") (by decide +kernel)) (hts (.code Lib.Math.max.name Lib.Math.max.code 2 (some .int)) (by decide +kernel)) (Nat.le_of_ble_eq_true rfl) (Nat.le_of_ble_eq_true rfl) (Nat.le_of_ble_eq_true rfl) (Nat.le_of_ble_eq_true rfl) dX7_fetchStep_33 ?_
        refine pt_topi 5 (by decide) ?_
        refine lv_tableOut (tgt := 76) hx hb dX7_fetchStep_36 (by decide) (by decide) ?_
        refine va_gets (C := "ParkTower$Step") (n := "INTO_BAY") (d := "LParkTower$Step;") (v := .ref (ad 3)) hx hb (hEN.1.1 3 (by decide)).1 hS hown (hts (.fieldLink RX7 316 "ParkTower$Step" "INTO_BAY" "LParkTower$Step;") (by decide +kernel)) (fun _ h9 => h9) dX7_fetchStep_76 ?_
        exact W.aret (v := .ref (ad 3)) (rt := .object "ParkTower$Step") hx hb hr (Or.inl ⟨_, rfl⟩) (Or.inr ⟨_, rfl⟩) (fun t ht hW => ⟨some 3, rfl, ⟨3, by decide, rfl, by omega⟩, ht⟩) (fun q h => by cases h) dX7_fetchStep_79
      · have hP : va_P (dC, dI) vwCl [(x, .inr (5, [.ref rk, .ref ba, .ref od, .ref j, .ref ap, .int li, .int pw, .int rs, .int tm, .int (nI sr)])), (j, .inr (1, [.ref pl, .int jo, .int jc, .int 5, .int jt])), (pl, .inr (3, [.ref pf, .ref pg, .int 1])), (pf, .inl (c4, 2, .inl ff)), (pg, .inl (c5, 2, .inl fg))] s.heap := hP
        refine lv_aload_n hx hb dX7_fetchStep_0 rfl (lv_at hl 0 rfl) ?_
        refine va_get (D := (dC, dI)) (ci := 5) (v := .ref j) (C := RX7) (T := TX7) (N := 10) hx hb hts iX7 hown hK hP 0 rfl rfl 3 (by decide) (hts (.fieldLink RX7 33 "ParkTower" "job" "LParkTower$Job;") (by decide +kernel)) (fun _ h9 => h9) rfl dX7_fetchStep_1 ?_
        refine va_getN (D := (dC, dI)) (ci := 1) (v := .int 5) (C := RX2) (T := TX2) (N := 5) hx hb hts iX2 hown hK hP 1 rfl rfl 3 (by decide) (va_Nw.use rfl (hN.1 (.fieldLinkNest RX7 173 "ParkTower$Job" "stepsEnded" "I" "ParkTower") (by decide +kernel))) (fun _ h9 => h9) rfl dX7_fetchStep_4 ?_
        refine lv_if_ne (tgt := 14) hx hb dX7_fetchStep_7 (by decide) (fun _ => ?_) (fun c => absurd c (by decide))
        refine lv_iconst (v := 0) hx hb dX7_fetchStep_14 (by decide) ?_
        refine lv_aload_n hx hb dX7_fetchStep_15 rfl (lv_at hl 0 rfl) ?_
        refine va_get (D := (dC, dI)) (ci := 5) (v := .ref j) (C := RX7) (T := TX7) (N := 10) hx hb hts iX7 hown hK hP 0 rfl rfl 3 (by decide) (hts (.fieldLink RX7 33 "ParkTower" "job" "LParkTower$Job;") (by decide +kernel)) (fun _ h9 => h9) rfl dX7_fetchStep_16 ?_
        refine va_getN (D := (dC, dI)) (ci := 1) (v := .int 5) (C := RX2) (T := TX2) (N := 5) hx hb hts iX2 hown hK hP 1 rfl rfl 3 (by decide) (va_Nw.use rfl (hN.1 (.fieldLinkNest RX7 173 "ParkTower$Job" "stepsEnded" "I" "ParkTower") (by decide +kernel))) (fun _ h9 => h9) rfl dX7_fetchStep_19 ?_
        refine lv_aload_n hx hb dX7_fetchStep_22 rfl (lv_at hl 0 rfl) ?_
        refine va_get (D := (dC, dI)) (ci := 5) (v := .ref j) (C := RX7) (T := TX7) (N := 10) hx hb hts iX7 hown hK hP 0 rfl rfl 3 (by decide) (hts (.fieldLink RX7 33 "ParkTower" "job" "LParkTower$Job;") (by decide +kernel)) (fun _ h9 => h9) rfl dX7_fetchStep_23 ?_
        refine va_getN (D := (dC, dI)) (ci := 1) (v := .ref pl) (C := RX2) (T := TX2) (N := 5) hx hb hts iX2 hown hK hP 1 rfl rfl 0 (by decide) (va_Nw.use rfl (hN.1 (.fieldLinkNest RX7 251 "ParkTower$Job" "plan" "LParkTower$Plan;" "ParkTower") (by decide +kernel))) (fun _ h9 => h9) rfl dX7_fetchStep_26 ?_
        refine va_getN (D := (dC, dI)) (ci := 3) (v := .int 1) (C := RX4) (T := TX4) (N := 3) hx hb hts iX4 hown hK hP 2 rfl rfl 2 (by decide) (va_Nw.use rfl (hN.1 (.fieldLinkNest RX7 147 "ParkTower$Plan" "count" "I" "ParkTower") (by decide +kernel))) (fun _ h9 => h9) rfl dX7_fetchStep_29 ?_
        refine lv_isub hx hb dX7_fetchStep_32 ?_
        refine pt_topi 4 (by decide) ?_
        refine va_mmax hx hb (hml.trans hl.1.symm) hown (hts (.methodLink RX7 305 Lib.Math.max.name) (by decide +kernel)) (hts (.static Lib.Math.max.name) (by decide +kernel)) (hts (.initialized "java/lang/Math") (by decide +kernel)) (hts (.code Lib.Math.max.name Lib.Math.max.code 2 (some .int)) (by decide +kernel)) (Nat.le_of_ble_eq_true rfl) (Nat.le_of_ble_eq_true rfl) (Nat.le_of_ble_eq_true rfl) (Nat.le_of_ble_eq_true rfl) dX7_fetchStep_33 ?_
        refine pt_topi 4 (by decide) ?_
        refine lv_tableOut (tgt := 76) hx hb dX7_fetchStep_36 (by decide) (by decide) ?_
        refine va_gets (C := "ParkTower$Step") (n := "INTO_BAY") (d := "LParkTower$Step;") (v := .ref (ad 3)) hx hb (hEN.1.1 3 (by decide)).1 hS hown (hts (.fieldLink RX7 316 "ParkTower$Step" "INTO_BAY" "LParkTower$Step;") (by decide +kernel)) (fun _ h9 => h9) dX7_fetchStep_76 ?_
        exact W.aret (v := .ref (ad 3)) (rt := .object "ParkTower$Step") hx hb hr (Or.inl ⟨_, rfl⟩) (Or.inr ⟨_, rfl⟩) (fun t ht hW => ⟨some 3, rfl, ⟨3, by decide, rfl, by omega⟩, ht⟩) (fun q h => by cases h) dX7_fetchStep_79
      · have hP : va_P (dC, dI) vwCl [(x, .inr (5, [.ref rk, .ref ba, .ref od, .ref j, .ref ap, .int li, .int pw, .int rs, .int tm, .int (nI sr)])), (j, .inr (1, [.ref pl, .int jo, .int jc, .int 5, .int jt])), (pl, .inr (3, [.ref pf, .ref pg, .int 2])), (pf, .inl (c4, 2, .inl ff)), (pg, .inl (c5, 2, .inl fg))] s.heap := hP
        refine lv_aload_n hx hb dX7_fetchStep_0 rfl (lv_at hl 0 rfl) ?_
        refine va_get (D := (dC, dI)) (ci := 5) (v := .ref j) (C := RX7) (T := TX7) (N := 10) hx hb hts iX7 hown hK hP 0 rfl rfl 3 (by decide) (hts (.fieldLink RX7 33 "ParkTower" "job" "LParkTower$Job;") (by decide +kernel)) (fun _ h9 => h9) rfl dX7_fetchStep_1 ?_
        refine va_getN (D := (dC, dI)) (ci := 1) (v := .int 5) (C := RX2) (T := TX2) (N := 5) hx hb hts iX2 hown hK hP 1 rfl rfl 3 (by decide) (va_Nw.use rfl (hN.1 (.fieldLinkNest RX7 173 "ParkTower$Job" "stepsEnded" "I" "ParkTower") (by decide +kernel))) (fun _ h9 => h9) rfl dX7_fetchStep_4 ?_
        refine lv_if_ne (tgt := 14) hx hb dX7_fetchStep_7 (by decide) (fun _ => ?_) (fun c => absurd c (by decide))
        refine lv_iconst (v := 0) hx hb dX7_fetchStep_14 (by decide) ?_
        refine lv_aload_n hx hb dX7_fetchStep_15 rfl (lv_at hl 0 rfl) ?_
        refine va_get (D := (dC, dI)) (ci := 5) (v := .ref j) (C := RX7) (T := TX7) (N := 10) hx hb hts iX7 hown hK hP 0 rfl rfl 3 (by decide) (hts (.fieldLink RX7 33 "ParkTower" "job" "LParkTower$Job;") (by decide +kernel)) (fun _ h9 => h9) rfl dX7_fetchStep_16 ?_
        refine va_getN (D := (dC, dI)) (ci := 1) (v := .int 5) (C := RX2) (T := TX2) (N := 5) hx hb hts iX2 hown hK hP 1 rfl rfl 3 (by decide) (va_Nw.use rfl (hN.1 (.fieldLinkNest RX7 173 "ParkTower$Job" "stepsEnded" "I" "ParkTower") (by decide +kernel))) (fun _ h9 => h9) rfl dX7_fetchStep_19 ?_
        refine lv_aload_n hx hb dX7_fetchStep_22 rfl (lv_at hl 0 rfl) ?_
        refine va_get (D := (dC, dI)) (ci := 5) (v := .ref j) (C := RX7) (T := TX7) (N := 10) hx hb hts iX7 hown hK hP 0 rfl rfl 3 (by decide) (hts (.fieldLink RX7 33 "ParkTower" "job" "LParkTower$Job;") (by decide +kernel)) (fun _ h9 => h9) rfl dX7_fetchStep_23 ?_
        refine va_getN (D := (dC, dI)) (ci := 1) (v := .ref pl) (C := RX2) (T := TX2) (N := 5) hx hb hts iX2 hown hK hP 1 rfl rfl 0 (by decide) (va_Nw.use rfl (hN.1 (.fieldLinkNest RX7 251 "ParkTower$Job" "plan" "LParkTower$Plan;" "ParkTower") (by decide +kernel))) (fun _ h9 => h9) rfl dX7_fetchStep_26 ?_
        refine va_getN (D := (dC, dI)) (ci := 3) (v := .int 2) (C := RX4) (T := TX4) (N := 3) hx hb hts iX4 hown hK hP 2 rfl rfl 2 (by decide) (va_Nw.use rfl (hN.1 (.fieldLinkNest RX7 147 "ParkTower$Plan" "count" "I" "ParkTower") (by decide +kernel))) (fun _ h9 => h9) rfl dX7_fetchStep_29 ?_
        refine lv_isub hx hb dX7_fetchStep_32 ?_
        refine pt_topi 3 (by decide) ?_
        refine va_mmax hx hb (hml.trans hl.1.symm) hown (hts (.methodLink RX7 305 Lib.Math.max.name) (by decide +kernel)) (hts (.static Lib.Math.max.name) (by decide +kernel)) (hts (.initialized "java/lang/Math") (by decide +kernel)) (hts (.code Lib.Math.max.name Lib.Math.max.code 2 (some .int)) (by decide +kernel)) (Nat.le_of_ble_eq_true rfl) (Nat.le_of_ble_eq_true rfl) (Nat.le_of_ble_eq_true rfl) (Nat.le_of_ble_eq_true rfl) dX7_fetchStep_33 ?_
        refine pt_topi 3 (by decide) ?_
        refine lv_tableOut (tgt := 76) hx hb dX7_fetchStep_36 (by decide) (by decide) ?_
        refine va_gets (C := "ParkTower$Step") (n := "INTO_BAY") (d := "LParkTower$Step;") (v := .ref (ad 3)) hx hb (hEN.1.1 3 (by decide)).1 hS hown (hts (.fieldLink RX7 316 "ParkTower$Step" "INTO_BAY" "LParkTower$Step;") (by decide +kernel)) (fun _ h9 => h9) dX7_fetchStep_76 ?_
        exact W.aret (v := .ref (ad 3)) (rt := .object "ParkTower$Step") hx hb hr (Or.inl ⟨_, rfl⟩) (Or.inr ⟨_, rfl⟩) (fun t ht hW => ⟨some 3, rfl, ⟨3, by decide, rfl, by omega⟩, ht⟩) (fun q h => by cases h) dX7_fetchStep_79
