set_option maxHeartbeats 4000000 in
set_option maxRecDepth 100000 in
theorem s_stepNow (l : Launch) (dC : Nat → ClassId) (dI : Nat → Nat → Nat) (ad : Nat → Nat) (sm : Nat) (x rk ba od j ap : Nat) (li pw rs tm : Int32) (sr : Nat) (pl k s5 : Nat) (jc jt : Int32) (ts bs ks : Nat) (c1 c2 c3 : ClassId) (ft fb fk : Nat → Int32) (n : Nat) (pf pg : Nat) (c4 c5 : ClassId) (ff fg : Nat → Int32) (pz : Int32) (hn : n ≤ 24) (hk0 : k < n) (h5 : s5 ≤ 5) (hz : sP pz) : Met l yX7_stepNow wsX7_stepNow ({ frames := 2, cells := 0, slots := 0, locals := 45 }) (va_Pc [.ref x] (pt_BE (dC, dI) [(x, .inr (5, [.ref rk, .ref ba, .ref od, .ref j, .ref ap, .int li, .int pw, .int rs, .int tm, .int (nI sr)])), (j, .inr (1, [.ref pl, .int (nI k), .int jc, .int (nI s5), .int jt])), (od, .inr (2, [.ref ts, .ref bs, .ref ks, .int (nI n)])), (ts, .inl (c1, 24, .inl ft)), (bs, .inl (c2, 24, .inl fb)), (ks, .inl (c3, 24, .inl fk)), (pl, .inr (3, [.ref pf, .ref pg, .int pz])), (pf, .inl (c4, 2, .inl ff)), (pg, .inl (c5, 2, .inl fg))] [(c1, .int), (c2, .int), (c3, .int), (c4, .int), (c5, .int)] ad sm)) (va_Se ad (fun r : Option Nat => ∃ i : Nat, i < 7 ∧ r = some i ∧ (i = 6 → 1 ≤ s5 ∧ s5 ≤ 2))) 0 0 (fun _ => False) := by
  refine Met.ofW (cc := cX7_stepNow) (maxL := 1) (ret := (some (.object "ParkTower$Step"))) (by decide) rfl ?_
  intro p e s m args below meth c s₁ B hml hv
  obtain ⟨rfl, ⟨hP, hK, hN⟩, hEN⟩ := hv
  have hx := B.exec
  have hb := B.bytes
  have hr := B.returns
  have hts := atoms_spec (ws := wsX7_stepNow) B.pre
  have hown : s.vm.findClass RX7 = some m.cls := findClass_of_methodNamed B.named
  have hlocks := B.notSynchronized
  have iX2 : ∀ w ∈ wsX20, w ∈ wsX7_stepNow := by decide +kernel
  have iX7 : ∀ w ∈ wsX70, w ∈ wsX7_stepNow := by decide +kernel
  have hS : va_S (fun _ => False) s.heap s.heap [] := va_S.rf
  have hP : va_P (dC, dI) vwCl [(x, .inr (5, [.ref rk, .ref ba, .ref od, .ref j, .ref ap, .int li, .int pw, .int rs, .int tm, .int (nI sr)])), (j, .inr (1, [.ref pl, .int (nI k), .int jc, .int (nI s5), .int jt])), (od, .inr (2, [.ref ts, .ref bs, .ref ks, .int (nI n)])), (ts, .inl (c1, 24, .inl ft)), (bs, .inl (c2, 24, .inl fb)), (ks, .inl (c3, 24, .inl fk)), (pl, .inr (3, [.ref pf, .ref pg, .int pz])), (pf, .inl (c4, 2, .inl ff)), (pg, .inl (c5, 2, .inl fg))] s.heap := hP
  have hK : va_K (dC, dI) vwCl [(c1, .int), (c2, .int), (c3, .int), (c4, .int), (c5, .int)] s := hK
  have hl := lv_entry ([.ref x]) (n := 1) (Nat.le_of_ble_eq_true rfl)
  rw [lg_entry_eq]
  generalize (lg_sl ([.ref x]) ++ List.replicate (1 - (lg_sl ([.ref x])).length) Slot.unset).toArray = ls at hl ⊢
  have hl : lv_has ls 1 [(0, .ref x)] := hl
  refine lv_aload_n hx hb dX7_stepNow_0 rfl (lv_at hl 0 rfl) ?_
  refine va_get (D := (dC, dI)) (ci := 5) (v := .ref od) (C := RX7) (T := TX7) (N := 10) hx hb hts iX7 hown hK hP 0 rfl rfl 2 (by decide) (hts (.fieldLink RX7 26 "ParkTower" "orders" "LParkTower$Orders;") (by decide +kernel)) (fun _ h9 => h9) rfl dX7_stepNow_1 ?_
  refine lv_aload_n hx hb dX7_stepNow_4 rfl (lv_at hl 0 rfl) ?_
  refine va_get (D := (dC, dI)) (ci := 5) (v := .ref j) (C := RX7) (T := TX7) (N := 10) hx hb hts iX7 hown hK hP 0 rfl rfl 3 (by decide) (hts (.fieldLink RX7 33 "ParkTower" "job" "LParkTower$Job;") (by decide +kernel)) (fun _ h9 => h9) rfl dX7_stepNow_5 ?_
  refine va_getN (D := (dC, dI)) (ci := 1) (v := .int (nI k)) (C := RX2) (T := TX2) (N := 5) hx hb hts iX2 hown hK hP 1 rfl rfl 1 (by decide) (va_Nw.use rfl (hN.1 (.fieldLinkNest RX7 170 "ParkTower$Job" "order" "I" "ParkTower") (by decide +kernel))) (fun _ h9 => h9) rfl dX7_stepNow_8 ?_
  refine pt_cSi (va_runV (As := [.int (nI k)]) (rest := []) ⟨hx, hb, hml, hown, hts⟩ (s_isFetch l dC dI od ts bs ks c1 c2 c3 ft fb fk n k (by omega)) (cwV 1 hts gX7_stepNow_X3_isFetch rfl rfl rfl (by decide +kernel) ⟨Nat.le_of_ble_eq_true rfl, Nat.le_of_ble_eq_true rfl⟩) ⟨pt_blind, va_recv hK hP (ci := 2) (q0 := 2) rfl rfl, pt_pre (w := [(od, .inr (2, [.ref ts, .ref bs, .ref ks, .int (nI n)])), (ts, .inl (c1, 24, .inl ft)), (bs, .inl (c2, 24, .inl fb)), (ks, .inl (c3, 24, .inl fk))]) (tys := [(c1, .int), (c2, .int), (c3, .int)]) (hP.sub [2, 3, 4, 5] rfl) (hK.sub [0, 1, 2] rfl) hN⟩ rfl rfl hl.1 rfl (lv_room (Nat.le_of_ble_eq_true rfl)) dX7_stepNow_11 ⟨Nat.le_of_ble_eq_true rfl, Nat.le_of_ble_eq_true rfl⟩) (fun r_1 hr_1 => ?_)
  rcases hr_1 with rfl | rfl
  · skip
    refine lv_if_eq (tgt := 24) hx hb dX7_stepNow_14 (by decide) (fun _ => ?_) (fun c => absurd (by decide) c)
    refine lv_aload_n hx hb dX7_stepNow_24 rfl (lv_at hl 0 rfl) ?_
    refine va_cse (va_Run.run (va_runV (As := []) (rest := []) ⟨hx, hb, hml, hown, hts⟩ (s_storeStep l dC dI ad sm x rk ba od j ap li pw rs tm sr pl s5 (nI k) jc jt h5) (cwV 0 hts gX7_stepNow_X7_storeStep rfl rfl rfl (by decide +kernel) ⟨Nat.le_of_ble_eq_true rfl, Nat.le_of_ble_eq_true rfl⟩) ⟨pt_blindE, va_recv hK hP (ci := 5) (q0 := 0) rfl rfl, pt_preE (w := [(x, .inr (5, [.ref rk, .ref ba, .ref od, .ref j, .ref ap, .int li, .int pw, .int rs, .int tm, .int (nI sr)])), (j, .inr (1, [.ref pl, .int (nI k), .int jc, .int (nI s5), .int jt]))]) (tys := []) (hP.sub [0, 1] rfl) (hK.sub [] rfl) hN hEN hS⟩ rfl rfl hl.1 rfl (lv_room (Nat.le_of_ble_eq_true rfl)) dX7_stepNow_25 ⟨Nat.le_of_ble_eq_true rfl, Nat.le_of_ble_eq_true rfl⟩)) (fun r_2 hr_2 => ?_)
    obtain ⟨i_2, hi_2, rfl, hm_2⟩ := hr_2
    refine W.eq (g2 := F0 m 28 ls [.ref (ad i_2)]) rfl ?_
    exact W.aret (v := .ref (ad i_2)) (rt := .object "ParkTower$Step") hx hb hr (Or.inl ⟨_, rfl⟩) (Or.inr ⟨_, rfl⟩) (fun t ht hW => ⟨some i_2, rfl, ⟨i_2, hi_2, rfl, hm_2⟩, ht⟩) (fun q h => by cases h) dX7_stepNow_28
  · skip
    refine lv_if_eq (tgt := 24) hx hb dX7_stepNow_14 (by decide) (fun c => absurd c (by decide)) (fun _ => ?_)
    refine lv_aload_n hx hb dX7_stepNow_17 rfl (lv_at hl 0 rfl) ?_
    refine va_cse (va_Run.run (va_runV (As := []) (rest := []) ⟨hx, hb, hml, hown, hts⟩ (s_fetchStep l dC dI ad sm x rk ba od j ap li pw rs tm sr pl s5 (nI k) jc jt pf pg c4 c5 ff fg pz h5 hz) (cwV 0 hts gX7_stepNow_X7_fetchStep rfl rfl rfl (by decide +kernel) ⟨Nat.le_of_ble_eq_true rfl, Nat.le_of_ble_eq_true rfl⟩) ⟨pt_blindE, va_recv hK hP (ci := 5) (q0 := 0) rfl rfl, pt_preE (w := [(x, .inr (5, [.ref rk, .ref ba, .ref od, .ref j, .ref ap, .int li, .int pw, .int rs, .int tm, .int (nI sr)])), (j, .inr (1, [.ref pl, .int (nI k), .int jc, .int (nI s5), .int jt])), (pl, .inr (3, [.ref pf, .ref pg, .int pz])), (pf, .inl (c4, 2, .inl ff)), (pg, .inl (c5, 2, .inl fg))]) (tys := [(c4, .int), (c5, .int)]) (hP.sub [0, 1, 6, 7, 8] rfl) (hK.sub [3, 4] rfl) hN hEN hS⟩ rfl rfl hl.1 rfl (lv_room (Nat.le_of_ble_eq_true rfl)) dX7_stepNow_18 ⟨Nat.le_of_ble_eq_true rfl, Nat.le_of_ble_eq_true rfl⟩)) (fun r_3 hr_3 => ?_)
    obtain ⟨i_3, hi_3, rfl, hm_3⟩ := hr_3
    refine W.eq (g2 := F0 m 21 ls [.ref (ad i_3)]) rfl ?_
    refine lv_goto (tgt := 28) hx hb dX7_stepNow_21 (by decide) ?_
    exact W.aret (v := .ref (ad i_3)) (rt := .object "ParkTower$Step") hx hb hr (Or.inl ⟨_, rfl⟩) (Or.inr ⟨_, rfl⟩) (fun t ht hW => ⟨some i_3, rfl, ⟨i_3, hi_3, rfl, hm_3⟩, ht⟩) (fun q h => by cases h) dX7_stepNow_28
set_option maxHeartbeats 4000000 in
set_option maxRecDepth 100000 in
theorem s_moveFrom (l : Launch) (dC : Nat → ClassId) (dI : Nat → Nat → Nat) (j : Nat) (pl s5 : Nat) (jo jc jt : Int32) (pf pg : Nat) (c4 c5 : ClassId) (ff fg : Nat → Int32) (pz : Int32) (hs1 : 1 ≤ s5) (hs2 : s5 ≤ 2) (h6 : ∀ i, sC (ff i)) : Met l yX2_moveFrom wsX2_moveFrom ({ frames := 0, cells := 0, slots := 0, locals := 0 }) (va_Pc [.ref j] (pt_B (dC, dI) [(j, .inr (1, [.ref pl, .int jo, .int jc, .int (nI s5), .int jt])), (pl, .inr (3, [.ref pf, .ref pg, .int pz])), (pf, .inl (c4, 2, .inl ff)), (pg, .inl (c5, 2, .inl fg))] [(c4, .int), (c5, .int)])) (vp_Si (fun r : Int32 => sC r)) 0 0 (fun _ => False) := by
  refine Met.ofW (cc := cX2_moveFrom) (maxL := 1) (ret := (some .int)) (by decide) rfl ?_
  intro p e s m args below meth c s₁ B hml hv
  obtain ⟨rfl, hP, hK, hN⟩ := hv
  have hx := B.exec
  have hb := B.bytes
  have hr := B.returns
  have hts := atoms_spec (ws := wsX2_moveFrom) B.pre
  have hown : s.vm.findClass RX2 = some m.cls := findClass_of_methodNamed B.named
  have hlocks := B.notSynchronized
  have iX2 : ∀ w ∈ wsX20, w ∈ wsX2_moveFrom := by decide +kernel
  have iX4 : ∀ w ∈ wsX40, w ∈ wsX2_moveFrom := by decide +kernel
  have hP : va_P (dC, dI) vwCl [(j, .inr (1, [.ref pl, .int jo, .int jc, .int (nI s5), .int jt])), (pl, .inr (3, [.ref pf, .ref pg, .int pz])), (pf, .inl (c4, 2, .inl ff)), (pg, .inl (c5, 2, .inl fg))] s.heap := hP
  have hK : va_K (dC, dI) vwCl [(c4, .int), (c5, .int)] s := hK
  have hl := lv_entry ([.ref j]) (n := 1) (Nat.le_of_ble_eq_true rfl)
  rw [lg_entry_eq]
  generalize (lg_sl ([.ref j]) ++ List.replicate (1 - (lg_sl ([.ref j])).length) Slot.unset).toArray = ls at hl ⊢
  have hl : lv_has ls 1 [(0, .ref j)] := hl
  refine lv_aload_n hx hb dX2_moveFrom_0 rfl (lv_at hl 0 rfl) ?_
  refine va_get (D := (dC, dI)) (ci := 1) (v := .ref pl) (C := RX2) (T := TX2) (N := 5) hx hb hts iX2 hown hK hP 0 rfl rfl 0 (by decide) (hts (.fieldLink RX2 12 "ParkTower$Job" "plan" "LParkTower$Plan;") (by decide +kernel)) (fun _ h9 => h9) rfl dX2_moveFrom_1 ?_
  refine va_getN (D := (dC, dI)) (ci := 3) (v := .ref pf) (C := RX4) (T := TX4) (N := 3) hx hb hts iX4 hown hK hP 1 rfl rfl 0 (by decide) (va_Nw.use rfl (hN.1 (.fieldLinkNest RX2 28 "ParkTower$Plan" "from" "[I" "ParkTower") (by decide +kernel))) (fun _ h9 => h9) rfl dX2_moveFrom_4 ?_
  refine lv_aload_n hx hb dX2_moveFrom_7 rfl (lv_at hl 0 rfl) ?_
  refine va_get (D := (dC, dI)) (ci := 1) (v := .int (nI s5)) (C := RX2) (T := TX2) (N := 5) hx hb hts iX2 hown hK hP 0 rfl rfl 3 (by decide) (hts (.fieldLink RX2 22 "ParkTower$Job" "stepsEnded" "I") (by decide +kernel)) (fun _ h9 => h9) rfl dX2_moveFrom_8 ?_
  refine lv_iconst (v := 1) hx hb dX2_moveFrom_11 (by decide) ?_
  refine lv_isub hx hb dX2_moveFrom_12 ?_
  refine pt_topi (nI (s5 - 1)) (pk_sub (a := s5) (b := 1) (by omega)) ?_
  refine va_iald hx hb hK hP 2 0 rfl rfl (vp_in_nI (n := s5 - 1) (by omega) (by decide)) dX2_moveFrom_13 ?_
  refine lv_topi (fun a_1 ea_1 => ?_)
  exact W.iret (v := a_1) hx hb hr (fun t ht hW => ⟨a_1, rfl, (by rw [ea_1]; exact h6 _), ht⟩) (fun q h => by cases h) dX2_moveFrom_14
set_option maxHeartbeats 4000000 in
set_option maxRecDepth 100000 in
theorem s_moveTo (l : Launch) (dC : Nat → ClassId) (dI : Nat → Nat → Nat) (j : Nat) (pl s5 : Nat) (jo jc jt : Int32) (pf pg : Nat) (c4 c5 : ClassId) (ff fg : Nat → Int32) (pz : Int32) (hs1 : 1 ≤ s5) (hs2 : s5 ≤ 2) (h6 : ∀ i, sC (fg i)) : Met l yX2_moveTo wsX2_moveTo ({ frames := 0, cells := 0, slots := 0, locals := 0 }) (va_Pc [.ref j] (pt_B (dC, dI) [(j, .inr (1, [.ref pl, .int jo, .int jc, .int (nI s5), .int jt])), (pl, .inr (3, [.ref pf, .ref pg, .int pz])), (pf, .inl (c4, 2, .inl ff)), (pg, .inl (c5, 2, .inl fg))] [(c4, .int), (c5, .int)])) (vp_Si (fun r : Int32 => sC r)) 0 0 (fun _ => False) := by
  refine Met.ofW (cc := cX2_moveTo) (maxL := 1) (ret := (some .int)) (by decide) rfl ?_
  intro p e s m args below meth c s₁ B hml hv
  obtain ⟨rfl, hP, hK, hN⟩ := hv
  have hx := B.exec
  have hb := B.bytes
  have hr := B.returns
  have hts := atoms_spec (ws := wsX2_moveTo) B.pre
  have hown : s.vm.findClass RX2 = some m.cls := findClass_of_methodNamed B.named
  have hlocks := B.notSynchronized
  have iX2 : ∀ w ∈ wsX20, w ∈ wsX2_moveTo := by decide +kernel
  have iX4 : ∀ w ∈ wsX40, w ∈ wsX2_moveTo := by decide +kernel
  have hP : va_P (dC, dI) vwCl [(j, .inr (1, [.ref pl, .int jo, .int jc, .int (nI s5), .int jt])), (pl, .inr (3, [.ref pf, .ref pg, .int pz])), (pf, .inl (c4, 2, .inl ff)), (pg, .inl (c5, 2, .inl fg))] s.heap := hP
  have hK : va_K (dC, dI) vwCl [(c4, .int), (c5, .int)] s := hK
  have hl := lv_entry ([.ref j]) (n := 1) (Nat.le_of_ble_eq_true rfl)
  rw [lg_entry_eq]
  generalize (lg_sl ([.ref j]) ++ List.replicate (1 - (lg_sl ([.ref j])).length) Slot.unset).toArray = ls at hl ⊢
  have hl : lv_has ls 1 [(0, .ref j)] := hl
  refine lv_aload_n hx hb dX2_moveTo_0 rfl (lv_at hl 0 rfl) ?_
  refine va_get (D := (dC, dI)) (ci := 1) (v := .ref pl) (C := RX2) (T := TX2) (N := 5) hx hb hts iX2 hown hK hP 0 rfl rfl 0 (by decide) (hts (.fieldLink RX2 12 "ParkTower$Job" "plan" "LParkTower$Plan;") (by decide +kernel)) (fun _ h9 => h9) rfl dX2_moveTo_1 ?_
  refine va_getN (D := (dC, dI)) (ci := 3) (v := .ref pg) (C := RX4) (T := TX4) (N := 3) hx hb hts iX4 hown hK hP 1 rfl rfl 1 (by decide) (va_Nw.use rfl (hN.1 (.fieldLinkNest RX2 32 "ParkTower$Plan" "to" "[I" "ParkTower") (by decide +kernel))) (fun _ h9 => h9) rfl dX2_moveTo_4 ?_
  refine lv_aload_n hx hb dX2_moveTo_7 rfl (lv_at hl 0 rfl) ?_
  refine va_get (D := (dC, dI)) (ci := 1) (v := .int (nI s5)) (C := RX2) (T := TX2) (N := 5) hx hb hts iX2 hown hK hP 0 rfl rfl 3 (by decide) (hts (.fieldLink RX2 22 "ParkTower$Job" "stepsEnded" "I") (by decide +kernel)) (fun _ h9 => h9) rfl dX2_moveTo_8 ?_
  refine lv_iconst (v := 1) hx hb dX2_moveTo_11 (by decide) ?_
  refine lv_isub hx hb dX2_moveTo_12 ?_
  refine pt_topi (nI (s5 - 1)) (pk_sub (a := s5) (b := 1) (by omega)) ?_
  refine va_iald hx hb hK hP 3 1 rfl rfl (vp_in_nI (n := s5 - 1) (by omega) (by decide)) dX2_moveTo_13 ?_
  refine lv_topi (fun a_1 ea_1 => ?_)
  exact W.iret (v := a_1) hx hb hr (fun t ht hW => ⟨a_1, rfl, (by rw [ea_1]; exact h6 _), ht⟩) (fun q h => by cases h) dX2_moveTo_14
