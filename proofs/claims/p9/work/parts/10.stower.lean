set_option maxHeartbeats 4000000 in
set_option maxRecDepth 100000 in
theorem s_levelOfFetch (l : Launch) (dC : Nat → ClassId) (dI : Nat → Nat → Nat) (x rk ba od j ap : Nat) (li pw rs tm : Int32) (sr : Nat) (pl : Nat) (jo : Int32) (jc : Nat) (js jt : Int32) (ts bs ks : Nat) (c1 c2 c3 : ClassId) (ft fb fk : Nat → Int32) (n : Nat) (hn : n ≤ 24) (hj : jc < 96) (ho : jo = (-1) ∨ ∃ k : Nat, k < n ∧ jo = nI k) : Met l yX7_levelOfFetch wsX7_levelOfFetch ({ frames := 1, cells := 0, slots := 0, locals := 21 }) (va_Pc [.ref x] (pt_B (dC, dI) [(x, .inr (5, [.ref rk, .ref ba, .ref od, .ref j, .ref ap, .int li, .int pw, .int rs, .int tm, .int (nI sr)])), (j, .inr (1, [.ref pl, .int jo, .int (nI jc), .int js, .int jt])), (od, .inr (2, [.ref ts, .ref bs, .ref ks, .int (nI n)])), (ts, .inl (c1, 24, .inl ft)), (bs, .inl (c2, 24, .inl fb)), (ks, .inl (c3, 24, .inl fk))] [(c1, .int), (c2, .int), (c3, .int)])) (vp_Si (fun r : Int32 => True)) 0 0 (fun _ => False) := by
  refine Met.ofW (cc := cX7_levelOfFetch) (maxL := 1) (ret := (some .int)) (by decide) rfl ?_
  intro p e s m args below meth c s₁ B hml hv
  obtain ⟨rfl, hP, hK, hN⟩ := hv
  have hx := B.exec
  have hb := B.bytes
  have hr := B.returns
  have hts := atoms_spec (ws := wsX7_levelOfFetch) B.pre
  have hown : s.vm.findClass RX7 = some m.cls := findClass_of_methodNamed B.named
  have hlocks := B.notSynchronized
  have iX2 : ∀ w ∈ wsX20, w ∈ wsX7_levelOfFetch := by decide +kernel
  have iX7 : ∀ w ∈ wsX70, w ∈ wsX7_levelOfFetch := by decide +kernel
  have hP : va_P (dC, dI) vwCl [(x, .inr (5, [.ref rk, .ref ba, .ref od, .ref j, .ref ap, .int li, .int pw, .int rs, .int tm, .int (nI sr)])), (j, .inr (1, [.ref pl, .int jo, .int (nI jc), .int js, .int jt])), (od, .inr (2, [.ref ts, .ref bs, .ref ks, .int (nI n)])), (ts, .inl (c1, 24, .inl ft)), (bs, .inl (c2, 24, .inl fb)), (ks, .inl (c3, 24, .inl fk))] s.heap := hP
  have hK : va_K (dC, dI) vwCl [(c1, .int), (c2, .int), (c3, .int)] s := hK
  have hl := lv_entry ([.ref x]) (n := 1) (Nat.le_of_ble_eq_true rfl)
  rw [lg_entry_eq]
  generalize (lg_sl ([.ref x]) ++ List.replicate (1 - (lg_sl ([.ref x])).length) Slot.unset).toArray = ls at hl ⊢
  have hl : lv_has ls 1 [(0, .ref x)] := hl
  rcases ho with rfl | ⟨k, hk0, rfl⟩
  · skip
    refine lv_aload_n hx hb dX7_levelOfFetch_0 rfl (lv_at hl 0 rfl) ?_
    refine va_get (D := (dC, dI)) (ci := 5) (v := .ref j) (C := RX7) (T := TX7) (N := 10) hx hb hts iX7 hown hK hP 0 rfl rfl 3 (by decide) (hts (.fieldLink RX7 33 "ParkTower" "job" "LParkTower$Job;") (by decide +kernel)) (fun _ h9 => h9) rfl dX7_levelOfFetch_1 ?_
    refine pt_cSi (va_runV (As := []) (rest := []) ⟨hx, hb, hml, hown, hts⟩ (s_idle1 l dC dI j pl (nI jc) js jt) (cwV 0 hts gX7_levelOfFetch_X2_isIdle rfl rfl rfl (by decide +kernel) ⟨Nat.le_of_ble_eq_true rfl, Nat.le_of_ble_eq_true rfl⟩) ⟨pt_blind, va_recv hK hP (ci := 1) (q0 := 1) rfl rfl, pt_pre (w := [(j, .inr (1, [.ref pl, .int (-1), .int (nI jc), .int js, .int jt]))]) (tys := []) (hP.sub [1] rfl) (hK.sub [] rfl) hN⟩ rfl rfl hl.1 rfl (lv_room (Nat.le_of_ble_eq_true rfl)) dX7_levelOfFetch_4 ⟨Nat.le_of_ble_eq_true rfl, Nat.le_of_ble_eq_true rfl⟩) (fun r_1 hr_1 => ?_)
    obtain rfl : r_1 = 1 := hr_1
    refine lv_if_ne (tgt := 27) hx hb dX7_levelOfFetch_7 (by decide) (fun _ => ?_) (fun c => absurd c (by decide))
    refine lv_iconst (v := (-1)) hx hb dX7_levelOfFetch_27 (by decide) ?_
    exact W.iret (v := (-1)) hx hb hr (fun t ht hW => ⟨(-1), rfl, trivial, ht⟩) (fun q h => by cases h) dX7_levelOfFetch_28
  · skip
    refine lv_aload_n hx hb dX7_levelOfFetch_0 rfl (lv_at hl 0 rfl) ?_
    refine va_get (D := (dC, dI)) (ci := 5) (v := .ref j) (C := RX7) (T := TX7) (N := 10) hx hb hts iX7 hown hK hP 0 rfl rfl 3 (by decide) (hts (.fieldLink RX7 33 "ParkTower" "job" "LParkTower$Job;") (by decide +kernel)) (fun _ h9 => h9) rfl dX7_levelOfFetch_1 ?_
    refine pt_cSi (va_runV (As := []) (rest := []) ⟨hx, hb, hml, hown, hts⟩ (s_idle0 l dC dI j pl (nI jc) js jt k (by omega)) (cwV 0 hts gX7_levelOfFetch_X2_isIdle rfl rfl rfl (by decide +kernel) ⟨Nat.le_of_ble_eq_true rfl, Nat.le_of_ble_eq_true rfl⟩) ⟨pt_blind, va_recv hK hP (ci := 1) (q0 := 1) rfl rfl, pt_pre (w := [(j, .inr (1, [.ref pl, .int (nI k), .int (nI jc), .int js, .int jt]))]) (tys := []) (hP.sub [1] rfl) (hK.sub [] rfl) hN⟩ rfl rfl hl.1 rfl (lv_room (Nat.le_of_ble_eq_true rfl)) dX7_levelOfFetch_4 ⟨Nat.le_of_ble_eq_true rfl, Nat.le_of_ble_eq_true rfl⟩) (fun r_2 hr_2 => ?_)
    obtain rfl : r_2 = 0 := hr_2
    refine lv_if_ne (tgt := 27) hx hb dX7_levelOfFetch_7 (by decide) (fun c => absurd (by decide) c) (fun _ => ?_)
    refine lv_aload_n hx hb dX7_levelOfFetch_10 rfl (lv_at hl 0 rfl) ?_
    refine va_get (D := (dC, dI)) (ci := 5) (v := .ref od) (C := RX7) (T := TX7) (N := 10) hx hb hts iX7 hown hK hP 0 rfl rfl 2 (by decide) (hts (.fieldLink RX7 26 "ParkTower" "orders" "LParkTower$Orders;") (by decide +kernel)) (fun _ h9 => h9) rfl dX7_levelOfFetch_11 ?_
    refine lv_aload_n hx hb dX7_levelOfFetch_14 rfl (lv_at hl 0 rfl) ?_
    refine va_get (D := (dC, dI)) (ci := 5) (v := .ref j) (C := RX7) (T := TX7) (N := 10) hx hb hts iX7 hown hK hP 0 rfl rfl 3 (by decide) (hts (.fieldLink RX7 33 "ParkTower" "job" "LParkTower$Job;") (by decide +kernel)) (fun _ h9 => h9) rfl dX7_levelOfFetch_15 ?_
    refine va_getN (D := (dC, dI)) (ci := 1) (v := .int (nI k)) (C := RX2) (T := TX2) (N := 5) hx hb hts iX2 hown hK hP 1 rfl rfl 1 (by decide) (va_Nw.use rfl (hN.1 (.fieldLinkNest RX7 170 "ParkTower$Job" "order" "I" "ParkTower") (by decide +kernel))) (fun _ h9 => h9) rfl dX7_levelOfFetch_18 ?_
    refine pt_cSi (va_runV (As := [.int (nI k)]) (rest := []) ⟨hx, hb, hml, hown, hts⟩ (s_isFetch l dC dI od ts bs ks c1 c2 c3 ft fb fk n k (by omega)) (cwV 1 hts gX7_levelOfFetch_X3_isFetch rfl rfl rfl (by decide +kernel) ⟨Nat.le_of_ble_eq_true rfl, Nat.le_of_ble_eq_true rfl⟩) ⟨pt_blind, va_recv hK hP (ci := 2) (q0 := 2) rfl rfl, pt_pre (w := [(od, .inr (2, [.ref ts, .ref bs, .ref ks, .int (nI n)])), (ts, .inl (c1, 24, .inl ft)), (bs, .inl (c2, 24, .inl fb)), (ks, .inl (c3, 24, .inl fk))]) (tys := [(c1, .int), (c2, .int), (c3, .int)]) (hP.sub [2, 3, 4, 5] rfl) (hK.sub [0, 1, 2] rfl) hN⟩ rfl rfl hl.1 rfl (lv_room (Nat.le_of_ble_eq_true rfl)) dX7_levelOfFetch_21 ⟨Nat.le_of_ble_eq_true rfl, Nat.le_of_ble_eq_true rfl⟩) (fun r_3 hr_3 => ?_)
    rcases hr_3 with rfl | rfl
    · skip
      refine lv_if_ne (tgt := 29) hx hb dX7_levelOfFetch_24 (by decide) (fun c => absurd (by decide) c) (fun _ => ?_)
      refine lv_iconst (v := (-1)) hx hb dX7_levelOfFetch_27 (by decide) ?_
      exact W.iret (v := (-1)) hx hb hr (fun t ht hW => ⟨(-1), rfl, trivial, ht⟩) (fun q h => by cases h) dX7_levelOfFetch_28
    · skip
      refine lv_if_ne (tgt := 29) hx hb dX7_levelOfFetch_24 (by decide) (fun _ => ?_) (fun c => absurd c (by decide))
      refine lv_aload_n hx hb dX7_levelOfFetch_29 rfl (lv_at hl 0 rfl) ?_
      refine va_get (D := (dC, dI)) (ci := 5) (v := .ref j) (C := RX7) (T := TX7) (N := 10) hx hb hts iX7 hown hK hP 0 rfl rfl 3 (by decide) (hts (.fieldLink RX7 33 "ParkTower" "job" "LParkTower$Job;") (by decide +kernel)) (fun _ h9 => h9) rfl dX7_levelOfFetch_30 ?_
      refine va_getN (D := (dC, dI)) (ci := 1) (v := .int (nI jc)) (C := RX2) (T := TX2) (N := 5) hx hb hts iX2 hown hK hP 1 rfl rfl 2 (by decide) (va_Nw.use rfl (hN.1 (.fieldLinkNest RX7 201 "ParkTower$Job" "cell" "I" "ParkTower") (by decide +kernel))) (fun _ h9 => h9) rfl dX7_levelOfFetch_33 ?_
      refine pt_cSi (va_runS (As := [.int (nI jc)]) (rest := []) ⟨hx, hb, hml, hown, hts⟩ (s_levelOf l dC dI jc (by omega)) (cwS 1 hts gX7_levelOfFetch_X7_levelOf rfl rfl rfl (by decide +kernel) ⟨Nat.le_of_ble_eq_true rfl, Nat.le_of_ble_eq_true rfl⟩) ⟨pt_blind, pt_pre (w := []) (tys := []) (hP.sub [] rfl) (hK.sub [] rfl) hN⟩ rfl rfl hl.1 rfl (lv_room (Nat.le_of_ble_eq_true rfl)) dX7_levelOfFetch_36 ⟨Nat.le_of_ble_eq_true rfl, Nat.le_of_ble_eq_true rfl⟩) (fun r_4 hr_4 => ?_)
      obtain rfl : r_4 = nI (jc / 24) := hr_4
      exact W.iret (v := nI (jc / 24)) hx hb hr (fun t ht hW => ⟨nI (jc / 24), rfl, trivial, ht⟩) (fun q h => by cases h) dX7_levelOfFetch_39
set_option maxHeartbeats 4000000 in
set_option maxRecDepth 100000 in
theorem s_cellFor (l : Launch) (dC : Nat → ClassId) (dI : Nat → Nat → Nat) (x rk ba od j ap : Nat) (li pw rs tm : Int32) (sr : Nat) (pl : Nat) (jo : Int32) (jc : Nat) (js jt : Int32) (ts bs ks : Nat) (c1 c2 c3 : ClassId) (ft fb fk : Nat → Int32) (n : Nat) (hd jm : Nat) (cI cZ : ClassId) (fh fj : Nat → Int32) (h w : Int32) (hn : n ≤ 24) (hj : jc < 96) (ho : jo = (-1) ∨ ∃ k : Nat, k < n ∧ jo = nI k) : Met l yX7_cellFor wsX7_cellFor ({ frames := 2, cells := 0, slots := 0, locals := 46 }) (va_Pc [.ref x, .int h, .int w] (pt_B (dC, dI) [(x, .inr (5, [.ref rk, .ref ba, .ref od, .ref j, .ref ap, .int li, .int pw, .int rs, .int tm, .int (nI sr)])), (j, .inr (1, [.ref pl, .int jo, .int (nI jc), .int js, .int jt])), (od, .inr (2, [.ref ts, .ref bs, .ref ks, .int (nI n)])), (ts, .inl (c1, 24, .inl ft)), (bs, .inl (c2, 24, .inl fb)), (ks, .inl (c3, 24, .inl fk)), (rk, .inr (4, [.ref hd, .ref jm])), (hd, .inl (cI, 96, .inl fh)), (jm, .inl (cZ, 4, .inl fj))] [(c1, .int), (c2, .int), (c3, .int), (cI, .int), (cZ, .boolean)])) (vp_Si (fun r : Int32 => sK r)) 0 0 (fun _ => False) := by
  refine Met.ofW (cc := cX7_cellFor) (maxL := 5) (ret := (some .int)) (by decide) rfl ?_
  intro p e s m args below meth c s₁ B hml hv
  obtain ⟨rfl, hP, hK, hN⟩ := hv
  have hx := B.exec
  have hb := B.bytes
  have hr := B.returns
  have hts := atoms_spec (ws := wsX7_cellFor) B.pre
  have hown : s.vm.findClass RX7 = some m.cls := findClass_of_methodNamed B.named
  have hlocks := B.notSynchronized
  have iX7 : ∀ w ∈ wsX70, w ∈ wsX7_cellFor := by decide +kernel
  have hP : va_P (dC, dI) vwCl [(x, .inr (5, [.ref rk, .ref ba, .ref od, .ref j, .ref ap, .int li, .int pw, .int rs, .int tm, .int (nI sr)])), (j, .inr (1, [.ref pl, .int jo, .int (nI jc), .int js, .int jt])), (od, .inr (2, [.ref ts, .ref bs, .ref ks, .int (nI n)])), (ts, .inl (c1, 24, .inl ft)), (bs, .inl (c2, 24, .inl fb)), (ks, .inl (c3, 24, .inl fk)), (rk, .inr (4, [.ref hd, .ref jm])), (hd, .inl (cI, 96, .inl fh)), (jm, .inl (cZ, 4, .inl fj))] s.heap := hP
  have hK : va_K (dC, dI) vwCl [(c1, .int), (c2, .int), (c3, .int), (cI, .int), (cZ, .boolean)] s := hK
  have hl := lv_entry ([.ref x, .int h, .int w]) (n := 5) (Nat.le_of_ble_eq_true rfl)
  rw [lg_entry_eq]
  generalize (lg_sl ([.ref x, .int h, .int w]) ++ List.replicate (5 - (lg_sl ([.ref x, .int h, .int w])).length) Slot.unset).toArray = ls at hl ⊢
  have hl : lv_has ls 5 [(0, .ref x), (1, .int h), (2, .int w)] := hl
  refine lv_iconst (v := 0) hx hb dX7_cellFor_0 (by decide) ?_
  refine lv_istore_n (lv' := [(3, .int 0), (0, .ref x), (1, .int h), (2, .int w)]) hx hb dX7_cellFor_1 rfl hl (by decide) rfl (fun ls hl => ?_)
  refine pt_loop 4 (fun k ls => lv_has ls 5 [(3, .int (nI k)), (0, .ref x), (1, .int h), (2, .int w)]) (fun ls hI => ?_) (fun k ls hk hI ih => ?_) (lv_sub hl [0, 1, 2, 3] rfl)
  · have hl := hI
    have hl : lv_has ls 5 [(3, .int 4), (0, .ref x), (1, .int h), (2, .int w)] := hl
    refine lv_iload_n hx hb dX7_cellFor_2 rfl (lv_at hl 0 rfl) ?_
    refine lv_iconst (v := 4) hx hb dX7_cellFor_3 (by decide) ?_
    refine lv_icmp_ge (tgt := 60) hx hb dX7_cellFor_4 (by decide) (fun _ => ?_) (fun c => absurd (by decide) c)
    refine lv_iconst (v := (-1)) hx hb dX7_cellFor_60 (by decide) ?_
    exact W.iret (v := (-1)) hx hb hr (fun t ht hW => ⟨(-1), rfl, Or.inl rfl, ht⟩) (fun q h => by cases h) dX7_cellFor_61
  · have hl := hI
    have hl : lv_has ls 5 [(3, .int (nI k)), (0, .ref x), (1, .int h), (2, .int w)] := hl
    refine lv_iload_n hx hb dX7_cellFor_2 rfl (lv_at hl 0 rfl) ?_
    refine lv_iconst (v := 4) hx hb dX7_cellFor_3 (by decide) ?_
    refine lv_icmp_ge (tgt := 60) hx hb dX7_cellFor_4 (by decide) (fun c_1 => ?_) (fun c_1 => ?_)
    · have c_1 : 4 ≤ k := (nI_leI (a := 4) (b := k) (by omega) (by omega)).mp c_1
      exact (by omega : False).elim
    · have c_1 : ¬ (4 ≤ k) := fun q_ => c_1 ((nI_leI (a := 4) (b := k) (by omega) (by omega)).mpr q_)
      refine lv_iload_n hx hb dX7_cellFor_7 rfl (lv_at hl 0 rfl) ?_
      refine lv_iload_n hx hb dX7_cellFor_8 rfl (lv_at hl 2 rfl) ?_
      refine lv_iload_n hx hb dX7_cellFor_9 rfl (lv_at hl 3 rfl) ?_
      refine pt_cSi (va_runS (As := [.int (nI k), .int h, .int w]) (rest := []) ⟨hx, hb, hml, hown, hts⟩ (s_fits l dC dI k h w (by omega)) (cwS 3 hts gX7_cellFor_X7_fitsLevel rfl rfl rfl (by decide +kernel) ⟨Nat.le_of_ble_eq_true rfl, Nat.le_of_ble_eq_true rfl⟩) ⟨pt_blind, pt_pre (w := []) (tys := []) (hP.sub [] rfl) (hK.sub [] rfl) hN⟩ rfl rfl hl.1 rfl (lv_room (Nat.le_of_ble_eq_true rfl)) dX7_cellFor_10 ⟨Nat.le_of_ble_eq_true rfl, Nat.le_of_ble_eq_true rfl⟩) (fun r_2 hr_2 => ?_)
      rcases hr_2 with rfl | rfl
      · skip
        refine lv_if_eq (tgt := 54) hx hb dX7_cellFor_13 (by decide) (fun _ => ?_) (fun c => absurd (by decide) c)
        refine lv_iinc (v := nI (k + 1)) (lv' := [(3, .int (nI (k + 1))), (0, .ref x), (1, .int h), (2, .int w)]) hx hb dX7_cellFor_54 hl (k := 0) rfl (nI_add k 1) (by decide) rfl (fun ls hl => ?_)
        refine lv_goto (tgt := 2) hx hb dX7_cellFor_57 (by decide) ?_
        exact ih ls (lv_sub hl [0, 1, 2, 3] rfl)
      · skip
        refine lv_if_eq (tgt := 54) hx hb dX7_cellFor_13 (by decide) (fun c => absurd c (by decide)) (fun _ => ?_)
        refine lv_iload_n hx hb dX7_cellFor_16 rfl (lv_at hl 0 rfl) ?_
        refine lv_aload_n hx hb dX7_cellFor_17 rfl (lv_at hl 1 rfl) ?_
        refine pt_cSi (va_runV (As := []) (rest := [.int (nI k)]) ⟨hx, hb, hml, hown, hts⟩ (s_levelOfFetch l dC dI x rk ba od j ap li pw rs tm sr pl jo jc js jt ts bs ks c1 c2 c3 ft fb fk n hn hj ho) (cwV 0 hts gX7_cellFor_X7_levelOfFetch rfl rfl rfl (by decide +kernel) ⟨Nat.le_of_ble_eq_true rfl, Nat.le_of_ble_eq_true rfl⟩) ⟨pt_blind, va_recv hK hP (ci := 5) (q0 := 0) rfl rfl, pt_pre (w := [(x, .inr (5, [.ref rk, .ref ba, .ref od, .ref j, .ref ap, .int li, .int pw, .int rs, .int tm, .int (nI sr)])), (j, .inr (1, [.ref pl, .int jo, .int (nI jc), .int js, .int jt])), (od, .inr (2, [.ref ts, .ref bs, .ref ks, .int (nI n)])), (ts, .inl (c1, 24, .inl ft)), (bs, .inl (c2, 24, .inl fb)), (ks, .inl (c3, 24, .inl fk))]) (tys := [(c1, .int), (c2, .int), (c3, .int)]) (hP.sub [0, 1, 2, 3, 4, 5] rfl) (hK.sub [0, 1, 2] rfl) hN⟩ rfl rfl hl.1 rfl (lv_room (Nat.le_of_ble_eq_true rfl)) dX7_cellFor_18 ⟨Nat.le_of_ble_eq_true rfl, Nat.le_of_ble_eq_true rfl⟩) (fun r_3 hr_3 => ?_)
        refine lv_icmp_eq (tgt := 54) hx hb dX7_cellFor_21 (by decide) (fun c_4 => ?_) (fun c_4 => ?_)
        · have c_4 : ((nI k) = r_3) := c_4
          refine lv_iinc (v := nI (k + 1)) (lv' := [(3, .int (nI (k + 1))), (0, .ref x), (1, .int h), (2, .int w)]) hx hb dX7_cellFor_54 hl (k := 0) rfl (nI_add k 1) (by decide) rfl (fun ls hl => ?_)
          refine lv_goto (tgt := 2) hx hb dX7_cellFor_57 (by decide) ?_
          exact ih ls (lv_sub hl [0, 1, 2, 3] rfl)
        · have c_4 : ¬ ((nI k) = r_3) := c_4
          refine lv_aload_n hx hb dX7_cellFor_24 rfl (lv_at hl 1 rfl) ?_
          refine va_get (D := (dC, dI)) (ci := 5) (v := .ref rk) (C := RX7) (T := TX7) (N := 10) hx hb hts iX7 hown hK hP 0 rfl rfl 0 (by decide) (hts (.fieldLink RX7 10 "ParkTower" "rack" "LParkTower$Rack;") (by decide +kernel)) (fun _ h9 => h9) rfl dX7_cellFor_25 ?_
          refine lv_iload_n hx hb dX7_cellFor_28 rfl (lv_at hl 0 rfl) ?_
          refine pt_cSi (va_runV (As := [.int (nI k)]) (rest := []) ⟨hx, hb, hml, hown, hts⟩ (s_hasRoom l dC dI rk hd jm cI cZ fh fj k (by omega)) (cwV 1 hts gX7_cellFor_X5_hasRoom rfl rfl rfl (by decide +kernel) ⟨Nat.le_of_ble_eq_true rfl, Nat.le_of_ble_eq_true rfl⟩) ⟨pt_blind, va_recv hK hP (ci := 4) (q0 := 6) rfl rfl, pt_pre (w := [(rk, .inr (4, [.ref hd, .ref jm])), (hd, .inl (cI, 96, .inl fh)), (jm, .inl (cZ, 4, .inl fj))]) (tys := [(cI, .int), (cZ, .boolean)]) (hP.sub [6, 7, 8] rfl) (hK.sub [3, 4] rfl) hN⟩ rfl rfl hl.1 rfl (lv_room (Nat.le_of_ble_eq_true rfl)) dX7_cellFor_29 ⟨Nat.le_of_ble_eq_true rfl, Nat.le_of_ble_eq_true rfl⟩) (fun r_5 hr_5 => ?_)
          refine lv_if_eq (tgt := 54) hx hb dX7_cellFor_32 (by decide) (fun c_6 => ?_) (fun c_6 => ?_)
          · have c_6 : (r_5 = 0) := c_6
            refine lv_iinc (v := nI (k + 1)) (lv' := [(3, .int (nI (k + 1))), (0, .ref x), (1, .int h), (2, .int w)]) hx hb dX7_cellFor_54 hl (k := 0) rfl (nI_add k 1) (by decide) rfl (fun ls hl => ?_)
            refine lv_goto (tgt := 2) hx hb dX7_cellFor_57 (by decide) ?_
            exact ih ls (lv_sub hl [0, 1, 2, 3] rfl)
          · have c_6 : ¬ (r_5 = 0) := c_6
            refine lv_aload_n hx hb dX7_cellFor_35 rfl (lv_at hl 1 rfl) ?_
            refine va_get (D := (dC, dI)) (ci := 5) (v := .ref rk) (C := RX7) (T := TX7) (N := 10) hx hb hts iX7 hown hK hP 0 rfl rfl 0 (by decide) (hts (.fieldLink RX7 10 "ParkTower" "rack" "LParkTower$Rack;") (by decide +kernel)) (fun _ h9 => h9) rfl dX7_cellFor_36 ?_
            refine lv_iload_n hx hb dX7_cellFor_39 rfl (lv_at hl 0 rfl) ?_
            refine pt_cSi (va_runV (As := [.int (nI k)]) (rest := []) ⟨hx, hb, hml, hown, hts⟩ (s_firstCell l dC dI rk hd jm cI fh k (by omega)) (cwV 1 hts gX7_cellFor_X5_firstCellToStore rfl rfl rfl (by decide +kernel) ⟨Nat.le_of_ble_eq_true rfl, Nat.le_of_ble_eq_true rfl⟩) ⟨pt_blind, va_recv hK hP (ci := 4) (q0 := 6) rfl rfl, pt_pre (w := [(rk, .inr (4, [.ref hd, .ref jm])), (hd, .inl (cI, 96, .inl fh))]) (tys := [(cI, .int)]) (hP.sub [6, 7] rfl) (hK.sub [3] rfl) hN⟩ rfl rfl hl.1 rfl (lv_room (Nat.le_of_ble_eq_true rfl)) dX7_cellFor_40 ⟨Nat.le_of_ble_eq_true rfl, Nat.le_of_ble_eq_true rfl⟩) (fun r_7 hr_7 => ?_)
            rcases hr_7 with rfl | ⟨j_7, hj_7, rfl⟩
            · skip
              refine lv_istore (lv' := [(4, .int (-1)), (3, .int (nI k)), (0, .ref x), (1, .int h), (2, .int w)]) hx hb dX7_cellFor_43 hl (by decide) rfl (fun ls hl => ?_)
              refine lv_iload hx hb dX7_cellFor_45 (lv_at hl 0 rfl) ?_
              refine lv_iconst (v := (-1)) hx hb dX7_cellFor_47 (by decide) ?_
              refine lv_icmp_eq (tgt := 54) hx hb dX7_cellFor_48 (by decide) (fun _ => ?_) (fun c => absurd (by decide) c)
              refine lv_iinc (v := nI (k + 1)) (lv' := [(3, .int (nI (k + 1))), (4, .int (-1)), (0, .ref x), (1, .int h), (2, .int w)]) hx hb dX7_cellFor_54 hl (k := 1) rfl (nI_add k 1) (by decide) rfl (fun ls hl => ?_)
              refine lv_goto (tgt := 2) hx hb dX7_cellFor_57 (by decide) ?_
              exact ih ls (lv_sub hl [0, 2, 3, 4] rfl)
            · have cm_7 : ¬ (nI j_7 = (-1)) := pt_nIm (by omega)
              refine lv_istore (lv' := [(4, .int (nI j_7)), (3, .int (nI k)), (0, .ref x), (1, .int h), (2, .int w)]) hx hb dX7_cellFor_43 hl (by decide) rfl (fun ls hl => ?_)
              refine lv_iload hx hb dX7_cellFor_45 (lv_at hl 0 rfl) ?_
              refine lv_iconst (v := (-1)) hx hb dX7_cellFor_47 (by decide) ?_
              refine lv_icmp_eq (tgt := 54) hx hb dX7_cellFor_48 (by decide) (fun c => absurd c (by assumption)) (fun _ => ?_)
              refine lv_iload hx hb dX7_cellFor_51 (lv_at hl 0 rfl) ?_
              exact W.iret (v := nI j_7) hx hb hr (fun t ht hW => ⟨nI j_7, rfl, Or.inr ⟨j_7, by omega, rfl⟩, ht⟩) (fun q h => by cases h) dX7_cellFor_53
set_option maxHeartbeats 4000000 in
set_option maxRecDepth 100000 in
theorem s_allOrders (l : Launch) (dC : Nat → ClassId) (dI : Nat → Nat → Nat) (x rk ba od j ap : Nat) (li pw rs tm : Int32) (sr : Nat) (ts bs ks : Nat) (c1 c2 c3 : ClassId) (ft fb fk : Nat → Int32) (n : Nat) (b0 b1 : Nat) (cB : ClassId) (bd0 bt0 bp0 bk0 bf0 bc0 bd1 bt1 bp1 bk1 bf1 bc1 : Int32) (hn : n ≤ 24) : Met l yX7_allOrders wsX7_allOrders ({ frames := 1, cells := 0, slots := 0, locals := 20 }) (va_Pc [.ref x] (pt_B (dC, dI) [(x, .inr (5, [.ref rk, .ref ba, .ref od, .ref j, .ref ap, .int li, .int pw, .int rs, .int tm, .int (nI sr)])), (od, .inr (2, [.ref ts, .ref bs, .ref ks, .int (nI n)])), (ts, .inl (c1, 24, .inl ft)), (bs, .inl (c2, 24, .inl fb)), (ks, .inl (c3, 24, .inl fk)), (ba, .inl (cB, 2, .inr (.inr (.inr (.inr (va_up (va_up (fun _ => none) 0 (some b0)) 1 (some b1))))))), (b0, .inr (0, [.int bd0, .int bt0, .int bp0, .int bk0, .int bf0, .int bc0])), (b1, .inr (0, [.int bd1, .int bt1, .int bp1, .int bk1, .int bf1, .int bc1]))] [(c1, .int), (c2, .int), (c3, .int), (cB, .object "ParkTower$Bay")])) (vp_Si (fun r : Int32 => True)) 0 0 (fun _ => False) := by
  refine Met.ofW (cc := cX7_allOrders) (maxL := 3) (ret := (some .int)) (by decide) rfl ?_
  intro p e s m args below meth c s₁ B hml hv
  obtain ⟨rfl, hP, hK, hN⟩ := hv
  have hx := B.exec
  have hb := B.bytes
  have hr := B.returns
  have hts := atoms_spec (ws := wsX7_allOrders) B.pre
  have hown : s.vm.findClass RX7 = some m.cls := findClass_of_methodNamed B.named
  have hlocks := B.notSynchronized
  have iX3 : ∀ w ∈ wsX30, w ∈ wsX7_allOrders := by decide +kernel
  have iX7 : ∀ w ∈ wsX70, w ∈ wsX7_allOrders := by decide +kernel
  have hP : va_P (dC, dI) vwCl [(x, .inr (5, [.ref rk, .ref ba, .ref od, .ref j, .ref ap, .int li, .int pw, .int rs, .int tm, .int (nI sr)])), (od, .inr (2, [.ref ts, .ref bs, .ref ks, .int (nI n)])), (ts, .inl (c1, 24, .inl ft)), (bs, .inl (c2, 24, .inl fb)), (ks, .inl (c3, 24, .inl fk)), (ba, .inl (cB, 2, .inr (.inr (.inr (.inr (va_up (va_up (fun _ => none) 0 (some b0)) 1 (some b1))))))), (b0, .inr (0, [.int bd0, .int bt0, .int bp0, .int bk0, .int bf0, .int bc0])), (b1, .inr (0, [.int bd1, .int bt1, .int bp1, .int bk1, .int bf1, .int bc1]))] s.heap := hP
  have hK : va_K (dC, dI) vwCl [(c1, .int), (c2, .int), (c3, .int), (cB, .object "ParkTower$Bay")] s := hK
  have hl := lv_entry ([.ref x]) (n := 3) (Nat.le_of_ble_eq_true rfl)
  rw [lg_entry_eq]
  generalize (lg_sl ([.ref x]) ++ List.replicate (3 - (lg_sl ([.ref x])).length) Slot.unset).toArray = ls at hl ⊢
  have hl : lv_has ls 3 [(0, .ref x)] := hl
  refine lv_aload_n hx hb dX7_allOrders_0 rfl (lv_at hl 0 rfl) ?_
  refine va_get (D := (dC, dI)) (ci := 5) (v := .ref od) (C := RX7) (T := TX7) (N := 10) hx hb hts iX7 hown hK hP 0 rfl rfl 2 (by decide) (hts (.fieldLink RX7 26 "ParkTower" "orders" "LParkTower$Orders;") (by decide +kernel)) (fun _ h9 => h9) rfl dX7_allOrders_1 ?_
  refine va_getN (D := (dC, dI)) (ci := 2) (v := .int (nI n)) (C := RX3) (T := TX3) (N := 4) hx hb hts iX3 hown hK hP 1 rfl rfl 3 (by decide) (va_Nw.use rfl (hN.1 (.fieldLinkNest RX7 162 "ParkTower$Orders" "count" "I" "ParkTower") (by decide +kernel))) (fun _ h9 => h9) rfl dX7_allOrders_4 ?_
  refine lv_istore_n (lv' := [(1, .int (nI n)), (0, .ref x)]) hx hb dX7_allOrders_7 rfl hl (by decide) rfl (fun ls hl => ?_)
  refine lv_iconst (v := 0) hx hb dX7_allOrders_8 (by decide) ?_
  refine lv_istore_n (lv' := [(2, .int 0), (1, .int (nI n)), (0, .ref x)]) hx hb dX7_allOrders_9 rfl hl (by decide) rfl (fun ls hl => ?_)
  refine lv_iload_n hx hb dX7_allOrders_10 rfl (lv_at hl 0 rfl) ?_
  refine lv_iconst (v := 2) hx hb dX7_allOrders_11 (by decide) ?_
  refine lv_icmp_ge (tgt := 36) hx hb dX7_allOrders_12 (by decide) (fun c => absurd c (by decide)) (fun _ => ?_)
  refine lv_aload_n hx hb dX7_allOrders_15 rfl (lv_at hl 2 rfl) ?_
  refine va_get (D := (dC, dI)) (ci := 5) (v := .ref ba) (C := RX7) (T := TX7) (N := 10) hx hb hts iX7 hown hK hP 0 rfl rfl 1 (by decide) (hts (.fieldLink RX7 18 "ParkTower" "bays" "[LParkTower$Bay;") (by decide +kernel)) (fun _ h9 => h9) rfl dX7_allOrders_16 ?_
  refine lv_iload_n hx hb dX7_allOrders_19 rfl (lv_at hl 0 rfl) ?_
  refine va_aldq hx hb hK hP 5 3 rfl rfl (vp_in_iff.mpr (by decide)) dX7_allOrders_20 ?_
  refine W.eq (g2 := F0 m 21 ls [.ref b0]) rfl ?_
  refine pt_cSi (va_runV (As := []) (rest := []) ⟨hx, hb, hml, hown, hts⟩ (s_holdsCarWithoutOrder l dC dI b0 bd0 bt0 bp0 bk0 bf0 bc0) (cwV 0 hts gX7_allOrders_X1_holdsCarWithoutOrder rfl rfl rfl (by decide +kernel) ⟨Nat.le_of_ble_eq_true rfl, Nat.le_of_ble_eq_true rfl⟩) ⟨pt_blind, va_recv hK hP (ci := 0) (q0 := 6) rfl rfl, pt_pre (w := [(b0, .inr (0, [.int bd0, .int bt0, .int bp0, .int bk0, .int bf0, .int bc0]))]) (tys := []) (hP.sub [6] rfl) (hK.sub [] rfl) hN⟩ rfl rfl hl.1 rfl (lv_room (Nat.le_of_ble_eq_true rfl)) dX7_allOrders_21 ⟨Nat.le_of_ble_eq_true rfl, Nat.le_of_ble_eq_true rfl⟩) (fun r_1 hr_1 => ?_)
  rcases hr_1 with rfl | rfl
  · skip
    refine lv_if_eq (tgt := 30) hx hb dX7_allOrders_24 (by decide) (fun _ => ?_) (fun c => absurd (by decide) c)
    refine lv_iinc (v := 1) (lv' := [(2, .int 1), (1, .int (nI n)), (0, .ref x)]) hx hb dX7_allOrders_30 hl (k := 0) rfl (by decide) (by decide) rfl (fun ls hl => ?_)
    refine lv_goto (tgt := 10) hx hb dX7_allOrders_33 (by decide) ?_
    refine lv_iload_n hx hb dX7_allOrders_10 rfl (lv_at hl 0 rfl) ?_
    refine lv_iconst (v := 2) hx hb dX7_allOrders_11 (by decide) ?_
    refine lv_icmp_ge (tgt := 36) hx hb dX7_allOrders_12 (by decide) (fun c => absurd c (by decide)) (fun _ => ?_)
    refine lv_aload_n hx hb dX7_allOrders_15 rfl (lv_at hl 2 rfl) ?_
    refine va_get (D := (dC, dI)) (ci := 5) (v := .ref ba) (C := RX7) (T := TX7) (N := 10) hx hb hts iX7 hown hK hP 0 rfl rfl 1 (by decide) (hts (.fieldLink RX7 18 "ParkTower" "bays" "[LParkTower$Bay;") (by decide +kernel)) (fun _ h9 => h9) rfl dX7_allOrders_16 ?_
    refine lv_iload_n hx hb dX7_allOrders_19 rfl (lv_at hl 0 rfl) ?_
    refine va_aldq hx hb hK hP 5 3 rfl rfl (vp_in_iff.mpr (by decide)) dX7_allOrders_20 ?_
    refine W.eq (g2 := F0 m 21 ls [.ref b1]) rfl ?_
    refine pt_cSi (va_runV (As := []) (rest := []) ⟨hx, hb, hml, hown, hts⟩ (s_holdsCarWithoutOrder l dC dI b1 bd1 bt1 bp1 bk1 bf1 bc1) (cwV 0 hts gX7_allOrders_X1_holdsCarWithoutOrder rfl rfl rfl (by decide +kernel) ⟨Nat.le_of_ble_eq_true rfl, Nat.le_of_ble_eq_true rfl⟩) ⟨pt_blind, va_recv hK hP (ci := 0) (q0 := 7) rfl rfl, pt_pre (w := [(b1, .inr (0, [.int bd1, .int bt1, .int bp1, .int bk1, .int bf1, .int bc1]))]) (tys := []) (hP.sub [7] rfl) (hK.sub [] rfl) hN⟩ rfl rfl hl.1 rfl (lv_room (Nat.le_of_ble_eq_true rfl)) dX7_allOrders_21 ⟨Nat.le_of_ble_eq_true rfl, Nat.le_of_ble_eq_true rfl⟩) (fun r_2 hr_2 => ?_)
    rcases hr_2 with rfl | rfl
    · skip
      refine lv_if_eq (tgt := 30) hx hb dX7_allOrders_24 (by decide) (fun _ => ?_) (fun c => absurd (by decide) c)
      refine lv_iinc (v := 2) (lv' := [(2, .int 2), (1, .int (nI n)), (0, .ref x)]) hx hb dX7_allOrders_30 hl (k := 0) rfl (by decide) (by decide) rfl (fun ls hl => ?_)
      refine lv_goto (tgt := 10) hx hb dX7_allOrders_33 (by decide) ?_
      refine lv_iload_n hx hb dX7_allOrders_10 rfl (lv_at hl 0 rfl) ?_
      refine lv_iconst (v := 2) hx hb dX7_allOrders_11 (by decide) ?_
      refine lv_icmp_ge (tgt := 36) hx hb dX7_allOrders_12 (by decide) (fun _ => ?_) (fun c => absurd (by decide) c)
      refine lv_iload_n hx hb dX7_allOrders_36 rfl (lv_at hl 1 rfl) ?_
      exact W.iret (v := nI n) hx hb hr (fun t ht hW => ⟨nI n, rfl, trivial, ht⟩) (fun q h => by cases h) dX7_allOrders_37
    · skip
      refine lv_if_eq (tgt := 30) hx hb dX7_allOrders_24 (by decide) (fun c => absurd c (by decide)) (fun _ => ?_)
      refine lv_iinc (v := nI (n + 1)) (lv' := [(1, .int (nI (n + 1))), (2, .int 1), (0, .ref x)]) hx hb dX7_allOrders_27 hl (k := 1) rfl (nI_add n 1) (by decide) rfl (fun ls hl => ?_)
      refine lv_iinc (v := 2) (lv' := [(2, .int 2), (1, .int (nI (n + 1))), (0, .ref x)]) hx hb dX7_allOrders_30 hl (k := 1) rfl (by decide) (by decide) rfl (fun ls hl => ?_)
      refine lv_goto (tgt := 10) hx hb dX7_allOrders_33 (by decide) ?_
      refine lv_iload_n hx hb dX7_allOrders_10 rfl (lv_at hl 0 rfl) ?_
      refine lv_iconst (v := 2) hx hb dX7_allOrders_11 (by decide) ?_
      refine lv_icmp_ge (tgt := 36) hx hb dX7_allOrders_12 (by decide) (fun _ => ?_) (fun c => absurd (by decide) c)
      refine lv_iload_n hx hb dX7_allOrders_36 rfl (lv_at hl 1 rfl) ?_
      exact W.iret (v := nI (n + 1)) hx hb hr (fun t ht hW => ⟨nI (n + 1), rfl, trivial, ht⟩) (fun q h => by cases h) dX7_allOrders_37
  · skip
    refine lv_if_eq (tgt := 30) hx hb dX7_allOrders_24 (by decide) (fun c => absurd c (by decide)) (fun _ => ?_)
    refine lv_iinc (v := nI (n + 1)) (lv' := [(1, .int (nI (n + 1))), (2, .int 0), (0, .ref x)]) hx hb dX7_allOrders_27 hl (k := 1) rfl (nI_add n 1) (by decide) rfl (fun ls hl => ?_)
    refine lv_iinc (v := 1) (lv' := [(2, .int 1), (1, .int (nI (n + 1))), (0, .ref x)]) hx hb dX7_allOrders_30 hl (k := 1) rfl (by decide) (by decide) rfl (fun ls hl => ?_)
    refine lv_goto (tgt := 10) hx hb dX7_allOrders_33 (by decide) ?_
    refine lv_iload_n hx hb dX7_allOrders_10 rfl (lv_at hl 0 rfl) ?_
    refine lv_iconst (v := 2) hx hb dX7_allOrders_11 (by decide) ?_
    refine lv_icmp_ge (tgt := 36) hx hb dX7_allOrders_12 (by decide) (fun c => absurd c (by decide)) (fun _ => ?_)
    refine lv_aload_n hx hb dX7_allOrders_15 rfl (lv_at hl 2 rfl) ?_
    refine va_get (D := (dC, dI)) (ci := 5) (v := .ref ba) (C := RX7) (T := TX7) (N := 10) hx hb hts iX7 hown hK hP 0 rfl rfl 1 (by decide) (hts (.fieldLink RX7 18 "ParkTower" "bays" "[LParkTower$Bay;") (by decide +kernel)) (fun _ h9 => h9) rfl dX7_allOrders_16 ?_
    refine lv_iload_n hx hb dX7_allOrders_19 rfl (lv_at hl 0 rfl) ?_
    refine va_aldq hx hb hK hP 5 3 rfl rfl (vp_in_iff.mpr (by decide)) dX7_allOrders_20 ?_
    refine W.eq (g2 := F0 m 21 ls [.ref b1]) rfl ?_
    refine pt_cSi (va_runV (As := []) (rest := []) ⟨hx, hb, hml, hown, hts⟩ (s_holdsCarWithoutOrder l dC dI b1 bd1 bt1 bp1 bk1 bf1 bc1) (cwV 0 hts gX7_allOrders_X1_holdsCarWithoutOrder rfl rfl rfl (by decide +kernel) ⟨Nat.le_of_ble_eq_true rfl, Nat.le_of_ble_eq_true rfl⟩) ⟨pt_blind, va_recv hK hP (ci := 0) (q0 := 7) rfl rfl, pt_pre (w := [(b1, .inr (0, [.int bd1, .int bt1, .int bp1, .int bk1, .int bf1, .int bc1]))]) (tys := []) (hP.sub [7] rfl) (hK.sub [] rfl) hN⟩ rfl rfl hl.1 rfl (lv_room (Nat.le_of_ble_eq_true rfl)) dX7_allOrders_21 ⟨Nat.le_of_ble_eq_true rfl, Nat.le_of_ble_eq_true rfl⟩) (fun r_3 hr_3 => ?_)
    rcases hr_3 with rfl | rfl
    · skip
      refine lv_if_eq (tgt := 30) hx hb dX7_allOrders_24 (by decide) (fun _ => ?_) (fun c => absurd (by decide) c)
      refine lv_iinc (v := 2) (lv' := [(2, .int 2), (1, .int (nI (n + 1))), (0, .ref x)]) hx hb dX7_allOrders_30 hl (k := 0) rfl (by decide) (by decide) rfl (fun ls hl => ?_)
      refine lv_goto (tgt := 10) hx hb dX7_allOrders_33 (by decide) ?_
      refine lv_iload_n hx hb dX7_allOrders_10 rfl (lv_at hl 0 rfl) ?_
      refine lv_iconst (v := 2) hx hb dX7_allOrders_11 (by decide) ?_
      refine lv_icmp_ge (tgt := 36) hx hb dX7_allOrders_12 (by decide) (fun _ => ?_) (fun c => absurd (by decide) c)
      refine lv_iload_n hx hb dX7_allOrders_36 rfl (lv_at hl 1 rfl) ?_
      exact W.iret (v := nI (n + 1)) hx hb hr (fun t ht hW => ⟨nI (n + 1), rfl, trivial, ht⟩) (fun q h => by cases h) dX7_allOrders_37
    · skip
      refine lv_if_eq (tgt := 30) hx hb dX7_allOrders_24 (by decide) (fun c => absurd c (by decide)) (fun _ => ?_)
      refine lv_iinc (v := nI (n + 1 + 1)) (lv' := [(1, .int (nI (n + 1 + 1))), (2, .int 1), (0, .ref x)]) hx hb dX7_allOrders_27 hl (k := 1) rfl (nI_add (n + 1) 1) (by decide) rfl (fun ls hl => ?_)
      refine lv_iinc (v := 2) (lv' := [(2, .int 2), (1, .int (nI (n + 1 + 1))), (0, .ref x)]) hx hb dX7_allOrders_30 hl (k := 1) rfl (by decide) (by decide) rfl (fun ls hl => ?_)
      refine lv_goto (tgt := 10) hx hb dX7_allOrders_33 (by decide) ?_
      refine lv_iload_n hx hb dX7_allOrders_10 rfl (lv_at hl 0 rfl) ?_
      refine lv_iconst (v := 2) hx hb dX7_allOrders_11 (by decide) ?_
      refine lv_icmp_ge (tgt := 36) hx hb dX7_allOrders_12 (by decide) (fun _ => ?_) (fun c => absurd (by decide) c)
      refine lv_iload_n hx hb dX7_allOrders_36 rfl (lv_at hl 1 rfl) ?_
      exact W.iret (v := nI (n + 1 + 1)) hx hb hr (fun t ht hW => ⟨nI (n + 1 + 1), rfl, trivial, ht⟩) (fun q h => by cases h) dX7_allOrders_37
set_option maxHeartbeats 4000000 in
set_option maxRecDepth 100000 in
theorem s_wasGiven (l : Launch) (dC : Nat → ClassId) (dI : Nat → Nat → Nat) (x rk ba od j ap : Nat) (li pw rs tm : Int32) (sr : Nat) (y : Int32) : Met l yX7_wasGiven wsX7_wasGiven ({ frames := 1, cells := 0, slots := 0, locals := 21 }) (va_Pc [.ref x, .int y] (pt_B (dC, dI) [(x, .inr (5, [.ref rk, .ref ba, .ref od, .ref j, .ref ap, .int li, .int pw, .int rs, .int tm, .int (nI sr)]))] [])) (vp_Si (fun r : Int32 => r = 0 ∨ r = 1)) 0 0 (fun _ => False) := by
  refine Met.ofW (cc := cX7_wasGiven) (maxL := 3) (ret := (some .boolean)) (by decide) rfl ?_
  intro p e s m args below meth c s₁ B hml hv
  obtain ⟨rfl, hP, hK, hN⟩ := hv
  have hx := B.exec
  have hb := B.bytes
  have hr := B.returns
  have hts := atoms_spec (ws := wsX7_wasGiven) B.pre
  have hown : s.vm.findClass RX7 = some m.cls := findClass_of_methodNamed B.named
  have hlocks := B.notSynchronized
  have iX7 : ∀ w ∈ wsX70, w ∈ wsX7_wasGiven := by decide +kernel
  have hP : va_P (dC, dI) vwCl [(x, .inr (5, [.ref rk, .ref ba, .ref od, .ref j, .ref ap, .int li, .int pw, .int rs, .int tm, .int (nI sr)]))] s.heap := hP
  have hK : va_K (dC, dI) vwCl [] s := hK
  have hl := lv_entry ([.ref x, .int y]) (n := 3) (Nat.le_of_ble_eq_true rfl)
  rw [lg_entry_eq]
  generalize (lg_sl ([.ref x, .int y]) ++ List.replicate (3 - (lg_sl ([.ref x, .int y])).length) Slot.unset).toArray = ls at hl ⊢
  have hl : lv_has ls 3 [(0, .ref x), (1, .int y)] := hl
  refine lv_iload_n hx hb dX7_wasGiven_0 rfl (lv_at hl 1 rfl) ?_
  refine lv_bipush (v := 10) hx hb dX7_wasGiven_1 (by decide) ?_
  refine lv_idiv hx hb dX7_wasGiven_3 (by decide) ?_
  refine lv_topi (fun z_1 ez_1 => ?_)
  refine lv_istore_n (lv' := [(2, .int z_1), (0, .ref x), (1, .int y)]) hx hb dX7_wasGiven_4 rfl hl (by decide) rfl (fun ls hl => ?_)
  refine lv_iload_n hx hb dX7_wasGiven_5 rfl (lv_at hl 0 rfl) ?_
  refine lv_iconst (v := 1) hx hb dX7_wasGiven_6 (by decide) ?_
  refine lv_icmp_lt (tgt := 33) hx hb dX7_wasGiven_7 (by decide) (fun c_2 => ?_) (fun c_2 => ?_)
  · have c_2 : (z_1 < 1) := c_2
    refine lv_iconst (v := 0) hx hb dX7_wasGiven_33 (by decide) ?_
    exact W.zret (v := 0) (ty := .boolean) hx hb hr rfl (fun t ht hW => ⟨0, rfl, Or.inl rfl, ht⟩) (fun q h => by cases h) dX7_wasGiven_34
  · have c_2 : ¬ (z_1 < 1) := c_2
    refine lv_iload_n hx hb dX7_wasGiven_10 rfl (lv_at hl 0 rfl) ?_
    refine lv_aload_n hx hb dX7_wasGiven_11 rfl (lv_at hl 1 rfl) ?_
    refine va_get (D := (dC, dI)) (ci := 5) (v := .int (nI sr)) (C := RX7) (T := TX7) (N := 10) hx hb hts iX7 hown hK hP 0 rfl rfl 9 (by decide) (hts (.fieldLink RX7 70 "ParkTower" "serial" "I") (by decide +kernel)) (fun _ h9 => h9) rfl dX7_wasGiven_12 ?_
    refine lv_icmp_gt (tgt := 33) hx hb dX7_wasGiven_15 (by decide) (fun c_3 => ?_) (fun c_3 => ?_)
    · have c_3 : ((nI sr) < z_1) := c_3
      refine lv_iconst (v := 0) hx hb dX7_wasGiven_33 (by decide) ?_
      exact W.zret (v := 0) (ty := .boolean) hx hb hr rfl (fun t ht hW => ⟨0, rfl, Or.inl rfl, ht⟩) (fun q h => by cases h) dX7_wasGiven_34
    · have c_3 : ¬ ((nI sr) < z_1) := c_3
      refine lv_iload_n hx hb dX7_wasGiven_18 rfl (lv_at hl 0 rfl) ?_
      refine pt_cSi (va_runS (As := [.int z_1]) (rest := []) ⟨hx, hb, hml, hown, hts⟩ (s_checkDigit l dC dI z_1) (cwS 1 hts gX7_wasGiven_X7_checkDigit rfl rfl rfl (by decide +kernel) ⟨Nat.le_of_ble_eq_true rfl, Nat.le_of_ble_eq_true rfl⟩) ⟨pt_blind, pt_pre (w := []) (tys := []) (hP.sub [] rfl) (hK.sub [] rfl) hN⟩ rfl rfl hl.1 rfl (lv_room (Nat.le_of_ble_eq_true rfl)) dX7_wasGiven_19 ⟨Nat.le_of_ble_eq_true rfl, Nat.le_of_ble_eq_true rfl⟩) (fun r_4 hr_4 => ?_)
      refine lv_iload_n hx hb dX7_wasGiven_22 rfl (lv_at hl 2 rfl) ?_
      refine lv_bipush (v := 10) hx hb dX7_wasGiven_23 (by decide) ?_
      refine lv_irem hx hb dX7_wasGiven_25 (by decide) ?_
      refine lv_topi (fun z_5 ez_5 => ?_)
      refine lv_icmp_ne (tgt := 33) hx hb dX7_wasGiven_26 (by decide) (fun c_6 => ?_) (fun c_6 => ?_)
      · have c_6 : ¬ (r_4 = z_5) := c_6
        refine lv_iconst (v := 0) hx hb dX7_wasGiven_33 (by decide) ?_
        exact W.zret (v := 0) (ty := .boolean) hx hb hr rfl (fun t ht hW => ⟨0, rfl, Or.inl rfl, ht⟩) (fun q h => by cases h) dX7_wasGiven_34
      · have c_6 : (r_4 = z_5) := c_6
        refine lv_iconst (v := 1) hx hb dX7_wasGiven_29 (by decide) ?_
        refine lv_goto (tgt := 34) hx hb dX7_wasGiven_30 (by decide) ?_
        exact W.zret (v := 1) (ty := .boolean) hx hb hr rfl (fun t ht hW => ⟨1, rfl, Or.inr rfl, ht⟩) (fun q h => by cases h) dX7_wasGiven_34
set_option maxHeartbeats 4000000 in
set_option maxRecDepth 100000 in
theorem s_stepCount (l : Launch) (dC : Nat → ClassId) (dI : Nat → Nat → Nat) (x rk ba od j ap : Nat) (li pw rs tm : Int32) (sr : Nat) (pl k : Nat) (jc js jt : Int32) (ts bs ks : Nat) (c1 c2 c3 : ClassId) (ft fb fk : Nat → Int32) (n : Nat) (pf pg : Nat) (c4 c5 : ClassId) (ff fg : Nat → Int32) (pz : Int32) (hn : n ≤ 24) (hk0 : k < n) (hz : sP pz) : Met l yX7_stepCount wsX7_stepCount ({ frames := 1, cells := 0, slots := 0, locals := 21 }) (va_Pc [.ref x] (pt_B (dC, dI) [(x, .inr (5, [.ref rk, .ref ba, .ref od, .ref j, .ref ap, .int li, .int pw, .int rs, .int tm, .int (nI sr)])), (j, .inr (1, [.ref pl, .int (nI k), .int jc, .int js, .int jt])), (od, .inr (2, [.ref ts, .ref bs, .ref ks, .int (nI n)])), (ts, .inl (c1, 24, .inl ft)), (bs, .inl (c2, 24, .inl fb)), (ks, .inl (c3, 24, .inl fk)), (pl, .inr (3, [.ref pf, .ref pg, .int pz])), (pf, .inl (c4, 2, .inl ff)), (pg, .inl (c5, 2, .inl fg))] [(c1, .int), (c2, .int), (c3, .int), (c4, .int), (c5, .int)])) (vp_Si (fun r : Int32 => ∃ z : Nat, 3 ≤ z ∧ z ≤ 6 ∧ r = nI z)) 0 0 (fun _ => False) := by
  refine Met.ofW (cc := cX7_stepCount) (maxL := 1) (ret := (some .int)) (by decide) rfl ?_
  intro p e s m args below meth c s₁ B hml hv
  obtain ⟨rfl, hP, hK, hN⟩ := hv
  have hx := B.exec
  have hb := B.bytes
  have hr := B.returns
  have hts := atoms_spec (ws := wsX7_stepCount) B.pre
  have hown : s.vm.findClass RX7 = some m.cls := findClass_of_methodNamed B.named
  have hlocks := B.notSynchronized
  have iX2 : ∀ w ∈ wsX20, w ∈ wsX7_stepCount := by decide +kernel
  have iX4 : ∀ w ∈ wsX40, w ∈ wsX7_stepCount := by decide +kernel
  have iX7 : ∀ w ∈ wsX70, w ∈ wsX7_stepCount := by decide +kernel
  have hP : va_P (dC, dI) vwCl [(x, .inr (5, [.ref rk, .ref ba, .ref od, .ref j, .ref ap, .int li, .int pw, .int rs, .int tm, .int (nI sr)])), (j, .inr (1, [.ref pl, .int (nI k), .int jc, .int js, .int jt])), (od, .inr (2, [.ref ts, .ref bs, .ref ks, .int (nI n)])), (ts, .inl (c1, 24, .inl ft)), (bs, .inl (c2, 24, .inl fb)), (ks, .inl (c3, 24, .inl fk)), (pl, .inr (3, [.ref pf, .ref pg, .int pz])), (pf, .inl (c4, 2, .inl ff)), (pg, .inl (c5, 2, .inl fg))] s.heap := hP
  have hK : va_K (dC, dI) vwCl [(c1, .int), (c2, .int), (c3, .int), (c4, .int), (c5, .int)] s := hK
  have hl := lv_entry ([.ref x]) (n := 1) (Nat.le_of_ble_eq_true rfl)
  rw [lg_entry_eq]
  generalize (lg_sl ([.ref x]) ++ List.replicate (1 - (lg_sl ([.ref x])).length) Slot.unset).toArray = ls at hl ⊢
  have hl : lv_has ls 1 [(0, .ref x)] := hl
  rcases hz with rfl | ⟨z, hz, rfl⟩
  · skip
    refine lv_aload_n hx hb dX7_stepCount_0 rfl (lv_at hl 0 rfl) ?_
    refine va_get (D := (dC, dI)) (ci := 5) (v := .ref od) (C := RX7) (T := TX7) (N := 10) hx hb hts iX7 hown hK hP 0 rfl rfl 2 (by decide) (hts (.fieldLink RX7 26 "ParkTower" "orders" "LParkTower$Orders;") (by decide +kernel)) (fun _ h9 => h9) rfl dX7_stepCount_1 ?_
    refine lv_aload_n hx hb dX7_stepCount_4 rfl (lv_at hl 0 rfl) ?_
    refine va_get (D := (dC, dI)) (ci := 5) (v := .ref j) (C := RX7) (T := TX7) (N := 10) hx hb hts iX7 hown hK hP 0 rfl rfl 3 (by decide) (hts (.fieldLink RX7 33 "ParkTower" "job" "LParkTower$Job;") (by decide +kernel)) (fun _ h9 => h9) rfl dX7_stepCount_5 ?_
    refine va_getN (D := (dC, dI)) (ci := 1) (v := .int (nI k)) (C := RX2) (T := TX2) (N := 5) hx hb hts iX2 hown hK hP 1 rfl rfl 1 (by decide) (va_Nw.use rfl (hN.1 (.fieldLinkNest RX7 170 "ParkTower$Job" "order" "I" "ParkTower") (by decide +kernel))) (fun _ h9 => h9) rfl dX7_stepCount_8 ?_
    refine pt_cSi (va_runV (As := [.int (nI k)]) (rest := []) ⟨hx, hb, hml, hown, hts⟩ (s_isFetch l dC dI od ts bs ks c1 c2 c3 ft fb fk n k (by omega)) (cwV 1 hts gX7_stepCount_X3_isFetch rfl rfl rfl (by decide +kernel) ⟨Nat.le_of_ble_eq_true rfl, Nat.le_of_ble_eq_true rfl⟩) ⟨pt_blind, va_recv hK hP (ci := 2) (q0 := 2) rfl rfl, pt_pre (w := [(od, .inr (2, [.ref ts, .ref bs, .ref ks, .int (nI n)])), (ts, .inl (c1, 24, .inl ft)), (bs, .inl (c2, 24, .inl fb)), (ks, .inl (c3, 24, .inl fk))]) (tys := [(c1, .int), (c2, .int), (c3, .int)]) (hP.sub [2, 3, 4, 5] rfl) (hK.sub [0, 1, 2] rfl) hN⟩ rfl rfl hl.1 rfl (lv_room (Nat.le_of_ble_eq_true rfl)) dX7_stepCount_11 ⟨Nat.le_of_ble_eq_true rfl, Nat.le_of_ble_eq_true rfl⟩) (fun r_1 hr_1 => ?_)
    rcases hr_1 with rfl | rfl
    · skip
      refine lv_if_eq (tgt := 32) hx hb dX7_stepCount_14 (by decide) (fun _ => ?_) (fun c => absurd (by decide) c)
      refine lv_iconst (v := 4) hx hb dX7_stepCount_32 (by decide) ?_
      exact W.iret (v := 4) hx hb hr (fun t ht hW => ⟨4, rfl, ⟨4, by omega, by omega, rfl⟩, ht⟩) (fun q h => by cases h) dX7_stepCount_33
    · skip
      refine lv_if_eq (tgt := 32) hx hb dX7_stepCount_14 (by decide) (fun c => absurd c (by decide)) (fun _ => ?_)
      refine lv_aload_n hx hb dX7_stepCount_17 rfl (lv_at hl 0 rfl) ?_
      refine va_get (D := (dC, dI)) (ci := 5) (v := .ref j) (C := RX7) (T := TX7) (N := 10) hx hb hts iX7 hown hK hP 0 rfl rfl 3 (by decide) (hts (.fieldLink RX7 33 "ParkTower" "job" "LParkTower$Job;") (by decide +kernel)) (fun _ h9 => h9) rfl dX7_stepCount_18 ?_
      refine va_getN (D := (dC, dI)) (ci := 1) (v := .ref pl) (C := RX2) (T := TX2) (N := 5) hx hb hts iX2 hown hK hP 1 rfl rfl 0 (by decide) (va_Nw.use rfl (hN.1 (.fieldLinkNest RX7 251 "ParkTower$Job" "plan" "LParkTower$Plan;" "ParkTower") (by decide +kernel))) (fun _ h9 => h9) rfl dX7_stepCount_21 ?_
      refine va_getN (D := (dC, dI)) (ci := 3) (v := .int (-1)) (C := RX4) (T := TX4) (N := 3) hx hb hts iX4 hown hK hP 6 rfl rfl 2 (by decide) (va_Nw.use rfl (hN.1 (.fieldLinkNest RX7 147 "ParkTower$Plan" "count" "I" "ParkTower") (by decide +kernel))) (fun _ h9 => h9) rfl dX7_stepCount_24 ?_
      refine lv_iconst (v := 4) hx hb dX7_stepCount_27 (by decide) ?_
      refine lv_iadd hx hb dX7_stepCount_28 ?_
      refine pt_topi 3 (by decide) ?_
      refine lv_goto (tgt := 33) hx hb dX7_stepCount_29 (by decide) ?_
      exact W.iret (v := 3) hx hb hr (fun t ht hW => ⟨3, rfl, ⟨3, by omega, by omega, rfl⟩, ht⟩) (fun q h => by cases h) dX7_stepCount_33
  · skip
    refine lv_aload_n hx hb dX7_stepCount_0 rfl (lv_at hl 0 rfl) ?_
    refine va_get (D := (dC, dI)) (ci := 5) (v := .ref od) (C := RX7) (T := TX7) (N := 10) hx hb hts iX7 hown hK hP 0 rfl rfl 2 (by decide) (hts (.fieldLink RX7 26 "ParkTower" "orders" "LParkTower$Orders;") (by decide +kernel)) (fun _ h9 => h9) rfl dX7_stepCount_1 ?_
    refine lv_aload_n hx hb dX7_stepCount_4 rfl (lv_at hl 0 rfl) ?_
    refine va_get (D := (dC, dI)) (ci := 5) (v := .ref j) (C := RX7) (T := TX7) (N := 10) hx hb hts iX7 hown hK hP 0 rfl rfl 3 (by decide) (hts (.fieldLink RX7 33 "ParkTower" "job" "LParkTower$Job;") (by decide +kernel)) (fun _ h9 => h9) rfl dX7_stepCount_5 ?_
    refine va_getN (D := (dC, dI)) (ci := 1) (v := .int (nI k)) (C := RX2) (T := TX2) (N := 5) hx hb hts iX2 hown hK hP 1 rfl rfl 1 (by decide) (va_Nw.use rfl (hN.1 (.fieldLinkNest RX7 170 "ParkTower$Job" "order" "I" "ParkTower") (by decide +kernel))) (fun _ h9 => h9) rfl dX7_stepCount_8 ?_
    refine pt_cSi (va_runV (As := [.int (nI k)]) (rest := []) ⟨hx, hb, hml, hown, hts⟩ (s_isFetch l dC dI od ts bs ks c1 c2 c3 ft fb fk n k (by omega)) (cwV 1 hts gX7_stepCount_X3_isFetch rfl rfl rfl (by decide +kernel) ⟨Nat.le_of_ble_eq_true rfl, Nat.le_of_ble_eq_true rfl⟩) ⟨pt_blind, va_recv hK hP (ci := 2) (q0 := 2) rfl rfl, pt_pre (w := [(od, .inr (2, [.ref ts, .ref bs, .ref ks, .int (nI n)])), (ts, .inl (c1, 24, .inl ft)), (bs, .inl (c2, 24, .inl fb)), (ks, .inl (c3, 24, .inl fk))]) (tys := [(c1, .int), (c2, .int), (c3, .int)]) (hP.sub [2, 3, 4, 5] rfl) (hK.sub [0, 1, 2] rfl) hN⟩ rfl rfl hl.1 rfl (lv_room (Nat.le_of_ble_eq_true rfl)) dX7_stepCount_11 ⟨Nat.le_of_ble_eq_true rfl, Nat.le_of_ble_eq_true rfl⟩) (fun r_2 hr_2 => ?_)
    rcases hr_2 with rfl | rfl
    · skip
      refine lv_if_eq (tgt := 32) hx hb dX7_stepCount_14 (by decide) (fun _ => ?_) (fun c => absurd (by decide) c)
      refine lv_iconst (v := 4) hx hb dX7_stepCount_32 (by decide) ?_
      exact W.iret (v := 4) hx hb hr (fun t ht hW => ⟨4, rfl, ⟨4, by omega, by omega, rfl⟩, ht⟩) (fun q h => by cases h) dX7_stepCount_33
    · skip
      refine lv_if_eq (tgt := 32) hx hb dX7_stepCount_14 (by decide) (fun c => absurd c (by decide)) (fun _ => ?_)
      refine lv_aload_n hx hb dX7_stepCount_17 rfl (lv_at hl 0 rfl) ?_
      refine va_get (D := (dC, dI)) (ci := 5) (v := .ref j) (C := RX7) (T := TX7) (N := 10) hx hb hts iX7 hown hK hP 0 rfl rfl 3 (by decide) (hts (.fieldLink RX7 33 "ParkTower" "job" "LParkTower$Job;") (by decide +kernel)) (fun _ h9 => h9) rfl dX7_stepCount_18 ?_
      refine va_getN (D := (dC, dI)) (ci := 1) (v := .ref pl) (C := RX2) (T := TX2) (N := 5) hx hb hts iX2 hown hK hP 1 rfl rfl 0 (by decide) (va_Nw.use rfl (hN.1 (.fieldLinkNest RX7 251 "ParkTower$Job" "plan" "LParkTower$Plan;" "ParkTower") (by decide +kernel))) (fun _ h9 => h9) rfl dX7_stepCount_21 ?_
      refine va_getN (D := (dC, dI)) (ci := 3) (v := .int (nI z)) (C := RX4) (T := TX4) (N := 3) hx hb hts iX4 hown hK hP 6 rfl rfl 2 (by decide) (va_Nw.use rfl (hN.1 (.fieldLinkNest RX7 147 "ParkTower$Plan" "count" "I" "ParkTower") (by decide +kernel))) (fun _ h9 => h9) rfl dX7_stepCount_24 ?_
      refine lv_iconst (v := 4) hx hb dX7_stepCount_27 (by decide) ?_
      refine lv_iadd hx hb dX7_stepCount_28 ?_
      refine pt_topi (nI (z + 4)) (nI_add z 4) ?_
      refine lv_goto (tgt := 33) hx hb dX7_stepCount_29 (by decide) ?_
      exact W.iret (v := nI (z + 4)) hx hb hr (fun t ht hW => ⟨nI (z + 4), rfl, ⟨z + 4, by omega, by omega, rfl⟩, ht⟩) (fun q h => by cases h) dX7_stepCount_33
set_option maxHeartbeats 4000000 in
set_option maxRecDepth 100000 in
theorem s_cellToFetch (l : Launch) (dC : Nat → ClassId) (dI : Nat → Nat → Nat) (sz : Nat) (x rk ba od j ap : Nat) (li pw rs tm : Int32) (sr : Nat) (hd jm : Nat) (cI cZ : ClassId) (fh fj : Nat → Int32) (b0 b1 : Nat) (cB : ClassId) (bd0 bt0 bp0 bk0 bf0 bc0 bd1 bt1 bp1 bk1 bf1 bc1 : Int32) (ts bs ks : Nat) (c1 c2 c3 : ClassId) (ft fb fk : Nat → Int32) (n : Nat) (pl : Nat) (jo jc js jt : Int32) (pf pg : Nat) (c4 c5 : ClassId) (ff fg : Nat → Int32) (pz : Int32) (k : Nat) (hn : n ≤ 24) (hk0 : k < n) (h1 : ∀ i, sB (fb i)) (h5 : ∀ i, sC (ff i)) (h6 : ∀ i, sC (fg i)) (hz : sP pz) : Met l yX7_cellToFetchFrom wsX7_cellToFetchFrom ({ frames := 4, cells := 0, slots := 0, locals := 90 }) (va_Pc [.ref x, .int (nI k)] (pt_BQ (dC, dI) [(x, .inr (5, [.ref rk, .ref ba, .ref od, .ref j, .ref ap, .int li, .int pw, .int rs, .int tm, .int (nI sr)])), (rk, .inr (4, [.ref hd, .ref jm])), (hd, .inl (cI, 96, .inl fh)), (jm, .inl (cZ, 4, .inl fj)), (ba, .inl (cB, 2, .inr (.inr (.inr (.inr (va_up (va_up (fun _ => none) 0 (some b0)) 1 (some b1))))))), (b0, .inr (0, [.int bd0, .int bt0, .int bp0, .int bk0, .int bf0, .int bc0])), (b1, .inr (0, [.int bd1, .int bt1, .int bp1, .int bk1, .int bf1, .int bc1])), (od, .inr (2, [.ref ts, .ref bs, .ref ks, .int (nI n)])), (ts, .inl (c1, 24, .inl ft)), (bs, .inl (c2, 24, .inl fb)), (ks, .inl (c3, 24, .inl fk)), (j, .inr (1, [.ref pl, .int jo, .int jc, .int js, .int jt])), (pl, .inr (3, [.ref pf, .ref pg, .int pz])), (pf, .inl (c4, 2, .inl ff)), (pg, .inl (c5, 2, .inl fg))] [(cI, .int), (cZ, .boolean), (cB, .object "ParkTower$Bay"), (c1, .int), (c2, .int), (c3, .int), (c4, .int), (c5, .int)] sz)) (va_Qi (fun (r : Int32) (u : Int32 × (Nat → Int32) × (Nat → Int32)) => sK r ∧ sP u.1 ∧ (∀ i, sC (u.2.1 i)) ∧ (∀ i, sC (u.2.2 i))) (fun u t => pt_at (dC, dI) (va_A [(x, .inr (5, [.ref rk, .ref ba, .ref od, .ref j, .ref ap, .int li, .int pw, .int rs, .int tm, .int (nI sr)])), (rk, .inr (4, [.ref hd, .ref jm])), (hd, .inl (cI, 96, .inl fh)), (jm, .inl (cZ, 4, .inl fj)), (ba, .inl (cB, 2, .inr (.inr (.inr (.inr (va_up (va_up (fun _ => none) 0 (some b0)) 1 (some b1))))))), (b0, .inr (0, [.int bd0, .int bt0, .int bp0, .int bk0, .int bf0, .int bc0])), (b1, .inr (0, [.int bd1, .int bt1, .int bp1, .int bk1, .int bf1, .int bc1])), (od, .inr (2, [.ref ts, .ref bs, .ref ks, .int (nI n)])), (ts, .inl (c1, 24, .inl ft)), (bs, .inl (c2, 24, .inl fb)), (ks, .inl (c3, 24, .inl fk)), (j, .inr (1, [.ref pl, .int jo, .int jc, .int js, .int jt])), (pl, .inr (3, [.ref pf, .ref pg, .int pz])), (pf, .inl (c4, 2, .inl ff)), (pg, .inl (c5, 2, .inl fg))] sz) [(x, .inr (5, [.ref rk, .ref ba, .ref od, .ref j, .ref ap, .int li, .int pw, .int rs, .int tm, .int (nI sr)])), (rk, .inr (4, [.ref hd, .ref jm])), (hd, .inl (cI, 96, .inl fh)), (jm, .inl (cZ, 4, .inl fj)), (ba, .inl (cB, 2, .inr (.inr (.inr (.inr (va_up (va_up (fun _ => none) 0 (some b0)) 1 (some b1))))))), (b0, .inr (0, [.int bd0, .int bt0, .int bp0, .int bk0, .int bf0, .int bc0])), (b1, .inr (0, [.int bd1, .int bt1, .int bp1, .int bk1, .int bf1, .int bc1])), (od, .inr (2, [.ref ts, .ref bs, .ref ks, .int (nI n)])), (ts, .inl (c1, 24, .inl ft)), (bs, .inl (c2, 24, .inl fb)), (ks, .inl (c3, 24, .inl fk)), (j, .inr (1, [.ref pl, .int jo, .int jc, .int js, .int jt])), (pl, .inr (3, [.ref pf, .ref pg, .int u.1])), (pf, .inl (c4, 2, .inl u.2.1)), (pg, .inl (c5, 2, .inl u.2.2))] [] t) (va_A [(x, .inr (5, [.ref rk, .ref ba, .ref od, .ref j, .ref ap, .int li, .int pw, .int rs, .int tm, .int (nI sr)])), (rk, .inr (4, [.ref hd, .ref jm])), (hd, .inl (cI, 96, .inl fh)), (jm, .inl (cZ, 4, .inl fj)), (ba, .inl (cB, 2, .inr (.inr (.inr (.inr (va_up (va_up (fun _ => none) 0 (some b0)) 1 (some b1))))))), (b0, .inr (0, [.int bd0, .int bt0, .int bp0, .int bk0, .int bf0, .int bc0])), (b1, .inr (0, [.int bd1, .int bt1, .int bp1, .int bk1, .int bf1, .int bc1])), (od, .inr (2, [.ref ts, .ref bs, .ref ks, .int (nI n)])), (ts, .inl (c1, 24, .inl ft)), (bs, .inl (c2, 24, .inl fb)), (ks, .inl (c3, 24, .inl fk)), (j, .inr (1, [.ref pl, .int jo, .int jc, .int js, .int jt])), (pl, .inr (3, [.ref pf, .ref pg, .int pz])), (pf, .inl (c4, 2, .inl ff)), (pg, .inl (c5, 2, .inl fg))] sz)) 0 0 (va_A [(x, .inr (5, [.ref rk, .ref ba, .ref od, .ref j, .ref ap, .int li, .int pw, .int rs, .int tm, .int (nI sr)])), (rk, .inr (4, [.ref hd, .ref jm])), (hd, .inl (cI, 96, .inl fh)), (jm, .inl (cZ, 4, .inl fj)), (ba, .inl (cB, 2, .inr (.inr (.inr (.inr (va_up (va_up (fun _ => none) 0 (some b0)) 1 (some b1))))))), (b0, .inr (0, [.int bd0, .int bt0, .int bp0, .int bk0, .int bf0, .int bc0])), (b1, .inr (0, [.int bd1, .int bt1, .int bp1, .int bk1, .int bf1, .int bc1])), (od, .inr (2, [.ref ts, .ref bs, .ref ks, .int (nI n)])), (ts, .inl (c1, 24, .inl ft)), (bs, .inl (c2, 24, .inl fb)), (ks, .inl (c3, 24, .inl fk)), (j, .inr (1, [.ref pl, .int jo, .int jc, .int js, .int jt])), (pl, .inr (3, [.ref pf, .ref pg, .int pz])), (pf, .inl (c4, 2, .inl ff)), (pg, .inl (c5, 2, .inl fg))] sz) := by
  refine Met.ofW (cc := cX7_cellToFetchFrom) (maxL := 4) (ret := (some .int)) (by decide) rfl ?_
  intro p e s m args below meth c s₁ B hml hv
  obtain ⟨rfl, hsz, hP, hK, hD0, hN⟩ := hv
  have hx := B.exec
  have hb := B.bytes
  have hr := B.returns
  have hts := atoms_spec (ws := wsX7_cellToFetchFrom) B.pre
  have hown : s.vm.findClass RX7 = some m.cls := findClass_of_methodNamed B.named
  have hlocks := B.notSynchronized
  have iX1 : ∀ w ∈ wsX10, w ∈ wsX7_cellToFetchFrom := by decide +kernel
  have iX2 : ∀ w ∈ wsX20, w ∈ wsX7_cellToFetchFrom := by decide +kernel
  have iX3 : ∀ w ∈ wsX30, w ∈ wsX7_cellToFetchFrom := by decide +kernel
  have iX5 : ∀ w ∈ wsX50, w ∈ wsX7_cellToFetchFrom := by decide +kernel
  have iX7 : ∀ w ∈ wsX70, w ∈ wsX7_cellToFetchFrom := by decide +kernel
  subst hsz
  have hD := hD0.self (sz := s.heap.size)
  generalize hAe : va_A [(x, .inr (5, [.ref rk, .ref ba, .ref od, .ref j, .ref ap, .int li, .int pw, .int rs, .int tm, .int (nI sr)])), (rk, .inr (4, [.ref hd, .ref jm])), (hd, .inl (cI, 96, .inl fh)), (jm, .inl (cZ, 4, .inl fj)), (ba, .inl (cB, 2, .inr (.inr (.inr (.inr (va_up (va_up (fun _ => none) 0 (some b0)) 1 (some b1))))))), (b0, .inr (0, [.int bd0, .int bt0, .int bp0, .int bk0, .int bf0, .int bc0])), (b1, .inr (0, [.int bd1, .int bt1, .int bp1, .int bk1, .int bf1, .int bc1])), (od, .inr (2, [.ref ts, .ref bs, .ref ks, .int (nI n)])), (ts, .inl (c1, 24, .inl ft)), (bs, .inl (c2, 24, .inl fb)), (ks, .inl (c3, 24, .inl fk)), (j, .inr (1, [.ref pl, .int jo, .int jc, .int js, .int jt])), (pl, .inr (3, [.ref pf, .ref pg, .int pz])), (pf, .inl (c4, 2, .inl ff)), (pg, .inl (c5, 2, .inl fg))] s.heap.size = A at hD ⊢
  have hA : ∀ q : Nat, s.heap.size ≤ q → A q := fun q h => by rw [← hAe]; exact Or.inr h
  have hS : va_S A s.heap s.heap [] := va_S.rf
  have hP : va_P (dC, dI) vwCl [(x, .inr (5, [.ref rk, .ref ba, .ref od, .ref j, .ref ap, .int li, .int pw, .int rs, .int tm, .int (nI sr)])), (rk, .inr (4, [.ref hd, .ref jm])), (hd, .inl (cI, 96, .inl fh)), (jm, .inl (cZ, 4, .inl fj)), (ba, .inl (cB, 2, .inr (.inr (.inr (.inr (va_up (va_up (fun _ => none) 0 (some b0)) 1 (some b1))))))), (b0, .inr (0, [.int bd0, .int bt0, .int bp0, .int bk0, .int bf0, .int bc0])), (b1, .inr (0, [.int bd1, .int bt1, .int bp1, .int bk1, .int bf1, .int bc1])), (od, .inr (2, [.ref ts, .ref bs, .ref ks, .int (nI n)])), (ts, .inl (c1, 24, .inl ft)), (bs, .inl (c2, 24, .inl fb)), (ks, .inl (c3, 24, .inl fk)), (j, .inr (1, [.ref pl, .int jo, .int jc, .int js, .int jt])), (pl, .inr (3, [.ref pf, .ref pg, .int pz])), (pf, .inl (c4, 2, .inl ff)), (pg, .inl (c5, 2, .inl fg))] s.heap := hP
  have hK : va_K (dC, dI) vwCl [(cI, .int), (cZ, .boolean), (cB, .object "ParkTower$Bay"), (c1, .int), (c2, .int), (c3, .int), (c4, .int), (c5, .int)] s := hK
  have hl := lv_entry ([.ref x, .int (nI k)]) (n := 4) (Nat.le_of_ble_eq_true rfl)
  rw [lg_entry_eq]
  generalize (lg_sl ([.ref x, .int (nI k)]) ++ List.replicate (4 - (lg_sl ([.ref x, .int (nI k)])).length) Slot.unset).toArray = ls at hl ⊢
  have hl : lv_has ls 4 [(0, .ref x), (1, .int (nI k))] := hl
  refine lv_aload_n hx hb dX7_cellToFetchFrom_0 rfl (lv_at hl 0 rfl) ?_
  refine va_get (D := (dC, dI)) (ci := 5) (v := .ref ba) (C := RX7) (T := TX7) (N := 10) hx hb hts iX7 hown hK hP 0 rfl rfl 1 (by decide) (hts (.fieldLink RX7 18 "ParkTower" "bays" "[LParkTower$Bay;") (by decide +kernel)) (fun _ h9 => h9) rfl dX7_cellToFetchFrom_1 ?_
  refine lv_aload_n hx hb dX7_cellToFetchFrom_4 rfl (lv_at hl 0 rfl) ?_
  refine va_get (D := (dC, dI)) (ci := 5) (v := .ref od) (C := RX7) (T := TX7) (N := 10) hx hb hts iX7 hown hK hP 0 rfl rfl 2 (by decide) (hts (.fieldLink RX7 26 "ParkTower" "orders" "LParkTower$Orders;") (by decide +kernel)) (fun _ h9 => h9) rfl dX7_cellToFetchFrom_5 ?_
  refine va_getN (D := (dC, dI)) (ci := 2) (v := .ref bs) (C := RX3) (T := TX3) (N := 4) hx hb hts iX3 hown hK hP 7 rfl rfl 1 (by decide) (va_Nw.use rfl (hN.1 (.fieldLinkNest RX7 246 "ParkTower$Orders" "bays" "[I" "ParkTower") (by decide +kernel))) (fun _ h9 => h9) rfl dX7_cellToFetchFrom_8 ?_
  refine lv_iload_n hx hb dX7_cellToFetchFrom_11 rfl (lv_at hl 1 rfl) ?_
  refine va_iald hx hb hK hP 9 4 rfl rfl (vp_in_nI (n := k) (by omega) (by decide)) dX7_cellToFetchFrom_12 ?_
  refine lv_topi (fun a_1 ea_1 => ?_)
  rcases (show sB a_1 by rw [ea_1]; exact h1 _) with rfl | rfl
  · skip
    refine va_aldq hx hb hK hP 4 2 rfl rfl (vp_in_iff.mpr (by decide)) dX7_cellToFetchFrom_13 ?_
    refine W.eq (g2 := F0 m 14 ls [.ref b0]) rfl ?_
    refine lv_astore_n (lv' := [(2, .ref b0), (0, .ref x), (1, .int (nI k))]) hx hb dX7_cellToFetchFrom_14 rfl hl (by decide) rfl (fun ls hl => ?_)
    refine lv_aload_n hx hb dX7_cellToFetchFrom_15 rfl (lv_at hl 0 rfl) ?_
    refine va_getN (D := (dC, dI)) (ci := 0) (v := .int bk0) (C := RX1) (T := TX1) (N := 6) hx hb hts iX1 hown hK hP 5 rfl rfl 3 (by decide) (va_Nw.use rfl (hN.1 (.fieldLinkNest RX7 55 "ParkTower$Bay" "ticket" "I" "ParkTower") (by decide +kernel))) (fun _ h9 => h9) rfl dX7_cellToFetchFrom_16 ?_
    refine lv_if_ne (tgt := 29) hx hb dX7_cellToFetchFrom_19 (by decide) (fun c_2 => ?_) (fun c_2 => ?_)
    · have c_2 : ¬ (bk0 = 0) := c_2
      refine lv_iconst (v := (-1)) hx hb dX7_cellToFetchFrom_29 (by decide) ?_
      have hP9 := hP.sub (ws' := [(x, .inr (5, [.ref rk, .ref ba, .ref od, .ref j, .ref ap, .int li, .int pw, .int rs, .int tm, .int (nI sr)])), (rk, .inr (4, [.ref hd, .ref jm])), (hd, .inl (cI, 96, .inl fh)), (jm, .inl (cZ, 4, .inl fj)), (ba, .inl (cB, 2, .inr (.inr (.inr (.inr (va_up (va_up (fun _ => none) 0 (some b0)) 1 (some b1))))))), (b0, .inr (0, [.int bd0, .int bt0, .int bp0, .int bk0, .int bf0, .int bc0])), (b1, .inr (0, [.int bd1, .int bt1, .int bp1, .int bk1, .int bf1, .int bc1])), (od, .inr (2, [.ref ts, .ref bs, .ref ks, .int (nI n)])), (ts, .inl (c1, 24, .inl ft)), (bs, .inl (c2, 24, .inl fb)), (ks, .inl (c3, 24, .inl fk)), (j, .inr (1, [.ref pl, .int jo, .int jc, .int js, .int jt])), (pl, .inr (3, [.ref pf, .ref pg, .int pz])), (pf, .inl (c4, 2, .inl ff)), (pg, .inl (c5, 2, .inl fg))]) [0, 1, 2, 3, 4, 5, 6, 7, 8, 9, 10, 11, 12, 13, 14] rfl
      have hD9 := hD.sub (ws' := [(x, .inr (5, [.ref rk, .ref ba, .ref od, .ref j, .ref ap, .int li, .int pw, .int rs, .int tm, .int (nI sr)])), (rk, .inr (4, [.ref hd, .ref jm])), (hd, .inl (cI, 96, .inl fh)), (jm, .inl (cZ, 4, .inl fj)), (ba, .inl (cB, 2, .inr (.inr (.inr (.inr (va_up (va_up (fun _ => none) 0 (some b0)) 1 (some b1))))))), (b0, .inr (0, [.int bd0, .int bt0, .int bp0, .int bk0, .int bf0, .int bc0])), (b1, .inr (0, [.int bd1, .int bt1, .int bp1, .int bk1, .int bf1, .int bc1])), (od, .inr (2, [.ref ts, .ref bs, .ref ks, .int (nI n)])), (ts, .inl (c1, 24, .inl ft)), (bs, .inl (c2, 24, .inl fb)), (ks, .inl (c3, 24, .inl fk)), (j, .inr (1, [.ref pl, .int jo, .int jc, .int js, .int jt])), (pl, .inr (3, [.ref pf, .ref pg, .int pz])), (pf, .inl (c4, 2, .inl ff)), (pg, .inl (c5, 2, .inl fg))]) [0, 1, 2, 3, 4, 5, 6, 7, 8, 9, 10, 11, 12, 13, 14] (by decide) rfl
      have hK9 := hK.sub (tys' := []) [] rfl
      refine W.widen (k := 0) (n := 0) (by omega) (by omega) ?_
      exact W.iret (v := (-1)) hx hb hr (fun t ht hW => ⟨⟨(-1), (pz, ff, fg), rfl, ⟨Or.inl rfl, hz, h5, h6⟩, by rw [ht]; exact hP9, va_K.moved hW.alike hK9, hD9⟩, hS.F ht⟩) hS.2.2 dX7_cellToFetchFrom_30
    · have c_2 : (bk0 = 0) := c_2
      refine lv_aload_n hx hb dX7_cellToFetchFrom_22 rfl (lv_at hl 0 rfl) ?_
      refine pt_cSi (va_runV (As := []) (rest := []) ⟨hx, hb, hml, hown, hts⟩ (s_isSafe l dC dI b0 bd0 bt0 bp0 bk0 bf0 bc0) (cwV 0 hts gX7_cellToFetchFrom_X1_isSafe rfl rfl rfl (by decide +kernel) ⟨Nat.le_of_ble_eq_true rfl, Nat.le_of_ble_eq_true rfl⟩) ⟨pt_blind, va_recv hK hP (ci := 0) (q0 := 5) rfl rfl, pt_pre (w := [(b0, .inr (0, [.int bd0, .int bt0, .int bp0, .int bk0, .int bf0, .int bc0]))]) (tys := []) (hP.sub [5] rfl) (hK.sub [] rfl) hN⟩ rfl rfl hl.1 rfl (lv_room (Nat.le_of_ble_eq_true rfl)) dX7_cellToFetchFrom_23 ⟨Nat.le_of_ble_eq_true rfl, Nat.le_of_ble_eq_true rfl⟩) (fun r_3 hr_3 => ?_)
      rcases hr_3 with rfl | rfl
      · skip
        refine lv_if_ne (tgt := 31) hx hb dX7_cellToFetchFrom_26 (by decide) (fun c => absurd (by decide) c) (fun _ => ?_)
        refine lv_iconst (v := (-1)) hx hb dX7_cellToFetchFrom_29 (by decide) ?_
        have hP9 := hP.sub (ws' := [(x, .inr (5, [.ref rk, .ref ba, .ref od, .ref j, .ref ap, .int li, .int pw, .int rs, .int tm, .int (nI sr)])), (rk, .inr (4, [.ref hd, .ref jm])), (hd, .inl (cI, 96, .inl fh)), (jm, .inl (cZ, 4, .inl fj)), (ba, .inl (cB, 2, .inr (.inr (.inr (.inr (va_up (va_up (fun _ => none) 0 (some b0)) 1 (some b1))))))), (b0, .inr (0, [.int bd0, .int bt0, .int bp0, .int bk0, .int bf0, .int bc0])), (b1, .inr (0, [.int bd1, .int bt1, .int bp1, .int bk1, .int bf1, .int bc1])), (od, .inr (2, [.ref ts, .ref bs, .ref ks, .int (nI n)])), (ts, .inl (c1, 24, .inl ft)), (bs, .inl (c2, 24, .inl fb)), (ks, .inl (c3, 24, .inl fk)), (j, .inr (1, [.ref pl, .int jo, .int jc, .int js, .int jt])), (pl, .inr (3, [.ref pf, .ref pg, .int pz])), (pf, .inl (c4, 2, .inl ff)), (pg, .inl (c5, 2, .inl fg))]) [0, 1, 2, 3, 4, 5, 6, 7, 8, 9, 10, 11, 12, 13, 14] rfl
        have hD9 := hD.sub (ws' := [(x, .inr (5, [.ref rk, .ref ba, .ref od, .ref j, .ref ap, .int li, .int pw, .int rs, .int tm, .int (nI sr)])), (rk, .inr (4, [.ref hd, .ref jm])), (hd, .inl (cI, 96, .inl fh)), (jm, .inl (cZ, 4, .inl fj)), (ba, .inl (cB, 2, .inr (.inr (.inr (.inr (va_up (va_up (fun _ => none) 0 (some b0)) 1 (some b1))))))), (b0, .inr (0, [.int bd0, .int bt0, .int bp0, .int bk0, .int bf0, .int bc0])), (b1, .inr (0, [.int bd1, .int bt1, .int bp1, .int bk1, .int bf1, .int bc1])), (od, .inr (2, [.ref ts, .ref bs, .ref ks, .int (nI n)])), (ts, .inl (c1, 24, .inl ft)), (bs, .inl (c2, 24, .inl fb)), (ks, .inl (c3, 24, .inl fk)), (j, .inr (1, [.ref pl, .int jo, .int jc, .int js, .int jt])), (pl, .inr (3, [.ref pf, .ref pg, .int pz])), (pf, .inl (c4, 2, .inl ff)), (pg, .inl (c5, 2, .inl fg))]) [0, 1, 2, 3, 4, 5, 6, 7, 8, 9, 10, 11, 12, 13, 14] (by decide) rfl
        have hK9 := hK.sub (tys' := []) [] rfl
        refine W.widen (k := 0) (n := 0) (by omega) (by omega) ?_
        exact W.iret (v := (-1)) hx hb hr (fun t ht hW => ⟨⟨(-1), (pz, ff, fg), rfl, ⟨Or.inl rfl, hz, h5, h6⟩, by rw [ht]; exact hP9, va_K.moved hW.alike hK9, hD9⟩, hS.F ht⟩) hS.2.2 dX7_cellToFetchFrom_30
      · skip
        refine lv_if_ne (tgt := 31) hx hb dX7_cellToFetchFrom_26 (by decide) (fun _ => ?_) (fun c => absurd c (by decide))
        refine lv_aload_n hx hb dX7_cellToFetchFrom_31 rfl (lv_at hl 1 rfl) ?_
        refine va_get (D := (dC, dI)) (ci := 5) (v := .ref rk) (C := RX7) (T := TX7) (N := 10) hx hb hts iX7 hown hK hP 0 rfl rfl 0 (by decide) (hts (.fieldLink RX7 10 "ParkTower" "rack" "LParkTower$Rack;") (by decide +kernel)) (fun _ h9 => h9) rfl dX7_cellToFetchFrom_32 ?_
        refine lv_aload_n hx hb dX7_cellToFetchFrom_35 rfl (lv_at hl 1 rfl) ?_
        refine va_get (D := (dC, dI)) (ci := 5) (v := .ref od) (C := RX7) (T := TX7) (N := 10) hx hb hts iX7 hown hK hP 0 rfl rfl 2 (by decide) (hts (.fieldLink RX7 26 "ParkTower" "orders" "LParkTower$Orders;") (by decide +kernel)) (fun _ h9 => h9) rfl dX7_cellToFetchFrom_36 ?_
        refine va_getN (D := (dC, dI)) (ci := 2) (v := .ref ts) (C := RX3) (T := TX3) (N := 4) hx hb hts iX3 hown hK hP 7 rfl rfl 0 (by decide) (va_Nw.use rfl (hN.1 (.fieldLinkNest RX7 167 "ParkTower$Orders" "tickets" "[I" "ParkTower") (by decide +kernel))) (fun _ h9 => h9) rfl dX7_cellToFetchFrom_39 ?_
        refine lv_iload_n hx hb dX7_cellToFetchFrom_42 rfl (lv_at hl 2 rfl) ?_
        refine va_iald hx hb hK hP 8 3 rfl rfl (vp_in_nI (n := k) (by omega) (by decide)) dX7_cellToFetchFrom_43 ?_
        refine lv_topi (fun a_4 ea_4 => ?_)
        refine pt_cSi (va_runV (As := [.int a_4]) (rest := []) ⟨hx, hb, hml, hown, hts⟩ (s_find l dC dI rk hd jm cI fh a_4) (cwV 1 hts gX7_cellToFetchFrom_X5_find rfl rfl rfl (by decide +kernel) ⟨Nat.le_of_ble_eq_true rfl, Nat.le_of_ble_eq_true rfl⟩) ⟨pt_blind, va_recv hK hP (ci := 4) (q0 := 1) rfl rfl, pt_pre (w := [(rk, .inr (4, [.ref hd, .ref jm])), (hd, .inl (cI, 96, .inl fh))]) (tys := [(cI, .int)]) (hP.sub [1, 2] rfl) (hK.sub [0] rfl) hN⟩ rfl rfl hl.1 rfl (lv_room (Nat.le_of_ble_eq_true rfl)) dX7_cellToFetchFrom_44 ⟨Nat.le_of_ble_eq_true rfl, Nat.le_of_ble_eq_true rfl⟩) (fun r_5 hr_5 => ?_)
        rcases hr_5 with rfl | ⟨j_5, hj_5, rfl⟩
        · skip
          refine lv_istore_n (lv' := [(3, .int (-1)), (2, .ref b0), (0, .ref x), (1, .int (nI k))]) hx hb dX7_cellToFetchFrom_47 rfl hl (by decide) rfl (fun ls hl => ?_)
          refine lv_iload_n hx hb dX7_cellToFetchFrom_48 rfl (lv_at hl 0 rfl) ?_
          refine lv_iconst (v := (-1)) hx hb dX7_cellToFetchFrom_49 (by decide) ?_
          refine lv_icmp_eq (tgt := 86) hx hb dX7_cellToFetchFrom_50 (by decide) (fun _ => ?_) (fun c => absurd (by decide) c)
          refine lv_iconst (v := (-1)) hx hb dX7_cellToFetchFrom_86 (by decide) ?_
          have hP9 := hP.sub (ws' := [(x, .inr (5, [.ref rk, .ref ba, .ref od, .ref j, .ref ap, .int li, .int pw, .int rs, .int tm, .int (nI sr)])), (rk, .inr (4, [.ref hd, .ref jm])), (hd, .inl (cI, 96, .inl fh)), (jm, .inl (cZ, 4, .inl fj)), (ba, .inl (cB, 2, .inr (.inr (.inr (.inr (va_up (va_up (fun _ => none) 0 (some b0)) 1 (some b1))))))), (b0, .inr (0, [.int bd0, .int bt0, .int bp0, .int bk0, .int bf0, .int bc0])), (b1, .inr (0, [.int bd1, .int bt1, .int bp1, .int bk1, .int bf1, .int bc1])), (od, .inr (2, [.ref ts, .ref bs, .ref ks, .int (nI n)])), (ts, .inl (c1, 24, .inl ft)), (bs, .inl (c2, 24, .inl fb)), (ks, .inl (c3, 24, .inl fk)), (j, .inr (1, [.ref pl, .int jo, .int jc, .int js, .int jt])), (pl, .inr (3, [.ref pf, .ref pg, .int pz])), (pf, .inl (c4, 2, .inl ff)), (pg, .inl (c5, 2, .inl fg))]) [0, 1, 2, 3, 4, 5, 6, 7, 8, 9, 10, 11, 12, 13, 14] rfl
          have hD9 := hD.sub (ws' := [(x, .inr (5, [.ref rk, .ref ba, .ref od, .ref j, .ref ap, .int li, .int pw, .int rs, .int tm, .int (nI sr)])), (rk, .inr (4, [.ref hd, .ref jm])), (hd, .inl (cI, 96, .inl fh)), (jm, .inl (cZ, 4, .inl fj)), (ba, .inl (cB, 2, .inr (.inr (.inr (.inr (va_up (va_up (fun _ => none) 0 (some b0)) 1 (some b1))))))), (b0, .inr (0, [.int bd0, .int bt0, .int bp0, .int bk0, .int bf0, .int bc0])), (b1, .inr (0, [.int bd1, .int bt1, .int bp1, .int bk1, .int bf1, .int bc1])), (od, .inr (2, [.ref ts, .ref bs, .ref ks, .int (nI n)])), (ts, .inl (c1, 24, .inl ft)), (bs, .inl (c2, 24, .inl fb)), (ks, .inl (c3, 24, .inl fk)), (j, .inr (1, [.ref pl, .int jo, .int jc, .int js, .int jt])), (pl, .inr (3, [.ref pf, .ref pg, .int pz])), (pf, .inl (c4, 2, .inl ff)), (pg, .inl (c5, 2, .inl fg))]) [0, 1, 2, 3, 4, 5, 6, 7, 8, 9, 10, 11, 12, 13, 14] (by decide) rfl
          have hK9 := hK.sub (tys' := []) [] rfl
          refine W.widen (k := 0) (n := 0) (by omega) (by omega) ?_
          exact W.iret (v := (-1)) hx hb hr (fun t ht hW => ⟨⟨(-1), (pz, ff, fg), rfl, ⟨Or.inl rfl, hz, h5, h6⟩, by rw [ht]; exact hP9, va_K.moved hW.alike hK9, hD9⟩, hS.F ht⟩) hS.2.2 dX7_cellToFetchFrom_87
        · have cm_5 : ¬ (nI j_5 = (-1)) := pt_nIm (by omega)
          refine lv_istore_n (lv' := [(3, .int (nI j_5)), (2, .ref b0), (0, .ref x), (1, .int (nI k))]) hx hb dX7_cellToFetchFrom_47 rfl hl (by decide) rfl (fun ls hl => ?_)
          refine lv_iload_n hx hb dX7_cellToFetchFrom_48 rfl (lv_at hl 0 rfl) ?_
          refine lv_iconst (v := (-1)) hx hb dX7_cellToFetchFrom_49 (by decide) ?_
          refine lv_icmp_eq (tgt := 86) hx hb dX7_cellToFetchFrom_50 (by decide) (fun c => absurd c (by assumption)) (fun _ => ?_)
          refine lv_aload_n hx hb dX7_cellToFetchFrom_53 rfl (lv_at hl 2 rfl) ?_
          refine va_get (D := (dC, dI)) (ci := 5) (v := .ref rk) (C := RX7) (T := TX7) (N := 10) hx hb hts iX7 hown hK hP 0 rfl rfl 0 (by decide) (hts (.fieldLink RX7 10 "ParkTower" "rack" "LParkTower$Rack;") (by decide +kernel)) (fun _ h9 => h9) rfl dX7_cellToFetchFrom_54 ?_
          refine va_getN (D := (dC, dI)) (ci := 4) (v := .ref jm) (C := RX5) (T := TX5) (N := 2) hx hb hts iX5 hown hK hP 1 rfl rfl 1 (by decide) (va_Nw.use rfl (hN.1 (.fieldLinkNest RX7 126 "ParkTower$Rack" "jammed" "[Z" "ParkTower") (by decide +kernel))) (fun _ h9 => h9) rfl dX7_cellToFetchFrom_57 ?_
          refine lv_iload_n hx hb dX7_cellToFetchFrom_60 rfl (lv_at hl 0 rfl) ?_
          refine pt_cSi (va_runS (As := [.int (nI j_5)]) (rest := [.ref jm]) ⟨hx, hb, hml, hown, hts⟩ (s_levelOf l dC dI j_5 (by omega)) (cwS 1 hts gX7_cellToFetchFrom_X7_levelOf rfl rfl rfl (by decide +kernel) ⟨Nat.le_of_ble_eq_true rfl, Nat.le_of_ble_eq_true rfl⟩) ⟨pt_blind, pt_pre (w := []) (tys := []) (hP.sub [] rfl) (hK.sub [] rfl) hN⟩ rfl rfl hl.1 rfl (lv_room (Nat.le_of_ble_eq_true rfl)) dX7_cellToFetchFrom_61 ⟨Nat.le_of_ble_eq_true rfl, Nat.le_of_ble_eq_true rfl⟩) (fun r_6 hr_6 => ?_)
          obtain rfl : r_6 = nI (j_5 / 24) := hr_6
          refine va_zald hx hb hK hP 3 1 rfl rfl (vp_in_nI (n := j_5 / 24) (by omega) (by decide)) dX7_cellToFetchFrom_64 ?_
          refine lv_topi (fun a_7 ea_7 => ?_)
          refine lv_if_ne (tgt := 86) hx hb dX7_cellToFetchFrom_65 (by decide) (fun c_8 => ?_) (fun c_8 => ?_)
          · have c_8 : ¬ (a_7 = 0) := c_8
            refine lv_iconst (v := (-1)) hx hb dX7_cellToFetchFrom_86 (by decide) ?_
            have hP9 := hP.sub (ws' := [(x, .inr (5, [.ref rk, .ref ba, .ref od, .ref j, .ref ap, .int li, .int pw, .int rs, .int tm, .int (nI sr)])), (rk, .inr (4, [.ref hd, .ref jm])), (hd, .inl (cI, 96, .inl fh)), (jm, .inl (cZ, 4, .inl fj)), (ba, .inl (cB, 2, .inr (.inr (.inr (.inr (va_up (va_up (fun _ => none) 0 (some b0)) 1 (some b1))))))), (b0, .inr (0, [.int bd0, .int bt0, .int bp0, .int bk0, .int bf0, .int bc0])), (b1, .inr (0, [.int bd1, .int bt1, .int bp1, .int bk1, .int bf1, .int bc1])), (od, .inr (2, [.ref ts, .ref bs, .ref ks, .int (nI n)])), (ts, .inl (c1, 24, .inl ft)), (bs, .inl (c2, 24, .inl fb)), (ks, .inl (c3, 24, .inl fk)), (j, .inr (1, [.ref pl, .int jo, .int jc, .int js, .int jt])), (pl, .inr (3, [.ref pf, .ref pg, .int pz])), (pf, .inl (c4, 2, .inl ff)), (pg, .inl (c5, 2, .inl fg))]) [0, 1, 2, 3, 4, 5, 6, 7, 8, 9, 10, 11, 12, 13, 14] rfl
            have hD9 := hD.sub (ws' := [(x, .inr (5, [.ref rk, .ref ba, .ref od, .ref j, .ref ap, .int li, .int pw, .int rs, .int tm, .int (nI sr)])), (rk, .inr (4, [.ref hd, .ref jm])), (hd, .inl (cI, 96, .inl fh)), (jm, .inl (cZ, 4, .inl fj)), (ba, .inl (cB, 2, .inr (.inr (.inr (.inr (va_up (va_up (fun _ => none) 0 (some b0)) 1 (some b1))))))), (b0, .inr (0, [.int bd0, .int bt0, .int bp0, .int bk0, .int bf0, .int bc0])), (b1, .inr (0, [.int bd1, .int bt1, .int bp1, .int bk1, .int bf1, .int bc1])), (od, .inr (2, [.ref ts, .ref bs, .ref ks, .int (nI n)])), (ts, .inl (c1, 24, .inl ft)), (bs, .inl (c2, 24, .inl fb)), (ks, .inl (c3, 24, .inl fk)), (j, .inr (1, [.ref pl, .int jo, .int jc, .int js, .int jt])), (pl, .inr (3, [.ref pf, .ref pg, .int pz])), (pf, .inl (c4, 2, .inl ff)), (pg, .inl (c5, 2, .inl fg))]) [0, 1, 2, 3, 4, 5, 6, 7, 8, 9, 10, 11, 12, 13, 14] (by decide) rfl
            have hK9 := hK.sub (tys' := []) [] rfl
            refine W.widen (k := 0) (n := 0) (by omega) (by omega) ?_
            exact W.iret (v := (-1)) hx hb hr (fun t ht hW => ⟨⟨(-1), (pz, ff, fg), rfl, ⟨Or.inl rfl, hz, h5, h6⟩, by rw [ht]; exact hP9, va_K.moved hW.alike hK9, hD9⟩, hS.F ht⟩) hS.2.2 dX7_cellToFetchFrom_87
          · have c_8 : (a_7 = 0) := c_8
            refine lv_aload_n hx hb dX7_cellToFetchFrom_68 rfl (lv_at hl 2 rfl) ?_
            refine va_get (D := (dC, dI)) (ci := 5) (v := .ref j) (C := RX7) (T := TX7) (N := 10) hx hb hts iX7 hown hK hP 0 rfl rfl 3 (by decide) (hts (.fieldLink RX7 33 "ParkTower" "job" "LParkTower$Job;") (by decide +kernel)) (fun _ h9 => h9) rfl dX7_cellToFetchFrom_69 ?_
            refine va_getN (D := (dC, dI)) (ci := 1) (v := .ref pl) (C := RX2) (T := TX2) (N := 5) hx hb hts iX2 hown hK hP 11 rfl rfl 0 (by decide) (va_Nw.use rfl (hN.1 (.fieldLinkNest RX7 251 "ParkTower$Job" "plan" "LParkTower$Plan;" "ParkTower") (by decide +kernel))) (fun _ h9 => h9) rfl dX7_cellToFetchFrom_72 ?_
            refine lv_aload_n hx hb dX7_cellToFetchFrom_75 rfl (lv_at hl 2 rfl) ?_
            refine va_get (D := (dC, dI)) (ci := 5) (v := .ref rk) (C := RX7) (T := TX7) (N := 10) hx hb hts iX7 hown hK hP 0 rfl rfl 0 (by decide) (hts (.fieldLink RX7 10 "ParkTower" "rack" "LParkTower$Rack;") (by decide +kernel)) (fun _ h9 => h9) rfl dX7_cellToFetchFrom_76 ?_
            refine lv_iload_n hx hb dX7_cellToFetchFrom_79 rfl (lv_at hl 0 rfl) ?_
            have hPc := hP.sub (ws' := [(pl, .inr (3, [.ref pf, .ref pg, .int pz])), (pf, .inl (c4, 2, .inl ff)), (pg, .inl (c5, 2, .inl fg)), (rk, .inr (4, [.ref hd, .ref jm])), (hd, .inl (cI, 96, .inl fh))]) [12, 13, 14, 1, 2] rfl
            have hDc := hD.sub (ws' := [(pl, .inr (3, [.ref pf, .ref pg, .int pz])), (pf, .inl (c4, 2, .inl ff)), (pg, .inl (c5, 2, .inl fg)), (rk, .inr (4, [.ref hd, .ref jm])), (hd, .inl (cI, 96, .inl fh))]) [12, 13, 14, 1, 2] (by decide) rfl
            have hKc := hK.sub (tys' := [(c4, .int), (c5, .int), (cI, .int)]) [6, 7, 0] rfl
            have hFc := va_free (wc := [(pl, .inr (3, [.ref pf, .ref pg, .int pz])), (pf, .inl (c4, 2, .inl ff)), (pg, .inl (c5, 2, .inl fg)), (rk, .inr (4, [.ref hd, .ref jm])), (hd, .inl (cI, 96, .inl fh))]) hD hS hA [12, 13, 14, 1, 2] rfl
            refine va_calli (va_runV (As := [.ref rk, .int (nI j_5)]) (rest := []) ⟨hx, hb, hml, hown, hts⟩ (s_make l dC dI _ pl pf pg c4 c5 ff fg rk hd jm cI fh j_5 pz (by omega) h5 h6) (cwV 2 hts gX7_cellToFetchFrom_X4_make rfl rfl rfl (by decide +kernel) ⟨Nat.le_of_ble_eq_true rfl, Nat.le_of_ble_eq_true rfl⟩) ⟨pt_blindQ, va_recv hK hP (ci := 3) (q0 := 12) rfl rfl, pt_preQ hPc hKc hDc hN⟩ rfl rfl hl.1 rfl (lv_room (Nat.le_of_ble_eq_true rfl)) dX7_cellToFetchFrom_80 ⟨Nat.le_of_ble_eq_true rfl, Nat.le_of_ble_eq_true rfl⟩) hS (fun q _ h => hFc q h) hFc (fun r_9 u_9 t H1 locs ht hvm hw_9 hB hz1 hk1 hS => ?_)
            obtain ⟨p_9, f_9, g_9⟩ := u_9
            obtain ⟨hP1, hK1, hD1⟩ := hB
            obtain ⟨hm_9, hp_9, hf_9, hg_9⟩ := hw_9
            rw [ht] at hP1
            have hK1 := va_K.moved hvm.symm hK1
            obtain ⟨hP, hD⟩ := va_join (wr := [(x, .inr (5, [.ref rk, .ref ba, .ref od, .ref j, .ref ap, .int li, .int pw, .int rs, .int tm, .int (nI sr)])), (jm, .inl (cZ, 4, .inl fj)), (ba, .inl (cB, 2, .inr (.inr (.inr (.inr (va_up (va_up (fun _ => none) 0 (some b0)) 1 (some b1))))))), (b0, .inr (0, [.int bd0, .int bt0, .int bp0, .int bk0, .int bf0, .int bc0])), (b1, .inr (0, [.int bd1, .int bt1, .int bp1, .int bk1, .int bf1, .int bc1])), (od, .inr (2, [.ref ts, .ref bs, .ref ks, .int (nI n)])), (ts, .inl (c1, 24, .inl ft)), (bs, .inl (c2, 24, .inl fb)), (ks, .inl (c3, 24, .inl fk)), (j, .inr (1, [.ref pl, .int jo, .int jc, .int js, .int jt]))]) (w1 := [(pl, .inr (3, [.ref pf, .ref pg, .int p_9])), (pf, .inl (c4, 2, .inl f_9)), (pg, .inl (c5, 2, .inl g_9)), (rk, .inr (4, [.ref hd, .ref jm])), (hd, .inl (cI, 96, .inl fh))]) hP hD [12, 13, 14, 1, 2] [0, 3, 4, 5, 6, 7, 8, 9, 10, 11] rfl rfl (by decide) (by decide) hk1 hFc hP1 hD1
            have hK := hK.app hK1
            generalize H1 = H at hP hS ⊢
            have hP : va_P (dC, dI) vwCl [(x, .inr (5, [.ref rk, .ref ba, .ref od, .ref j, .ref ap, .int li, .int pw, .int rs, .int tm, .int (nI sr)])), (jm, .inl (cZ, 4, .inl fj)), (ba, .inl (cB, 2, .inr (.inr (.inr (.inr (va_up (va_up (fun _ => none) 0 (some b0)) 1 (some b1))))))), (b0, .inr (0, [.int bd0, .int bt0, .int bp0, .int bk0, .int bf0, .int bc0])), (b1, .inr (0, [.int bd1, .int bt1, .int bp1, .int bk1, .int bf1, .int bc1])), (od, .inr (2, [.ref ts, .ref bs, .ref ks, .int (nI n)])), (ts, .inl (c1, 24, .inl ft)), (bs, .inl (c2, 24, .inl fb)), (ks, .inl (c3, 24, .inl fk)), (j, .inr (1, [.ref pl, .int jo, .int jc, .int js, .int jt])), (pl, .inr (3, [.ref pf, .ref pg, .int p_9])), (pf, .inl (c4, 2, .inl f_9)), (pg, .inl (c5, 2, .inl g_9)), (rk, .inr (4, [.ref hd, .ref jm])), (hd, .inl (cI, 96, .inl fh))] H := hP
            have hD : va_D A [(x, .inr (5, [.ref rk, .ref ba, .ref od, .ref j, .ref ap, .int li, .int pw, .int rs, .int tm, .int (nI sr)])), (jm, .inl (cZ, 4, .inl fj)), (ba, .inl (cB, 2, .inr (.inr (.inr (.inr (va_up (va_up (fun _ => none) 0 (some b0)) 1 (some b1))))))), (b0, .inr (0, [.int bd0, .int bt0, .int bp0, .int bk0, .int bf0, .int bc0])), (b1, .inr (0, [.int bd1, .int bt1, .int bp1, .int bk1, .int bf1, .int bc1])), (od, .inr (2, [.ref ts, .ref bs, .ref ks, .int (nI n)])), (ts, .inl (c1, 24, .inl ft)), (bs, .inl (c2, 24, .inl fb)), (ks, .inl (c3, 24, .inl fk)), (j, .inr (1, [.ref pl, .int jo, .int jc, .int js, .int jt])), (pl, .inr (3, [.ref pf, .ref pg, .int p_9])), (pf, .inl (c4, 2, .inl f_9)), (pg, .inl (c5, 2, .inl g_9)), (rk, .inr (4, [.ref hd, .ref jm])), (hd, .inl (cI, 96, .inl fh))] := hD
            have hK : va_K (dC, dI) vwCl [(cI, .int), (cZ, .boolean), (cB, .object "ParkTower$Bay"), (c1, .int), (c2, .int), (c3, .int), (c4, .int), (c5, .int)] s := hK
            refine lv_if_ne (tgt := 88) hx hb dX7_cellToFetchFrom_83 (by decide) (fun c_10 => ?_) (fun c_10 => ?_)
            · have c_10 : ¬ (r_9 = 0) := c_10
              refine lv_iload_n hx hb dX7_cellToFetchFrom_88 rfl (lv_at hl 0 rfl) ?_
              have hP9 := hP.sub (ws' := [(x, .inr (5, [.ref rk, .ref ba, .ref od, .ref j, .ref ap, .int li, .int pw, .int rs, .int tm, .int (nI sr)])), (rk, .inr (4, [.ref hd, .ref jm])), (hd, .inl (cI, 96, .inl fh)), (jm, .inl (cZ, 4, .inl fj)), (ba, .inl (cB, 2, .inr (.inr (.inr (.inr (va_up (va_up (fun _ => none) 0 (some b0)) 1 (some b1))))))), (b0, .inr (0, [.int bd0, .int bt0, .int bp0, .int bk0, .int bf0, .int bc0])), (b1, .inr (0, [.int bd1, .int bt1, .int bp1, .int bk1, .int bf1, .int bc1])), (od, .inr (2, [.ref ts, .ref bs, .ref ks, .int (nI n)])), (ts, .inl (c1, 24, .inl ft)), (bs, .inl (c2, 24, .inl fb)), (ks, .inl (c3, 24, .inl fk)), (j, .inr (1, [.ref pl, .int jo, .int jc, .int js, .int jt])), (pl, .inr (3, [.ref pf, .ref pg, .int p_9])), (pf, .inl (c4, 2, .inl f_9)), (pg, .inl (c5, 2, .inl g_9))]) [0, 13, 14, 1, 2, 3, 4, 5, 6, 7, 8, 9, 10, 11, 12] rfl
              have hD9 := hD.sub (ws' := [(x, .inr (5, [.ref rk, .ref ba, .ref od, .ref j, .ref ap, .int li, .int pw, .int rs, .int tm, .int (nI sr)])), (rk, .inr (4, [.ref hd, .ref jm])), (hd, .inl (cI, 96, .inl fh)), (jm, .inl (cZ, 4, .inl fj)), (ba, .inl (cB, 2, .inr (.inr (.inr (.inr (va_up (va_up (fun _ => none) 0 (some b0)) 1 (some b1))))))), (b0, .inr (0, [.int bd0, .int bt0, .int bp0, .int bk0, .int bf0, .int bc0])), (b1, .inr (0, [.int bd1, .int bt1, .int bp1, .int bk1, .int bf1, .int bc1])), (od, .inr (2, [.ref ts, .ref bs, .ref ks, .int (nI n)])), (ts, .inl (c1, 24, .inl ft)), (bs, .inl (c2, 24, .inl fb)), (ks, .inl (c3, 24, .inl fk)), (j, .inr (1, [.ref pl, .int jo, .int jc, .int js, .int jt])), (pl, .inr (3, [.ref pf, .ref pg, .int p_9])), (pf, .inl (c4, 2, .inl f_9)), (pg, .inl (c5, 2, .inl g_9))]) [0, 13, 14, 1, 2, 3, 4, 5, 6, 7, 8, 9, 10, 11, 12] (by decide) rfl
              have hK9 := hK.sub (tys' := []) [] rfl
              refine W.widen (k := 0) (n := 0) (by omega) (by omega) ?_
              exact W.iret (v := nI j_5) hx hb hr (fun t ht hW => ⟨⟨nI j_5, (p_9, f_9, g_9), rfl, ⟨Or.inr ⟨j_5, by omega, rfl⟩, hp_9, hf_9, hg_9⟩, by rw [ht]; exact hP9, va_K.moved hW.alike hK9, hD9⟩, hS.F ht⟩) hS.2.2 dX7_cellToFetchFrom_89
            · have c_10 : (r_9 = 0) := c_10
              refine lv_iconst (v := (-1)) hx hb dX7_cellToFetchFrom_86 (by decide) ?_
              have hP9 := hP.sub (ws' := [(x, .inr (5, [.ref rk, .ref ba, .ref od, .ref j, .ref ap, .int li, .int pw, .int rs, .int tm, .int (nI sr)])), (rk, .inr (4, [.ref hd, .ref jm])), (hd, .inl (cI, 96, .inl fh)), (jm, .inl (cZ, 4, .inl fj)), (ba, .inl (cB, 2, .inr (.inr (.inr (.inr (va_up (va_up (fun _ => none) 0 (some b0)) 1 (some b1))))))), (b0, .inr (0, [.int bd0, .int bt0, .int bp0, .int bk0, .int bf0, .int bc0])), (b1, .inr (0, [.int bd1, .int bt1, .int bp1, .int bk1, .int bf1, .int bc1])), (od, .inr (2, [.ref ts, .ref bs, .ref ks, .int (nI n)])), (ts, .inl (c1, 24, .inl ft)), (bs, .inl (c2, 24, .inl fb)), (ks, .inl (c3, 24, .inl fk)), (j, .inr (1, [.ref pl, .int jo, .int jc, .int js, .int jt])), (pl, .inr (3, [.ref pf, .ref pg, .int p_9])), (pf, .inl (c4, 2, .inl f_9)), (pg, .inl (c5, 2, .inl g_9))]) [0, 13, 14, 1, 2, 3, 4, 5, 6, 7, 8, 9, 10, 11, 12] rfl
              have hD9 := hD.sub (ws' := [(x, .inr (5, [.ref rk, .ref ba, .ref od, .ref j, .ref ap, .int li, .int pw, .int rs, .int tm, .int (nI sr)])), (rk, .inr (4, [.ref hd, .ref jm])), (hd, .inl (cI, 96, .inl fh)), (jm, .inl (cZ, 4, .inl fj)), (ba, .inl (cB, 2, .inr (.inr (.inr (.inr (va_up (va_up (fun _ => none) 0 (some b0)) 1 (some b1))))))), (b0, .inr (0, [.int bd0, .int bt0, .int bp0, .int bk0, .int bf0, .int bc0])), (b1, .inr (0, [.int bd1, .int bt1, .int bp1, .int bk1, .int bf1, .int bc1])), (od, .inr (2, [.ref ts, .ref bs, .ref ks, .int (nI n)])), (ts, .inl (c1, 24, .inl ft)), (bs, .inl (c2, 24, .inl fb)), (ks, .inl (c3, 24, .inl fk)), (j, .inr (1, [.ref pl, .int jo, .int jc, .int js, .int jt])), (pl, .inr (3, [.ref pf, .ref pg, .int p_9])), (pf, .inl (c4, 2, .inl f_9)), (pg, .inl (c5, 2, .inl g_9))]) [0, 13, 14, 1, 2, 3, 4, 5, 6, 7, 8, 9, 10, 11, 12] (by decide) rfl
              have hK9 := hK.sub (tys' := []) [] rfl
              refine W.widen (k := 0) (n := 0) (by omega) (by omega) ?_
              exact W.iret (v := (-1)) hx hb hr (fun t ht hW => ⟨⟨(-1), (p_9, f_9, g_9), rfl, ⟨Or.inl rfl, hp_9, hf_9, hg_9⟩, by rw [ht]; exact hP9, va_K.moved hW.alike hK9, hD9⟩, hS.F ht⟩) hS.2.2 dX7_cellToFetchFrom_87
  · skip
    refine va_aldq hx hb hK hP 4 2 rfl rfl (vp_in_iff.mpr (by decide)) dX7_cellToFetchFrom_13 ?_
    refine W.eq (g2 := F0 m 14 ls [.ref b1]) rfl ?_
    refine lv_astore_n (lv' := [(2, .ref b1), (0, .ref x), (1, .int (nI k))]) hx hb dX7_cellToFetchFrom_14 rfl hl (by decide) rfl (fun ls hl => ?_)
    refine lv_aload_n hx hb dX7_cellToFetchFrom_15 rfl (lv_at hl 0 rfl) ?_
    refine va_getN (D := (dC, dI)) (ci := 0) (v := .int bk1) (C := RX1) (T := TX1) (N := 6) hx hb hts iX1 hown hK hP 6 rfl rfl 3 (by decide) (va_Nw.use rfl (hN.1 (.fieldLinkNest RX7 55 "ParkTower$Bay" "ticket" "I" "ParkTower") (by decide +kernel))) (fun _ h9 => h9) rfl dX7_cellToFetchFrom_16 ?_
    refine lv_if_ne (tgt := 29) hx hb dX7_cellToFetchFrom_19 (by decide) (fun c_11 => ?_) (fun c_11 => ?_)
    · have c_11 : ¬ (bk1 = 0) := c_11
      refine lv_iconst (v := (-1)) hx hb dX7_cellToFetchFrom_29 (by decide) ?_
      have hP9 := hP.sub (ws' := [(x, .inr (5, [.ref rk, .ref ba, .ref od, .ref j, .ref ap, .int li, .int pw, .int rs, .int tm, .int (nI sr)])), (rk, .inr (4, [.ref hd, .ref jm])), (hd, .inl (cI, 96, .inl fh)), (jm, .inl (cZ, 4, .inl fj)), (ba, .inl (cB, 2, .inr (.inr (.inr (.inr (va_up (va_up (fun _ => none) 0 (some b0)) 1 (some b1))))))), (b0, .inr (0, [.int bd0, .int bt0, .int bp0, .int bk0, .int bf0, .int bc0])), (b1, .inr (0, [.int bd1, .int bt1, .int bp1, .int bk1, .int bf1, .int bc1])), (od, .inr (2, [.ref ts, .ref bs, .ref ks, .int (nI n)])), (ts, .inl (c1, 24, .inl ft)), (bs, .inl (c2, 24, .inl fb)), (ks, .inl (c3, 24, .inl fk)), (j, .inr (1, [.ref pl, .int jo, .int jc, .int js, .int jt])), (pl, .inr (3, [.ref pf, .ref pg, .int pz])), (pf, .inl (c4, 2, .inl ff)), (pg, .inl (c5, 2, .inl fg))]) [0, 1, 2, 3, 4, 5, 6, 7, 8, 9, 10, 11, 12, 13, 14] rfl
      have hD9 := hD.sub (ws' := [(x, .inr (5, [.ref rk, .ref ba, .ref od, .ref j, .ref ap, .int li, .int pw, .int rs, .int tm, .int (nI sr)])), (rk, .inr (4, [.ref hd, .ref jm])), (hd, .inl (cI, 96, .inl fh)), (jm, .inl (cZ, 4, .inl fj)), (ba, .inl (cB, 2, .inr (.inr (.inr (.inr (va_up (va_up (fun _ => none) 0 (some b0)) 1 (some b1))))))), (b0, .inr (0, [.int bd0, .int bt0, .int bp0, .int bk0, .int bf0, .int bc0])), (b1, .inr (0, [.int bd1, .int bt1, .int bp1, .int bk1, .int bf1, .int bc1])), (od, .inr (2, [.ref ts, .ref bs, .ref ks, .int (nI n)])), (ts, .inl (c1, 24, .inl ft)), (bs, .inl (c2, 24, .inl fb)), (ks, .inl (c3, 24, .inl fk)), (j, .inr (1, [.ref pl, .int jo, .int jc, .int js, .int jt])), (pl, .inr (3, [.ref pf, .ref pg, .int pz])), (pf, .inl (c4, 2, .inl ff)), (pg, .inl (c5, 2, .inl fg))]) [0, 1, 2, 3, 4, 5, 6, 7, 8, 9, 10, 11, 12, 13, 14] (by decide) rfl
      have hK9 := hK.sub (tys' := []) [] rfl
      refine W.widen (k := 0) (n := 0) (by omega) (by omega) ?_
      exact W.iret (v := (-1)) hx hb hr (fun t ht hW => ⟨⟨(-1), (pz, ff, fg), rfl, ⟨Or.inl rfl, hz, h5, h6⟩, by rw [ht]; exact hP9, va_K.moved hW.alike hK9, hD9⟩, hS.F ht⟩) hS.2.2 dX7_cellToFetchFrom_30
    · have c_11 : (bk1 = 0) := c_11
      refine lv_aload_n hx hb dX7_cellToFetchFrom_22 rfl (lv_at hl 0 rfl) ?_
      refine pt_cSi (va_runV (As := []) (rest := []) ⟨hx, hb, hml, hown, hts⟩ (s_isSafe l dC dI b1 bd1 bt1 bp1 bk1 bf1 bc1) (cwV 0 hts gX7_cellToFetchFrom_X1_isSafe rfl rfl rfl (by decide +kernel) ⟨Nat.le_of_ble_eq_true rfl, Nat.le_of_ble_eq_true rfl⟩) ⟨pt_blind, va_recv hK hP (ci := 0) (q0 := 6) rfl rfl, pt_pre (w := [(b1, .inr (0, [.int bd1, .int bt1, .int bp1, .int bk1, .int bf1, .int bc1]))]) (tys := []) (hP.sub [6] rfl) (hK.sub [] rfl) hN⟩ rfl rfl hl.1 rfl (lv_room (Nat.le_of_ble_eq_true rfl)) dX7_cellToFetchFrom_23 ⟨Nat.le_of_ble_eq_true rfl, Nat.le_of_ble_eq_true rfl⟩) (fun r_12 hr_12 => ?_)
      rcases hr_12 with rfl | rfl
      · skip
        refine lv_if_ne (tgt := 31) hx hb dX7_cellToFetchFrom_26 (by decide) (fun c => absurd (by decide) c) (fun _ => ?_)
        refine lv_iconst (v := (-1)) hx hb dX7_cellToFetchFrom_29 (by decide) ?_
        have hP9 := hP.sub (ws' := [(x, .inr (5, [.ref rk, .ref ba, .ref od, .ref j, .ref ap, .int li, .int pw, .int rs, .int tm, .int (nI sr)])), (rk, .inr (4, [.ref hd, .ref jm])), (hd, .inl (cI, 96, .inl fh)), (jm, .inl (cZ, 4, .inl fj)), (ba, .inl (cB, 2, .inr (.inr (.inr (.inr (va_up (va_up (fun _ => none) 0 (some b0)) 1 (some b1))))))), (b0, .inr (0, [.int bd0, .int bt0, .int bp0, .int bk0, .int bf0, .int bc0])), (b1, .inr (0, [.int bd1, .int bt1, .int bp1, .int bk1, .int bf1, .int bc1])), (od, .inr (2, [.ref ts, .ref bs, .ref ks, .int (nI n)])), (ts, .inl (c1, 24, .inl ft)), (bs, .inl (c2, 24, .inl fb)), (ks, .inl (c3, 24, .inl fk)), (j, .inr (1, [.ref pl, .int jo, .int jc, .int js, .int jt])), (pl, .inr (3, [.ref pf, .ref pg, .int pz])), (pf, .inl (c4, 2, .inl ff)), (pg, .inl (c5, 2, .inl fg))]) [0, 1, 2, 3, 4, 5, 6, 7, 8, 9, 10, 11, 12, 13, 14] rfl
        have hD9 := hD.sub (ws' := [(x, .inr (5, [.ref rk, .ref ba, .ref od, .ref j, .ref ap, .int li, .int pw, .int rs, .int tm, .int (nI sr)])), (rk, .inr (4, [.ref hd, .ref jm])), (hd, .inl (cI, 96, .inl fh)), (jm, .inl (cZ, 4, .inl fj)), (ba, .inl (cB, 2, .inr (.inr (.inr (.inr (va_up (va_up (fun _ => none) 0 (some b0)) 1 (some b1))))))), (b0, .inr (0, [.int bd0, .int bt0, .int bp0, .int bk0, .int bf0, .int bc0])), (b1, .inr (0, [.int bd1, .int bt1, .int bp1, .int bk1, .int bf1, .int bc1])), (od, .inr (2, [.ref ts, .ref bs, .ref ks, .int (nI n)])), (ts, .inl (c1, 24, .inl ft)), (bs, .inl (c2, 24, .inl fb)), (ks, .inl (c3, 24, .inl fk)), (j, .inr (1, [.ref pl, .int jo, .int jc, .int js, .int jt])), (pl, .inr (3, [.ref pf, .ref pg, .int pz])), (pf, .inl (c4, 2, .inl ff)), (pg, .inl (c5, 2, .inl fg))]) [0, 1, 2, 3, 4, 5, 6, 7, 8, 9, 10, 11, 12, 13, 14] (by decide) rfl
        have hK9 := hK.sub (tys' := []) [] rfl
        refine W.widen (k := 0) (n := 0) (by omega) (by omega) ?_
        exact W.iret (v := (-1)) hx hb hr (fun t ht hW => ⟨⟨(-1), (pz, ff, fg), rfl, ⟨Or.inl rfl, hz, h5, h6⟩, by rw [ht]; exact hP9, va_K.moved hW.alike hK9, hD9⟩, hS.F ht⟩) hS.2.2 dX7_cellToFetchFrom_30
      · skip
        refine lv_if_ne (tgt := 31) hx hb dX7_cellToFetchFrom_26 (by decide) (fun _ => ?_) (fun c => absurd c (by decide))
        refine lv_aload_n hx hb dX7_cellToFetchFrom_31 rfl (lv_at hl 1 rfl) ?_
        refine va_get (D := (dC, dI)) (ci := 5) (v := .ref rk) (C := RX7) (T := TX7) (N := 10) hx hb hts iX7 hown hK hP 0 rfl rfl 0 (by decide) (hts (.fieldLink RX7 10 "ParkTower" "rack" "LParkTower$Rack;") (by decide +kernel)) (fun _ h9 => h9) rfl dX7_cellToFetchFrom_32 ?_
        refine lv_aload_n hx hb dX7_cellToFetchFrom_35 rfl (lv_at hl 1 rfl) ?_
        refine va_get (D := (dC, dI)) (ci := 5) (v := .ref od) (C := RX7) (T := TX7) (N := 10) hx hb hts iX7 hown hK hP 0 rfl rfl 2 (by decide) (hts (.fieldLink RX7 26 "ParkTower" "orders" "LParkTower$Orders;") (by decide +kernel)) (fun _ h9 => h9) rfl dX7_cellToFetchFrom_36 ?_
        refine va_getN (D := (dC, dI)) (ci := 2) (v := .ref ts) (C := RX3) (T := TX3) (N := 4) hx hb hts iX3 hown hK hP 7 rfl rfl 0 (by decide) (va_Nw.use rfl (hN.1 (.fieldLinkNest RX7 167 "ParkTower$Orders" "tickets" "[I" "ParkTower") (by decide +kernel))) (fun _ h9 => h9) rfl dX7_cellToFetchFrom_39 ?_
        refine lv_iload_n hx hb dX7_cellToFetchFrom_42 rfl (lv_at hl 2 rfl) ?_
        refine va_iald hx hb hK hP 8 3 rfl rfl (vp_in_nI (n := k) (by omega) (by decide)) dX7_cellToFetchFrom_43 ?_
        refine lv_topi (fun a_13 ea_13 => ?_)
        refine pt_cSi (va_runV (As := [.int a_13]) (rest := []) ⟨hx, hb, hml, hown, hts⟩ (s_find l dC dI rk hd jm cI fh a_13) (cwV 1 hts gX7_cellToFetchFrom_X5_find rfl rfl rfl (by decide +kernel) ⟨Nat.le_of_ble_eq_true rfl, Nat.le_of_ble_eq_true rfl⟩) ⟨pt_blind, va_recv hK hP (ci := 4) (q0 := 1) rfl rfl, pt_pre (w := [(rk, .inr (4, [.ref hd, .ref jm])), (hd, .inl (cI, 96, .inl fh))]) (tys := [(cI, .int)]) (hP.sub [1, 2] rfl) (hK.sub [0] rfl) hN⟩ rfl rfl hl.1 rfl (lv_room (Nat.le_of_ble_eq_true rfl)) dX7_cellToFetchFrom_44 ⟨Nat.le_of_ble_eq_true rfl, Nat.le_of_ble_eq_true rfl⟩) (fun r_14 hr_14 => ?_)
        rcases hr_14 with rfl | ⟨j_14, hj_14, rfl⟩
        · skip
          refine lv_istore_n (lv' := [(3, .int (-1)), (2, .ref b1), (0, .ref x), (1, .int (nI k))]) hx hb dX7_cellToFetchFrom_47 rfl hl (by decide) rfl (fun ls hl => ?_)
          refine lv_iload_n hx hb dX7_cellToFetchFrom_48 rfl (lv_at hl 0 rfl) ?_
          refine lv_iconst (v := (-1)) hx hb dX7_cellToFetchFrom_49 (by decide) ?_
          refine lv_icmp_eq (tgt := 86) hx hb dX7_cellToFetchFrom_50 (by decide) (fun _ => ?_) (fun c => absurd (by decide) c)
          refine lv_iconst (v := (-1)) hx hb dX7_cellToFetchFrom_86 (by decide) ?_
          have hP9 := hP.sub (ws' := [(x, .inr (5, [.ref rk, .ref ba, .ref od, .ref j, .ref ap, .int li, .int pw, .int rs, .int tm, .int (nI sr)])), (rk, .inr (4, [.ref hd, .ref jm])), (hd, .inl (cI, 96, .inl fh)), (jm, .inl (cZ, 4, .inl fj)), (ba, .inl (cB, 2, .inr (.inr (.inr (.inr (va_up (va_up (fun _ => none) 0 (some b0)) 1 (some b1))))))), (b0, .inr (0, [.int bd0, .int bt0, .int bp0, .int bk0, .int bf0, .int bc0])), (b1, .inr (0, [.int bd1, .int bt1, .int bp1, .int bk1, .int bf1, .int bc1])), (od, .inr (2, [.ref ts, .ref bs, .ref ks, .int (nI n)])), (ts, .inl (c1, 24, .inl ft)), (bs, .inl (c2, 24, .inl fb)), (ks, .inl (c3, 24, .inl fk)), (j, .inr (1, [.ref pl, .int jo, .int jc, .int js, .int jt])), (pl, .inr (3, [.ref pf, .ref pg, .int pz])), (pf, .inl (c4, 2, .inl ff)), (pg, .inl (c5, 2, .inl fg))]) [0, 1, 2, 3, 4, 5, 6, 7, 8, 9, 10, 11, 12, 13, 14] rfl
          have hD9 := hD.sub (ws' := [(x, .inr (5, [.ref rk, .ref ba, .ref od, .ref j, .ref ap, .int li, .int pw, .int rs, .int tm, .int (nI sr)])), (rk, .inr (4, [.ref hd, .ref jm])), (hd, .inl (cI, 96, .inl fh)), (jm, .inl (cZ, 4, .inl fj)), (ba, .inl (cB, 2, .inr (.inr (.inr (.inr (va_up (va_up (fun _ => none) 0 (some b0)) 1 (some b1))))))), (b0, .inr (0, [.int bd0, .int bt0, .int bp0, .int bk0, .int bf0, .int bc0])), (b1, .inr (0, [.int bd1, .int bt1, .int bp1, .int bk1, .int bf1, .int bc1])), (od, .inr (2, [.ref ts, .ref bs, .ref ks, .int (nI n)])), (ts, .inl (c1, 24, .inl ft)), (bs, .inl (c2, 24, .inl fb)), (ks, .inl (c3, 24, .inl fk)), (j, .inr (1, [.ref pl, .int jo, .int jc, .int js, .int jt])), (pl, .inr (3, [.ref pf, .ref pg, .int pz])), (pf, .inl (c4, 2, .inl ff)), (pg, .inl (c5, 2, .inl fg))]) [0, 1, 2, 3, 4, 5, 6, 7, 8, 9, 10, 11, 12, 13, 14] (by decide) rfl
          have hK9 := hK.sub (tys' := []) [] rfl
          refine W.widen (k := 0) (n := 0) (by omega) (by omega) ?_
          exact W.iret (v := (-1)) hx hb hr (fun t ht hW => ⟨⟨(-1), (pz, ff, fg), rfl, ⟨Or.inl rfl, hz, h5, h6⟩, by rw [ht]; exact hP9, va_K.moved hW.alike hK9, hD9⟩, hS.F ht⟩) hS.2.2 dX7_cellToFetchFrom_87
        · have cm_14 : ¬ (nI j_14 = (-1)) := pt_nIm (by omega)
          refine lv_istore_n (lv' := [(3, .int (nI j_14)), (2, .ref b1), (0, .ref x), (1, .int (nI k))]) hx hb dX7_cellToFetchFrom_47 rfl hl (by decide) rfl (fun ls hl => ?_)
          refine lv_iload_n hx hb dX7_cellToFetchFrom_48 rfl (lv_at hl 0 rfl) ?_
          refine lv_iconst (v := (-1)) hx hb dX7_cellToFetchFrom_49 (by decide) ?_
          refine lv_icmp_eq (tgt := 86) hx hb dX7_cellToFetchFrom_50 (by decide) (fun c => absurd c (by assumption)) (fun _ => ?_)
          refine lv_aload_n hx hb dX7_cellToFetchFrom_53 rfl (lv_at hl 2 rfl) ?_
          refine va_get (D := (dC, dI)) (ci := 5) (v := .ref rk) (C := RX7) (T := TX7) (N := 10) hx hb hts iX7 hown hK hP 0 rfl rfl 0 (by decide) (hts (.fieldLink RX7 10 "ParkTower" "rack" "LParkTower$Rack;") (by decide +kernel)) (fun _ h9 => h9) rfl dX7_cellToFetchFrom_54 ?_
          refine va_getN (D := (dC, dI)) (ci := 4) (v := .ref jm) (C := RX5) (T := TX5) (N := 2) hx hb hts iX5 hown hK hP 1 rfl rfl 1 (by decide) (va_Nw.use rfl (hN.1 (.fieldLinkNest RX7 126 "ParkTower$Rack" "jammed" "[Z" "ParkTower") (by decide +kernel))) (fun _ h9 => h9) rfl dX7_cellToFetchFrom_57 ?_
          refine lv_iload_n hx hb dX7_cellToFetchFrom_60 rfl (lv_at hl 0 rfl) ?_
          refine pt_cSi (va_runS (As := [.int (nI j_14)]) (rest := [.ref jm]) ⟨hx, hb, hml, hown, hts⟩ (s_levelOf l dC dI j_14 (by omega)) (cwS 1 hts gX7_cellToFetchFrom_X7_levelOf rfl rfl rfl (by decide +kernel) ⟨Nat.le_of_ble_eq_true rfl, Nat.le_of_ble_eq_true rfl⟩) ⟨pt_blind, pt_pre (w := []) (tys := []) (hP.sub [] rfl) (hK.sub [] rfl) hN⟩ rfl rfl hl.1 rfl (lv_room (Nat.le_of_ble_eq_true rfl)) dX7_cellToFetchFrom_61 ⟨Nat.le_of_ble_eq_true rfl, Nat.le_of_ble_eq_true rfl⟩) (fun r_15 hr_15 => ?_)
          obtain rfl : r_15 = nI (j_14 / 24) := hr_15
          refine va_zald hx hb hK hP 3 1 rfl rfl (vp_in_nI (n := j_14 / 24) (by omega) (by decide)) dX7_cellToFetchFrom_64 ?_
          refine lv_topi (fun a_16 ea_16 => ?_)
          refine lv_if_ne (tgt := 86) hx hb dX7_cellToFetchFrom_65 (by decide) (fun c_17 => ?_) (fun c_17 => ?_)
          · have c_17 : ¬ (a_16 = 0) := c_17
            refine lv_iconst (v := (-1)) hx hb dX7_cellToFetchFrom_86 (by decide) ?_
            have hP9 := hP.sub (ws' := [(x, .inr (5, [.ref rk, .ref ba, .ref od, .ref j, .ref ap, .int li, .int pw, .int rs, .int tm, .int (nI sr)])), (rk, .inr (4, [.ref hd, .ref jm])), (hd, .inl (cI, 96, .inl fh)), (jm, .inl (cZ, 4, .inl fj)), (ba, .inl (cB, 2, .inr (.inr (.inr (.inr (va_up (va_up (fun _ => none) 0 (some b0)) 1 (some b1))))))), (b0, .inr (0, [.int bd0, .int bt0, .int bp0, .int bk0, .int bf0, .int bc0])), (b1, .inr (0, [.int bd1, .int bt1, .int bp1, .int bk1, .int bf1, .int bc1])), (od, .inr (2, [.ref ts, .ref bs, .ref ks, .int (nI n)])), (ts, .inl (c1, 24, .inl ft)), (bs, .inl (c2, 24, .inl fb)), (ks, .inl (c3, 24, .inl fk)), (j, .inr (1, [.ref pl, .int jo, .int jc, .int js, .int jt])), (pl, .inr (3, [.ref pf, .ref pg, .int pz])), (pf, .inl (c4, 2, .inl ff)), (pg, .inl (c5, 2, .inl fg))]) [0, 1, 2, 3, 4, 5, 6, 7, 8, 9, 10, 11, 12, 13, 14] rfl
            have hD9 := hD.sub (ws' := [(x, .inr (5, [.ref rk, .ref ba, .ref od, .ref j, .ref ap, .int li, .int pw, .int rs, .int tm, .int (nI sr)])), (rk, .inr (4, [.ref hd, .ref jm])), (hd, .inl (cI, 96, .inl fh)), (jm, .inl (cZ, 4, .inl fj)), (ba, .inl (cB, 2, .inr (.inr (.inr (.inr (va_up (va_up (fun _ => none) 0 (some b0)) 1 (some b1))))))), (b0, .inr (0, [.int bd0, .int bt0, .int bp0, .int bk0, .int bf0, .int bc0])), (b1, .inr (0, [.int bd1, .int bt1, .int bp1, .int bk1, .int bf1, .int bc1])), (od, .inr (2, [.ref ts, .ref bs, .ref ks, .int (nI n)])), (ts, .inl (c1, 24, .inl ft)), (bs, .inl (c2, 24, .inl fb)), (ks, .inl (c3, 24, .inl fk)), (j, .inr (1, [.ref pl, .int jo, .int jc, .int js, .int jt])), (pl, .inr (3, [.ref pf, .ref pg, .int pz])), (pf, .inl (c4, 2, .inl ff)), (pg, .inl (c5, 2, .inl fg))]) [0, 1, 2, 3, 4, 5, 6, 7, 8, 9, 10, 11, 12, 13, 14] (by decide) rfl
            have hK9 := hK.sub (tys' := []) [] rfl
            refine W.widen (k := 0) (n := 0) (by omega) (by omega) ?_
            exact W.iret (v := (-1)) hx hb hr (fun t ht hW => ⟨⟨(-1), (pz, ff, fg), rfl, ⟨Or.inl rfl, hz, h5, h6⟩, by rw [ht]; exact hP9, va_K.moved hW.alike hK9, hD9⟩, hS.F ht⟩) hS.2.2 dX7_cellToFetchFrom_87
          · have c_17 : (a_16 = 0) := c_17
            refine lv_aload_n hx hb dX7_cellToFetchFrom_68 rfl (lv_at hl 2 rfl) ?_
            refine va_get (D := (dC, dI)) (ci := 5) (v := .ref j) (C := RX7) (T := TX7) (N := 10) hx hb hts iX7 hown hK hP 0 rfl rfl 3 (by decide) (hts (.fieldLink RX7 33 "ParkTower" "job" "LParkTower$Job;") (by decide +kernel)) (fun _ h9 => h9) rfl dX7_cellToFetchFrom_69 ?_
            refine va_getN (D := (dC, dI)) (ci := 1) (v := .ref pl) (C := RX2) (T := TX2) (N := 5) hx hb hts iX2 hown hK hP 11 rfl rfl 0 (by decide) (va_Nw.use rfl (hN.1 (.fieldLinkNest RX7 251 "ParkTower$Job" "plan" "LParkTower$Plan;" "ParkTower") (by decide +kernel))) (fun _ h9 => h9) rfl dX7_cellToFetchFrom_72 ?_
            refine lv_aload_n hx hb dX7_cellToFetchFrom_75 rfl (lv_at hl 2 rfl) ?_
            refine va_get (D := (dC, dI)) (ci := 5) (v := .ref rk) (C := RX7) (T := TX7) (N := 10) hx hb hts iX7 hown hK hP 0 rfl rfl 0 (by decide) (hts (.fieldLink RX7 10 "ParkTower" "rack" "LParkTower$Rack;") (by decide +kernel)) (fun _ h9 => h9) rfl dX7_cellToFetchFrom_76 ?_
            refine lv_iload_n hx hb dX7_cellToFetchFrom_79 rfl (lv_at hl 0 rfl) ?_
            have hPc := hP.sub (ws' := [(pl, .inr (3, [.ref pf, .ref pg, .int pz])), (pf, .inl (c4, 2, .inl ff)), (pg, .inl (c5, 2, .inl fg)), (rk, .inr (4, [.ref hd, .ref jm])), (hd, .inl (cI, 96, .inl fh))]) [12, 13, 14, 1, 2] rfl
            have hDc := hD.sub (ws' := [(pl, .inr (3, [.ref pf, .ref pg, .int pz])), (pf, .inl (c4, 2, .inl ff)), (pg, .inl (c5, 2, .inl fg)), (rk, .inr (4, [.ref hd, .ref jm])), (hd, .inl (cI, 96, .inl fh))]) [12, 13, 14, 1, 2] (by decide) rfl
            have hKc := hK.sub (tys' := [(c4, .int), (c5, .int), (cI, .int)]) [6, 7, 0] rfl
            have hFc := va_free (wc := [(pl, .inr (3, [.ref pf, .ref pg, .int pz])), (pf, .inl (c4, 2, .inl ff)), (pg, .inl (c5, 2, .inl fg)), (rk, .inr (4, [.ref hd, .ref jm])), (hd, .inl (cI, 96, .inl fh))]) hD hS hA [12, 13, 14, 1, 2] rfl
            refine va_calli (va_runV (As := [.ref rk, .int (nI j_14)]) (rest := []) ⟨hx, hb, hml, hown, hts⟩ (s_make l dC dI _ pl pf pg c4 c5 ff fg rk hd jm cI fh j_14 pz (by omega) h5 h6) (cwV 2 hts gX7_cellToFetchFrom_X4_make rfl rfl rfl (by decide +kernel) ⟨Nat.le_of_ble_eq_true rfl, Nat.le_of_ble_eq_true rfl⟩) ⟨pt_blindQ, va_recv hK hP (ci := 3) (q0 := 12) rfl rfl, pt_preQ hPc hKc hDc hN⟩ rfl rfl hl.1 rfl (lv_room (Nat.le_of_ble_eq_true rfl)) dX7_cellToFetchFrom_80 ⟨Nat.le_of_ble_eq_true rfl, Nat.le_of_ble_eq_true rfl⟩) hS (fun q _ h => hFc q h) hFc (fun r_18 u_18 t H1 locs ht hvm hw_18 hB hz1 hk1 hS => ?_)
            obtain ⟨p_18, f_18, g_18⟩ := u_18
            obtain ⟨hP1, hK1, hD1⟩ := hB
            obtain ⟨hm_18, hp_18, hf_18, hg_18⟩ := hw_18
            rw [ht] at hP1
            have hK1 := va_K.moved hvm.symm hK1
            obtain ⟨hP, hD⟩ := va_join (wr := [(x, .inr (5, [.ref rk, .ref ba, .ref od, .ref j, .ref ap, .int li, .int pw, .int rs, .int tm, .int (nI sr)])), (jm, .inl (cZ, 4, .inl fj)), (ba, .inl (cB, 2, .inr (.inr (.inr (.inr (va_up (va_up (fun _ => none) 0 (some b0)) 1 (some b1))))))), (b0, .inr (0, [.int bd0, .int bt0, .int bp0, .int bk0, .int bf0, .int bc0])), (b1, .inr (0, [.int bd1, .int bt1, .int bp1, .int bk1, .int bf1, .int bc1])), (od, .inr (2, [.ref ts, .ref bs, .ref ks, .int (nI n)])), (ts, .inl (c1, 24, .inl ft)), (bs, .inl (c2, 24, .inl fb)), (ks, .inl (c3, 24, .inl fk)), (j, .inr (1, [.ref pl, .int jo, .int jc, .int js, .int jt]))]) (w1 := [(pl, .inr (3, [.ref pf, .ref pg, .int p_18])), (pf, .inl (c4, 2, .inl f_18)), (pg, .inl (c5, 2, .inl g_18)), (rk, .inr (4, [.ref hd, .ref jm])), (hd, .inl (cI, 96, .inl fh))]) hP hD [12, 13, 14, 1, 2] [0, 3, 4, 5, 6, 7, 8, 9, 10, 11] rfl rfl (by decide) (by decide) hk1 hFc hP1 hD1
            have hK := hK.app hK1
            generalize H1 = H at hP hS ⊢
            have hP : va_P (dC, dI) vwCl [(x, .inr (5, [.ref rk, .ref ba, .ref od, .ref j, .ref ap, .int li, .int pw, .int rs, .int tm, .int (nI sr)])), (jm, .inl (cZ, 4, .inl fj)), (ba, .inl (cB, 2, .inr (.inr (.inr (.inr (va_up (va_up (fun _ => none) 0 (some b0)) 1 (some b1))))))), (b0, .inr (0, [.int bd0, .int bt0, .int bp0, .int bk0, .int bf0, .int bc0])), (b1, .inr (0, [.int bd1, .int bt1, .int bp1, .int bk1, .int bf1, .int bc1])), (od, .inr (2, [.ref ts, .ref bs, .ref ks, .int (nI n)])), (ts, .inl (c1, 24, .inl ft)), (bs, .inl (c2, 24, .inl fb)), (ks, .inl (c3, 24, .inl fk)), (j, .inr (1, [.ref pl, .int jo, .int jc, .int js, .int jt])), (pl, .inr (3, [.ref pf, .ref pg, .int p_18])), (pf, .inl (c4, 2, .inl f_18)), (pg, .inl (c5, 2, .inl g_18)), (rk, .inr (4, [.ref hd, .ref jm])), (hd, .inl (cI, 96, .inl fh))] H := hP
            have hD : va_D A [(x, .inr (5, [.ref rk, .ref ba, .ref od, .ref j, .ref ap, .int li, .int pw, .int rs, .int tm, .int (nI sr)])), (jm, .inl (cZ, 4, .inl fj)), (ba, .inl (cB, 2, .inr (.inr (.inr (.inr (va_up (va_up (fun _ => none) 0 (some b0)) 1 (some b1))))))), (b0, .inr (0, [.int bd0, .int bt0, .int bp0, .int bk0, .int bf0, .int bc0])), (b1, .inr (0, [.int bd1, .int bt1, .int bp1, .int bk1, .int bf1, .int bc1])), (od, .inr (2, [.ref ts, .ref bs, .ref ks, .int (nI n)])), (ts, .inl (c1, 24, .inl ft)), (bs, .inl (c2, 24, .inl fb)), (ks, .inl (c3, 24, .inl fk)), (j, .inr (1, [.ref pl, .int jo, .int jc, .int js, .int jt])), (pl, .inr (3, [.ref pf, .ref pg, .int p_18])), (pf, .inl (c4, 2, .inl f_18)), (pg, .inl (c5, 2, .inl g_18)), (rk, .inr (4, [.ref hd, .ref jm])), (hd, .inl (cI, 96, .inl fh))] := hD
            have hK : va_K (dC, dI) vwCl [(cI, .int), (cZ, .boolean), (cB, .object "ParkTower$Bay"), (c1, .int), (c2, .int), (c3, .int), (c4, .int), (c5, .int)] s := hK
            refine lv_if_ne (tgt := 88) hx hb dX7_cellToFetchFrom_83 (by decide) (fun c_19 => ?_) (fun c_19 => ?_)
            · have c_19 : ¬ (r_18 = 0) := c_19
              refine lv_iload_n hx hb dX7_cellToFetchFrom_88 rfl (lv_at hl 0 rfl) ?_
              have hP9 := hP.sub (ws' := [(x, .inr (5, [.ref rk, .ref ba, .ref od, .ref j, .ref ap, .int li, .int pw, .int rs, .int tm, .int (nI sr)])), (rk, .inr (4, [.ref hd, .ref jm])), (hd, .inl (cI, 96, .inl fh)), (jm, .inl (cZ, 4, .inl fj)), (ba, .inl (cB, 2, .inr (.inr (.inr (.inr (va_up (va_up (fun _ => none) 0 (some b0)) 1 (some b1))))))), (b0, .inr (0, [.int bd0, .int bt0, .int bp0, .int bk0, .int bf0, .int bc0])), (b1, .inr (0, [.int bd1, .int bt1, .int bp1, .int bk1, .int bf1, .int bc1])), (od, .inr (2, [.ref ts, .ref bs, .ref ks, .int (nI n)])), (ts, .inl (c1, 24, .inl ft)), (bs, .inl (c2, 24, .inl fb)), (ks, .inl (c3, 24, .inl fk)), (j, .inr (1, [.ref pl, .int jo, .int jc, .int js, .int jt])), (pl, .inr (3, [.ref pf, .ref pg, .int p_18])), (pf, .inl (c4, 2, .inl f_18)), (pg, .inl (c5, 2, .inl g_18))]) [0, 13, 14, 1, 2, 3, 4, 5, 6, 7, 8, 9, 10, 11, 12] rfl
              have hD9 := hD.sub (ws' := [(x, .inr (5, [.ref rk, .ref ba, .ref od, .ref j, .ref ap, .int li, .int pw, .int rs, .int tm, .int (nI sr)])), (rk, .inr (4, [.ref hd, .ref jm])), (hd, .inl (cI, 96, .inl fh)), (jm, .inl (cZ, 4, .inl fj)), (ba, .inl (cB, 2, .inr (.inr (.inr (.inr (va_up (va_up (fun _ => none) 0 (some b0)) 1 (some b1))))))), (b0, .inr (0, [.int bd0, .int bt0, .int bp0, .int bk0, .int bf0, .int bc0])), (b1, .inr (0, [.int bd1, .int bt1, .int bp1, .int bk1, .int bf1, .int bc1])), (od, .inr (2, [.ref ts, .ref bs, .ref ks, .int (nI n)])), (ts, .inl (c1, 24, .inl ft)), (bs, .inl (c2, 24, .inl fb)), (ks, .inl (c3, 24, .inl fk)), (j, .inr (1, [.ref pl, .int jo, .int jc, .int js, .int jt])), (pl, .inr (3, [.ref pf, .ref pg, .int p_18])), (pf, .inl (c4, 2, .inl f_18)), (pg, .inl (c5, 2, .inl g_18))]) [0, 13, 14, 1, 2, 3, 4, 5, 6, 7, 8, 9, 10, 11, 12] (by decide) rfl
              have hK9 := hK.sub (tys' := []) [] rfl
              refine W.widen (k := 0) (n := 0) (by omega) (by omega) ?_
              exact W.iret (v := nI j_14) hx hb hr (fun t ht hW => ⟨⟨nI j_14, (p_18, f_18, g_18), rfl, ⟨Or.inr ⟨j_14, by omega, rfl⟩, hp_18, hf_18, hg_18⟩, by rw [ht]; exact hP9, va_K.moved hW.alike hK9, hD9⟩, hS.F ht⟩) hS.2.2 dX7_cellToFetchFrom_89
            · have c_19 : (r_18 = 0) := c_19
              refine lv_iconst (v := (-1)) hx hb dX7_cellToFetchFrom_86 (by decide) ?_
              have hP9 := hP.sub (ws' := [(x, .inr (5, [.ref rk, .ref ba, .ref od, .ref j, .ref ap, .int li, .int pw, .int rs, .int tm, .int (nI sr)])), (rk, .inr (4, [.ref hd, .ref jm])), (hd, .inl (cI, 96, .inl fh)), (jm, .inl (cZ, 4, .inl fj)), (ba, .inl (cB, 2, .inr (.inr (.inr (.inr (va_up (va_up (fun _ => none) 0 (some b0)) 1 (some b1))))))), (b0, .inr (0, [.int bd0, .int bt0, .int bp0, .int bk0, .int bf0, .int bc0])), (b1, .inr (0, [.int bd1, .int bt1, .int bp1, .int bk1, .int bf1, .int bc1])), (od, .inr (2, [.ref ts, .ref bs, .ref ks, .int (nI n)])), (ts, .inl (c1, 24, .inl ft)), (bs, .inl (c2, 24, .inl fb)), (ks, .inl (c3, 24, .inl fk)), (j, .inr (1, [.ref pl, .int jo, .int jc, .int js, .int jt])), (pl, .inr (3, [.ref pf, .ref pg, .int p_18])), (pf, .inl (c4, 2, .inl f_18)), (pg, .inl (c5, 2, .inl g_18))]) [0, 13, 14, 1, 2, 3, 4, 5, 6, 7, 8, 9, 10, 11, 12] rfl
              have hD9 := hD.sub (ws' := [(x, .inr (5, [.ref rk, .ref ba, .ref od, .ref j, .ref ap, .int li, .int pw, .int rs, .int tm, .int (nI sr)])), (rk, .inr (4, [.ref hd, .ref jm])), (hd, .inl (cI, 96, .inl fh)), (jm, .inl (cZ, 4, .inl fj)), (ba, .inl (cB, 2, .inr (.inr (.inr (.inr (va_up (va_up (fun _ => none) 0 (some b0)) 1 (some b1))))))), (b0, .inr (0, [.int bd0, .int bt0, .int bp0, .int bk0, .int bf0, .int bc0])), (b1, .inr (0, [.int bd1, .int bt1, .int bp1, .int bk1, .int bf1, .int bc1])), (od, .inr (2, [.ref ts, .ref bs, .ref ks, .int (nI n)])), (ts, .inl (c1, 24, .inl ft)), (bs, .inl (c2, 24, .inl fb)), (ks, .inl (c3, 24, .inl fk)), (j, .inr (1, [.ref pl, .int jo, .int jc, .int js, .int jt])), (pl, .inr (3, [.ref pf, .ref pg, .int p_18])), (pf, .inl (c4, 2, .inl f_18)), (pg, .inl (c5, 2, .inl g_18))]) [0, 13, 14, 1, 2, 3, 4, 5, 6, 7, 8, 9, 10, 11, 12] (by decide) rfl
              have hK9 := hK.sub (tys' := []) [] rfl
              refine W.widen (k := 0) (n := 0) (by omega) (by omega) ?_
              exact W.iret (v := (-1)) hx hb hr (fun t ht hW => ⟨⟨(-1), (p_18, f_18, g_18), rfl, ⟨Or.inl rfl, hp_18, hf_18, hg_18⟩, by rw [ht]; exact hP9, va_K.moved hW.alike hK9, hD9⟩, hS.F ht⟩) hS.2.2 dX7_cellToFetchFrom_87
