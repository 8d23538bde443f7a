set_option maxHeartbeats 4000000 in
set_option maxRecDepth 100000 in
theorem c_fitsAny (l : Launch) (dC : Nat → ClassId) (dI : Nat → Nat → Nat) (h w : Int32) : Met l yX7_fitsAnyLevel wsX7_fitsAnyLevel ({ frames := 1, cells := 0, slots := 0, locals := 24 }) (va_Pc [.int h, .int w] (pt_B (dC, dI) [] [])) (vp_Si (fun r : Int32 => r = (if h ≤ 210 ∧ w ≤ 3000 then 1 else 0))) 0 0 (fun _ => False) := by
  refine Met.ofW (cc := cX7_fitsAnyLevel) (maxL := 3) (ret := (some .boolean)) (by decide) rfl ?_
  intro p e s m args below meth c s₁ B hml hv
  obtain ⟨rfl, hP, hK, hN⟩ := hv
  have hx := B.exec
  have hb := B.bytes
  have hr := B.returns
  have hts := atoms_spec (ws := wsX7_fitsAnyLevel) B.pre
  have hown : s.vm.findClass RX7 = some m.cls := findClass_of_methodNamed B.named
  have hlocks := B.notSynchronized
  have hP : va_P (dC, dI) vwCl [] s.heap := hP
  have hK : va_K (dC, dI) vwCl [] s := hK
  have hl := lv_entry ([.int h, .int w]) (n := 3) (Nat.le_of_ble_eq_true rfl)
  rw [lg_entry_eq]
  generalize (lg_sl ([.int h, .int w]) ++ List.replicate (3 - (lg_sl ([.int h, .int w])).length) Slot.unset).toArray = ls at hl ⊢
  have hl : lv_has ls 3 [(0, .int h), (1, .int w)] := hl
  refine lv_iconst (v := 0) hx hb dX7_fitsAnyLevel_0 (by decide) ?_
  refine lv_istore_n (lv' := [(2, .int 0), (0, .int h), (1, .int w)]) hx hb dX7_fitsAnyLevel_1 rfl hl (by decide) rfl (fun ls hl => ?_)
  refine lv_iload_n hx hb dX7_fitsAnyLevel_2 rfl (lv_at hl 0 rfl) ?_
  refine lv_iconst (v := 4) hx hb dX7_fitsAnyLevel_3 (by decide) ?_
  refine lv_icmp_ge (tgt := 24) hx hb dX7_fitsAnyLevel_4 (by decide) (fun c => absurd c (by decide)) (fun _ => ?_)
  refine lv_iload_n hx hb dX7_fitsAnyLevel_7 rfl (lv_at hl 0 rfl) ?_
  refine lv_iload_n hx hb dX7_fitsAnyLevel_8 rfl (lv_at hl 1 rfl) ?_
  refine lv_iload_n hx hb dX7_fitsAnyLevel_9 rfl (lv_at hl 2 rfl) ?_
  refine pt_cSi (va_runS (As := [.int 0, .int h, .int w]) (rest := []) ⟨hx, hb, hml, hown, hts⟩ (c_fits0 l dC dI h w) (cwS 3 hts gX7_fitsAnyLevel_X7_fitsLevel rfl rfl rfl (by decide +kernel) ⟨Nat.le_of_ble_eq_true rfl, Nat.le_of_ble_eq_true rfl⟩) ⟨pt_blind, pt_pre (w := []) (tys := []) (hP.sub [] rfl) (hK.sub [] rfl) hN⟩ rfl rfl hl.1 rfl (lv_room (Nat.le_of_ble_eq_true rfl)) dX7_fitsAnyLevel_10 ⟨Nat.le_of_ble_eq_true rfl, Nat.le_of_ble_eq_true rfl⟩) (fun r_1 hr_1 => ?_)
  by_cases g_1 : h ≤ 160 ∧ w ≤ 2000
  · obtain rfl : r_1 = 1 := hr_1.trans (if_pos g_1)
    refine lv_if_eq (tgt := 18) hx hb dX7_fitsAnyLevel_13 (by decide) (fun c => absurd c (by decide)) (fun _ => ?_)
    refine lv_iconst (v := 1) hx hb dX7_fitsAnyLevel_16 (by decide) ?_
    exact W.zret (v := 1) (ty := .boolean) hx hb hr rfl (fun t ht hW => ⟨1, rfl, (if_pos ⟨Int32.le_trans g_1.1 (by decide), Int32.le_trans g_1.2 (by decide)⟩).symm, ht⟩) (fun q h => by cases h) dX7_fitsAnyLevel_17
  · obtain rfl : r_1 = 0 := hr_1.trans (if_neg g_1)
    refine lv_if_eq (tgt := 18) hx hb dX7_fitsAnyLevel_13 (by decide) (fun _ => ?_) (fun c => absurd (by decide) c)
    refine lv_iinc (v := 1) (lv' := [(2, .int 1), (0, .int h), (1, .int w)]) hx hb dX7_fitsAnyLevel_18 hl (k := 0) rfl (by decide) (by decide) rfl (fun ls hl => ?_)
    refine lv_goto (tgt := 2) hx hb dX7_fitsAnyLevel_21 (by decide) ?_
    refine lv_iload_n hx hb dX7_fitsAnyLevel_2 rfl (lv_at hl 0 rfl) ?_
    refine lv_iconst (v := 4) hx hb dX7_fitsAnyLevel_3 (by decide) ?_
    refine lv_icmp_ge (tgt := 24) hx hb dX7_fitsAnyLevel_4 (by decide) (fun c => absurd c (by decide)) (fun _ => ?_)
    refine lv_iload_n hx hb dX7_fitsAnyLevel_7 rfl (lv_at hl 0 rfl) ?_
    refine lv_iload_n hx hb dX7_fitsAnyLevel_8 rfl (lv_at hl 1 rfl) ?_
    refine lv_iload_n hx hb dX7_fitsAnyLevel_9 rfl (lv_at hl 2 rfl) ?_
    refine pt_cSi (va_runS (As := [.int 1, .int h, .int w]) (rest := []) ⟨hx, hb, hml, hown, hts⟩ (c_fits1 l dC dI h w) (cwS 3 hts gX7_fitsAnyLevel_X7_fitsLevel rfl rfl rfl (by decide +kernel) ⟨Nat.le_of_ble_eq_true rfl, Nat.le_of_ble_eq_true rfl⟩) ⟨pt_blind, pt_pre (w := []) (tys := []) (hP.sub [] rfl) (hK.sub [] rfl) hN⟩ rfl rfl hl.1 rfl (lv_room (Nat.le_of_ble_eq_true rfl)) dX7_fitsAnyLevel_10 ⟨Nat.le_of_ble_eq_true rfl, Nat.le_of_ble_eq_true rfl⟩) (fun r_2 hr_2 => ?_)
    by_cases g_2 : h ≤ 160 ∧ w ≤ 3000
    · obtain rfl : r_2 = 1 := hr_2.trans (if_pos g_2)
      refine lv_if_eq (tgt := 18) hx hb dX7_fitsAnyLevel_13 (by decide) (fun c => absurd c (by decide)) (fun _ => ?_)
      refine lv_iconst (v := 1) hx hb dX7_fitsAnyLevel_16 (by decide) ?_
      exact W.zret (v := 1) (ty := .boolean) hx hb hr rfl (fun t ht hW => ⟨1, rfl, (if_pos ⟨Int32.le_trans g_2.1 (by decide), Int32.le_trans g_2.2 (by decide)⟩).symm, ht⟩) (fun q h => by cases h) dX7_fitsAnyLevel_17
    · obtain rfl : r_2 = 0 := hr_2.trans (if_neg g_2)
      refine lv_if_eq (tgt := 18) hx hb dX7_fitsAnyLevel_13 (by decide) (fun _ => ?_) (fun c => absurd (by decide) c)
      refine lv_iinc (v := 2) (lv' := [(2, .int 2), (0, .int h), (1, .int w)]) hx hb dX7_fitsAnyLevel_18 hl (k := 0) rfl (by decide) (by decide) rfl (fun ls hl => ?_)
      refine lv_goto (tgt := 2) hx hb dX7_fitsAnyLevel_21 (by decide) ?_
      refine lv_iload_n hx hb dX7_fitsAnyLevel_2 rfl (lv_at hl 0 rfl) ?_
      refine lv_iconst (v := 4) hx hb dX7_fitsAnyLevel_3 (by decide) ?_
      refine lv_icmp_ge (tgt := 24) hx hb dX7_fitsAnyLevel_4 (by decide) (fun c => absurd c (by decide)) (fun _ => ?_)
      refine lv_iload_n hx hb dX7_fitsAnyLevel_7 rfl (lv_at hl 0 rfl) ?_
      refine lv_iload_n hx hb dX7_fitsAnyLevel_8 rfl (lv_at hl 1 rfl) ?_
      refine lv_iload_n hx hb dX7_fitsAnyLevel_9 rfl (lv_at hl 2 rfl) ?_
      refine pt_cSi (va_runS (As := [.int 2, .int h, .int w]) (rest := []) ⟨hx, hb, hml, hown, hts⟩ (c_fits2 l dC dI h w) (cwS 3 hts gX7_fitsAnyLevel_X7_fitsLevel rfl rfl rfl (by decide +kernel) ⟨Nat.le_of_ble_eq_true rfl, Nat.le_of_ble_eq_true rfl⟩) ⟨pt_blind, pt_pre (w := []) (tys := []) (hP.sub [] rfl) (hK.sub [] rfl) hN⟩ rfl rfl hl.1 rfl (lv_room (Nat.le_of_ble_eq_true rfl)) dX7_fitsAnyLevel_10 ⟨Nat.le_of_ble_eq_true rfl, Nat.le_of_ble_eq_true rfl⟩) (fun r_3 hr_3 => ?_)
      by_cases g_3 : h ≤ 210 ∧ w ≤ 2000
      · obtain rfl : r_3 = 1 := hr_3.trans (if_pos g_3)
        refine lv_if_eq (tgt := 18) hx hb dX7_fitsAnyLevel_13 (by decide) (fun c => absurd c (by decide)) (fun _ => ?_)
        refine lv_iconst (v := 1) hx hb dX7_fitsAnyLevel_16 (by decide) ?_
        exact W.zret (v := 1) (ty := .boolean) hx hb hr rfl (fun t ht hW => ⟨1, rfl, (if_pos ⟨Int32.le_trans g_3.1 (by decide), Int32.le_trans g_3.2 (by decide)⟩).symm, ht⟩) (fun q h => by cases h) dX7_fitsAnyLevel_17
      · obtain rfl : r_3 = 0 := hr_3.trans (if_neg g_3)
        refine lv_if_eq (tgt := 18) hx hb dX7_fitsAnyLevel_13 (by decide) (fun _ => ?_) (fun c => absurd (by decide) c)
        refine lv_iinc (v := 3) (lv' := [(2, .int 3), (0, .int h), (1, .int w)]) hx hb dX7_fitsAnyLevel_18 hl (k := 0) rfl (by decide) (by decide) rfl (fun ls hl => ?_)
        refine lv_goto (tgt := 2) hx hb dX7_fitsAnyLevel_21 (by decide) ?_
        refine lv_iload_n hx hb dX7_fitsAnyLevel_2 rfl (lv_at hl 0 rfl) ?_
        refine lv_iconst (v := 4) hx hb dX7_fitsAnyLevel_3 (by decide) ?_
        refine lv_icmp_ge (tgt := 24) hx hb dX7_fitsAnyLevel_4 (by decide) (fun c => absurd c (by decide)) (fun _ => ?_)
        refine lv_iload_n hx hb dX7_fitsAnyLevel_7 rfl (lv_at hl 0 rfl) ?_
        refine lv_iload_n hx hb dX7_fitsAnyLevel_8 rfl (lv_at hl 1 rfl) ?_
        refine lv_iload_n hx hb dX7_fitsAnyLevel_9 rfl (lv_at hl 2 rfl) ?_
        refine pt_cSi (va_runS (As := [.int 3, .int h, .int w]) (rest := []) ⟨hx, hb, hml, hown, hts⟩ (c_fits3 l dC dI h w) (cwS 3 hts gX7_fitsAnyLevel_X7_fitsLevel rfl rfl rfl (by decide +kernel) ⟨Nat.le_of_ble_eq_true rfl, Nat.le_of_ble_eq_true rfl⟩) ⟨pt_blind, pt_pre (w := []) (tys := []) (hP.sub [] rfl) (hK.sub [] rfl) hN⟩ rfl rfl hl.1 rfl (lv_room (Nat.le_of_ble_eq_true rfl)) dX7_fitsAnyLevel_10 ⟨Nat.le_of_ble_eq_true rfl, Nat.le_of_ble_eq_true rfl⟩) (fun r_4 hr_4 => ?_)
        by_cases g_4 : h ≤ 210 ∧ w ≤ 3000
        · obtain rfl : r_4 = 1 := hr_4.trans (if_pos g_4)
          refine lv_if_eq (tgt := 18) hx hb dX7_fitsAnyLevel_13 (by decide) (fun c => absurd c (by decide)) (fun _ => ?_)
          refine lv_iconst (v := 1) hx hb dX7_fitsAnyLevel_16 (by decide) ?_
          exact W.zret (v := 1) (ty := .boolean) hx hb hr rfl (fun t ht hW => ⟨1, rfl, (if_pos ⟨Int32.le_trans g_4.1 (by decide), Int32.le_trans g_4.2 (by decide)⟩).symm, ht⟩) (fun q h => by cases h) dX7_fitsAnyLevel_17
        · obtain rfl : r_4 = 0 := hr_4.trans (if_neg g_4)
          refine lv_if_eq (tgt := 18) hx hb dX7_fitsAnyLevel_13 (by decide) (fun _ => ?_) (fun c => absurd (by decide) c)
          refine lv_iinc (v := 4) (lv' := [(2, .int 4), (0, .int h), (1, .int w)]) hx hb dX7_fitsAnyLevel_18 hl (k := 0) rfl (by decide) (by decide) rfl (fun ls hl => ?_)
          refine lv_goto (tgt := 2) hx hb dX7_fitsAnyLevel_21 (by decide) ?_
          refine lv_iload_n hx hb dX7_fitsAnyLevel_2 rfl (lv_at hl 0 rfl) ?_
          refine lv_iconst (v := 4) hx hb dX7_fitsAnyLevel_3 (by decide) ?_
          refine lv_icmp_ge (tgt := 24) hx hb dX7_fitsAnyLevel_4 (by decide) (fun _ => ?_) (fun c => absurd (by decide) c)
          refine lv_iconst (v := 0) hx hb dX7_fitsAnyLevel_24 (by decide) ?_
          exact W.zret (v := 0) (ty := .boolean) hx hb hr rfl (fun t ht hW => ⟨0, rfl, (if_neg g_4).symm, ht⟩) (fun q h => by cases h) dX7_fitsAnyLevel_25
set_option maxHeartbeats 4000000 in
set_option maxRecDepth 100000 in
theorem c_levelOfFetch (l : Launch) (dC : Nat → ClassId) (dI : Nat → Nat → Nat) (x rk hd jm bs b0 b1 od o1 o2 o3 jb pl ap : Nat) (cI cZ cB : ClassId) : Met l yX7_levelOfFetch wsX7_levelOfFetch ({ frames := 1, cells := 0, slots := 0, locals := 20 }) (va_Pc [.ref x] (pt_B (dC, dI) [(x, .inr (5, [.ref rk, .ref bs, .ref od, .ref jb, .ref ap, .int 0, .int 1, .int 0, .int 0, .int 0])), (rk, .inr (4, [.ref hd, .ref jm])), (hd, .inl (cI, 96, .inl (fun _ => 0))), (jm, .inl (cZ, 4, .inl (fun _ => 0))), (bs, .inl (cB, 2, .inr (.inr (.inr (.inr (va_up (va_up (fun _ => none) 0 (some b0)) 1 (some b1))))))), (b0, .inr (0, [.int 2, .int 0, .int 0, .int 0, .int 0, .int (-1)])), (b1, .inr (0, [.int 2, .int 0, .int 0, .int 0, .int 0, .int (-1)])), (od, .inr (2, [.ref o1, .ref o2, .ref o3, .int 0])), (jb, .inr (1, [.ref pl, .int (-1), .int 0, .int 0, .int 0]))] [(cI, .int), (cZ, .boolean), (cB, .object "ParkTower$Bay")])) (vp_Si (fun r : Int32 => r = (-1))) 0 0 (fun _ => False) := by
  refine Met.ofW (cc := cX7_levelOfFetch) (maxL := 1) (ret := (some .int)) (by decide) rfl ?_
  intro p e s m args below meth c s₁ B hml hv
  obtain ⟨rfl, hP, hK, hN⟩ := hv
  have hx := B.exec
  have hb := B.bytes
  have hr := B.returns
  have hts := atoms_spec (ws := wsX7_levelOfFetch) B.pre
  have hown : s.vm.findClass RX7 = some m.cls := findClass_of_methodNamed B.named
  have hlocks := B.notSynchronized
  have iX7 : ∀ w ∈ wsX70, w ∈ wsX7_levelOfFetch := by decide +kernel
  have hP : va_P (dC, dI) vwCl [(x, .inr (5, [.ref rk, .ref bs, .ref od, .ref jb, .ref ap, .int 0, .int 1, .int 0, .int 0, .int 0])), (rk, .inr (4, [.ref hd, .ref jm])), (hd, .inl (cI, 96, .inl (fun _ => 0))), (jm, .inl (cZ, 4, .inl (fun _ => 0))), (bs, .inl (cB, 2, .inr (.inr (.inr (.inr (va_up (va_up (fun _ => none) 0 (some b0)) 1 (some b1))))))), (b0, .inr (0, [.int 2, .int 0, .int 0, .int 0, .int 0, .int (-1)])), (b1, .inr (0, [.int 2, .int 0, .int 0, .int 0, .int 0, .int (-1)])), (od, .inr (2, [.ref o1, .ref o2, .ref o3, .int 0])), (jb, .inr (1, [.ref pl, .int (-1), .int 0, .int 0, .int 0]))] s.heap := hP
  have hK : va_K (dC, dI) vwCl [(cI, .int), (cZ, .boolean), (cB, .object "ParkTower$Bay")] s := hK
  have hl := lv_entry ([.ref x]) (n := 1) (Nat.le_of_ble_eq_true rfl)
  rw [lg_entry_eq]
  generalize (lg_sl ([.ref x]) ++ List.replicate (1 - (lg_sl ([.ref x])).length) Slot.unset).toArray = ls at hl ⊢
  have hl : lv_has ls 1 [(0, .ref x)] := hl
  refine lv_aload_n hx hb dX7_levelOfFetch_0 rfl (lv_at hl 0 rfl) ?_
  refine va_get (D := (dC, dI)) (ci := 5) (v := .ref jb) (C := RX7) (T := TX7) (N := 10) hx hb hts iX7 hown hK hP 0 rfl rfl 3 (by decide) (hts (.fieldLink RX7 33 "ParkTower" "job" "LParkTower$Job;") (by decide +kernel)) (fun _ h9 => h9) rfl dX7_levelOfFetch_1 ?_
  refine pt_cSi (va_runV (As := []) (rest := []) ⟨hx, hb, hml, hown, hts⟩ (c_isIdle l dC dI jb pl) (cwV 0 hts gX7_levelOfFetch_X2_isIdle rfl rfl rfl (by decide +kernel) ⟨Nat.le_of_ble_eq_true rfl, Nat.le_of_ble_eq_true rfl⟩) ⟨pt_blind, va_recv hK hP (ci := 1) (q0 := 8) rfl rfl, pt_pre (w := [(jb, .inr (1, [.ref pl, .int (-1), .int 0, .int 0, .int 0]))]) (tys := []) (hP.sub [8] rfl) (hK.sub [] rfl) hN⟩ rfl rfl hl.1 rfl (lv_room (Nat.le_of_ble_eq_true rfl)) dX7_levelOfFetch_4 ⟨Nat.le_of_ble_eq_true rfl, Nat.le_of_ble_eq_true rfl⟩) (fun r_1 hr_1 => ?_)
  obtain rfl : r_1 = 1 := hr_1
  refine lv_if_ne (tgt := 27) hx hb dX7_levelOfFetch_7 (by decide) (fun _ => ?_) (fun c => absurd c (by decide))
  refine lv_iconst (v := (-1)) hx hb dX7_levelOfFetch_27 (by decide) ?_
  exact W.iret (v := (-1)) hx hb hr (fun t ht hW => ⟨(-1), rfl, rfl, ht⟩) (fun q h => by cases h) dX7_levelOfFetch_28
set_option maxHeartbeats 4000000 in
set_option maxRecDepth 100000 in
theorem c_cellFor (l : Launch) (dC : Nat → ClassId) (dI : Nat → Nat → Nat) (x rk hd jm bs b0 b1 od o1 o2 o3 jb pl ap : Nat) (cI cZ cB : ClassId) (h w : Int32) (hF : h ≤ 210 ∧ w ≤ 3000) : Met l yX7_cellFor wsX7_cellFor ({ frames := 2, cells := 0, slots := 0, locals := 45 }) (va_Pc [.ref x, .int h, .int w] (pt_B (dC, dI) [(x, .inr (5, [.ref rk, .ref bs, .ref od, .ref jb, .ref ap, .int 0, .int 1, .int 0, .int 0, .int 0])), (rk, .inr (4, [.ref hd, .ref jm])), (hd, .inl (cI, 96, .inl (fun _ => 0))), (jm, .inl (cZ, 4, .inl (fun _ => 0))), (bs, .inl (cB, 2, .inr (.inr (.inr (.inr (va_up (va_up (fun _ => none) 0 (some b0)) 1 (some b1))))))), (b0, .inr (0, [.int 2, .int 0, .int 0, .int 0, .int 0, .int (-1)])), (b1, .inr (0, [.int 2, .int 0, .int 0, .int 0, .int 0, .int (-1)])), (od, .inr (2, [.ref o1, .ref o2, .ref o3, .int 0])), (jb, .inr (1, [.ref pl, .int (-1), .int 0, .int 0, .int 0]))] [(cI, .int), (cZ, .boolean), (cB, .object "ParkTower$Bay")])) (vp_Si (fun r : Int32 => r = 1 ∨ r = 25 ∨ r = 49 ∨ r = 73)) 0 0 (fun _ => False) := by
  refine Met.ofW (cc := cX7_cellFor) (maxL := 5) (ret := (some .int)) (by decide) rfl ?_
  intro p e s m args below meth c s₁ B hml hv
  obtain ⟨rfl, hP, hK, hN⟩ := hv
  have hx := B.exec
  have hb := B.bytes
  have hr := B.returns
  have hts := atoms_spec (ws := wsX7_cellFor) B.pre
  have hown : s.vm.findClass RX7 = some m.cls := findClass_of_methodNamed B.named
  have hlocks := B.notSynchronized
  have iX7 : ∀ w ∈ wsX70, w ∈ wsX7_cellFor := by decide +kernel
  have hP : va_P (dC, dI) vwCl [(x, .inr (5, [.ref rk, .ref bs, .ref od, .ref jb, .ref ap, .int 0, .int 1, .int 0, .int 0, .int 0])), (rk, .inr (4, [.ref hd, .ref jm])), (hd, .inl (cI, 96, .inl (fun _ => 0))), (jm, .inl (cZ, 4, .inl (fun _ => 0))), (bs, .inl (cB, 2, .inr (.inr (.inr (.inr (va_up (va_up (fun _ => none) 0 (some b0)) 1 (some b1))))))), (b0, .inr (0, [.int 2, .int 0, .int 0, .int 0, .int 0, .int (-1)])), (b1, .inr (0, [.int 2, .int 0, .int 0, .int 0, .int 0, .int (-1)])), (od, .inr (2, [.ref o1, .ref o2, .ref o3, .int 0])), (jb, .inr (1, [.ref pl, .int (-1), .int 0, .int 0, .int 0]))] s.heap := hP
  have hK : va_K (dC, dI) vwCl [(cI, .int), (cZ, .boolean), (cB, .object "ParkTower$Bay")] s := hK
  have hl := lv_entry ([.ref x, .int h, .int w]) (n := 5) (Nat.le_of_ble_eq_true rfl)
  rw [lg_entry_eq]
  generalize (lg_sl ([.ref x, .int h, .int w]) ++ List.replicate (5 - (lg_sl ([.ref x, .int h, .int w])).length) Slot.unset).toArray = ls at hl ⊢
  have hl : lv_has ls 5 [(0, .ref x), (1, .int h), (2, .int w)] := hl
  refine lv_iconst (v := 0) hx hb dX7_cellFor_0 (by decide) ?_
  refine lv_istore_n (lv' := [(3, .int 0), (0, .ref x), (1, .int h), (2, .int w)]) hx hb dX7_cellFor_1 rfl hl (by decide) rfl (fun ls hl => ?_)
  refine lv_iload_n hx hb dX7_cellFor_2 rfl (lv_at hl 0 rfl) ?_
  refine lv_iconst (v := 4) hx hb dX7_cellFor_3 (by decide) ?_
  refine lv_icmp_ge (tgt := 60) hx hb dX7_cellFor_4 (by decide) (fun c => absurd c (by decide)) (fun _ => ?_)
  refine lv_iload_n hx hb dX7_cellFor_7 rfl (lv_at hl 0 rfl) ?_
  refine lv_iload_n hx hb dX7_cellFor_8 rfl (lv_at hl 2 rfl) ?_
  refine lv_iload_n hx hb dX7_cellFor_9 rfl (lv_at hl 3 rfl) ?_
  refine pt_cSi (va_runS (As := [.int 0, .int h, .int w]) (rest := []) ⟨hx, hb, hml, hown, hts⟩ (c_fits0 l dC dI h w) (cwS 3 hts gX7_cellFor_X7_fitsLevel rfl rfl rfl (by decide +kernel) ⟨Nat.le_of_ble_eq_true rfl, Nat.le_of_ble_eq_true rfl⟩) ⟨pt_blind, pt_pre (w := []) (tys := []) (hP.sub [] rfl) (hK.sub [] rfl) hN⟩ rfl rfl hl.1 rfl (lv_room (Nat.le_of_ble_eq_true rfl)) dX7_cellFor_10 ⟨Nat.le_of_ble_eq_true rfl, Nat.le_of_ble_eq_true rfl⟩) (fun r_1 hr_1 => ?_)
  by_cases g_1 : h ≤ 160 ∧ w ≤ 2000
  · obtain rfl : r_1 = 1 := hr_1.trans (if_pos g_1)
    refine lv_if_eq (tgt := 54) hx hb dX7_cellFor_13 (by decide) (fun c => absurd c (by decide)) (fun _ => ?_)
    refine lv_iload_n hx hb dX7_cellFor_16 rfl (lv_at hl 0 rfl) ?_
    refine lv_aload_n hx hb dX7_cellFor_17 rfl (lv_at hl 1 rfl) ?_
    refine pt_cSi (va_runV (As := []) (rest := [.int 0]) ⟨hx, hb, hml, hown, hts⟩ (c_levelOfFetch l dC dI x rk hd jm bs b0 b1 od o1 o2 o3 jb pl ap cI cZ cB) (cwV 0 hts gX7_cellFor_X7_levelOfFetch rfl rfl rfl (by decide +kernel) ⟨Nat.le_of_ble_eq_true rfl, Nat.le_of_ble_eq_true rfl⟩) ⟨pt_blind, va_recv hK hP (ci := 5) (q0 := 0) rfl rfl, pt_pre (w := [(x, .inr (5, [.ref rk, .ref bs, .ref od, .ref jb, .ref ap, .int 0, .int 1, .int 0, .int 0, .int 0])), (rk, .inr (4, [.ref hd, .ref jm])), (hd, .inl (cI, 96, .inl (fun _ => 0))), (jm, .inl (cZ, 4, .inl (fun _ => 0))), (bs, .inl (cB, 2, .inr (.inr (.inr (.inr (va_up (va_up (fun _ => none) 0 (some b0)) 1 (some b1))))))), (b0, .inr (0, [.int 2, .int 0, .int 0, .int 0, .int 0, .int (-1)])), (b1, .inr (0, [.int 2, .int 0, .int 0, .int 0, .int 0, .int (-1)])), (od, .inr (2, [.ref o1, .ref o2, .ref o3, .int 0])), (jb, .inr (1, [.ref pl, .int (-1), .int 0, .int 0, .int 0]))]) (tys := [(cI, .int), (cZ, .boolean), (cB, .object "ParkTower$Bay")]) (hP.sub [0, 1, 2, 3, 4, 5, 6, 7, 8] rfl) (hK.sub [0, 1, 2] rfl) hN⟩ rfl rfl hl.1 rfl (lv_room (Nat.le_of_ble_eq_true rfl)) dX7_cellFor_18 ⟨Nat.le_of_ble_eq_true rfl, Nat.le_of_ble_eq_true rfl⟩) (fun r_2 hr_2 => ?_)
    obtain rfl : r_2 = (-1) := hr_2
    refine lv_icmp_eq (tgt := 54) hx hb dX7_cellFor_21 (by decide) (fun c => absurd c (by decide)) (fun _ => ?_)
    refine lv_aload_n hx hb dX7_cellFor_24 rfl (lv_at hl 1 rfl) ?_
    refine va_get (D := (dC, dI)) (ci := 5) (v := .ref rk) (C := RX7) (T := TX7) (N := 10) hx hb hts iX7 hown hK hP 0 rfl rfl 0 (by decide) (hts (.fieldLink RX7 10 "ParkTower" "rack" "LParkTower$Rack;") (by decide +kernel)) (fun _ h9 => h9) rfl dX7_cellFor_25 ?_
    refine lv_iload_n hx hb dX7_cellFor_28 rfl (lv_at hl 0 rfl) ?_
    refine pt_cSi (va_runV (As := [.int 0]) (rest := []) ⟨hx, hb, hml, hown, hts⟩ (c_hasRoom0 l dC dI rk hd jm cI cZ) (cwV 1 hts gX7_cellFor_X5_hasRoom rfl rfl rfl (by decide +kernel) ⟨Nat.le_of_ble_eq_true rfl, Nat.le_of_ble_eq_true rfl⟩) ⟨pt_blind, va_recv hK hP (ci := 4) (q0 := 1) rfl rfl, pt_pre (w := [(rk, .inr (4, [.ref hd, .ref jm])), (hd, .inl (cI, 96, .inl (fun _ => 0))), (jm, .inl (cZ, 4, .inl (fun _ => 0)))]) (tys := [(cI, .int), (cZ, .boolean)]) (hP.sub [1, 2, 3] rfl) (hK.sub [0, 1] rfl) hN⟩ rfl rfl hl.1 rfl (lv_room (Nat.le_of_ble_eq_true rfl)) dX7_cellFor_29 ⟨Nat.le_of_ble_eq_true rfl, Nat.le_of_ble_eq_true rfl⟩) (fun r_3 hr_3 => ?_)
    obtain rfl : r_3 = 1 := hr_3
    refine lv_if_eq (tgt := 54) hx hb dX7_cellFor_32 (by decide) (fun c => absurd c (by decide)) (fun _ => ?_)
    refine lv_aload_n hx hb dX7_cellFor_35 rfl (lv_at hl 1 rfl) ?_
    refine va_get (D := (dC, dI)) (ci := 5) (v := .ref rk) (C := RX7) (T := TX7) (N := 10) hx hb hts iX7 hown hK hP 0 rfl rfl 0 (by decide) (hts (.fieldLink RX7 10 "ParkTower" "rack" "LParkTower$Rack;") (by decide +kernel)) (fun _ h9 => h9) rfl dX7_cellFor_36 ?_
    refine lv_iload_n hx hb dX7_cellFor_39 rfl (lv_at hl 0 rfl) ?_
    refine pt_cSi (va_runV (As := [.int 0]) (rest := []) ⟨hx, hb, hml, hown, hts⟩ (c_firstCell0 l dC dI rk hd jm cI) (cwV 1 hts gX7_cellFor_X5_firstCellToStore rfl rfl rfl (by decide +kernel) ⟨Nat.le_of_ble_eq_true rfl, Nat.le_of_ble_eq_true rfl⟩) ⟨pt_blind, va_recv hK hP (ci := 4) (q0 := 1) rfl rfl, pt_pre (w := [(rk, .inr (4, [.ref hd, .ref jm])), (hd, .inl (cI, 96, .inl (fun _ => 0)))]) (tys := [(cI, .int)]) (hP.sub [1, 2] rfl) (hK.sub [0] rfl) hN⟩ rfl rfl hl.1 rfl (lv_room (Nat.le_of_ble_eq_true rfl)) dX7_cellFor_40 ⟨Nat.le_of_ble_eq_true rfl, Nat.le_of_ble_eq_true rfl⟩) (fun r_4 hr_4 => ?_)
    obtain rfl : r_4 = 1 := hr_4
    refine lv_istore (lv' := [(4, .int 1), (3, .int 0), (0, .ref x), (1, .int h), (2, .int w)]) hx hb dX7_cellFor_43 hl (by decide) rfl (fun ls hl => ?_)
    refine lv_iload hx hb dX7_cellFor_45 (lv_at hl 0 rfl) ?_
    refine lv_iconst (v := (-1)) hx hb dX7_cellFor_47 (by decide) ?_
    refine lv_icmp_eq (tgt := 54) hx hb dX7_cellFor_48 (by decide) (fun c => absurd c (by decide)) (fun _ => ?_)
    refine lv_iload hx hb dX7_cellFor_51 (lv_at hl 0 rfl) ?_
    exact W.iret (v := 1) hx hb hr (fun t ht hW => ⟨1, rfl, by decide, ht⟩) (fun q h => by cases h) dX7_cellFor_53
  · obtain rfl : r_1 = 0 := hr_1.trans (if_neg g_1)
    refine lv_if_eq (tgt := 54) hx hb dX7_cellFor_13 (by decide) (fun _ => ?_) (fun c => absurd (by decide) c)
    refine lv_iinc (v := 1) (lv' := [(3, .int 1), (0, .ref x), (1, .int h), (2, .int w)]) hx hb dX7_cellFor_54 hl (k := 0) rfl (by decide) (by decide) rfl (fun ls hl => ?_)
    refine lv_goto (tgt := 2) hx hb dX7_cellFor_57 (by decide) ?_
    refine lv_iload_n hx hb dX7_cellFor_2 rfl (lv_at hl 0 rfl) ?_
    refine lv_iconst (v := 4) hx hb dX7_cellFor_3 (by decide) ?_
    refine lv_icmp_ge (tgt := 60) hx hb dX7_cellFor_4 (by decide) (fun c => absurd c (by decide)) (fun _ => ?_)
    refine lv_iload_n hx hb dX7_cellFor_7 rfl (lv_at hl 0 rfl) ?_
    refine lv_iload_n hx hb dX7_cellFor_8 rfl (lv_at hl 2 rfl) ?_
    refine lv_iload_n hx hb dX7_cellFor_9 rfl (lv_at hl 3 rfl) ?_
    refine pt_cSi (va_runS (As := [.int 1, .int h, .int w]) (rest := []) ⟨hx, hb, hml, hown, hts⟩ (c_fits1 l dC dI h w) (cwS 3 hts gX7_cellFor_X7_fitsLevel rfl rfl rfl (by decide +kernel) ⟨Nat.le_of_ble_eq_true rfl, Nat.le_of_ble_eq_true rfl⟩) ⟨pt_blind, pt_pre (w := []) (tys := []) (hP.sub [] rfl) (hK.sub [] rfl) hN⟩ rfl rfl hl.1 rfl (lv_room (Nat.le_of_ble_eq_true rfl)) dX7_cellFor_10 ⟨Nat.le_of_ble_eq_true rfl, Nat.le_of_ble_eq_true rfl⟩) (fun r_5 hr_5 => ?_)
    by_cases g_5 : h ≤ 160 ∧ w ≤ 3000
    · obtain rfl : r_5 = 1 := hr_5.trans (if_pos g_5)
      refine lv_if_eq (tgt := 54) hx hb dX7_cellFor_13 (by decide) (fun c => absurd c (by decide)) (fun _ => ?_)
      refine lv_iload_n hx hb dX7_cellFor_16 rfl (lv_at hl 0 rfl) ?_
      refine lv_aload_n hx hb dX7_cellFor_17 rfl (lv_at hl 1 rfl) ?_
      refine pt_cSi (va_runV (As := []) (rest := [.int 1]) ⟨hx, hb, hml, hown, hts⟩ (c_levelOfFetch l dC dI x rk hd jm bs b0 b1 od o1 o2 o3 jb pl ap cI cZ cB) (cwV 0 hts gX7_cellFor_X7_levelOfFetch rfl rfl rfl (by decide +kernel) ⟨Nat.le_of_ble_eq_true rfl, Nat.le_of_ble_eq_true rfl⟩) ⟨pt_blind, va_recv hK hP (ci := 5) (q0 := 0) rfl rfl, pt_pre (w := [(x, .inr (5, [.ref rk, .ref bs, .ref od, .ref jb, .ref ap, .int 0, .int 1, .int 0, .int 0, .int 0])), (rk, .inr (4, [.ref hd, .ref jm])), (hd, .inl (cI, 96, .inl (fun _ => 0))), (jm, .inl (cZ, 4, .inl (fun _ => 0))), (bs, .inl (cB, 2, .inr (.inr (.inr (.inr (va_up (va_up (fun _ => none) 0 (some b0)) 1 (some b1))))))), (b0, .inr (0, [.int 2, .int 0, .int 0, .int 0, .int 0, .int (-1)])), (b1, .inr (0, [.int 2, .int 0, .int 0, .int 0, .int 0, .int (-1)])), (od, .inr (2, [.ref o1, .ref o2, .ref o3, .int 0])), (jb, .inr (1, [.ref pl, .int (-1), .int 0, .int 0, .int 0]))]) (tys := [(cI, .int), (cZ, .boolean), (cB, .object "ParkTower$Bay")]) (hP.sub [0, 1, 2, 3, 4, 5, 6, 7, 8] rfl) (hK.sub [0, 1, 2] rfl) hN⟩ rfl rfl hl.1 rfl (lv_room (Nat.le_of_ble_eq_true rfl)) dX7_cellFor_18 ⟨Nat.le_of_ble_eq_true rfl, Nat.le_of_ble_eq_true rfl⟩) (fun r_6 hr_6 => ?_)
      obtain rfl : r_6 = (-1) := hr_6
      refine lv_icmp_eq (tgt := 54) hx hb dX7_cellFor_21 (by decide) (fun c => absurd c (by decide)) (fun _ => ?_)
      refine lv_aload_n hx hb dX7_cellFor_24 rfl (lv_at hl 1 rfl) ?_
      refine va_get (D := (dC, dI)) (ci := 5) (v := .ref rk) (C := RX7) (T := TX7) (N := 10) hx hb hts iX7 hown hK hP 0 rfl rfl 0 (by decide) (hts (.fieldLink RX7 10 "ParkTower" "rack" "LParkTower$Rack;") (by decide +kernel)) (fun _ h9 => h9) rfl dX7_cellFor_25 ?_
      refine lv_iload_n hx hb dX7_cellFor_28 rfl (lv_at hl 0 rfl) ?_
      refine pt_cSi (va_runV (As := [.int 1]) (rest := []) ⟨hx, hb, hml, hown, hts⟩ (c_hasRoom1 l dC dI rk hd jm cI cZ) (cwV 1 hts gX7_cellFor_X5_hasRoom rfl rfl rfl (by decide +kernel) ⟨Nat.le_of_ble_eq_true rfl, Nat.le_of_ble_eq_true rfl⟩) ⟨pt_blind, va_recv hK hP (ci := 4) (q0 := 1) rfl rfl, pt_pre (w := [(rk, .inr (4, [.ref hd, .ref jm])), (hd, .inl (cI, 96, .inl (fun _ => 0))), (jm, .inl (cZ, 4, .inl (fun _ => 0)))]) (tys := [(cI, .int), (cZ, .boolean)]) (hP.sub [1, 2, 3] rfl) (hK.sub [0, 1] rfl) hN⟩ rfl rfl hl.1 rfl (lv_room (Nat.le_of_ble_eq_true rfl)) dX7_cellFor_29 ⟨Nat.le_of_ble_eq_true rfl, Nat.le_of_ble_eq_true rfl⟩) (fun r_7 hr_7 => ?_)
      obtain rfl : r_7 = 1 := hr_7
      refine lv_if_eq (tgt := 54) hx hb dX7_cellFor_32 (by decide) (fun c => absurd c (by decide)) (fun _ => ?_)
      refine lv_aload_n hx hb dX7_cellFor_35 rfl (lv_at hl 1 rfl) ?_
      refine va_get (D := (dC, dI)) (ci := 5) (v := .ref rk) (C := RX7) (T := TX7) (N := 10) hx hb hts iX7 hown hK hP 0 rfl rfl 0 (by decide) (hts (.fieldLink RX7 10 "ParkTower" "rack" "LParkTower$Rack;") (by decide +kernel)) (fun _ h9 => h9) rfl dX7_cellFor_36 ?_
      refine lv_iload_n hx hb dX7_cellFor_39 rfl (lv_at hl 0 rfl) ?_
      refine pt_cSi (va_runV (As := [.int 1]) (rest := []) ⟨hx, hb, hml, hown, hts⟩ (c_firstCell1 l dC dI rk hd jm cI) (cwV 1 hts gX7_cellFor_X5_firstCellToStore rfl rfl rfl (by decide +kernel) ⟨Nat.le_of_ble_eq_true rfl, Nat.le_of_ble_eq_true rfl⟩) ⟨pt_blind, va_recv hK hP (ci := 4) (q0 := 1) rfl rfl, pt_pre (w := [(rk, .inr (4, [.ref hd, .ref jm])), (hd, .inl (cI, 96, .inl (fun _ => 0)))]) (tys := [(cI, .int)]) (hP.sub [1, 2] rfl) (hK.sub [0] rfl) hN⟩ rfl rfl hl.1 rfl (lv_room (Nat.le_of_ble_eq_true rfl)) dX7_cellFor_40 ⟨Nat.le_of_ble_eq_true rfl, Nat.le_of_ble_eq_true rfl⟩) (fun r_8 hr_8 => ?_)
      obtain rfl : r_8 = 25 := hr_8
      refine lv_istore (lv' := [(4, .int 25), (3, .int 1), (0, .ref x), (1, .int h), (2, .int w)]) hx hb dX7_cellFor_43 hl (by decide) rfl (fun ls hl => ?_)
      refine lv_iload hx hb dX7_cellFor_45 (lv_at hl 0 rfl) ?_
      refine lv_iconst (v := (-1)) hx hb dX7_cellFor_47 (by decide) ?_
      refine lv_icmp_eq (tgt := 54) hx hb dX7_cellFor_48 (by decide) (fun c => absurd c (by decide)) (fun _ => ?_)
      refine lv_iload hx hb dX7_cellFor_51 (lv_at hl 0 rfl) ?_
      exact W.iret (v := 25) hx hb hr (fun t ht hW => ⟨25, rfl, by decide, ht⟩) (fun q h => by cases h) dX7_cellFor_53
    · obtain rfl : r_5 = 0 := hr_5.trans (if_neg g_5)
      refine lv_if_eq (tgt := 54) hx hb dX7_cellFor_13 (by decide) (fun _ => ?_) (fun c => absurd (by decide) c)
      refine lv_iinc (v := 2) (lv' := [(3, .int 2), (0, .ref x), (1, .int h), (2, .int w)]) hx hb dX7_cellFor_54 hl (k := 0) rfl (by decide) (by decide) rfl (fun ls hl => ?_)
      refine lv_goto (tgt := 2) hx hb dX7_cellFor_57 (by decide) ?_
      refine lv_iload_n hx hb dX7_cellFor_2 rfl (lv_at hl 0 rfl) ?_
      refine lv_iconst (v := 4) hx hb dX7_cellFor_3 (by decide) ?_
      refine lv_icmp_ge (tgt := 60) hx hb dX7_cellFor_4 (by decide) (fun c => absurd c (by decide)) (fun _ => ?_)
      refine lv_iload_n hx hb dX7_cellFor_7 rfl (lv_at hl 0 rfl) ?_
      refine lv_iload_n hx hb dX7_cellFor_8 rfl (lv_at hl 2 rfl) ?_
      refine lv_iload_n hx hb dX7_cellFor_9 rfl (lv_at hl 3 rfl) ?_
      refine pt_cSi (va_runS (As := [.int 2, .int h, .int w]) (rest := []) ⟨hx, hb, hml, hown, hts⟩ (c_fits2 l dC dI h w) (cwS 3 hts gX7_cellFor_X7_fitsLevel rfl rfl rfl (by decide +kernel) ⟨Nat.le_of_ble_eq_true rfl, Nat.le_of_ble_eq_true rfl⟩) ⟨pt_blind, pt_pre (w := []) (tys := []) (hP.sub [] rfl) (hK.sub [] rfl) hN⟩ rfl rfl hl.1 rfl (lv_room (Nat.le_of_ble_eq_true rfl)) dX7_cellFor_10 ⟨Nat.le_of_ble_eq_true rfl, Nat.le_of_ble_eq_true rfl⟩) (fun r_9 hr_9 => ?_)
      by_cases g_9 : h ≤ 210 ∧ w ≤ 2000
      · obtain rfl : r_9 = 1 := hr_9.trans (if_pos g_9)
        refine lv_if_eq (tgt := 54) hx hb dX7_cellFor_13 (by decide) (fun c => absurd c (by decide)) (fun _ => ?_)
        refine lv_iload_n hx hb dX7_cellFor_16 rfl (lv_at hl 0 rfl) ?_
        refine lv_aload_n hx hb dX7_cellFor_17 rfl (lv_at hl 1 rfl) ?_
        refine pt_cSi (va_runV (As := []) (rest := [.int 2]) ⟨hx, hb, hml, hown, hts⟩ (c_levelOfFetch l dC dI x rk hd jm bs b0 b1 od o1 o2 o3 jb pl ap cI cZ cB) (cwV 0 hts gX7_cellFor_X7_levelOfFetch rfl rfl rfl (by decide +kernel) ⟨Nat.le_of_ble_eq_true rfl, Nat.le_of_ble_eq_true rfl⟩) ⟨pt_blind, va_recv hK hP (ci := 5) (q0 := 0) rfl rfl, pt_pre (w := [(x, .inr (5, [.ref rk, .ref bs, .ref od, .ref jb, .ref ap, .int 0, .int 1, .int 0, .int 0, .int 0])), (rk, .inr (4, [.ref hd, .ref jm])), (hd, .inl (cI, 96, .inl (fun _ => 0))), (jm, .inl (cZ, 4, .inl (fun _ => 0))), (bs, .inl (cB, 2, .inr (.inr (.inr (.inr (va_up (va_up (fun _ => none) 0 (some b0)) 1 (some b1))))))), (b0, .inr (0, [.int 2, .int 0, .int 0, .int 0, .int 0, .int (-1)])), (b1, .inr (0, [.int 2, .int 0, .int 0, .int 0, .int 0, .int (-1)])), (od, .inr (2, [.ref o1, .ref o2, .ref o3, .int 0])), (jb, .inr (1, [.ref pl, .int (-1), .int 0, .int 0, .int 0]))]) (tys := [(cI, .int), (cZ, .boolean), (cB, .object "ParkTower$Bay")]) (hP.sub [0, 1, 2, 3, 4, 5, 6, 7, 8] rfl) (hK.sub [0, 1, 2] rfl) hN⟩ rfl rfl hl.1 rfl (lv_room (Nat.le_of_ble_eq_true rfl)) dX7_cellFor_18 ⟨Nat.le_of_ble_eq_true rfl, Nat.le_of_ble_eq_true rfl⟩) (fun r_10 hr_10 => ?_)
        obtain rfl : r_10 = (-1) := hr_10
        refine lv_icmp_eq (tgt := 54) hx hb dX7_cellFor_21 (by decide) (fun c => absurd c (by decide)) (fun _ => ?_)
        refine lv_aload_n hx hb dX7_cellFor_24 rfl (lv_at hl 1 rfl) ?_
        refine va_get (D := (dC, dI)) (ci := 5) (v := .ref rk) (C := RX7) (T := TX7) (N := 10) hx hb hts iX7 hown hK hP 0 rfl rfl 0 (by decide) (hts (.fieldLink RX7 10 "ParkTower" "rack" "LParkTower$Rack;") (by decide +kernel)) (fun _ h9 => h9) rfl dX7_cellFor_25 ?_
        refine lv_iload_n hx hb dX7_cellFor_28 rfl (lv_at hl 0 rfl) ?_
        refine pt_cSi (va_runV (As := [.int 2]) (rest := []) ⟨hx, hb, hml, hown, hts⟩ (c_hasRoom2 l dC dI rk hd jm cI cZ) (cwV 1 hts gX7_cellFor_X5_hasRoom rfl rfl rfl (by decide +kernel) ⟨Nat.le_of_ble_eq_true rfl, Nat.le_of_ble_eq_true rfl⟩) ⟨pt_blind, va_recv hK hP (ci := 4) (q0 := 1) rfl rfl, pt_pre (w := [(rk, .inr (4, [.ref hd, .ref jm])), (hd, .inl (cI, 96, .inl (fun _ => 0))), (jm, .inl (cZ, 4, .inl (fun _ => 0)))]) (tys := [(cI, .int), (cZ, .boolean)]) (hP.sub [1, 2, 3] rfl) (hK.sub [0, 1] rfl) hN⟩ rfl rfl hl.1 rfl (lv_room (Nat.le_of_ble_eq_true rfl)) dX7_cellFor_29 ⟨Nat.le_of_ble_eq_true rfl, Nat.le_of_ble_eq_true rfl⟩) (fun r_11 hr_11 => ?_)
        obtain rfl : r_11 = 1 := hr_11
        refine lv_if_eq (tgt := 54) hx hb dX7_cellFor_32 (by decide) (fun c => absurd c (by decide)) (fun _ => ?_)
        refine lv_aload_n hx hb dX7_cellFor_35 rfl (lv_at hl 1 rfl) ?_
        refine va_get (D := (dC, dI)) (ci := 5) (v := .ref rk) (C := RX7) (T := TX7) (N := 10) hx hb hts iX7 hown hK hP 0 rfl rfl 0 (by decide) (hts (.fieldLink RX7 10 "ParkTower" "rack" "LParkTower$Rack;") (by decide +kernel)) (fun _ h9 => h9) rfl dX7_cellFor_36 ?_
        refine lv_iload_n hx hb dX7_cellFor_39 rfl (lv_at hl 0 rfl) ?_
        refine pt_cSi (va_runV (As := [.int 2]) (rest := []) ⟨hx, hb, hml, hown, hts⟩ (c_firstCell2 l dC dI rk hd jm cI) (cwV 1 hts gX7_cellFor_X5_firstCellToStore rfl rfl rfl (by decide +kernel) ⟨Nat.le_of_ble_eq_true rfl, Nat.le_of_ble_eq_true rfl⟩) ⟨pt_blind, va_recv hK hP (ci := 4) (q0 := 1) rfl rfl, pt_pre (w := [(rk, .inr (4, [.ref hd, .ref jm])), (hd, .inl (cI, 96, .inl (fun _ => 0)))]) (tys := [(cI, .int)]) (hP.sub [1, 2] rfl) (hK.sub [0] rfl) hN⟩ rfl rfl hl.1 rfl (lv_room (Nat.le_of_ble_eq_true rfl)) dX7_cellFor_40 ⟨Nat.le_of_ble_eq_true rfl, Nat.le_of_ble_eq_true rfl⟩) (fun r_12 hr_12 => ?_)
        obtain rfl : r_12 = 49 := hr_12
        refine lv_istore (lv' := [(4, .int 49), (3, .int 2), (0, .ref x), (1, .int h), (2, .int w)]) hx hb dX7_cellFor_43 hl (by decide) rfl (fun ls hl => ?_)
        refine lv_iload hx hb dX7_cellFor_45 (lv_at hl 0 rfl) ?_
        refine lv_iconst (v := (-1)) hx hb dX7_cellFor_47 (by decide) ?_
        refine lv_icmp_eq (tgt := 54) hx hb dX7_cellFor_48 (by decide) (fun c => absurd c (by decide)) (fun _ => ?_)
        refine lv_iload hx hb dX7_cellFor_51 (lv_at hl 0 rfl) ?_
        exact W.iret (v := 49) hx hb hr (fun t ht hW => ⟨49, rfl, by decide, ht⟩) (fun q h => by cases h) dX7_cellFor_53
      · obtain rfl : r_9 = 0 := hr_9.trans (if_neg g_9)
        refine lv_if_eq (tgt := 54) hx hb dX7_cellFor_13 (by decide) (fun _ => ?_) (fun c => absurd (by decide) c)
        refine lv_iinc (v := 3) (lv' := [(3, .int 3), (0, .ref x), (1, .int h), (2, .int w)]) hx hb dX7_cellFor_54 hl (k := 0) rfl (by decide) (by decide) rfl (fun ls hl => ?_)
        refine lv_goto (tgt := 2) hx hb dX7_cellFor_57 (by decide) ?_
        refine lv_iload_n hx hb dX7_cellFor_2 rfl (lv_at hl 0 rfl) ?_
        refine lv_iconst (v := 4) hx hb dX7_cellFor_3 (by decide) ?_
        refine lv_icmp_ge (tgt := 60) hx hb dX7_cellFor_4 (by decide) (fun c => absurd c (by decide)) (fun _ => ?_)
        refine lv_iload_n hx hb dX7_cellFor_7 rfl (lv_at hl 0 rfl) ?_
        refine lv_iload_n hx hb dX7_cellFor_8 rfl (lv_at hl 2 rfl) ?_
        refine lv_iload_n hx hb dX7_cellFor_9 rfl (lv_at hl 3 rfl) ?_
        refine pt_cSi (va_runS (As := [.int 3, .int h, .int w]) (rest := []) ⟨hx, hb, hml, hown, hts⟩ (c_fits3 l dC dI h w) (cwS 3 hts gX7_cellFor_X7_fitsLevel rfl rfl rfl (by decide +kernel) ⟨Nat.le_of_ble_eq_true rfl, Nat.le_of_ble_eq_true rfl⟩) ⟨pt_blind, pt_pre (w := []) (tys := []) (hP.sub [] rfl) (hK.sub [] rfl) hN⟩ rfl rfl hl.1 rfl (lv_room (Nat.le_of_ble_eq_true rfl)) dX7_cellFor_10 ⟨Nat.le_of_ble_eq_true rfl, Nat.le_of_ble_eq_true rfl⟩) (fun r_13 hr_13 => ?_)
        obtain rfl : r_13 = 1 := hr_13.trans (if_pos hF)
        refine lv_if_eq (tgt := 54) hx hb dX7_cellFor_13 (by decide) (fun c => absurd c (by decide)) (fun _ => ?_)
        refine lv_iload_n hx hb dX7_cellFor_16 rfl (lv_at hl 0 rfl) ?_
        refine lv_aload_n hx hb dX7_cellFor_17 rfl (lv_at hl 1 rfl) ?_
        refine pt_cSi (va_runV (As := []) (rest := [.int 3]) ⟨hx, hb, hml, hown, hts⟩ (c_levelOfFetch l dC dI x rk hd jm bs b0 b1 od o1 o2 o3 jb pl ap cI cZ cB) (cwV 0 hts gX7_cellFor_X7_levelOfFetch rfl rfl rfl (by decide +kernel) ⟨Nat.le_of_ble_eq_true rfl, Nat.le_of_ble_eq_true rfl⟩) ⟨pt_blind, va_recv hK hP (ci := 5) (q0 := 0) rfl rfl, pt_pre (w := [(x, .inr (5, [.ref rk, .ref bs, .ref od, .ref jb, .ref ap, .int 0, .int 1, .int 0, .int 0, .int 0])), (rk, .inr (4, [.ref hd, .ref jm])), (hd, .inl (cI, 96, .inl (fun _ => 0))), (jm, .inl (cZ, 4, .inl (fun _ => 0))), (bs, .inl (cB, 2, .inr (.inr (.inr (.inr (va_up (va_up (fun _ => none) 0 (some b0)) 1 (some b1))))))), (b0, .inr (0, [.int 2, .int 0, .int 0, .int 0, .int 0, .int (-1)])), (b1, .inr (0, [.int 2, .int 0, .int 0, .int 0, .int 0, .int (-1)])), (od, .inr (2, [.ref o1, .ref o2, .ref o3, .int 0])), (jb, .inr (1, [.ref pl, .int (-1), .int 0, .int 0, .int 0]))]) (tys := [(cI, .int), (cZ, .boolean), (cB, .object "ParkTower$Bay")]) (hP.sub [0, 1, 2, 3, 4, 5, 6, 7, 8] rfl) (hK.sub [0, 1, 2] rfl) hN⟩ rfl rfl hl.1 rfl (lv_room (Nat.le_of_ble_eq_true rfl)) dX7_cellFor_18 ⟨Nat.le_of_ble_eq_true rfl, Nat.le_of_ble_eq_true rfl⟩) (fun r_14 hr_14 => ?_)
        obtain rfl : r_14 = (-1) := hr_14
        refine lv_icmp_eq (tgt := 54) hx hb dX7_cellFor_21 (by decide) (fun c => absurd c (by decide)) (fun _ => ?_)
        refine lv_aload_n hx hb dX7_cellFor_24 rfl (lv_at hl 1 rfl) ?_
        refine va_get (D := (dC, dI)) (ci := 5) (v := .ref rk) (C := RX7) (T := TX7) (N := 10) hx hb hts iX7 hown hK hP 0 rfl rfl 0 (by decide) (hts (.fieldLink RX7 10 "ParkTower" "rack" "LParkTower$Rack;") (by decide +kernel)) (fun _ h9 => h9) rfl dX7_cellFor_25 ?_
        refine lv_iload_n hx hb dX7_cellFor_28 rfl (lv_at hl 0 rfl) ?_
        refine pt_cSi (va_runV (As := [.int 3]) (rest := []) ⟨hx, hb, hml, hown, hts⟩ (c_hasRoom3 l dC dI rk hd jm cI cZ) (cwV 1 hts gX7_cellFor_X5_hasRoom rfl rfl rfl (by decide +kernel) ⟨Nat.le_of_ble_eq_true rfl, Nat.le_of_ble_eq_true rfl⟩) ⟨pt_blind, va_recv hK hP (ci := 4) (q0 := 1) rfl rfl, pt_pre (w := [(rk, .inr (4, [.ref hd, .ref jm])), (hd, .inl (cI, 96, .inl (fun _ => 0))), (jm, .inl (cZ, 4, .inl (fun _ => 0)))]) (tys := [(cI, .int), (cZ, .boolean)]) (hP.sub [1, 2, 3] rfl) (hK.sub [0, 1] rfl) hN⟩ rfl rfl hl.1 rfl (lv_room (Nat.le_of_ble_eq_true rfl)) dX7_cellFor_29 ⟨Nat.le_of_ble_eq_true rfl, Nat.le_of_ble_eq_true rfl⟩) (fun r_15 hr_15 => ?_)
        obtain rfl : r_15 = 1 := hr_15
        refine lv_if_eq (tgt := 54) hx hb dX7_cellFor_32 (by decide) (fun c => absurd c (by decide)) (fun _ => ?_)
        refine lv_aload_n hx hb dX7_cellFor_35 rfl (lv_at hl 1 rfl) ?_
        refine va_get (D := (dC, dI)) (ci := 5) (v := .ref rk) (C := RX7) (T := TX7) (N := 10) hx hb hts iX7 hown hK hP 0 rfl rfl 0 (by decide) (hts (.fieldLink RX7 10 "ParkTower" "rack" "LParkTower$Rack;") (by decide +kernel)) (fun _ h9 => h9) rfl dX7_cellFor_36 ?_
        refine lv_iload_n hx hb dX7_cellFor_39 rfl (lv_at hl 0 rfl) ?_
        refine pt_cSi (va_runV (As := [.int 3]) (rest := []) ⟨hx, hb, hml, hown, hts⟩ (c_firstCell3 l dC dI rk hd jm cI) (cwV 1 hts gX7_cellFor_X5_firstCellToStore rfl rfl rfl (by decide +kernel) ⟨Nat.le_of_ble_eq_true rfl, Nat.le_of_ble_eq_true rfl⟩) ⟨pt_blind, va_recv hK hP (ci := 4) (q0 := 1) rfl rfl, pt_pre (w := [(rk, .inr (4, [.ref hd, .ref jm])), (hd, .inl (cI, 96, .inl (fun _ => 0)))]) (tys := [(cI, .int)]) (hP.sub [1, 2] rfl) (hK.sub [0] rfl) hN⟩ rfl rfl hl.1 rfl (lv_room (Nat.le_of_ble_eq_true rfl)) dX7_cellFor_40 ⟨Nat.le_of_ble_eq_true rfl, Nat.le_of_ble_eq_true rfl⟩) (fun r_16 hr_16 => ?_)
        obtain rfl : r_16 = 73 := hr_16
        refine lv_istore (lv' := [(4, .int 73), (3, .int 3), (0, .ref x), (1, .int h), (2, .int w)]) hx hb dX7_cellFor_43 hl (by decide) rfl (fun ls hl => ?_)
        refine lv_iload hx hb dX7_cellFor_45 (lv_at hl 0 rfl) ?_
        refine lv_iconst (v := (-1)) hx hb dX7_cellFor_47 (by decide) ?_
        refine lv_icmp_eq (tgt := 54) hx hb dX7_cellFor_48 (by decide) (fun c => absurd c (by decide)) (fun _ => ?_)
        refine lv_iload hx hb dX7_cellFor_51 (lv_at hl 0 rfl) ?_
        exact W.iret (v := 73) hx hb hr (fun t ht hW => ⟨73, rfl, by decide, ht⟩) (fun q h => by cases h) dX7_cellFor_53
set_option maxHeartbeats 4000000 in
set_option maxRecDepth 100000 in
theorem c_isFront1 (l : Launch) (dC : Nat → ClassId) (dI : Nat → Nat → Nat)  : Met l yX7_isFront wsX7_isFront ({ frames := 0, cells := 0, slots := 0, locals := 0 }) (va_Pc [.int 1] (pt_B (dC, dI) [] [])) (vp_Si (fun r : Int32 => r = 0)) 0 0 (fun _ => False) := by
  refine Met.ofW (cc := cX7_isFront) (maxL := 1) (ret := (some .boolean)) (by decide) rfl ?_
  intro p e s m args below meth c s₁ B hml hv
  obtain ⟨rfl, hP, hK, hN⟩ := hv
  have hx := B.exec
  have hb := B.bytes
  have hr := B.returns
  have hts := atoms_spec (ws := wsX7_isFront) B.pre
  have hown : s.vm.findClass RX7 = some m.cls := findClass_of_methodNamed B.named
  have hlocks := B.notSynchronized
  have hP : va_P (dC, dI) vwCl [] s.heap := hP
  have hK : va_K (dC, dI) vwCl [] s := hK
  have hl := lv_entry ([.int 1]) (n := 1) (Nat.le_of_ble_eq_true rfl)
  rw [lg_entry_eq]
  generalize (lg_sl ([.int 1]) ++ List.replicate (1 - (lg_sl ([.int 1])).length) Slot.unset).toArray = ls at hl ⊢
  have hl : lv_has ls 1 [(0, .int 1)] := hl
  refine lv_iload_n hx hb dX7_isFront_0 rfl (lv_at hl 0 rfl) ?_
  refine lv_iconst (v := 2) hx hb dX7_isFront_1 (by decide) ?_
  refine lv_irem hx hb dX7_isFront_2 (by decide) ?_
  refine pt_topi 1 (by decide) ?_
  refine lv_if_ne (tgt := 10) hx hb dX7_isFront_3 (by decide) (fun _ => ?_) (fun c => absurd c (by decide))
  refine lv_iconst (v := 0) hx hb dX7_isFront_10 (by decide) ?_
  exact W.zret (v := 0) (ty := .boolean) hx hb hr rfl (fun t ht hW => ⟨0, rfl, rfl, ht⟩) (fun q h => by cases h) dX7_isFront_11
set_option maxHeartbeats 4000000 in
set_option maxRecDepth 100000 in
theorem c_isFront25 (l : Launch) (dC : Nat → ClassId) (dI : Nat → Nat → Nat)  : Met l yX7_isFront wsX7_isFront ({ frames := 0, cells := 0, slots := 0, locals := 0 }) (va_Pc [.int 25] (pt_B (dC, dI) [] [])) (vp_Si (fun r : Int32 => r = 0)) 0 0 (fun _ => False) := by
  refine Met.ofW (cc := cX7_isFront) (maxL := 1) (ret := (some .boolean)) (by decide) rfl ?_
  intro p e s m args below meth c s₁ B hml hv
  obtain ⟨rfl, hP, hK, hN⟩ := hv
  have hx := B.exec
  have hb := B.bytes
  have hr := B.returns
  have hts := atoms_spec (ws := wsX7_isFront) B.pre
  have hown : s.vm.findClass RX7 = some m.cls := findClass_of_methodNamed B.named
  have hlocks := B.notSynchronized
  have hP : va_P (dC, dI) vwCl [] s.heap := hP
  have hK : va_K (dC, dI) vwCl [] s := hK
  have hl := lv_entry ([.int 25]) (n := 1) (Nat.le_of_ble_eq_true rfl)
  rw [lg_entry_eq]
  generalize (lg_sl ([.int 25]) ++ List.replicate (1 - (lg_sl ([.int 25])).length) Slot.unset).toArray = ls at hl ⊢
  have hl : lv_has ls 1 [(0, .int 25)] := hl
  refine lv_iload_n hx hb dX7_isFront_0 rfl (lv_at hl 0 rfl) ?_
  refine lv_iconst (v := 2) hx hb dX7_isFront_1 (by decide) ?_
  refine lv_irem hx hb dX7_isFront_2 (by decide) ?_
  refine pt_topi 1 (by decide) ?_
  refine lv_if_ne (tgt := 10) hx hb dX7_isFront_3 (by decide) (fun _ => ?_) (fun c => absurd c (by decide))
  refine lv_iconst (v := 0) hx hb dX7_isFront_10 (by decide) ?_
  exact W.zret (v := 0) (ty := .boolean) hx hb hr rfl (fun t ht hW => ⟨0, rfl, rfl, ht⟩) (fun q h => by cases h) dX7_isFront_11
set_option maxHeartbeats 4000000 in
set_option maxRecDepth 100000 in
theorem c_isFront49 (l : Launch) (dC : Nat → ClassId) (dI : Nat → Nat → Nat)  : Met l yX7_isFront wsX7_isFront ({ frames := 0, cells := 0, slots := 0, locals := 0 }) (va_Pc [.int 49] (pt_B (dC, dI) [] [])) (vp_Si (fun r : Int32 => r = 0)) 0 0 (fun _ => False) := by
  refine Met.ofW (cc := cX7_isFront) (maxL := 1) (ret := (some .boolean)) (by decide) rfl ?_
  intro p e s m args below meth c s₁ B hml hv
  obtain ⟨rfl, hP, hK, hN⟩ := hv
  have hx := B.exec
  have hb := B.bytes
  have hr := B.returns
  have hts := atoms_spec (ws := wsX7_isFront) B.pre
  have hown : s.vm.findClass RX7 = some m.cls := findClass_of_methodNamed B.named
  have hlocks := B.notSynchronized
  have hP : va_P (dC, dI) vwCl [] s.heap := hP
  have hK : va_K (dC, dI) vwCl [] s := hK
  have hl := lv_entry ([.int 49]) (n := 1) (Nat.le_of_ble_eq_true rfl)
  rw [lg_entry_eq]
  generalize (lg_sl ([.int 49]) ++ List.replicate (1 - (lg_sl ([.int 49])).length) Slot.unset).toArray = ls at hl ⊢
  have hl : lv_has ls 1 [(0, .int 49)] := hl
  refine lv_iload_n hx hb dX7_isFront_0 rfl (lv_at hl 0 rfl) ?_
  refine lv_iconst (v := 2) hx hb dX7_isFront_1 (by decide) ?_
  refine lv_irem hx hb dX7_isFront_2 (by decide) ?_
  refine pt_topi 1 (by decide) ?_
  refine lv_if_ne (tgt := 10) hx hb dX7_isFront_3 (by decide) (fun _ => ?_) (fun c => absurd c (by decide))
  refine lv_iconst (v := 0) hx hb dX7_isFront_10 (by decide) ?_
  exact W.zret (v := 0) (ty := .boolean) hx hb hr rfl (fun t ht hW => ⟨0, rfl, rfl, ht⟩) (fun q h => by cases h) dX7_isFront_11
set_option maxHeartbeats 4000000 in
set_option maxRecDepth 100000 in
theorem c_isFront73 (l : Launch) (dC : Nat → ClassId) (dI : Nat → Nat → Nat)  : Met l yX7_isFront wsX7_isFront ({ frames := 0, cells := 0, slots := 0, locals := 0 }) (va_Pc [.int 73] (pt_B (dC, dI) [] [])) (vp_Si (fun r : Int32 => r = 0)) 0 0 (fun _ => False) := by
  refine Met.ofW (cc := cX7_isFront) (maxL := 1) (ret := (some .boolean)) (by decide) rfl ?_
  intro p e s m args below meth c s₁ B hml hv
  obtain ⟨rfl, hP, hK, hN⟩ := hv
  have hx := B.exec
  have hb := B.bytes
  have hr := B.returns
  have hts := atoms_spec (ws := wsX7_isFront) B.pre
  have hown : s.vm.findClass RX7 = some m.cls := findClass_of_methodNamed B.named
  have hlocks := B.notSynchronized
  have hP : va_P (dC, dI) vwCl [] s.heap := hP
  have hK : va_K (dC, dI) vwCl [] s := hK
  have hl := lv_entry ([.int 73]) (n := 1) (Nat.le_of_ble_eq_true rfl)
  rw [lg_entry_eq]
  generalize (lg_sl ([.int 73]) ++ List.replicate (1 - (lg_sl ([.int 73])).length) Slot.unset).toArray = ls at hl ⊢
  have hl : lv_has ls 1 [(0, .int 73)] := hl
  refine lv_iload_n hx hb dX7_isFront_0 rfl (lv_at hl 0 rfl) ?_
  refine lv_iconst (v := 2) hx hb dX7_isFront_1 (by decide) ?_
  refine lv_irem hx hb dX7_isFront_2 (by decide) ?_
  refine pt_topi 1 (by decide) ?_
  refine lv_if_ne (tgt := 10) hx hb dX7_isFront_3 (by decide) (fun _ => ?_) (fun c => absurd c (by decide))
  refine lv_iconst (v := 0) hx hb dX7_isFront_10 (by decide) ?_
  exact W.zret (v := 0) (ty := .boolean) hx hb hr rfl (fun t ht hW => ⟨0, rfl, rfl, ht⟩) (fun q h => by cases h) dX7_isFront_11
set_option maxHeartbeats 4000000 in
set_option maxRecDepth 100000 in
theorem c_checkDigit1 (l : Launch) (dC : Nat → ClassId) (dI : Nat → Nat → Nat)  : Met l yX7_checkDigit wsX7_checkDigit ({ frames := 0, cells := 0, slots := 0, locals := 0 }) (va_Pc [.int 1] (pt_B (dC, dI) [] [])) (vp_Si (fun r : Int32 => r = 9)) 0 0 (fun _ => False) := by
  refine Met.ofW (cc := cX7_checkDigit) (maxL := 2) (ret := (some .int)) (by decide) rfl ?_
  intro p e s m args below meth c s₁ B hml hv
  obtain ⟨rfl, hP, hK, hN⟩ := hv
  have hx := B.exec
  have hb := B.bytes
  have hr := B.returns
  have hts := atoms_spec (ws := wsX7_checkDigit) B.pre
  have hown : s.vm.findClass RX7 = some m.cls := findClass_of_methodNamed B.named
  have hlocks := B.notSynchronized
  have hP : va_P (dC, dI) vwCl [] s.heap := hP
  have hK : va_K (dC, dI) vwCl [] s := hK
  have hl := lv_entry ([.int 1]) (n := 2) (Nat.le_of_ble_eq_true rfl)
  rw [lg_entry_eq]
  generalize (lg_sl ([.int 1]) ++ List.replicate (2 - (lg_sl ([.int 1])).length) Slot.unset).toArray = ls at hl ⊢
  have hl : lv_has ls 2 [(0, .int 1)] := hl
  refine lv_iconst (v := 5) hx hb dX7_checkDigit_0 (by decide) ?_
  refine lv_iload_n hx hb dX7_checkDigit_1 rfl (lv_at hl 0 rfl) ?_
  refine lv_sipush (v := 1000) hx hb dX7_checkDigit_2 (by decide) ?_
  refine lv_idiv hx hb dX7_checkDigit_5 (by decide) ?_
  refine pt_topi 0 (by decide) ?_
  refine lv_imul hx hb dX7_checkDigit_6 ?_
  refine pt_topi 0 (by decide) ?_
  refine lv_iconst (v := 4) hx hb dX7_checkDigit_7 (by decide) ?_
  refine lv_iload_n hx hb dX7_checkDigit_8 rfl (lv_at hl 0 rfl) ?_
  refine lv_bipush (v := 100) hx hb dX7_checkDigit_9 (by decide) ?_
  refine lv_idiv hx hb dX7_checkDigit_11 (by decide) ?_
  refine pt_topi 0 (by decide) ?_
  refine lv_bipush (v := 10) hx hb dX7_checkDigit_12 (by decide) ?_
  refine lv_irem hx hb dX7_checkDigit_14 (by decide) ?_
  refine pt_topi 0 (by decide) ?_
  refine lv_imul hx hb dX7_checkDigit_15 ?_
  refine pt_topi 0 (by decide) ?_
  refine lv_iadd hx hb dX7_checkDigit_16 ?_
  refine pt_topi 0 (by decide) ?_
  refine lv_iconst (v := 3) hx hb dX7_checkDigit_17 (by decide) ?_
  refine lv_iload_n hx hb dX7_checkDigit_18 rfl (lv_at hl 0 rfl) ?_
  refine lv_bipush (v := 10) hx hb dX7_checkDigit_19 (by decide) ?_
  refine lv_idiv hx hb dX7_checkDigit_21 (by decide) ?_
  refine pt_topi 0 (by decide) ?_
  refine lv_bipush (v := 10) hx hb dX7_checkDigit_22 (by decide) ?_
  refine lv_irem hx hb dX7_checkDigit_24 (by decide) ?_
  refine pt_topi 0 (by decide) ?_
  refine lv_imul hx hb dX7_checkDigit_25 ?_
  refine pt_topi 0 (by decide) ?_
  refine lv_iadd hx hb dX7_checkDigit_26 ?_
  refine pt_topi 0 (by decide) ?_
  refine lv_iconst (v := 2) hx hb dX7_checkDigit_27 (by decide) ?_
  refine lv_iload_n hx hb dX7_checkDigit_28 rfl (lv_at hl 0 rfl) ?_
  refine lv_bipush (v := 10) hx hb dX7_checkDigit_29 (by decide) ?_
  refine lv_irem hx hb dX7_checkDigit_31 (by decide) ?_
  refine pt_topi 1 (by decide) ?_
  refine lv_imul hx hb dX7_checkDigit_32 ?_
  refine pt_topi 2 (by decide) ?_
  refine lv_iadd hx hb dX7_checkDigit_33 ?_
  refine pt_topi 2 (by decide) ?_
  refine lv_istore_n (lv' := [(1, .int 2), (0, .int 1)]) hx hb dX7_checkDigit_34 rfl hl (by decide) rfl (fun ls hl => ?_)
  refine lv_bipush (v := 11) hx hb dX7_checkDigit_35 (by decide) ?_
  refine lv_iload_n hx hb dX7_checkDigit_37 rfl (lv_at hl 0 rfl) ?_
  refine lv_bipush (v := 11) hx hb dX7_checkDigit_38 (by decide) ?_
  refine lv_irem hx hb dX7_checkDigit_40 (by decide) ?_
  refine pt_topi 2 (by decide) ?_
  refine lv_isub hx hb dX7_checkDigit_41 ?_
  refine pt_topi 9 (by decide) ?_
  refine lv_bipush (v := 11) hx hb dX7_checkDigit_42 (by decide) ?_
  refine lv_irem hx hb dX7_checkDigit_44 (by decide) ?_
  refine pt_topi 9 (by decide) ?_
  exact W.iret (v := 9) hx hb hr (fun t ht hW => ⟨9, rfl, rfl, ht⟩) (fun q h => by cases h) dX7_checkDigit_45
set_option maxHeartbeats 4000000 in
set_option maxRecDepth 100000 in
theorem c_ticketOf1 (l : Launch) (dC : Nat → ClassId) (dI : Nat → Nat → Nat)  : Met l yX7_ticketOf wsX7_ticketOf ({ frames := 1, cells := 0, slots := 0, locals := 21 }) (va_Pc [.int 1] (pt_B (dC, dI) [] [])) (vp_Si (fun r : Int32 => r = 19)) 0 0 (fun _ => False) := by
  refine Met.ofW (cc := cX7_ticketOf) (maxL := 1) (ret := (some .int)) (by decide) rfl ?_
  intro p e s m args below meth c s₁ B hml hv
  obtain ⟨rfl, hP, hK, hN⟩ := hv
  have hx := B.exec
  have hb := B.bytes
  have hr := B.returns
  have hts := atoms_spec (ws := wsX7_ticketOf) B.pre
  have hown : s.vm.findClass RX7 = some m.cls := findClass_of_methodNamed B.named
  have hlocks := B.notSynchronized
  have hP : va_P (dC, dI) vwCl [] s.heap := hP
  have hK : va_K (dC, dI) vwCl [] s := hK
  have hl := lv_entry ([.int 1]) (n := 1) (Nat.le_of_ble_eq_true rfl)
  rw [lg_entry_eq]
  generalize (lg_sl ([.int 1]) ++ List.replicate (1 - (lg_sl ([.int 1])).length) Slot.unset).toArray = ls at hl ⊢
  have hl : lv_has ls 1 [(0, .int 1)] := hl
  refine lv_bipush (v := 10) hx hb dX7_ticketOf_0 (by decide) ?_
  refine lv_iload_n hx hb dX7_ticketOf_2 rfl (lv_at hl 0 rfl) ?_
  refine lv_imul hx hb dX7_ticketOf_3 ?_
  refine pt_topi 10 (by decide) ?_
  refine lv_iload_n hx hb dX7_ticketOf_4 rfl (lv_at hl 0 rfl) ?_
  refine pt_cSi (va_runS (As := [.int 1]) (rest := [.int 10]) ⟨hx, hb, hml, hown, hts⟩ (c_checkDigit1 l dC dI) (cwS 1 hts gX7_ticketOf_X7_checkDigit rfl rfl rfl (by decide +kernel) ⟨Nat.le_of_ble_eq_true rfl, Nat.le_of_ble_eq_true rfl⟩) ⟨pt_blind, pt_pre (w := []) (tys := []) (hP.sub [] rfl) (hK.sub [] rfl) hN⟩ rfl rfl hl.1 rfl (lv_room (Nat.le_of_ble_eq_true rfl)) dX7_ticketOf_5 ⟨Nat.le_of_ble_eq_true rfl, Nat.le_of_ble_eq_true rfl⟩) (fun r_1 hr_1 => ?_)
  obtain rfl : r_1 = 9 := hr_1
  refine lv_iadd hx hb dX7_ticketOf_8 ?_
  refine pt_topi 19 (by decide) ?_
  exact W.iret (v := 19) hx hb hr (fun t ht hW => ⟨19, rfl, rfl, ht⟩) (fun q h => by cases h) dX7_ticketOf_9
set_option maxHeartbeats 4000000 in
set_option maxRecDepth 100000 in
theorem c_serialAfter0 (l : Launch) (dC : Nat → ClassId) (dI : Nat → Nat → Nat)  : Met l yX7_serialAfter wsX7_serialAfter ({ frames := 1, cells := 0, slots := 0, locals := 21 }) (va_Pc [.int 0] (pt_B (dC, dI) [] [])) (vp_Si (fun r : Int32 => r = 1)) 0 0 (fun _ => False) := by
  refine Met.ofW (cc := cX7_serialAfter) (maxL := 2) (ret := (some .int)) (by decide) rfl ?_
  intro p e s m args below meth c s₁ B hml hv
  obtain ⟨rfl, hP, hK, hN⟩ := hv
  have hx := B.exec
  have hb := B.bytes
  have hr := B.returns
  have hts := atoms_spec (ws := wsX7_serialAfter) B.pre
  have hown : s.vm.findClass RX7 = some m.cls := findClass_of_methodNamed B.named
  have hlocks := B.notSynchronized
  have hP : va_P (dC, dI) vwCl [] s.heap := hP
  have hK : va_K (dC, dI) vwCl [] s := hK
  have hl := lv_entry ([.int 0]) (n := 2) (Nat.le_of_ble_eq_true rfl)
  rw [lg_entry_eq]
  generalize (lg_sl ([.int 0]) ++ List.replicate (2 - (lg_sl ([.int 0])).length) Slot.unset).toArray = ls at hl ⊢
  have hl : lv_has ls 2 [(0, .int 0)] := hl
  refine lv_iload_n hx hb dX7_serialAfter_0 rfl (lv_at hl 0 rfl) ?_
  refine lv_iconst (v := 1) hx hb dX7_serialAfter_1 (by decide) ?_
  refine lv_iadd hx hb dX7_serialAfter_2 ?_
  refine pt_topi 1 (by decide) ?_
  refine lv_istore_n (lv' := [(1, .int 1), (0, .int 0)]) hx hb dX7_serialAfter_3 rfl hl (by decide) rfl (fun ls hl => ?_)
  refine lv_iload_n hx hb dX7_serialAfter_4 rfl (lv_at hl 0 rfl) ?_
  refine lv_sipush (v := 9999) hx hb dX7_serialAfter_5 (by decide) ?_
  refine lv_icmp_gt (tgt := 28) hx hb dX7_serialAfter_8 (by decide) (fun c => absurd c (by decide)) (fun _ => ?_)
  refine lv_iload_n hx hb dX7_serialAfter_11 rfl (lv_at hl 0 rfl) ?_
  refine pt_cSi (va_runS (As := [.int 1]) (rest := []) ⟨hx, hb, hml, hown, hts⟩ (c_checkDigit1 l dC dI) (cwS 1 hts gX7_serialAfter_X7_checkDigit rfl rfl rfl (by decide +kernel) ⟨Nat.le_of_ble_eq_true rfl, Nat.le_of_ble_eq_true rfl⟩) ⟨pt_blind, pt_pre (w := []) (tys := []) (hP.sub [] rfl) (hK.sub [] rfl) hN⟩ rfl rfl hl.1 rfl (lv_room (Nat.le_of_ble_eq_true rfl)) dX7_serialAfter_12 ⟨Nat.le_of_ble_eq_true rfl, Nat.le_of_ble_eq_true rfl⟩) (fun r_1 hr_1 => ?_)
  obtain rfl : r_1 = 9 := hr_1
  refine lv_bipush (v := 10) hx hb dX7_serialAfter_15 (by decide) ?_
  refine lv_icmp_eq (tgt := 22) hx hb dX7_serialAfter_17 (by decide) (fun c => absurd c (by decide)) (fun _ => ?_)
  refine lv_iload_n hx hb dX7_serialAfter_20 rfl (lv_at hl 0 rfl) ?_
  exact W.iret (v := 1) hx hb hr (fun t ht hW => ⟨1, rfl, rfl, ht⟩) (fun q h => by cases h) dX7_serialAfter_21
set_option maxHeartbeats 4000000 in
set_option maxRecDepth 100000 in
theorem c_wasGiven (l : Launch) (dC : Nat → ClassId) (dI : Nat → Nat → Nat) (x rk hd jm bs b0 b1 od o1 o2 o3 jb pl ap : Nat) (cI cZ cB : ClassId) (tk : Int32) : Met l yX7_wasGiven wsX7_wasGiven ({ frames := 0, cells := 0, slots := 0, locals := 0 }) (va_Pc [.ref x, .int tk] (pt_B (dC, dI) [(x, .inr (5, [.ref rk, .ref bs, .ref od, .ref jb, .ref ap, .int 0, .int 1, .int 0, .int 0, .int 0])), (rk, .inr (4, [.ref hd, .ref jm])), (hd, .inl (cI, 96, .inl (fun _ => 0))), (jm, .inl (cZ, 4, .inl (fun _ => 0))), (bs, .inl (cB, 2, .inr (.inr (.inr (.inr (va_up (va_up (fun _ => none) 0 (some b0)) 1 (some b1))))))), (b0, .inr (0, [.int 2, .int 0, .int 0, .int 0, .int 0, .int (-1)])), (b1, .inr (0, [.int 2, .int 0, .int 0, .int 0, .int 0, .int (-1)])), (od, .inr (2, [.ref o1, .ref o2, .ref o3, .int 0])), (jb, .inr (1, [.ref pl, .int (-1), .int 0, .int 0, .int 0]))] [(cI, .int), (cZ, .boolean), (cB, .object "ParkTower$Bay")])) (vp_Si (fun r : Int32 => r = 0)) 0 0 (fun _ => False) := by
  refine Met.ofW (cc := cX7_wasGiven) (maxL := 3) (ret := (some .boolean)) (by decide) rfl ?_
  intro p e s m args below meth c s₁ B hml hv
  obtain ⟨rfl, hP, hK, hN⟩ := hv
  have hx := B.exec
  have hb := B.bytes
  have hr := B.returns
  have hts := atoms_spec (ws := wsX7_wasGiven) B.pre
  have hown : s.vm.findClass RX7 = some m.cls := findClass_of_methodNamed B.named
  have hlocks := B.notSynchronized
  have iX7 : ∀ w ∈ wsX70, w ∈ wsX7_wasGiven := by decide +kernel
  have hP : va_P (dC, dI) vwCl [(x, .inr (5, [.ref rk, .ref bs, .ref od, .ref jb, .ref ap, .int 0, .int 1, .int 0, .int 0, .int 0])), (rk, .inr (4, [.ref hd, .ref jm])), (hd, .inl (cI, 96, .inl (fun _ => 0))), (jm, .inl (cZ, 4, .inl (fun _ => 0))), (bs, .inl (cB, 2, .inr (.inr (.inr (.inr (va_up (va_up (fun _ => none) 0 (some b0)) 1 (some b1))))))), (b0, .inr (0, [.int 2, .int 0, .int 0, .int 0, .int 0, .int (-1)])), (b1, .inr (0, [.int 2, .int 0, .int 0, .int 0, .int 0, .int (-1)])), (od, .inr (2, [.ref o1, .ref o2, .ref o3, .int 0])), (jb, .inr (1, [.ref pl, .int (-1), .int 0, .int 0, .int 0]))] s.heap := hP
  have hK : va_K (dC, dI) vwCl [(cI, .int), (cZ, .boolean), (cB, .object "ParkTower$Bay")] s := hK
  have hl := lv_entry ([.ref x, .int tk]) (n := 3) (Nat.le_of_ble_eq_true rfl)
  rw [lg_entry_eq]
  generalize (lg_sl ([.ref x, .int tk]) ++ List.replicate (3 - (lg_sl ([.ref x, .int tk])).length) Slot.unset).toArray = ls at hl ⊢
  have hl : lv_has ls 3 [(0, .ref x), (1, .int tk)] := hl
  refine lv_iload_n hx hb dX7_wasGiven_0 rfl (lv_at hl 1 rfl) ?_
  refine lv_bipush (v := 10) hx hb dX7_wasGiven_1 (by decide) ?_
  refine lv_idiv hx hb dX7_wasGiven_3 (by decide) ?_
  refine lv_istore_n (lv' := [(2, .int (tk / 10)), (0, .ref x), (1, .int tk)]) hx hb dX7_wasGiven_4 rfl hl (by decide) rfl (fun ls hl => ?_)
  refine lv_iload_n hx hb dX7_wasGiven_5 rfl (lv_at hl 0 rfl) ?_
  refine lv_iconst (v := 1) hx hb dX7_wasGiven_6 (by decide) ?_
  refine lv_icmp_lt (tgt := 33) hx hb dX7_wasGiven_7 (by decide) (fun c_1 => ?_) (fun c_1 => ?_)
  · have c_1 : ((tk / 10) < 1) := c_1
    refine lv_iconst (v := 0) hx hb dX7_wasGiven_33 (by decide) ?_
    exact W.zret (v := 0) (ty := .boolean) hx hb hr rfl (fun t ht hW => ⟨0, rfl, rfl, ht⟩) (fun q h => by cases h) dX7_wasGiven_34
  · have c_1 : ¬ ((tk / 10) < 1) := c_1
    refine lv_iload_n hx hb dX7_wasGiven_10 rfl (lv_at hl 0 rfl) ?_
    refine lv_aload_n hx hb dX7_wasGiven_11 rfl (lv_at hl 1 rfl) ?_
    refine va_get (D := (dC, dI)) (ci := 5) (v := .int 0) (C := RX7) (T := TX7) (N := 10) hx hb hts iX7 hown hK hP 0 rfl rfl 9 (by decide) (hts (.fieldLink RX7 70 "ParkTower" "serial" "I") (by decide +kernel)) (fun _ h9 => h9) rfl dX7_wasGiven_12 ?_
    have c_p : 0 < (tk / 10) := pt_pos (by assumption)
    refine lv_icmp_gt (tgt := 33) hx hb dX7_wasGiven_15 (by decide) (fun _ => ?_) (fun c => absurd (by assumption) c)
    refine lv_iconst (v := 0) hx hb dX7_wasGiven_33 (by decide) ?_
    exact W.zret (v := 0) (ty := .boolean) hx hb hr rfl (fun t ht hW => ⟨0, rfl, rfl, ht⟩) (fun q h => by cases h) dX7_wasGiven_34
set_option maxHeartbeats 4000000 in
set_option maxRecDepth 100000 in
theorem c_allOrders (l : Launch) (dC : Nat → ClassId) (dI : Nat → Nat → Nat) (x rk hd jm bs b0 b1 od o1 o2 o3 jb pl ap : Nat) (cI cZ cB : ClassId) : Met l yX7_allOrders wsX7_allOrders ({ frames := 1, cells := 0, slots := 0, locals := 20 }) (va_Pc [.ref x] (pt_B (dC, dI) [(x, .inr (5, [.ref rk, .ref bs, .ref od, .ref jb, .ref ap, .int 0, .int 1, .int 0, .int 0, .int 0])), (rk, .inr (4, [.ref hd, .ref jm])), (hd, .inl (cI, 96, .inl (fun _ => 0))), (jm, .inl (cZ, 4, .inl (fun _ => 0))), (bs, .inl (cB, 2, .inr (.inr (.inr (.inr (va_up (va_up (fun _ => none) 0 (some b0)) 1 (some b1))))))), (b0, .inr (0, [.int 2, .int 0, .int 0, .int 0, .int 0, .int (-1)])), (b1, .inr (0, [.int 2, .int 0, .int 0, .int 0, .int 0, .int (-1)])), (od, .inr (2, [.ref o1, .ref o2, .ref o3, .int 0])), (jb, .inr (1, [.ref pl, .int (-1), .int 0, .int 0, .int 0]))] [(cI, .int), (cZ, .boolean), (cB, .object "ParkTower$Bay")])) (vp_Si (fun r : Int32 => r = 0)) 0 0 (fun _ => False) := by
  refine Met.ofW (cc := cX7_allOrders) (maxL := 3) (ret := (some .int)) (by decide) rfl ?_
  intro p e s m args below meth c s₁ B hml hv
  obtain ⟨rfl, hP, hK, hN⟩ := hv
  have hx := B.exec
  have hb := B.bytes
  have hr := B.returns
  have hts := atoms_spec (ws := wsX7_allOrders) B.pre
  have hown : s.vm.findClass RX7 = some m.cls := findClass_of_methodNamed B.named
  have hlocks := B.notSynchronized
  have iX3 : ∀ w ∈ wsX30, w ∈ wsX7_allOrders := by decide +kernel
  have iX7 : ∀ w ∈ wsX70, w ∈ wsX7_allOrders := by decide +kernel
  have hP : va_P (dC, dI) vwCl [(x, .inr (5, [.ref rk, .ref bs, .ref od, .ref jb, .ref ap, .int 0, .int 1, .int 0, .int 0, .int 0])), (rk, .inr (4, [.ref hd, .ref jm])), (hd, .inl (cI, 96, .inl (fun _ => 0))), (jm, .inl (cZ, 4, .inl (fun _ => 0))), (bs, .inl (cB, 2, .inr (.inr (.inr (.inr (va_up (va_up (fun _ => none) 0 (some b0)) 1 (some b1))))))), (b0, .inr (0, [.int 2, .int 0, .int 0, .int 0, .int 0, .int (-1)])), (b1, .inr (0, [.int 2, .int 0, .int 0, .int 0, .int 0, .int (-1)])), (od, .inr (2, [.ref o1, .ref o2, .ref o3, .int 0])), (jb, .inr (1, [.ref pl, .int (-1), .int 0, .int 0, .int 0]))] s.heap := hP
  have hK : va_K (dC, dI) vwCl [(cI, .int), (cZ, .boolean), (cB, .object "ParkTower$Bay")] s := hK
  have hl := lv_entry ([.ref x]) (n := 3) (Nat.le_of_ble_eq_true rfl)
  rw [lg_entry_eq]
  generalize (lg_sl ([.ref x]) ++ List.replicate (3 - (lg_sl ([.ref x])).length) Slot.unset).toArray = ls at hl ⊢
  have hl : lv_has ls 3 [(0, .ref x)] := hl
  refine lv_aload_n hx hb dX7_allOrders_0 rfl (lv_at hl 0 rfl) ?_
  refine va_get (D := (dC, dI)) (ci := 5) (v := .ref od) (C := RX7) (T := TX7) (N := 10) hx hb hts iX7 hown hK hP 0 rfl rfl 2 (by decide) (hts (.fieldLink RX7 26 "ParkTower" "orders" "LParkTower$Orders;") (by decide +kernel)) (fun _ h9 => h9) rfl dX7_allOrders_1 ?_
  refine va_getN (D := (dC, dI)) (ci := 2) (v := .int 0) (C := RX3) (T := TX3) (N := 4) hx hb hts iX3 hown hK hP 7 rfl rfl 3 (by decide) (va_Nw.use rfl (hN.1 (.fieldLinkNest RX7 162 "ParkTower$Orders" "count" "I" "ParkTower") (by decide +kernel))) (fun _ h9 => h9) rfl dX7_allOrders_4 ?_
  refine lv_istore_n (lv' := [(1, .int 0), (0, .ref x)]) hx hb dX7_allOrders_7 rfl hl (by decide) rfl (fun ls hl => ?_)
  refine lv_iconst (v := 0) hx hb dX7_allOrders_8 (by decide) ?_
  refine lv_istore_n (lv' := [(2, .int 0), (1, .int 0), (0, .ref x)]) hx hb dX7_allOrders_9 rfl hl (by decide) rfl (fun ls hl => ?_)
  refine lv_iload_n hx hb dX7_allOrders_10 rfl (lv_at hl 0 rfl) ?_
  refine lv_iconst (v := 2) hx hb dX7_allOrders_11 (by decide) ?_
  refine lv_icmp_ge (tgt := 36) hx hb dX7_allOrders_12 (by decide) (fun c => absurd c (by decide)) (fun _ => ?_)
  refine lv_aload_n hx hb dX7_allOrders_15 rfl (lv_at hl 2 rfl) ?_
  refine va_get (D := (dC, dI)) (ci := 5) (v := .ref bs) (C := RX7) (T := TX7) (N := 10) hx hb hts iX7 hown hK hP 0 rfl rfl 1 (by decide) (hts (.fieldLink RX7 18 "ParkTower" "bays" "[LParkTower$Bay;") (by decide +kernel)) (fun _ h9 => h9) rfl dX7_allOrders_16 ?_
  refine lv_iload_n hx hb dX7_allOrders_19 rfl (lv_at hl 0 rfl) ?_
  refine va_aldq hx hb hK hP 4 2 rfl rfl (vp_in_iff.mpr (by decide)) dX7_allOrders_20 ?_
  refine W.eq (g2 := F0 m 21 ls [.ref b0]) rfl ?_
  refine pt_cSi (va_runV (As := []) (rest := []) ⟨hx, hb, hml, hown, hts⟩ (c_holds l dC dI b0) (cwV 0 hts gX7_allOrders_X1_holdsCarWithoutOrder rfl rfl rfl (by decide +kernel) ⟨Nat.le_of_ble_eq_true rfl, Nat.le_of_ble_eq_true rfl⟩) ⟨pt_blind, va_recv hK hP (ci := 0) (q0 := 5) rfl rfl, pt_pre (w := [(b0, .inr (0, [.int 2, .int 0, .int 0, .int 0, .int 0, .int (-1)]))]) (tys := []) (hP.sub [5] rfl) (hK.sub [] rfl) hN⟩ rfl rfl hl.1 rfl (lv_room (Nat.le_of_ble_eq_true rfl)) dX7_allOrders_21 ⟨Nat.le_of_ble_eq_true rfl, Nat.le_of_ble_eq_true rfl⟩) (fun r_1 hr_1 => ?_)
  obtain rfl : r_1 = 0 := hr_1
  refine lv_if_eq (tgt := 30) hx hb dX7_allOrders_24 (by decide) (fun _ => ?_) (fun c => absurd (by decide) c)
  refine lv_iinc (v := 1) (lv' := [(2, .int 1), (1, .int 0), (0, .ref x)]) hx hb dX7_allOrders_30 hl (k := 0) rfl (by decide) (by decide) rfl (fun ls hl => ?_)
  refine lv_goto (tgt := 10) hx hb dX7_allOrders_33 (by decide) ?_
  refine lv_iload_n hx hb dX7_allOrders_10 rfl (lv_at hl 0 rfl) ?_
  refine lv_iconst (v := 2) hx hb dX7_allOrders_11 (by decide) ?_
  refine lv_icmp_ge (tgt := 36) hx hb dX7_allOrders_12 (by decide) (fun c => absurd c (by decide)) (fun _ => ?_)
  refine lv_aload_n hx hb dX7_allOrders_15 rfl (lv_at hl 2 rfl) ?_
  refine va_get (D := (dC, dI)) (ci := 5) (v := .ref bs) (C := RX7) (T := TX7) (N := 10) hx hb hts iX7 hown hK hP 0 rfl rfl 1 (by decide) (hts (.fieldLink RX7 18 "ParkTower" "bays" "[LParkTower$Bay;") (by decide +kernel)) (fun _ h9 => h9) rfl dX7_allOrders_16 ?_
  refine lv_iload_n hx hb dX7_allOrders_19 rfl (lv_at hl 0 rfl) ?_
  refine va_aldq hx hb hK hP 4 2 rfl rfl (vp_in_iff.mpr (by decide)) dX7_allOrders_20 ?_
  refine W.eq (g2 := F0 m 21 ls [.ref b1]) rfl ?_
  refine pt_cSi (va_runV (As := []) (rest := []) ⟨hx, hb, hml, hown, hts⟩ (c_holds l dC dI b1) (cwV 0 hts gX7_allOrders_X1_holdsCarWithoutOrder rfl rfl rfl (by decide +kernel) ⟨Nat.le_of_ble_eq_true rfl, Nat.le_of_ble_eq_true rfl⟩) ⟨pt_blind, va_recv hK hP (ci := 0) (q0 := 6) rfl rfl, pt_pre (w := [(b1, .inr (0, [.int 2, .int 0, .int 0, .int 0, .int 0, .int (-1)]))]) (tys := []) (hP.sub [6] rfl) (hK.sub [] rfl) hN⟩ rfl rfl hl.1 rfl (lv_room (Nat.le_of_ble_eq_true rfl)) dX7_allOrders_21 ⟨Nat.le_of_ble_eq_true rfl, Nat.le_of_ble_eq_true rfl⟩) (fun r_2 hr_2 => ?_)
  obtain rfl : r_2 = 0 := hr_2
  refine lv_if_eq (tgt := 30) hx hb dX7_allOrders_24 (by decide) (fun _ => ?_) (fun c => absurd (by decide) c)
  refine lv_iinc (v := 2) (lv' := [(2, .int 2), (1, .int 0), (0, .ref x)]) hx hb dX7_allOrders_30 hl (k := 0) rfl (by decide) (by decide) rfl (fun ls hl => ?_)
  refine lv_goto (tgt := 10) hx hb dX7_allOrders_33 (by decide) ?_
  refine lv_iload_n hx hb dX7_allOrders_10 rfl (lv_at hl 0 rfl) ?_
  refine lv_iconst (v := 2) hx hb dX7_allOrders_11 (by decide) ?_
  refine lv_icmp_ge (tgt := 36) hx hb dX7_allOrders_12 (by decide) (fun _ => ?_) (fun c => absurd (by decide) c)
  refine lv_iload_n hx hb dX7_allOrders_36 rfl (lv_at hl 1 rfl) ?_
  exact W.iret (v := 0) hx hb hr (fun t ht hW => ⟨0, rfl, rfl, ht⟩) (fun q h => by cases h) dX7_allOrders_37
set_option maxHeartbeats 4000000 in
set_option maxRecDepth 100000 in
theorem c_workDoor0 (l : Launch) (dC : Nat → ClassId) (dI : Nat → Nat → Nat) (x rk hd jm bs b0 b1 od o1 o2 o3 jb pl ap : Nat) (cI cZ cB : ClassId) (t : Int32) : Met l yX7_workDoor wsX7_workDoor ({ frames := 1, cells := 0, slots := 0, locals := 23 }) (va_Pc [.ref x, .int 0] (pt_B (dC, dI) [(x, .inr (5, [.ref rk, .ref bs, .ref od, .ref jb, .ref ap, .int 0, .int 1, .int 0, .int t, .int 0])), (rk, .inr (4, [.ref hd, .ref jm])), (hd, .inl (cI, 96, .inl (fun _ => 0))), (jm, .inl (cZ, 4, .inl (fun _ => 0))), (bs, .inl (cB, 2, .inr (.inr (.inr (.inr (va_up (va_up (fun _ => none) 0 (some b0)) 1 (some b1))))))), (b0, .inr (0, [.int 2, .int 0, .int 0, .int 0, .int 0, .int (-1)])), (b1, .inr (0, [.int 2, .int 0, .int 0, .int 0, .int 0, .int (-1)])), (od, .inr (2, [.ref o1, .ref o2, .ref o3, .int 0])), (jb, .inr (1, [.ref pl, .int (-1), .int 0, .int 0, .int 0]))] [(cI, .int), (cZ, .boolean), (cB, .object "ParkTower$Bay")])) (va_Sv (fun _ => True)) 0 0 (fun _ => False) := by
  refine Met.ofW (cc := cX7_workDoor) (maxL := 4) (ret := none) (by decide) rfl ?_
  intro p e s m args below meth c s₁ B hml hv
  obtain ⟨rfl, hP, hK, hN⟩ := hv
  have hx := B.exec
  have hb := B.bytes
  have hr := B.returns
  have hts := atoms_spec (ws := wsX7_workDoor) B.pre
  have hown : s.vm.findClass RX7 = some m.cls := findClass_of_methodNamed B.named
  have hlocks := B.notSynchronized
  have iX2 : ∀ w ∈ wsX20, w ∈ wsX7_workDoor := by decide +kernel
  have iX7 : ∀ w ∈ wsX70, w ∈ wsX7_workDoor := by decide +kernel
  have hP : va_P (dC, dI) vwCl [(x, .inr (5, [.ref rk, .ref bs, .ref od, .ref jb, .ref ap, .int 0, .int 1, .int 0, .int t, .int 0])), (rk, .inr (4, [.ref hd, .ref jm])), (hd, .inl (cI, 96, .inl (fun _ => 0))), (jm, .inl (cZ, 4, .inl (fun _ => 0))), (bs, .inl (cB, 2, .inr (.inr (.inr (.inr (va_up (va_up (fun _ => none) 0 (some b0)) 1 (some b1))))))), (b0, .inr (0, [.int 2, .int 0, .int 0, .int 0, .int 0, .int (-1)])), (b1, .inr (0, [.int 2, .int 0, .int 0, .int 0, .int 0, .int (-1)])), (od, .inr (2, [.ref o1, .ref o2, .ref o3, .int 0])), (jb, .inr (1, [.ref pl, .int (-1), .int 0, .int 0, .int 0]))] s.heap := hP
  have hK : va_K (dC, dI) vwCl [(cI, .int), (cZ, .boolean), (cB, .object "ParkTower$Bay")] s := hK
  have hl := lv_entry ([.ref x, .int 0]) (n := 4) (Nat.le_of_ble_eq_true rfl)
  rw [lg_entry_eq]
  generalize (lg_sl ([.ref x, .int 0]) ++ List.replicate (4 - (lg_sl ([.ref x, .int 0])).length) Slot.unset).toArray = ls at hl ⊢
  have hl : lv_has ls 4 [(0, .ref x), (1, .int 0)] := hl
  refine lv_aload_n hx hb dX7_workDoor_0 rfl (lv_at hl 0 rfl) ?_
  refine va_get (D := (dC, dI)) (ci := 5) (v := .ref bs) (C := RX7) (T := TX7) (N := 10) hx hb hts iX7 hown hK hP 0 rfl rfl 1 (by decide) (hts (.fieldLink RX7 18 "ParkTower" "bays" "[LParkTower$Bay;") (by decide +kernel)) (fun _ h9 => h9) rfl dX7_workDoor_1 ?_
  refine lv_iload_n hx hb dX7_workDoor_4 rfl (lv_at hl 1 rfl) ?_
  refine va_aldq hx hb hK hP 4 2 rfl rfl (vp_in_iff.mpr (by decide)) dX7_workDoor_5 ?_
  refine W.eq (g2 := F0 m 6 ls [.ref b0]) rfl ?_
  refine lv_astore_n (lv' := [(2, .ref b0), (0, .ref x), (1, .int 0)]) hx hb dX7_workDoor_6 rfl hl (by decide) rfl (fun ls hl => ?_)
  refine lv_aload_n hx hb dX7_workDoor_7 rfl (lv_at hl 0 rfl) ?_
  refine pt_cSi (va_runV (As := []) (rest := []) ⟨hx, hb, hml, hown, hts⟩ (c_holds l dC dI b0) (cwV 0 hts gX7_workDoor_X1_holdsCarWithoutOrder rfl rfl rfl (by decide +kernel) ⟨Nat.le_of_ble_eq_true rfl, Nat.le_of_ble_eq_true rfl⟩) ⟨pt_blind, va_recv hK hP (ci := 0) (q0 := 5) rfl rfl, pt_pre (w := [(b0, .inr (0, [.int 2, .int 0, .int 0, .int 0, .int 0, .int (-1)]))]) (tys := []) (hP.sub [5] rfl) (hK.sub [] rfl) hN⟩ rfl rfl hl.1 rfl (lv_room (Nat.le_of_ble_eq_true rfl)) dX7_workDoor_8 ⟨Nat.le_of_ble_eq_true rfl, Nat.le_of_ble_eq_true rfl⟩) (fun r_1 hr_1 => ?_)
  obtain rfl : r_1 = 0 := hr_1
  refine lv_istore_n (lv' := [(3, .int 0), (2, .ref b0), (0, .ref x), (1, .int 0)]) hx hb dX7_workDoor_11 rfl hl (by decide) rfl (fun ls hl => ?_)
  refine lv_aload_n hx hb dX7_workDoor_12 rfl (lv_at hl 1 rfl) ?_
  refine pt_cSv (va_runV (As := []) (rest := []) ⟨hx, hb, hml, hown, hts⟩ (c_moveDoor l dC dI b0) (cwV 0 hts gX7_workDoor_X1_moveDoor rfl rfl rfl (by decide +kernel) ⟨Nat.le_of_ble_eq_true rfl, Nat.le_of_ble_eq_true rfl⟩) ⟨pt_blind, va_recv hK hP (ci := 0) (q0 := 5) rfl rfl, pt_pre (w := [(b0, .inr (0, [.int 2, .int 0, .int 0, .int 0, .int 0, .int (-1)]))]) (tys := []) (hP.sub [5] rfl) (hK.sub [] rfl) hN⟩ rfl rfl hl.1 rfl (lv_room (Nat.le_of_ble_eq_true rfl)) dX7_workDoor_13 ⟨Nat.le_of_ble_eq_true rfl, Nat.le_of_ble_eq_true rfl⟩) ?_
  refine lv_iload_n hx hb dX7_workDoor_16 rfl (lv_at hl 0 rfl) ?_
  refine lv_if_eq (tgt := 43) hx hb dX7_workDoor_17 (by decide) (fun _ => ?_) (fun c => absurd (by decide) c)
  refine lv_aload_n hx hb dX7_workDoor_43 rfl (lv_at hl 1 rfl) ?_
  refine pt_cSi (va_runV (As := []) (rest := []) ⟨hx, hb, hml, hown, hts⟩ (c_openClear l dC dI b0) (cwV 0 hts gX7_workDoor_X1_isOpenAndClear rfl rfl rfl (by decide +kernel) ⟨Nat.le_of_ble_eq_true rfl, Nat.le_of_ble_eq_true rfl⟩) ⟨pt_blind, va_recv hK hP (ci := 0) (q0 := 5) rfl rfl, pt_pre (w := [(b0, .inr (0, [.int 2, .int 0, .int 0, .int 0, .int 0, .int (-1)]))]) (tys := []) (hP.sub [5] rfl) (hK.sub [] rfl) hN⟩ rfl rfl hl.1 rfl (lv_room (Nat.le_of_ble_eq_true rfl)) dX7_workDoor_44 ⟨Nat.le_of_ble_eq_true rfl, Nat.le_of_ble_eq_true rfl⟩) (fun r_2 hr_2 => ?_)
  obtain rfl : r_2 = 1 := hr_2
  refine lv_if_eq (tgt := 72) hx hb dX7_workDoor_47 (by decide) (fun c => absurd c (by decide)) (fun _ => ?_)
  refine lv_aload_n hx hb dX7_workDoor_50 rfl (lv_at hl 2 rfl) ?_
  refine va_get (D := (dC, dI)) (ci := 5) (v := .ref od) (C := RX7) (T := TX7) (N := 10) hx hb hts iX7 hown hK hP 0 rfl rfl 2 (by decide) (hts (.fieldLink RX7 26 "ParkTower" "orders" "LParkTower$Orders;") (by decide +kernel)) (fun _ h9 => h9) rfl dX7_workDoor_51 ?_
  refine lv_iload_n hx hb dX7_workDoor_54 rfl (lv_at hl 3 rfl) ?_
  refine lv_aload_n hx hb dX7_workDoor_55 rfl (lv_at hl 2 rfl) ?_
  refine va_get (D := (dC, dI)) (ci := 5) (v := .ref jb) (C := RX7) (T := TX7) (N := 10) hx hb hts iX7 hown hK hP 0 rfl rfl 3 (by decide) (hts (.fieldLink RX7 33 "ParkTower" "job" "LParkTower$Job;") (by decide +kernel)) (fun _ h9 => h9) rfl dX7_workDoor_56 ?_
  refine va_getN (D := (dC, dI)) (ci := 1) (v := .int (-1)) (C := RX2) (T := TX2) (N := 5) hx hb hts iX2 hown hK hP 8 rfl rfl 1 (by decide) (va_Nw.use rfl (hN.1 (.fieldLinkNest RX7 170 "ParkTower$Job" "order" "I" "ParkTower") (by decide +kernel))) (fun _ h9 => h9) rfl dX7_workDoor_59 ?_
  refine pt_cSi (va_runV (As := [.int 0, .int (-1)]) (rest := []) ⟨hx, hb, hml, hown, hts⟩ (c_firstWaiting l dC dI od o1 o2 o3 0 (-1)) (cwV 2 hts gX7_workDoor_X3_firstWaitingIsFetch rfl rfl rfl (by decide +kernel) ⟨Nat.le_of_ble_eq_true rfl, Nat.le_of_ble_eq_true rfl⟩) ⟨pt_blind, va_recv hK hP (ci := 2) (q0 := 7) rfl rfl, pt_pre (w := [(od, .inr (2, [.ref o1, .ref o2, .ref o3, .int 0]))]) (tys := []) (hP.sub [7] rfl) (hK.sub [] rfl) hN⟩ rfl rfl hl.1 rfl (lv_room (Nat.le_of_ble_eq_true rfl)) dX7_workDoor_62 ⟨Nat.le_of_ble_eq_true rfl, Nat.le_of_ble_eq_true rfl⟩) (fun r_3 hr_3 => ?_)
  obtain rfl : r_3 = 0 := hr_3
  refine lv_if_eq (tgt := 72) hx hb dX7_workDoor_65 (by decide) (fun _ => ?_) (fun c => absurd (by decide) c)
  exact W.vret hx hb hr (fun t ht hW => ⟨rfl, trivial, ht⟩) (fun q h => by cases h) dX7_workDoor_72
set_option maxHeartbeats 4000000 in
set_option maxRecDepth 100000 in
theorem c_workDoor1 (l : Launch) (dC : Nat → ClassId) (dI : Nat → Nat → Nat) (x rk hd jm bs b0 b1 od o1 o2 o3 jb pl ap : Nat) (cI cZ cB : ClassId) (t : Int32) : Met l yX7_workDoor wsX7_workDoor ({ frames := 1, cells := 0, slots := 0, locals := 23 }) (va_Pc [.ref x, .int 1] (pt_B (dC, dI) [(x, .inr (5, [.ref rk, .ref bs, .ref od, .ref jb, .ref ap, .int 0, .int 1, .int 0, .int t, .int 0])), (rk, .inr (4, [.ref hd, .ref jm])), (hd, .inl (cI, 96, .inl (fun _ => 0))), (jm, .inl (cZ, 4, .inl (fun _ => 0))), (bs, .inl (cB, 2, .inr (.inr (.inr (.inr (va_up (va_up (fun _ => none) 0 (some b0)) 1 (some b1))))))), (b0, .inr (0, [.int 2, .int 0, .int 0, .int 0, .int 0, .int (-1)])), (b1, .inr (0, [.int 2, .int 0, .int 0, .int 0, .int 0, .int (-1)])), (od, .inr (2, [.ref o1, .ref o2, .ref o3, .int 0])), (jb, .inr (1, [.ref pl, .int (-1), .int 0, .int 0, .int 0]))] [(cI, .int), (cZ, .boolean), (cB, .object "ParkTower$Bay")])) (va_Sv (fun _ => True)) 0 0 (fun _ => False) := by
  refine Met.ofW (cc := cX7_workDoor) (maxL := 4) (ret := none) (by decide) rfl ?_
  intro p e s m args below meth c s₁ B hml hv
  obtain ⟨rfl, hP, hK, hN⟩ := hv
  have hx := B.exec
  have hb := B.bytes
  have hr := B.returns
  have hts := atoms_spec (ws := wsX7_workDoor) B.pre
  have hown : s.vm.findClass RX7 = some m.cls := findClass_of_methodNamed B.named
  have hlocks := B.notSynchronized
  have iX2 : ∀ w ∈ wsX20, w ∈ wsX7_workDoor := by decide +kernel
  have iX7 : ∀ w ∈ wsX70, w ∈ wsX7_workDoor := by decide +kernel
  have hP : va_P (dC, dI) vwCl [(x, .inr (5, [.ref rk, .ref bs, .ref od, .ref jb, .ref ap, .int 0, .int 1, .int 0, .int t, .int 0])), (rk, .inr (4, [.ref hd, .ref jm])), (hd, .inl (cI, 96, .inl (fun _ => 0))), (jm, .inl (cZ, 4, .inl (fun _ => 0))), (bs, .inl (cB, 2, .inr (.inr (.inr (.inr (va_up (va_up (fun _ => none) 0 (some b0)) 1 (some b1))))))), (b0, .inr (0, [.int 2, .int 0, .int 0, .int 0, .int 0, .int (-1)])), (b1, .inr (0, [.int 2, .int 0, .int 0, .int 0, .int 0, .int (-1)])), (od, .inr (2, [.ref o1, .ref o2, .ref o3, .int 0])), (jb, .inr (1, [.ref pl, .int (-1), .int 0, .int 0, .int 0]))] s.heap := hP
  have hK : va_K (dC, dI) vwCl [(cI, .int), (cZ, .boolean), (cB, .object "ParkTower$Bay")] s := hK
  have hl := lv_entry ([.ref x, .int 1]) (n := 4) (Nat.le_of_ble_eq_true rfl)
  rw [lg_entry_eq]
  generalize (lg_sl ([.ref x, .int 1]) ++ List.replicate (4 - (lg_sl ([.ref x, .int 1])).length) Slot.unset).toArray = ls at hl ⊢
  have hl : lv_has ls 4 [(0, .ref x), (1, .int 1)] := hl
  refine lv_aload_n hx hb dX7_workDoor_0 rfl (lv_at hl 0 rfl) ?_
  refine va_get (D := (dC, dI)) (ci := 5) (v := .ref bs) (C := RX7) (T := TX7) (N := 10) hx hb hts iX7 hown hK hP 0 rfl rfl 1 (by decide) (hts (.fieldLink RX7 18 "ParkTower" "bays" "[LParkTower$Bay;") (by decide +kernel)) (fun _ h9 => h9) rfl dX7_workDoor_1 ?_
  refine lv_iload_n hx hb dX7_workDoor_4 rfl (lv_at hl 1 rfl) ?_
  refine va_aldq hx hb hK hP 4 2 rfl rfl (vp_in_iff.mpr (by decide)) dX7_workDoor_5 ?_
  refine W.eq (g2 := F0 m 6 ls [.ref b1]) rfl ?_
  refine lv_astore_n (lv' := [(2, .ref b1), (0, .ref x), (1, .int 1)]) hx hb dX7_workDoor_6 rfl hl (by decide) rfl (fun ls hl => ?_)
  refine lv_aload_n hx hb dX7_workDoor_7 rfl (lv_at hl 0 rfl) ?_
  refine pt_cSi (va_runV (As := []) (rest := []) ⟨hx, hb, hml, hown, hts⟩ (c_holds l dC dI b1) (cwV 0 hts gX7_workDoor_X1_holdsCarWithoutOrder rfl rfl rfl (by decide +kernel) ⟨Nat.le_of_ble_eq_true rfl, Nat.le_of_ble_eq_true rfl⟩) ⟨pt_blind, va_recv hK hP (ci := 0) (q0 := 6) rfl rfl, pt_pre (w := [(b1, .inr (0, [.int 2, .int 0, .int 0, .int 0, .int 0, .int (-1)]))]) (tys := []) (hP.sub [6] rfl) (hK.sub [] rfl) hN⟩ rfl rfl hl.1 rfl (lv_room (Nat.le_of_ble_eq_true rfl)) dX7_workDoor_8 ⟨Nat.le_of_ble_eq_true rfl, Nat.le_of_ble_eq_true rfl⟩) (fun r_1 hr_1 => ?_)
  obtain rfl : r_1 = 0 := hr_1
  refine lv_istore_n (lv' := [(3, .int 0), (2, .ref b1), (0, .ref x), (1, .int 1)]) hx hb dX7_workDoor_11 rfl hl (by decide) rfl (fun ls hl => ?_)
  refine lv_aload_n hx hb dX7_workDoor_12 rfl (lv_at hl 1 rfl) ?_
  refine pt_cSv (va_runV (As := []) (rest := []) ⟨hx, hb, hml, hown, hts⟩ (c_moveDoor l dC dI b1) (cwV 0 hts gX7_workDoor_X1_moveDoor rfl rfl rfl (by decide +kernel) ⟨Nat.le_of_ble_eq_true rfl, Nat.le_of_ble_eq_true rfl⟩) ⟨pt_blind, va_recv hK hP (ci := 0) (q0 := 6) rfl rfl, pt_pre (w := [(b1, .inr (0, [.int 2, .int 0, .int 0, .int 0, .int 0, .int (-1)]))]) (tys := []) (hP.sub [6] rfl) (hK.sub [] rfl) hN⟩ rfl rfl hl.1 rfl (lv_room (Nat.le_of_ble_eq_true rfl)) dX7_workDoor_13 ⟨Nat.le_of_ble_eq_true rfl, Nat.le_of_ble_eq_true rfl⟩) ?_
  refine lv_iload_n hx hb dX7_workDoor_16 rfl (lv_at hl 0 rfl) ?_
  refine lv_if_eq (tgt := 43) hx hb dX7_workDoor_17 (by decide) (fun _ => ?_) (fun c => absurd (by decide) c)
  refine lv_aload_n hx hb dX7_workDoor_43 rfl (lv_at hl 1 rfl) ?_
  refine pt_cSi (va_runV (As := []) (rest := []) ⟨hx, hb, hml, hown, hts⟩ (c_openClear l dC dI b1) (cwV 0 hts gX7_workDoor_X1_isOpenAndClear rfl rfl rfl (by decide +kernel) ⟨Nat.le_of_ble_eq_true rfl, Nat.le_of_ble_eq_true rfl⟩) ⟨pt_blind, va_recv hK hP (ci := 0) (q0 := 6) rfl rfl, pt_pre (w := [(b1, .inr (0, [.int 2, .int 0, .int 0, .int 0, .int 0, .int (-1)]))]) (tys := []) (hP.sub [6] rfl) (hK.sub [] rfl) hN⟩ rfl rfl hl.1 rfl (lv_room (Nat.le_of_ble_eq_true rfl)) dX7_workDoor_44 ⟨Nat.le_of_ble_eq_true rfl, Nat.le_of_ble_eq_true rfl⟩) (fun r_2 hr_2 => ?_)
  obtain rfl : r_2 = 1 := hr_2
  refine lv_if_eq (tgt := 72) hx hb dX7_workDoor_47 (by decide) (fun c => absurd c (by decide)) (fun _ => ?_)
  refine lv_aload_n hx hb dX7_workDoor_50 rfl (lv_at hl 2 rfl) ?_
  refine va_get (D := (dC, dI)) (ci := 5) (v := .ref od) (C := RX7) (T := TX7) (N := 10) hx hb hts iX7 hown hK hP 0 rfl rfl 2 (by decide) (hts (.fieldLink RX7 26 "ParkTower" "orders" "LParkTower$Orders;") (by decide +kernel)) (fun _ h9 => h9) rfl dX7_workDoor_51 ?_
  refine lv_iload_n hx hb dX7_workDoor_54 rfl (lv_at hl 3 rfl) ?_
  refine lv_aload_n hx hb dX7_workDoor_55 rfl (lv_at hl 2 rfl) ?_
  refine va_get (D := (dC, dI)) (ci := 5) (v := .ref jb) (C := RX7) (T := TX7) (N := 10) hx hb hts iX7 hown hK hP 0 rfl rfl 3 (by decide) (hts (.fieldLink RX7 33 "ParkTower" "job" "LParkTower$Job;") (by decide +kernel)) (fun _ h9 => h9) rfl dX7_workDoor_56 ?_
  refine va_getN (D := (dC, dI)) (ci := 1) (v := .int (-1)) (C := RX2) (T := TX2) (N := 5) hx hb hts iX2 hown hK hP 8 rfl rfl 1 (by decide) (va_Nw.use rfl (hN.1 (.fieldLinkNest RX7 170 "ParkTower$Job" "order" "I" "ParkTower") (by decide +kernel))) (fun _ h9 => h9) rfl dX7_workDoor_59 ?_
  refine pt_cSi (va_runV (As := [.int 1, .int (-1)]) (rest := []) ⟨hx, hb, hml, hown, hts⟩ (c_firstWaiting l dC dI od o1 o2 o3 1 (-1)) (cwV 2 hts gX7_workDoor_X3_firstWaitingIsFetch rfl rfl rfl (by decide +kernel) ⟨Nat.le_of_ble_eq_true rfl, Nat.le_of_ble_eq_true rfl⟩) ⟨pt_blind, va_recv hK hP (ci := 2) (q0 := 7) rfl rfl, pt_pre (w := [(od, .inr (2, [.ref o1, .ref o2, .ref o3, .int 0]))]) (tys := []) (hP.sub [7] rfl) (hK.sub [] rfl) hN⟩ rfl rfl hl.1 rfl (lv_room (Nat.le_of_ble_eq_true rfl)) dX7_workDoor_62 ⟨Nat.le_of_ble_eq_true rfl, Nat.le_of_ble_eq_true rfl⟩) (fun r_3 hr_3 => ?_)
  obtain rfl : r_3 = 0 := hr_3
  refine lv_if_eq (tgt := 72) hx hb dX7_workDoor_65 (by decide) (fun _ => ?_) (fun c => absurd (by decide) c)
  exact W.vret hx hb hr (fun t ht hW => ⟨rfl, trivial, ht⟩) (fun q h => by cases h) dX7_workDoor_72
set_option maxHeartbeats 4000000 in
set_option maxRecDepth 100000 in
theorem c_beginFirst (l : Launch) (dC : Nat → ClassId) (dI : Nat → Nat → Nat) (x rk hd jm bs b0 b1 od o1 o2 o3 jb pl ap : Nat) (cI cZ cB : ClassId) (t : Int32) : Met l yX7_beginFirstThatCan wsX7_beginFirstThatCan ({ frames := 0, cells := 0, slots := 0, locals := 0 }) (va_Pc [.ref x] (pt_B (dC, dI) [(x, .inr (5, [.ref rk, .ref bs, .ref od, .ref jb, .ref ap, .int 0, .int 1, .int 0, .int t, .int 0])), (rk, .inr (4, [.ref hd, .ref jm])), (hd, .inl (cI, 96, .inl (fun _ => 0))), (jm, .inl (cZ, 4, .inl (fun _ => 0))), (bs, .inl (cB, 2, .inr (.inr (.inr (.inr (va_up (va_up (fun _ => none) 0 (some b0)) 1 (some b1))))))), (b0, .inr (0, [.int 2, .int 0, .int 0, .int 0, .int 0, .int (-1)])), (b1, .inr (0, [.int 2, .int 0, .int 0, .int 0, .int 0, .int (-1)])), (od, .inr (2, [.ref o1, .ref o2, .ref o3, .int 0])), (jb, .inr (1, [.ref pl, .int (-1), .int 0, .int 0, .int 0]))] [(cI, .int), (cZ, .boolean), (cB, .object "ParkTower$Bay")])) (va_Sv (fun _ => True)) 0 0 (fun _ => False) := by
  refine Met.ofW (cc := cX7_beginFirstThatCan) (maxL := 3) (ret := none) (by decide) rfl ?_
  intro p e s m args below meth c s₁ B hml hv
  obtain ⟨rfl, hP, hK, hN⟩ := hv
  have hx := B.exec
  have hb := B.bytes
  have hr := B.returns
  have hts := atoms_spec (ws := wsX7_beginFirstThatCan) B.pre
  have hown : s.vm.findClass RX7 = some m.cls := findClass_of_methodNamed B.named
  have hlocks := B.notSynchronized
  have iX3 : ∀ w ∈ wsX30, w ∈ wsX7_beginFirstThatCan := by decide +kernel
  have iX7 : ∀ w ∈ wsX70, w ∈ wsX7_beginFirstThatCan := by decide +kernel
  have hP : va_P (dC, dI) vwCl [(x, .inr (5, [.ref rk, .ref bs, .ref od, .ref jb, .ref ap, .int 0, .int 1, .int 0, .int t, .int 0])), (rk, .inr (4, [.ref hd, .ref jm])), (hd, .inl (cI, 96, .inl (fun _ => 0))), (jm, .inl (cZ, 4, .inl (fun _ => 0))), (bs, .inl (cB, 2, .inr (.inr (.inr (.inr (va_up (va_up (fun _ => none) 0 (some b0)) 1 (some b1))))))), (b0, .inr (0, [.int 2, .int 0, .int 0, .int 0, .int 0, .int (-1)])), (b1, .inr (0, [.int 2, .int 0, .int 0, .int 0, .int 0, .int (-1)])), (od, .inr (2, [.ref o1, .ref o2, .ref o3, .int 0])), (jb, .inr (1, [.ref pl, .int (-1), .int 0, .int 0, .int 0]))] s.heap := hP
  have hK : va_K (dC, dI) vwCl [(cI, .int), (cZ, .boolean), (cB, .object "ParkTower$Bay")] s := hK
  have hl := lv_entry ([.ref x]) (n := 3) (Nat.le_of_ble_eq_true rfl)
  rw [lg_entry_eq]
  generalize (lg_sl ([.ref x]) ++ List.replicate (3 - (lg_sl ([.ref x])).length) Slot.unset).toArray = ls at hl ⊢
  have hl : lv_has ls 3 [(0, .ref x)] := hl
  refine lv_iconst (v := 0) hx hb dX7_beginFirstThatCan_0 (by decide) ?_
  refine lv_istore_n (lv' := [(1, .int 0), (0, .ref x)]) hx hb dX7_beginFirstThatCan_1 rfl hl (by decide) rfl (fun ls hl => ?_)
  refine lv_iload_n hx hb dX7_beginFirstThatCan_2 rfl (lv_at hl 0 rfl) ?_
  refine lv_aload_n hx hb dX7_beginFirstThatCan_3 rfl (lv_at hl 1 rfl) ?_
  refine va_get (D := (dC, dI)) (ci := 5) (v := .ref od) (C := RX7) (T := TX7) (N := 10) hx hb hts iX7 hown hK hP 0 rfl rfl 2 (by decide) (hts (.fieldLink RX7 26 "ParkTower" "orders" "LParkTower$Orders;") (by decide +kernel)) (fun _ h9 => h9) rfl dX7_beginFirstThatCan_4 ?_
  refine va_getN (D := (dC, dI)) (ci := 2) (v := .int 0) (C := RX3) (T := TX3) (N := 4) hx hb hts iX3 hown hK hP 7 rfl rfl 3 (by decide) (va_Nw.use rfl (hN.1 (.fieldLinkNest RX7 162 "ParkTower$Orders" "count" "I" "ParkTower") (by decide +kernel))) (fun _ h9 => h9) rfl dX7_beginFirstThatCan_7 ?_
  refine lv_icmp_ge (tgt := 60) hx hb dX7_beginFirstThatCan_10 (by decide) (fun _ => ?_) (fun c => absurd (by decide) c)
  exact W.vret hx hb hr (fun t ht hW => ⟨rfl, trivial, ht⟩) (fun q h => by cases h) dX7_beginFirstThatCan_60
